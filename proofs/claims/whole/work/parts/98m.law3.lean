/-! one case a call: the rest -/
set_option maxHeartbeats 4000000 in
set_option maxRecDepth 100000 in
theorem cs_type {p : Program} {e : Env} {s : State} {m : MethodId} {below : List Frame} {meth : Method} {c : Code} {b L : Nat} {xs : Nat → Int32} {Q : State → Prop} {g : va_G} {ct : Nat → ClassId} {H : Heap} {locs : List Loc} {cells slots i T : Nat} {ls : Array Slot} {C : CT} {M : MT} (l : Launch) (h : LX p s m c b L xs g ct) (hcl : Cond.constantLong RL 13 (4294967295) ∈ wsL_law) (hi : i + 6 ≤ L) (hT : T < 1000000000) (hR : Rel T C M) (hcs : cells + 21 ≤ 600000 ∧ slots + 158 ≤ 7302250) (hP : va_P g vwCl (CW ct C ++ MWd ct M) H) (hD : va_D (AL s) (CW ct C ++ MWd ct M)) (hS : va_S (AL s) s.heap H locs) (hl : lv_has ls 8 [(3, .int (nI i)), (2, .ref (j_ma M 0)), (1, .ref (k_ba C 0)), (0, .ref b)])
    (kk : ∀ (C2 : CT) (M2 : MT) (H2 : Heap) (locs2 : List Loc) (ls2 : Array Slot), Rel (T + 48) C2 M2 → va_P g vwCl (CW ct C2 ++ MWd ct M2) H2 → va_D (AL s) (CW ct C2 ++ MWd ct M2) → va_S (AL s) s.heap H2 locs2 → lv_has ls2 8 [(3, .int (nI i)), (2, .ref (j_ma M2 0)), (1, .ref (k_ba C2 0)), (0, .ref b)] → W p l e room_1 s m #[Value.ref b] below meth c H2 locs2 (cells + 21) (slots + 158) Q (F0 m 1026 ls2 [])) : W p l e room_1 s m #[Value.ref b] below meth c H locs cells slots Q (F0 m 674 ls []) := by
  obtain ⟨hx, hb, hml, hown, hts, hX, hbl, hK, hNW, hL⟩ := id h
  obtain ⟨a, M2, hM2, hc, hm⟩ := op_type l g ct hR (cL (xs (i + 1))) (cL_nar _)
  refine lv_aload_n hx hb dL_law_674 rfl (lv_at hl 2 rfl) ?_
  refine z_arg (k := 1) (ki := 1) h hS hl (by decide) (by omega) dL_law_675 dL_law_676 dL_law_677 dL_law_678 dL_law_679 ?_
  refine lv_i2c (v := cL (xs (i + 1))) hx hb dL_law_680 rfl ?_
  refine z_pVi (wc := CW ct C) (wr := MWd ct M) (As := [.int (cL (xs (i + 1)))]) (rest := []) ⟨hx, hb, hml, hown, hts⟩ hK hP hD hS hNW (fun _ h9 => h9) (List.Perm.refl _) (z_up (rm2 := zRc 1 21 158 21) (hc H.size) (Nat.le_of_ble_eq_true rfl) (Nat.le_of_ble_eq_true rfl) (Nat.le_of_ble_eq_true rfl) (Nat.le_of_ble_eq_true rfl)) (cwV 1 hts gL_law_X9_type rfl rfl rfl (by decide +kernel) ⟨Nat.le_of_ble_eq_true rfl, Nat.le_of_ble_eq_true rfl⟩) 0 rfl rfl rfl hl.1 rfl (Nat.le_of_ble_eq_true rfl) dL_law_681 ⟨hcs.1, hcs.2⟩ (fun u H locs hP hD hS => ?_)
  obtain ⟨C2, hba, hR2⟩ := u
  have hP : va_P g vwCl (CW ct C2 ++ MWd ct M) H := hP
  have hD : va_D (AL s) (CW ct C2 ++ MWd ct M) := hD
  refine lv_aload_n hx hb dL_law_684 rfl (lv_at hl 1 rfl) ?_
  refine z_arg (k := 1) (ki := 1) h hS hl (by decide) (by omega) dL_law_685 dL_law_686 dL_law_687 dL_law_688 dL_law_689 ?_
  refine lv_i2c (v := cL (xs (i + 1))) hx hb dL_law_690 rfl ?_
  refine z_pVi (wc := MWd ct M) (wr := CW ct C2) (As := [.int (cL (xs (i + 1)))]) (rest := [.int a]) ⟨hx, hb, hml, hown, hts⟩ hK hP hD hS hNW (fun _ h9 => h9) List.perm_append_comm (hm H.size) (cwV 1 hts gL_law_X10_type rfl rfl rfl (by decide +kernel) ⟨Nat.le_of_ble_eq_true rfl, Nat.le_of_ble_eq_true rfl⟩) 0 rfl rfl rfl hl.1 rfl (Nat.le_of_ble_eq_true rfl) dL_law_691 ⟨hcs.1, hcs.2⟩ (fun _ H locs hP hD hS => ?_)
  refine lv_icmp_eq (tgt := 1026) hx hb dL_law_694 (by decide) (fun _ => ?_) (fun q => absurd rfl q)
  exact kk C2 M2 H locs ls hR2 (hP.perm List.perm_append_comm) (hD.perm List.perm_append_comm) hS (by rw [hM2, hba]; exact hl)

set_option maxHeartbeats 4000000 in
set_option maxRecDepth 100000 in
theorem cs_clearText {p : Program} {e : Env} {s : State} {m : MethodId} {below : List Frame} {meth : Method} {c : Code} {b L : Nat} {xs : Nat → Int32} {Q : State → Prop} {g : va_G} {ct : Nat → ClassId} {H : Heap} {locs : List Loc} {cells slots i T : Nat} {ls : Array Slot} {C : CT} {M : MT} (l : Launch) (h : LX p s m c b L xs g ct) (hcl : Cond.constantLong RL 13 (4294967295) ∈ wsL_law) (hi : i + 6 ≤ L) (hT : T < 1000000000) (hR : Rel T C M) (hcs : cells + 21 ≤ 600000 ∧ slots + 158 ≤ 7302250) (hP : va_P g vwCl (CW ct C ++ MWd ct M) H) (hD : va_D (AL s) (CW ct C ++ MWd ct M)) (hS : va_S (AL s) s.heap H locs) (hl : lv_has ls 8 [(3, .int (nI i)), (2, .ref (j_ma M 0)), (1, .ref (k_ba C 0)), (0, .ref b)])
    (kk : ∀ (C2 : CT) (M2 : MT) (H2 : Heap) (locs2 : List Loc) (ls2 : Array Slot), Rel (T + 48) C2 M2 → va_P g vwCl (CW ct C2 ++ MWd ct M2) H2 → va_D (AL s) (CW ct C2 ++ MWd ct M2) → va_S (AL s) s.heap H2 locs2 → lv_has ls2 8 [(3, .int (nI i)), (2, .ref (j_ma M2 0)), (1, .ref (k_ba C2 0)), (0, .ref b)] → W p l e room_1 s m #[Value.ref b] below meth c H2 locs2 (cells + 21) (slots + 158) Q (F0 m 1026 ls2 [])) : W p l e room_1 s m #[Value.ref b] below meth c H locs cells slots Q (F0 m 699 ls []) := by
  obtain ⟨hx, hb, hml, hown, hts, hX, hbl, hK, hNW, hL⟩ := id h
  obtain ⟨a, M2, hM2, hc, hm⟩ := op_clearText l g ct hR 
  refine lv_aload_n hx hb dL_law_699 rfl (lv_at hl 2 rfl) ?_
  refine z_pVi (wc := CW ct C) (wr := MWd ct M) (As := []) (rest := []) ⟨hx, hb, hml, hown, hts⟩ hK hP hD hS hNW (fun _ h9 => h9) (List.Perm.refl _) (z_up (rm2 := zRc 1 21 158 21) (hc H.size) (Nat.le_of_ble_eq_true rfl) (Nat.le_of_ble_eq_true rfl) (Nat.le_of_ble_eq_true rfl) (Nat.le_of_ble_eq_true rfl)) (cwV 0 hts gL_law_X9_clearText rfl rfl rfl (by decide +kernel) ⟨Nat.le_of_ble_eq_true rfl, Nat.le_of_ble_eq_true rfl⟩) 0 rfl rfl rfl hl.1 rfl (Nat.le_of_ble_eq_true rfl) dL_law_700 ⟨hcs.1, hcs.2⟩ (fun u H locs hP hD hS => ?_)
  obtain ⟨C2, hba, hR2⟩ := u
  have hP : va_P g vwCl (CW ct C2 ++ MWd ct M) H := hP
  have hD : va_D (AL s) (CW ct C2 ++ MWd ct M) := hD
  refine lv_aload_n hx hb dL_law_703 rfl (lv_at hl 1 rfl) ?_
  refine z_pVi (wc := MWd ct M) (wr := CW ct C2) (As := []) (rest := [.int a]) ⟨hx, hb, hml, hown, hts⟩ hK hP hD hS hNW (fun _ h9 => h9) List.perm_append_comm (hm H.size) (cwV 0 hts gL_law_X10_clearText rfl rfl rfl (by decide +kernel) ⟨Nat.le_of_ble_eq_true rfl, Nat.le_of_ble_eq_true rfl⟩) 0 rfl rfl rfl hl.1 rfl (Nat.le_of_ble_eq_true rfl) dL_law_704 ⟨hcs.1, hcs.2⟩ (fun _ H locs hP hD hS => ?_)
  refine lv_icmp_eq (tgt := 1026) hx hb dL_law_707 (by decide) (fun _ => ?_) (fun q => absurd rfl q)
  exact kk C2 M2 H locs ls hR2 (hP.perm List.perm_append_comm) (hD.perm List.perm_append_comm) hS (by rw [hM2, hba]; exact hl)

set_option maxHeartbeats 4000000 in
set_option maxRecDepth 100000 in
theorem cs_readTides {p : Program} {e : Env} {s : State} {m : MethodId} {below : List Frame} {meth : Method} {c : Code} {b L : Nat} {xs : Nat → Int32} {Q : State → Prop} {g : va_G} {ct : Nat → ClassId} {H : Heap} {locs : List Loc} {cells slots i T : Nat} {ls : Array Slot} {C : CT} {M : MT} (l : Launch) (h : LX p s m c b L xs g ct) (hcl : Cond.constantLong RL 13 (4294967295) ∈ wsL_law) (hi : i + 6 ≤ L) (hT : T < 1000000000) (hR : Rel T C M) (hcs : cells + 21 ≤ 600000 ∧ slots + 158 ≤ 7302250) (hP : va_P g vwCl (CW ct C ++ MWd ct M) H) (hD : va_D (AL s) (CW ct C ++ MWd ct M)) (hS : va_S (AL s) s.heap H locs) (hl : lv_has ls 8 [(3, .int (nI i)), (2, .ref (j_ma M 0)), (1, .ref (k_ba C 0)), (0, .ref b)])
    (kk : ∀ (C2 : CT) (M2 : MT) (H2 : Heap) (locs2 : List Loc) (ls2 : Array Slot), Rel (T + 48) C2 M2 → va_P g vwCl (CW ct C2 ++ MWd ct M2) H2 → va_D (AL s) (CW ct C2 ++ MWd ct M2) → va_S (AL s) s.heap H2 locs2 → lv_has ls2 8 [(3, .int (nI i)), (2, .ref (j_ma M2 0)), (1, .ref (k_ba C2 0)), (0, .ref b)] → W p l e room_1 s m #[Value.ref b] below meth c H2 locs2 (cells + 21) (slots + 158) Q (F0 m 1026 ls2 [])) : W p l e room_1 s m #[Value.ref b] below meth c H locs cells slots Q (F0 m 712 ls []) := by
  obtain ⟨hx, hb, hml, hown, hts, hX, hbl, hK, hNW, hL⟩ := id h
  obtain ⟨a, M2, hM2, hc, hm⟩ := op_readTides l g ct hR (xs (i + 1))
  refine lv_aload_n hx hb dL_law_712 rfl (lv_at hl 2 rfl) ?_
  refine z_arg (k := 1) (ki := 1) h hS hl (by decide) (by omega) dL_law_713 dL_law_714 dL_law_715 dL_law_716 dL_law_717 ?_
  refine z_pVi (wc := CW ct C) (wr := MWd ct M) (As := [.int (xs (i + 1))]) (rest := []) ⟨hx, hb, hml, hown, hts⟩ hK hP hD hS hNW (fun _ h9 => h9) (List.Perm.refl _) (z_up (rm2 := zRc 4 21 158 95) (hc H.size) (Nat.le_of_ble_eq_true rfl) (Nat.le_of_ble_eq_true rfl) (Nat.le_of_ble_eq_true rfl) (Nat.le_of_ble_eq_true rfl)) (cwV 1 hts gL_law_X9_readTides rfl rfl rfl (by decide +kernel) ⟨Nat.le_of_ble_eq_true rfl, Nat.le_of_ble_eq_true rfl⟩) 0 rfl rfl rfl hl.1 rfl (Nat.le_of_ble_eq_true rfl) dL_law_718 ⟨hcs.1, hcs.2⟩ (fun u H locs hP hD hS => ?_)
  obtain ⟨C2, hba, hR2⟩ := u
  have hP : va_P g vwCl (CW ct C2 ++ MWd ct M) H := hP
  have hD : va_D (AL s) (CW ct C2 ++ MWd ct M) := hD
  refine lv_aload_n hx hb dL_law_721 rfl (lv_at hl 1 rfl) ?_
  refine z_arg (k := 1) (ki := 1) h hS hl (by decide) (by omega) dL_law_722 dL_law_723 dL_law_724 dL_law_725 dL_law_726 ?_
  refine z_pVi (wc := MWd ct M) (wr := CW ct C2) (As := [.int (xs (i + 1))]) (rest := [.int a]) ⟨hx, hb, hml, hown, hts⟩ hK hP hD hS hNW (fun _ h9 => h9) List.perm_append_comm (hm H.size) (cwV 1 hts gL_law_X10_readTides rfl rfl rfl (by decide +kernel) ⟨Nat.le_of_ble_eq_true rfl, Nat.le_of_ble_eq_true rfl⟩) 0 rfl rfl rfl hl.1 rfl (Nat.le_of_ble_eq_true rfl) dL_law_727 ⟨hcs.1, hcs.2⟩ (fun _ H locs hP hD hS => ?_)
  refine lv_icmp_eq (tgt := 1026) hx hb dL_law_730 (by decide) (fun _ => ?_) (fun q => absurd rfl q)
  exact kk C2 M2 H locs ls hR2 (hP.perm List.perm_append_comm) (hD.perm List.perm_append_comm) hS (by rw [hM2, hba]; exact hl)

set_option maxHeartbeats 4000000 in
set_option maxRecDepth 100000 in
theorem cs_undo {p : Program} {e : Env} {s : State} {m : MethodId} {below : List Frame} {meth : Method} {c : Code} {b L : Nat} {xs : Nat → Int32} {Q : State → Prop} {g : va_G} {ct : Nat → ClassId} {H : Heap} {locs : List Loc} {cells slots i T : Nat} {ls : Array Slot} {C : CT} {M : MT} (l : Launch) (h : LX p s m c b L xs g ct) (hcl : Cond.constantLong RL 13 (4294967295) ∈ wsL_law) (hi : i + 6 ≤ L) (hT : T < 1000000000) (hR : Rel T C M) (hcs : cells + 21 ≤ 600000 ∧ slots + 158 ≤ 7302250) (hP : va_P g vwCl (CW ct C ++ MWd ct M) H) (hD : va_D (AL s) (CW ct C ++ MWd ct M)) (hS : va_S (AL s) s.heap H locs) (hl : lv_has ls 8 [(3, .int (nI i)), (2, .ref (j_ma M 0)), (1, .ref (k_ba C 0)), (0, .ref b)])
    (kk : ∀ (C2 : CT) (M2 : MT) (H2 : Heap) (locs2 : List Loc) (ls2 : Array Slot), Rel (T + 48) C2 M2 → va_P g vwCl (CW ct C2 ++ MWd ct M2) H2 → va_D (AL s) (CW ct C2 ++ MWd ct M2) → va_S (AL s) s.heap H2 locs2 → lv_has ls2 8 [(3, .int (nI i)), (2, .ref (j_ma M2 0)), (1, .ref (k_ba C2 0)), (0, .ref b)] → W p l e room_1 s m #[Value.ref b] below meth c H2 locs2 (cells + 21) (slots + 158) Q (F0 m 1026 ls2 [])) : W p l e room_1 s m #[Value.ref b] below meth c H locs cells slots Q (F0 m 735 ls []) := by
  obtain ⟨hx, hb, hml, hown, hts, hX, hbl, hK, hNW, hL⟩ := id h
  obtain ⟨a, M2, hM2, hc, hm⟩ := op_undo l g ct hR 
  refine lv_aload_n hx hb dL_law_735 rfl (lv_at hl 2 rfl) ?_
  refine z_pVi (wc := CW ct C) (wr := MWd ct M) (As := []) (rest := []) ⟨hx, hb, hml, hown, hts⟩ hK hP hD hS hNW (fun _ h9 => h9) (List.Perm.refl _) (z_up (rm2 := zRc 4 21 158 94) (hc H.size) (Nat.le_of_ble_eq_true rfl) (Nat.le_of_ble_eq_true rfl) (Nat.le_of_ble_eq_true rfl) (Nat.le_of_ble_eq_true rfl)) (cwV 0 hts gL_law_X9_undo rfl rfl rfl (by decide +kernel) ⟨Nat.le_of_ble_eq_true rfl, Nat.le_of_ble_eq_true rfl⟩) 0 rfl rfl rfl hl.1 rfl (Nat.le_of_ble_eq_true rfl) dL_law_736 ⟨hcs.1, hcs.2⟩ (fun u H locs hP hD hS => ?_)
  obtain ⟨C2, hba, hR2⟩ := u
  have hP : va_P g vwCl (CW ct C2 ++ MWd ct M) H := hP
  have hD : va_D (AL s) (CW ct C2 ++ MWd ct M) := hD
  refine lv_aload_n hx hb dL_law_739 rfl (lv_at hl 1 rfl) ?_
  refine z_pVi (wc := MWd ct M) (wr := CW ct C2) (As := []) (rest := [.int a]) ⟨hx, hb, hml, hown, hts⟩ hK hP hD hS hNW (fun _ h9 => h9) List.perm_append_comm (hm H.size) (cwV 0 hts gL_law_X10_undo rfl rfl rfl (by decide +kernel) ⟨Nat.le_of_ble_eq_true rfl, Nat.le_of_ble_eq_true rfl⟩) 0 rfl rfl rfl hl.1 rfl (Nat.le_of_ble_eq_true rfl) dL_law_740 ⟨hcs.1, hcs.2⟩ (fun _ H locs hP hD hS => ?_)
  refine lv_icmp_eq (tgt := 1026) hx hb dL_law_743 (by decide) (fun _ => ?_) (fun q => absurd rfl q)
  exact kk C2 M2 H locs ls hR2 (hP.perm List.perm_append_comm) (hD.perm List.perm_append_comm) hS (by rw [hM2, hba]; exact hl)

set_option maxHeartbeats 4000000 in
set_option maxRecDepth 100000 in
theorem cs_keep {p : Program} {e : Env} {s : State} {m : MethodId} {below : List Frame} {meth : Method} {c : Code} {b L : Nat} {xs : Nat → Int32} {Q : State → Prop} {g : va_G} {ct : Nat → ClassId} {H : Heap} {locs : List Loc} {cells slots i T : Nat} {ls : Array Slot} {C : CT} {M : MT} (l : Launch) (h : LX p s m c b L xs g ct) (hcl : Cond.constantLong RL 13 (4294967295) ∈ wsL_law) (hi : i + 6 ≤ L) (hT : T < 1000000000) (hR : Rel T C M) (hcs : cells + 21 ≤ 600000 ∧ slots + 158 ≤ 7302250) (hP : va_P g vwCl (CW ct C ++ MWd ct M) H) (hD : va_D (AL s) (CW ct C ++ MWd ct M)) (hS : va_S (AL s) s.heap H locs) (hl : lv_has ls 8 [(3, .int (nI i)), (2, .ref (j_ma M 0)), (1, .ref (k_ba C 0)), (0, .ref b)])
    (kk : ∀ (C2 : CT) (M2 : MT) (H2 : Heap) (locs2 : List Loc) (ls2 : Array Slot), Rel (T + 48) C2 M2 → va_P g vwCl (CW ct C2 ++ MWd ct M2) H2 → va_D (AL s) (CW ct C2 ++ MWd ct M2) → va_S (AL s) s.heap H2 locs2 → lv_has ls2 8 [(3, .int (nI i)), (2, .ref (j_ma M2 0)), (1, .ref (k_ba C2 0)), (0, .ref b)] → W p l e room_1 s m #[Value.ref b] below meth c H2 locs2 (cells + 21) (slots + 158) Q (F0 m 1026 ls2 [])) : W p l e room_1 s m #[Value.ref b] below meth c H locs cells slots Q (F0 m 748 ls []) := by
  obtain ⟨hx, hb, hml, hown, hts, hX, hbl, hK, hNW, hL⟩ := id h
  obtain ⟨a, M2, hM2, hc, hm⟩ := op_keep l g ct hR 
  refine lv_aload_n hx hb dL_law_748 rfl (lv_at hl 2 rfl) ?_
  refine z_pVi (wc := CW ct C) (wr := MWd ct M) (As := []) (rest := []) ⟨hx, hb, hml, hown, hts⟩ hK hP hD hS hNW (fun _ h9 => h9) (List.Perm.refl _) (z_up (rm2 := zRc 3 21 158 72) (hc H.size) (Nat.le_of_ble_eq_true rfl) (Nat.le_of_ble_eq_true rfl) (Nat.le_of_ble_eq_true rfl) (Nat.le_of_ble_eq_true rfl)) (cwV 0 hts gL_law_X9_keep rfl rfl rfl (by decide +kernel) ⟨Nat.le_of_ble_eq_true rfl, Nat.le_of_ble_eq_true rfl⟩) 0 rfl rfl rfl hl.1 rfl (Nat.le_of_ble_eq_true rfl) dL_law_749 ⟨hcs.1, hcs.2⟩ (fun u H locs hP hD hS => ?_)
  obtain ⟨C2, hba, hR2⟩ := u
  have hP : va_P g vwCl (CW ct C2 ++ MWd ct M) H := hP
  have hD : va_D (AL s) (CW ct C2 ++ MWd ct M) := hD
  refine lv_aload_n hx hb dL_law_752 rfl (lv_at hl 1 rfl) ?_
  refine z_pVi (wc := MWd ct M) (wr := CW ct C2) (As := []) (rest := [.int a]) ⟨hx, hb, hml, hown, hts⟩ hK hP hD hS hNW (fun _ h9 => h9) List.perm_append_comm (hm H.size) (cwV 0 hts gL_law_X10_keep rfl rfl rfl (by decide +kernel) ⟨Nat.le_of_ble_eq_true rfl, Nat.le_of_ble_eq_true rfl⟩) 0 rfl rfl rfl hl.1 rfl (Nat.le_of_ble_eq_true rfl) dL_law_753 ⟨hcs.1, hcs.2⟩ (fun _ H locs hP hD hS => ?_)
  refine lv_icmp_eq (tgt := 1026) hx hb dL_law_756 (by decide) (fun _ => ?_) (fun q => absurd rfl q)
  exact kk C2 M2 H locs ls hR2 (hP.perm List.perm_append_comm) (hD.perm List.perm_append_comm) hS (by rw [hM2, hba]; exact hl)

set_option maxHeartbeats 4000000 in
set_option maxRecDepth 100000 in
theorem cs_restore {p : Program} {e : Env} {s : State} {m : MethodId} {below : List Frame} {meth : Method} {c : Code} {b L : Nat} {xs : Nat → Int32} {Q : State → Prop} {g : va_G} {ct : Nat → ClassId} {H : Heap} {locs : List Loc} {cells slots i T : Nat} {ls : Array Slot} {C : CT} {M : MT} (l : Launch) (h : LX p s m c b L xs g ct) (hcl : Cond.constantLong RL 13 (4294967295) ∈ wsL_law) (hi : i + 6 ≤ L) (hT : T < 1000000000) (hR : Rel T C M) (hcs : cells + 21 ≤ 600000 ∧ slots + 158 ≤ 7302250) (hP : va_P g vwCl (CW ct C ++ MWd ct M) H) (hD : va_D (AL s) (CW ct C ++ MWd ct M)) (hS : va_S (AL s) s.heap H locs) (hl : lv_has ls 8 [(3, .int (nI i)), (2, .ref (j_ma M 0)), (1, .ref (k_ba C 0)), (0, .ref b)])
    (kk : ∀ (C2 : CT) (M2 : MT) (H2 : Heap) (locs2 : List Loc) (ls2 : Array Slot), Rel (T + 48) C2 M2 → va_P g vwCl (CW ct C2 ++ MWd ct M2) H2 → va_D (AL s) (CW ct C2 ++ MWd ct M2) → va_S (AL s) s.heap H2 locs2 → lv_has ls2 8 [(3, .int (nI i)), (2, .ref (j_ma M2 0)), (1, .ref (k_ba C2 0)), (0, .ref b)] → W p l e room_1 s m #[Value.ref b] below meth c H2 locs2 (cells + 21) (slots + 158) Q (F0 m 1026 ls2 [])) : W p l e room_1 s m #[Value.ref b] below meth c H locs cells slots Q (F0 m 761 ls []) := by
  obtain ⟨hx, hb, hml, hown, hts, hX, hbl, hK, hNW, hL⟩ := id h
  obtain ⟨a, M2, hM2, hc, hm⟩ := op_restore l g ct hR 
  refine lv_aload_n hx hb dL_law_761 rfl (lv_at hl 2 rfl) ?_
  refine z_pVi (wc := CW ct C) (wr := MWd ct M) (As := []) (rest := []) ⟨hx, hb, hml, hown, hts⟩ hK hP hD hS hNW (fun _ h9 => h9) (List.Perm.refl _) (z_up (rm2 := zRc 4 21 158 95) (hc H.size) (Nat.le_of_ble_eq_true rfl) (Nat.le_of_ble_eq_true rfl) (Nat.le_of_ble_eq_true rfl) (Nat.le_of_ble_eq_true rfl)) (cwV 0 hts gL_law_X9_restore rfl rfl rfl (by decide +kernel) ⟨Nat.le_of_ble_eq_true rfl, Nat.le_of_ble_eq_true rfl⟩) 0 rfl rfl rfl hl.1 rfl (Nat.le_of_ble_eq_true rfl) dL_law_762 ⟨hcs.1, hcs.2⟩ (fun u H locs hP hD hS => ?_)
  obtain ⟨C2, hba, hR2⟩ := u
  have hP : va_P g vwCl (CW ct C2 ++ MWd ct M) H := hP
  have hD : va_D (AL s) (CW ct C2 ++ MWd ct M) := hD
  refine lv_aload_n hx hb dL_law_765 rfl (lv_at hl 1 rfl) ?_
  refine z_pVi (wc := MWd ct M) (wr := CW ct C2) (As := []) (rest := [.int a]) ⟨hx, hb, hml, hown, hts⟩ hK hP hD hS hNW (fun _ h9 => h9) List.perm_append_comm (hm H.size) (cwV 0 hts gL_law_X10_restore rfl rfl rfl (by decide +kernel) ⟨Nat.le_of_ble_eq_true rfl, Nat.le_of_ble_eq_true rfl⟩) 0 rfl rfl rfl hl.1 rfl (Nat.le_of_ble_eq_true rfl) dL_law_766 ⟨hcs.1, hcs.2⟩ (fun _ H locs hP hD hS => ?_)
  refine lv_icmp_eq (tgt := 1026) hx hb dL_law_769 (by decide) (fun _ => ?_) (fun q => absurd rfl q)
  exact kk C2 M2 H locs ls hR2 (hP.perm List.perm_append_comm) (hD.perm List.perm_append_comm) hS (by rw [hM2, hba]; exact hl)

set_option maxHeartbeats 4000000 in
set_option maxRecDepth 100000 in
theorem cs_section {p : Program} {e : Env} {s : State} {m : MethodId} {below : List Frame} {meth : Method} {c : Code} {b L : Nat} {xs : Nat → Int32} {Q : State → Prop} {g : va_G} {ct : Nat → ClassId} {H : Heap} {locs : List Loc} {cells slots i T : Nat} {ls : Array Slot} {C : CT} {M : MT} (l : Launch) (h : LX p s m c b L xs g ct) (hcl : Cond.constantLong RL 13 (4294967295) ∈ wsL_law) (hi : i + 6 ≤ L) (hT : T < 1000000000) (hR : Rel T C M) (hcs : cells + 21 ≤ 600000 ∧ slots + 158 ≤ 7302250) (hP : va_P g vwCl (CW ct C ++ MWd ct M) H) (hD : va_D (AL s) (CW ct C ++ MWd ct M)) (hS : va_S (AL s) s.heap H locs) (hl : lv_has ls 8 [(3, .int (nI i)), (2, .ref (j_ma M 0)), (1, .ref (k_ba C 0)), (0, .ref b)])
    (kk : ∀ (C2 : CT) (M2 : MT) (H2 : Heap) (locs2 : List Loc) (ls2 : Array Slot), Rel (T + 48) C2 M2 → va_P g vwCl (CW ct C2 ++ MWd ct M2) H2 → va_D (AL s) (CW ct C2 ++ MWd ct M2) → va_S (AL s) s.heap H2 locs2 → lv_has ls2 8 [(3, .int (nI i)), (2, .ref (j_ma M2 0)), (1, .ref (k_ba C2 0)), (0, .ref b)] → W p l e room_1 s m #[Value.ref b] below meth c H2 locs2 (cells + 21) (slots + 158) Q (F0 m 1026 ls2 [])) : W p l e room_1 s m #[Value.ref b] below meth c H locs cells slots Q (F0 m 774 ls []) := by
  obtain ⟨hx, hb, hml, hown, hts, hX, hbl, hK, hNW, hL⟩ := id h
  obtain ⟨a, M2, hM2, hc, hm⟩ := op_section l g ct hR (xs (i + 1)) (xs (i + 2))
  refine lv_aload_n hx hb dL_law_774 rfl (lv_at hl 2 rfl) ?_
  refine z_arg (k := 1) (ki := 1) h hS hl (by decide) (by omega) dL_law_775 dL_law_776 dL_law_777 dL_law_778 dL_law_779 ?_
  refine z_arg (k := 2) (ki := 2) h hS hl (by decide) (by omega) dL_law_780 dL_law_781 dL_law_782 dL_law_783 dL_law_784 ?_
  refine z_pVi (wc := CW ct C) (wr := MWd ct M) (As := [.int (xs (i + 1)), .int (xs (i + 2))]) (rest := []) ⟨hx, hb, hml, hown, hts⟩ hK hP hD hS hNW (fun _ h9 => h9) (List.Perm.refl _) (z_up (rm2 := zRc 1 21 158 21) (hc H.size) (Nat.le_of_ble_eq_true rfl) (Nat.le_of_ble_eq_true rfl) (Nat.le_of_ble_eq_true rfl) (Nat.le_of_ble_eq_true rfl)) (cwV 2 hts gL_law_X9_section rfl rfl rfl (by decide +kernel) ⟨Nat.le_of_ble_eq_true rfl, Nat.le_of_ble_eq_true rfl⟩) 0 rfl rfl rfl hl.1 rfl (Nat.le_of_ble_eq_true rfl) dL_law_785 ⟨hcs.1, hcs.2⟩ (fun u H locs hP hD hS => ?_)
  obtain ⟨C2, hba, hR2⟩ := u
  have hP : va_P g vwCl (CW ct C2 ++ MWd ct M) H := hP
  have hD : va_D (AL s) (CW ct C2 ++ MWd ct M) := hD
  refine lv_aload_n hx hb dL_law_788 rfl (lv_at hl 1 rfl) ?_
  refine z_arg (k := 1) (ki := 1) h hS hl (by decide) (by omega) dL_law_789 dL_law_790 dL_law_791 dL_law_792 dL_law_793 ?_
  refine z_arg (k := 2) (ki := 2) h hS hl (by decide) (by omega) dL_law_794 dL_law_795 dL_law_796 dL_law_797 dL_law_798 ?_
  refine z_pVi (wc := MWd ct M) (wr := CW ct C2) (As := [.int (xs (i + 1)), .int (xs (i + 2))]) (rest := [.int a]) ⟨hx, hb, hml, hown, hts⟩ hK hP hD hS hNW (fun _ h9 => h9) List.perm_append_comm (hm H.size) (cwV 2 hts gL_law_X10_section rfl rfl rfl (by decide +kernel) ⟨Nat.le_of_ble_eq_true rfl, Nat.le_of_ble_eq_true rfl⟩) 0 rfl rfl rfl hl.1 rfl (Nat.le_of_ble_eq_true rfl) dL_law_799 ⟨hcs.1, hcs.2⟩ (fun _ H locs hP hD hS => ?_)
  refine lv_icmp_eq (tgt := 1026) hx hb dL_law_802 (by decide) (fun _ => ?_) (fun q => absurd rfl q)
  exact kk C2 M2 H locs ls hR2 (hP.perm List.perm_append_comm) (hD.perm List.perm_append_comm) hS (by rw [hM2, hba]; exact hl)

set_option maxHeartbeats 4000000 in
set_option maxRecDepth 100000 in
theorem cs_pump {p : Program} {e : Env} {s : State} {m : MethodId} {below : List Frame} {meth : Method} {c : Code} {b L : Nat} {xs : Nat → Int32} {Q : State → Prop} {g : va_G} {ct : Nat → ClassId} {H : Heap} {locs : List Loc} {cells slots i T : Nat} {ls : Array Slot} {C : CT} {M : MT} (l : Launch) (h : LX p s m c b L xs g ct) (hcl : Cond.constantLong RL 13 (4294967295) ∈ wsL_law) (hi : i + 6 ≤ L) (hT : T < 1000000000) (hR : Rel T C M) (hcs : cells + 21 ≤ 600000 ∧ slots + 158 ≤ 7302250) (hP : va_P g vwCl (CW ct C ++ MWd ct M) H) (hD : va_D (AL s) (CW ct C ++ MWd ct M)) (hS : va_S (AL s) s.heap H locs) (hl : lv_has ls 8 [(3, .int (nI i)), (2, .ref (j_ma M 0)), (1, .ref (k_ba C 0)), (0, .ref b)])
    (kk : ∀ (C2 : CT) (M2 : MT) (H2 : Heap) (locs2 : List Loc) (ls2 : Array Slot), Rel (T + 48) C2 M2 → va_P g vwCl (CW ct C2 ++ MWd ct M2) H2 → va_D (AL s) (CW ct C2 ++ MWd ct M2) → va_S (AL s) s.heap H2 locs2 → lv_has ls2 8 [(3, .int (nI i)), (2, .ref (j_ma M2 0)), (1, .ref (k_ba C2 0)), (0, .ref b)] → W p l e room_1 s m #[Value.ref b] below meth c H2 locs2 (cells + 21) (slots + 158) Q (F0 m 1026 ls2 [])) : W p l e room_1 s m #[Value.ref b] below meth c H locs cells slots Q (F0 m 807 ls []) := by
  obtain ⟨hx, hb, hml, hown, hts, hX, hbl, hK, hNW, hL⟩ := id h
  obtain ⟨a, M2, hM2, hc, hm⟩ := op_pump l g ct hR (xs (i + 1)) (xs (i + 2))
  refine lv_aload_n hx hb dL_law_807 rfl (lv_at hl 2 rfl) ?_
  refine z_arg (k := 1) (ki := 1) h hS hl (by decide) (by omega) dL_law_808 dL_law_809 dL_law_810 dL_law_811 dL_law_812 ?_
  refine z_arg (k := 2) (ki := 2) h hS hl (by decide) (by omega) dL_law_813 dL_law_814 dL_law_815 dL_law_816 dL_law_817 ?_
  refine z_pVi (wc := CW ct C) (wr := MWd ct M) (As := [.int (xs (i + 1)), .int (xs (i + 2))]) (rest := []) ⟨hx, hb, hml, hown, hts⟩ hK hP hD hS hNW (fun _ h9 => h9) (List.Perm.refl _) (z_up (rm2 := zRc 2 21 158 45) (hc H.size) (Nat.le_of_ble_eq_true rfl) (Nat.le_of_ble_eq_true rfl) (Nat.le_of_ble_eq_true rfl) (Nat.le_of_ble_eq_true rfl)) (cwV 2 hts gL_law_X9_pump rfl rfl rfl (by decide +kernel) ⟨Nat.le_of_ble_eq_true rfl, Nat.le_of_ble_eq_true rfl⟩) 0 rfl rfl rfl hl.1 rfl (Nat.le_of_ble_eq_true rfl) dL_law_818 ⟨hcs.1, hcs.2⟩ (fun u H locs hP hD hS => ?_)
  obtain ⟨C2, hba, hR2⟩ := u
  have hP : va_P g vwCl (CW ct C2 ++ MWd ct M) H := hP
  have hD : va_D (AL s) (CW ct C2 ++ MWd ct M) := hD
  refine lv_aload_n hx hb dL_law_821 rfl (lv_at hl 1 rfl) ?_
  refine z_arg (k := 1) (ki := 1) h hS hl (by decide) (by omega) dL_law_822 dL_law_823 dL_law_824 dL_law_825 dL_law_826 ?_
  refine z_arg (k := 2) (ki := 2) h hS hl (by decide) (by omega) dL_law_827 dL_law_828 dL_law_829 dL_law_830 dL_law_831 ?_
  refine z_pVi (wc := MWd ct M) (wr := CW ct C2) (As := [.int (xs (i + 1)), .int (xs (i + 2))]) (rest := [.int a]) ⟨hx, hb, hml, hown, hts⟩ hK hP hD hS hNW (fun _ h9 => h9) List.perm_append_comm (hm H.size) (cwV 2 hts gL_law_X10_pump rfl rfl rfl (by decide +kernel) ⟨Nat.le_of_ble_eq_true rfl, Nat.le_of_ble_eq_true rfl⟩) 0 rfl rfl rfl hl.1 rfl (Nat.le_of_ble_eq_true rfl) dL_law_832 ⟨hcs.1, hcs.2⟩ (fun _ H locs hP hD hS => ?_)
  refine lv_icmp_eq (tgt := 1026) hx hb dL_law_835 (by decide) (fun _ => ?_) (fun q => absurd rfl q)
  exact kk C2 M2 H locs ls hR2 (hP.perm List.perm_append_comm) (hD.perm List.perm_append_comm) hS (by rw [hM2, hba]; exact hl)

set_option maxHeartbeats 4000000 in
set_option maxRecDepth 100000 in
theorem cs_level {p : Program} {e : Env} {s : State} {m : MethodId} {below : List Frame} {meth : Method} {c : Code} {b L : Nat} {xs : Nat → Int32} {Q : State → Prop} {g : va_G} {ct : Nat → ClassId} {H : Heap} {locs : List Loc} {cells slots i T : Nat} {ls : Array Slot} {C : CT} {M : MT} (l : Launch) (h : LX p s m c b L xs g ct) (hcl : Cond.constantLong RL 13 (4294967295) ∈ wsL_law) (hi : i + 6 ≤ L) (hT : T < 1000000000) (hR : Rel T C M) (hcs : cells + 21 ≤ 600000 ∧ slots + 158 ≤ 7302250) (hP : va_P g vwCl (CW ct C ++ MWd ct M) H) (hD : va_D (AL s) (CW ct C ++ MWd ct M)) (hS : va_S (AL s) s.heap H locs) (hl : lv_has ls 8 [(3, .int (nI i)), (2, .ref (j_ma M 0)), (1, .ref (k_ba C 0)), (0, .ref b)])
    (kk : ∀ (C2 : CT) (M2 : MT) (H2 : Heap) (locs2 : List Loc) (ls2 : Array Slot), Rel (T + 48) C2 M2 → va_P g vwCl (CW ct C2 ++ MWd ct M2) H2 → va_D (AL s) (CW ct C2 ++ MWd ct M2) → va_S (AL s) s.heap H2 locs2 → lv_has ls2 8 [(3, .int (nI i)), (2, .ref (j_ma M2 0)), (1, .ref (k_ba C2 0)), (0, .ref b)] → W p l e room_1 s m #[Value.ref b] below meth c H2 locs2 (cells + 21) (slots + 158) Q (F0 m 1026 ls2 [])) : W p l e room_1 s m #[Value.ref b] below meth c H locs cells slots Q (F0 m 840 ls []) := by
  obtain ⟨hx, hb, hml, hown, hts, hX, hbl, hK, hNW, hL⟩ := id h
  obtain ⟨a, M2, hM2, hc, hm⟩ := op_level l g ct hR hT (xs (i + 1))
  refine lv_aload_n hx hb dL_law_840 rfl (lv_at hl 2 rfl) ?_
  refine z_arg (k := 1) (ki := 1) h hS hl (by decide) (by omega) dL_law_841 dL_law_842 dL_law_843 dL_law_844 dL_law_845 ?_
  refine z_pVd (wc := CW ct C) (wr := MWd ct M) (As := [.int (xs (i + 1))]) (rest := []) ⟨hx, hb, hml, hown, hts⟩ hK hP hD hS hNW (fun _ h9 => h9) (List.Perm.refl _) (z_up (rm2 := zRc 4 21 158 97) (hc H.size) (Nat.le_of_ble_eq_true rfl) (Nat.le_of_ble_eq_true rfl) (Nat.le_of_ble_eq_true rfl) (Nat.le_of_ble_eq_true rfl)) (cwV 1 hts gL_law_X9_level rfl rfl rfl (by decide +kernel) ⟨Nat.le_of_ble_eq_true rfl, Nat.le_of_ble_eq_true rfl⟩) 0 rfl rfl rfl hl.1 rfl (Nat.le_of_ble_eq_true rfl) dL_law_846 ⟨hcs.1, hcs.2⟩ (fun u H locs hP hD hS => ?_)
  obtain ⟨C2, hba, hR2⟩ := u
  have hP : va_P g vwCl (CW ct C2 ++ MWd ct M) H := hP
  have hD : va_D (AL s) (CW ct C2 ++ MWd ct M) := hD
  refine lv_dstore (lv' := [(4, .double a), (3, .int (nI i)), (2, .ref (j_ma M 0)), (1, .ref (k_ba C 0)), (0, .ref b)]) hx hb dL_law_849 hl (by decide) rfl (fun ls hl => ?_)
  have hl4 := hl
  have hl := lv_sub hl [1, 2, 3, 4] rfl
  refine lv_aload_n hx hb dL_law_851 rfl (lv_at hl 1 rfl) ?_
  refine z_arg (k := 1) (ki := 1) h hS hl (by decide) (by omega) dL_law_852 dL_law_853 dL_law_854 dL_law_855 dL_law_856 ?_
  refine z_pVd (wc := MWd ct M) (wr := CW ct C2) (As := [.int (xs (i + 1))]) (rest := []) ⟨hx, hb, hml, hown, hts⟩ hK hP hD hS hNW (fun _ h9 => h9) List.perm_append_comm (hm H.size) (cwV 1 hts gL_law_X10_level rfl rfl rfl (by decide +kernel) ⟨Nat.le_of_ble_eq_true rfl, Nat.le_of_ble_eq_true rfl⟩) 0 rfl rfl rfl hl.1 rfl (Nat.le_of_ble_eq_true rfl) dL_law_857 ⟨hcs.1, hcs.2⟩ (fun _ H locs hP hD hS => ?_)
  refine lv_dstore (lv' := [(6, .double a), (4, .double a), (3, .int (nI i)), (2, .ref (j_ma M 0)), (1, .ref (k_ba C 0)), (0, .ref b)]) hx hb dL_law_860 hl4 (by decide) rfl (fun ls hl => ?_)
  by_cases c0 : Op.cmpValue (FP.dcmp a a) CmpOp.l = 0
  · refine lv_dload hx hb dL_law_862 (lv_at hl 1 rfl) ?_
    refine lv_dload hx hb dL_law_864 (lv_at hl 0 rfl) ?_
    refine lv_dcmp hx hb dL_law_866 ?_
    refine lv_if_eq (tgt := 888) hx hb dL_law_867 (by decide) (fun _ => ?_) (fun q => absurd c0 q)
    refine lv_goto (tgt := 1026) hx hb dL_law_888 (by decide) ?_
    exact kk C2 M2 H locs ls hR2 (hP.perm List.perm_append_comm) (hD.perm List.perm_append_comm) hS (by rw [hM2, hba]; exact lv_sub hl [2, 3, 4, 5] rfl)
  · refine lv_dload hx hb dL_law_862 (lv_at hl 1 rfl) ?_
    refine lv_dload hx hb dL_law_864 (lv_at hl 0 rfl) ?_
    refine lv_dcmp hx hb dL_law_866 ?_
    refine lv_if_eq (tgt := 888) hx hb dL_law_867 (by decide) (fun q => absurd q c0) (fun _ => ?_)
    refine lv_dload hx hb dL_law_870 (lv_at hl 1 rfl) ?_
    refine lv_dload hx hb dL_law_872 (lv_at hl 1 rfl) ?_
    refine lv_dcmp hx hb dL_law_874 ?_
    refine lv_if_eq (tgt := 886) hx hb dL_law_875 (by decide) (fun q => absurd q c0) (fun _ => ?_)
    refine lv_dload hx hb dL_law_878 (lv_at hl 0 rfl) ?_
    refine lv_dload hx hb dL_law_880 (lv_at hl 0 rfl) ?_
    refine lv_dcmp hx hb dL_law_882 ?_
    refine lv_if_ne (tgt := 888) hx hb dL_law_883 (by decide) (fun _ => ?_) (fun q => absurd q c0)
    refine lv_goto (tgt := 1026) hx hb dL_law_888 (by decide) ?_
    exact kk C2 M2 H locs ls hR2 (hP.perm List.perm_append_comm) (hD.perm List.perm_append_comm) hS (by rw [hM2, hba]; exact lv_sub hl [2, 3, 4, 5] rfl)

set_option maxHeartbeats 4000000 in
set_option maxRecDepth 100000 in
theorem cs_water {p : Program} {e : Env} {s : State} {m : MethodId} {below : List Frame} {meth : Method} {c : Code} {b L : Nat} {xs : Nat → Int32} {Q : State → Prop} {g : va_G} {ct : Nat → ClassId} {H : Heap} {locs : List Loc} {cells slots i T : Nat} {ls : Array Slot} {C : CT} {M : MT} (l : Launch) (h : LX p s m c b L xs g ct) (hcl : Cond.constantLong RL 13 (4294967295) ∈ wsL_law) (hi : i + 6 ≤ L) (hT : T < 1000000000) (hR : Rel T C M) (hcs : cells + 21 ≤ 600000 ∧ slots + 158 ≤ 7302250) (hP : va_P g vwCl (CW ct C ++ MWd ct M) H) (hD : va_D (AL s) (CW ct C ++ MWd ct M)) (hS : va_S (AL s) s.heap H locs) (hl : lv_has ls 8 [(3, .int (nI i)), (2, .ref (j_ma M 0)), (1, .ref (k_ba C 0)), (0, .ref b)])
    (kk : ∀ (C2 : CT) (M2 : MT) (H2 : Heap) (locs2 : List Loc) (ls2 : Array Slot), Rel (T + 48) C2 M2 → va_P g vwCl (CW ct C2 ++ MWd ct M2) H2 → va_D (AL s) (CW ct C2 ++ MWd ct M2) → va_S (AL s) s.heap H2 locs2 → lv_has ls2 8 [(3, .int (nI i)), (2, .ref (j_ma M2 0)), (1, .ref (k_ba C2 0)), (0, .ref b)] → W p l e room_1 s m #[Value.ref b] below meth c H2 locs2 (cells + 21) (slots + 158) Q (F0 m 1026 ls2 [])) : W p l e room_1 s m #[Value.ref b] below meth c H locs cells slots Q (F0 m 891 ls []) := by
  obtain ⟨hx, hb, hml, hown, hts, hX, hbl, hK, hNW, hL⟩ := id h
  obtain ⟨a, M2, hM2, hc, hm⟩ := op_water l g ct hR (xs (i + 1))
  refine lv_aload_n hx hb dL_law_891 rfl (lv_at hl 2 rfl) ?_
  refine z_arg (k := 1) (ki := 1) h hS hl (by decide) (by omega) dL_law_892 dL_law_893 dL_law_894 dL_law_895 dL_law_896 ?_
  refine z_pVl (wc := CW ct C) (wr := MWd ct M) (As := [.int (xs (i + 1))]) (rest := []) ⟨hx, hb, hml, hown, hts⟩ hK hP hD hS hNW (fun _ h9 => h9) (List.Perm.refl _) (z_up (rm2 := zRc 0 21 158 0) (hc H.size) (Nat.le_of_ble_eq_true rfl) (Nat.le_of_ble_eq_true rfl) (Nat.le_of_ble_eq_true rfl) (Nat.le_of_ble_eq_true rfl)) (cwV 1 hts gL_law_X9_water rfl rfl rfl (by decide +kernel) ⟨Nat.le_of_ble_eq_true rfl, Nat.le_of_ble_eq_true rfl⟩) 0 rfl rfl rfl hl.1 rfl (Nat.le_of_ble_eq_true rfl) dL_law_897 ⟨hcs.1, hcs.2⟩ (fun u H locs hP hD hS => ?_)
  obtain ⟨C2, hba, hR2⟩ := u
  have hP : va_P g vwCl (CW ct C2 ++ MWd ct M) H := hP
  have hD : va_D (AL s) (CW ct C2 ++ MWd ct M) := hD
  refine lv_aload_n hx hb dL_law_900 rfl (lv_at hl 1 rfl) ?_
  refine z_arg (k := 1) (ki := 1) h hS hl (by decide) (by omega) dL_law_901 dL_law_902 dL_law_903 dL_law_904 dL_law_905 ?_
  refine z_pVl (wc := MWd ct M) (wr := CW ct C2) (As := [.int (xs (i + 1))]) (rest := [.long a]) ⟨hx, hb, hml, hown, hts⟩ hK hP hD hS hNW (fun _ h9 => h9) List.perm_append_comm (hm H.size) (cwV 1 hts gL_law_X10_water rfl rfl rfl (by decide +kernel) ⟨Nat.le_of_ble_eq_true rfl, Nat.le_of_ble_eq_true rfl⟩) 0 rfl rfl rfl hl.1 rfl (Nat.le_of_ble_eq_true rfl) dL_law_906 ⟨hcs.1, hcs.2⟩ (fun _ H locs hP hD hS => ?_)
  refine z_lif_eq (tgt := 1026) hx hb dL_law_909 dL_law_910 (by decide) (fun _ => ?_) (fun q => absurd rfl q)
  exact kk C2 M2 H locs ls hR2 (hP.perm List.perm_append_comm) (hD.perm List.perm_append_comm) hS (by rw [hM2, hba]; exact hl)

set_option maxHeartbeats 4000000 in
set_option maxRecDepth 100000 in
theorem cs_forecast {p : Program} {e : Env} {s : State} {m : MethodId} {below : List Frame} {meth : Method} {c : Code} {b L : Nat} {xs : Nat → Int32} {Q : State → Prop} {g : va_G} {ct : Nat → ClassId} {H : Heap} {locs : List Loc} {cells slots i T : Nat} {ls : Array Slot} {C : CT} {M : MT} (l : Launch) (h : LX p s m c b L xs g ct) (hcl : Cond.constantLong RL 13 (4294967295) ∈ wsL_law) (hi : i + 6 ≤ L) (hT : T < 1000000000) (hR : Rel T C M) (hcs : cells + 21 ≤ 600000 ∧ slots + 158 ≤ 7302250) (hP : va_P g vwCl (CW ct C ++ MWd ct M) H) (hD : va_D (AL s) (CW ct C ++ MWd ct M)) (hS : va_S (AL s) s.heap H locs) (hl : lv_has ls 8 [(3, .int (nI i)), (2, .ref (j_ma M 0)), (1, .ref (k_ba C 0)), (0, .ref b)])
    (kk : ∀ (C2 : CT) (M2 : MT) (H2 : Heap) (locs2 : List Loc) (ls2 : Array Slot), Rel (T + 48) C2 M2 → va_P g vwCl (CW ct C2 ++ MWd ct M2) H2 → va_D (AL s) (CW ct C2 ++ MWd ct M2) → va_S (AL s) s.heap H2 locs2 → lv_has ls2 8 [(3, .int (nI i)), (2, .ref (j_ma M2 0)), (1, .ref (k_ba C2 0)), (0, .ref b)] → W p l e room_1 s m #[Value.ref b] below meth c H2 locs2 (cells + 21) (slots + 158) Q (F0 m 1026 ls2 [])) : W p l e room_1 s m #[Value.ref b] below meth c H locs cells slots Q (F0 m 915 ls []) := by
  obtain ⟨hx, hb, hml, hown, hts, hX, hbl, hK, hNW, hL⟩ := id h
  obtain ⟨a, M2, hM2, hc, hm⟩ := op_forecast l g ct hR hT (xs (i + 1))
  refine lv_aload_n hx hb dL_law_915 rfl (lv_at hl 2 rfl) ?_
  refine z_arg (k := 1) (ki := 1) h hS hl (by decide) (by omega) dL_law_916 dL_law_917 dL_law_918 dL_law_919 dL_law_920 ?_
  refine z_pVd (wc := CW ct C) (wr := MWd ct M) (As := [.int (xs (i + 1))]) (rest := []) ⟨hx, hb, hml, hown, hts⟩ hK hP hD hS hNW (fun _ h9 => h9) (List.Perm.refl _) (z_up (rm2 := zRc 5 21 158 122) (hc H.size) (Nat.le_of_ble_eq_true rfl) (Nat.le_of_ble_eq_true rfl) (Nat.le_of_ble_eq_true rfl) (Nat.le_of_ble_eq_true rfl)) (cwV 1 hts gL_law_X9_forecast rfl rfl rfl (by decide +kernel) ⟨Nat.le_of_ble_eq_true rfl, Nat.le_of_ble_eq_true rfl⟩) 0 rfl rfl rfl hl.1 rfl (Nat.le_of_ble_eq_true rfl) dL_law_921 ⟨hcs.1, hcs.2⟩ (fun u H locs hP hD hS => ?_)
  obtain ⟨C2, hba, hR2⟩ := u
  have hP : va_P g vwCl (CW ct C2 ++ MWd ct M) H := hP
  have hD : va_D (AL s) (CW ct C2 ++ MWd ct M) := hD
  refine lv_dstore (lv' := [(4, .double a), (3, .int (nI i)), (2, .ref (j_ma M 0)), (1, .ref (k_ba C 0)), (0, .ref b)]) hx hb dL_law_924 hl (by decide) rfl (fun ls hl => ?_)
  have hl4 := hl
  have hl := lv_sub hl [1, 2, 3, 4] rfl
  refine lv_aload_n hx hb dL_law_926 rfl (lv_at hl 1 rfl) ?_
  refine z_arg (k := 1) (ki := 1) h hS hl (by decide) (by omega) dL_law_927 dL_law_928 dL_law_929 dL_law_930 dL_law_931 ?_
  refine z_pVd (wc := MWd ct M) (wr := CW ct C2) (As := [.int (xs (i + 1))]) (rest := []) ⟨hx, hb, hml, hown, hts⟩ hK hP hD hS hNW (fun _ h9 => h9) List.perm_append_comm (hm H.size) (cwV 1 hts gL_law_X10_forecast rfl rfl rfl (by decide +kernel) ⟨Nat.le_of_ble_eq_true rfl, Nat.le_of_ble_eq_true rfl⟩) 0 rfl rfl rfl hl.1 rfl (Nat.le_of_ble_eq_true rfl) dL_law_932 ⟨hcs.1, hcs.2⟩ (fun _ H locs hP hD hS => ?_)
  refine lv_dstore (lv' := [(6, .double a), (4, .double a), (3, .int (nI i)), (2, .ref (j_ma M 0)), (1, .ref (k_ba C 0)), (0, .ref b)]) hx hb dL_law_935 hl4 (by decide) rfl (fun ls hl => ?_)
  by_cases c0 : Op.cmpValue (FP.dcmp a a) CmpOp.l = 0
  · refine lv_dload hx hb dL_law_937 (lv_at hl 1 rfl) ?_
    refine lv_dload hx hb dL_law_939 (lv_at hl 0 rfl) ?_
    refine lv_dcmp hx hb dL_law_941 ?_
    refine lv_if_eq (tgt := 963) hx hb dL_law_942 (by decide) (fun _ => ?_) (fun q => absurd c0 q)
    refine lv_goto (tgt := 1026) hx hb dL_law_963 (by decide) ?_
    exact kk C2 M2 H locs ls hR2 (hP.perm List.perm_append_comm) (hD.perm List.perm_append_comm) hS (by rw [hM2, hba]; exact lv_sub hl [2, 3, 4, 5] rfl)
  · refine lv_dload hx hb dL_law_937 (lv_at hl 1 rfl) ?_
    refine lv_dload hx hb dL_law_939 (lv_at hl 0 rfl) ?_
    refine lv_dcmp hx hb dL_law_941 ?_
    refine lv_if_eq (tgt := 963) hx hb dL_law_942 (by decide) (fun q => absurd q c0) (fun _ => ?_)
    refine lv_dload hx hb dL_law_945 (lv_at hl 1 rfl) ?_
    refine lv_dload hx hb dL_law_947 (lv_at hl 1 rfl) ?_
    refine lv_dcmp hx hb dL_law_949 ?_
    refine lv_if_eq (tgt := 961) hx hb dL_law_950 (by decide) (fun q => absurd q c0) (fun _ => ?_)
    refine lv_dload hx hb dL_law_953 (lv_at hl 0 rfl) ?_
    refine lv_dload hx hb dL_law_955 (lv_at hl 0 rfl) ?_
    refine lv_dcmp hx hb dL_law_957 ?_
    refine lv_if_ne (tgt := 963) hx hb dL_law_958 (by decide) (fun _ => ?_) (fun q => absurd q c0)
    refine lv_goto (tgt := 1026) hx hb dL_law_963 (by decide) ?_
    exact kk C2 M2 H locs ls hR2 (hP.perm List.perm_append_comm) (hD.perm List.perm_append_comm) hS (by rw [hM2, hba]; exact lv_sub hl [2, 3, 4, 5] rfl)

set_option maxHeartbeats 4000000 in
set_option maxRecDepth 100000 in
theorem cs_shutIn {p : Program} {e : Env} {s : State} {m : MethodId} {below : List Frame} {meth : Method} {c : Code} {b L : Nat} {xs : Nat → Int32} {Q : State → Prop} {g : va_G} {ct : Nat → ClassId} {H : Heap} {locs : List Loc} {cells slots i T : Nat} {ls : Array Slot} {C : CT} {M : MT} (l : Launch) (h : LX p s m c b L xs g ct) (hcl : Cond.constantLong RL 13 (4294967295) ∈ wsL_law) (hi : i + 6 ≤ L) (hT : T < 1000000000) (hR : Rel T C M) (hcs : cells + 21 ≤ 600000 ∧ slots + 158 ≤ 7302250) (hP : va_P g vwCl (CW ct C ++ MWd ct M) H) (hD : va_D (AL s) (CW ct C ++ MWd ct M)) (hS : va_S (AL s) s.heap H locs) (hl : lv_has ls 8 [(3, .int (nI i)), (2, .ref (j_ma M 0)), (1, .ref (k_ba C 0)), (0, .ref b)])
    (kk : ∀ (C2 : CT) (M2 : MT) (H2 : Heap) (locs2 : List Loc) (ls2 : Array Slot), Rel (T + 48) C2 M2 → va_P g vwCl (CW ct C2 ++ MWd ct M2) H2 → va_D (AL s) (CW ct C2 ++ MWd ct M2) → va_S (AL s) s.heap H2 locs2 → lv_has ls2 8 [(3, .int (nI i)), (2, .ref (j_ma M2 0)), (1, .ref (k_ba C2 0)), (0, .ref b)] → W p l e room_1 s m #[Value.ref b] below meth c H2 locs2 (cells + 21) (slots + 158) Q (F0 m 1026 ls2 [])) : W p l e room_1 s m #[Value.ref b] below meth c H locs cells slots Q (F0 m 966 ls []) := by
  obtain ⟨hx, hb, hml, hown, hts, hX, hbl, hK, hNW, hL⟩ := id h
  obtain ⟨a, M2, hM2, hc, hm⟩ := op_shutIn l g ct hR hT 
  refine lv_aload_n hx hb dL_law_966 rfl (lv_at hl 2 rfl) ?_
  refine z_pVi (wc := CW ct C) (wr := MWd ct M) (As := []) (rest := []) ⟨hx, hb, hml, hown, hts⟩ hK hP hD hS hNW (fun _ h9 => h9) (List.Perm.refl _) (z_up (rm2 := zRc 5 21 158 122) (hc H.size) (Nat.le_of_ble_eq_true rfl) (Nat.le_of_ble_eq_true rfl) (Nat.le_of_ble_eq_true rfl) (Nat.le_of_ble_eq_true rfl)) (cwV 0 hts gL_law_X9_shutIn rfl rfl rfl (by decide +kernel) ⟨Nat.le_of_ble_eq_true rfl, Nat.le_of_ble_eq_true rfl⟩) 0 rfl rfl rfl hl.1 rfl (Nat.le_of_ble_eq_true rfl) dL_law_967 ⟨hcs.1, hcs.2⟩ (fun u H locs hP hD hS => ?_)
  obtain ⟨C2, hba, hR2⟩ := u
  have hP : va_P g vwCl (CW ct C2 ++ MWd ct M) H := hP
  have hD : va_D (AL s) (CW ct C2 ++ MWd ct M) := hD
  refine lv_aload_n hx hb dL_law_970 rfl (lv_at hl 1 rfl) ?_
  refine z_pVi (wc := MWd ct M) (wr := CW ct C2) (As := []) (rest := [.int a]) ⟨hx, hb, hml, hown, hts⟩ hK hP hD hS hNW (fun _ h9 => h9) List.perm_append_comm (hm H.size) (cwV 0 hts gL_law_X10_shutIn rfl rfl rfl (by decide +kernel) ⟨Nat.le_of_ble_eq_true rfl, Nat.le_of_ble_eq_true rfl⟩) 0 rfl rfl rfl hl.1 rfl (Nat.le_of_ble_eq_true rfl) dL_law_971 ⟨hcs.1, hcs.2⟩ (fun _ H locs hP hD hS => ?_)
  refine lv_icmp_eq (tgt := 1026) hx hb dL_law_974 (by decide) (fun _ => ?_) (fun q => absurd rfl q)
  exact kk C2 M2 H locs ls hR2 (hP.perm List.perm_append_comm) (hD.perm List.perm_append_comm) hS (by rw [hM2, hba]; exact hl)

set_option maxHeartbeats 4000000 in
set_option maxRecDepth 100000 in
theorem cs_tide {p : Program} {e : Env} {s : State} {m : MethodId} {below : List Frame} {meth : Method} {c : Code} {b L : Nat} {xs : Nat → Int32} {Q : State → Prop} {g : va_G} {ct : Nat → ClassId} {H : Heap} {locs : List Loc} {cells slots i T : Nat} {ls : Array Slot} {C : CT} {M : MT} (l : Launch) (h : LX p s m c b L xs g ct) (hcl : Cond.constantLong RL 13 (4294967295) ∈ wsL_law) (hi : i + 6 ≤ L) (hT : T < 1000000000) (hR : Rel T C M) (hcs : cells + 21 ≤ 600000 ∧ slots + 158 ≤ 7302250) (hP : va_P g vwCl (CW ct C ++ MWd ct M) H) (hD : va_D (AL s) (CW ct C ++ MWd ct M)) (hS : va_S (AL s) s.heap H locs) (hl : lv_has ls 8 [(3, .int (nI i)), (2, .ref (j_ma M 0)), (1, .ref (k_ba C 0)), (0, .ref b)])
    (kk : ∀ (C2 : CT) (M2 : MT) (H2 : Heap) (locs2 : List Loc) (ls2 : Array Slot), Rel (T + 48) C2 M2 → va_P g vwCl (CW ct C2 ++ MWd ct M2) H2 → va_D (AL s) (CW ct C2 ++ MWd ct M2) → va_S (AL s) s.heap H2 locs2 → lv_has ls2 8 [(3, .int (nI i)), (2, .ref (j_ma M2 0)), (1, .ref (k_ba C2 0)), (0, .ref b)] → W p l e room_1 s m #[Value.ref b] below meth c H2 locs2 (cells + 21) (slots + 158) Q (F0 m 1026 ls2 [])) : W p l e room_1 s m #[Value.ref b] below meth c H locs cells slots Q (F0 m 979 ls []) := by
  obtain ⟨hx, hb, hml, hown, hts, hX, hbl, hK, hNW, hL⟩ := id h
  obtain ⟨a, M2, hM2, hc, hm⟩ := op_tide l g ct hR (xs (i + 1))
  refine lv_aload_n hx hb dL_law_979 rfl (lv_at hl 2 rfl) ?_
  refine z_arg (k := 1) (ki := 1) h hS hl (by decide) (by omega) dL_law_980 dL_law_981 dL_law_982 dL_law_983 dL_law_984 ?_
  refine z_pVl (wc := CW ct C) (wr := MWd ct M) (As := [.int (xs (i + 1))]) (rest := []) ⟨hx, hb, hml, hown, hts⟩ hK hP hD hS hNW (fun _ h9 => h9) (List.Perm.refl _) (z_up (rm2 := zRc 1 21 158 20) (hc H.size) (Nat.le_of_ble_eq_true rfl) (Nat.le_of_ble_eq_true rfl) (Nat.le_of_ble_eq_true rfl) (Nat.le_of_ble_eq_true rfl)) (cwV 1 hts gL_law_X9_tide rfl rfl rfl (by decide +kernel) ⟨Nat.le_of_ble_eq_true rfl, Nat.le_of_ble_eq_true rfl⟩) 0 rfl rfl rfl hl.1 rfl (Nat.le_of_ble_eq_true rfl) dL_law_985 ⟨hcs.1, hcs.2⟩ (fun u H locs hP hD hS => ?_)
  obtain ⟨C2, hba, hR2⟩ := u
  have hP : va_P g vwCl (CW ct C2 ++ MWd ct M) H := hP
  have hD : va_D (AL s) (CW ct C2 ++ MWd ct M) := hD
  refine lv_aload_n hx hb dL_law_988 rfl (lv_at hl 1 rfl) ?_
  refine z_arg (k := 1) (ki := 1) h hS hl (by decide) (by omega) dL_law_989 dL_law_990 dL_law_991 dL_law_992 dL_law_993 ?_
  refine z_pVl (wc := MWd ct M) (wr := CW ct C2) (As := [.int (xs (i + 1))]) (rest := [.long a]) ⟨hx, hb, hml, hown, hts⟩ hK hP hD hS hNW (fun _ h9 => h9) List.perm_append_comm (hm H.size) (cwV 1 hts gL_law_X10_tide rfl rfl rfl (by decide +kernel) ⟨Nat.le_of_ble_eq_true rfl, Nat.le_of_ble_eq_true rfl⟩) 0 rfl rfl rfl hl.1 rfl (Nat.le_of_ble_eq_true rfl) dL_law_994 ⟨hcs.1, hcs.2⟩ (fun _ H locs hP hD hS => ?_)
  refine z_lif_eq (tgt := 1026) hx hb dL_law_997 dL_law_998 (by decide) (fun _ => ?_) (fun q => absurd rfl q)
  exact kk C2 M2 H locs ls hR2 (hP.perm List.perm_append_comm) (hD.perm List.perm_append_comm) hS (by rw [hM2, hba]; exact hl)

set_option maxHeartbeats 4000000 in
set_option maxRecDepth 100000 in
theorem cs_count {p : Program} {e : Env} {s : State} {m : MethodId} {below : List Frame} {meth : Method} {c : Code} {b L : Nat} {xs : Nat → Int32} {Q : State → Prop} {g : va_G} {ct : Nat → ClassId} {H : Heap} {locs : List Loc} {cells slots i T : Nat} {ls : Array Slot} {C : CT} {M : MT} (l : Launch) (h : LX p s m c b L xs g ct) (hcl : Cond.constantLong RL 13 (4294967295) ∈ wsL_law) (hi : i + 6 ≤ L) (hT : T < 1000000000) (hR : Rel T C M) (hcs : cells + 21 ≤ 600000 ∧ slots + 158 ≤ 7302250) (hP : va_P g vwCl (CW ct C ++ MWd ct M) H) (hD : va_D (AL s) (CW ct C ++ MWd ct M)) (hS : va_S (AL s) s.heap H locs) (hl : lv_has ls 8 [(3, .int (nI i)), (2, .ref (j_ma M 0)), (1, .ref (k_ba C 0)), (0, .ref b)])
    (kk : ∀ (C2 : CT) (M2 : MT) (H2 : Heap) (locs2 : List Loc) (ls2 : Array Slot), Rel (T + 48) C2 M2 → va_P g vwCl (CW ct C2 ++ MWd ct M2) H2 → va_D (AL s) (CW ct C2 ++ MWd ct M2) → va_S (AL s) s.heap H2 locs2 → lv_has ls2 8 [(3, .int (nI i)), (2, .ref (j_ma M2 0)), (1, .ref (k_ba C2 0)), (0, .ref b)] → W p l e room_1 s m #[Value.ref b] below meth c H2 locs2 (cells + 21) (slots + 158) Q (F0 m 1026 ls2 [])) : W p l e room_1 s m #[Value.ref b] below meth c H locs cells slots Q (F0 m 1003 ls []) := by
  obtain ⟨hx, hb, hml, hown, hts, hX, hbl, hK, hNW, hL⟩ := id h
  obtain ⟨a, M2, hM2, hc, hm⟩ := op_count l g ct hR (xs (i + 1))
  refine lv_aload_n hx hb dL_law_1003 rfl (lv_at hl 2 rfl) ?_
  refine z_arg (k := 1) (ki := 1) h hS hl (by decide) (by omega) dL_law_1004 dL_law_1005 dL_law_1006 dL_law_1007 dL_law_1008 ?_
  refine z_pVi (wc := CW ct C) (wr := MWd ct M) (As := [.int (xs (i + 1))]) (rest := []) ⟨hx, hb, hml, hown, hts⟩ hK hP hD hS hNW (fun _ h9 => h9) (List.Perm.refl _) (z_up (rm2 := zRc 2 21 158 42) (hc H.size) (Nat.le_of_ble_eq_true rfl) (Nat.le_of_ble_eq_true rfl) (Nat.le_of_ble_eq_true rfl) (Nat.le_of_ble_eq_true rfl)) (cwV 1 hts gL_law_X9_count rfl rfl rfl (by decide +kernel) ⟨Nat.le_of_ble_eq_true rfl, Nat.le_of_ble_eq_true rfl⟩) 0 rfl rfl rfl hl.1 rfl (Nat.le_of_ble_eq_true rfl) dL_law_1009 ⟨hcs.1, hcs.2⟩ (fun u H locs hP hD hS => ?_)
  obtain ⟨C2, hba, hR2⟩ := u
  have hP : va_P g vwCl (CW ct C2 ++ MWd ct M) H := hP
  have hD : va_D (AL s) (CW ct C2 ++ MWd ct M) := hD
  refine lv_aload_n hx hb dL_law_1012 rfl (lv_at hl 1 rfl) ?_
  refine z_arg (k := 1) (ki := 1) h hS hl (by decide) (by omega) dL_law_1013 dL_law_1014 dL_law_1015 dL_law_1016 dL_law_1017 ?_
  refine z_pVi (wc := MWd ct M) (wr := CW ct C2) (As := [.int (xs (i + 1))]) (rest := [.int a]) ⟨hx, hb, hml, hown, hts⟩ hK hP hD hS hNW (fun _ h9 => h9) List.perm_append_comm (hm H.size) (cwV 1 hts gL_law_X10_count rfl rfl rfl (by decide +kernel) ⟨Nat.le_of_ble_eq_true rfl, Nat.le_of_ble_eq_true rfl⟩) 0 rfl rfl rfl hl.1 rfl (Nat.le_of_ble_eq_true rfl) dL_law_1018 ⟨hcs.1, hcs.2⟩ (fun _ H locs hP hD hS => ?_)
  refine lv_icmp_eq (tgt := 1026) hx hb dL_law_1021 (by decide) (fun _ => ?_) (fun q => absurd rfl q)
  exact kk C2 M2 H locs ls hR2 (hP.perm List.perm_append_comm) (hD.perm List.perm_append_comm) hS (by rw [hM2, hba]; exact hl)
