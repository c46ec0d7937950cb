set_option maxHeartbeats 4000000 in
set_option maxRecDepth 100000 in
theorem c_L_low (l : Launch) (x : Int32) (n : Nat) (hn0 : 0 < n) (hn1 : n < 2 ^ 31) : Met l yL_low wsL_low (zRm 0 0) (va_Pc [.int x, .int (nI n)] (fun _ => True)) (vp_Si (fun r => r = nI (lowN x n))) 0 0 (fun _ => False) := by
  refine z_stat (cc := cL_low) (maxL := 2) (ret := some .int) (by decide) rfl (Nat.le_of_ble_eq_true rfl) ?_
  intro p e s m below meth c ls hx hb hr hml hts hown hlocks hl
  have hown : s.vm.findClass RL = some m.cls := hown
  have hl : lv_has ls 2 [(0, .int x), (1, .int (nI n))] := hl
  refine lv_iload_n hx hb dL_low_0 rfl (lv_at hl 0 rfl) ?_
  refine lv_ldc (v := 2147483647) hx hb hown (hts (.constant RL 8 (2147483647)) (List.mem_of_getElem? (i := 1) rfl)) dL_low_1 ?_
  refine lv_iand hx hb dL_low_3 ?_
  rw [lw_and x]
  refine lv_iload_n hx hb dL_low_4 rfl (lv_at hl 1 rfl) ?_
  refine lv_irem hx hb dL_low_5 (nI_ne0 hn0 hn1) ?_
  rw [pk_rem (by omega) hn0 hn1]
  exact z_iretR hx hb hr hlocks rfl rfl dL_low_6

set_option maxHeartbeats 4000000 in
set_option maxRecDepth 100000 in
theorem c_L_bits (l : Launch) (k : Nat) (hk : k < 6) : Met l yL_bits wsL_bits (zRm 0 0) (va_Pc [.int (nI k)] (fun _ => True)) (vp_Sl (fun r => r = btS k)) 0 0 (fun _ => False) := by
  refine z_stat (cc := cL_bits) (maxL := 1) (ret := some .long) (by decide) rfl (Nat.le_of_ble_eq_true rfl) ?_
  intro p e s m below meth c ls hx hb hr hml hts hown hlocks hl
  have hown : s.vm.findClass RL = some m.cls := hown
  have hl : lv_has ls 1 [(0, .int (nI k))] := hl
  refine lv_iload_n hx hb dL_bits_0 rfl (lv_at hl 0 rfl) ?_
  refine z_ifN_ne (x := k) (tgt := 8) hx hb (by omega) dL_bits_1 (by decide) (fun c_1 => ?_) (fun c_1 => ?_)
  · refine lv_iload_n hx hb dL_bits_8 rfl (lv_at hl 0 rfl) ?_
    refine lv_iconst (v := 1) hx hb dL_bits_9 (by decide) ?_
    refine z_icN_ne (x := k) (y := 1) (tgt := 19) hx hb (by omega) (by omega) dL_bits_10 (by decide) (fun c_2 => ?_) (fun c_2 => ?_)
    · refine lv_iload_n hx hb dL_bits_19 rfl (lv_at hl 0 rfl) ?_
      refine lv_iconst (v := 2) hx hb dL_bits_20 (by decide) ?_
      refine z_icN_ne (x := k) (y := 2) (tgt := 30) hx hb (by omega) (by omega) dL_bits_21 (by decide) (fun c_3 => ?_) (fun c_3 => ?_)
      · refine lv_iload_n hx hb dL_bits_30 rfl (lv_at hl 0 rfl) ?_
        refine lv_iconst (v := 3) hx hb dL_bits_31 (by decide) ?_
        refine z_icN_ne (x := k) (y := 3) (tgt := 41) hx hb (by omega) (by omega) dL_bits_32 (by decide) (fun c_4 => ?_) (fun c_4 => ?_)
        · refine lv_iload_n hx hb dL_bits_41 rfl (lv_at hl 0 rfl) ?_
          refine lv_iconst (v := 4) hx hb dL_bits_42 (by decide) ?_
          refine z_icN_ne (x := k) (y := 4) (tgt := 52) hx hb (by omega) (by omega) dL_bits_43 (by decide) (fun c_5 => ?_) (fun c_5 => ?_)
          · refine lv_ldc2 (v := 4619004367821864960) hx hb hown (hts (.constantLong RL 54 (4619004367821864960)) (List.mem_of_getElem? (i := 5) rfl)) dL_bits_52 ?_
            exact z_lretR hx hb hr hlocks rfl (by unfold btS; rw [if_neg c_1, if_neg c_2, if_neg c_3, if_neg c_4, if_neg c_5]) dL_bits_55
          · refine lv_ldc2 (v := 4607182418800017408) hx hb hown (hts (.constantLong RL 52 (4607182418800017408)) (List.mem_of_getElem? (i := 4) rfl)) dL_bits_46 ?_
            refine lv_goto (tgt := 55) hx hb dL_bits_49 (by decide) ?_
            exact z_lretR hx hb hr hlocks rfl (by unfold btS; rw [if_neg c_1, if_neg c_2, if_neg c_3, if_neg c_4, if_pos c_5]) dL_bits_55
        · refine lv_ldc2 (v := 4616189618054758400) hx hb hown (hts (.constantLong RL 50 (4616189618054758400)) (List.mem_of_getElem? (i := 3) rfl)) dL_bits_35 ?_
          refine lv_goto (tgt := 55) hx hb dL_bits_38 (by decide) ?_
          exact z_lretR hx hb hr hlocks rfl (by unfold btS; rw [if_neg c_1, if_neg c_2, if_neg c_3, if_pos c_4]) dL_bits_55
      · refine lv_ldc2 (v := (-4613937818241073152)) hx hb hown (hts (.constantLong RL 48 (-4613937818241073152)) (List.mem_of_getElem? (i := 2) rfl)) dL_bits_24 ?_
        refine lv_goto (tgt := 55) hx hb dL_bits_27 (by decide) ?_
        exact z_lretR hx hb hr hlocks rfl (by unfold btS; rw [if_neg c_1, if_neg c_2, if_pos c_3]) dL_bits_55
    · refine lv_ldc2 (v := 4612811918334230528) hx hb hown (hts (.constantLong RL 46 (4612811918334230528)) (List.mem_of_getElem? (i := 1) rfl)) dL_bits_13 ?_
      refine lv_goto (tgt := 55) hx hb dL_bits_16 (by decide) ?_
      exact z_lretR hx hb hr hlocks rfl (by unfold btS; rw [if_neg c_1, if_pos c_2]) dL_bits_55
  · refine lv_lconst (v := 0) hx hb dL_bits_4 (by decide) ?_
    refine lv_goto (tgt := 55) hx hb dL_bits_5 (by decide) ?_
    exact z_lretR hx hb hr hlocks rfl (by unfold btS; rw [if_pos c_1]) dL_bits_55

def celN (xs : Nat → Int32) (L k : Nat) : Int32 := if k < L then xs k else 2780013 * nI k + 1429
theorem c_L_cell (l : Launch) (b L : Nat) (xs : Nat → Int32) (k : Nat) (hk : k < 2 ^ 31) (hL : L < 2 ^ 31) : Met l yL_cell wsL_cell (zRm 0 0) (va_Pc [.ref b, .int (nI k)] (fun U => va_X b L xs U U.heap ∧ b < U.heap.size)) (vp_Si (fun r => r = celN xs L k)) 0 0 (fun _ => False) := by
  refine Met.ofW (cc := cL_cell) (maxL := 2) (ret := some .int) (by decide) rfl ?_
  intro p e s m args below meth c s₁ B hml hv
  obtain ⟨rfl, hX, hbl⟩ := hv
  have hl := lv_entry [.ref b, .int (nI k)] (n := 2) (Nat.le_of_ble_eq_true rfl)
  rw [lg_entry_eq]
  have hl : lv_has _ 2 [(0, .ref b), (1, .int (nI k))] := hl
  have hx := B.exec
  have hb := B.bytes
  have hts := atoms_spec (ws := wsL_cell) B.pre
  have hown : s.vm.findClass RL = some m.cls := findClass_of_methodNamed B.named
  have hr := B.returns
  have hlocks := B.notSynchronized
  have hS : va_S (fun _ => False) s.heap s.heap [] := va_S.rf
  refine lv_iload_n hx hb dL_cell_0 rfl (lv_at hl 1 rfl) ?_
  refine lv_aload_n hx hb dL_cell_1 rfl (lv_at hl 0 rfl) ?_
  refine va_slen hx hb hX hbl (fun q => q) hS dL_cell_2 ?_
  refine z_icN_ge (x := k) (y := L) (tgt := 12) hx hb hk hL dL_cell_3 (by decide) (fun c_1 => ?_) (fun c_1 => ?_)
  · refine lv_ldc (v := 2780013) hx hb hown (hts (.constant RL 7 (2780013)) (List.mem_of_getElem? (i := 1) rfl)) dL_cell_12 ?_
    refine lv_iload_n hx hb dL_cell_14 rfl (lv_at hl 1 rfl) ?_
    refine lv_imul hx hb dL_cell_15 ?_
    refine lv_sipush (v := 1429) hx hb dL_cell_16 (by decide) ?_
    refine lv_iadd hx hb dL_cell_19 ?_
    exact z_iretR hx hb hr hlocks rfl (if_neg c_1).symm dL_cell_20
  · refine lv_aload_n hx hb dL_cell_6 rfl (lv_at hl 0 rfl) ?_
    refine lv_iload_n hx hb dL_cell_7 rfl (lv_at hl 1 rfl) ?_
    refine va_sld hx hb hX hbl (fun q => q) hS (vp_in_nI c_1 hL) dL_cell_8 ?_
    rw [nI_clamp hk]
    refine lv_goto (tgt := 20) hx hb dL_cell_9 (by decide) ?_
    exact z_iretR hx hb hr hlocks rfl (if_pos c_1).symm dL_cell_20
