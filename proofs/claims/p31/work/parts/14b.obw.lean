theorem ob_z {x : Int64} (h : x &&& 9223372036854775807 = 0) : FP.dconst0 = obY x := by
  have h1 := congrArg (fun q => q.toUInt64.toNat) h
  have h2 : (x &&& 9223372036854775807).toUInt64.toNat = x.toUInt64.toNat % 2 ^ 63 := nu_mask x
  have h3 : x.toUInt64.toNat % 2 ^ 63 = 0 := h2.symm.trans h1
  unfold obY
  rw [h3]
  rfl
theorem ob_fm (x : Int64) : x &&& 9223372036854775807 &&& 4503599627370495 = x &&& 4503599627370495 := by
  rw [Int64.and_assoc]
  rfl

set_option maxHeartbeats 4000000 in
set_option maxRecDepth 100000 in
theorem c_X3_sizeOf1 (l : Launch) (x : Int64) (hx0 : lvOk x) : Met l yX3_sizeOf wsX3_sizeOf (zRm 1 25) (va_Pc [.long (x &&& 9223372036854775807)] (fun _ => True)) (vp_Sd (fun r => r = obY x)) 0 0 (fun _ => False) := by
  refine z_stat (cc := cX3_sizeOf) (maxL := 10) (ret := some .double) (by decide) rfl (Nat.le_of_ble_eq_true rfl) ?_
  intro p e s m below meth c ls hx hb hr hml hts hown hlocks hl
  have hown : s.vm.findClass RX3 = some m.cls := hown
  have hl : lv_has ls 10 [(0, .long (x &&& 9223372036854775807))] := hl
  have hoE := obE_le hx0
  have hoH : obH x ≤ 1074 := by unfold obH; omega
  refine lv_lload_n hx hb dX3_sizeOf_0 rfl (lv_at hl 0 rfl) ?_
  refine lv_lconst (v := 0) hx hb dX3_sizeOf_1 (by decide) ?_
  refine z_lif_ne (tgt := 8) hx hb dX3_sizeOf_2 dX3_sizeOf_3 (by decide) (fun c_1 => ?_) (fun c_1 => ?_)
  · refine lv_lload_n hx hb dX3_sizeOf_8 rfl (lv_at hl 0 rfl) ?_
    refine lv_bipush (v := 52) hx hb dX3_sizeOf_9 (by decide) ?_
    refine lv_lushr hx hb dX3_sizeOf_11 rfl ?_
    refine lv_l2i (v := (((x &&& 9223372036854775807).toUInt64 >>> (((52 : Int32)).toInt64.toUInt64 &&& Int64.toUInt64 63)).toInt64).toInt32) hx hb dX3_sizeOf_12 rfl ?_
    rw [ob_e x]
    refine lv_istore_n (lv' := [(2, .int (nI (obE x))), (0, .long (x &&& 9223372036854775807))]) hx hb dX3_sizeOf_13 rfl hl (by decide) rfl (fun ls hl => ?_)
    refine lv_lload_n hx hb dX3_sizeOf_14 rfl (lv_at hl 1 rfl) ?_
    refine lv_ldc2 (v := 4503599627370495) hx hb hown (hts (.constantLong RX3 19 (4503599627370495)) (List.mem_of_getElem? (i := 1) rfl)) dX3_sizeOf_15 ?_
    refine lv_land hx hb dX3_sizeOf_18 ?_
    rw [ob_fm x]
    refine lv_lstore_n (lv' := [(3, .long (x &&& 4503599627370495)), (2, .int (nI (obE x))), (0, .long (x &&& 9223372036854775807))]) hx hb dX3_sizeOf_19 rfl hl (by decide) rfl (fun ls hl => ?_)
    refine lv_iload_n hx hb dX3_sizeOf_20 rfl (lv_at hl 1 rfl) ?_
    refine z_ifN_ne (x := (obE x)) (tgt := 28) hx hb (by omega) dX3_sizeOf_21 (by decide) (fun c_2 => ?_) (fun c_2 => ?_)
    · refine lv_lload_n hx hb dX3_sizeOf_28 rfl (lv_at hl 0 rfl) ?_
      refine lv_ldc2 (v := 4503599627370496) hx hb hown (hts (.constantLong RX3 21 (4503599627370496)) (List.mem_of_getElem? (i := 2) rfl)) dX3_sizeOf_29 ?_
      refine lv_lor hx hb dX3_sizeOf_32 ?_
      rw [ob_w1 c_2]
      refine lv_lstore (lv' := [(5, .long (obL x)), (3, .long (x &&& 4503599627370495)), (2, .int (nI (obE x))), (0, .long (x &&& 9223372036854775807))]) hx hb dX3_sizeOf_33 hl (by decide) rfl (fun ls hl => ?_)
      refine lv_sipush (v := 1075) hx hb dX3_sizeOf_35 (by decide) ?_
      refine lv_iload_n hx hb dX3_sizeOf_38 rfl (lv_at hl 2 rfl) ?_
      refine lv_iconst (v := 1) hx hb dX3_sizeOf_39 (by decide) ?_
      refine va_mmax hx hb (hml.trans hl.1.symm) hown (hts (.methodLink RX3 23 Lib.Math.max.name) (List.mem_of_getElem? (i := 3) rfl)) (hts (.static Lib.Math.max.name) (List.mem_of_getElem? (i := 4) rfl)) (hts (.initialized "java/lang/Math") (List.mem_of_getElem? (i := 5) rfl)) (hts (.code Lib.Math.max.name Lib.Math.max.code 2 (some .int)) (List.mem_of_getElem? (i := 6) rfl)) (Nat.le_of_ble_eq_true rfl) (Nat.le_of_ble_eq_true rfl) (Nat.zero_le _) (Nat.zero_le _) dX3_sizeOf_40 ?_
      refine lv_isub hx hb dX3_sizeOf_43 ?_
      rw [ob_h hx0]
      refine lv_istore (lv' := [(7, .int (nI (obH x))), (5, .long (obL x)), (3, .long (x &&& 4503599627370495)), (2, .int (nI (obE x))), (0, .long (x &&& 9223372036854775807))]) hx hb dX3_sizeOf_44 hl (by decide) rfl (fun ls hl => ?_)
      refine lv_lload hx hb dX3_sizeOf_46 (lv_at hl 1 rfl) ?_
      refine lv_l2d hx hb dX3_sizeOf_48 ?_
      rw [show FP.l2d (obL x) = obR x 0 from rfl]
      refine lv_dstore (lv' := [(8, .double (obR x 0)), (7, .int (nI (obH x))), (5, .long (obL x)), (3, .long (x &&& 4503599627370495)), (2, .int (nI (obE x))), (0, .long (x &&& 9223372036854775807))]) hx hb dX3_sizeOf_49 hl (by decide) rfl (fun ls hl => ?_)
      refine z_loop 40 (fun k1 H2 locs2 ls => H2 = s.heap ∧ locs2 = [] ∧ (32 * k1 ≤ obH x) ∧ lv_has ls 10 [(0, .long (x &&& 9223372036854775807)), (2, .int (nI (obE x))), (3, .long (x &&& 4503599627370495)), (5, .long (obL x)), (7, .int (nI (obH x - 32 * k1))), (8, .double (obR x k1))]) ⟨rfl, rfl, (Nat.zero_le _), lv_sub hl [5, 4, 3, 2, 1, 0] rfl⟩ ?_
      intro k1 H2 locs2 ls hkk1 hI ihk1
      obtain ⟨rfl, rfl, hB, hl⟩ := hI
      refine lv_iload hx hb dX3_sizeOf_51 (lv_at hl 4 rfl) ?_
      refine lv_bipush (v := 32) hx hb dX3_sizeOf_53 (by decide) ?_
      refine z_icN_le (x := (obH x - 32 * k1)) (y := 32) (tgt := 72) hx hb (by omega) (by omega) dX3_sizeOf_55 (by decide) (fun c_3 => ?_) (fun c_3 => ?_)
      · refine lv_dload hx hb dX3_sizeOf_72 (lv_at hl 5 rfl) ?_
        refine lv_lconst (v := 1) hx hb dX3_sizeOf_74 (by decide) ?_
        refine lv_iload hx hb dX3_sizeOf_75 (lv_at hl 4 rfl) ?_
        refine lv_lshl hx hb dX3_sizeOf_77 rfl ?_
        refine lv_l2d hx hb dX3_sizeOf_78 ?_
        refine lv_ddiv hx hb dX3_sizeOf_79 (ob_nn (ob_fv hx0 (by omega) (by assumption))) ?_
        rw [ob_fin hx0 (by omega) (by assumption)]
        exact z_dretR hx hb hr hlocks rfl rfl dX3_sizeOf_80
      · refine lv_dload hx hb dX3_sizeOf_58 (lv_at hl 5 rfl) ?_
        refine lv_ldc2d (v := 4751297606875873280) hx hb hown (hts (.constantDouble RX3 29 (4751297606875873280)) (List.mem_of_getElem? (i := 7) rfl)) dX3_sizeOf_60 ?_
        refine lv_ddiv hx hb dX3_sizeOf_63 (ob_nn (ob_R hx0 (k := k1 + 1) (by omega))) ?_
        refine lv_dstore (lv' := [(8, .double (FP.ddiv (obR x k1) 4751297606875873280)), (0, .long (x &&& 9223372036854775807)), (2, .int (nI (obE x))), (3, .long (x &&& 4503599627370495)), (5, .long (obL x)), (7, .int (nI (obH x - 32 * k1)))]) hx hb dX3_sizeOf_64 hl (by decide) rfl (fun ls hl => ?_)
        refine lv_iinc (v := (nI (obH x - 32 * k1)) + (-32)) (lv' := [(7, .int ((nI (obH x - 32 * k1)) + (-32))), (8, .double (FP.ddiv (obR x k1) 4751297606875873280)), (0, .long (x &&& 9223372036854775807)), (2, .int (nI (obE x))), (3, .long (x &&& 4503599627370495)), (5, .long (obL x))]) hx hb dX3_sizeOf_66 hl (k := 5) rfl rfl (by decide) rfl (fun ls hl => ?_)
        refine lv_goto (tgt := 51) hx hb dX3_sizeOf_69 (by decide) ?_
        exact ihk1 _ _ _ (by omega) ⟨rfl, rfl, (by omega), (by rw [show nI (obH x - 32 * (k1 + 1)) = nI (obH x - 32 * k1) + (-32) from ob_dn (a := obH x) (b := 32 * k1) (by omega)]; exact lv_sub hl [2, 3, 4, 5, 0, 1] rfl)⟩
    · refine lv_lload_n hx hb dX3_sizeOf_24 rfl (lv_at hl 0 rfl) ?_
      rw [ob_w0 c_2]
      refine lv_goto (tgt := 33) hx hb dX3_sizeOf_25 (by decide) ?_
      refine lv_lstore (lv' := [(5, .long (obL x)), (3, .long (x &&& 4503599627370495)), (2, .int (nI (obE x))), (0, .long (x &&& 9223372036854775807))]) hx hb dX3_sizeOf_33 hl (by decide) rfl (fun ls hl => ?_)
      refine lv_sipush (v := 1075) hx hb dX3_sizeOf_35 (by decide) ?_
      refine lv_iload_n hx hb dX3_sizeOf_38 rfl (lv_at hl 2 rfl) ?_
      refine lv_iconst (v := 1) hx hb dX3_sizeOf_39 (by decide) ?_
      refine va_mmax hx hb (hml.trans hl.1.symm) hown (hts (.methodLink RX3 23 Lib.Math.max.name) (List.mem_of_getElem? (i := 3) rfl)) (hts (.static Lib.Math.max.name) (List.mem_of_getElem? (i := 4) rfl)) (hts (.initialized "java/lang/Math") (List.mem_of_getElem? (i := 5) rfl)) (hts (.code Lib.Math.max.name Lib.Math.max.code 2 (some .int)) (List.mem_of_getElem? (i := 6) rfl)) (Nat.le_of_ble_eq_true rfl) (Nat.le_of_ble_eq_true rfl) (Nat.zero_le _) (Nat.zero_le _) dX3_sizeOf_40 ?_
      refine lv_isub hx hb dX3_sizeOf_43 ?_
      rw [ob_h hx0]
      refine lv_istore (lv' := [(7, .int (nI (obH x))), (5, .long (obL x)), (3, .long (x &&& 4503599627370495)), (2, .int (nI (obE x))), (0, .long (x &&& 9223372036854775807))]) hx hb dX3_sizeOf_44 hl (by decide) rfl (fun ls hl => ?_)
      refine lv_lload hx hb dX3_sizeOf_46 (lv_at hl 1 rfl) ?_
      refine lv_l2d hx hb dX3_sizeOf_48 ?_
      rw [show FP.l2d (obL x) = obR x 0 from rfl]
      refine lv_dstore (lv' := [(8, .double (obR x 0)), (7, .int (nI (obH x))), (5, .long (obL x)), (3, .long (x &&& 4503599627370495)), (2, .int (nI (obE x))), (0, .long (x &&& 9223372036854775807))]) hx hb dX3_sizeOf_49 hl (by decide) rfl (fun ls hl => ?_)
      refine z_loop 40 (fun k1 H2 locs2 ls => H2 = s.heap ∧ locs2 = [] ∧ (32 * k1 ≤ obH x) ∧ lv_has ls 10 [(0, .long (x &&& 9223372036854775807)), (2, .int (nI (obE x))), (3, .long (x &&& 4503599627370495)), (5, .long (obL x)), (7, .int (nI (obH x - 32 * k1))), (8, .double (obR x k1))]) ⟨rfl, rfl, (Nat.zero_le _), lv_sub hl [5, 4, 3, 2, 1, 0] rfl⟩ ?_
      intro k1 H2 locs2 ls hkk1 hI ihk1
      obtain ⟨rfl, rfl, hB, hl⟩ := hI
      refine lv_iload hx hb dX3_sizeOf_51 (lv_at hl 4 rfl) ?_
      refine lv_bipush (v := 32) hx hb dX3_sizeOf_53 (by decide) ?_
      refine z_icN_le (x := (obH x - 32 * k1)) (y := 32) (tgt := 72) hx hb (by omega) (by omega) dX3_sizeOf_55 (by decide) (fun c_4 => ?_) (fun c_4 => ?_)
      · refine lv_dload hx hb dX3_sizeOf_72 (lv_at hl 5 rfl) ?_
        refine lv_lconst (v := 1) hx hb dX3_sizeOf_74 (by decide) ?_
        refine lv_iload hx hb dX3_sizeOf_75 (lv_at hl 4 rfl) ?_
        refine lv_lshl hx hb dX3_sizeOf_77 rfl ?_
        refine lv_l2d hx hb dX3_sizeOf_78 ?_
        refine lv_ddiv hx hb dX3_sizeOf_79 (ob_nn (ob_fv hx0 (by omega) (by assumption))) ?_
        rw [ob_fin hx0 (by omega) (by assumption)]
        exact z_dretR hx hb hr hlocks rfl rfl dX3_sizeOf_80
      · refine lv_dload hx hb dX3_sizeOf_58 (lv_at hl 5 rfl) ?_
        refine lv_ldc2d (v := 4751297606875873280) hx hb hown (hts (.constantDouble RX3 29 (4751297606875873280)) (List.mem_of_getElem? (i := 7) rfl)) dX3_sizeOf_60 ?_
        refine lv_ddiv hx hb dX3_sizeOf_63 (ob_nn (ob_R hx0 (k := k1 + 1) (by omega))) ?_
        refine lv_dstore (lv' := [(8, .double (FP.ddiv (obR x k1) 4751297606875873280)), (0, .long (x &&& 9223372036854775807)), (2, .int (nI (obE x))), (3, .long (x &&& 4503599627370495)), (5, .long (obL x)), (7, .int (nI (obH x - 32 * k1)))]) hx hb dX3_sizeOf_64 hl (by decide) rfl (fun ls hl => ?_)
        refine lv_iinc (v := (nI (obH x - 32 * k1)) + (-32)) (lv' := [(7, .int ((nI (obH x - 32 * k1)) + (-32))), (8, .double (FP.ddiv (obR x k1) 4751297606875873280)), (0, .long (x &&& 9223372036854775807)), (2, .int (nI (obE x))), (3, .long (x &&& 4503599627370495)), (5, .long (obL x))]) hx hb dX3_sizeOf_66 hl (k := 5) rfl rfl (by decide) rfl (fun ls hl => ?_)
        refine lv_goto (tgt := 51) hx hb dX3_sizeOf_69 (by decide) ?_
        exact ihk1 _ _ _ (by omega) ⟨rfl, rfl, (by omega), (by rw [show nI (obH x - 32 * (k1 + 1)) = nI (obH x - 32 * k1) + (-32) from ob_dn (a := obH x) (b := 32 * k1) (by omega)]; exact lv_sub hl [2, 3, 4, 5, 0, 1] rfl)⟩
  · refine lv_dconst0 hx hb dX3_sizeOf_6 ?_
    exact z_dretR hx hb hr hlocks rfl (ob_z c_1) dX3_sizeOf_7

theorem c_X3_sizeOf (l : Launch) (y x : Int64) (hy : y = x &&& 9223372036854775807) (hx0 : lvOk x) : Met l yX3_sizeOf wsX3_sizeOf (zRm 1 25) (va_Pc [.long y] (fun _ => True)) (vp_Sd (fun r => r = obY x)) 0 0 (fun _ => False) := by
  subst hy; exact c_X3_sizeOf1 l x hx0

set_option maxHeartbeats 4000000 in
set_option maxRecDepth 100000 in
theorem c_X3_ofBits (l : Launch) (x : Int64) (hx0 : lvOk x) : Met l yX3_ofBits wsX3_ofBits (zRm 2 54) (va_Pc [.long x] (fun _ => True)) (vp_Sd (fun r => r = x.toUInt64)) 0 0 (fun _ => False) := by
  refine z_stat (cc := cX3_ofBits) (maxL := 4) (ret := some .double) (by decide) rfl (Nat.le_of_ble_eq_true rfl) ?_
  intro p e s m below meth c ls hx hb hr hml hts hown hlocks hl
  have hown : s.vm.findClass RX3 = some m.cls := hown
  have hl : lv_has ls 4 [(0, .long x)] := hl
  refine lv_lload_n hx hb dX3_ofBits_0 rfl (lv_at hl 0 rfl) ?_
  refine lv_ldc2 (v := 9223372036854775807) hx hb hown (hts (.constantLong RX3 9 (9223372036854775807)) (List.mem_of_getElem? (i := 1) rfl)) dX3_ofBits_1 ?_
  refine lv_land hx hb dX3_ofBits_4 ?_
  refine z_cSd (As := [.long (x &&& 9223372036854775807)]) (rest := []) ⟨hx, hb, hml, hown, hts⟩ (c_X3_sizeOf l (x &&& 9223372036854775807) x rfl hx0) (va_cwS 1 hts gX3_ofBits_X3_sizeOf rfl rfl rfl (by decide +kernel) ⟨Nat.le_of_ble_eq_true rfl, Nat.le_of_ble_eq_true rfl⟩) rfl hl.1 rfl (Nat.le_of_ble_eq_true rfl) dX3_ofBits_5 ⟨Nat.zero_le _, Nat.zero_le _⟩ ?_
  refine lv_dstore_n (lv' := [(2, .double (obY x)), (0, .long x)]) hx hb dX3_ofBits_8 rfl hl (by decide) rfl (fun ls hl => ?_)
  refine lv_lload_n hx hb dX3_ofBits_9 rfl (lv_at hl 1 rfl) ?_
  refine lv_lconst (v := 0) hx hb dX3_ofBits_10 (by decide) ?_
  refine z_lif_ge (tgt := 20) hx hb dX3_ofBits_11 dX3_ofBits_12 (by decide) (fun c_1 => ?_) (fun c_1 => ?_)
  · refine lv_dload_n hx hb dX3_ofBits_20 rfl (lv_at hl 0 rfl) ?_
    exact z_dretR hx hb hr hlocks rfl (ob_pos c_1) dX3_ofBits_21
  · refine lv_dload_n hx hb dX3_ofBits_15 rfl (lv_at hl 0 rfl) ?_
    refine lv_dneg hx hb dX3_ofBits_16 ?_
    refine lv_goto (tgt := 21) hx hb dX3_ofBits_17 (by decide) ?_
    exact z_dretR hx hb hr hlocks rfl (ob_neg c_1) dX3_ofBits_21
