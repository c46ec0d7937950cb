set_option maxHeartbeats 4000000 in
set_option maxRecDepth 100000 in
theorem c_X3_ofBits (l : Launch) (x : Int64) (hx0 : lvOk x) : Met l yX3_ofBits wsX3_ofBits (zRm 1 25) (va_Pc [.long x] (fun _ => True)) (vp_Sd (fun r => r = x.toUInt64)) 0 0 (fun _ => False) := by
  refine z_stat (cc := cX3_ofBits) (maxL := 10) (ret := some .double) (by decide) rfl (Nat.le_of_ble_eq_true rfl) ?_
  intro p e s m below meth c ls hx hb hr hml hts hown hlocks hl
  have hown : s.vm.findClass RX3 = some m.cls := hown
  have hl : lv_has ls 10 [(0, .long x)] := hl
  have hoE := obE_le hx0
  have hoH : obH x ≤ 1074 := by unfold obH; omega
  refine lv_lload_n hx hb dX3_ofBits_0 rfl (lv_at hl 0 rfl) ?_
  refine lv_ldc2 (v := 9223372036854775807) hx hb hown (hts (.constantLong RX3 9 (9223372036854775807)) (List.mem_of_getElem? (i := 1) rfl)) dX3_ofBits_1 ?_
  refine lv_land hx hb dX3_ofBits_4 ?_
  refine lv_bipush (v := 52) hx hb dX3_ofBits_5 (by decide) ?_
  refine lv_lushr hx hb dX3_ofBits_7 rfl ?_
  refine lv_l2i (v := (((x &&& 9223372036854775807).toUInt64 >>> (((52 : Int32)).toInt64.toUInt64 &&& Int64.toUInt64 63)).toInt64).toInt32) hx hb dX3_ofBits_8 rfl ?_
  rw [ob_e x]
  refine lv_istore_n (lv' := [(2, .int (nI (obE x))), (0, .long x)]) hx hb dX3_ofBits_9 rfl hl (by decide) rfl (fun ls hl => ?_)
  refine lv_lload_n hx hb dX3_ofBits_10 rfl (lv_at hl 1 rfl) ?_
  refine lv_ldc2 (v := 4503599627370495) hx hb hown (hts (.constantLong RX3 15 (4503599627370495)) (List.mem_of_getElem? (i := 2) rfl)) dX3_ofBits_11 ?_
  refine lv_land hx hb dX3_ofBits_14 ?_
  refine lv_lstore_n (lv' := [(3, .long (x &&& 4503599627370495)), (2, .int (nI (obE x))), (0, .long x)]) hx hb dX3_ofBits_15 rfl hl (by decide) rfl (fun ls hl => ?_)
  refine lv_iload_n hx hb dX3_ofBits_16 rfl (lv_at hl 1 rfl) ?_
  refine z_ifN_ne (x := (obE x)) (tgt := 24) hx hb (by omega) dX3_ofBits_17 (by decide) (fun c_1 => ?_) (fun c_1 => ?_)
  · refine lv_lload_n hx hb dX3_ofBits_24 rfl (lv_at hl 0 rfl) ?_
    refine lv_ldc2 (v := 4503599627370496) hx hb hown (hts (.constantLong RX3 17 (4503599627370496)) (List.mem_of_getElem? (i := 3) rfl)) dX3_ofBits_25 ?_
    refine lv_lor hx hb dX3_ofBits_28 ?_
    rw [ob_w1 c_1]
    refine lv_lstore (lv' := [(5, .long (obL x)), (3, .long (x &&& 4503599627370495)), (2, .int (nI (obE x))), (0, .long x)]) hx hb dX3_ofBits_29 hl (by decide) rfl (fun ls hl => ?_)
    refine lv_sipush (v := 1075) hx hb dX3_ofBits_31 (by decide) ?_
    refine lv_iload_n hx hb dX3_ofBits_34 rfl (lv_at hl 2 rfl) ?_
    refine lv_iconst (v := 1) hx hb dX3_ofBits_35 (by decide) ?_
    refine va_mmax hx hb (hml.trans hl.1.symm) hown (hts (.methodLink RX3 19 Lib.Math.max.name) (List.mem_of_getElem? (i := 4) rfl)) (hts (.static Lib.Math.max.name) (List.mem_of_getElem? (i := 5) rfl)) (hts (.initialized "java/lang/Math") (List.mem_of_getElem? (i := 6) rfl)) (hts (.code Lib.Math.max.name Lib.Math.max.code 2 (some .int)) (List.mem_of_getElem? (i := 7) rfl)) (Nat.le_of_ble_eq_true rfl) (Nat.le_of_ble_eq_true rfl) (Nat.zero_le _) (Nat.zero_le _) dX3_ofBits_36 ?_
    refine lv_isub hx hb dX3_ofBits_39 ?_
    rw [ob_h hx0]
    refine lv_istore (lv' := [(7, .int (nI (obH x))), (5, .long (obL x)), (3, .long (x &&& 4503599627370495)), (2, .int (nI (obE x))), (0, .long x)]) hx hb dX3_ofBits_40 hl (by decide) rfl (fun ls hl => ?_)
    refine lv_lload hx hb dX3_ofBits_42 (lv_at hl 1 rfl) ?_
    refine lv_l2d hx hb dX3_ofBits_44 ?_
    rw [show FP.l2d (obL x) = obR x 0 from rfl]
    refine lv_dstore (lv' := [(8, .double (obR x 0)), (7, .int (nI (obH x))), (5, .long (obL x)), (3, .long (x &&& 4503599627370495)), (2, .int (nI (obE x))), (0, .long x)]) hx hb dX3_ofBits_45 hl (by decide) rfl (fun ls hl => ?_)
    refine z_loop 40 (fun k1 H2 locs2 ls => H2 = s.heap ∧ locs2 = [] ∧ (32 * k1 ≤ obH x) ∧ lv_has ls 10 [(0, .long x), (2, .int (nI (obE x))), (3, .long (x &&& 4503599627370495)), (5, .long (obL x)), (7, .int (nI (obH x - 32 * k1))), (8, .double (obR x k1))]) ⟨rfl, rfl, (Nat.zero_le _), lv_sub hl [5, 4, 3, 2, 1, 0] rfl⟩ ?_
    intro k1 H2 locs2 ls hkk1 hI ihk1
    obtain ⟨rfl, rfl, hB, hl⟩ := hI
    refine lv_iload hx hb dX3_ofBits_47 (lv_at hl 4 rfl) ?_
    refine lv_bipush (v := 32) hx hb dX3_ofBits_49 (by decide) ?_
    refine z_icN_le (x := (obH x - 32 * k1)) (y := 32) (tgt := 68) hx hb (by omega) (by omega) dX3_ofBits_51 (by decide) (fun c_2 => ?_) (fun c_2 => ?_)
    · refine lv_dload hx hb dX3_ofBits_68 (lv_at hl 5 rfl) ?_
      refine lv_lconst (v := 1) hx hb dX3_ofBits_70 (by decide) ?_
      refine lv_iload hx hb dX3_ofBits_71 (lv_at hl 4 rfl) ?_
      refine lv_lshl hx hb dX3_ofBits_73 rfl ?_
      refine lv_l2d hx hb dX3_ofBits_74 ?_
      refine lv_ddiv hx hb dX3_ofBits_75 (ob_nn (ob_fv hx0 (by omega) (by assumption))) ?_
      rw [ob_fin hx0 (by omega) (by assumption)]
      refine lv_dstore (lv' := [(8, .double (obY x)), (0, .long x), (2, .int (nI (obE x))), (3, .long (x &&& 4503599627370495)), (5, .long (obL x)), (7, .int (nI (obH x - 32 * k1)))]) hx hb dX3_ofBits_76 hl (by decide) rfl (fun ls hl => ?_)
      refine lv_lload_n hx hb dX3_ofBits_78 rfl (lv_at hl 1 rfl) ?_
      refine lv_lconst (v := 0) hx hb dX3_ofBits_79 (by decide) ?_
      refine z_lif_ge (tgt := 90) hx hb dX3_ofBits_80 dX3_ofBits_81 (by decide) (fun c_3 => ?_) (fun c_3 => ?_)
      · refine lv_dload hx hb dX3_ofBits_90 (lv_at hl 0 rfl) ?_
        exact z_dretR hx hb hr hlocks rfl (ob_pos c_3) dX3_ofBits_92
      · refine lv_dload hx hb dX3_ofBits_84 (lv_at hl 0 rfl) ?_
        refine lv_dneg hx hb dX3_ofBits_86 ?_
        refine lv_goto (tgt := 92) hx hb dX3_ofBits_87 (by decide) ?_
        exact z_dretR hx hb hr hlocks rfl (ob_neg c_3) dX3_ofBits_92
    · refine lv_dload hx hb dX3_ofBits_54 (lv_at hl 5 rfl) ?_
      refine lv_ldc2d (v := 4751297606875873280) hx hb hown (hts (.constantDouble RX3 25 (4751297606875873280)) (List.mem_of_getElem? (i := 8) rfl)) dX3_ofBits_56 ?_
      refine lv_ddiv hx hb dX3_ofBits_59 (ob_nn (ob_R hx0 (k := k1 + 1) (by omega))) ?_
      refine lv_dstore (lv' := [(8, .double (FP.ddiv (obR x k1) 4751297606875873280)), (0, .long x), (2, .int (nI (obE x))), (3, .long (x &&& 4503599627370495)), (5, .long (obL x)), (7, .int (nI (obH x - 32 * k1)))]) hx hb dX3_ofBits_60 hl (by decide) rfl (fun ls hl => ?_)
      refine lv_iinc (v := (nI (obH x - 32 * k1)) + (-32)) (lv' := [(7, .int ((nI (obH x - 32 * k1)) + (-32))), (8, .double (FP.ddiv (obR x k1) 4751297606875873280)), (0, .long x), (2, .int (nI (obE x))), (3, .long (x &&& 4503599627370495)), (5, .long (obL x))]) hx hb dX3_ofBits_62 hl (k := 5) rfl rfl (by decide) rfl (fun ls hl => ?_)
      refine lv_goto (tgt := 47) hx hb dX3_ofBits_65 (by decide) ?_
      exact ihk1 _ _ _ (by omega) ⟨rfl, rfl, (by omega), (by rw [show nI (obH x - 32 * (k1 + 1)) = nI (obH x - 32 * k1) + (-32) from ob_dn (a := obH x) (b := 32 * k1) (by omega)]; exact lv_sub hl [2, 3, 4, 5, 0, 1] rfl)⟩
  · refine lv_lload_n hx hb dX3_ofBits_20 rfl (lv_at hl 0 rfl) ?_
    rw [ob_w0 c_1]
    refine lv_goto (tgt := 29) hx hb dX3_ofBits_21 (by decide) ?_
    refine lv_lstore (lv' := [(5, .long (obL x)), (3, .long (x &&& 4503599627370495)), (2, .int (nI (obE x))), (0, .long x)]) hx hb dX3_ofBits_29 hl (by decide) rfl (fun ls hl => ?_)
    refine lv_sipush (v := 1075) hx hb dX3_ofBits_31 (by decide) ?_
    refine lv_iload_n hx hb dX3_ofBits_34 rfl (lv_at hl 2 rfl) ?_
    refine lv_iconst (v := 1) hx hb dX3_ofBits_35 (by decide) ?_
    refine va_mmax hx hb (hml.trans hl.1.symm) hown (hts (.methodLink RX3 19 Lib.Math.max.name) (List.mem_of_getElem? (i := 4) rfl)) (hts (.static Lib.Math.max.name) (List.mem_of_getElem? (i := 5) rfl)) (hts (.initialized "java/lang/Math") (List.mem_of_getElem? (i := 6) rfl)) (hts (.code Lib.Math.max.name Lib.Math.max.code 2 (some .int)) (List.mem_of_getElem? (i := 7) rfl)) (Nat.le_of_ble_eq_true rfl) (Nat.le_of_ble_eq_true rfl) (Nat.zero_le _) (Nat.zero_le _) dX3_ofBits_36 ?_
    refine lv_isub hx hb dX3_ofBits_39 ?_
    rw [ob_h hx0]
    refine lv_istore (lv' := [(7, .int (nI (obH x))), (5, .long (obL x)), (3, .long (x &&& 4503599627370495)), (2, .int (nI (obE x))), (0, .long x)]) hx hb dX3_ofBits_40 hl (by decide) rfl (fun ls hl => ?_)
    refine lv_lload hx hb dX3_ofBits_42 (lv_at hl 1 rfl) ?_
    refine lv_l2d hx hb dX3_ofBits_44 ?_
    rw [show FP.l2d (obL x) = obR x 0 from rfl]
    refine lv_dstore (lv' := [(8, .double (obR x 0)), (7, .int (nI (obH x))), (5, .long (obL x)), (3, .long (x &&& 4503599627370495)), (2, .int (nI (obE x))), (0, .long x)]) hx hb dX3_ofBits_45 hl (by decide) rfl (fun ls hl => ?_)
    refine z_loop 40 (fun k1 H2 locs2 ls => H2 = s.heap ∧ locs2 = [] ∧ (32 * k1 ≤ obH x) ∧ lv_has ls 10 [(0, .long x), (2, .int (nI (obE x))), (3, .long (x &&& 4503599627370495)), (5, .long (obL x)), (7, .int (nI (obH x - 32 * k1))), (8, .double (obR x k1))]) ⟨rfl, rfl, (Nat.zero_le _), lv_sub hl [5, 4, 3, 2, 1, 0] rfl⟩ ?_
    intro k1 H2 locs2 ls hkk1 hI ihk1
    obtain ⟨rfl, rfl, hB, hl⟩ := hI
    refine lv_iload hx hb dX3_ofBits_47 (lv_at hl 4 rfl) ?_
    refine lv_bipush (v := 32) hx hb dX3_ofBits_49 (by decide) ?_
    refine z_icN_le (x := (obH x - 32 * k1)) (y := 32) (tgt := 68) hx hb (by omega) (by omega) dX3_ofBits_51 (by decide) (fun c_4 => ?_) (fun c_4 => ?_)
    · refine lv_dload hx hb dX3_ofBits_68 (lv_at hl 5 rfl) ?_
      refine lv_lconst (v := 1) hx hb dX3_ofBits_70 (by decide) ?_
      refine lv_iload hx hb dX3_ofBits_71 (lv_at hl 4 rfl) ?_
      refine lv_lshl hx hb dX3_ofBits_73 rfl ?_
      refine lv_l2d hx hb dX3_ofBits_74 ?_
      refine lv_ddiv hx hb dX3_ofBits_75 (ob_nn (ob_fv hx0 (by omega) (by assumption))) ?_
      rw [ob_fin hx0 (by omega) (by assumption)]
      refine lv_dstore (lv' := [(8, .double (obY x)), (0, .long x), (2, .int (nI (obE x))), (3, .long (x &&& 4503599627370495)), (5, .long (obL x)), (7, .int (nI (obH x - 32 * k1)))]) hx hb dX3_ofBits_76 hl (by decide) rfl (fun ls hl => ?_)
      refine lv_lload_n hx hb dX3_ofBits_78 rfl (lv_at hl 1 rfl) ?_
      refine lv_lconst (v := 0) hx hb dX3_ofBits_79 (by decide) ?_
      refine z_lif_ge (tgt := 90) hx hb dX3_ofBits_80 dX3_ofBits_81 (by decide) (fun c_5 => ?_) (fun c_5 => ?_)
      · refine lv_dload hx hb dX3_ofBits_90 (lv_at hl 0 rfl) ?_
        exact z_dretR hx hb hr hlocks rfl (ob_pos c_5) dX3_ofBits_92
      · refine lv_dload hx hb dX3_ofBits_84 (lv_at hl 0 rfl) ?_
        refine lv_dneg hx hb dX3_ofBits_86 ?_
        refine lv_goto (tgt := 92) hx hb dX3_ofBits_87 (by decide) ?_
        exact z_dretR hx hb hr hlocks rfl (ob_neg c_5) dX3_ofBits_92
    · refine lv_dload hx hb dX3_ofBits_54 (lv_at hl 5 rfl) ?_
      refine lv_ldc2d (v := 4751297606875873280) hx hb hown (hts (.constantDouble RX3 25 (4751297606875873280)) (List.mem_of_getElem? (i := 8) rfl)) dX3_ofBits_56 ?_
      refine lv_ddiv hx hb dX3_ofBits_59 (ob_nn (ob_R hx0 (k := k1 + 1) (by omega))) ?_
      refine lv_dstore (lv' := [(8, .double (FP.ddiv (obR x k1) 4751297606875873280)), (0, .long x), (2, .int (nI (obE x))), (3, .long (x &&& 4503599627370495)), (5, .long (obL x)), (7, .int (nI (obH x - 32 * k1)))]) hx hb dX3_ofBits_60 hl (by decide) rfl (fun ls hl => ?_)
      refine lv_iinc (v := (nI (obH x - 32 * k1)) + (-32)) (lv' := [(7, .int ((nI (obH x - 32 * k1)) + (-32))), (8, .double (FP.ddiv (obR x k1) 4751297606875873280)), (0, .long x), (2, .int (nI (obE x))), (3, .long (x &&& 4503599627370495)), (5, .long (obL x))]) hx hb dX3_ofBits_62 hl (k := 5) rfl rfl (by decide) rfl (fun ls hl => ?_)
      refine lv_goto (tgt := 47) hx hb dX3_ofBits_65 (by decide) ?_
      exact ihk1 _ _ _ (by omega) ⟨rfl, rfl, (by omega), (by rw [show nI (obH x - 32 * (k1 + 1)) = nI (obH x - 32 * k1) + (-32) from ob_dn (a := obH x) (b := 32 * k1) (by omega)]; exact lv_sub hl [2, 3, 4, 5, 0, 1] rfl)⟩
