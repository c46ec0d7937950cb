set_option maxHeartbeats 4000000 in
set_option maxRecDepth 100000 in
theorem c_L_passes (l : Launch) (g : va_G) (ct : Nat → ClassId) (sz : Nat) (C : CT) {T : Nat} (hC : CK C T) (hT : T + 1 ≤ 100) (ka kb : Nat) (ha : 1 ≤ ka ∧ ka ≤ 7) (hb7 : 1 ≤ kb ∧ kb ≤ 7) : Met l yL_passes wsL_passes (zRc 7 105 790 167) (va_Pc [.ref (k_ba C 0), .int (nI ka), .int (nI kb)] (zW g ct (CW ct C) sz)) (zEi (S := {u : CT // CK u (T + 1) ∧ k_ba u = k_ba C}) g (fun u => CW ct u.1) 1 (va_A (CW ct C) sz)) 105 790 (va_A (CW ct C) sz) := by
  refine z_write (QA := zEi (S := {u : CT // CK u (T + 1) ∧ k_ba u = k_ba C}) g (fun u => CW ct u.1) 1) (cc := cL_passes) (maxL := 14) (ret := some .boolean) (by decide) rfl (Nat.le_of_ble_eq_true rfl) ?_
  intro p e s m below meth c ls A hx hb hr hml hts hown hlocks hin hP hK hD hNW hA hS hl
  have hown : s.vm.findClass RL = some m.cls := hown
  have hl : lv_has ls 14 [(0, .ref (k_ba C 0)), (1, .int (nI ka)), (2, .int (nI kb))] := hl
  have hIV := hC.1
  have hom : OM C := ⟨hC.2.1, hC.2.2.1⟩
  have hh := iv_h hIV
  refine lv_aload_n hx hb dL_passes_0 rfl (lv_at hl 0 rfl) ?_
  refine z_oVi (C := C) (K := fun u => ∃ U, u = k_snS C (U, k_v C)) (v := nI (v_h (k_v C))) (As := []) (rest := []) ⟨hx, hb, hml, hown, hts⟩ hK hP hD hS hNW hA (ac_keep l g ct _ C (iv_01 hIV)) (cwV 0 hts gL_passes_X9_keep rfl rfl rfl (by decide +kernel) ⟨Nat.le_of_ble_eq_true rfl, Nat.le_of_ble_eq_true rfl⟩) rfl hl.1 rfl (Nat.le_of_ble_eq_true rfl) dL_passes_1 ⟨Nat.le_of_ble_eq_true rfl, Nat.le_of_ble_eq_true rfl⟩ (fun u_1 H locs hu_2 hP hD hS => ?_)
  obtain ⟨U_3, rfl⟩ := hu_2
  refine lv_istore_n (lv' := [(3, .int (nI (v_h (k_v C)))), (0, .ref (k_ba C 0)), (1, .int (nI ka)), (2, .int (nI kb))]) hx hb dL_passes_4 rfl hl (by decide) rfl (fun ls hl => ?_)
  refine lv_aload_n hx hb dL_passes_5 rfl (lv_at hl 1 rfl) ?_
  refine z_oVi (C := (k_snS C (U_3, k_v C))) (K := fun u => Sm ((k_snS C (U_3, k_v C))) u) (v := shI (k_v C)) (As := []) (rest := []) ⟨hx, hb, hml, hown, hts⟩ hK hP hD hS hNW hA (ac_shutInI l g ct _ ((k_snS C (U_3, k_v C))) hIV (by omega)) (cwV 0 hts gL_passes_X9_shutIn rfl rfl rfl (by decide +kernel) ⟨Nat.le_of_ble_eq_true rfl, Nat.le_of_ble_eq_true rfl⟩) rfl hl.1 rfl (Nat.le_of_ble_eq_true rfl) dL_passes_6 ⟨Nat.le_of_ble_eq_true rfl, Nat.le_of_ble_eq_true rfl⟩ (fun u_4 H locs hu_5 hP hD hS => ?_)
  obtain ⟨tv_6, rfl⟩ := hu_5
  refine lv_istore (lv' := [(4, .int (shI (k_v C))), (3, .int (nI (v_h (k_v C)))), (0, .ref (k_ba C 0)), (1, .int (nI ka)), (2, .int (nI kb))]) hx hb dL_passes_9 hl (by decide) rfl (fun ls hl => ?_)
  refine lv_aload_n hx hb dL_passes_11 rfl (lv_at hl 2 rfl) ?_
  refine lv_iload_n hx hb dL_passes_12 rfl (lv_at hl 3 rfl) ?_
  refine lv_iload_n hx hb dL_passes_13 rfl (lv_at hl 4 rfl) ?_
  refine z_iaddN (x := ka) (y := kb) hx hb dL_passes_14 ?_
  refine z_oVd (C := (k_tvS ((k_snS C (U_3, k_v C))) tv_6)) (K := fun u => Sm ((k_tvS ((k_snS C (U_3, k_v C))) tv_6)) u) (v := FP.ddiv (FP.l2d (v_vo (hrS (k_v C) (ka + kb)))) (FP.i2d (v_ar (k_v C)))) (As := [.int (nI (ka + kb))]) (rest := []) ⟨hx, hb, hml, hown, hts⟩ hK hP hD hS hNW hA (ac_forecastI l g ct _ ((k_tvS ((k_snS C (U_3, k_v C))) tv_6)) hIV (by omega) (ka + kb) (by omega)) (cwV 1 hts gL_passes_X9_forecast rfl rfl rfl (by decide +kernel) ⟨Nat.le_of_ble_eq_true rfl, Nat.le_of_ble_eq_true rfl⟩) rfl hl.1 rfl (Nat.le_of_ble_eq_true rfl) dL_passes_15 ⟨Nat.le_of_ble_eq_true rfl, Nat.le_of_ble_eq_true rfl⟩ (fun u_7 H locs hu_8 hP hD hS => ?_)
  obtain ⟨tv_9, rfl⟩ := hu_8
  refine lv_dstore (lv' := [(5, .double (FP.ddiv (FP.l2d (v_vo (hrS (k_v C) (ka + kb)))) (FP.i2d (v_ar (k_v C))))), (4, .int (shI (k_v C))), (3, .int (nI (v_h (k_v C)))), (0, .ref (k_ba C 0)), (1, .int (nI ka)), (2, .int (nI kb))]) hx hb dL_passes_18 hl (by decide) rfl (fun ls hl => ?_)
  refine lv_aload_n hx hb dL_passes_20 rfl (lv_at hl 3 rfl) ?_
  refine lv_iconst (v := 4) hx hb dL_passes_21 (by decide) ?_
  refine z_rVi (C := (k_tvS ((k_tvS ((k_snS C (U_3, k_v C))) tv_6)) tv_9)) (v := cntI (v_co (k_v C)) 4 (v_nS (k_v C))) (As := [.int 4]) (rest := []) ⟨hx, hb, hml, hown, hts⟩ hK hP (rd_count_4 l g ct ((k_tvS ((k_tvS ((k_snS C (U_3, k_v C))) tv_6)) tv_9)) hIV) (cwV 1 hts gL_passes_X9_count rfl rfl rfl (by decide +kernel) ⟨Nat.le_of_ble_eq_true rfl, Nat.le_of_ble_eq_true rfl⟩) rfl hl.1 rfl (Nat.le_of_ble_eq_true rfl) dL_passes_22 ⟨Nat.le_of_ble_eq_true rfl, Nat.le_of_ble_eq_true rfl⟩ ?_
  refine lv_istore (lv' := [(7, .int (cntI (v_co (k_v C)) 4 (v_nS (k_v C)))), (5, .double (FP.ddiv (FP.l2d (v_vo (hrS (k_v C) (ka + kb)))) (FP.i2d (v_ar (k_v C))))), (4, .int (shI (k_v C))), (3, .int (nI (v_h (k_v C)))), (0, .ref (k_ba C 0)), (1, .int (nI ka)), (2, .int (nI kb))]) hx hb dL_passes_25 hl (by decide) rfl (fun ls hl => ?_)
  refine lv_aload_n hx hb dL_passes_27 rfl (lv_at hl 4 rfl) ?_
  refine lv_iload_n hx hb dL_passes_28 rfl (lv_at hl 5 rfl) ?_
  refine lv_iload_n hx hb dL_passes_29 rfl (lv_at hl 6 rfl) ?_
  refine z_iaddN (x := ka) (y := kb) hx hb dL_passes_30 ?_
  refine z_oVi (C := (k_tvS ((k_tvS ((k_snS C (U_3, k_v C))) tv_6)) tv_9)) (K := fun u => ∃ U, u = k_rec ((k_tvS ((k_tvS ((k_snS C (U_3, k_v C))) tv_6)) tv_9)) (hrS (k_v C) ((ka + kb))) U) (v := hrJ (k_v C) ((ka + kb))) (As := [.int (nI (ka + kb))]) (rest := []) ⟨hx, hb, hml, hown, hts⟩ hK hP hD hS hNW hA (ac_pass_b l g ct _ ((k_tvS ((k_tvS ((k_snS C (U_3, k_v C))) tv_6)) tv_9)) hom.1 hom.2 (iv_01 hIV) (iv_nS hIV) (iv_nT hIV) (iv_nP hIV) (iv_wi hIV) (iv_cr hIV) (iv_td hIV) (iv_ar hIV) ((ka + kb)) (show v_h (k_v C) + ((ka + kb)) < 2 ^ 31 by have := iv_h hIV; omega) (by omega) (by omega)) (cwV 1 hts gL_passes_X9_pass rfl rfl rfl (by decide +kernel) ⟨Nat.le_of_ble_eq_true rfl, Nat.le_of_ble_eq_true rfl⟩) rfl hl.1 rfl (Nat.le_of_ble_eq_true rfl) dL_passes_31 ⟨Nat.le_of_ble_eq_true rfl, Nat.le_of_ble_eq_true rfl⟩ (fun u_10 H locs hu_11 hP hD hS => ?_)
  obtain ⟨U_12, rfl⟩ := hu_11
  have hIV_13 : IV (hrS (k_v C) ((ka + kb))) (T + 1) := iv_hr hIV hT _ (by omega)
  have hom_14 := om_rec (C := (k_tvS ((k_tvS ((k_snS C (U_3, k_v C))) tv_6)) tv_9)) (v2 := (hrS (k_v C) ((ka + kb)))) (U := U_12) hom
  refine lv_istore (lv' := [(8, .int (hrJ (k_v C) ((ka + kb)))), (7, .int (cntI (v_co (k_v C)) 4 (v_nS (k_v C)))), (5, .double (FP.ddiv (FP.l2d (v_vo (hrS (k_v C) (ka + kb)))) (FP.i2d (v_ar (k_v C))))), (4, .int (shI (k_v C))), (3, .int (nI (v_h (k_v C)))), (0, .ref (k_ba C 0)), (1, .int (nI ka)), (2, .int (nI kb))]) hx hb dL_passes_34 hl (by decide) rfl (fun ls hl => ?_)
  refine lv_aload_n hx hb dL_passes_36 rfl (lv_at hl 5 rfl) ?_
  refine z_oSl (C := (k_rec ((k_tvS ((k_tvS ((k_snS C (U_3, k_v C))) tv_6)) tv_9)) (hrS (k_v C) ((ka + kb))) U_12)) (K := fun u => Sm ((k_rec ((k_tvS ((k_tvS ((k_snS C (U_3, k_v C))) tv_6)) tv_9)) (hrS (k_v C) ((ka + kb))) U_12)) u) (v := dgV (hrS (k_v C) (ka + kb))) (As := [.ref (k_ba C 0)]) (rest := []) ⟨hx, hb, hml, hown, hts⟩ hK hP hD hS hNW hA (c_L_digest l g ct _ ((k_rec ((k_tvS ((k_tvS ((k_snS C (U_3, k_v C))) tv_6)) tv_9)) (hrS (k_v C) ((ka + kb))) U_12)) hIV_13 (by omega)) (va_cwS 1 hts gL_passes_L_digest rfl rfl rfl (by decide +kernel) ⟨Nat.le_of_ble_eq_true rfl, Nat.le_of_ble_eq_true rfl⟩) rfl hl.1 rfl (Nat.le_of_ble_eq_true rfl) dL_passes_37 ⟨Nat.le_of_ble_eq_true rfl, Nat.le_of_ble_eq_true rfl⟩ (fun u_15 H locs hu_16 hP hD hS => ?_)
  obtain ⟨tv_17, rfl⟩ := hu_16
  refine lv_lstore (lv' := [(9, .long (dgV (hrS (k_v C) (ka + kb)))), (8, .int (hrJ (k_v C) ((ka + kb)))), (7, .int (cntI (v_co (k_v C)) 4 (v_nS (k_v C)))), (5, .double (FP.ddiv (FP.l2d (v_vo (hrS (k_v C) (ka + kb)))) (FP.i2d (v_ar (k_v C))))), (4, .int (shI (k_v C))), (3, .int (nI (v_h (k_v C)))), (0, .ref (k_ba C 0)), (1, .int (nI ka)), (2, .int (nI kb))]) hx hb dL_passes_40 hl (by decide) rfl (fun ls hl => ?_)
  refine lv_aload_n hx hb dL_passes_42 rfl (lv_at hl 6 rfl) ?_
  refine z_oVi (C := (k_tvS ((k_rec ((k_tvS ((k_tvS ((k_snS C (U_3, k_v C))) tv_6)) tv_9)) (hrS (k_v C) ((ka + kb))) U_12)) tv_17)) (K := fun u => Sm ((k_tvS ((k_rec ((k_tvS ((k_tvS ((k_snS C (U_3, k_v C))) tv_6)) tv_9)) (hrS (k_v C) ((ka + kb))) U_12)) tv_17)) u) (v := shI (hrS (k_v C) (ka + kb))) (As := []) (rest := []) ⟨hx, hb, hml, hown, hts⟩ hK hP hD hS hNW hA (ac_shutInI l g ct _ ((k_tvS ((k_rec ((k_tvS ((k_tvS ((k_snS C (U_3, k_v C))) tv_6)) tv_9)) (hrS (k_v C) ((ka + kb))) U_12)) tv_17)) hIV_13 (by omega)) (cwV 0 hts gL_passes_X9_shutIn rfl rfl rfl (by decide +kernel) ⟨Nat.le_of_ble_eq_true rfl, Nat.le_of_ble_eq_true rfl⟩) rfl hl.1 rfl (Nat.le_of_ble_eq_true rfl) dL_passes_43 ⟨Nat.le_of_ble_eq_true rfl, Nat.le_of_ble_eq_true rfl⟩ (fun u_18 H locs hu_19 hP hD hS => ?_)
  obtain ⟨tv_20, rfl⟩ := hu_19
  refine lv_istore (lv' := [(11, .int (shI (hrS (k_v C) (ka + kb)))), (9, .long (dgV (hrS (k_v C) (ka + kb)))), (8, .int (hrJ (k_v C) ((ka + kb)))), (7, .int (cntI (v_co (k_v C)) 4 (v_nS (k_v C)))), (5, .double (FP.ddiv (FP.l2d (v_vo (hrS (k_v C) (ka + kb)))) (FP.i2d (v_ar (k_v C))))), (4, .int (shI (k_v C))), (3, .int (nI (v_h (k_v C)))), (0, .ref (k_ba C 0)), (1, .int (nI ka)), (2, .int (nI kb))]) hx hb dL_passes_46 hl (by decide) rfl (fun ls hl => ?_)
  refine z_cut (B0 := 75) (st2 := [.int 1]) ?_ (fun kk => ?_)
  · refine lv_istore (lv' := [(12, .int 1), (11, .int (shI (hrS (k_v C) (ka + kb)))), (9, .long (dgV (hrS (k_v C) (ka + kb)))), (8, .int (hrJ (k_v C) ((ka + kb)))), (7, .int (cntI (v_co (k_v C)) 4 (v_nS (k_v C)))), (5, .double (FP.ddiv (FP.l2d (v_vo (hrS (k_v C) (ka + kb)))) (FP.i2d (v_ar (k_v C))))), (4, .int (shI (k_v C))), (3, .int (nI (v_h (k_v C)))), (0, .ref (k_ba C 0)), (1, .int (nI ka)), (2, .int (nI kb))]) hx hb dL_passes_75 hl (by decide) rfl (fun ls hl => ?_)
    refine lv_iload hx hb dL_passes_77 (lv_at hl 0 rfl) ?_
    refine lv_if_eq (tgt := 156) hx hb dL_passes_79 (by decide) (fun h => absurd h (by decide)) (fun _ => ?_)
    refine z_cut (B0 := 100) (st2 := []) ?_ (fun kk => ?_)
    · refine lv_aload_n hx hb dL_passes_100 rfl (lv_at hl 8 rfl) ?_
      refine lv_iconst (v := 1) hx hb dL_passes_101 (by decide) ?_
      refine z_rVd (C := (k_tvS ((k_tvS ((k_rec ((k_tvS ((k_tvS ((k_snS C (U_3, k_v C))) tv_6)) tv_9)) (hrS (k_v C) ((ka + kb))) U_12)) tv_17)) tv_20)) (v := FP.ddiv (FP.l2d (v_vo (hrS (k_v C) (ka + kb)))) (FP.i2d (v_ar (k_v C)))) (As := [.int 1]) (rest := []) ⟨hx, hb, hml, hown, hts⟩ hK hP (rd_level_1 l g ct ((k_tvS ((k_tvS ((k_rec ((k_tvS ((k_tvS ((k_snS C (U_3, k_v C))) tv_6)) tv_9)) (hrS (k_v C) ((ka + kb))) U_12)) tv_17)) tv_20)) hIV_13 (by omega)) (cwV 1 hts gL_passes_X9_level rfl rfl rfl (by decide +kernel) ⟨Nat.le_of_ble_eq_true rfl, Nat.le_of_ble_eq_true rfl⟩) rfl hl.1 rfl (Nat.le_of_ble_eq_true rfl) dL_passes_102 ⟨Nat.le_of_ble_eq_true rfl, Nat.le_of_ble_eq_true rfl⟩ ?_
      refine lv_dload hx hb dL_passes_105 (lv_at hl 5 rfl) ?_
      refine lv_dcmp hx hb dL_passes_107 ?_
      refine lv_if_ne (tgt := 156) hx hb dL_passes_108 (by decide) (fun c_21 => ?_) (fun c_21 => ?_)
      · exact absurd (dc_refl (nu_inn (iv_ar hIV) _)) c_21
      · refine lv_aload_n hx hb dL_passes_111 rfl (lv_at hl 8 rfl) ?_
        refine lv_iconst (v := 4) hx hb dL_passes_112 (by decide) ?_
        refine z_rVi (C := (k_tvS ((k_tvS ((k_rec ((k_tvS ((k_tvS ((k_snS C (U_3, k_v C))) tv_6)) tv_9)) (hrS (k_v C) ((ka + kb))) U_12)) tv_17)) tv_20)) (v := cntI (v_co (hrS (k_v C) (ka + kb))) 4 (v_nS (k_v C))) (As := [.int 4]) (rest := []) ⟨hx, hb, hml, hown, hts⟩ hK hP (rd_count_4 l g ct ((k_tvS ((k_tvS ((k_rec ((k_tvS ((k_tvS ((k_snS C (U_3, k_v C))) tv_6)) tv_9)) (hrS (k_v C) ((ka + kb))) U_12)) tv_17)) tv_20)) hIV_13) (cwV 1 hts gL_passes_X9_count rfl rfl rfl (by decide +kernel) ⟨Nat.le_of_ble_eq_true rfl, Nat.le_of_ble_eq_true rfl⟩) rfl hl.1 rfl (Nat.le_of_ble_eq_true rfl) dL_passes_113 ⟨Nat.le_of_ble_eq_true rfl, Nat.le_of_ble_eq_true rfl⟩ ?_
        refine lv_iload hx hb dL_passes_116 (lv_at hl 4 rfl) ?_
        refine lv_iload hx hb dL_passes_118 (lv_at hl 3 rfl) ?_
        refine lv_iadd hx hb dL_passes_120 ?_
        refine lv_icmp_ne (tgt := 156) hx hb dL_passes_121 (by decide) (fun c_22 => ?_) (fun c_22 => ?_)
        · exact absurd (jm_n hIV hT _ (by omega)) c_22
        · refine lv_aload_n hx hb dL_passes_124 rfl (lv_at hl 8 rfl) ?_
          refine lv_iconst (v := 0) hx hb dL_passes_125 (by decide) ?_
          refine z_rVi (C := (k_tvS ((k_tvS ((k_rec ((k_tvS ((k_tvS ((k_snS C (U_3, k_v C))) tv_6)) tv_9)) (hrS (k_v C) ((ka + kb))) U_12)) tv_17)) tv_20)) (v := nI (v_h (hrS (k_v C) (ka + kb)))) (As := [.int 0]) (rest := []) ⟨hx, hb, hml, hown, hts⟩ hK hP (rd_count_0 l g ct ((k_tvS ((k_tvS ((k_rec ((k_tvS ((k_tvS ((k_snS C (U_3, k_v C))) tv_6)) tv_9)) (hrS (k_v C) ((ka + kb))) U_12)) tv_17)) tv_20)) hIV_13) (cwV 1 hts gL_passes_X9_count rfl rfl rfl (by decide +kernel) ⟨Nat.le_of_ble_eq_true rfl, Nat.le_of_ble_eq_true rfl⟩) rfl hl.1 rfl (Nat.le_of_ble_eq_true rfl) dL_passes_126 ⟨Nat.le_of_ble_eq_true rfl, Nat.le_of_ble_eq_true rfl⟩ ?_
          rw [hr_h]
          refine lv_iload_n hx hb dL_passes_129 rfl (lv_at hl 7 rfl) ?_
          refine lv_iload_n hx hb dL_passes_130 rfl (lv_at hl 9 rfl) ?_
          refine z_iaddN (x := (v_h (k_v C))) (y := ka) hx hb dL_passes_131 ?_
          refine lv_iload_n hx hb dL_passes_132 rfl (lv_at hl 10 rfl) ?_
          refine z_iaddN (x := ((v_h (k_v C)) + ka)) (y := kb) hx hb dL_passes_133 ?_
          refine z_icN_ne (x := (v_h (k_v C) + (ka + kb))) (y := (((v_h (k_v C)) + ka) + kb)) (tgt := 156) hx hb (by omega) (by omega) dL_passes_134 (by decide) (fun c_23 => ?_) (fun c_23 => ?_)
          · exact absurd (by omega) c_23
          · refine lv_aload_n hx hb dL_passes_137 rfl (lv_at hl 8 rfl) ?_
            refine z_oVi (C := (k_tvS ((k_tvS ((k_rec ((k_tvS ((k_tvS ((k_snS C (U_3, k_v C))) tv_6)) tv_9)) (hrS (k_v C) ((ka + kb))) U_12)) tv_17)) tv_20)) (K := fun u => ∃ U, u = k_rec ((k_tvS ((k_tvS ((k_rec ((k_tvS ((k_tvS ((k_snS C (U_3, k_v C))) tv_6)) tv_9)) (hrS (k_v C) ((ka + kb))) U_12)) tv_17)) tv_20)) (k_v C) U) (v := nI (v_h (k_v C))) (As := []) (rest := []) ⟨hx, hb, hml, hown, hts⟩ hK hP hD hS hNW hA (ac_restore l g ct _ ((k_tvS ((k_tvS ((k_rec ((k_tvS ((k_tvS ((k_snS C (U_3, k_v C))) tv_6)) tv_9)) (hrS (k_v C) ((ka + kb))) U_12)) tv_17)) tv_20)) (U_3, k_v C) hom_14.1 hom_14.2 (iv_01 hIV_13) rfl (iv_01 hIV)) (cwV 0 hts gL_passes_X9_restore rfl rfl rfl (by decide +kernel) ⟨Nat.le_of_ble_eq_true rfl, Nat.le_of_ble_eq_true rfl⟩) rfl hl.1 rfl (Nat.le_of_ble_eq_true rfl) dL_passes_138 ⟨Nat.le_of_ble_eq_true rfl, Nat.le_of_ble_eq_true rfl⟩ (fun u_24 H locs hu_25 hP hD hS => ?_)
            obtain ⟨U_26, rfl⟩ := hu_25
            have hom_27 := om_rec (C := (k_tvS ((k_tvS ((k_rec ((k_tvS ((k_tvS ((k_snS C (U_3, k_v C))) tv_6)) tv_9)) (hrS (k_v C) ((ka + kb))) U_12)) tv_17)) tv_20)) (v2 := k_v C) (U := U_26) hom_14
            refine lv_iload_n hx hb dL_passes_141 rfl (lv_at hl 7 rfl) ?_
            refine z_icN_ne (x := (v_h (k_v C))) (y := (v_h (k_v C))) (tgt := 156) hx hb (by omega) (by omega) dL_passes_142 (by decide) (fun c_28 => ?_) (fun c_28 => ?_)
            · exact absurd rfl c_28
            · refine lv_aload_n hx hb dL_passes_145 rfl (lv_at hl 8 rfl) ?_
              refine lv_bipush (v := 49) hx hb dL_passes_146 (by decide) ?_
              refine z_rVi (C := (k_rec ((k_tvS ((k_tvS ((k_rec ((k_tvS ((k_tvS ((k_snS C (U_3, k_v C))) tv_6)) tv_9)) (hrS (k_v C) ((ka + kb))) U_12)) tv_17)) tv_20)) (k_v C) U_26)) (v := -2) (As := [.int 49]) (rest := []) ⟨hx, hb, hml, hown, hts⟩ hK hP (rd_pass_a l g ct ((k_rec ((k_tvS ((k_tvS ((k_rec ((k_tvS ((k_tvS ((k_snS C (U_3, k_v C))) tv_6)) tv_9)) (hrS (k_v C) ((ka + kb))) U_12)) tv_17)) tv_20)) (k_v C) U_26)) 49 (by decide)) (cwV 1 hts gL_passes_X9_pass rfl rfl rfl (by decide +kernel) ⟨Nat.le_of_ble_eq_true rfl, Nat.le_of_ble_eq_true rfl⟩) rfl hl.1 rfl (Nat.le_of_ble_eq_true rfl) dL_passes_148 ⟨Nat.le_of_ble_eq_true rfl, Nat.le_of_ble_eq_true rfl⟩ ?_
              refine lv_bipush (v := (-2)) hx hb dL_passes_151 (by decide) ?_
              refine lv_icmp_eq (tgt := 158) hx hb dL_passes_153 (by decide) (fun _ => ?_) (fun h => absurd h (by decide))
              refine lv_aload_n hx hb dL_passes_158 rfl (lv_at hl 8 rfl) ?_
              refine lv_iload_n hx hb dL_passes_159 rfl (lv_at hl 9 rfl) ?_
              refine z_oVi (C := (k_rec ((k_tvS ((k_tvS ((k_rec ((k_tvS ((k_tvS ((k_snS C (U_3, k_v C))) tv_6)) tv_9)) (hrS (k_v C) ((ka + kb))) U_12)) tv_17)) tv_20)) (k_v C) U_26)) (K := fun u => ∃ U, u = k_rec ((k_rec ((k_tvS ((k_tvS ((k_rec ((k_tvS ((k_tvS ((k_snS C (U_3, k_v C))) tv_6)) tv_9)) (hrS (k_v C) ((ka + kb))) U_12)) tv_17)) tv_20)) (k_v C) U_26)) (hrS (k_v C) ka) U) (v := hrJ (k_v C) ka) (As := [.int (nI ka)]) (rest := []) ⟨hx, hb, hml, hown, hts⟩ hK hP hD hS hNW hA (ac_pass_b l g ct _ ((k_rec ((k_tvS ((k_tvS ((k_rec ((k_tvS ((k_tvS ((k_snS C (U_3, k_v C))) tv_6)) tv_9)) (hrS (k_v C) ((ka + kb))) U_12)) tv_17)) tv_20)) (k_v C) U_26)) hom_27.1 hom_27.2 (iv_01 hIV) (iv_nS hIV) (iv_nT hIV) (iv_nP hIV) (iv_wi hIV) (iv_cr hIV) (iv_td hIV) (iv_ar hIV) ka (show v_h (k_v C) + ka < 2 ^ 31 by have := iv_h hIV; omega) (by omega) (by omega)) (cwV 1 hts gL_passes_X9_pass rfl rfl rfl (by decide +kernel) ⟨Nat.le_of_ble_eq_true rfl, Nat.le_of_ble_eq_true rfl⟩) rfl hl.1 rfl (Nat.le_of_ble_eq_true rfl) dL_passes_160 ⟨Nat.le_of_ble_eq_true rfl, Nat.le_of_ble_eq_true rfl⟩ (fun u_29 H locs hu_30 hP hD hS => ?_)
              obtain ⟨U_31, rfl⟩ := hu_30
              have hIV_32 : IV (hrS (k_v C) ka) (T + 1) := iv_hr hIV hT _ (by omega)
              have hom_33 := om_rec (C := (k_rec ((k_tvS ((k_tvS ((k_rec ((k_tvS ((k_tvS ((k_snS C (U_3, k_v C))) tv_6)) tv_9)) (hrS (k_v C) ((ka + kb))) U_12)) tv_17)) tv_20)) (k_v C) U_26)) (v2 := (hrS (k_v C) ka)) (U := U_31) hom_27
              refine lv_istore (lv' := [(13, .int (hrJ (k_v C) ka)), (12, .int 1), (11, .int (shI (hrS (k_v C) (ka + kb)))), (9, .long (dgV (hrS (k_v C) (ka + kb)))), (8, .int (hrJ (k_v C) ((ka + kb)))), (7, .int (cntI (v_co (k_v C)) 4 (v_nS (k_v C)))), (5, .double (FP.ddiv (FP.l2d (v_vo (hrS (k_v C) (ka + kb)))) (FP.i2d (v_ar (k_v C))))), (4, .int (shI (k_v C))), (3, .int (nI (v_h (k_v C)))), (0, .ref (k_ba C 0)), (1, .int (nI ka)), (2, .int (nI kb))]) hx hb dL_passes_163 hl (by decide) rfl (fun ls hl => ?_)
              refine lv_iload hx hb dL_passes_165 (lv_at hl 0 rfl) ?_
              refine lv_aload_n hx hb dL_passes_167 rfl (lv_at hl 9 rfl) ?_
              refine lv_iload_n hx hb dL_passes_168 rfl (lv_at hl 11 rfl) ?_
              refine z_oVi (C := (k_rec ((k_rec ((k_tvS ((k_tvS ((k_rec ((k_tvS ((k_tvS ((k_snS C (U_3, k_v C))) tv_6)) tv_9)) (hrS (k_v C) ((ka + kb))) U_12)) tv_17)) tv_20)) (k_v C) U_26)) (hrS (k_v C) ka) U_31)) (K := fun u => ∃ U, u = k_rec ((k_rec ((k_rec ((k_tvS ((k_tvS ((k_rec ((k_tvS ((k_tvS ((k_snS C (U_3, k_v C))) tv_6)) tv_9)) (hrS (k_v C) ((ka + kb))) U_12)) tv_17)) tv_20)) (k_v C) U_26)) (hrS (k_v C) ka) U_31)) (hrS (hrS (k_v C) ka) kb) U) (v := hrJ (hrS (k_v C) ka) kb) (As := [.int (nI kb)]) (rest := [.int (hrJ (k_v C) ka)]) ⟨hx, hb, hml, hown, hts⟩ hK hP hD hS hNW hA (ac_pass_b l g ct _ ((k_rec ((k_rec ((k_tvS ((k_tvS ((k_rec ((k_tvS ((k_tvS ((k_snS C (U_3, k_v C))) tv_6)) tv_9)) (hrS (k_v C) ((ka + kb))) U_12)) tv_17)) tv_20)) (k_v C) U_26)) (hrS (k_v C) ka) U_31)) hom_33.1 hom_33.2 (iv_01 hIV_32) (iv_nS hIV_32) (iv_nT hIV_32) (iv_nP hIV_32) (iv_wi hIV_32) (iv_cr hIV_32) (iv_td hIV_32) (iv_ar hIV_32) kb (show v_h (hrS (k_v C) ka) + kb < 2 ^ 31 by have := iv_h hIV_32; omega) (by omega) (by omega)) (cwV 1 hts gL_passes_X9_pass rfl rfl rfl (by decide +kernel) ⟨Nat.le_of_ble_eq_true rfl, Nat.le_of_ble_eq_true rfl⟩) rfl hl.1 rfl (Nat.le_of_ble_eq_true rfl) dL_passes_169 ⟨Nat.le_of_ble_eq_true rfl, Nat.le_of_ble_eq_true rfl⟩ (fun u_34 H locs hu_35 hP hD hS => ?_)
              obtain ⟨U_36, rfl⟩ := hu_35
              have hIV_37 : IV (hrS (hrS (k_v C) ka) kb) (T + 1) := (by rw [hr_add]; exact iv_hr hIV hT _ (by omega))
              have hom_38 := om_rec (C := (k_rec ((k_rec ((k_tvS ((k_tvS ((k_rec ((k_tvS ((k_tvS ((k_snS C (U_3, k_v C))) tv_6)) tv_9)) (hrS (k_v C) ((ka + kb))) U_12)) tv_17)) tv_20)) (k_v C) U_26)) (hrS (k_v C) ka) U_31)) (v2 := (hrS (hrS (k_v C) ka) kb)) (U := U_36) hom_33
              refine lv_iadd hx hb dL_passes_172 ?_
              refine lv_iload hx hb dL_passes_173 (lv_at hl 4 rfl) ?_
              refine lv_icmp_ne (tgt := 192) hx hb dL_passes_175 (by decide) (fun c_39 => ?_) (fun c_39 => ?_)
              · exact absurd (hj_add _ _ _) c_39
              · refine lv_aload_n hx hb dL_passes_178 rfl (lv_at hl 9 rfl) ?_
                refine z_oSl (C := (k_rec ((k_rec ((k_rec ((k_tvS ((k_tvS ((k_rec ((k_tvS ((k_tvS ((k_snS C (U_3, k_v C))) tv_6)) tv_9)) (hrS (k_v C) ((ka + kb))) U_12)) tv_17)) tv_20)) (k_v C) U_26)) (hrS (k_v C) ka) U_31)) (hrS (hrS (k_v C) ka) kb) U_36)) (K := fun u => Sm ((k_rec ((k_rec ((k_rec ((k_tvS ((k_tvS ((k_rec ((k_tvS ((k_tvS ((k_snS C (U_3, k_v C))) tv_6)) tv_9)) (hrS (k_v C) ((ka + kb))) U_12)) tv_17)) tv_20)) (k_v C) U_26)) (hrS (k_v C) ka) U_31)) (hrS (hrS (k_v C) ka) kb) U_36)) u) (v := dgV (hrS (hrS (k_v C) ka) kb)) (As := [.ref (k_ba C 0)]) (rest := []) ⟨hx, hb, hml, hown, hts⟩ hK hP hD hS hNW hA (c_L_digest l g ct _ ((k_rec ((k_rec ((k_rec ((k_tvS ((k_tvS ((k_rec ((k_tvS ((k_tvS ((k_snS C (U_3, k_v C))) tv_6)) tv_9)) (hrS (k_v C) ((ka + kb))) U_12)) tv_17)) tv_20)) (k_v C) U_26)) (hrS (k_v C) ka) U_31)) (hrS (hrS (k_v C) ka) kb) U_36)) hIV_37 (by omega)) (va_cwS 1 hts gL_passes_L_digest rfl rfl rfl (by decide +kernel) ⟨Nat.le_of_ble_eq_true rfl, Nat.le_of_ble_eq_true rfl⟩) rfl hl.1 rfl (Nat.le_of_ble_eq_true rfl) dL_passes_179 ⟨Nat.le_of_ble_eq_true rfl, Nat.le_of_ble_eq_true rfl⟩ (fun u_40 H locs hu_41 hP hD hS => ?_)
                obtain ⟨tv_42, rfl⟩ := hu_41
                refine lv_lload hx hb dL_passes_182 (lv_at hl 3 rfl) ?_
                refine z_lif_ne (tgt := 192) hx hb dL_passes_184 dL_passes_185 (by decide) (fun c_43 => ?_) (fun c_43 => ?_)
                · exact absurd (by rw [hr_add]) c_43
                · refine lv_iconst (v := 1) hx hb dL_passes_188 (by decide) ?_
                  refine lv_goto (tgt := 193) hx hb dL_passes_189 (by decide) ?_
                  exact z_retZ (⟨(k_tvS ((k_rec ((k_rec ((k_rec ((k_tvS ((k_tvS ((k_rec ((k_tvS ((k_tvS ((k_snS C (U_3, k_v C))) tv_6)) tv_9)) (hrS (k_v C) ((ka + kb))) U_12)) tv_17)) tv_20)) (k_v C) U_26)) (hrS (k_v C) ka) U_31)) (hrS (hrS (k_v C) ka) kb) U_36)) tv_42), ⟨⟨hIV_37, hom_38.1, hom_38.2, hT⟩, rfl⟩⟩ : {u : CT // CK u (T + 1) ∧ k_ba u = k_ba C}) hx hb hr hlocks rfl rfl hS hP hD (Nat.le_of_ble_eq_true rfl) (Nat.le_of_ble_eq_true rfl) dL_passes_193
    · refine lv_iload hx hb dL_passes_82 (lv_at hl 6 rfl) ?_
      refine lv_if_lt (tgt := 100) hx hb dL_passes_84 (by decide) (fun c_44 => ?_) (fun c_44 => ?_)
      · exact kk
      · refine lv_iload hx hb dL_passes_87 (lv_at hl 6 rfl) ?_
        refine lv_iload_n hx hb dL_passes_89 rfl (lv_at hl 9 rfl) ?_
        refine lv_iload_n hx hb dL_passes_90 rfl (lv_at hl 10 rfl) ?_
        refine z_iaddN (x := ka) (y := kb) hx hb dL_passes_91 ?_
        refine lv_icmp_ne (tgt := 100) hx hb dL_passes_92 (by decide) (fun c_45 => ?_) (fun c_45 => ?_)
        · exact kk
        · refine lv_iload hx hb dL_passes_95 (lv_at hl 1 rfl) ?_
          refine lv_if_ne (tgt := 156) hx hb dL_passes_97 (by decide) (fun c_46 => ?_) (fun c_46 => ?_)
          · exact absurd (sh_at (by omega) c_45) c_46
          · exact kk
  · refine lv_iload hx hb dL_passes_48 (lv_at hl 5 rfl) ?_
    refine lv_if_lt (tgt := 61) hx hb dL_passes_50 (by decide) (fun c_47 => ?_) (fun c_47 => ?_)
    · refine lv_iload hx hb dL_passes_61 (lv_at hl 0 rfl) ?_
      refine lv_if_eq (tgt := 70) hx hb dL_passes_63 (by decide) (fun c_48 => ?_) (fun c_48 => ?_)
      · exact absurd c_48 (sh_gt (by omega) (Or.inl c_47))
      · refine lv_iconst (v := 1) hx hb dL_passes_66 (by decide) ?_
        refine lv_goto (tgt := 75) hx hb dL_passes_67 (by decide) ?_
        exact kk
    · refine lv_iload hx hb dL_passes_53 (lv_at hl 5 rfl) ?_
      refine lv_iload_n hx hb dL_passes_55 rfl (lv_at hl 8 rfl) ?_
      refine lv_iload_n hx hb dL_passes_56 rfl (lv_at hl 9 rfl) ?_
      refine z_iaddN (x := ka) (y := kb) hx hb dL_passes_57 ?_
      refine lv_icmp_le (tgt := 74) hx hb dL_passes_58 (by decide) (fun c_49 => ?_) (fun c_49 => ?_)
      · refine lv_iconst (v := 1) hx hb dL_passes_74 (by decide) ?_
        exact kk
      · refine lv_iload hx hb dL_passes_61 (lv_at hl 0 rfl) ?_
        refine lv_if_eq (tgt := 70) hx hb dL_passes_63 (by decide) (fun c_50 => ?_) (fun c_50 => ?_)
        · exact absurd c_50 (sh_gt (by omega) (Or.inr c_49))
        · refine lv_iconst (v := 1) hx hb dL_passes_66 (by decide) ?_
          refine lv_goto (tgt := 75) hx hb dL_passes_67 (by decide) ?_
          exact kk
