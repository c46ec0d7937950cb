set_option maxHeartbeats 4000000 in
set_option maxRecDepth 100000 in
theorem c_L_orders (l : Launch) (g : va_G) (ct : Nat → ClassId) (sz : Nat) (C : CT) {T : Nat} (hC : CK C T) (hT : T + 1 ≤ 100) (so : Nat) (hso : 9 ≤ so ∧ so < 16) (ga ha : Int32) : Met l yL_orders wsL_orders (zRc 6 21 158 143) (va_Pc [.ref (k_ba C 0), .int (nI so), .int ga, .int ha] (zW g ct (CW ct C) sz)) (zEi (S := {u : CT // Aft C u T}) g (fun u => CW ct u.1) 1 (va_A (CW ct C) sz)) 21 158 (va_A (CW ct C) sz) := by
  refine z_write (QA := zEi (S := {u : CT // Aft C u T}) g (fun u => CW ct u.1) 1) (cc := cL_orders) (maxL := 10) (ret := some .boolean) (by decide) rfl (Nat.le_of_ble_eq_true rfl) ?_
  intro p e s m below meth c ls A hx hb hr hml hts hown hlocks hin hP hK hD hNW hA hS hl
  have hown : s.vm.findClass RL = some m.cls := hown
  have hl : lv_has ls 10 [(0, .ref (k_ba C 0)), (1, .int (nI so)), (2, .int ga), (3, .int ha)] := hl
  have hIV := hC.1
  have hnS := iv_nS hIV
  have hnD := iv_nD hIV
  have hnT := iv_nT hIV
  have hnP := iv_nP hIV
  have hh := iv_h hIV
  refine lv_aload_n hx hb dL_orders_0 rfl (lv_at hl 0 rfl) ?_
  refine lv_iconst (v := 1) hx hb dL_orders_1 (by decide) ?_
  refine z_rVi (C := C) (v := v_od (k_v C)) (As := [.int 1]) (rest := []) ⟨hx, hb, hml, hown, hts⟩ hK hP (rd_count_1 l g ct C hIV) (cwV 1 hts gL_orders_X9_count rfl rfl rfl (by decide +kernel) ⟨Nat.le_of_ble_eq_true rfl, Nat.le_of_ble_eq_true rfl⟩) rfl hl.1 rfl (Nat.le_of_ble_eq_true rfl) dL_orders_2 ⟨Nat.le_of_ble_eq_true rfl, Nat.le_of_ble_eq_true rfl⟩ ?_
  refine lv_istore (lv' := [(4, .int (v_od (k_v C))), (0, .ref (k_ba C 0)), (1, .int (nI so)), (2, .int ga), (3, .int ha)]) hx hb dL_orders_5 hl (by decide) rfl (fun ls hl => ?_)
  refine lv_iload_n hx hb dL_orders_7 rfl (lv_at hl 2 rfl) ?_
  refine lv_bipush (v := 11) hx hb dL_orders_8 (by decide) ?_
  refine z_icN_ge (x := so) (y := 11) (tgt := 152) hx hb (by omega) (by omega) dL_orders_10 (by decide) (fun c_1 => ?_) (fun c_1 => ?_)
  · refine lv_iload_n hx hb dL_orders_152 rfl (lv_at hl 2 rfl) ?_
    refine lv_bipush (v := 14) hx hb dL_orders_153 (by decide) ?_
    refine z_icN_ge (x := so) (y := 14) (tgt := 333) hx hb (by omega) (by omega) dL_orders_155 (by decide) (fun c_2 => ?_) (fun c_2 => ?_)
    · refine lv_iload_n hx hb dL_orders_333 rfl (lv_at hl 2 rfl) ?_
      refine lv_bipush (v := 14) hx hb dL_orders_334 (by decide) ?_
      refine z_icN_ne (x := so) (y := 14) (tgt := 419) hx hb (by omega) (by omega) dL_orders_336 (by decide) (fun c_3 => ?_) (fun c_3 => ?_)
      · refine lv_aload_n hx hb dL_orders_419 rfl (lv_at hl 1 rfl) ?_
        refine lv_bipush (v := 11) hx hb dL_orders_420 (by decide) ?_
        refine z_rVi (C := C) (v := nI (v_nS (k_v C))) (As := [.int 11]) (rest := []) ⟨hx, hb, hml, hown, hts⟩ hK hP (rd_count_11 l g ct C hIV) (cwV 1 hts gL_orders_X9_count rfl rfl rfl (by decide +kernel) ⟨Nat.le_of_ble_eq_true rfl, Nat.le_of_ble_eq_true rfl⟩) rfl hl.1 rfl (Nat.le_of_ble_eq_true rfl) dL_orders_422 ⟨Nat.le_of_ble_eq_true rfl, Nat.le_of_ble_eq_true rfl⟩ ?_
        refine z_ifN_ne (x := (v_nS (k_v C))) (tgt := 443) hx hb (by omega) dL_orders_425 (by decide) (fun c_4 => ?_) (fun c_4 => ?_)
        · refine lv_iload_n hx hb dL_orders_443 rfl (lv_at hl 4 rfl) ?_
          refine lv_aload_n hx hb dL_orders_444 rfl (lv_at hl 1 rfl) ?_
          refine lv_bipush (v := 11) hx hb dL_orders_445 (by decide) ?_
          refine z_rVi (C := C) (v := nI (v_nS (k_v C))) (As := [.int 11]) (rest := [.int ha]) ⟨hx, hb, hml, hown, hts⟩ hK hP (rd_count_11 l g ct C hIV) (cwV 1 hts gL_orders_X9_count rfl rfl rfl (by decide +kernel) ⟨Nat.le_of_ble_eq_true rfl, Nat.le_of_ble_eq_true rfl⟩) rfl hl.1 rfl (Nat.le_of_ble_eq_true rfl) dL_orders_447 ⟨Nat.le_of_ble_eq_true rfl, Nat.le_of_ble_eq_true rfl⟩ ?_
          refine z_cSi (v := nI (lowN ha (v_nS (k_v C)))) (As := [.int ha, .int (nI (v_nS (k_v C)))]) (rest := []) ⟨hx, hb, hml, hown, hts⟩ (c_L_low l ha (v_nS (k_v C)) (by omega) (by omega)) (va_cwS 2 hts gL_orders_L_low rfl rfl rfl (by decide +kernel) ⟨Nat.le_of_ble_eq_true rfl, Nat.le_of_ble_eq_true rfl⟩) rfl hl.1 rfl (Nat.le_of_ble_eq_true rfl) dL_orders_450 ⟨Nat.le_of_ble_eq_true rfl, Nat.le_of_ble_eq_true rfl⟩ ?_
          refine lv_istore (lv' := [(5, .int (nI (lowN ha (v_nS (k_v C))))), (4, .int (v_od (k_v C))), (0, .ref (k_ba C 0)), (1, .int (nI so)), (2, .int ga), (3, .int ha)]) hx hb dL_orders_453 hl (by decide) rfl (fun ls hl => ?_)
          refine lv_aload_n hx hb dL_orders_455 rfl (lv_at hl 2 rfl) ?_
          refine lv_iload hx hb dL_orders_456 (lv_at hl 0 rfl) ?_
          refine lv_iconst (v := 3) hx hb dL_orders_458 (by decide) ?_
          refine z_rVi (C := C) (v := v_co (k_v C) (lowN ha (v_nS (k_v C)))) (As := [.int (nI (lowN ha (v_nS (k_v C)))), .int 3]) (rest := []) ⟨hx, hb, hml, hown, hts⟩ hK hP (rd_section_3 l g ct C hIV (lowN ha (v_nS (k_v C))) (lowN_lt _ (by omega))) (cwV 2 hts gL_orders_X9_section rfl rfl rfl (by decide +kernel) ⟨Nat.le_of_ble_eq_true rfl, Nat.le_of_ble_eq_true rfl⟩) rfl hl.1 rfl (Nat.le_of_ble_eq_true rfl) dL_orders_459 ⟨Nat.le_of_ble_eq_true rfl, Nat.le_of_ble_eq_true rfl⟩ ?_
          refine lv_istore (lv' := [(6, .int (v_co (k_v C) (lowN ha (v_nS (k_v C))))), (5, .int (nI (lowN ha (v_nS (k_v C))))), (4, .int (v_od (k_v C))), (0, .ref (k_ba C 0)), (1, .int (nI so)), (2, .int ga), (3, .int ha)]) hx hb dL_orders_462 hl (by decide) rfl (fun ls hl => ?_)
          refine lv_aload_n hx hb dL_orders_464 rfl (lv_at hl 3 rfl) ?_
          refine lv_iload hx hb dL_orders_465 (lv_at hl 1 rfl) ?_
          refine lv_iconst (v := 5) hx hb dL_orders_467 (by decide) ?_
          refine z_rVi (C := C) (v := v_cs (k_v C) (lowN ha (v_nS (k_v C)))) (As := [.int (nI (lowN ha (v_nS (k_v C)))), .int 5]) (rest := []) ⟨hx, hb, hml, hown, hts⟩ hK hP (rd_section_5 l g ct C hIV (lowN ha (v_nS (k_v C))) (lowN_lt _ (by omega))) (cwV 2 hts gL_orders_X9_section rfl rfl rfl (by decide +kernel) ⟨Nat.le_of_ble_eq_true rfl, Nat.le_of_ble_eq_true rfl⟩) rfl hl.1 rfl (Nat.le_of_ble_eq_true rfl) dL_orders_468 ⟨Nat.le_of_ble_eq_true rfl, Nat.le_of_ble_eq_true rfl⟩ ?_
          refine lv_istore (lv' := [(7, .int (v_cs (k_v C) (lowN ha (v_nS (k_v C))))), (6, .int (v_co (k_v C) (lowN ha (v_nS (k_v C))))), (5, .int (nI (lowN ha (v_nS (k_v C))))), (4, .int (v_od (k_v C))), (0, .ref (k_ba C 0)), (1, .int (nI so)), (2, .int ga), (3, .int ha)]) hx hb dL_orders_471 hl (by decide) rfl (fun ls hl => ?_)
          refine lv_aload_n hx hb dL_orders_473 rfl (lv_at hl 4 rfl) ?_
          refine lv_iload hx hb dL_orders_474 (lv_at hl 2 rfl) ?_
          by_cases f_5 : (v_co (k_v C) (lowN ha (v_nS (k_v C))) = 1 ∨ v_co (k_v C) (lowN ha (v_nS (k_v C))) = 3) ∨ v_co (k_v C) (lowN ha (v_nS (k_v C))) = 2
          · refine z_rVi (C := C) (v := -4) (As := [.int (nI (lowN ha (v_nS (k_v C))))]) (rest := []) ⟨hx, hb, hml, hown, hts⟩ hK hP (rd_sv4 l g ct C hIV (lowN ha (v_nS (k_v C))) (lowN_lt _ (by omega)) f_5) (cwV 1 hts gL_orders_X9_service rfl rfl rfl (by decide +kernel) ⟨Nat.le_of_ble_eq_true rfl, Nat.le_of_ble_eq_true rfl⟩) rfl hl.1 rfl (Nat.le_of_ble_eq_true rfl) dL_orders_476 ⟨Nat.le_of_ble_eq_true rfl, Nat.le_of_ble_eq_true rfl⟩ ?_
            refine lv_istore (lv' := [(8, .int (-4)), (7, .int (v_cs (k_v C) (lowN ha (v_nS (k_v C))))), (6, .int (v_co (k_v C) (lowN ha (v_nS (k_v C))))), (5, .int (nI (lowN ha (v_nS (k_v C))))), (4, .int (v_od (k_v C))), (0, .ref (k_ba C 0)), (1, .int (nI so)), (2, .int ga), (3, .int ha)]) hx hb dL_orders_479 hl (by decide) rfl (fun ls hl => ?_)
            refine lv_iload hx hb dL_orders_481 (lv_at hl 2 rfl) ?_
            refine lv_if_eq (tgt := 507) hx hb dL_orders_483 (by decide) (fun c_6 => ?_) (fun c_6 => ?_)
            · exact absurd c_6 (sv_x f_5).1
            · refine lv_iload hx hb dL_orders_486 (lv_at hl 2 rfl) ?_
              refine lv_iconst (v := 4) hx hb dL_orders_488 (by decide) ?_
              refine lv_icmp_eq (tgt := 507) hx hb dL_orders_489 (by decide) (fun c_7 => ?_) (fun c_7 => ?_)
              · exact absurd c_7 (sv_x f_5).2
              · refine lv_iload hx hb dL_orders_492 (lv_at hl 0 rfl) ?_
                refine lv_bipush (v := (-4)) hx hb dL_orders_494 (by decide) ?_
                refine lv_icmp_ne (tgt := 503) hx hb dL_orders_496 (by decide) (fun h => absurd h (by decide)) (fun _ => ?_)
                refine lv_iconst (v := 1) hx hb dL_orders_499 (by decide) ?_
                refine lv_goto (tgt := 564) hx hb dL_orders_500 (by decide) ?_
                exact z_retZ (⟨C, Or.inl (Sm_0 C)⟩ : {u : CT // Aft C u T}) hx hb hr hlocks rfl rfl hS hP hD (Nat.le_of_ble_eq_true rfl) (Nat.le_of_ble_eq_true rfl) dL_orders_564
          · by_cases f_8 : v_co (k_v C) (lowN ha (v_nS (k_v C))) = 0 ∧ v_cs (k_v C) (lowN ha (v_nS (k_v C))) = 0
            · refine z_rVi (C := C) (v := -5) (As := [.int (nI (lowN ha (v_nS (k_v C))))]) (rest := []) ⟨hx, hb, hml, hown, hts⟩ hK hP (rd_sv5 l g ct C hIV (lowN ha (v_nS (k_v C))) (lowN_lt _ (by omega)) f_5 f_8) (cwV 1 hts gL_orders_X9_service rfl rfl rfl (by decide +kernel) ⟨Nat.le_of_ble_eq_true rfl, Nat.le_of_ble_eq_true rfl⟩) rfl hl.1 rfl (Nat.le_of_ble_eq_true rfl) dL_orders_476 ⟨Nat.le_of_ble_eq_true rfl, Nat.le_of_ble_eq_true rfl⟩ ?_
              refine lv_istore (lv' := [(8, .int (-5)), (7, .int (v_cs (k_v C) (lowN ha (v_nS (k_v C))))), (6, .int (v_co (k_v C) (lowN ha (v_nS (k_v C))))), (5, .int (nI (lowN ha (v_nS (k_v C))))), (4, .int (v_od (k_v C))), (0, .ref (k_ba C 0)), (1, .int (nI so)), (2, .int ga), (3, .int ha)]) hx hb dL_orders_479 hl (by decide) rfl (fun ls hl => ?_)
              refine lv_iload hx hb dL_orders_481 (lv_at hl 2 rfl) ?_
              refine lv_if_eq (tgt := 507) hx hb dL_orders_483 (by decide) (fun c_9 => ?_) (fun c_9 => ?_)
              · refine lv_iload hx hb dL_orders_507 (lv_at hl 2 rfl) ?_
                refine lv_if_ne (tgt := 532) hx hb dL_orders_509 (by decide) (fun c_10 => ?_) (fun c_10 => ?_)
                · exact absurd c_9 c_10
                · refine lv_iload hx hb dL_orders_512 (lv_at hl 1 rfl) ?_
                  refine lv_if_ne (tgt := 532) hx hb dL_orders_514 (by decide) (fun c_11 => ?_) (fun c_11 => ?_)
                  · exact absurd f_8.2 c_11
                  · refine lv_iload hx hb dL_orders_517 (lv_at hl 0 rfl) ?_
                    refine lv_bipush (v := (-5)) hx hb dL_orders_519 (by decide) ?_
                    refine lv_icmp_ne (tgt := 528) hx hb dL_orders_521 (by decide) (fun h => absurd h (by decide)) (fun _ => ?_)
                    refine lv_iconst (v := 1) hx hb dL_orders_524 (by decide) ?_
                    refine lv_goto (tgt := 564) hx hb dL_orders_525 (by decide) ?_
                    exact z_retZ (⟨C, Or.inl (Sm_0 C)⟩ : {u : CT // Aft C u T}) hx hb hr hlocks rfl rfl hS hP hD (Nat.le_of_ble_eq_true rfl) (Nat.le_of_ble_eq_true rfl) dL_orders_564
              · refine lv_iload hx hb dL_orders_486 (lv_at hl 2 rfl) ?_
                refine lv_iconst (v := 4) hx hb dL_orders_488 (by decide) ?_
                refine lv_icmp_eq (tgt := 507) hx hb dL_orders_489 (by decide) (fun c_12 => ?_) (fun c_12 => ?_)
                · refine lv_iload hx hb dL_orders_507 (lv_at hl 2 rfl) ?_
                  refine lv_if_ne (tgt := 532) hx hb dL_orders_509 (by decide) (fun c_13 => ?_) (fun c_13 => ?_)
                  · exact absurd f_8.1 c_13
                  · exact absurd c_13 c_9
                · exact absurd (sv_y ((iv_s hIV).1 (lowN ha (v_nS (k_v C))) (lowN_lt _ (by omega))).2.2.2.1 f_5 c_9) c_12
            · refine z_oVi (C := C) (K := fun u => ∃ U, u = k_rec C (nv_service_b (k_v C) (lowN ha (v_nS (k_v C)))) U) (v := v_cs (k_v C) (lowN ha (v_nS (k_v C)))) (As := [.int (nI (lowN ha (v_nS (k_v C))))]) (rest := []) ⟨hx, hb, hml, hown, hts⟩ hK hP hD hS hNW hA (ac_service_b l g ct _ C hC.2.1 hC.2.2.1 (iv_01 hIV) (iv_nS hIV) (lowN ha (v_nS (k_v C))) (lowN_lt _ (by omega)) ⟨(fun q => f_5 (Or.inl q)), (fun q => f_5 (Or.inr q)), f_8⟩) (cwV 1 hts gL_orders_X9_service rfl rfl rfl (by decide +kernel) ⟨Nat.le_of_ble_eq_true rfl, Nat.le_of_ble_eq_true rfl⟩) rfl hl.1 rfl (Nat.le_of_ble_eq_true rfl) dL_orders_476 ⟨Nat.le_of_ble_eq_true rfl, Nat.le_of_ble_eq_true rfl⟩ (fun u_14 H locs hu_15 hP hD hS => ?_)
              obtain ⟨U_16, rfl⟩ := hu_15
              have hIV_17 : IV (nv_service_b (k_v C) (lowN ha (v_nS (k_v C)))) _ := iv_service hIV
              refine lv_istore (lv' := [(8, .int (v_cs (k_v C) (lowN ha (v_nS (k_v C))))), (7, .int (v_cs (k_v C) (lowN ha (v_nS (k_v C))))), (6, .int (v_co (k_v C) (lowN ha (v_nS (k_v C))))), (5, .int (nI (lowN ha (v_nS (k_v C))))), (4, .int (v_od (k_v C))), (0, .ref (k_ba C 0)), (1, .int (nI so)), (2, .int ga), (3, .int ha)]) hx hb dL_orders_479 hl (by decide) rfl (fun ls hl => ?_)
              refine lv_iload hx hb dL_orders_481 (lv_at hl 2 rfl) ?_
              refine lv_if_eq (tgt := 507) hx hb dL_orders_483 (by decide) (fun c_18 => ?_) (fun c_18 => ?_)
              · refine lv_iload hx hb dL_orders_507 (lv_at hl 2 rfl) ?_
                refine lv_if_ne (tgt := 532) hx hb dL_orders_509 (by decide) (fun c_19 => ?_) (fun c_19 => ?_)
                · exact absurd c_18 c_19
                · refine lv_iload hx hb dL_orders_512 (lv_at hl 1 rfl) ?_
                  refine lv_if_ne (tgt := 532) hx hb dL_orders_514 (by decide) (fun c_20 => ?_) (fun c_20 => ?_)
                  · refine lv_iload hx hb dL_orders_532 (lv_at hl 0 rfl) ?_
                    refine lv_iload hx hb dL_orders_534 (lv_at hl 1 rfl) ?_
                    refine lv_icmp_ne (tgt := 563) hx hb dL_orders_536 (by decide) (fun c_21 => ?_) (fun c_21 => ?_)
                    · exact absurd rfl c_21
                    · refine lv_aload_n hx hb dL_orders_539 rfl (lv_at hl 5 rfl) ?_
                      refine lv_iload hx hb dL_orders_540 (lv_at hl 3 rfl) ?_
                      refine lv_iconst (v := 3) hx hb dL_orders_542 (by decide) ?_
                      refine z_rVi (C := (k_rec C (nv_service_b (k_v C) (lowN ha (v_nS (k_v C)))) U_16)) (v := upd (v_co (k_v C)) (lowN ha (v_nS (k_v C))) 0 (lowN ha (v_nS (k_v C)))) (As := [.int (nI (lowN ha (v_nS (k_v C)))), .int 3]) (rest := []) ⟨hx, hb, hml, hown, hts⟩ hK hP (rd_section_3 l g ct ((k_rec C (nv_service_b (k_v C) (lowN ha (v_nS (k_v C)))) U_16)) hIV_17 (lowN ha (v_nS (k_v C))) (lowN_lt _ (by omega))) (cwV 2 hts gL_orders_X9_section rfl rfl rfl (by decide +kernel) ⟨Nat.le_of_ble_eq_true rfl, Nat.le_of_ble_eq_true rfl⟩) rfl hl.1 rfl (Nat.le_of_ble_eq_true rfl) dL_orders_543 ⟨Nat.le_of_ble_eq_true rfl, Nat.le_of_ble_eq_true rfl⟩ ?_
                      refine lv_if_ne (tgt := 563) hx hb dL_orders_546 (by decide) (fun c_22 => ?_) (fun c_22 => ?_)
                      · exact absurd pk_us c_22
                      · refine lv_aload_n hx hb dL_orders_549 rfl (lv_at hl 5 rfl) ?_
                        refine lv_iload hx hb dL_orders_550 (lv_at hl 3 rfl) ?_
                        refine lv_iconst (v := 5) hx hb dL_orders_552 (by decide) ?_
                        refine z_rVi (C := (k_rec C (nv_service_b (k_v C) (lowN ha (v_nS (k_v C)))) U_16)) (v := upd (v_cs (k_v C)) (lowN ha (v_nS (k_v C))) 0 (lowN ha (v_nS (k_v C)))) (As := [.int (nI (lowN ha (v_nS (k_v C)))), .int 5]) (rest := []) ⟨hx, hb, hml, hown, hts⟩ hK hP (rd_section_5 l g ct ((k_rec C (nv_service_b (k_v C) (lowN ha (v_nS (k_v C)))) U_16)) hIV_17 (lowN ha (v_nS (k_v C))) (lowN_lt _ (by omega))) (cwV 2 hts gL_orders_X9_section rfl rfl rfl (by decide +kernel) ⟨Nat.le_of_ble_eq_true rfl, Nat.le_of_ble_eq_true rfl⟩) rfl hl.1 rfl (Nat.le_of_ble_eq_true rfl) dL_orders_553 ⟨Nat.le_of_ble_eq_true rfl, Nat.le_of_ble_eq_true rfl⟩ ?_
                        refine lv_if_ne (tgt := 563) hx hb dL_orders_556 (by decide) (fun c_23 => ?_) (fun c_23 => ?_)
                        · exact absurd pk_us c_23
                        · refine lv_iconst (v := 1) hx hb dL_orders_559 (by decide) ?_
                          refine lv_goto (tgt := 564) hx hb dL_orders_560 (by decide) ?_
                          exact z_retZ (⟨(k_rec C (nv_service_b (k_v C) (lowN ha (v_nS (k_v C)))) U_16), Or.inr ⟨_, U_16, iv_m hIV_17 (by omega), Sm_0 _⟩⟩ : {u : CT // Aft C u T}) hx hb hr hlocks rfl rfl hS hP hD (Nat.le_of_ble_eq_true rfl) (Nat.le_of_ble_eq_true rfl) dL_orders_564
                  · exact absurd ⟨c_18, c_20⟩ f_8
              · refine lv_iload hx hb dL_orders_486 (lv_at hl 2 rfl) ?_
                refine lv_iconst (v := 4) hx hb dL_orders_488 (by decide) ?_
                refine lv_icmp_eq (tgt := 507) hx hb dL_orders_489 (by decide) (fun c_24 => ?_) (fun c_24 => ?_)
                · refine lv_iload hx hb dL_orders_507 (lv_at hl 2 rfl) ?_
                  refine lv_if_ne (tgt := 532) hx hb dL_orders_509 (by decide) (fun c_25 => ?_) (fun c_25 => ?_)
                  · refine lv_iload hx hb dL_orders_532 (lv_at hl 0 rfl) ?_
                    refine lv_iload hx hb dL_orders_534 (lv_at hl 1 rfl) ?_
                    refine lv_icmp_ne (tgt := 563) hx hb dL_orders_536 (by decide) (fun c_26 => ?_) (fun c_26 => ?_)
                    · exact absurd rfl c_26
                    · refine lv_aload_n hx hb dL_orders_539 rfl (lv_at hl 5 rfl) ?_
                      refine lv_iload hx hb dL_orders_540 (lv_at hl 3 rfl) ?_
                      refine lv_iconst (v := 3) hx hb dL_orders_542 (by decide) ?_
                      refine z_rVi (C := (k_rec C (nv_service_b (k_v C) (lowN ha (v_nS (k_v C)))) U_16)) (v := upd (v_co (k_v C)) (lowN ha (v_nS (k_v C))) 0 (lowN ha (v_nS (k_v C)))) (As := [.int (nI (lowN ha (v_nS (k_v C)))), .int 3]) (rest := []) ⟨hx, hb, hml, hown, hts⟩ hK hP (rd_section_3 l g ct ((k_rec C (nv_service_b (k_v C) (lowN ha (v_nS (k_v C)))) U_16)) hIV_17 (lowN ha (v_nS (k_v C))) (lowN_lt _ (by omega))) (cwV 2 hts gL_orders_X9_section rfl rfl rfl (by decide +kernel) ⟨Nat.le_of_ble_eq_true rfl, Nat.le_of_ble_eq_true rfl⟩) rfl hl.1 rfl (Nat.le_of_ble_eq_true rfl) dL_orders_543 ⟨Nat.le_of_ble_eq_true rfl, Nat.le_of_ble_eq_true rfl⟩ ?_
                      refine lv_if_ne (tgt := 563) hx hb dL_orders_546 (by decide) (fun c_27 => ?_) (fun c_27 => ?_)
                      · exact absurd pk_us c_27
                      · refine lv_aload_n hx hb dL_orders_549 rfl (lv_at hl 5 rfl) ?_
                        refine lv_iload hx hb dL_orders_550 (lv_at hl 3 rfl) ?_
                        refine lv_iconst (v := 5) hx hb dL_orders_552 (by decide) ?_
                        refine z_rVi (C := (k_rec C (nv_service_b (k_v C) (lowN ha (v_nS (k_v C)))) U_16)) (v := upd (v_cs (k_v C)) (lowN ha (v_nS (k_v C))) 0 (lowN ha (v_nS (k_v C)))) (As := [.int (nI (lowN ha (v_nS (k_v C)))), .int 5]) (rest := []) ⟨hx, hb, hml, hown, hts⟩ hK hP (rd_section_5 l g ct ((k_rec C (nv_service_b (k_v C) (lowN ha (v_nS (k_v C)))) U_16)) hIV_17 (lowN ha (v_nS (k_v C))) (lowN_lt _ (by omega))) (cwV 2 hts gL_orders_X9_section rfl rfl rfl (by decide +kernel) ⟨Nat.le_of_ble_eq_true rfl, Nat.le_of_ble_eq_true rfl⟩) rfl hl.1 rfl (Nat.le_of_ble_eq_true rfl) dL_orders_553 ⟨Nat.le_of_ble_eq_true rfl, Nat.le_of_ble_eq_true rfl⟩ ?_
                        refine lv_if_ne (tgt := 563) hx hb dL_orders_556 (by decide) (fun c_28 => ?_) (fun c_28 => ?_)
                        · exact absurd pk_us c_28
                        · refine lv_iconst (v := 1) hx hb dL_orders_559 (by decide) ?_
                          refine lv_goto (tgt := 564) hx hb dL_orders_560 (by decide) ?_
                          exact z_retZ (⟨(k_rec C (nv_service_b (k_v C) (lowN ha (v_nS (k_v C)))) U_16), Or.inr ⟨_, U_16, iv_m hIV_17 (by omega), Sm_0 _⟩⟩ : {u : CT // Aft C u T}) hx hb hr hlocks rfl rfl hS hP hD (Nat.le_of_ble_eq_true rfl) (Nat.le_of_ble_eq_true rfl) dL_orders_564
                  · exact absurd c_25 c_18
                · exact absurd (sv_y ((iv_s hIV).1 (lowN ha (v_nS (k_v C))) (lowN_lt _ (by omega))).2.2.2.1 f_5 c_18) c_24
        · refine lv_aload_n hx hb dL_orders_428 rfl (lv_at hl 1 rfl) ?_
          refine lv_iconst (v := 0) hx hb dL_orders_429 (by decide) ?_
          refine z_rVi (C := C) (v := -1) (As := [.int 0]) (rest := []) ⟨hx, hb, hml, hown, hts⟩ hK hP (rd_service_u l g ct C (iv_nS hIV) 0 (fun q => absurd q.2 (by rw [c_4]; decide))) (cwV 1 hts gL_orders_X9_service rfl rfl rfl (by decide +kernel) ⟨Nat.le_of_ble_eq_true rfl, Nat.le_of_ble_eq_true rfl⟩) rfl hl.1 rfl (Nat.le_of_ble_eq_true rfl) dL_orders_430 ⟨Nat.le_of_ble_eq_true rfl, Nat.le_of_ble_eq_true rfl⟩ ?_
          refine lv_iconst (v := (-1)) hx hb dL_orders_433 (by decide) ?_
          refine lv_icmp_ne (tgt := 441) hx hb dL_orders_434 (by decide) (fun h => absurd h (by decide)) (fun _ => ?_)
          refine lv_iconst (v := 1) hx hb dL_orders_437 (by decide) ?_
          refine lv_goto (tgt := 442) hx hb dL_orders_438 (by decide) ?_
          exact z_retZ (⟨C, Or.inl (Sm_0 C)⟩ : {u : CT // Aft C u T}) hx hb hr hlocks rfl rfl hS hP hD (Nat.le_of_ble_eq_true rfl) (Nat.le_of_ble_eq_true rfl) dL_orders_442
      · refine lv_aload_n hx hb dL_orders_339 rfl (lv_at hl 1 rfl) ?_
        by_cases f_29 : cntI (v_co (k_v C)) 2 (v_nS (k_v C)) = 0 ∧ mvI (v_co (k_v C)) (v_nS (k_v C)) = -5
        · refine z_rVi (C := C) (v := -4) (As := []) (rest := []) ⟨hx, hb, hml, hown, hts⟩ hK hP (rd_op4 l g ct C hIV f_29) (cwV 0 hts gL_orders_X9_open rfl rfl rfl (by decide +kernel) ⟨Nat.le_of_ble_eq_true rfl, Nat.le_of_ble_eq_true rfl⟩) rfl hl.1 rfl (Nat.le_of_ble_eq_true rfl) dL_orders_340 ⟨Nat.le_of_ble_eq_true rfl, Nat.le_of_ble_eq_true rfl⟩ ?_
          refine lv_istore (lv' := [(5, .int (-4)), (4, .int (v_od (k_v C))), (0, .ref (k_ba C 0)), (1, .int (nI so)), (2, .int ga), (3, .int ha)]) hx hb dL_orders_343 hl (by decide) rfl (fun ls hl => ?_)
          refine lv_aload_n hx hb dL_orders_345 rfl (lv_at hl 2 rfl) ?_
          refine lv_iconst (v := 3) hx hb dL_orders_346 (by decide) ?_
          refine z_rVi (C := C) (v := cntI (v_co (k_v C)) 2 (v_nS (k_v C))) (As := [.int 3]) (rest := []) ⟨hx, hb, hml, hown, hts⟩ hK hP (rd_count_3 l g ct C hIV) (cwV 1 hts gL_orders_X9_count rfl rfl rfl (by decide +kernel) ⟨Nat.le_of_ble_eq_true rfl, Nat.le_of_ble_eq_true rfl⟩) rfl hl.1 rfl (Nat.le_of_ble_eq_true rfl) dL_orders_347 ⟨Nat.le_of_ble_eq_true rfl, Nat.le_of_ble_eq_true rfl⟩ ?_
          refine lv_if_gt (tgt := 361) hx hb dL_orders_350 (by decide) (fun c_30 => ?_) (fun c_30 => ?_)
          · exact absurd (show (0 : Int32) < 0 from by rw [f_29.1] at c_30; exact c_30) (by decide)
          · refine lv_aload_n hx hb dL_orders_353 rfl (lv_at hl 2 rfl) ?_
            refine lv_iconst (v := 2) hx hb dL_orders_354 (by decide) ?_
            refine z_rVi (C := C) (v := mvI (v_co (k_v C)) (v_nS (k_v C))) (As := [.int 2]) (rest := []) ⟨hx, hb, hml, hown, hts⟩ hK hP (rd_count_2 l g ct C hIV) (cwV 1 hts gL_orders_X9_count rfl rfl rfl (by decide +kernel) ⟨Nat.le_of_ble_eq_true rfl, Nat.le_of_ble_eq_true rfl⟩) rfl hl.1 rfl (Nat.le_of_ble_eq_true rfl) dL_orders_355 ⟨Nat.le_of_ble_eq_true rfl, Nat.le_of_ble_eq_true rfl⟩ ?_
            refine lv_if_lt (tgt := 365) hx hb dL_orders_358 (by decide) (fun c_31 => ?_) (fun c_31 => ?_)
            · refine lv_iconst (v := 0) hx hb dL_orders_365 (by decide) ?_
              refine lv_istore (lv' := [(6, .int 0), (5, .int (-4)), (4, .int (v_od (k_v C))), (0, .ref (k_ba C 0)), (1, .int (nI so)), (2, .int ga), (3, .int ha)]) hx hb dL_orders_366 hl (by decide) rfl (fun ls hl => ?_)
              refine lv_iload hx hb dL_orders_368 (lv_at hl 1 rfl) ?_
              refine lv_iload hx hb dL_orders_370 (lv_at hl 0 rfl) ?_
              refine lv_if_ne (tgt := 380) hx hb dL_orders_372 (by decide) (fun h => absurd h (by decide)) (fun _ => ?_)
              refine lv_bipush (v := (-4)) hx hb dL_orders_375 (by decide) ?_
              refine lv_goto (tgt := 396) hx hb dL_orders_377 (by decide) ?_
              refine lv_icmp_ne (tgt := 417) hx hb dL_orders_396 (by decide) (fun h => absurd h (by decide)) (fun _ => ?_)
              refine lv_iload hx hb dL_orders_399 (lv_at hl 0 rfl) ?_
              refine lv_if_eq (tgt := 413) hx hb dL_orders_401 (by decide) (fun _ => ?_) (fun h => absurd h (by decide))
              refine lv_iconst (v := 1) hx hb dL_orders_413 (by decide) ?_
              refine lv_goto (tgt := 418) hx hb dL_orders_414 (by decide) ?_
              exact z_retZ (⟨C, Or.inl (Sm_0 C)⟩ : {u : CT // Aft C u T}) hx hb hr hlocks rfl rfl hS hP hD (Nat.le_of_ble_eq_true rfl) (Nat.le_of_ble_eq_true rfl) dL_orders_418
            · exact absurd (show mvI (v_co (k_v C)) (v_nS (k_v C)) < 0 by rw [f_29.2]; decide) c_31
        · by_cases f_32 : v_od (k_v C) = 2
          · refine z_rVi (C := C) (v := -5) (As := []) (rest := []) ⟨hx, hb, hml, hown, hts⟩ hK hP (rd_op5 l g ct C hIV f_29 f_32) (cwV 0 hts gL_orders_X9_open rfl rfl rfl (by decide +kernel) ⟨Nat.le_of_ble_eq_true rfl, Nat.le_of_ble_eq_true rfl⟩) rfl hl.1 rfl (Nat.le_of_ble_eq_true rfl) dL_orders_340 ⟨Nat.le_of_ble_eq_true rfl, Nat.le_of_ble_eq_true rfl⟩ ?_
            refine lv_istore (lv' := [(5, .int (-5)), (4, .int (v_od (k_v C))), (0, .ref (k_ba C 0)), (1, .int (nI so)), (2, .int ga), (3, .int ha)]) hx hb dL_orders_343 hl (by decide) rfl (fun ls hl => ?_)
            refine lv_aload_n hx hb dL_orders_345 rfl (lv_at hl 2 rfl) ?_
            refine lv_iconst (v := 3) hx hb dL_orders_346 (by decide) ?_
            refine z_rVi (C := C) (v := cntI (v_co (k_v C)) 2 (v_nS (k_v C))) (As := [.int 3]) (rest := []) ⟨hx, hb, hml, hown, hts⟩ hK hP (rd_count_3 l g ct C hIV) (cwV 1 hts gL_orders_X9_count rfl rfl rfl (by decide +kernel) ⟨Nat.le_of_ble_eq_true rfl, Nat.le_of_ble_eq_true rfl⟩) rfl hl.1 rfl (Nat.le_of_ble_eq_true rfl) dL_orders_347 ⟨Nat.le_of_ble_eq_true rfl, Nat.le_of_ble_eq_true rfl⟩ ?_
            refine lv_if_gt (tgt := 361) hx hb dL_orders_350 (by decide) (fun c_33 => ?_) (fun c_33 => ?_)
            · refine lv_iconst (v := 1) hx hb dL_orders_361 (by decide) ?_
              refine lv_goto (tgt := 366) hx hb dL_orders_362 (by decide) ?_
              refine lv_istore (lv' := [(6, .int 1), (5, .int (-5)), (4, .int (v_od (k_v C))), (0, .ref (k_ba C 0)), (1, .int (nI so)), (2, .int ga), (3, .int ha)]) hx hb dL_orders_366 hl (by decide) rfl (fun ls hl => ?_)
              refine lv_iload hx hb dL_orders_368 (lv_at hl 1 rfl) ?_
              refine lv_iload hx hb dL_orders_370 (lv_at hl 0 rfl) ?_
              refine lv_if_ne (tgt := 380) hx hb dL_orders_372 (by decide) (fun _ => ?_) (fun h => absurd h (by decide))
              refine lv_iload hx hb dL_orders_380 (lv_at hl 2 rfl) ?_
              refine lv_iconst (v := 2) hx hb dL_orders_382 (by decide) ?_
              refine lv_icmp_ne (tgt := 391) hx hb dL_orders_383 (by decide) (fun c_34 => ?_) (fun c_34 => ?_)
              · exact absurd f_32 c_34
              · refine lv_bipush (v := (-5)) hx hb dL_orders_386 (by decide) ?_
                refine lv_goto (tgt := 396) hx hb dL_orders_388 (by decide) ?_
                refine lv_icmp_ne (tgt := 417) hx hb dL_orders_396 (by decide) (fun h => absurd h (by decide)) (fun _ => ?_)
                refine lv_iload hx hb dL_orders_399 (lv_at hl 0 rfl) ?_
                refine lv_if_eq (tgt := 413) hx hb dL_orders_401 (by decide) (fun h => absurd h (by decide)) (fun _ => ?_)
                refine lv_aload_n hx hb dL_orders_404 rfl (lv_at hl 3 rfl) ?_
                refine lv_iconst (v := 1) hx hb dL_orders_405 (by decide) ?_
                refine z_rVi (C := C) (v := v_od (k_v C)) (As := [.int 1]) (rest := []) ⟨hx, hb, hml, hown, hts⟩ hK hP (rd_count_1 l g ct C hIV) (cwV 1 hts gL_orders_X9_count rfl rfl rfl (by decide +kernel) ⟨Nat.le_of_ble_eq_true rfl, Nat.le_of_ble_eq_true rfl⟩) rfl hl.1 rfl (Nat.le_of_ble_eq_true rfl) dL_orders_406 ⟨Nat.le_of_ble_eq_true rfl, Nat.le_of_ble_eq_true rfl⟩ ?_
                refine lv_iconst (v := 2) hx hb dL_orders_409 (by decide) ?_
                refine lv_icmp_ne (tgt := 417) hx hb dL_orders_410 (by decide) (fun c_35 => ?_) (fun c_35 => ?_)
                · exact absurd f_32 c_35
                · refine lv_iconst (v := 1) hx hb dL_orders_413 (by decide) ?_
                  refine lv_goto (tgt := 418) hx hb dL_orders_414 (by decide) ?_
                  exact z_retZ (⟨C, Or.inl (Sm_0 C)⟩ : {u : CT // Aft C u T}) hx hb hr hlocks rfl rfl hS hP hD (Nat.le_of_ble_eq_true rfl) (Nat.le_of_ble_eq_true rfl) dL_orders_418
            · refine lv_aload_n hx hb dL_orders_353 rfl (lv_at hl 2 rfl) ?_
              refine lv_iconst (v := 2) hx hb dL_orders_354 (by decide) ?_
              refine z_rVi (C := C) (v := mvI (v_co (k_v C)) (v_nS (k_v C))) (As := [.int 2]) (rest := []) ⟨hx, hb, hml, hown, hts⟩ hK hP (rd_count_2 l g ct C hIV) (cwV 1 hts gL_orders_X9_count rfl rfl rfl (by decide +kernel) ⟨Nat.le_of_ble_eq_true rfl, Nat.le_of_ble_eq_true rfl⟩) rfl hl.1 rfl (Nat.le_of_ble_eq_true rfl) dL_orders_355 ⟨Nat.le_of_ble_eq_true rfl, Nat.le_of_ble_eq_true rfl⟩ ?_
              refine lv_if_lt (tgt := 365) hx hb dL_orders_358 (by decide) (fun c_36 => ?_) (fun c_36 => ?_)
              · exact absurd c_36 (op_x hIV f_29 c_33)
              · refine lv_iconst (v := 1) hx hb dL_orders_361 (by decide) ?_
                refine lv_goto (tgt := 366) hx hb dL_orders_362 (by decide) ?_
                refine lv_istore (lv' := [(6, .int 1), (5, .int (-5)), (4, .int (v_od (k_v C))), (0, .ref (k_ba C 0)), (1, .int (nI so)), (2, .int ga), (3, .int ha)]) hx hb dL_orders_366 hl (by decide) rfl (fun ls hl => ?_)
                refine lv_iload hx hb dL_orders_368 (lv_at hl 1 rfl) ?_
                refine lv_iload hx hb dL_orders_370 (lv_at hl 0 rfl) ?_
                refine lv_if_ne (tgt := 380) hx hb dL_orders_372 (by decide) (fun _ => ?_) (fun h => absurd h (by decide))
                refine lv_iload hx hb dL_orders_380 (lv_at hl 2 rfl) ?_
                refine lv_iconst (v := 2) hx hb dL_orders_382 (by decide) ?_
                refine lv_icmp_ne (tgt := 391) hx hb dL_orders_383 (by decide) (fun c_37 => ?_) (fun c_37 => ?_)
                · exact absurd f_32 c_37
                · refine lv_bipush (v := (-5)) hx hb dL_orders_386 (by decide) ?_
                  refine lv_goto (tgt := 396) hx hb dL_orders_388 (by decide) ?_
                  refine lv_icmp_ne (tgt := 417) hx hb dL_orders_396 (by decide) (fun h => absurd h (by decide)) (fun _ => ?_)
                  refine lv_iload hx hb dL_orders_399 (lv_at hl 0 rfl) ?_
                  refine lv_if_eq (tgt := 413) hx hb dL_orders_401 (by decide) (fun h => absurd h (by decide)) (fun _ => ?_)
                  refine lv_aload_n hx hb dL_orders_404 rfl (lv_at hl 3 rfl) ?_
                  refine lv_iconst (v := 1) hx hb dL_orders_405 (by decide) ?_
                  refine z_rVi (C := C) (v := v_od (k_v C)) (As := [.int 1]) (rest := []) ⟨hx, hb, hml, hown, hts⟩ hK hP (rd_count_1 l g ct C hIV) (cwV 1 hts gL_orders_X9_count rfl rfl rfl (by decide +kernel) ⟨Nat.le_of_ble_eq_true rfl, Nat.le_of_ble_eq_true rfl⟩) rfl hl.1 rfl (Nat.le_of_ble_eq_true rfl) dL_orders_406 ⟨Nat.le_of_ble_eq_true rfl, Nat.le_of_ble_eq_true rfl⟩ ?_
                  refine lv_iconst (v := 2) hx hb dL_orders_409 (by decide) ?_
                  refine lv_icmp_ne (tgt := 417) hx hb dL_orders_410 (by decide) (fun c_38 => ?_) (fun c_38 => ?_)
                  · exact absurd f_32 c_38
                  · refine lv_iconst (v := 1) hx hb dL_orders_413 (by decide) ?_
                    refine lv_goto (tgt := 418) hx hb dL_orders_414 (by decide) ?_
                    exact z_retZ (⟨C, Or.inl (Sm_0 C)⟩ : {u : CT // Aft C u T}) hx hb hr hlocks rfl rfl hS hP hD (Nat.le_of_ble_eq_true rfl) (Nat.le_of_ble_eq_true rfl) dL_orders_418
          · refine z_oVi (C := C) (K := fun u => ∃ U, u = k_rec C (nv_open_b (k_v C)) U) (v := cntI (v_co (k_v C)) 2 (v_nS (k_v C))) (As := []) (rest := []) ⟨hx, hb, hml, hown, hts⟩ hK hP hD hS hNW hA (ac_open_b l g ct _ C hC.2.1 hC.2.2.1 (iv_01 hIV) (iv_nS hIV) ⟨f_29, f_32⟩) (cwV 0 hts gL_orders_X9_open rfl rfl rfl (by decide +kernel) ⟨Nat.le_of_ble_eq_true rfl, Nat.le_of_ble_eq_true rfl⟩) rfl hl.1 rfl (Nat.le_of_ble_eq_true rfl) dL_orders_340 ⟨Nat.le_of_ble_eq_true rfl, Nat.le_of_ble_eq_true rfl⟩ (fun u_39 H locs hu_40 hP hD hS => ?_)
            obtain ⟨U_41, rfl⟩ := hu_40
            have hIV_42 : IV (nv_open_b (k_v C)) _ := iv_open hIV
            refine lv_istore (lv' := [(5, .int (cntI (v_co (k_v C)) 2 (v_nS (k_v C)))), (4, .int (v_od (k_v C))), (0, .ref (k_ba C 0)), (1, .int (nI so)), (2, .int ga), (3, .int ha)]) hx hb dL_orders_343 hl (by decide) rfl (fun ls hl => ?_)
            refine lv_aload_n hx hb dL_orders_345 rfl (lv_at hl 2 rfl) ?_
            refine lv_iconst (v := 3) hx hb dL_orders_346 (by decide) ?_
            refine z_rVi (C := (k_rec C (nv_open_b (k_v C)) U_41)) (v := cntI (v_co (k_v C)) 2 (v_nS (k_v C))) (As := [.int 3]) (rest := []) ⟨hx, hb, hml, hown, hts⟩ hK hP (rd_count_3 l g ct ((k_rec C (nv_open_b (k_v C)) U_41)) hIV_42) (cwV 1 hts gL_orders_X9_count rfl rfl rfl (by decide +kernel) ⟨Nat.le_of_ble_eq_true rfl, Nat.le_of_ble_eq_true rfl⟩) rfl hl.1 rfl (Nat.le_of_ble_eq_true rfl) dL_orders_347 ⟨Nat.le_of_ble_eq_true rfl, Nat.le_of_ble_eq_true rfl⟩ ?_
            refine lv_if_gt (tgt := 361) hx hb dL_orders_350 (by decide) (fun c_43 => ?_) (fun c_43 => ?_)
            · refine lv_iconst (v := 1) hx hb dL_orders_361 (by decide) ?_
              refine lv_goto (tgt := 366) hx hb dL_orders_362 (by decide) ?_
              refine lv_istore (lv' := [(6, .int 1), (5, .int (cntI (v_co (k_v C)) 2 (v_nS (k_v C)))), (4, .int (v_od (k_v C))), (0, .ref (k_ba C 0)), (1, .int (nI so)), (2, .int ga), (3, .int ha)]) hx hb dL_orders_366 hl (by decide) rfl (fun ls hl => ?_)
              refine lv_iload hx hb dL_orders_368 (lv_at hl 1 rfl) ?_
              refine lv_iload hx hb dL_orders_370 (lv_at hl 0 rfl) ?_
              refine lv_if_ne (tgt := 380) hx hb dL_orders_372 (by decide) (fun _ => ?_) (fun h => absurd h (by decide))
              refine lv_iload hx hb dL_orders_380 (lv_at hl 2 rfl) ?_
              refine lv_iconst (v := 2) hx hb dL_orders_382 (by decide) ?_
              refine lv_icmp_ne (tgt := 391) hx hb dL_orders_383 (by decide) (fun c_44 => ?_) (fun c_44 => ?_)
              · refine lv_aload_n hx hb dL_orders_391 rfl (lv_at hl 3 rfl) ?_
                refine lv_iconst (v := 3) hx hb dL_orders_392 (by decide) ?_
                refine z_rVi (C := (k_rec C (nv_open_b (k_v C)) U_41)) (v := cntI (v_co (k_v C)) 2 (v_nS (k_v C))) (As := [.int 3]) (rest := [.int (cntI (v_co (k_v C)) 2 (v_nS (k_v C)))]) ⟨hx, hb, hml, hown, hts⟩ hK hP (rd_count_3 l g ct ((k_rec C (nv_open_b (k_v C)) U_41)) hIV_42) (cwV 1 hts gL_orders_X9_count rfl rfl rfl (by decide +kernel) ⟨Nat.le_of_ble_eq_true rfl, Nat.le_of_ble_eq_true rfl⟩) rfl hl.1 rfl (Nat.le_of_ble_eq_true rfl) dL_orders_393 ⟨Nat.le_of_ble_eq_true rfl, Nat.le_of_ble_eq_true rfl⟩ ?_
                refine lv_icmp_ne (tgt := 417) hx hb dL_orders_396 (by decide) (fun c_45 => ?_) (fun c_45 => ?_)
                · exact absurd rfl c_45
                · refine lv_iload hx hb dL_orders_399 (lv_at hl 0 rfl) ?_
                  refine lv_if_eq (tgt := 413) hx hb dL_orders_401 (by decide) (fun h => absurd h (by decide)) (fun _ => ?_)
                  refine lv_aload_n hx hb dL_orders_404 rfl (lv_at hl 3 rfl) ?_
                  refine lv_iconst (v := 1) hx hb dL_orders_405 (by decide) ?_
                  refine z_rVi (C := (k_rec C (nv_open_b (k_v C)) U_41)) (v := 2) (As := [.int 1]) (rest := []) ⟨hx, hb, hml, hown, hts⟩ hK hP (rd_count_1 l g ct ((k_rec C (nv_open_b (k_v C)) U_41)) hIV_42) (cwV 1 hts gL_orders_X9_count rfl rfl rfl (by decide +kernel) ⟨Nat.le_of_ble_eq_true rfl, Nat.le_of_ble_eq_true rfl⟩) rfl hl.1 rfl (Nat.le_of_ble_eq_true rfl) dL_orders_406 ⟨Nat.le_of_ble_eq_true rfl, Nat.le_of_ble_eq_true rfl⟩ ?_
                  refine lv_iconst (v := 2) hx hb dL_orders_409 (by decide) ?_
                  refine lv_icmp_ne (tgt := 417) hx hb dL_orders_410 (by decide) (fun h => absurd h (by decide)) (fun _ => ?_)
                  refine lv_iconst (v := 1) hx hb dL_orders_413 (by decide) ?_
                  refine lv_goto (tgt := 418) hx hb dL_orders_414 (by decide) ?_
                  exact z_retZ (⟨(k_rec C (nv_open_b (k_v C)) U_41), Or.inr ⟨_, U_41, iv_m hIV_42 (by omega), Sm_0 _⟩⟩ : {u : CT // Aft C u T}) hx hb hr hlocks rfl rfl hS hP hD (Nat.le_of_ble_eq_true rfl) (Nat.le_of_ble_eq_true rfl) dL_orders_418
              · exact absurd c_44 f_32
            · refine lv_aload_n hx hb dL_orders_353 rfl (lv_at hl 2 rfl) ?_
              refine lv_iconst (v := 2) hx hb dL_orders_354 (by decide) ?_
              refine z_rVi (C := (k_rec C (nv_open_b (k_v C)) U_41)) (v := mvI (v_co (k_v C)) (v_nS (k_v C))) (As := [.int 2]) (rest := []) ⟨hx, hb, hml, hown, hts⟩ hK hP (rd_count_2 l g ct ((k_rec C (nv_open_b (k_v C)) U_41)) hIV_42) (cwV 1 hts gL_orders_X9_count rfl rfl rfl (by decide +kernel) ⟨Nat.le_of_ble_eq_true rfl, Nat.le_of_ble_eq_true rfl⟩) rfl hl.1 rfl (Nat.le_of_ble_eq_true rfl) dL_orders_355 ⟨Nat.le_of_ble_eq_true rfl, Nat.le_of_ble_eq_true rfl⟩ ?_
              refine lv_if_lt (tgt := 365) hx hb dL_orders_358 (by decide) (fun c_46 => ?_) (fun c_46 => ?_)
              · exact absurd c_46 (op_x hIV f_29 c_43)
              · refine lv_iconst (v := 1) hx hb dL_orders_361 (by decide) ?_
                refine lv_goto (tgt := 366) hx hb dL_orders_362 (by decide) ?_
                refine lv_istore (lv' := [(6, .int 1), (5, .int (cntI (v_co (k_v C)) 2 (v_nS (k_v C)))), (4, .int (v_od (k_v C))), (0, .ref (k_ba C 0)), (1, .int (nI so)), (2, .int ga), (3, .int ha)]) hx hb dL_orders_366 hl (by decide) rfl (fun ls hl => ?_)
                refine lv_iload hx hb dL_orders_368 (lv_at hl 1 rfl) ?_
                refine lv_iload hx hb dL_orders_370 (lv_at hl 0 rfl) ?_
                refine lv_if_ne (tgt := 380) hx hb dL_orders_372 (by decide) (fun _ => ?_) (fun h => absurd h (by decide))
                refine lv_iload hx hb dL_orders_380 (lv_at hl 2 rfl) ?_
                refine lv_iconst (v := 2) hx hb dL_orders_382 (by decide) ?_
                refine lv_icmp_ne (tgt := 391) hx hb dL_orders_383 (by decide) (fun c_47 => ?_) (fun c_47 => ?_)
                · refine lv_aload_n hx hb dL_orders_391 rfl (lv_at hl 3 rfl) ?_
                  refine lv_iconst (v := 3) hx hb dL_orders_392 (by decide) ?_
                  refine z_rVi (C := (k_rec C (nv_open_b (k_v C)) U_41)) (v := cntI (v_co (k_v C)) 2 (v_nS (k_v C))) (As := [.int 3]) (rest := [.int (cntI (v_co (k_v C)) 2 (v_nS (k_v C)))]) ⟨hx, hb, hml, hown, hts⟩ hK hP (rd_count_3 l g ct ((k_rec C (nv_open_b (k_v C)) U_41)) hIV_42) (cwV 1 hts gL_orders_X9_count rfl rfl rfl (by decide +kernel) ⟨Nat.le_of_ble_eq_true rfl, Nat.le_of_ble_eq_true rfl⟩) rfl hl.1 rfl (Nat.le_of_ble_eq_true rfl) dL_orders_393 ⟨Nat.le_of_ble_eq_true rfl, Nat.le_of_ble_eq_true rfl⟩ ?_
                  refine lv_icmp_ne (tgt := 417) hx hb dL_orders_396 (by decide) (fun c_48 => ?_) (fun c_48 => ?_)
                  · exact absurd rfl c_48
                  · refine lv_iload hx hb dL_orders_399 (lv_at hl 0 rfl) ?_
                    refine lv_if_eq (tgt := 413) hx hb dL_orders_401 (by decide) (fun h => absurd h (by decide)) (fun _ => ?_)
                    refine lv_aload_n hx hb dL_orders_404 rfl (lv_at hl 3 rfl) ?_
                    refine lv_iconst (v := 1) hx hb dL_orders_405 (by decide) ?_
                    refine z_rVi (C := (k_rec C (nv_open_b (k_v C)) U_41)) (v := 2) (As := [.int 1]) (rest := []) ⟨hx, hb, hml, hown, hts⟩ hK hP (rd_count_1 l g ct ((k_rec C (nv_open_b (k_v C)) U_41)) hIV_42) (cwV 1 hts gL_orders_X9_count rfl rfl rfl (by decide +kernel) ⟨Nat.le_of_ble_eq_true rfl, Nat.le_of_ble_eq_true rfl⟩) rfl hl.1 rfl (Nat.le_of_ble_eq_true rfl) dL_orders_406 ⟨Nat.le_of_ble_eq_true rfl, Nat.le_of_ble_eq_true rfl⟩ ?_
                    refine lv_iconst (v := 2) hx hb dL_orders_409 (by decide) ?_
                    refine lv_icmp_ne (tgt := 417) hx hb dL_orders_410 (by decide) (fun h => absurd h (by decide)) (fun _ => ?_)
                    refine lv_iconst (v := 1) hx hb dL_orders_413 (by decide) ?_
                    refine lv_goto (tgt := 418) hx hb dL_orders_414 (by decide) ?_
                    exact z_retZ (⟨(k_rec C (nv_open_b (k_v C)) U_41), Or.inr ⟨_, U_41, iv_m hIV_42 (by omega), Sm_0 _⟩⟩ : {u : CT // Aft C u T}) hx hb hr hlocks rfl rfl hS hP hD (Nat.le_of_ble_eq_true rfl) (Nat.le_of_ble_eq_true rfl) dL_orders_418
                · exact absurd c_47 f_32
    · refine lv_aload_n hx hb dL_orders_158 rfl (lv_at hl 1 rfl) ?_
      refine lv_bipush (v := 7) hx hb dL_orders_159 (by decide) ?_
      refine z_rVi (C := C) (v := v_cb (k_v C)) (As := [.int 7]) (rest := []) ⟨hx, hb, hml, hown, hts⟩ hK hP (rd_count_7 l g ct C hIV) (cwV 1 hts gL_orders_X9_count rfl rfl rfl (by decide +kernel) ⟨Nat.le_of_ble_eq_true rfl, Nat.le_of_ble_eq_true rfl⟩) rfl hl.1 rfl (Nat.le_of_ble_eq_true rfl) dL_orders_161 ⟨Nat.le_of_ble_eq_true rfl, Nat.le_of_ble_eq_true rfl⟩ ?_
      refine lv_istore (lv' := [(5, .int (v_cb (k_v C))), (4, .int (v_od (k_v C))), (0, .ref (k_ba C 0)), (1, .int (nI so)), (2, .int ga), (3, .int ha)]) hx hb dL_orders_164 hl (by decide) rfl (fun ls hl => ?_)
      refine lv_aload_n hx hb dL_orders_166 rfl (lv_at hl 2 rfl) ?_
      refine lv_bipush (v := 8) hx hb dL_orders_167 (by decide) ?_
      refine z_rVi (C := C) (v := v_dl (k_v C)) (As := [.int 8]) (rest := []) ⟨hx, hb, hml, hown, hts⟩ hK hP (rd_count_8 l g ct C hIV) (cwV 1 hts gL_orders_X9_count rfl rfl rfl (by decide +kernel) ⟨Nat.le_of_ble_eq_true rfl, Nat.le_of_ble_eq_true rfl⟩) rfl hl.1 rfl (Nat.le_of_ble_eq_true rfl) dL_orders_169 ⟨Nat.le_of_ble_eq_true rfl, Nat.le_of_ble_eq_true rfl⟩ ?_
      refine lv_istore (lv' := [(6, .int (v_dl (k_v C))), (5, .int (v_cb (k_v C))), (4, .int (v_od (k_v C))), (0, .ref (k_ba C 0)), (1, .int (nI so)), (2, .int ga), (3, .int ha)]) hx hb dL_orders_172 hl (by decide) rfl (fun ls hl => ?_)
      refine lv_iconst (v := 2) hx hb dL_orders_174 (by decide) ?_
      refine lv_aload_n hx hb dL_orders_175 rfl (lv_at hl 3 rfl) ?_
      refine lv_iconst (v := 5) hx hb dL_orders_176 (by decide) ?_
      refine z_rVi (C := C) (v := wcI (v_cl (k_v C)) (v_we (k_v C)) (v_nD (k_v C))) (As := [.int 5]) (rest := [.int 2]) ⟨hx, hb, hml, hown, hts⟩ hK hP (rd_count_5 l g ct C hIV) (cwV 1 hts gL_orders_X9_count rfl rfl rfl (by decide +kernel) ⟨Nat.le_of_ble_eq_true rfl, Nat.le_of_ble_eq_true rfl⟩) rfl hl.1 rfl (Nat.le_of_ble_eq_true rfl) dL_orders_177 ⟨Nat.le_of_ble_eq_true rfl, Nat.le_of_ble_eq_true rfl⟩ ?_
      refine lv_imul hx hb dL_orders_180 ?_
      refine lv_aload_n hx hb dL_orders_181 rfl (lv_at hl 3 rfl) ?_
      refine lv_bipush (v := 6) hx hb dL_orders_182 (by decide) ?_
      refine z_rVi (C := C) (v := waI (v_we (k_v C)) (v_nD (k_v C))) (As := [.int 6]) (rest := [.int (2 * (wcI (v_cl (k_v C)) (v_we (k_v C)) (v_nD (k_v C))))]) ⟨hx, hb, hml, hown, hts⟩ hK hP (rd_count_6 l g ct C hIV) (cwV 1 hts gL_orders_X9_count rfl rfl rfl (by decide +kernel) ⟨Nat.le_of_ble_eq_true rfl, Nat.le_of_ble_eq_true rfl⟩) rfl hl.1 rfl (Nat.le_of_ble_eq_true rfl) dL_orders_184 ⟨Nat.le_of_ble_eq_true rfl, Nat.le_of_ble_eq_true rfl⟩ ?_
      refine lv_icmp_le (tgt := 201) hx hb dL_orders_187 (by decide) (fun c_49 => ?_) (fun c_49 => ?_)
      · refine lv_iconst (v := 0) hx hb dL_orders_201 (by decide) ?_
        refine lv_istore (lv' := [(7, .int 0), (6, .int (v_dl (k_v C))), (5, .int (v_cb (k_v C))), (4, .int (v_od (k_v C))), (0, .ref (k_ba C 0)), (1, .int (nI so)), (2, .int ga), (3, .int ha)]) hx hb dL_orders_202 hl (by decide) rfl (fun ls hl => ?_)
        refine lv_aload_n hx hb dL_orders_204 rfl (lv_at hl 4 rfl) ?_
        refine lv_iconst (v := 0) hx hb dL_orders_205 (by decide) ?_
        refine z_rVd (C := C) (v := (v_td (k_v C) (v_h (k_v C) % 24)).toUInt64) (As := [.int 0]) (rest := []) ⟨hx, hb, hml, hown, hts⟩ hK hP (rd_level_0 l g ct C hIV (by omega)) (cwV 1 hts gL_orders_X9_level rfl rfl rfl (by decide +kernel) ⟨Nat.le_of_ble_eq_true rfl, Nat.le_of_ble_eq_true rfl⟩) rfl hl.1 rfl (Nat.le_of_ble_eq_true rfl) dL_orders_206 ⟨Nat.le_of_ble_eq_true rfl, Nat.le_of_ble_eq_true rfl⟩ ?_
        refine lv_aload_n hx hb dL_orders_209 rfl (lv_at hl 4 rfl) ?_
        refine lv_iconst (v := 2) hx hb dL_orders_210 (by decide) ?_
        refine z_rVd (C := C) (v := (v_al (k_v C)).toUInt64) (As := [.int 2]) (rest := [.double ((v_td (k_v C) (v_h (k_v C) % 24)).toUInt64)]) ⟨hx, hb, hml, hown, hts⟩ hK hP (rd_level_2 l g ct C hIV (by omega)) (cwV 1 hts gL_orders_X9_level rfl rfl rfl (by decide +kernel) ⟨Nat.le_of_ble_eq_true rfl, Nat.le_of_ble_eq_true rfl⟩) rfl hl.1 rfl (Nat.le_of_ble_eq_true rfl) dL_orders_211 ⟨Nat.le_of_ble_eq_true rfl, Nat.le_of_ble_eq_true rfl⟩ ?_
        refine z_cut (B0 := 223) (st2 := [.int (if (¬ 0 ≤ Op.cmpValue (FP.dcmp (v_td (k_v C) (v_h (k_v C) % 24)).toUInt64 (v_al (k_v C)).toUInt64) CmpOp.g) then 1 else 0)]) ?_ (fun kk => ?_)
        · refine lv_istore (lv' := [(8, .int (if (¬ 0 ≤ Op.cmpValue (FP.dcmp (v_td (k_v C) (v_h (k_v C) % 24)).toUInt64 (v_al (k_v C)).toUInt64) CmpOp.g) then 1 else 0)), (7, .int 0), (6, .int (v_dl (k_v C))), (5, .int (v_cb (k_v C))), (4, .int (v_od (k_v C))), (0, .ref (k_ba C 0)), (1, .int (nI so)), (2, .int ga), (3, .int ha)]) hx hb dL_orders_223 hl (by decide) rfl (fun ls hl => ?_)
          refine lv_aload_n hx hb dL_orders_225 rfl (lv_at hl 5 rfl) ?_
          refine z_rVi (C := C) (v := -4) (As := []) (rest := []) ⟨hx, hb, hml, hown, hts⟩ hK hP (rd_cl4 l g ct C hIV (Or.inl c_49)) (cwV 0 hts gL_orders_X9_close rfl rfl rfl (by decide +kernel) ⟨Nat.le_of_ble_eq_true rfl, Nat.le_of_ble_eq_true rfl⟩) rfl hl.1 rfl (Nat.le_of_ble_eq_true rfl) dL_orders_226 ⟨Nat.le_of_ble_eq_true rfl, Nat.le_of_ble_eq_true rfl⟩ ?_
          refine lv_istore (lv' := [(9, .int (-4)), (8, .int (if (¬ 0 ≤ Op.cmpValue (FP.dcmp (v_td (k_v C) (v_h (k_v C) % 24)).toUInt64 (v_al (k_v C)).toUInt64) CmpOp.g) then 1 else 0)), (7, .int 0), (6, .int (v_dl (k_v C))), (5, .int (v_cb (k_v C))), (4, .int (v_od (k_v C))), (0, .ref (k_ba C 0)), (1, .int (nI so)), (2, .int ga), (3, .int ha)]) hx hb dL_orders_229 hl (by decide) rfl (fun ls hl => ?_)
          refine lv_iload hx hb dL_orders_231 (lv_at hl 2 rfl) ?_
          refine lv_if_eq (tgt := 242) hx hb dL_orders_233 (by decide) (fun _ => ?_) (fun h => absurd h (by decide))
          refine lv_iload hx hb dL_orders_242 (lv_at hl 0 rfl) ?_
          refine lv_iload hx hb dL_orders_244 (lv_at hl 2 rfl) ?_
          refine lv_if_eq (tgt := 254) hx hb dL_orders_246 (by decide) (fun _ => ?_) (fun h => absurd h (by decide))
          refine lv_bipush (v := (-4)) hx hb dL_orders_254 (by decide) ?_
          refine lv_icmp_ne (tgt := 274) hx hb dL_orders_256 (by decide) (fun h => absurd h (by decide)) (fun _ => ?_)
          refine lv_aload_n hx hb dL_orders_259 rfl (lv_at hl 6 rfl) ?_
          refine lv_bipush (v := 7) hx hb dL_orders_260 (by decide) ?_
          refine z_rVi (C := C) (v := v_cb (k_v C)) (As := [.int 7]) (rest := []) ⟨hx, hb, hml, hown, hts⟩ hK hP (rd_count_7 l g ct C hIV) (cwV 1 hts gL_orders_X9_count rfl rfl rfl (by decide +kernel) ⟨Nat.le_of_ble_eq_true rfl, Nat.le_of_ble_eq_true rfl⟩) rfl hl.1 rfl (Nat.le_of_ble_eq_true rfl) dL_orders_262 ⟨Nat.le_of_ble_eq_true rfl, Nat.le_of_ble_eq_true rfl⟩ ?_
          refine lv_iload hx hb dL_orders_265 (lv_at hl 4 rfl) ?_
          refine lv_icmp_ne (tgt := 274) hx hb dL_orders_267 (by decide) (fun c_50 => ?_) (fun c_50 => ?_)
          · exact absurd rfl c_50
          · refine lv_iconst (v := 1) hx hb dL_orders_270 (by decide) ?_
            refine lv_goto (tgt := 275) hx hb dL_orders_271 (by decide) ?_
            exact z_retZ (⟨C, Or.inl (Sm_0 C)⟩ : {u : CT // Aft C u T}) hx hb hr hlocks rfl rfl hS hP hD (Nat.le_of_ble_eq_true rfl) (Nat.le_of_ble_eq_true rfl) dL_orders_275
        · refine lv_dcmp hx hb dL_orders_214 ?_
          refine lv_if_ge (tgt := 222) hx hb dL_orders_215 (by decide) (fun c_51 => ?_) (fun c_51 => ?_)
          · refine lv_iconst (v := 0) hx hb dL_orders_222 (by decide) ?_
            rw [if_neg (fun q => q c_51)] at kk; exact kk
          · refine lv_iconst (v := 1) hx hb dL_orders_218 (by decide) ?_
            refine lv_goto (tgt := 223) hx hb dL_orders_219 (by decide) ?_
            rw [if_pos c_51] at kk; exact kk
      · refine lv_aload_n hx hb dL_orders_190 rfl (lv_at hl 3 rfl) ?_
        refine z_oVi (C := C) (K := fun u => Sm C u) (v := shI (k_v C)) (As := []) (rest := []) ⟨hx, hb, hml, hown, hts⟩ hK hP hD hS hNW hA (ac_shutInI l g ct _ C hIV (by omega)) (cwV 0 hts gL_orders_X9_shutIn rfl rfl rfl (by decide +kernel) ⟨Nat.le_of_ble_eq_true rfl, Nat.le_of_ble_eq_true rfl⟩) rfl hl.1 rfl (Nat.le_of_ble_eq_true rfl) dL_orders_191 ⟨Nat.le_of_ble_eq_true rfl, Nat.le_of_ble_eq_true rfl⟩ (fun u_52 H locs hu_53 hP hD hS => ?_)
        obtain ⟨tv_54, rfl⟩ := hu_53
        refine lv_if_eq (tgt := 201) hx hb dL_orders_194 (by decide) (fun c_55 => ?_) (fun c_55 => ?_)
        · refine lv_iconst (v := 0) hx hb dL_orders_201 (by decide) ?_
          refine lv_istore (lv' := [(7, .int 0), (6, .int (v_dl (k_v C))), (5, .int (v_cb (k_v C))), (4, .int (v_od (k_v C))), (0, .ref (k_ba C 0)), (1, .int (nI so)), (2, .int ga), (3, .int ha)]) hx hb dL_orders_202 hl (by decide) rfl (fun ls hl => ?_)
          refine lv_aload_n hx hb dL_orders_204 rfl (lv_at hl 4 rfl) ?_
          refine lv_iconst (v := 0) hx hb dL_orders_205 (by decide) ?_
          refine z_rVd (C := (k_tvS C tv_54)) (v := (v_td (k_v C) (v_h (k_v C) % 24)).toUInt64) (As := [.int 0]) (rest := []) ⟨hx, hb, hml, hown, hts⟩ hK hP (rd_level_0 l g ct ((k_tvS C tv_54)) hIV (by omega)) (cwV 1 hts gL_orders_X9_level rfl rfl rfl (by decide +kernel) ⟨Nat.le_of_ble_eq_true rfl, Nat.le_of_ble_eq_true rfl⟩) rfl hl.1 rfl (Nat.le_of_ble_eq_true rfl) dL_orders_206 ⟨Nat.le_of_ble_eq_true rfl, Nat.le_of_ble_eq_true rfl⟩ ?_
          refine lv_aload_n hx hb dL_orders_209 rfl (lv_at hl 4 rfl) ?_
          refine lv_iconst (v := 2) hx hb dL_orders_210 (by decide) ?_
          refine z_rVd (C := (k_tvS C tv_54)) (v := (v_al (k_v C)).toUInt64) (As := [.int 2]) (rest := [.double ((v_td (k_v C) (v_h (k_v C) % 24)).toUInt64)]) ⟨hx, hb, hml, hown, hts⟩ hK hP (rd_level_2 l g ct ((k_tvS C tv_54)) hIV (by omega)) (cwV 1 hts gL_orders_X9_level rfl rfl rfl (by decide +kernel) ⟨Nat.le_of_ble_eq_true rfl, Nat.le_of_ble_eq_true rfl⟩) rfl hl.1 rfl (Nat.le_of_ble_eq_true rfl) dL_orders_211 ⟨Nat.le_of_ble_eq_true rfl, Nat.le_of_ble_eq_true rfl⟩ ?_
          refine z_cut (B0 := 223) (st2 := [.int (if (¬ 0 ≤ Op.cmpValue (FP.dcmp (v_td (k_v C) (v_h (k_v C) % 24)).toUInt64 (v_al (k_v C)).toUInt64) CmpOp.g) then 1 else 0)]) ?_ (fun kk => ?_)
          · refine lv_istore (lv' := [(8, .int (if (¬ 0 ≤ Op.cmpValue (FP.dcmp (v_td (k_v C) (v_h (k_v C) % 24)).toUInt64 (v_al (k_v C)).toUInt64) CmpOp.g) then 1 else 0)), (7, .int 0), (6, .int (v_dl (k_v C))), (5, .int (v_cb (k_v C))), (4, .int (v_od (k_v C))), (0, .ref (k_ba C 0)), (1, .int (nI so)), (2, .int ga), (3, .int ha)]) hx hb dL_orders_223 hl (by decide) rfl (fun ls hl => ?_)
            refine lv_aload_n hx hb dL_orders_225 rfl (lv_at hl 5 rfl) ?_
            refine z_rVi (C := (k_tvS C tv_54)) (v := -4) (As := []) (rest := []) ⟨hx, hb, hml, hown, hts⟩ hK hP (rd_cl4 l g ct ((k_tvS C tv_54)) hIV (Or.inr ((sh_0 _).mp c_55))) (cwV 0 hts gL_orders_X9_close rfl rfl rfl (by decide +kernel) ⟨Nat.le_of_ble_eq_true rfl, Nat.le_of_ble_eq_true rfl⟩) rfl hl.1 rfl (Nat.le_of_ble_eq_true rfl) dL_orders_226 ⟨Nat.le_of_ble_eq_true rfl, Nat.le_of_ble_eq_true rfl⟩ ?_
            refine lv_istore (lv' := [(9, .int (-4)), (8, .int (if (¬ 0 ≤ Op.cmpValue (FP.dcmp (v_td (k_v C) (v_h (k_v C) % 24)).toUInt64 (v_al (k_v C)).toUInt64) CmpOp.g) then 1 else 0)), (7, .int 0), (6, .int (v_dl (k_v C))), (5, .int (v_cb (k_v C))), (4, .int (v_od (k_v C))), (0, .ref (k_ba C 0)), (1, .int (nI so)), (2, .int ga), (3, .int ha)]) hx hb dL_orders_229 hl (by decide) rfl (fun ls hl => ?_)
            refine lv_iload hx hb dL_orders_231 (lv_at hl 2 rfl) ?_
            refine lv_if_eq (tgt := 242) hx hb dL_orders_233 (by decide) (fun _ => ?_) (fun h => absurd h (by decide))
            refine lv_iload hx hb dL_orders_242 (lv_at hl 0 rfl) ?_
            refine lv_iload hx hb dL_orders_244 (lv_at hl 2 rfl) ?_
            refine lv_if_eq (tgt := 254) hx hb dL_orders_246 (by decide) (fun _ => ?_) (fun h => absurd h (by decide))
            refine lv_bipush (v := (-4)) hx hb dL_orders_254 (by decide) ?_
            refine lv_icmp_ne (tgt := 274) hx hb dL_orders_256 (by decide) (fun h => absurd h (by decide)) (fun _ => ?_)
            refine lv_aload_n hx hb dL_orders_259 rfl (lv_at hl 6 rfl) ?_
            refine lv_bipush (v := 7) hx hb dL_orders_260 (by decide) ?_
            refine z_rVi (C := (k_tvS C tv_54)) (v := v_cb (k_v C)) (As := [.int 7]) (rest := []) ⟨hx, hb, hml, hown, hts⟩ hK hP (rd_count_7 l g ct ((k_tvS C tv_54)) hIV) (cwV 1 hts gL_orders_X9_count rfl rfl rfl (by decide +kernel) ⟨Nat.le_of_ble_eq_true rfl, Nat.le_of_ble_eq_true rfl⟩) rfl hl.1 rfl (Nat.le_of_ble_eq_true rfl) dL_orders_262 ⟨Nat.le_of_ble_eq_true rfl, Nat.le_of_ble_eq_true rfl⟩ ?_
            refine lv_iload hx hb dL_orders_265 (lv_at hl 4 rfl) ?_
            refine lv_icmp_ne (tgt := 274) hx hb dL_orders_267 (by decide) (fun c_56 => ?_) (fun c_56 => ?_)
            · exact absurd rfl c_56
            · refine lv_iconst (v := 1) hx hb dL_orders_270 (by decide) ?_
              refine lv_goto (tgt := 275) hx hb dL_orders_271 (by decide) ?_
              exact z_retZ (⟨(k_tvS C tv_54), Or.inl (Sm_t (Sm_0 C) ⟨tv_54, rfl⟩)⟩ : {u : CT // Aft C u T}) hx hb hr hlocks rfl rfl hS hP hD (Nat.le_of_ble_eq_true rfl) (Nat.le_of_ble_eq_true rfl) dL_orders_275
          · refine lv_dcmp hx hb dL_orders_214 ?_
            refine lv_if_ge (tgt := 222) hx hb dL_orders_215 (by decide) (fun c_57 => ?_) (fun c_57 => ?_)
            · refine lv_iconst (v := 0) hx hb dL_orders_222 (by decide) ?_
              rw [if_neg (fun q => q c_57)] at kk; exact kk
            · refine lv_iconst (v := 1) hx hb dL_orders_218 (by decide) ?_
              refine lv_goto (tgt := 223) hx hb dL_orders_219 (by decide) ?_
              rw [if_pos c_57] at kk; exact kk
        · refine lv_iconst (v := 1) hx hb dL_orders_197 (by decide) ?_
          refine lv_goto (tgt := 202) hx hb dL_orders_198 (by decide) ?_
          refine lv_istore (lv' := [(7, .int 1), (6, .int (v_dl (k_v C))), (5, .int (v_cb (k_v C))), (4, .int (v_od (k_v C))), (0, .ref (k_ba C 0)), (1, .int (nI so)), (2, .int ga), (3, .int ha)]) hx hb dL_orders_202 hl (by decide) rfl (fun ls hl => ?_)
          refine lv_aload_n hx hb dL_orders_204 rfl (lv_at hl 4 rfl) ?_
          refine lv_iconst (v := 0) hx hb dL_orders_205 (by decide) ?_
          refine z_rVd (C := (k_tvS C tv_54)) (v := (v_td (k_v C) (v_h (k_v C) % 24)).toUInt64) (As := [.int 0]) (rest := []) ⟨hx, hb, hml, hown, hts⟩ hK hP (rd_level_0 l g ct ((k_tvS C tv_54)) hIV (by omega)) (cwV 1 hts gL_orders_X9_level rfl rfl rfl (by decide +kernel) ⟨Nat.le_of_ble_eq_true rfl, Nat.le_of_ble_eq_true rfl⟩) rfl hl.1 rfl (Nat.le_of_ble_eq_true rfl) dL_orders_206 ⟨Nat.le_of_ble_eq_true rfl, Nat.le_of_ble_eq_true rfl⟩ ?_
          refine lv_aload_n hx hb dL_orders_209 rfl (lv_at hl 4 rfl) ?_
          refine lv_iconst (v := 2) hx hb dL_orders_210 (by decide) ?_
          refine z_rVd (C := (k_tvS C tv_54)) (v := (v_al (k_v C)).toUInt64) (As := [.int 2]) (rest := [.double ((v_td (k_v C) (v_h (k_v C) % 24)).toUInt64)]) ⟨hx, hb, hml, hown, hts⟩ hK hP (rd_level_2 l g ct ((k_tvS C tv_54)) hIV (by omega)) (cwV 1 hts gL_orders_X9_level rfl rfl rfl (by decide +kernel) ⟨Nat.le_of_ble_eq_true rfl, Nat.le_of_ble_eq_true rfl⟩) rfl hl.1 rfl (Nat.le_of_ble_eq_true rfl) dL_orders_211 ⟨Nat.le_of_ble_eq_true rfl, Nat.le_of_ble_eq_true rfl⟩ ?_
          refine z_cut (B0 := 223) (st2 := [.int (if (¬ 0 ≤ Op.cmpValue (FP.dcmp (v_td (k_v C) (v_h (k_v C) % 24)).toUInt64 (v_al (k_v C)).toUInt64) CmpOp.g) then 1 else 0)]) ?_ (fun kk => ?_)
          · refine lv_istore (lv' := [(8, .int (if (¬ 0 ≤ Op.cmpValue (FP.dcmp (v_td (k_v C) (v_h (k_v C) % 24)).toUInt64 (v_al (k_v C)).toUInt64) CmpOp.g) then 1 else 0)), (7, .int 1), (6, .int (v_dl (k_v C))), (5, .int (v_cb (k_v C))), (4, .int (v_od (k_v C))), (0, .ref (k_ba C 0)), (1, .int (nI so)), (2, .int ga), (3, .int ha)]) hx hb dL_orders_223 hl (by decide) rfl (fun ls hl => ?_)
            refine lv_aload_n hx hb dL_orders_225 rfl (lv_at hl 5 rfl) ?_
            by_cases f_58 : v_od (k_v C) = 1
            · refine z_rVi (C := (k_tvS C tv_54)) (v := -5) (As := []) (rest := []) ⟨hx, hb, hml, hown, hts⟩ hK hP (rd_cl5 l g ct ((k_tvS C tv_54)) hIV c_49 (fun q => c_55 ((sh_0 _).mpr q)) f_58) (cwV 0 hts gL_orders_X9_close rfl rfl rfl (by decide +kernel) ⟨Nat.le_of_ble_eq_true rfl, Nat.le_of_ble_eq_true rfl⟩) rfl hl.1 rfl (Nat.le_of_ble_eq_true rfl) dL_orders_226 ⟨Nat.le_of_ble_eq_true rfl, Nat.le_of_ble_eq_true rfl⟩ ?_
              refine lv_istore (lv' := [(9, .int (-5)), (8, .int (if (¬ 0 ≤ Op.cmpValue (FP.dcmp (v_td (k_v C) (v_h (k_v C) % 24)).toUInt64 (v_al (k_v C)).toUInt64) CmpOp.g) then 1 else 0)), (7, .int 1), (6, .int (v_dl (k_v C))), (5, .int (v_cb (k_v C))), (4, .int (v_od (k_v C))), (0, .ref (k_ba C 0)), (1, .int (nI so)), (2, .int ga), (3, .int ha)]) hx hb dL_orders_229 hl (by decide) rfl (fun ls hl => ?_)
              refine lv_iload hx hb dL_orders_231 (lv_at hl 2 rfl) ?_
              refine lv_if_eq (tgt := 242) hx hb dL_orders_233 (by decide) (fun h => absurd h (by decide)) (fun _ => ?_)
              refine lv_iload hx hb dL_orders_236 (lv_at hl 5 rfl) ?_
              refine lv_iconst (v := 1) hx hb dL_orders_238 (by decide) ?_
              refine lv_icmp_ne (tgt := 276) hx hb dL_orders_239 (by decide) (fun c_59 => ?_) (fun c_59 => ?_)
              · exact absurd f_58 c_59
              · refine lv_iload hx hb dL_orders_242 (lv_at hl 0 rfl) ?_
                refine lv_iload hx hb dL_orders_244 (lv_at hl 2 rfl) ?_
                refine lv_if_eq (tgt := 254) hx hb dL_orders_246 (by decide) (fun h => absurd h (by decide)) (fun _ => ?_)
                refine lv_bipush (v := (-5)) hx hb dL_orders_249 (by decide) ?_
                refine lv_goto (tgt := 256) hx hb dL_orders_251 (by decide) ?_
                refine lv_icmp_ne (tgt := 274) hx hb dL_orders_256 (by decide) (fun h => absurd h (by decide)) (fun _ => ?_)
                refine lv_aload_n hx hb dL_orders_259 rfl (lv_at hl 6 rfl) ?_
                refine lv_bipush (v := 7) hx hb dL_orders_260 (by decide) ?_
                refine z_rVi (C := (k_tvS C tv_54)) (v := v_cb (k_v C)) (As := [.int 7]) (rest := []) ⟨hx, hb, hml, hown, hts⟩ hK hP (rd_count_7 l g ct ((k_tvS C tv_54)) hIV) (cwV 1 hts gL_orders_X9_count rfl rfl rfl (by decide +kernel) ⟨Nat.le_of_ble_eq_true rfl, Nat.le_of_ble_eq_true rfl⟩) rfl hl.1 rfl (Nat.le_of_ble_eq_true rfl) dL_orders_262 ⟨Nat.le_of_ble_eq_true rfl, Nat.le_of_ble_eq_true rfl⟩ ?_
                refine lv_iload hx hb dL_orders_265 (lv_at hl 4 rfl) ?_
                refine lv_icmp_ne (tgt := 274) hx hb dL_orders_267 (by decide) (fun c_60 => ?_) (fun c_60 => ?_)
                · exact absurd rfl c_60
                · refine lv_iconst (v := 1) hx hb dL_orders_270 (by decide) ?_
                  refine lv_goto (tgt := 275) hx hb dL_orders_271 (by decide) ?_
                  exact z_retZ (⟨(k_tvS C tv_54), Or.inl (Sm_t (Sm_0 C) ⟨tv_54, rfl⟩)⟩ : {u : CT // Aft C u T}) hx hb hr hlocks rfl rfl hS hP hD (Nat.le_of_ble_eq_true rfl) (Nat.le_of_ble_eq_true rfl) dL_orders_275
            · refine z_oVi (C := (k_tvS C tv_54)) (K := fun u => ∃ U, u = k_rec ((k_tvS C tv_54)) (nv_close_b (k_v C)) U) (v := if (¬ 0 ≤ Op.cmpValue (FP.dcmp (v_td (k_v C) (v_h (k_v C) % 24)).toUInt64 (v_al (k_v C)).toUInt64) CmpOp.g) then 1 else 0) (As := []) (rest := []) ⟨hx, hb, hml, hown, hts⟩ hK hP hD hS hNW hA (ac_close_b l g ct _ ((k_tvS C tv_54)) hC.2.1 hC.2.2.1 (iv_01 hIV) (iv_nS hIV) (iv_nD hIV) (show v_h (k_v C) < 2 ^ 31 by have := iv_h hIV; omega) (iv_td hIV) (iv_al hIV) ⟨c_49, (fun q => c_55 ((sh_0 _).mpr q)), f_58⟩) (cwV 0 hts gL_orders_X9_close rfl rfl rfl (by decide +kernel) ⟨Nat.le_of_ble_eq_true rfl, Nat.le_of_ble_eq_true rfl⟩) rfl hl.1 rfl (Nat.le_of_ble_eq_true rfl) dL_orders_226 ⟨Nat.le_of_ble_eq_true rfl, Nat.le_of_ble_eq_true rfl⟩ (fun u_61 H locs hu_62 hP hD hS => ?_)
              obtain ⟨U_63, rfl⟩ := hu_62
              have hIV_64 : IV (nv_close_b (k_v C)) _ := iv_close hIV (by omega)
              refine lv_istore (lv' := [(9, .int (if (¬ 0 ≤ Op.cmpValue (FP.dcmp (v_td (k_v C) (v_h (k_v C) % 24)).toUInt64 (v_al (k_v C)).toUInt64) CmpOp.g) then 1 else 0)), (8, .int (if (¬ 0 ≤ Op.cmpValue (FP.dcmp (v_td (k_v C) (v_h (k_v C) % 24)).toUInt64 (v_al (k_v C)).toUInt64) CmpOp.g) then 1 else 0)), (7, .int 1), (6, .int (v_dl (k_v C))), (5, .int (v_cb (k_v C))), (4, .int (v_od (k_v C))), (0, .ref (k_ba C 0)), (1, .int (nI so)), (2, .int ga), (3, .int ha)]) hx hb dL_orders_229 hl (by decide) rfl (fun ls hl => ?_)
              refine lv_iload hx hb dL_orders_231 (lv_at hl 2 rfl) ?_
              refine lv_if_eq (tgt := 242) hx hb dL_orders_233 (by decide) (fun h => absurd h (by decide)) (fun _ => ?_)
              refine lv_iload hx hb dL_orders_236 (lv_at hl 5 rfl) ?_
              refine lv_iconst (v := 1) hx hb dL_orders_238 (by decide) ?_
              refine lv_icmp_ne (tgt := 276) hx hb dL_orders_239 (by decide) (fun c_65 => ?_) (fun c_65 => ?_)
              · refine lv_iload hx hb dL_orders_276 (lv_at hl 0 rfl) ?_
                refine z_cut (B0 := 288) (st2 := [.int (if (¬ 0 ≤ Op.cmpValue (FP.dcmp (v_td (k_v C) (v_h (k_v C) % 24)).toUInt64 (v_al (k_v C)).toUInt64) CmpOp.g) then 1 else 0), .int (if (¬ 0 ≤ Op.cmpValue (FP.dcmp (v_td (k_v C) (v_h (k_v C) % 24)).toUInt64 (v_al (k_v C)).toUInt64) CmpOp.g) then 1 else 0)]) ?_ (fun kk => ?_)
                · refine lv_icmp_ne (tgt := 331) hx hb dL_orders_288 (by decide) (fun c_66 => ?_) (fun c_66 => ?_)
                  · exact absurd rfl c_66
                  · refine lv_aload_n hx hb dL_orders_291 rfl (lv_at hl 6 rfl) ?_
                    refine lv_iconst (v := 1) hx hb dL_orders_292 (by decide) ?_
                    refine z_rVi (C := (k_rec ((k_tvS C tv_54)) (nv_close_b (k_v C)) U_63)) (v := 1) (As := [.int 1]) (rest := []) ⟨hx, hb, hml, hown, hts⟩ hK hP (rd_count_1 l g ct ((k_rec ((k_tvS C tv_54)) (nv_close_b (k_v C)) U_63)) hIV_64) (cwV 1 hts gL_orders_X9_count rfl rfl rfl (by decide +kernel) ⟨Nat.le_of_ble_eq_true rfl, Nat.le_of_ble_eq_true rfl⟩) rfl hl.1 rfl (Nat.le_of_ble_eq_true rfl) dL_orders_293 ⟨Nat.le_of_ble_eq_true rfl, Nat.le_of_ble_eq_true rfl⟩ ?_
                    refine lv_iconst (v := 1) hx hb dL_orders_296 (by decide) ?_
                    refine lv_icmp_ne (tgt := 331) hx hb dL_orders_297 (by decide) (fun h => absurd h (by decide)) (fun _ => ?_)
                    refine lv_aload_n hx hb dL_orders_300 rfl (lv_at hl 6 rfl) ?_
                    refine lv_bipush (v := 7) hx hb dL_orders_301 (by decide) ?_
                    refine z_rVi (C := (k_rec ((k_tvS C tv_54)) (nv_close_b (k_v C)) U_63)) (v := v_cb (k_v C) + 1) (As := [.int 7]) (rest := []) ⟨hx, hb, hml, hown, hts⟩ hK hP (rd_count_7 l g ct ((k_rec ((k_tvS C tv_54)) (nv_close_b (k_v C)) U_63)) hIV_64) (cwV 1 hts gL_orders_X9_count rfl rfl rfl (by decide +kernel) ⟨Nat.le_of_ble_eq_true rfl, Nat.le_of_ble_eq_true rfl⟩) rfl hl.1 rfl (Nat.le_of_ble_eq_true rfl) dL_orders_303 ⟨Nat.le_of_ble_eq_true rfl, Nat.le_of_ble_eq_true rfl⟩ ?_
                    refine lv_iload hx hb dL_orders_306 (lv_at hl 4 rfl) ?_
                    refine lv_iconst (v := 1) hx hb dL_orders_308 (by decide) ?_
                    refine lv_iadd hx hb dL_orders_309 ?_
                    refine lv_icmp_ne (tgt := 331) hx hb dL_orders_310 (by decide) (fun c_67 => ?_) (fun c_67 => ?_)
                    · exact absurd rfl c_67
                    · refine lv_aload_n hx hb dL_orders_313 rfl (lv_at hl 6 rfl) ?_
                      refine lv_bipush (v := 8) hx hb dL_orders_314 (by decide) ?_
                      refine z_rVi (C := (k_rec ((k_tvS C tv_54)) (nv_close_b (k_v C)) U_63)) (v := if 0 ≤ Op.cmpValue (FP.dcmp (v_td (k_v C) (v_h (k_v C) % 24)).toUInt64 (v_al (k_v C)).toUInt64) CmpOp.g then v_dl (k_v C) else v_dl (k_v C) + 1) (As := [.int 8]) (rest := []) ⟨hx, hb, hml, hown, hts⟩ hK hP (rd_count_8 l g ct ((k_rec ((k_tvS C tv_54)) (nv_close_b (k_v C)) U_63)) hIV_64) (cwV 1 hts gL_orders_X9_count rfl rfl rfl (by decide +kernel) ⟨Nat.le_of_ble_eq_true rfl, Nat.le_of_ble_eq_true rfl⟩) rfl hl.1 rfl (Nat.le_of_ble_eq_true rfl) dL_orders_316 ⟨Nat.le_of_ble_eq_true rfl, Nat.le_of_ble_eq_true rfl⟩ ?_
                      refine lv_iload hx hb dL_orders_319 (lv_at hl 3 rfl) ?_
                      refine lv_iload hx hb dL_orders_321 (lv_at hl 0 rfl) ?_
                      refine lv_iadd hx hb dL_orders_323 ?_
                      refine lv_icmp_ne (tgt := 331) hx hb dL_orders_324 (by decide) (fun c_68 => ?_) (fun c_68 => ?_)
                      · exact absurd dlx c_68
                      · refine lv_iconst (v := 1) hx hb dL_orders_327 (by decide) ?_
                        refine lv_goto (tgt := 332) hx hb dL_orders_328 (by decide) ?_
                        exact z_retZ (⟨(k_rec ((k_tvS C tv_54)) (nv_close_b (k_v C)) U_63), Or.inr ⟨_, U_63, iv_m hIV_64 (by omega), ⟨_, rfl⟩⟩⟩ : {u : CT // Aft C u T}) hx hb hr hlocks rfl rfl hS hP hD (Nat.le_of_ble_eq_true rfl) (Nat.le_of_ble_eq_true rfl) dL_orders_332
                · refine lv_iload hx hb dL_orders_278 (lv_at hl 1 rfl) ?_
                  refine z_bif_eq (P := (¬ 0 ≤ Op.cmpValue (FP.dcmp (v_td (k_v C) (v_h (k_v C) % 24)).toUInt64 (v_al (k_v C)).toUInt64) CmpOp.g)) (tgt := 287) hx hb dL_orders_280 (by decide) (fun c_69 => ?_) (fun c_69 => ?_)
                  · refine lv_iconst (v := 0) hx hb dL_orders_287 (by decide) ?_
                    exact z_kk (if_neg c_69) kk
                  · refine lv_iconst (v := 1) hx hb dL_orders_283 (by decide) ?_
                    refine lv_goto (tgt := 288) hx hb dL_orders_284 (by decide) ?_
                    exact z_kk (if_pos c_69) kk
              · exact absurd c_65 f_58
          · refine lv_dcmp hx hb dL_orders_214 ?_
            refine lv_if_ge (tgt := 222) hx hb dL_orders_215 (by decide) (fun c_70 => ?_) (fun c_70 => ?_)
            · refine lv_iconst (v := 0) hx hb dL_orders_222 (by decide) ?_
              rw [if_neg (fun q => q c_70)] at kk; exact kk
            · refine lv_iconst (v := 1) hx hb dL_orders_218 (by decide) ?_
              refine lv_goto (tgt := 223) hx hb dL_orders_219 (by decide) ?_
              rw [if_pos c_70] at kk; exact kk
  · refine lv_aload_n hx hb dL_orders_13 rfl (lv_at hl 1 rfl) ?_
    refine lv_bipush (v := 12) hx hb dL_orders_14 (by decide) ?_
    refine z_rVi (C := C) (v := nI (v_nD (k_v C))) (As := [.int 12]) (rest := []) ⟨hx, hb, hml, hown, hts⟩ hK hP (rd_count_12 l g ct C hIV) (cwV 1 hts gL_orders_X9_count rfl rfl rfl (by decide +kernel) ⟨Nat.le_of_ble_eq_true rfl, Nat.le_of_ble_eq_true rfl⟩) rfl hl.1 rfl (Nat.le_of_ble_eq_true rfl) dL_orders_16 ⟨Nat.le_of_ble_eq_true rfl, Nat.le_of_ble_eq_true rfl⟩ ?_
    refine z_ifN_ne (x := (v_nD (k_v C))) (tgt := 47) hx hb (by omega) dL_orders_19 (by decide) (fun c_71 => ?_) (fun c_71 => ?_)
    · refine lv_iload_n hx hb dL_orders_47 rfl (lv_at hl 3 rfl) ?_
      refine lv_aload_n hx hb dL_orders_48 rfl (lv_at hl 1 rfl) ?_
      refine lv_bipush (v := 12) hx hb dL_orders_49 (by decide) ?_
      refine z_rVi (C := C) (v := nI (v_nD (k_v C))) (As := [.int 12]) (rest := [.int ga]) ⟨hx, hb, hml, hown, hts⟩ hK hP (rd_count_12 l g ct C hIV) (cwV 1 hts gL_orders_X9_count rfl rfl rfl (by decide +kernel) ⟨Nat.le_of_ble_eq_true rfl, Nat.le_of_ble_eq_true rfl⟩) rfl hl.1 rfl (Nat.le_of_ble_eq_true rfl) dL_orders_51 ⟨Nat.le_of_ble_eq_true rfl, Nat.le_of_ble_eq_true rfl⟩ ?_
      refine z_cSi (v := nI (lowN ga (v_nD (k_v C)))) (As := [.int ga, .int (nI (v_nD (k_v C)))]) (rest := []) ⟨hx, hb, hml, hown, hts⟩ (c_L_low l ga (v_nD (k_v C)) (by omega) (by omega)) (va_cwS 2 hts gL_orders_L_low rfl rfl rfl (by decide +kernel) ⟨Nat.le_of_ble_eq_true rfl, Nat.le_of_ble_eq_true rfl⟩) rfl hl.1 rfl (Nat.le_of_ble_eq_true rfl) dL_orders_54 ⟨Nat.le_of_ble_eq_true rfl, Nat.le_of_ble_eq_true rfl⟩ ?_
      refine lv_istore (lv' := [(5, .int (nI (lowN ga (v_nD (k_v C))))), (4, .int (v_od (k_v C))), (0, .ref (k_ba C 0)), (1, .int (nI so)), (2, .int ga), (3, .int ha)]) hx hb dL_orders_57 hl (by decide) rfl (fun ls hl => ?_)
      refine lv_iload_n hx hb dL_orders_59 rfl (lv_at hl 5 rfl) ?_
      refine lv_iconst (v := 3) hx hb dL_orders_60 (by decide) ?_
      refine lv_iand hx hb dL_orders_61 ?_
      refine z_cut (B0 := 70) (st2 := [.int (b3 ha)]) ?_ (fun kk => ?_)
      · refine lv_istore (lv' := [(6, .int (b3 ha)), (5, .int (nI (lowN ga (v_nD (k_v C))))), (4, .int (v_od (k_v C))), (0, .ref (k_ba C 0)), (1, .int (nI so)), (2, .int ga), (3, .int ha)]) hx hb dL_orders_70 hl (by decide) rfl (fun ls hl => ?_)
        refine lv_aload_n hx hb dL_orders_72 rfl (lv_at hl 3 rfl) ?_
        refine lv_iconst (v := 5) hx hb dL_orders_73 (by decide) ?_
        refine z_rVi (C := C) (v := wcI (v_cl (k_v C)) (v_we (k_v C)) (v_nD (k_v C))) (As := [.int 5]) (rest := []) ⟨hx, hb, hml, hown, hts⟩ hK hP (rd_count_5 l g ct C hIV) (cwV 1 hts gL_orders_X9_count rfl rfl rfl (by decide +kernel) ⟨Nat.le_of_ble_eq_true rfl, Nat.le_of_ble_eq_true rfl⟩) rfl hl.1 rfl (Nat.le_of_ble_eq_true rfl) dL_orders_74 ⟨Nat.le_of_ble_eq_true rfl, Nat.le_of_ble_eq_true rfl⟩ ?_
        refine lv_istore (lv' := [(7, .int (wcI (v_cl (k_v C)) (v_we (k_v C)) (v_nD (k_v C)))), (6, .int (b3 ha)), (5, .int (nI (lowN ga (v_nD (k_v C))))), (4, .int (v_od (k_v C))), (0, .ref (k_ba C 0)), (1, .int (nI so)), (2, .int ga), (3, .int ha)]) hx hb dL_orders_77 hl (by decide) rfl (fun ls hl => ?_)
        refine lv_aload_n hx hb dL_orders_79 rfl (lv_at hl 4 rfl) ?_
        refine lv_iload hx hb dL_orders_80 (lv_at hl 2 rfl) ?_
        refine lv_iload hx hb dL_orders_82 (lv_at hl 1 rfl) ?_
        by_cases f_72 : v_cl (k_v C) (lowN ga (v_nD (k_v C))) = b3 ha
        · refine z_rVi (C := C) (v := -5) (As := [.int (nI (lowN ga (v_nD (k_v C)))), .int (b3 ha)]) (rest := []) ⟨hx, hb, hml, hown, hts⟩ hK hP (rd_vote_a l g ct C (iv_nD hIV) (lowN ga (v_nD (k_v C))) (lowN_lt _ (by omega)) (b3 ha) (fun q => q f_72)) (cwV 2 hts gL_orders_X9_vote rfl rfl rfl (by decide +kernel) ⟨Nat.le_of_ble_eq_true rfl, Nat.le_of_ble_eq_true rfl⟩) rfl hl.1 rfl (Nat.le_of_ble_eq_true rfl) dL_orders_84 ⟨Nat.le_of_ble_eq_true rfl, Nat.le_of_ble_eq_true rfl⟩ ?_
          refine lv_istore (lv' := [(8, .int (-5)), (7, .int (wcI (v_cl (k_v C)) (v_we (k_v C)) (v_nD (k_v C)))), (6, .int (b3 ha)), (5, .int (nI (lowN ga (v_nD (k_v C))))), (4, .int (v_od (k_v C))), (0, .ref (k_ba C 0)), (1, .int (nI so)), (2, .int ga), (3, .int ha)]) hx hb dL_orders_87 hl (by decide) rfl (fun ls hl => ?_)
          refine lv_iload hx hb dL_orders_89 (lv_at hl 0 rfl) ?_
          refine lv_bipush (v := (-5)) hx hb dL_orders_91 (by decide) ?_
          refine lv_icmp_ne (tgt := 114) hx hb dL_orders_93 (by decide) (fun h => absurd h (by decide)) (fun _ => ?_)
          refine lv_aload_n hx hb dL_orders_96 rfl (lv_at hl 5 rfl) ?_
          refine lv_iconst (v := 5) hx hb dL_orders_97 (by decide) ?_
          refine z_rVi (C := C) (v := wcI (v_cl (k_v C)) (v_we (k_v C)) (v_nD (k_v C))) (As := [.int 5]) (rest := []) ⟨hx, hb, hml, hown, hts⟩ hK hP (rd_count_5 l g ct C hIV) (cwV 1 hts gL_orders_X9_count rfl rfl rfl (by decide +kernel) ⟨Nat.le_of_ble_eq_true rfl, Nat.le_of_ble_eq_true rfl⟩) rfl hl.1 rfl (Nat.le_of_ble_eq_true rfl) dL_orders_98 ⟨Nat.le_of_ble_eq_true rfl, Nat.le_of_ble_eq_true rfl⟩ ?_
          refine lv_iload hx hb dL_orders_101 (lv_at hl 1 rfl) ?_
          refine lv_icmp_ne (tgt := 110) hx hb dL_orders_103 (by decide) (fun c_73 => ?_) (fun c_73 => ?_)
          · exact absurd rfl c_73
          · refine lv_iconst (v := 1) hx hb dL_orders_106 (by decide) ?_
            refine lv_goto (tgt := 151) hx hb dL_orders_107 (by decide) ?_
            exact z_retZ (⟨C, Or.inl (Sm_0 C)⟩ : {u : CT // Aft C u T}) hx hb hr hlocks rfl rfl hS hP hD (Nat.le_of_ble_eq_true rfl) (Nat.le_of_ble_eq_true rfl) dL_orders_151
        · refine z_oVi (C := C) (K := fun u => ∃ U, u = k_rec C (nv_vote_b (k_v C) (lowN ga (v_nD (k_v C))) (b3 ha)) U) (v := wcI (upd (v_cl (k_v C)) (lowN ga (v_nD (k_v C))) (b3 ha)) (v_we (k_v C)) (v_nD (k_v C))) (As := [.int (nI (lowN ga (v_nD (k_v C)))), .int (b3 ha)]) (rest := []) ⟨hx, hb, hml, hown, hts⟩ hK hP hD hS hNW hA (ac_vote_b l g ct _ C hC.2.1 hC.2.2.1 (iv_01 hIV) (iv_nD hIV) (lowN ga (v_nD (k_v C))) (lowN_lt _ (by omega)) (b3 ha) (b3_01 ha) f_72) (cwV 2 hts gL_orders_X9_vote rfl rfl rfl (by decide +kernel) ⟨Nat.le_of_ble_eq_true rfl, Nat.le_of_ble_eq_true rfl⟩) rfl hl.1 rfl (Nat.le_of_ble_eq_true rfl) dL_orders_84 ⟨Nat.le_of_ble_eq_true rfl, Nat.le_of_ble_eq_true rfl⟩ (fun u_74 H locs hu_75 hP hD hS => ?_)
          obtain ⟨U_76, rfl⟩ := hu_75
          have hIV_77 : IV (nv_vote_b (k_v C) (lowN ga (v_nD (k_v C))) (b3 ha)) _ := iv_vote hIV (b3_01 ha)
          refine lv_istore (lv' := [(8, .int (wcI (upd (v_cl (k_v C)) (lowN ga (v_nD (k_v C))) (b3 ha)) (v_we (k_v C)) (v_nD (k_v C)))), (7, .int (wcI (v_cl (k_v C)) (v_we (k_v C)) (v_nD (k_v C)))), (6, .int (b3 ha)), (5, .int (nI (lowN ga (v_nD (k_v C))))), (4, .int (v_od (k_v C))), (0, .ref (k_ba C 0)), (1, .int (nI so)), (2, .int ga), (3, .int ha)]) hx hb dL_orders_87 hl (by decide) rfl (fun ls hl => ?_)
          refine lv_iload hx hb dL_orders_89 (lv_at hl 0 rfl) ?_
          refine lv_bipush (v := (-5)) hx hb dL_orders_91 (by decide) ?_
          refine lv_icmp_ne (tgt := 114) hx hb dL_orders_93 (by decide) (fun c_78 => ?_) (fun c_78 => ?_)
          · refine lv_iload hx hb dL_orders_114 (lv_at hl 0 rfl) ?_
            refine lv_aload_n hx hb dL_orders_116 rfl (lv_at hl 5 rfl) ?_
            refine lv_iconst (v := 5) hx hb dL_orders_117 (by decide) ?_
            refine z_rVi (C := (k_rec C (nv_vote_b (k_v C) (lowN ga (v_nD (k_v C))) (b3 ha)) U_76)) (v := wcI (upd (v_cl (k_v C)) (lowN ga (v_nD (k_v C))) (b3 ha)) (v_we (k_v C)) (v_nD (k_v C))) (As := [.int 5]) (rest := [.int (wcI (upd (v_cl (k_v C)) (lowN ga (v_nD (k_v C))) (b3 ha)) (v_we (k_v C)) (v_nD (k_v C)))]) ⟨hx, hb, hml, hown, hts⟩ hK hP (rd_count_5 l g ct ((k_rec C (nv_vote_b (k_v C) (lowN ga (v_nD (k_v C))) (b3 ha)) U_76)) hIV_77) (cwV 1 hts gL_orders_X9_count rfl rfl rfl (by decide +kernel) ⟨Nat.le_of_ble_eq_true rfl, Nat.le_of_ble_eq_true rfl⟩) rfl hl.1 rfl (Nat.le_of_ble_eq_true rfl) dL_orders_118 ⟨Nat.le_of_ble_eq_true rfl, Nat.le_of_ble_eq_true rfl⟩ ?_
            refine lv_icmp_ne (tgt := 150) hx hb dL_orders_121 (by decide) (fun c_79 => ?_) (fun c_79 => ?_)
            · exact absurd rfl c_79
            · refine lv_iload hx hb dL_orders_124 (lv_at hl 2 rfl) ?_
              refine lv_if_eq (tgt := 139) hx hb dL_orders_126 (by decide) (fun c_80 => ?_) (fun c_80 => ?_)
              · refine lv_iload hx hb dL_orders_139 (lv_at hl 0 rfl) ?_
                refine lv_iload hx hb dL_orders_141 (lv_at hl 1 rfl) ?_
                refine lv_icmp_ge (tgt := 150) hx hb dL_orders_143 (by decide) (fun c_81 => ?_) (fun c_81 => ?_)
                · exact absurd c_81 (vt_0 hIV (lowN_lt _ (by omega)) c_80 f_72)
                · refine lv_iconst (v := 1) hx hb dL_orders_146 (by decide) ?_
                  refine lv_goto (tgt := 151) hx hb dL_orders_147 (by decide) ?_
                  exact z_retZ (⟨(k_rec C (nv_vote_b (k_v C) (lowN ga (v_nD (k_v C))) (b3 ha)) U_76), Or.inr ⟨_, U_76, iv_m hIV_77 (by omega), Sm_0 _⟩⟩ : {u : CT // Aft C u T}) hx hb hr hlocks rfl rfl hS hP hD (Nat.le_of_ble_eq_true rfl) (Nat.le_of_ble_eq_true rfl) dL_orders_151
              · refine lv_iload hx hb dL_orders_129 (lv_at hl 0 rfl) ?_
                refine lv_iload hx hb dL_orders_131 (lv_at hl 1 rfl) ?_
                refine lv_icmp_le (tgt := 150) hx hb dL_orders_133 (by decide) (fun c_82 => ?_) (fun c_82 => ?_)
                · exact absurd c_82 (vt_1 hIV (lowN_lt _ (by omega)) (b3_01 ha) c_80 f_72)
                · refine lv_goto (tgt := 146) hx hb dL_orders_136 (by decide) ?_
                  refine lv_iconst (v := 1) hx hb dL_orders_146 (by decide) ?_
                  refine lv_goto (tgt := 151) hx hb dL_orders_147 (by decide) ?_
                  exact z_retZ (⟨(k_rec C (nv_vote_b (k_v C) (lowN ga (v_nD (k_v C))) (b3 ha)) U_76), Or.inr ⟨_, U_76, iv_m hIV_77 (by omega), Sm_0 _⟩⟩ : {u : CT // Aft C u T}) hx hb hr hlocks rfl rfl hS hP hD (Nat.le_of_ble_eq_true rfl) (Nat.le_of_ble_eq_true rfl) dL_orders_151
          · exact absurd c_78 (vt_5 hIV _)
      · refine lv_if_le (tgt := 69) hx hb dL_orders_62 (by decide) (fun c_83 => ?_) (fun c_83 => ?_)
        · refine lv_iconst (v := 0) hx hb dL_orders_69 (by decide) ?_
          have kk2 : b3 ha = 0 := if_neg (fun q => q c_83); rw [kk2] at kk; exact kk
        · refine lv_iconst (v := 1) hx hb dL_orders_65 (by decide) ?_
          refine lv_goto (tgt := 70) hx hb dL_orders_66 (by decide) ?_
          have kk2 : b3 ha = 1 := if_pos c_83; rw [kk2] at kk; exact kk
    · refine lv_aload_n hx hb dL_orders_22 rfl (lv_at hl 1 rfl) ?_
      refine lv_iconst (v := 0) hx hb dL_orders_23 (by decide) ?_
      refine lv_iconst (v := 1) hx hb dL_orders_24 (by decide) ?_
      refine z_rVi (C := C) (v := -1) (As := [.int 0, .int 1]) (rest := []) ⟨hx, hb, hml, hown, hts⟩ hK hP (rd_vote_u l g ct C (iv_nD hIV) 0 1 (fun q => absurd q.2 (by rw [c_71]; decide))) (cwV 2 hts gL_orders_X9_vote rfl rfl rfl (by decide +kernel) ⟨Nat.le_of_ble_eq_true rfl, Nat.le_of_ble_eq_true rfl⟩) rfl hl.1 rfl (Nat.le_of_ble_eq_true rfl) dL_orders_25 ⟨Nat.le_of_ble_eq_true rfl, Nat.le_of_ble_eq_true rfl⟩ ?_
      refine lv_iconst (v := (-1)) hx hb dL_orders_28 (by decide) ?_
      refine lv_icmp_ne (tgt := 45) hx hb dL_orders_29 (by decide) (fun h => absurd h (by decide)) (fun _ => ?_)
      refine lv_aload_n hx hb dL_orders_32 rfl (lv_at hl 1 rfl) ?_
      refine z_rVi (C := C) (v := -4) (As := []) (rest := []) ⟨hx, hb, hml, hown, hts⟩ hK hP (rd_cl4 l g ct C hIV (Or.inl (by rw [c_71]; show (2 : Int32) * 0 ≤ 0; decide))) (cwV 0 hts gL_orders_X9_close rfl rfl rfl (by decide +kernel) ⟨Nat.le_of_ble_eq_true rfl, Nat.le_of_ble_eq_true rfl⟩) rfl hl.1 rfl (Nat.le_of_ble_eq_true rfl) dL_orders_33 ⟨Nat.le_of_ble_eq_true rfl, Nat.le_of_ble_eq_true rfl⟩ ?_
      refine lv_bipush (v := (-4)) hx hb dL_orders_36 (by decide) ?_
      refine lv_icmp_ne (tgt := 45) hx hb dL_orders_38 (by decide) (fun h => absurd h (by decide)) (fun _ => ?_)
      refine lv_iconst (v := 1) hx hb dL_orders_41 (by decide) ?_
      refine lv_goto (tgt := 46) hx hb dL_orders_42 (by decide) ?_
      exact z_retZ (⟨C, Or.inl (Sm_0 C)⟩ : {u : CT // Aft C u T}) hx hb hr hlocks rfl rfl hS hP hD (Nat.le_of_ble_eq_true rfl) (Nat.le_of_ble_eq_true rfl) dL_orders_46
