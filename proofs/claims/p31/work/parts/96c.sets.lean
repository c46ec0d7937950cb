set_option maxHeartbeats 4000000 in
set_option maxRecDepth 100000 in
theorem c_L_sets (l : Launch) (g : va_G) (ct : Nat → ClassId) (sz : Nat) (C : CT) {T : Nat} (hC : CK C T) (hT : T + 1 ≤ 100) (so : Nat) (hso : 4 ≤ so ∧ so < 9) (ga ha : Int32) : Met l yL_sets wsL_sets (zRc 6 21 158 139) (va_Pc [.ref (k_ba C 0), .int (nI so), .int ga, .int ha] (zW g ct (CW ct C) sz)) (zEi (S := {u : CT // Aft C u T}) g (fun u => CW ct u.1) 1 (va_A (CW ct C) sz)) 21 158 (va_A (CW ct C) sz) := by
  refine z_write (QA := zEi (S := {u : CT // Aft C u T}) g (fun u => CW ct u.1) 1) (cc := cL_sets) (maxL := 10) (ret := some .boolean) (by decide) rfl (Nat.le_of_ble_eq_true rfl) ?_
  intro p e s m below meth c ls A hx hb hr hml hts hown hlocks hin hP hK hD hNW hA hS hl
  have hown : s.vm.findClass RL = some m.cls := hown
  have hl : lv_has ls 10 [(0, .ref (k_ba C 0)), (1, .int (nI so)), (2, .int ga), (3, .int ha)] := hl
  have hIV := hC.1
  have hnS := iv_nS hIV
  have hnD := iv_nD hIV
  have hnT := iv_nT hIV
  have hnP := iv_nP hIV
  have hh := iv_h hIV
  refine lv_iload_n hx hb dL_sets_0 rfl (lv_at hl 1 rfl) ?_
  refine lv_iconst (v := 4) hx hb dL_sets_1 (by decide) ?_
  refine z_icN_ne (x := so) (y := 4) (tgt := 112) hx hb (by omega) (by omega) dL_sets_2 (by decide) (fun c_1 => ?_) (fun c_1 => ?_)
  · refine lv_iload_n hx hb dL_sets_112 rfl (lv_at hl 1 rfl) ?_
    refine lv_iconst (v := 5) hx hb dL_sets_113 (by decide) ?_
    refine z_icN_ne (x := so) (y := 5) (tgt := 232) hx hb (by omega) (by omega) dL_sets_114 (by decide) (fun c_2 => ?_) (fun c_2 => ?_)
    · refine lv_iload_n hx hb dL_sets_232 rfl (lv_at hl 1 rfl) ?_
      refine lv_bipush (v := 6) hx hb dL_sets_233 (by decide) ?_
      refine z_icN_ne (x := so) (y := 6) (tgt := 312) hx hb (by omega) (by omega) dL_sets_235 (by decide) (fun c_3 => ?_) (fun c_3 => ?_)
      · refine lv_iload_n hx hb dL_sets_312 rfl (lv_at hl 1 rfl) ?_
        refine lv_bipush (v := 7) hx hb dL_sets_313 (by decide) ?_
        refine z_icN_ne (x := so) (y := 7) (tgt := 456) hx hb (by omega) (by omega) dL_sets_315 (by decide) (fun c_4 => ?_) (fun c_4 => ?_)
        · refine lv_aload_n hx hb dL_sets_456 rfl (lv_at hl 0 rfl) ?_
          refine lv_bipush (v := 13) hx hb dL_sets_457 (by decide) ?_
          refine z_rVi (C := C) (v := nI (v_nT (k_v C))) (As := [.int 13]) (rest := []) ⟨hx, hb, hml, hown, hts⟩ hK hP (rd_count_13 l g ct C hIV) (cwV 1 hts gL_sets_X9_count rfl rfl rfl (by decide +kernel) ⟨Nat.le_of_ble_eq_true rfl, Nat.le_of_ble_eq_true rfl⟩) rfl hl.1 rfl (Nat.le_of_ble_eq_true rfl) dL_sets_459 ⟨Nat.le_of_ble_eq_true rfl, Nat.le_of_ble_eq_true rfl⟩ ?_
          refine z_ifN_ne (x := (v_nT (k_v C))) (tgt := 481) hx hb (by omega) dL_sets_462 (by decide) (fun c_5 => ?_) (fun c_5 => ?_)
          · refine lv_aload_n hx hb dL_sets_481 rfl (lv_at hl 0 rfl) ?_
            refine lv_iload_n hx hb dL_sets_482 rfl (lv_at hl 2 rfl) ?_
            refine lv_aload_n hx hb dL_sets_483 rfl (lv_at hl 0 rfl) ?_
            refine lv_bipush (v := 13) hx hb dL_sets_484 (by decide) ?_
            refine z_rVi (C := C) (v := nI (v_nT (k_v C))) (As := [.int 13]) (rest := [.int ga, .ref (k_ba C 0)]) ⟨hx, hb, hml, hown, hts⟩ hK hP (rd_count_13 l g ct C hIV) (cwV 1 hts gL_sets_X9_count rfl rfl rfl (by decide +kernel) ⟨Nat.le_of_ble_eq_true rfl, Nat.le_of_ble_eq_true rfl⟩) rfl hl.1 rfl (Nat.le_of_ble_eq_true rfl) dL_sets_486 ⟨Nat.le_of_ble_eq_true rfl, Nat.le_of_ble_eq_true rfl⟩ ?_
            refine z_cSi (v := nI (lowN ga (v_nT (k_v C)))) (As := [.int ga, .int (nI (v_nT (k_v C)))]) (rest := [.ref (k_ba C 0)]) ⟨hx, hb, hml, hown, hts⟩ (c_L_low l ga (v_nT (k_v C)) (by omega) (by omega)) (va_cwS 2 hts gL_sets_L_low rfl rfl rfl (by decide +kernel) ⟨Nat.le_of_ble_eq_true rfl, Nat.le_of_ble_eq_true rfl⟩) rfl hl.1 rfl (Nat.le_of_ble_eq_true rfl) dL_sets_489 ⟨Nat.le_of_ble_eq_true rfl, Nat.le_of_ble_eq_true rfl⟩ ?_
            refine lv_iload_n hx hb dL_sets_492 rfl (lv_at hl 3 rfl) ?_
            refine lv_sipush (v := 9000) hx hb dL_sets_493 (by decide) ?_
            refine z_cSi (v := nI (lowN ha 9000)) (As := [.int ha, .int 9000]) (rest := [.int (nI (lowN ga (v_nT (k_v C)))), .ref (k_ba C 0)]) ⟨hx, hb, hml, hown, hts⟩ (c_L_low l ha 9000 (by omega) (by omega)) (va_cwS 2 hts gL_sets_L_low rfl rfl rfl (by decide +kernel) ⟨Nat.le_of_ble_eq_true rfl, Nat.le_of_ble_eq_true rfl⟩) rfl hl.1 rfl (Nat.le_of_ble_eq_true rfl) dL_sets_496 ⟨Nat.le_of_ble_eq_true rfl, Nat.le_of_ble_eq_true rfl⟩ ?_
            by_cases f_6 : v_sw (k_v C) (lowN ga (v_nT (k_v C))) = (nI (lowN ha 9000))
            · refine z_rVi (C := C) (v := -5) (As := [.int (nI (lowN ga (v_nT (k_v C)))), .int (nI (lowN ha 9000))]) (rest := []) ⟨hx, hb, hml, hown, hts⟩ hK hP (rd_ss5 l g ct C hIV (lowN ga (v_nT (k_v C))) (lowN_lt _ (by omega)) (nI (lowN ha 9000)) (low0 (by omega) (by omega)) f_6) (cwV 2 hts gL_sets_X9_setStream rfl rfl rfl (by decide +kernel) ⟨Nat.le_of_ble_eq_true rfl, Nat.le_of_ble_eq_true rfl⟩) rfl hl.1 rfl (Nat.le_of_ble_eq_true rfl) dL_sets_499 ⟨Nat.le_of_ble_eq_true rfl, Nat.le_of_ble_eq_true rfl⟩ ?_
              refine lv_bipush (v := (-5)) hx hb dL_sets_502 (by decide) ?_
              refine lv_icmp_lt (tgt := 523) hx hb dL_sets_504 (by decide) (fun h => absurd h (by decide)) (fun _ => ?_)
              refine lv_aload_n hx hb dL_sets_507 rfl (lv_at hl 0 rfl) ?_
              refine lv_iconst (v := 0) hx hb dL_sets_508 (by decide) ?_
              refine lv_ldc (v := 100000) hx hb hown (hts (.constant RL 99 (100000)) (List.mem_of_getElem? (i := 4) rfl)) dL_sets_509 ?_
              refine z_rVi (C := C) (v := -2) (As := [.int 0, .int 100000]) (rest := []) ⟨hx, hb, hml, hown, hts⟩ hK hP (rd_ss2 l g ct C hIV 0 (show 0 < v_nT (k_v C) by omega) 100000 (Or.inr (by decide))) (cwV 2 hts gL_sets_X9_setStream rfl rfl rfl (by decide +kernel) ⟨Nat.le_of_ble_eq_true rfl, Nat.le_of_ble_eq_true rfl⟩) rfl hl.1 rfl (Nat.le_of_ble_eq_true rfl) dL_sets_511 ⟨Nat.le_of_ble_eq_true rfl, Nat.le_of_ble_eq_true rfl⟩ ?_
              refine lv_bipush (v := (-2)) hx hb dL_sets_514 (by decide) ?_
              refine lv_icmp_ne (tgt := 523) hx hb dL_sets_516 (by decide) (fun h => absurd h (by decide)) (fun _ => ?_)
              refine lv_iconst (v := 1) hx hb dL_sets_519 (by decide) ?_
              refine lv_goto (tgt := 524) hx hb dL_sets_520 (by decide) ?_
              exact z_retZ (⟨C, Or.inl (Sm_0 C)⟩ : {u : CT // Aft C u T}) hx hb hr hlocks rfl rfl hS hP hD (Nat.le_of_ble_eq_true rfl) (Nat.le_of_ble_eq_true rfl) dL_sets_524
            · refine z_oVi (C := C) (K := fun u => ∃ U, u = k_rec C (nv_setStream_b (k_v C) (lowN ga (v_nT (k_v C))) (nI (lowN ha 9000))) U) (v := v_sw (k_v C) (lowN ga (v_nT (k_v C)))) (As := [.int (nI (lowN ga (v_nT (k_v C)))), .int (nI (lowN ha 9000))]) (rest := []) ⟨hx, hb, hml, hown, hts⟩ hK hP hD hS hNW hA (ac_setStream_b l g ct _ C hC.2.1 hC.2.2.1 (iv_01 hIV) (iv_nT hIV) (lowN ga (v_nT (k_v C))) (lowN_lt _ (by omega)) (nI (lowN ha 9000)) ⟨(low0 (by omega) (by omega)), f_6⟩) (cwV 2 hts gL_sets_X9_setStream rfl rfl rfl (by decide +kernel) ⟨Nat.le_of_ble_eq_true rfl, Nat.le_of_ble_eq_true rfl⟩) rfl hl.1 rfl (Nat.le_of_ble_eq_true rfl) dL_sets_499 ⟨Nat.le_of_ble_eq_true rfl, Nat.le_of_ble_eq_true rfl⟩ (fun u_7 H locs hu_8 hP hD hS => ?_)
              obtain ⟨U_9, rfl⟩ := hu_8
              have hIV_10 : IV (nv_setStream_b (k_v C) (lowN ga (v_nT (k_v C))) (nI (lowN ha 9000))) _ := iv_setStream hIV (low0 (by omega) (by omega))
              refine lv_bipush (v := (-5)) hx hb dL_sets_502 (by decide) ?_
              refine lv_icmp_lt (tgt := 523) hx hb dL_sets_504 (by decide) (fun c_11 => ?_) (fun c_11 => ?_)
              · exact absurd c_11 (ss_ge (iv_sw hIV (lowN ga (v_nT (k_v C))) (lowN_lt _ (by omega))).1)
              · refine lv_aload_n hx hb dL_sets_507 rfl (lv_at hl 0 rfl) ?_
                refine lv_iconst (v := 0) hx hb dL_sets_508 (by decide) ?_
                refine lv_ldc (v := 100000) hx hb hown (hts (.constant RL 99 (100000)) (List.mem_of_getElem? (i := 4) rfl)) dL_sets_509 ?_
                refine z_rVi (C := (k_rec C (nv_setStream_b (k_v C) (lowN ga (v_nT (k_v C))) (nI (lowN ha 9000))) U_9)) (v := -2) (As := [.int 0, .int 100000]) (rest := []) ⟨hx, hb, hml, hown, hts⟩ hK hP (rd_ss2 l g ct ((k_rec C (nv_setStream_b (k_v C) (lowN ga (v_nT (k_v C))) (nI (lowN ha 9000))) U_9)) hIV_10 0 (show 0 < v_nT (k_v C) by omega) 100000 (Or.inr (by decide))) (cwV 2 hts gL_sets_X9_setStream rfl rfl rfl (by decide +kernel) ⟨Nat.le_of_ble_eq_true rfl, Nat.le_of_ble_eq_true rfl⟩) rfl hl.1 rfl (Nat.le_of_ble_eq_true rfl) dL_sets_511 ⟨Nat.le_of_ble_eq_true rfl, Nat.le_of_ble_eq_true rfl⟩ ?_
                refine lv_bipush (v := (-2)) hx hb dL_sets_514 (by decide) ?_
                refine lv_icmp_ne (tgt := 523) hx hb dL_sets_516 (by decide) (fun h => absurd h (by decide)) (fun _ => ?_)
                refine lv_iconst (v := 1) hx hb dL_sets_519 (by decide) ?_
                refine lv_goto (tgt := 524) hx hb dL_sets_520 (by decide) ?_
                exact z_retZ (⟨(k_rec C (nv_setStream_b (k_v C) (lowN ga (v_nT (k_v C))) (nI (lowN ha 9000))) U_9), Or.inr ⟨_, U_9, iv_m hIV_10 (by omega), Sm_0 _⟩⟩ : {u : CT // Aft C u T}) hx hb hr hlocks rfl rfl hS hP hD (Nat.le_of_ble_eq_true rfl) (Nat.le_of_ble_eq_true rfl) dL_sets_524
          · refine lv_aload_n hx hb dL_sets_465 rfl (lv_at hl 0 rfl) ?_
            refine lv_iconst (v := 0) hx hb dL_sets_466 (by decide) ?_
            refine lv_iconst (v := 1) hx hb dL_sets_467 (by decide) ?_
            refine z_rVi (C := C) (v := -1) (As := [.int 0, .int 1]) (rest := []) ⟨hx, hb, hml, hown, hts⟩ hK hP (rd_setStream_u l g ct C (iv_nT hIV) 0 1 (fun q => absurd q.2 (by rw [c_5]; decide))) (cwV 2 hts gL_sets_X9_setStream rfl rfl rfl (by decide +kernel) ⟨Nat.le_of_ble_eq_true rfl, Nat.le_of_ble_eq_true rfl⟩) rfl hl.1 rfl (Nat.le_of_ble_eq_true rfl) dL_sets_468 ⟨Nat.le_of_ble_eq_true rfl, Nat.le_of_ble_eq_true rfl⟩ ?_
            refine lv_iconst (v := (-1)) hx hb dL_sets_471 (by decide) ?_
            refine lv_icmp_ne (tgt := 479) hx hb dL_sets_472 (by decide) (fun h => absurd h (by decide)) (fun _ => ?_)
            refine lv_iconst (v := 1) hx hb dL_sets_475 (by decide) ?_
            refine lv_goto (tgt := 480) hx hb dL_sets_476 (by decide) ?_
            exact z_retZ (⟨C, Or.inl (Sm_0 C)⟩ : {u : CT // Aft C u T}) hx hb hr hlocks rfl rfl hS hP hD (Nat.le_of_ble_eq_true rfl) (Nat.le_of_ble_eq_true rfl) dL_sets_480
        · refine lv_aload_n hx hb dL_sets_318 rfl (lv_at hl 0 rfl) ?_
          refine lv_bipush (v := 14) hx hb dL_sets_319 (by decide) ?_
          refine z_rVi (C := C) (v := nI (v_nP (k_v C))) (As := [.int 14]) (rest := []) ⟨hx, hb, hml, hown, hts⟩ hK hP (rd_count_14 l g ct C hIV) (cwV 1 hts gL_sets_X9_count rfl rfl rfl (by decide +kernel) ⟨Nat.le_of_ble_eq_true rfl, Nat.le_of_ble_eq_true rfl⟩) rfl hl.1 rfl (Nat.le_of_ble_eq_true rfl) dL_sets_321 ⟨Nat.le_of_ble_eq_true rfl, Nat.le_of_ble_eq_true rfl⟩ ?_
          refine z_ifN_ne (x := (v_nP (k_v C))) (tgt := 343) hx hb (by omega) dL_sets_324 (by decide) (fun c_12 => ?_) (fun c_12 => ?_)
          · refine lv_iload_n hx hb dL_sets_343 rfl (lv_at hl 2 rfl) ?_
            refine lv_aload_n hx hb dL_sets_344 rfl (lv_at hl 0 rfl) ?_
            refine lv_bipush (v := 14) hx hb dL_sets_345 (by decide) ?_
            refine z_rVi (C := C) (v := nI (v_nP (k_v C))) (As := [.int 14]) (rest := [.int ga]) ⟨hx, hb, hml, hown, hts⟩ hK hP (rd_count_14 l g ct C hIV) (cwV 1 hts gL_sets_X9_count rfl rfl rfl (by decide +kernel) ⟨Nat.le_of_ble_eq_true rfl, Nat.le_of_ble_eq_true rfl⟩) rfl hl.1 rfl (Nat.le_of_ble_eq_true rfl) dL_sets_347 ⟨Nat.le_of_ble_eq_true rfl, Nat.le_of_ble_eq_true rfl⟩ ?_
            refine z_cSi (v := nI (lowN ga (v_nP (k_v C)))) (As := [.int ga, .int (nI (v_nP (k_v C)))]) (rest := []) ⟨hx, hb, hml, hown, hts⟩ (c_L_low l ga (v_nP (k_v C)) (by omega) (by omega)) (va_cwS 2 hts gL_sets_L_low rfl rfl rfl (by decide +kernel) ⟨Nat.le_of_ble_eq_true rfl, Nat.le_of_ble_eq_true rfl⟩) rfl hl.1 rfl (Nat.le_of_ble_eq_true rfl) dL_sets_350 ⟨Nat.le_of_ble_eq_true rfl, Nat.le_of_ble_eq_true rfl⟩ ?_
            refine lv_istore (lv' := [(4, .int (nI (lowN ga (v_nP (k_v C))))), (0, .ref (k_ba C 0)), (1, .int (nI so)), (2, .int ga), (3, .int ha)]) hx hb dL_sets_353 hl (by decide) rfl (fun ls hl => ?_)
            refine lv_iload_n hx hb dL_sets_355 rfl (lv_at hl 4 rfl) ?_
            refine lv_iconst (v := 3) hx hb dL_sets_356 (by decide) ?_
            refine lv_iand hx hb dL_sets_357 ?_
            refine z_cut (B0 := 366) (st2 := [.int (b3 ha)]) ?_ (fun kk => ?_)
            · refine lv_istore (lv' := [(5, .int (b3 ha)), (4, .int (nI (lowN ga (v_nP (k_v C))))), (0, .ref (k_ba C 0)), (1, .int (nI so)), (2, .int ga), (3, .int ha)]) hx hb dL_sets_366 hl (by decide) rfl (fun ls hl => ?_)
              refine lv_aload_n hx hb dL_sets_368 rfl (lv_at hl 2 rfl) ?_
              refine lv_iload hx hb dL_sets_369 (lv_at hl 1 rfl) ?_
              refine lv_iconst (v := 2) hx hb dL_sets_371 (by decide) ?_
              refine z_rVi (C := C) (v := if v_on (k_v C) (lowN ga (v_nP (k_v C))) = 0 then 0 else 1) (As := [.int (nI (lowN ga (v_nP (k_v C)))), .int 2]) (rest := []) ⟨hx, hb, hml, hown, hts⟩ hK hP (rd_pump_2 l g ct C hIV (lowN ga (v_nP (k_v C))) (lowN_lt _ (by omega))) (cwV 2 hts gL_sets_X9_pump rfl rfl rfl (by decide +kernel) ⟨Nat.le_of_ble_eq_true rfl, Nat.le_of_ble_eq_true rfl⟩) rfl hl.1 rfl (Nat.le_of_ble_eq_true rfl) dL_sets_372 ⟨Nat.le_of_ble_eq_true rfl, Nat.le_of_ble_eq_true rfl⟩ ?_
              refine z_cut (B0 := 384) (st2 := [.int (if ((if v_on (k_v C) (lowN ga (v_nP (k_v C))) = 0 then (0 : Int32) else 1) = 1) then 1 else 0)]) ?_ (fun kk => ?_)
              · refine lv_istore (lv' := [(6, .int (if ((if v_on (k_v C) (lowN ga (v_nP (k_v C))) = 0 then (0 : Int32) else 1) = 1) then 1 else 0)), (5, .int (b3 ha)), (4, .int (nI (lowN ga (v_nP (k_v C))))), (0, .ref (k_ba C 0)), (1, .int (nI so)), (2, .int ga), (3, .int ha)]) hx hb dL_sets_384 hl (by decide) rfl (fun ls hl => ?_)
                refine lv_iconst (v := 0) hx hb dL_sets_386 (by decide) ?_
                refine lv_istore (lv' := [(7, .int 0), (6, .int (if ((if v_on (k_v C) (lowN ga (v_nP (k_v C))) = 0 then (0 : Int32) else 1) = 1) then 1 else 0)), (5, .int (b3 ha)), (4, .int (nI (lowN ga (v_nP (k_v C))))), (0, .ref (k_ba C 0)), (1, .int (nI so)), (2, .int ga), (3, .int ha)]) hx hb dL_sets_387 hl (by decide) rfl (fun ls hl => ?_)
                refine lv_aload_n hx hb dL_sets_389 rfl (lv_at hl 4 rfl) ?_
                refine lv_iload hx hb dL_sets_390 (lv_at hl 3 rfl) ?_
                refine lv_iload hx hb dL_sets_392 (lv_at hl 2 rfl) ?_
                by_cases f_13 : v_on (k_v C) (lowN ga (v_nP (k_v C))) = b3 ha
                · refine z_rVi (C := C) (v := -5) (As := [.int (nI (lowN ga (v_nP (k_v C)))), .int (b3 ha)]) (rest := []) ⟨hx, hb, hml, hown, hts⟩ hK hP (rd_switchPump_a l g ct C (iv_nP hIV) (lowN ga (v_nP (k_v C))) (lowN_lt _ (by omega)) (b3 ha) (fun q => q f_13)) (cwV 2 hts gL_sets_X9_switchPump rfl rfl rfl (by decide +kernel) ⟨Nat.le_of_ble_eq_true rfl, Nat.le_of_ble_eq_true rfl⟩) rfl hl.1 rfl (Nat.le_of_ble_eq_true rfl) dL_sets_394 ⟨Nat.le_of_ble_eq_true rfl, Nat.le_of_ble_eq_true rfl⟩ ?_
                  refine lv_istore (lv' := [(8, .int (-5)), (7, .int 0), (6, .int (if ((if v_on (k_v C) (lowN ga (v_nP (k_v C))) = 0 then (0 : Int32) else 1) = 1) then 1 else 0)), (5, .int (b3 ha)), (4, .int (nI (lowN ga (v_nP (k_v C))))), (0, .ref (k_ba C 0)), (1, .int (nI so)), (2, .int ga), (3, .int ha)]) hx hb dL_sets_397 hl (by decide) rfl (fun ls hl => ?_)
                  refine lv_iconst (v := 0) hx hb dL_sets_399 (by decide) ?_
                  refine lv_istore (lv' := [(9, .int 0), (8, .int (-5)), (7, .int 0), (6, .int (if ((if v_on (k_v C) (lowN ga (v_nP (k_v C))) = 0 then (0 : Int32) else 1) = 1) then 1 else 0)), (5, .int (b3 ha)), (4, .int (nI (lowN ga (v_nP (k_v C))))), (0, .ref (k_ba C 0)), (1, .int (nI so)), (2, .int ga), (3, .int ha)]) hx hb dL_sets_400 hl (by decide) rfl (fun ls hl => ?_)
                  refine z_loop (v_nP (k_v C)) (fun k1 H locs ls => va_P g vwCl (CW ct C) H ∧ va_D A (CW ct C) ∧ va_S A s.heap H locs ∧ lv_has ls 10 [(0, .ref (k_ba C 0)), (4, .int (nI (lowN ga (v_nP (k_v C))))), (5, .int (b3 ha)), (6, .int (if ((if v_on (k_v C) (lowN ga (v_nP (k_v C))) = 0 then (0 : Int32) else 1) = 1) then 1 else 0)), (7, .int (onS (v_on (k_v C)) k1)), (8, .int (-5)), (9, .int (nI k1))]) ⟨hP, hD, hS, lv_sub hl [6, 5, 4, 3, 2, 1, 0] rfl⟩ ?_
                  intro k1 H locs ls hkk1 hI ihk1
                  obtain ⟨hP, hD, hS, hl⟩ := hI
                  refine lv_iload hx hb dL_sets_402 (lv_at hl 6 rfl) ?_
                  refine lv_aload_n hx hb dL_sets_404 rfl (lv_at hl 0 rfl) ?_
                  refine lv_bipush (v := 14) hx hb dL_sets_405 (by decide) ?_
                  refine z_rVi (C := C) (v := nI (v_nP (k_v C))) (As := [.int 14]) (rest := [.int (nI k1)]) ⟨hx, hb, hml, hown, hts⟩ hK hP (rd_count_14 l g ct C hIV) (cwV 1 hts gL_sets_X9_count rfl rfl rfl (by decide +kernel) ⟨Nat.le_of_ble_eq_true rfl, Nat.le_of_ble_eq_true rfl⟩) rfl hl.1 rfl (Nat.le_of_ble_eq_true rfl) dL_sets_407 ⟨Nat.le_of_ble_eq_true rfl, Nat.le_of_ble_eq_true rfl⟩ ?_
                  refine z_icN_ge (x := k1) (y := (v_nP (k_v C))) (tgt := 431) hx hb (by omega) (by omega) dL_sets_410 (by decide) (fun c_14 => ?_) (fun c_14 => ?_)
                  · have hkn : v_nP (k_v C) = k1 := by omega
                    subst hkn
                    refine lv_iload hx hb dL_sets_431 (lv_at hl 5 rfl) ?_
                    refine lv_iload hx hb dL_sets_433 (lv_at hl 2 rfl) ?_
                    refine lv_iload hx hb dL_sets_435 (lv_at hl 3 rfl) ?_
                    refine lv_icmp_ne (tgt := 445) hx hb dL_sets_437 (by decide) (fun c_15 => ?_) (fun c_15 => ?_)
                    · exact absurd ((on_b ((iv_01 hIV).2 (lowN ga (v_nP (k_v C))) (by have := lowN_lt ga (show 0 < v_nP (k_v C) by omega); omega))).mpr f_13).symm c_15
                    · refine lv_bipush (v := (-5)) hx hb dL_sets_440 (by decide) ?_
                      refine lv_goto (tgt := 447) hx hb dL_sets_442 (by decide) ?_
                      refine lv_icmp_ne (tgt := 454) hx hb dL_sets_447 (by decide) (fun h => absurd h (by decide)) (fun _ => ?_)
                      refine lv_iconst (v := 1) hx hb dL_sets_450 (by decide) ?_
                      refine lv_goto (tgt := 455) hx hb dL_sets_451 (by decide) ?_
                      exact z_retZ (⟨C, Or.inl (Sm_0 C)⟩ : {u : CT // Aft C u T}) hx hb hr hlocks rfl rfl hS hP hD (Nat.le_of_ble_eq_true rfl) (Nat.le_of_ble_eq_true rfl) dL_sets_455
                  · refine lv_iload hx hb dL_sets_413 (lv_at hl 4 rfl) ?_
                    refine lv_aload_n hx hb dL_sets_415 rfl (lv_at hl 0 rfl) ?_
                    refine lv_iload hx hb dL_sets_416 (lv_at hl 6 rfl) ?_
                    refine lv_iconst (v := 2) hx hb dL_sets_418 (by decide) ?_
                    refine z_rVi (C := C) (v := if v_on (k_v C) k1 = 0 then 0 else 1) (As := [.int (nI k1), .int 2]) (rest := [.int (onS (v_on (k_v C)) k1)]) ⟨hx, hb, hml, hown, hts⟩ hK hP (rd_pump_2 l g ct C hIV k1 (show k1 < v_nP (k_v C) by omega)) (cwV 2 hts gL_sets_X9_pump rfl rfl rfl (by decide +kernel) ⟨Nat.le_of_ble_eq_true rfl, Nat.le_of_ble_eq_true rfl⟩) rfl hl.1 rfl (Nat.le_of_ble_eq_true rfl) dL_sets_419 ⟨Nat.le_of_ble_eq_true rfl, Nat.le_of_ble_eq_true rfl⟩ ?_
                    refine lv_iadd hx hb dL_sets_422 ?_
                    refine lv_istore (lv' := [(7, .int ((onS (v_on (k_v C)) k1) + (if v_on (k_v C) k1 = 0 then 0 else 1))), (0, .ref (k_ba C 0)), (4, .int (nI (lowN ga (v_nP (k_v C))))), (5, .int (b3 ha)), (6, .int (if ((if v_on (k_v C) (lowN ga (v_nP (k_v C))) = 0 then (0 : Int32) else 1) = 1) then 1 else 0)), (8, .int (-5)), (9, .int (nI k1))]) hx hb dL_sets_423 hl (by decide) rfl (fun ls hl => ?_)
                    refine lv_iinc (v := nI (k1 + 1)) (lv' := [(9, .int (nI (k1 + 1))), (7, .int ((onS (v_on (k_v C)) k1) + (if v_on (k_v C) k1 = 0 then 0 else 1))), (0, .ref (k_ba C 0)), (4, .int (nI (lowN ga (v_nP (k_v C))))), (5, .int (b3 ha)), (6, .int (if ((if v_on (k_v C) (lowN ga (v_nP (k_v C))) = 0 then (0 : Int32) else 1) = 1) then 1 else 0)), (8, .int (-5))]) hx hb dL_sets_425 hl (k := 6) rfl (nI_add k1 1) (by decide) rfl (fun ls hl => ?_)
                    refine lv_goto (tgt := 402) hx hb dL_sets_428 (by decide) ?_
                    exact ihk1 _ _ _ (by omega) ⟨hP, hD, hS, lv_sub hl [2, 3, 4, 5, 1, 6, 0] rfl⟩
                · refine z_oVi (C := C) (K := fun u => ∃ U, u = k_rec C (nv_switchPump_b (k_v C) (lowN ga (v_nP (k_v C))) (b3 ha)) U) (v := onI (upd (v_on (k_v C)) (lowN ga (v_nP (k_v C))) (b3 ha)) (v_nP (k_v C))) (As := [.int (nI (lowN ga (v_nP (k_v C)))), .int (b3 ha)]) (rest := []) ⟨hx, hb, hml, hown, hts⟩ hK hP hD hS hNW hA (ac_switchPump_b l g ct _ C hC.2.1 hC.2.2.1 (iv_01 hIV) (iv_nP hIV) (lowN ga (v_nP (k_v C))) (lowN_lt _ (by omega)) (b3 ha) (b3_01 ha) f_13) (cwV 2 hts gL_sets_X9_switchPump rfl rfl rfl (by decide +kernel) ⟨Nat.le_of_ble_eq_true rfl, Nat.le_of_ble_eq_true rfl⟩) rfl hl.1 rfl (Nat.le_of_ble_eq_true rfl) dL_sets_394 ⟨Nat.le_of_ble_eq_true rfl, Nat.le_of_ble_eq_true rfl⟩ (fun u_16 H locs hu_17 hP hD hS => ?_)
                  obtain ⟨U_18, rfl⟩ := hu_17
                  have hIV_19 : IV (nv_switchPump_b (k_v C) (lowN ga (v_nP (k_v C))) (b3 ha)) _ := iv_switchPump hIV (b3_01 ha)
                  refine lv_istore (lv' := [(8, .int (onI (upd (v_on (k_v C)) (lowN ga (v_nP (k_v C))) (b3 ha)) (v_nP (k_v C)))), (7, .int 0), (6, .int (if ((if v_on (k_v C) (lowN ga (v_nP (k_v C))) = 0 then (0 : Int32) else 1) = 1) then 1 else 0)), (5, .int (b3 ha)), (4, .int (nI (lowN ga (v_nP (k_v C))))), (0, .ref (k_ba C 0)), (1, .int (nI so)), (2, .int ga), (3, .int ha)]) hx hb dL_sets_397 hl (by decide) rfl (fun ls hl => ?_)
                  refine lv_iconst (v := 0) hx hb dL_sets_399 (by decide) ?_
                  refine lv_istore (lv' := [(9, .int 0), (8, .int (onI (upd (v_on (k_v C)) (lowN ga (v_nP (k_v C))) (b3 ha)) (v_nP (k_v C)))), (7, .int 0), (6, .int (if ((if v_on (k_v C) (lowN ga (v_nP (k_v C))) = 0 then (0 : Int32) else 1) = 1) then 1 else 0)), (5, .int (b3 ha)), (4, .int (nI (lowN ga (v_nP (k_v C))))), (0, .ref (k_ba C 0)), (1, .int (nI so)), (2, .int ga), (3, .int ha)]) hx hb dL_sets_400 hl (by decide) rfl (fun ls hl => ?_)
                  refine z_loop (v_nP (k_v C)) (fun k1 H locs ls => va_P g vwCl (CW ct ((k_rec C (nv_switchPump_b (k_v C) (lowN ga (v_nP (k_v C))) (b3 ha)) U_18))) H ∧ va_D A (CW ct ((k_rec C (nv_switchPump_b (k_v C) (lowN ga (v_nP (k_v C))) (b3 ha)) U_18))) ∧ va_S A s.heap H locs ∧ lv_has ls 10 [(0, .ref (k_ba C 0)), (4, .int (nI (lowN ga (v_nP (k_v C))))), (5, .int (b3 ha)), (6, .int (if ((if v_on (k_v C) (lowN ga (v_nP (k_v C))) = 0 then (0 : Int32) else 1) = 1) then 1 else 0)), (7, .int (onS (upd (v_on (k_v C)) (lowN ga (v_nP (k_v C))) (b3 ha)) k1)), (8, .int (onI (upd (v_on (k_v C)) (lowN ga (v_nP (k_v C))) (b3 ha)) (v_nP (k_v C)))), (9, .int (nI k1))]) ⟨hP, hD, hS, lv_sub hl [6, 5, 4, 3, 2, 1, 0] rfl⟩ ?_
                  intro k1 H locs ls hkk1 hI ihk1
                  obtain ⟨hP, hD, hS, hl⟩ := hI
                  refine lv_iload hx hb dL_sets_402 (lv_at hl 6 rfl) ?_
                  refine lv_aload_n hx hb dL_sets_404 rfl (lv_at hl 0 rfl) ?_
                  refine lv_bipush (v := 14) hx hb dL_sets_405 (by decide) ?_
                  refine z_rVi (C := (k_rec C (nv_switchPump_b (k_v C) (lowN ga (v_nP (k_v C))) (b3 ha)) U_18)) (v := nI (v_nP (k_v C))) (As := [.int 14]) (rest := [.int (nI k1)]) ⟨hx, hb, hml, hown, hts⟩ hK hP (rd_count_14 l g ct ((k_rec C (nv_switchPump_b (k_v C) (lowN ga (v_nP (k_v C))) (b3 ha)) U_18)) hIV_19) (cwV 1 hts gL_sets_X9_count rfl rfl rfl (by decide +kernel) ⟨Nat.le_of_ble_eq_true rfl, Nat.le_of_ble_eq_true rfl⟩) rfl hl.1 rfl (Nat.le_of_ble_eq_true rfl) dL_sets_407 ⟨Nat.le_of_ble_eq_true rfl, Nat.le_of_ble_eq_true rfl⟩ ?_
                  refine z_icN_ge (x := k1) (y := (v_nP (k_v C))) (tgt := 431) hx hb (by omega) (by omega) dL_sets_410 (by decide) (fun c_20 => ?_) (fun c_20 => ?_)
                  · have hkn : v_nP (k_v C) = k1 := by omega
                    subst hkn
                    refine lv_iload hx hb dL_sets_431 (lv_at hl 5 rfl) ?_
                    refine lv_iload hx hb dL_sets_433 (lv_at hl 2 rfl) ?_
                    refine lv_iload hx hb dL_sets_435 (lv_at hl 3 rfl) ?_
                    refine lv_icmp_ne (tgt := 445) hx hb dL_sets_437 (by decide) (fun c_21 => ?_) (fun c_21 => ?_)
                    · refine lv_iload hx hb dL_sets_445 (lv_at hl 4 rfl) ?_
                      refine lv_icmp_ne (tgt := 454) hx hb dL_sets_447 (by decide) (fun c_22 => ?_) (fun c_22 => ?_)
                      · exact absurd (onS_I _ _).symm c_22
                      · refine lv_iconst (v := 1) hx hb dL_sets_450 (by decide) ?_
                        refine lv_goto (tgt := 455) hx hb dL_sets_451 (by decide) ?_
                        exact z_retZ (⟨(k_rec C (nv_switchPump_b (k_v C) (lowN ga (v_nP (k_v C))) (b3 ha)) U_18), Or.inr ⟨_, U_18, iv_m hIV_19 (by omega), Sm_0 _⟩⟩ : {u : CT // Aft C u T}) hx hb hr hlocks rfl rfl hS hP hD (Nat.le_of_ble_eq_true rfl) (Nat.le_of_ble_eq_true rfl) dL_sets_455
                    · exact absurd ((on_b ((iv_01 hIV).2 (lowN ga (v_nP (k_v C))) (by have := lowN_lt ga (show 0 < v_nP (k_v C) by omega); omega))).mp c_21.symm) f_13
                  · refine lv_iload hx hb dL_sets_413 (lv_at hl 4 rfl) ?_
                    refine lv_aload_n hx hb dL_sets_415 rfl (lv_at hl 0 rfl) ?_
                    refine lv_iload hx hb dL_sets_416 (lv_at hl 6 rfl) ?_
                    refine lv_iconst (v := 2) hx hb dL_sets_418 (by decide) ?_
                    refine z_rVi (C := (k_rec C (nv_switchPump_b (k_v C) (lowN ga (v_nP (k_v C))) (b3 ha)) U_18)) (v := if upd (v_on (k_v C)) (lowN ga (v_nP (k_v C))) (b3 ha) k1 = 0 then 0 else 1) (As := [.int (nI k1), .int 2]) (rest := [.int (onS (upd (v_on (k_v C)) (lowN ga (v_nP (k_v C))) (b3 ha)) k1)]) ⟨hx, hb, hml, hown, hts⟩ hK hP (rd_pump_2 l g ct ((k_rec C (nv_switchPump_b (k_v C) (lowN ga (v_nP (k_v C))) (b3 ha)) U_18)) hIV_19 k1 (show k1 < v_nP (k_v C) by omega)) (cwV 2 hts gL_sets_X9_pump rfl rfl rfl (by decide +kernel) ⟨Nat.le_of_ble_eq_true rfl, Nat.le_of_ble_eq_true rfl⟩) rfl hl.1 rfl (Nat.le_of_ble_eq_true rfl) dL_sets_419 ⟨Nat.le_of_ble_eq_true rfl, Nat.le_of_ble_eq_true rfl⟩ ?_
                    refine lv_iadd hx hb dL_sets_422 ?_
                    refine lv_istore (lv' := [(7, .int ((onS (upd (v_on (k_v C)) (lowN ga (v_nP (k_v C))) (b3 ha)) k1) + (if upd (v_on (k_v C)) (lowN ga (v_nP (k_v C))) (b3 ha) k1 = 0 then 0 else 1))), (0, .ref (k_ba C 0)), (4, .int (nI (lowN ga (v_nP (k_v C))))), (5, .int (b3 ha)), (6, .int (if ((if v_on (k_v C) (lowN ga (v_nP (k_v C))) = 0 then (0 : Int32) else 1) = 1) then 1 else 0)), (8, .int (onI (upd (v_on (k_v C)) (lowN ga (v_nP (k_v C))) (b3 ha)) (v_nP (k_v C)))), (9, .int (nI k1))]) hx hb dL_sets_423 hl (by decide) rfl (fun ls hl => ?_)
                    refine lv_iinc (v := nI (k1 + 1)) (lv' := [(9, .int (nI (k1 + 1))), (7, .int ((onS (upd (v_on (k_v C)) (lowN ga (v_nP (k_v C))) (b3 ha)) k1) + (if upd (v_on (k_v C)) (lowN ga (v_nP (k_v C))) (b3 ha) k1 = 0 then 0 else 1))), (0, .ref (k_ba C 0)), (4, .int (nI (lowN ga (v_nP (k_v C))))), (5, .int (b3 ha)), (6, .int (if ((if v_on (k_v C) (lowN ga (v_nP (k_v C))) = 0 then (0 : Int32) else 1) = 1) then 1 else 0)), (8, .int (onI (upd (v_on (k_v C)) (lowN ga (v_nP (k_v C))) (b3 ha)) (v_nP (k_v C))))]) hx hb dL_sets_425 hl (k := 6) rfl (nI_add k1 1) (by decide) rfl (fun ls hl => ?_)
                    refine lv_goto (tgt := 402) hx hb dL_sets_428 (by decide) ?_
                    exact ihk1 _ _ _ (by omega) ⟨hP, hD, hS, lv_sub hl [2, 3, 4, 5, 1, 6, 0] rfl⟩
              · refine lv_iconst (v := 1) hx hb dL_sets_375 (by decide) ?_
                refine lv_icmp_ne (tgt := 383) hx hb dL_sets_376 (by decide) (fun c_23 => ?_) (fun c_23 => ?_)
                · refine lv_iconst (v := 0) hx hb dL_sets_383 (by decide) ?_
                  rw [if_neg c_23] at kk; exact kk
                · refine lv_iconst (v := 1) hx hb dL_sets_379 (by decide) ?_
                  refine lv_goto (tgt := 384) hx hb dL_sets_380 (by decide) ?_
                  rw [if_pos c_23] at kk; exact kk
            · refine lv_if_le (tgt := 365) hx hb dL_sets_358 (by decide) (fun c_24 => ?_) (fun c_24 => ?_)
              · refine lv_iconst (v := 0) hx hb dL_sets_365 (by decide) ?_
                have kk2 : b3 ha = 0 := if_neg (fun q => q c_24); rw [kk2] at kk; exact kk
              · refine lv_iconst (v := 1) hx hb dL_sets_361 (by decide) ?_
                refine lv_goto (tgt := 366) hx hb dL_sets_362 (by decide) ?_
                have kk2 : b3 ha = 1 := if_pos c_24; rw [kk2] at kk; exact kk
          · refine lv_aload_n hx hb dL_sets_327 rfl (lv_at hl 0 rfl) ?_
            refine lv_iconst (v := 0) hx hb dL_sets_328 (by decide) ?_
            refine lv_iconst (v := 1) hx hb dL_sets_329 (by decide) ?_
            refine z_rVi (C := C) (v := -1) (As := [.int 0, .int 1]) (rest := []) ⟨hx, hb, hml, hown, hts⟩ hK hP (rd_switchPump_u l g ct C (iv_nP hIV) 0 1 (fun q => absurd q.2 (by rw [c_12]; decide))) (cwV 2 hts gL_sets_X9_switchPump rfl rfl rfl (by decide +kernel) ⟨Nat.le_of_ble_eq_true rfl, Nat.le_of_ble_eq_true rfl⟩) rfl hl.1 rfl (Nat.le_of_ble_eq_true rfl) dL_sets_330 ⟨Nat.le_of_ble_eq_true rfl, Nat.le_of_ble_eq_true rfl⟩ ?_
            refine lv_iconst (v := (-1)) hx hb dL_sets_333 (by decide) ?_
            refine lv_icmp_ne (tgt := 341) hx hb dL_sets_334 (by decide) (fun h => absurd h (by decide)) (fun _ => ?_)
            refine lv_iconst (v := 1) hx hb dL_sets_337 (by decide) ?_
            refine lv_goto (tgt := 342) hx hb dL_sets_338 (by decide) ?_
            exact z_retZ (⟨C, Or.inl (Sm_0 C)⟩ : {u : CT // Aft C u T}) hx hb hr hlocks rfl rfl hS hP hD (Nat.le_of_ble_eq_true rfl) (Nat.le_of_ble_eq_true rfl) dL_sets_342
      · refine lv_aload_n hx hb dL_sets_238 rfl (lv_at hl 0 rfl) ?_
        refine lv_iconst (v := 2) hx hb dL_sets_239 (by decide) ?_
        refine z_rVd (C := C) (v := (v_al (k_v C)).toUInt64) (As := [.int 2]) (rest := []) ⟨hx, hb, hml, hown, hts⟩ hK hP (rd_level_2 l g ct C hIV (by omega)) (cwV 1 hts gL_sets_X9_level rfl rfl rfl (by decide +kernel) ⟨Nat.le_of_ble_eq_true rfl, Nat.le_of_ble_eq_true rfl⟩) rfl hl.1 rfl (Nat.le_of_ble_eq_true rfl) dL_sets_240 ⟨Nat.le_of_ble_eq_true rfl, Nat.le_of_ble_eq_true rfl⟩ ?_
        refine lv_dstore (lv' := [(4, .double ((v_al (k_v C)).toUInt64)), (0, .ref (k_ba C 0)), (1, .int (nI so)), (2, .int ga), (3, .int ha)]) hx hb dL_sets_243 hl (by decide) rfl (fun ls hl => ?_)
        refine lv_iload_n hx hb dL_sets_245 rfl (lv_at hl 4 rfl) ?_
        refine lv_bipush (v := 6) hx hb dL_sets_246 (by decide) ?_
        refine z_cSi (v := nI (lowN ha 6)) (As := [.int ha, .int 6]) (rest := []) ⟨hx, hb, hml, hown, hts⟩ (c_L_low l ha 6 (by omega) (by omega)) (va_cwS 2 hts gL_sets_L_low rfl rfl rfl (by decide +kernel) ⟨Nat.le_of_ble_eq_true rfl, Nat.le_of_ble_eq_true rfl⟩) rfl hl.1 rfl (Nat.le_of_ble_eq_true rfl) dL_sets_248 ⟨Nat.le_of_ble_eq_true rfl, Nat.le_of_ble_eq_true rfl⟩ ?_
        refine z_cSl (v := btS (lowN ha 6)) (As := [.int (nI (lowN ha 6))]) (rest := []) ⟨hx, hb, hml, hown, hts⟩ (c_L_bits l (lowN ha 6) (lowN_lt _ (by omega))) (va_cwS 1 hts gL_sets_L_bits rfl rfl rfl (by decide +kernel) ⟨Nat.le_of_ble_eq_true rfl, Nat.le_of_ble_eq_true rfl⟩) rfl hl.1 rfl (Nat.le_of_ble_eq_true rfl) dL_sets_251 ⟨Nat.le_of_ble_eq_true rfl, Nat.le_of_ble_eq_true rfl⟩ ?_
        refine lv_lstore (lv' := [(6, .long (btS (lowN ha 6))), (4, .double ((v_al (k_v C)).toUInt64)), (0, .ref (k_ba C 0)), (1, .int (nI so)), (2, .int ga), (3, .int ha)]) hx hb dL_sets_254 hl (by decide) rfl (fun ls hl => ?_)
        refine lv_aload_n hx hb dL_sets_256 rfl (lv_at hl 2 rfl) ?_
        refine lv_lload hx hb dL_sets_257 (lv_at hl 0 rfl) ?_
        by_cases f_25 : v_al (k_v C) = btS (lowN ha 6)
        · refine z_rVi (C := C) (v := -5) (As := [.long (btS (lowN ha 6))]) (rest := []) ⟨hx, hb, hml, hown, hts⟩ hK hP (rd_sa5 l g ct C hIV (btS (lowN ha 6)) (lvS_ok (btS_lv _)) (Or.inl f_25.symm)) (cwV 1 hts gL_sets_X9_setAlarm rfl rfl rfl (by decide +kernel) ⟨Nat.le_of_ble_eq_true rfl, Nat.le_of_ble_eq_true rfl⟩) rfl hl.1 rfl (Nat.le_of_ble_eq_true rfl) dL_sets_259 ⟨Nat.le_of_ble_eq_true rfl, Nat.le_of_ble_eq_true rfl⟩ ?_
          refine lv_istore (lv' := [(8, .int (-5)), (6, .long (btS (lowN ha 6))), (4, .double ((v_al (k_v C)).toUInt64)), (0, .ref (k_ba C 0)), (1, .int (nI so)), (2, .int ga), (3, .int ha)]) hx hb dL_sets_262 hl (by decide) rfl (fun ls hl => ?_)
          refine lv_iload hx hb dL_sets_264 (lv_at hl 0 rfl) ?_
          refine lv_iconst (v := 1) hx hb dL_sets_266 (by decide) ?_
          refine lv_icmp_ne (tgt := 274) hx hb dL_sets_267 (by decide) (fun _ => ?_) (fun h => absurd h (by decide))
          refine lv_iconst (v := 0) hx hb dL_sets_274 (by decide) ?_
          refine lv_aload_n hx hb dL_sets_275 rfl (lv_at hl 3 rfl) ?_
          refine lv_iconst (v := 2) hx hb dL_sets_276 (by decide) ?_
          refine z_rVd (C := C) (v := (v_al (k_v C)).toUInt64) (As := [.int 2]) (rest := [.int 0]) ⟨hx, hb, hml, hown, hts⟩ hK hP (rd_level_2 l g ct C hIV (by omega)) (cwV 1 hts gL_sets_X9_level rfl rfl rfl (by decide +kernel) ⟨Nat.le_of_ble_eq_true rfl, Nat.le_of_ble_eq_true rfl⟩) rfl hl.1 rfl (Nat.le_of_ble_eq_true rfl) dL_sets_277 ⟨Nat.le_of_ble_eq_true rfl, Nat.le_of_ble_eq_true rfl⟩ ?_
          refine lv_dload hx hb dL_sets_280 (lv_at hl 2 rfl) ?_
          refine lv_dcmp hx hb dL_sets_282 ?_
          refine lv_if_ne (tgt := 290) hx hb dL_sets_283 (by decide) (fun c_26 => ?_) (fun c_26 => ?_)
          · exact absurd (al_eq (iv_alS hIV)) c_26
          · refine lv_iconst (v := 1) hx hb dL_sets_286 (by decide) ?_
            refine lv_goto (tgt := 291) hx hb dL_sets_287 (by decide) ?_
            refine lv_icmp_eq (tgt := 310) hx hb dL_sets_291 (by decide) (fun h => absurd h (by decide)) (fun _ => ?_)
            refine lv_aload_n hx hb dL_sets_294 rfl (lv_at hl 3 rfl) ?_
            refine lv_ldc2 (v := 4621819117588971521) hx hb hown (hts (.constantLong RL 90 (4621819117588971521)) (List.mem_of_getElem? (i := 3) rfl)) dL_sets_295 ?_
            refine z_rVi (C := C) (v := -2) (As := [.long 4621819117588971521]) (rest := []) ⟨hx, hb, hml, hown, hts⟩ hK hP (rd_sa2 l g ct C hIV 4621819117588971521 (by decide +kernel)) (cwV 1 hts gL_sets_X9_setAlarm rfl rfl rfl (by decide +kernel) ⟨Nat.le_of_ble_eq_true rfl, Nat.le_of_ble_eq_true rfl⟩) rfl hl.1 rfl (Nat.le_of_ble_eq_true rfl) dL_sets_298 ⟨Nat.le_of_ble_eq_true rfl, Nat.le_of_ble_eq_true rfl⟩ ?_
            refine lv_bipush (v := (-2)) hx hb dL_sets_301 (by decide) ?_
            refine lv_icmp_ne (tgt := 310) hx hb dL_sets_303 (by decide) (fun h => absurd h (by decide)) (fun _ => ?_)
            refine lv_iconst (v := 1) hx hb dL_sets_306 (by decide) ?_
            refine lv_goto (tgt := 311) hx hb dL_sets_307 (by decide) ?_
            exact z_retZ (⟨C, Or.inl (Sm_0 C)⟩ : {u : CT // Aft C u T}) hx hb hr hlocks rfl rfl hS hP hD (Nat.le_of_ble_eq_true rfl) (Nat.le_of_ble_eq_true rfl) dL_sets_311
        · refine z_oVi (C := C) (K := fun u => ∃ U, u = k_rec C (nv_setAlarm_b (k_v C) (btS (lowN ha 6))) U) (v := 1) (As := [.long (btS (lowN ha 6))]) (rest := []) ⟨hx, hb, hml, hown, hts⟩ hK hP hD hS hNW hA (ac_setAlarm_b l g ct _ C hC.2.1 hC.2.2.1 (iv_01 hIV) (btS (lowN ha 6)) ⟨(lvS_ok (btS_lv _)), (fun q => f_25 ((sm_eq (btS_lv _) (iv_alS hIV)).mp q).symm)⟩) (cwV 1 hts gL_sets_X9_setAlarm rfl rfl rfl (by decide +kernel) ⟨Nat.le_of_ble_eq_true rfl, Nat.le_of_ble_eq_true rfl⟩) rfl hl.1 rfl (Nat.le_of_ble_eq_true rfl) dL_sets_259 ⟨Nat.le_of_ble_eq_true rfl, Nat.le_of_ble_eq_true rfl⟩ (fun u_27 H locs hu_28 hP hD hS => ?_)
          obtain ⟨U_29, rfl⟩ := hu_28
          have hIV_30 : IV (nv_setAlarm_b (k_v C) (btS (lowN ha 6))) _ := iv_setAlarm hIV (btS_lv _)
          refine lv_istore (lv' := [(8, .int 1), (6, .long (btS (lowN ha 6))), (4, .double ((v_al (k_v C)).toUInt64)), (0, .ref (k_ba C 0)), (1, .int (nI so)), (2, .int ga), (3, .int ha)]) hx hb dL_sets_262 hl (by decide) rfl (fun ls hl => ?_)
          refine lv_iload hx hb dL_sets_264 (lv_at hl 0 rfl) ?_
          refine lv_iconst (v := 1) hx hb dL_sets_266 (by decide) ?_
          refine lv_icmp_ne (tgt := 274) hx hb dL_sets_267 (by decide) (fun h => absurd h (by decide)) (fun _ => ?_)
          refine lv_iconst (v := 1) hx hb dL_sets_270 (by decide) ?_
          refine lv_goto (tgt := 275) hx hb dL_sets_271 (by decide) ?_
          refine lv_aload_n hx hb dL_sets_275 rfl (lv_at hl 3 rfl) ?_
          refine lv_iconst (v := 2) hx hb dL_sets_276 (by decide) ?_
          refine z_rVd (C := (k_rec C (nv_setAlarm_b (k_v C) (btS (lowN ha 6))) U_29)) (v := (btS (lowN ha 6)).toUInt64) (As := [.int 2]) (rest := [.int 1]) ⟨hx, hb, hml, hown, hts⟩ hK hP (rd_level_2 l g ct ((k_rec C (nv_setAlarm_b (k_v C) (btS (lowN ha 6))) U_29)) hIV_30 (by omega)) (cwV 1 hts gL_sets_X9_level rfl rfl rfl (by decide +kernel) ⟨Nat.le_of_ble_eq_true rfl, Nat.le_of_ble_eq_true rfl⟩) rfl hl.1 rfl (Nat.le_of_ble_eq_true rfl) dL_sets_277 ⟨Nat.le_of_ble_eq_true rfl, Nat.le_of_ble_eq_true rfl⟩ ?_
          refine lv_dload hx hb dL_sets_280 (lv_at hl 2 rfl) ?_
          refine lv_dcmp hx hb dL_sets_282 ?_
          refine lv_if_ne (tgt := 290) hx hb dL_sets_283 (by decide) (fun c_31 => ?_) (fun c_31 => ?_)
          · refine lv_iconst (v := 0) hx hb dL_sets_290 (by decide) ?_
            refine lv_icmp_eq (tgt := 310) hx hb dL_sets_291 (by decide) (fun h => absurd h (by decide)) (fun _ => ?_)
            refine lv_aload_n hx hb dL_sets_294 rfl (lv_at hl 3 rfl) ?_
            refine lv_ldc2 (v := 4621819117588971521) hx hb hown (hts (.constantLong RL 90 (4621819117588971521)) (List.mem_of_getElem? (i := 3) rfl)) dL_sets_295 ?_
            refine z_rVi (C := (k_rec C (nv_setAlarm_b (k_v C) (btS (lowN ha 6))) U_29)) (v := -2) (As := [.long 4621819117588971521]) (rest := []) ⟨hx, hb, hml, hown, hts⟩ hK hP (rd_sa2 l g ct ((k_rec C (nv_setAlarm_b (k_v C) (btS (lowN ha 6))) U_29)) hIV_30 4621819117588971521 (by decide +kernel)) (cwV 1 hts gL_sets_X9_setAlarm rfl rfl rfl (by decide +kernel) ⟨Nat.le_of_ble_eq_true rfl, Nat.le_of_ble_eq_true rfl⟩) rfl hl.1 rfl (Nat.le_of_ble_eq_true rfl) dL_sets_298 ⟨Nat.le_of_ble_eq_true rfl, Nat.le_of_ble_eq_true rfl⟩ ?_
            refine lv_bipush (v := (-2)) hx hb dL_sets_301 (by decide) ?_
            refine lv_icmp_ne (tgt := 310) hx hb dL_sets_303 (by decide) (fun h => absurd h (by decide)) (fun _ => ?_)
            refine lv_iconst (v := 1) hx hb dL_sets_306 (by decide) ?_
            refine lv_goto (tgt := 311) hx hb dL_sets_307 (by decide) ?_
            exact z_retZ (⟨(k_rec C (nv_setAlarm_b (k_v C) (btS (lowN ha 6))) U_29), Or.inr ⟨_, U_29, iv_m hIV_30 (by omega), Sm_0 _⟩⟩ : {u : CT // Aft C u T}) hx hb hr hlocks rfl rfl hS hP hD (Nat.le_of_ble_eq_true rfl) (Nat.le_of_ble_eq_true rfl) dL_sets_311
          · exact absurd c_31 (al_ne (btS_lv _) (iv_alS hIV) (fun q => f_25 q.symm))
    · refine lv_iload_n hx hb dL_sets_117 rfl (lv_at hl 2 rfl) ?_
      refine lv_iconst (v := 1) hx hb dL_sets_118 (by decide) ?_
      refine lv_iand hx hb dL_sets_119 ?_
      refine (an1 ga).elim (fun e1 => ?_) (fun e1 => ?_)
      · rw [e1]
        refine lv_istore (lv' := [(4, .int 0), (0, .ref (k_ba C 0)), (1, .int (nI so)), (2, .int ga), (3, .int ha)]) hx hb dL_sets_120 hl (by decide) rfl (fun ls hl => ?_)
        refine lv_iload hx hb dL_sets_122 (lv_at hl 0 rfl) ?_
        refine lv_if_ne (tgt := 141) hx hb dL_sets_124 (by decide) (fun h => absurd h (by decide)) (fun _ => ?_)
        refine lv_sipush (v := 1000) hx hb dL_sets_127 (by decide) ?_
        refine lv_iload_n hx hb dL_sets_130 rfl (lv_at hl 4 rfl) ?_
        refine lv_sipush (v := 5000) hx hb dL_sets_131 (by decide) ?_
        refine z_cSi (v := nI (lowN ha 5000)) (As := [.int ha, .int 5000]) (rest := [.int 1000]) ⟨hx, hb, hml, hown, hts⟩ (c_L_low l ha 5000 (by omega) (by omega)) (va_cwS 2 hts gL_sets_L_low rfl rfl rfl (by decide +kernel) ⟨Nat.le_of_ble_eq_true rfl, Nat.le_of_ble_eq_true rfl⟩) rfl hl.1 rfl (Nat.le_of_ble_eq_true rfl) dL_sets_134 ⟨Nat.le_of_ble_eq_true rfl, Nat.le_of_ble_eq_true rfl⟩ ?_
        refine z_iaddN (x := 1000) (y := (lowN ha 5000)) hx hb dL_sets_137 ?_
        refine lv_goto (tgt := 148) hx hb dL_sets_138 (by decide) ?_
        refine lv_istore (lv' := [(5, .int (nI (1000 + (lowN ha 5000)))), (4, .int 0), (0, .ref (k_ba C 0)), (1, .int (nI so)), (2, .int ga), (3, .int ha)]) hx hb dL_sets_148 hl (by decide) rfl (fun ls hl => ?_)
        refine lv_aload_n hx hb dL_sets_150 rfl (lv_at hl 2 rfl) ?_
        refine lv_bipush (v := 9) hx hb dL_sets_151 (by decide) ?_
        refine lv_iload hx hb dL_sets_153 (lv_at hl 1 rfl) ?_
        refine z_iaddN (x := 9) (y := 0) hx hb dL_sets_155 ?_
        refine z_rVi (C := C) (v := v_ar (k_v C)) (As := [.int (nI 9)]) (rest := []) ⟨hx, hb, hml, hown, hts⟩ hK hP (rd_count_9 l g ct C hIV) (cwV 1 hts gL_sets_X9_count rfl rfl rfl (by decide +kernel) ⟨Nat.le_of_ble_eq_true rfl, Nat.le_of_ble_eq_true rfl⟩) rfl hl.1 rfl (Nat.le_of_ble_eq_true rfl) dL_sets_156 ⟨Nat.le_of_ble_eq_true rfl, Nat.le_of_ble_eq_true rfl⟩ ?_
        refine lv_istore (lv' := [(6, .int (v_ar (k_v C))), (5, .int (nI (1000 + (lowN ha 5000)))), (4, .int 0), (0, .ref (k_ba C 0)), (1, .int (nI so)), (2, .int ga), (3, .int ha)]) hx hb dL_sets_159 hl (by decide) rfl (fun ls hl => ?_)
        refine lv_aload_n hx hb dL_sets_161 rfl (lv_at hl 3 rfl) ?_
        refine lv_iload hx hb dL_sets_162 (lv_at hl 2 rfl) ?_
        refine lv_iload hx hb dL_sets_164 (lv_at hl 1 rfl) ?_
        by_cases f_32 : v_ar (k_v C) = (nI (1000 + lowN ha 5000))
        · refine z_rVi (C := C) (v := -5) (As := [.int 0, .int (nI (1000 + (lowN ha 5000)))]) (rest := []) ⟨hx, hb, hml, hown, hts⟩ hK hP (rd_s05 l g ct C hIV (nI (1000 + lowN ha 5000)) (os_n (lo := 1000) (hi := 1000000) ⟨by omega, by have := lowN_lt ha (show 0 < 5000 by omega); omega⟩ (by decide)) f_32) (cwV 2 hts gL_sets_X9_set rfl rfl rfl (by decide +kernel) ⟨Nat.le_of_ble_eq_true rfl, Nat.le_of_ble_eq_true rfl⟩) rfl hl.1 rfl (Nat.le_of_ble_eq_true rfl) dL_sets_166 ⟨Nat.le_of_ble_eq_true rfl, Nat.le_of_ble_eq_true rfl⟩ ?_
          refine lv_iload hx hb dL_sets_169 (lv_at hl 0 rfl) ?_
          refine lv_iload hx hb dL_sets_171 (lv_at hl 1 rfl) ?_
          refine lv_icmp_ne (tgt := 181) hx hb dL_sets_173 (by decide) (fun c_33 => ?_) (fun c_33 => ?_)
          · exact absurd f_32 c_33
          · refine lv_bipush (v := (-5)) hx hb dL_sets_176 (by decide) ?_
            refine lv_goto (tgt := 183) hx hb dL_sets_178 (by decide) ?_
            refine lv_icmp_ne (tgt := 230) hx hb dL_sets_183 (by decide) (fun h => absurd h (by decide)) (fun _ => ?_)
            refine lv_aload_n hx hb dL_sets_186 rfl (lv_at hl 3 rfl) ?_
            refine lv_bipush (v := 9) hx hb dL_sets_187 (by decide) ?_
            refine lv_iload hx hb dL_sets_189 (lv_at hl 2 rfl) ?_
            refine z_iaddN (x := 9) (y := 0) hx hb dL_sets_191 ?_
            refine z_rVi (C := C) (v := v_ar (k_v C)) (As := [.int (nI 9)]) (rest := []) ⟨hx, hb, hml, hown, hts⟩ hK hP (rd_count_9 l g ct C hIV) (cwV 1 hts gL_sets_X9_count rfl rfl rfl (by decide +kernel) ⟨Nat.le_of_ble_eq_true rfl, Nat.le_of_ble_eq_true rfl⟩) rfl hl.1 rfl (Nat.le_of_ble_eq_true rfl) dL_sets_192 ⟨Nat.le_of_ble_eq_true rfl, Nat.le_of_ble_eq_true rfl⟩ ?_
            refine lv_iload hx hb dL_sets_195 (lv_at hl 1 rfl) ?_
            refine lv_icmp_ne (tgt := 230) hx hb dL_sets_197 (by decide) (fun c_34 => ?_) (fun c_34 => ?_)
            · exact absurd f_32 c_34
            · refine lv_aload_n hx hb dL_sets_200 rfl (lv_at hl 3 rfl) ?_
              refine lv_iconst (v := 0) hx hb dL_sets_201 (by decide) ?_
              refine lv_sipush (v := 999) hx hb dL_sets_202 (by decide) ?_
              refine z_rVi (C := C) (v := -2) (As := [.int 0, .int 999]) (rest := []) ⟨hx, hb, hml, hown, hts⟩ hK hP (rd_s02 l g ct C hIV 999 (Or.inl (by decide))) (cwV 2 hts gL_sets_X9_set rfl rfl rfl (by decide +kernel) ⟨Nat.le_of_ble_eq_true rfl, Nat.le_of_ble_eq_true rfl⟩) rfl hl.1 rfl (Nat.le_of_ble_eq_true rfl) dL_sets_205 ⟨Nat.le_of_ble_eq_true rfl, Nat.le_of_ble_eq_true rfl⟩ ?_
              refine lv_bipush (v := (-2)) hx hb dL_sets_208 (by decide) ?_
              refine lv_icmp_ne (tgt := 230) hx hb dL_sets_210 (by decide) (fun h => absurd h (by decide)) (fun _ => ?_)
              refine lv_aload_n hx hb dL_sets_213 rfl (lv_at hl 3 rfl) ?_
              refine lv_iconst (v := 2) hx hb dL_sets_214 (by decide) ?_
              refine lv_sipush (v := 1000) hx hb dL_sets_215 (by decide) ?_
              refine z_rVi (C := C) (v := -2) (As := [.int 2, .int 1000]) (rest := []) ⟨hx, hb, hml, hown, hts⟩ hK hP (rd_s22 l g ct C hIV 1000) (cwV 2 hts gL_sets_X9_set rfl rfl rfl (by decide +kernel) ⟨Nat.le_of_ble_eq_true rfl, Nat.le_of_ble_eq_true rfl⟩) rfl hl.1 rfl (Nat.le_of_ble_eq_true rfl) dL_sets_218 ⟨Nat.le_of_ble_eq_true rfl, Nat.le_of_ble_eq_true rfl⟩ ?_
              refine lv_bipush (v := (-2)) hx hb dL_sets_221 (by decide) ?_
              refine lv_icmp_ne (tgt := 230) hx hb dL_sets_223 (by decide) (fun h => absurd h (by decide)) (fun _ => ?_)
              refine lv_iconst (v := 1) hx hb dL_sets_226 (by decide) ?_
              refine lv_goto (tgt := 231) hx hb dL_sets_227 (by decide) ?_
              exact z_retZ (⟨C, Or.inl (Sm_0 C)⟩ : {u : CT // Aft C u T}) hx hb hr hlocks rfl rfl hS hP hD (Nat.le_of_ble_eq_true rfl) (Nat.le_of_ble_eq_true rfl) dL_sets_231
        · refine z_oVi (C := C) (K := fun u => ∃ U, u = k_rec C (nv_set_b0 (k_v C) (nI (1000 + lowN ha 5000))) U) (v := v_ar (k_v C)) (As := [.int 0, .int (nI (1000 + (lowN ha 5000)))]) (rest := []) ⟨hx, hb, hml, hown, hts⟩ hK hP hD hS hNW hA (ac_set_b0 l g ct _ C hC.2.1 hC.2.2.1 (iv_01 hIV) (nI (1000 + lowN ha 5000)) ⟨(os_n (lo := 1000) (hi := 1000000) ⟨by omega, by have := lowN_lt ha (show 0 < 5000 by omega); omega⟩ (by decide)), f_32⟩) (cwV 2 hts gL_sets_X9_set rfl rfl rfl (by decide +kernel) ⟨Nat.le_of_ble_eq_true rfl, Nat.le_of_ble_eq_true rfl⟩) rfl hl.1 rfl (Nat.le_of_ble_eq_true rfl) dL_sets_166 ⟨Nat.le_of_ble_eq_true rfl, Nat.le_of_ble_eq_true rfl⟩ (fun u_35 H locs hu_36 hP hD hS => ?_)
          obtain ⟨U_37, rfl⟩ := hu_36
          have hIV_38 : IV (nv_set_b0 (k_v C) (nI (1000 + lowN ha 5000))) _ := iv_set0 hIV (os_n (lo := 1000) (hi := 1000000) ⟨by omega, by have := lowN_lt ha (show 0 < 5000 by omega); omega⟩ (by decide))
          refine lv_iload hx hb dL_sets_169 (lv_at hl 0 rfl) ?_
          refine lv_iload hx hb dL_sets_171 (lv_at hl 1 rfl) ?_
          refine lv_icmp_ne (tgt := 181) hx hb dL_sets_173 (by decide) (fun c_39 => ?_) (fun c_39 => ?_)
          · refine lv_iload hx hb dL_sets_181 (lv_at hl 0 rfl) ?_
            refine lv_icmp_ne (tgt := 230) hx hb dL_sets_183 (by decide) (fun c_40 => ?_) (fun c_40 => ?_)
            · exact absurd rfl c_40
            · refine lv_aload_n hx hb dL_sets_186 rfl (lv_at hl 3 rfl) ?_
              refine lv_bipush (v := 9) hx hb dL_sets_187 (by decide) ?_
              refine lv_iload hx hb dL_sets_189 (lv_at hl 2 rfl) ?_
              refine z_iaddN (x := 9) (y := 0) hx hb dL_sets_191 ?_
              refine z_rVi (C := (k_rec C (nv_set_b0 (k_v C) (nI (1000 + lowN ha 5000))) U_37)) (v := nI (1000 + lowN ha 5000)) (As := [.int (nI 9)]) (rest := []) ⟨hx, hb, hml, hown, hts⟩ hK hP (rd_count_9 l g ct ((k_rec C (nv_set_b0 (k_v C) (nI (1000 + lowN ha 5000))) U_37)) hIV_38) (cwV 1 hts gL_sets_X9_count rfl rfl rfl (by decide +kernel) ⟨Nat.le_of_ble_eq_true rfl, Nat.le_of_ble_eq_true rfl⟩) rfl hl.1 rfl (Nat.le_of_ble_eq_true rfl) dL_sets_192 ⟨Nat.le_of_ble_eq_true rfl, Nat.le_of_ble_eq_true rfl⟩ ?_
              refine lv_iload hx hb dL_sets_195 (lv_at hl 1 rfl) ?_
              refine lv_icmp_ne (tgt := 230) hx hb dL_sets_197 (by decide) (fun c_41 => ?_) (fun c_41 => ?_)
              · exact absurd rfl c_41
              · refine lv_aload_n hx hb dL_sets_200 rfl (lv_at hl 3 rfl) ?_
                refine lv_iconst (v := 0) hx hb dL_sets_201 (by decide) ?_
                refine lv_sipush (v := 999) hx hb dL_sets_202 (by decide) ?_
                refine z_rVi (C := (k_rec C (nv_set_b0 (k_v C) (nI (1000 + lowN ha 5000))) U_37)) (v := -2) (As := [.int 0, .int 999]) (rest := []) ⟨hx, hb, hml, hown, hts⟩ hK hP (rd_s02 l g ct ((k_rec C (nv_set_b0 (k_v C) (nI (1000 + lowN ha 5000))) U_37)) hIV_38 999 (Or.inl (by decide))) (cwV 2 hts gL_sets_X9_set rfl rfl rfl (by decide +kernel) ⟨Nat.le_of_ble_eq_true rfl, Nat.le_of_ble_eq_true rfl⟩) rfl hl.1 rfl (Nat.le_of_ble_eq_true rfl) dL_sets_205 ⟨Nat.le_of_ble_eq_true rfl, Nat.le_of_ble_eq_true rfl⟩ ?_
                refine lv_bipush (v := (-2)) hx hb dL_sets_208 (by decide) ?_
                refine lv_icmp_ne (tgt := 230) hx hb dL_sets_210 (by decide) (fun h => absurd h (by decide)) (fun _ => ?_)
                refine lv_aload_n hx hb dL_sets_213 rfl (lv_at hl 3 rfl) ?_
                refine lv_iconst (v := 2) hx hb dL_sets_214 (by decide) ?_
                refine lv_sipush (v := 1000) hx hb dL_sets_215 (by decide) ?_
                refine z_rVi (C := (k_rec C (nv_set_b0 (k_v C) (nI (1000 + lowN ha 5000))) U_37)) (v := -2) (As := [.int 2, .int 1000]) (rest := []) ⟨hx, hb, hml, hown, hts⟩ hK hP (rd_s22 l g ct ((k_rec C (nv_set_b0 (k_v C) (nI (1000 + lowN ha 5000))) U_37)) hIV_38 1000) (cwV 2 hts gL_sets_X9_set rfl rfl rfl (by decide +kernel) ⟨Nat.le_of_ble_eq_true rfl, Nat.le_of_ble_eq_true rfl⟩) rfl hl.1 rfl (Nat.le_of_ble_eq_true rfl) dL_sets_218 ⟨Nat.le_of_ble_eq_true rfl, Nat.le_of_ble_eq_true rfl⟩ ?_
                refine lv_bipush (v := (-2)) hx hb dL_sets_221 (by decide) ?_
                refine lv_icmp_ne (tgt := 230) hx hb dL_sets_223 (by decide) (fun h => absurd h (by decide)) (fun _ => ?_)
                refine lv_iconst (v := 1) hx hb dL_sets_226 (by decide) ?_
                refine lv_goto (tgt := 231) hx hb dL_sets_227 (by decide) ?_
                exact z_retZ (⟨(k_rec C (nv_set_b0 (k_v C) (nI (1000 + lowN ha 5000))) U_37), Or.inr ⟨_, U_37, iv_m hIV_38 (by omega), Sm_0 _⟩⟩ : {u : CT // Aft C u T}) hx hb hr hlocks rfl rfl hS hP hD (Nat.le_of_ble_eq_true rfl) (Nat.le_of_ble_eq_true rfl) dL_sets_231
          · exact absurd c_39 f_32
      · rw [e1]
        refine lv_istore (lv' := [(4, .int 1), (0, .ref (k_ba C 0)), (1, .int (nI so)), (2, .int ga), (3, .int ha)]) hx hb dL_sets_120 hl (by decide) rfl (fun ls hl => ?_)
        refine lv_iload hx hb dL_sets_122 (lv_at hl 0 rfl) ?_
        refine lv_if_ne (tgt := 141) hx hb dL_sets_124 (by decide) (fun _ => ?_) (fun h => absurd h (by decide))
        refine lv_iload_n hx hb dL_sets_141 rfl (lv_at hl 4 rfl) ?_
        refine lv_sipush (v := 300) hx hb dL_sets_142 (by decide) ?_
        refine z_cSi (v := nI (lowN ha 300)) (As := [.int ha, .int 300]) (rest := []) ⟨hx, hb, hml, hown, hts⟩ (c_L_low l ha 300 (by omega) (by omega)) (va_cwS 2 hts gL_sets_L_low rfl rfl rfl (by decide +kernel) ⟨Nat.le_of_ble_eq_true rfl, Nat.le_of_ble_eq_true rfl⟩) rfl hl.1 rfl (Nat.le_of_ble_eq_true rfl) dL_sets_145 ⟨Nat.le_of_ble_eq_true rfl, Nat.le_of_ble_eq_true rfl⟩ ?_
        refine lv_istore (lv' := [(5, .int (nI (lowN ha 300))), (4, .int 1), (0, .ref (k_ba C 0)), (1, .int (nI so)), (2, .int ga), (3, .int ha)]) hx hb dL_sets_148 hl (by decide) rfl (fun ls hl => ?_)
        refine lv_aload_n hx hb dL_sets_150 rfl (lv_at hl 2 rfl) ?_
        refine lv_bipush (v := 9) hx hb dL_sets_151 (by decide) ?_
        refine lv_iload hx hb dL_sets_153 (lv_at hl 1 rfl) ?_
        refine z_iaddN (x := 9) (y := 1) hx hb dL_sets_155 ?_
        refine z_rVi (C := C) (v := v_lim (k_v C)) (As := [.int (nI 10)]) (rest := []) ⟨hx, hb, hml, hown, hts⟩ hK hP (rd_count_10 l g ct C hIV) (cwV 1 hts gL_sets_X9_count rfl rfl rfl (by decide +kernel) ⟨Nat.le_of_ble_eq_true rfl, Nat.le_of_ble_eq_true rfl⟩) rfl hl.1 rfl (Nat.le_of_ble_eq_true rfl) dL_sets_156 ⟨Nat.le_of_ble_eq_true rfl, Nat.le_of_ble_eq_true rfl⟩ ?_
        refine lv_istore (lv' := [(6, .int (v_lim (k_v C))), (5, .int (nI (lowN ha 300))), (4, .int 1), (0, .ref (k_ba C 0)), (1, .int (nI so)), (2, .int ga), (3, .int ha)]) hx hb dL_sets_159 hl (by decide) rfl (fun ls hl => ?_)
        refine lv_aload_n hx hb dL_sets_161 rfl (lv_at hl 3 rfl) ?_
        refine lv_iload hx hb dL_sets_162 (lv_at hl 2 rfl) ?_
        refine lv_iload hx hb dL_sets_164 (lv_at hl 1 rfl) ?_
        by_cases f_42 : v_lim (k_v C) = (nI (lowN ha 300))
        · refine z_rVi (C := C) (v := -5) (As := [.int 1, .int (nI (lowN ha 300))]) (rest := []) ⟨hx, hb, hml, hown, hts⟩ hK hP (rd_s15 l g ct C hIV (nI (lowN ha 300)) (os_n (lo := 0) (hi := 600) ⟨by omega, by have := lowN_lt ha (show 0 < 300 by omega); omega⟩ (by decide)) f_42) (cwV 2 hts gL_sets_X9_set rfl rfl rfl (by decide +kernel) ⟨Nat.le_of_ble_eq_true rfl, Nat.le_of_ble_eq_true rfl⟩) rfl hl.1 rfl (Nat.le_of_ble_eq_true rfl) dL_sets_166 ⟨Nat.le_of_ble_eq_true rfl, Nat.le_of_ble_eq_true rfl⟩ ?_
          refine lv_iload hx hb dL_sets_169 (lv_at hl 0 rfl) ?_
          refine lv_iload hx hb dL_sets_171 (lv_at hl 1 rfl) ?_
          refine lv_icmp_ne (tgt := 181) hx hb dL_sets_173 (by decide) (fun c_43 => ?_) (fun c_43 => ?_)
          · exact absurd f_42 c_43
          · refine lv_bipush (v := (-5)) hx hb dL_sets_176 (by decide) ?_
            refine lv_goto (tgt := 183) hx hb dL_sets_178 (by decide) ?_
            refine lv_icmp_ne (tgt := 230) hx hb dL_sets_183 (by decide) (fun h => absurd h (by decide)) (fun _ => ?_)
            refine lv_aload_n hx hb dL_sets_186 rfl (lv_at hl 3 rfl) ?_
            refine lv_bipush (v := 9) hx hb dL_sets_187 (by decide) ?_
            refine lv_iload hx hb dL_sets_189 (lv_at hl 2 rfl) ?_
            refine z_iaddN (x := 9) (y := 1) hx hb dL_sets_191 ?_
            refine z_rVi (C := C) (v := v_lim (k_v C)) (As := [.int (nI 10)]) (rest := []) ⟨hx, hb, hml, hown, hts⟩ hK hP (rd_count_10 l g ct C hIV) (cwV 1 hts gL_sets_X9_count rfl rfl rfl (by decide +kernel) ⟨Nat.le_of_ble_eq_true rfl, Nat.le_of_ble_eq_true rfl⟩) rfl hl.1 rfl (Nat.le_of_ble_eq_true rfl) dL_sets_192 ⟨Nat.le_of_ble_eq_true rfl, Nat.le_of_ble_eq_true rfl⟩ ?_
            refine lv_iload hx hb dL_sets_195 (lv_at hl 1 rfl) ?_
            refine lv_icmp_ne (tgt := 230) hx hb dL_sets_197 (by decide) (fun c_44 => ?_) (fun c_44 => ?_)
            · exact absurd f_42 c_44
            · refine lv_aload_n hx hb dL_sets_200 rfl (lv_at hl 3 rfl) ?_
              refine lv_iconst (v := 0) hx hb dL_sets_201 (by decide) ?_
              refine lv_sipush (v := 999) hx hb dL_sets_202 (by decide) ?_
              refine z_rVi (C := C) (v := -2) (As := [.int 0, .int 999]) (rest := []) ⟨hx, hb, hml, hown, hts⟩ hK hP (rd_s02 l g ct C hIV 999 (Or.inl (by decide))) (cwV 2 hts gL_sets_X9_set rfl rfl rfl (by decide +kernel) ⟨Nat.le_of_ble_eq_true rfl, Nat.le_of_ble_eq_true rfl⟩) rfl hl.1 rfl (Nat.le_of_ble_eq_true rfl) dL_sets_205 ⟨Nat.le_of_ble_eq_true rfl, Nat.le_of_ble_eq_true rfl⟩ ?_
              refine lv_bipush (v := (-2)) hx hb dL_sets_208 (by decide) ?_
              refine lv_icmp_ne (tgt := 230) hx hb dL_sets_210 (by decide) (fun h => absurd h (by decide)) (fun _ => ?_)
              refine lv_aload_n hx hb dL_sets_213 rfl (lv_at hl 3 rfl) ?_
              refine lv_iconst (v := 2) hx hb dL_sets_214 (by decide) ?_
              refine lv_sipush (v := 1000) hx hb dL_sets_215 (by decide) ?_
              refine z_rVi (C := C) (v := -2) (As := [.int 2, .int 1000]) (rest := []) ⟨hx, hb, hml, hown, hts⟩ hK hP (rd_s22 l g ct C hIV 1000) (cwV 2 hts gL_sets_X9_set rfl rfl rfl (by decide +kernel) ⟨Nat.le_of_ble_eq_true rfl, Nat.le_of_ble_eq_true rfl⟩) rfl hl.1 rfl (Nat.le_of_ble_eq_true rfl) dL_sets_218 ⟨Nat.le_of_ble_eq_true rfl, Nat.le_of_ble_eq_true rfl⟩ ?_
              refine lv_bipush (v := (-2)) hx hb dL_sets_221 (by decide) ?_
              refine lv_icmp_ne (tgt := 230) hx hb dL_sets_223 (by decide) (fun h => absurd h (by decide)) (fun _ => ?_)
              refine lv_iconst (v := 1) hx hb dL_sets_226 (by decide) ?_
              refine lv_goto (tgt := 231) hx hb dL_sets_227 (by decide) ?_
              exact z_retZ (⟨C, Or.inl (Sm_0 C)⟩ : {u : CT // Aft C u T}) hx hb hr hlocks rfl rfl hS hP hD (Nat.le_of_ble_eq_true rfl) (Nat.le_of_ble_eq_true rfl) dL_sets_231
        · refine z_oVi (C := C) (K := fun u => ∃ U, u = k_rec C (nv_set_b1 (k_v C) (nI (lowN ha 300))) U) (v := v_lim (k_v C)) (As := [.int 1, .int (nI (lowN ha 300))]) (rest := []) ⟨hx, hb, hml, hown, hts⟩ hK hP hD hS hNW hA (ac_set_b1 l g ct _ C hC.2.1 hC.2.2.1 (iv_01 hIV) (nI (lowN ha 300)) ⟨(os_n (lo := 0) (hi := 600) ⟨by omega, by have := lowN_lt ha (show 0 < 300 by omega); omega⟩ (by decide)), f_42⟩) (cwV 2 hts gL_sets_X9_set rfl rfl rfl (by decide +kernel) ⟨Nat.le_of_ble_eq_true rfl, Nat.le_of_ble_eq_true rfl⟩) rfl hl.1 rfl (Nat.le_of_ble_eq_true rfl) dL_sets_166 ⟨Nat.le_of_ble_eq_true rfl, Nat.le_of_ble_eq_true rfl⟩ (fun u_45 H locs hu_46 hP hD hS => ?_)
          obtain ⟨U_47, rfl⟩ := hu_46
          have hIV_48 : IV (nv_set_b1 (k_v C) (nI (lowN ha 300))) _ := iv_set1 hIV (os_n (lo := 0) (hi := 600) ⟨by omega, by have := lowN_lt ha (show 0 < 300 by omega); omega⟩ (by decide))
          refine lv_iload hx hb dL_sets_169 (lv_at hl 0 rfl) ?_
          refine lv_iload hx hb dL_sets_171 (lv_at hl 1 rfl) ?_
          refine lv_icmp_ne (tgt := 181) hx hb dL_sets_173 (by decide) (fun c_49 => ?_) (fun c_49 => ?_)
          · refine lv_iload hx hb dL_sets_181 (lv_at hl 0 rfl) ?_
            refine lv_icmp_ne (tgt := 230) hx hb dL_sets_183 (by decide) (fun c_50 => ?_) (fun c_50 => ?_)
            · exact absurd rfl c_50
            · refine lv_aload_n hx hb dL_sets_186 rfl (lv_at hl 3 rfl) ?_
              refine lv_bipush (v := 9) hx hb dL_sets_187 (by decide) ?_
              refine lv_iload hx hb dL_sets_189 (lv_at hl 2 rfl) ?_
              refine z_iaddN (x := 9) (y := 1) hx hb dL_sets_191 ?_
              refine z_rVi (C := (k_rec C (nv_set_b1 (k_v C) (nI (lowN ha 300))) U_47)) (v := nI (lowN ha 300)) (As := [.int (nI 10)]) (rest := []) ⟨hx, hb, hml, hown, hts⟩ hK hP (rd_count_10 l g ct ((k_rec C (nv_set_b1 (k_v C) (nI (lowN ha 300))) U_47)) hIV_48) (cwV 1 hts gL_sets_X9_count rfl rfl rfl (by decide +kernel) ⟨Nat.le_of_ble_eq_true rfl, Nat.le_of_ble_eq_true rfl⟩) rfl hl.1 rfl (Nat.le_of_ble_eq_true rfl) dL_sets_192 ⟨Nat.le_of_ble_eq_true rfl, Nat.le_of_ble_eq_true rfl⟩ ?_
              refine lv_iload hx hb dL_sets_195 (lv_at hl 1 rfl) ?_
              refine lv_icmp_ne (tgt := 230) hx hb dL_sets_197 (by decide) (fun c_51 => ?_) (fun c_51 => ?_)
              · exact absurd rfl c_51
              · refine lv_aload_n hx hb dL_sets_200 rfl (lv_at hl 3 rfl) ?_
                refine lv_iconst (v := 0) hx hb dL_sets_201 (by decide) ?_
                refine lv_sipush (v := 999) hx hb dL_sets_202 (by decide) ?_
                refine z_rVi (C := (k_rec C (nv_set_b1 (k_v C) (nI (lowN ha 300))) U_47)) (v := -2) (As := [.int 0, .int 999]) (rest := []) ⟨hx, hb, hml, hown, hts⟩ hK hP (rd_s02 l g ct ((k_rec C (nv_set_b1 (k_v C) (nI (lowN ha 300))) U_47)) hIV_48 999 (Or.inl (by decide))) (cwV 2 hts gL_sets_X9_set rfl rfl rfl (by decide +kernel) ⟨Nat.le_of_ble_eq_true rfl, Nat.le_of_ble_eq_true rfl⟩) rfl hl.1 rfl (Nat.le_of_ble_eq_true rfl) dL_sets_205 ⟨Nat.le_of_ble_eq_true rfl, Nat.le_of_ble_eq_true rfl⟩ ?_
                refine lv_bipush (v := (-2)) hx hb dL_sets_208 (by decide) ?_
                refine lv_icmp_ne (tgt := 230) hx hb dL_sets_210 (by decide) (fun h => absurd h (by decide)) (fun _ => ?_)
                refine lv_aload_n hx hb dL_sets_213 rfl (lv_at hl 3 rfl) ?_
                refine lv_iconst (v := 2) hx hb dL_sets_214 (by decide) ?_
                refine lv_sipush (v := 1000) hx hb dL_sets_215 (by decide) ?_
                refine z_rVi (C := (k_rec C (nv_set_b1 (k_v C) (nI (lowN ha 300))) U_47)) (v := -2) (As := [.int 2, .int 1000]) (rest := []) ⟨hx, hb, hml, hown, hts⟩ hK hP (rd_s22 l g ct ((k_rec C (nv_set_b1 (k_v C) (nI (lowN ha 300))) U_47)) hIV_48 1000) (cwV 2 hts gL_sets_X9_set rfl rfl rfl (by decide +kernel) ⟨Nat.le_of_ble_eq_true rfl, Nat.le_of_ble_eq_true rfl⟩) rfl hl.1 rfl (Nat.le_of_ble_eq_true rfl) dL_sets_218 ⟨Nat.le_of_ble_eq_true rfl, Nat.le_of_ble_eq_true rfl⟩ ?_
                refine lv_bipush (v := (-2)) hx hb dL_sets_221 (by decide) ?_
                refine lv_icmp_ne (tgt := 230) hx hb dL_sets_223 (by decide) (fun h => absurd h (by decide)) (fun _ => ?_)
                refine lv_iconst (v := 1) hx hb dL_sets_226 (by decide) ?_
                refine lv_goto (tgt := 231) hx hb dL_sets_227 (by decide) ?_
                exact z_retZ (⟨(k_rec C (nv_set_b1 (k_v C) (nI (lowN ha 300))) U_47), Or.inr ⟨_, U_47, iv_m hIV_48 (by omega), Sm_0 _⟩⟩ : {u : CT // Aft C u T}) hx hb hr hlocks rfl rfl hS hP hD (Nat.le_of_ble_eq_true rfl) (Nat.le_of_ble_eq_true rfl) dL_sets_231
          · exact absurd c_49 f_42
  · refine lv_iload_n hx hb dL_sets_5 rfl (lv_at hl 2 rfl) ?_
    refine lv_bipush (v := 24) hx hb dL_sets_6 (by decide) ?_
    refine z_cSi (v := nI (lowN ga 24)) (As := [.int ga, .int 24]) (rest := []) ⟨hx, hb, hml, hown, hts⟩ (c_L_low l ga 24 (by omega) (by omega)) (va_cwS 2 hts gL_sets_L_low rfl rfl rfl (by decide +kernel) ⟨Nat.le_of_ble_eq_true rfl, Nat.le_of_ble_eq_true rfl⟩) rfl hl.1 rfl (Nat.le_of_ble_eq_true rfl) dL_sets_8 ⟨Nat.le_of_ble_eq_true rfl, Nat.le_of_ble_eq_true rfl⟩ ?_
    refine lv_istore (lv' := [(4, .int (nI (lowN ga 24))), (0, .ref (k_ba C 0)), (1, .int (nI so)), (2, .int ga), (3, .int ha)]) hx hb dL_sets_11 hl (by decide) rfl (fun ls hl => ?_)
    refine lv_aload_n hx hb dL_sets_13 rfl (lv_at hl 1 rfl) ?_
    refine lv_iload hx hb dL_sets_14 (lv_at hl 0 rfl) ?_
    refine z_rVl (C := C) (v := v_td (k_v C) (lowN ga 24)) (As := [.int (nI (lowN ga 24))]) (rest := []) ⟨hx, hb, hml, hown, hts⟩ hK hP (rd_tide_a l g ct C (lowN ga 24) (lowN_lt _ (by omega))) (cwV 1 hts gL_sets_X9_tide rfl rfl rfl (by decide +kernel) ⟨Nat.le_of_ble_eq_true rfl, Nat.le_of_ble_eq_true rfl⟩) rfl hl.1 rfl (Nat.le_of_ble_eq_true rfl) dL_sets_16 ⟨Nat.le_of_ble_eq_true rfl, Nat.le_of_ble_eq_true rfl⟩ ?_
    refine lv_lstore (lv' := [(5, .long (v_td (k_v C) (lowN ga 24))), (4, .int (nI (lowN ga 24))), (0, .ref (k_ba C 0)), (1, .int (nI so)), (2, .int ga), (3, .int ha)]) hx hb dL_sets_19 hl (by decide) rfl (fun ls hl => ?_)
    refine lv_iload_n hx hb dL_sets_21 rfl (lv_at hl 5 rfl) ?_
    refine lv_bipush (v := 6) hx hb dL_sets_22 (by decide) ?_
    refine z_cSi (v := nI (lowN ha 6)) (As := [.int ha, .int 6]) (rest := []) ⟨hx, hb, hml, hown, hts⟩ (c_L_low l ha 6 (by omega) (by omega)) (va_cwS 2 hts gL_sets_L_low rfl rfl rfl (by decide +kernel) ⟨Nat.le_of_ble_eq_true rfl, Nat.le_of_ble_eq_true rfl⟩) rfl hl.1 rfl (Nat.le_of_ble_eq_true rfl) dL_sets_24 ⟨Nat.le_of_ble_eq_true rfl, Nat.le_of_ble_eq_true rfl⟩ ?_
    refine z_cSl (v := btS (lowN ha 6)) (As := [.int (nI (lowN ha 6))]) (rest := []) ⟨hx, hb, hml, hown, hts⟩ (c_L_bits l (lowN ha 6) (lowN_lt _ (by omega))) (va_cwS 1 hts gL_sets_L_bits rfl rfl rfl (by decide +kernel) ⟨Nat.le_of_ble_eq_true rfl, Nat.le_of_ble_eq_true rfl⟩) rfl hl.1 rfl (Nat.le_of_ble_eq_true rfl) dL_sets_27 ⟨Nat.le_of_ble_eq_true rfl, Nat.le_of_ble_eq_true rfl⟩ ?_
    refine lv_lstore (lv' := [(7, .long (btS (lowN ha 6))), (5, .long (v_td (k_v C) (lowN ga 24))), (4, .int (nI (lowN ga 24))), (0, .ref (k_ba C 0)), (1, .int (nI so)), (2, .int ga), (3, .int ha)]) hx hb dL_sets_30 hl (by decide) rfl (fun ls hl => ?_)
    refine lv_aload_n hx hb dL_sets_32 rfl (lv_at hl 3 rfl) ?_
    refine lv_iload hx hb dL_sets_33 (lv_at hl 2 rfl) ?_
    refine lv_lload hx hb dL_sets_35 (lv_at hl 0 rfl) ?_
    by_cases f_52 : v_td (k_v C) (lowN ga 24) = btS (lowN ha 6)
    · refine z_rVi (C := C) (v := -5) (As := [.int (nI (lowN ga 24)), .long (btS (lowN ha 6))]) (rest := []) ⟨hx, hb, hml, hown, hts⟩ hK hP (rd_st5 l g ct C hIV (lowN ga 24) (lowN_lt _ (by omega)) (btS (lowN ha 6)) (lvS_ok (btS_lv _)) (Or.inl f_52.symm)) (cwV 2 hts gL_sets_X9_setTide rfl rfl rfl (by decide +kernel) ⟨Nat.le_of_ble_eq_true rfl, Nat.le_of_ble_eq_true rfl⟩) rfl hl.1 rfl (Nat.le_of_ble_eq_true rfl) dL_sets_37 ⟨Nat.le_of_ble_eq_true rfl, Nat.le_of_ble_eq_true rfl⟩ ?_
      refine lv_lload hx hb dL_sets_40 (lv_at hl 1 rfl) ?_
      refine lv_lload hx hb dL_sets_42 (lv_at hl 0 rfl) ?_
      refine z_lif_ne (tgt := 53) hx hb dL_sets_44 dL_sets_45 (by decide) (fun c_53 => ?_) (fun c_53 => ?_)
      · exact absurd f_52 c_53
      · refine lv_bipush (v := (-5)) hx hb dL_sets_48 (by decide) ?_
        refine lv_goto (tgt := 54) hx hb dL_sets_50 (by decide) ?_
        refine lv_icmp_ne (tgt := 110) hx hb dL_sets_54 (by decide) (fun h => absurd h (by decide)) (fun _ => ?_)
        refine lv_aload_n hx hb dL_sets_57 rfl (lv_at hl 3 rfl) ?_
        refine lv_iload hx hb dL_sets_58 (lv_at hl 2 rfl) ?_
        refine z_rVl (C := C) (v := v_td (k_v C) (lowN ga 24)) (As := [.int (nI (lowN ga 24))]) (rest := []) ⟨hx, hb, hml, hown, hts⟩ hK hP (rd_tide_a l g ct C (lowN ga 24) (lowN_lt _ (by omega))) (cwV 1 hts gL_sets_X9_tide rfl rfl rfl (by decide +kernel) ⟨Nat.le_of_ble_eq_true rfl, Nat.le_of_ble_eq_true rfl⟩) rfl hl.1 rfl (Nat.le_of_ble_eq_true rfl) dL_sets_60 ⟨Nat.le_of_ble_eq_true rfl, Nat.le_of_ble_eq_true rfl⟩ ?_
        refine lv_lload hx hb dL_sets_63 (lv_at hl 0 rfl) ?_
        refine z_lif_ne (tgt := 110) hx hb dL_sets_65 dL_sets_66 (by decide) (fun c_54 => ?_) (fun c_54 => ?_)
        · exact absurd f_52 c_54
        · refine lv_aload_n hx hb dL_sets_69 rfl (lv_at hl 3 rfl) ?_
          refine lv_bipush (v := 24) hx hb dL_sets_70 (by decide) ?_
          refine lv_lconst (v := 0) hx hb dL_sets_72 (by decide) ?_
          refine z_rVi (C := C) (v := -2) (As := [.int 24, .long 0]) (rest := []) ⟨hx, hb, hml, hown, hts⟩ hK hP (rd_setTide_u l g ct C 24 0 (fun q => absurd q.1 (by decide))) (cwV 2 hts gL_sets_X9_setTide rfl rfl rfl (by decide +kernel) ⟨Nat.le_of_ble_eq_true rfl, Nat.le_of_ble_eq_true rfl⟩) rfl hl.1 rfl (Nat.le_of_ble_eq_true rfl) dL_sets_73 ⟨Nat.le_of_ble_eq_true rfl, Nat.le_of_ble_eq_true rfl⟩ ?_
          refine lv_bipush (v := (-2)) hx hb dL_sets_76 (by decide) ?_
          refine lv_icmp_ne (tgt := 110) hx hb dL_sets_78 (by decide) (fun h => absurd h (by decide)) (fun _ => ?_)
          refine lv_aload_n hx hb dL_sets_81 rfl (lv_at hl 3 rfl) ?_
          refine lv_iconst (v := 0) hx hb dL_sets_82 (by decide) ?_
          refine lv_ldc2 (v := 9221120237041090560) hx hb hown (hts (.constantLong RL 65 (9221120237041090560)) (List.mem_of_getElem? (i := 1) rfl)) dL_sets_83 ?_
          refine z_rVi (C := C) (v := -2) (As := [.int 0, .long 9221120237041090560]) (rest := []) ⟨hx, hb, hml, hown, hts⟩ hK hP (rd_setTide_u l g ct C 0 9221120237041090560 (fun q => absurd q.2 (by decide +kernel))) (cwV 2 hts gL_sets_X9_setTide rfl rfl rfl (by decide +kernel) ⟨Nat.le_of_ble_eq_true rfl, Nat.le_of_ble_eq_true rfl⟩) rfl hl.1 rfl (Nat.le_of_ble_eq_true rfl) dL_sets_86 ⟨Nat.le_of_ble_eq_true rfl, Nat.le_of_ble_eq_true rfl⟩ ?_
          refine lv_bipush (v := (-2)) hx hb dL_sets_89 (by decide) ?_
          refine lv_icmp_ne (tgt := 110) hx hb dL_sets_91 (by decide) (fun h => absurd h (by decide)) (fun _ => ?_)
          refine lv_aload_n hx hb dL_sets_94 rfl (lv_at hl 3 rfl) ?_
          refine lv_iconst (v := (-1)) hx hb dL_sets_95 (by decide) ?_
          refine z_rVl (C := C) (v := -2) (As := [.int ((-1))]) (rest := []) ⟨hx, hb, hml, hown, hts⟩ hK hP (rd_tide_u l g ct C (-1) (by decide)) (cwV 1 hts gL_sets_X9_tide rfl rfl rfl (by decide +kernel) ⟨Nat.le_of_ble_eq_true rfl, Nat.le_of_ble_eq_true rfl⟩) rfl hl.1 rfl (Nat.le_of_ble_eq_true rfl) dL_sets_96 ⟨Nat.le_of_ble_eq_true rfl, Nat.le_of_ble_eq_true rfl⟩ ?_
          refine lv_ldc2 (v := (-2)) hx hb hown (hts (.constantLong RL 44 (-2)) (List.mem_of_getElem? (i := 2) rfl)) dL_sets_99 ?_
          refine z_lif_ne (tgt := 110) hx hb dL_sets_102 dL_sets_103 (by decide) (fun c_55 => ?_) (fun c_55 => ?_)
          · exact absurd rfl c_55
          · refine lv_iconst (v := 1) hx hb dL_sets_106 (by decide) ?_
            refine lv_goto (tgt := 111) hx hb dL_sets_107 (by decide) ?_
            exact z_retZ (⟨C, Or.inl (Sm_0 C)⟩ : {u : CT // Aft C u T}) hx hb hr hlocks rfl rfl hS hP hD (Nat.le_of_ble_eq_true rfl) (Nat.le_of_ble_eq_true rfl) dL_sets_111
    · refine z_oVi (C := C) (K := fun u => ∃ U, u = k_rec C (nv_setTide_b (k_v C) (lowN ga 24) (btS (lowN ha 6))) U) (v := 1) (As := [.int (nI (lowN ga 24)), .long (btS (lowN ha 6))]) (rest := []) ⟨hx, hb, hml, hown, hts⟩ hK hP hD hS hNW hA (ac_setTide_b l g ct _ C hC.2.1 hC.2.2.1 (iv_01 hIV) (lowN ga 24) (lowN_lt _ (by omega)) (btS (lowN ha 6)) ⟨(lvS_ok (btS_lv _)), (fun q => f_52 ((sm_eq (btS_lv _) (iv_tdS hIV _ (lowN_lt _ (by omega)))).mp q).symm)⟩) (cwV 2 hts gL_sets_X9_setTide rfl rfl rfl (by decide +kernel) ⟨Nat.le_of_ble_eq_true rfl, Nat.le_of_ble_eq_true rfl⟩) rfl hl.1 rfl (Nat.le_of_ble_eq_true rfl) dL_sets_37 ⟨Nat.le_of_ble_eq_true rfl, Nat.le_of_ble_eq_true rfl⟩ (fun u_56 H locs hu_57 hP hD hS => ?_)
      obtain ⟨U_58, rfl⟩ := hu_57
      have hIV_59 : IV (nv_setTide_b (k_v C) (lowN ga 24) (btS (lowN ha 6))) _ := iv_setTide hIV (btS_lv _)
      refine lv_lload hx hb dL_sets_40 (lv_at hl 1 rfl) ?_
      refine lv_lload hx hb dL_sets_42 (lv_at hl 0 rfl) ?_
      refine z_lif_ne (tgt := 53) hx hb dL_sets_44 dL_sets_45 (by decide) (fun c_60 => ?_) (fun c_60 => ?_)
      · refine lv_iconst (v := 1) hx hb dL_sets_53 (by decide) ?_
        refine lv_icmp_ne (tgt := 110) hx hb dL_sets_54 (by decide) (fun h => absurd h (by decide)) (fun _ => ?_)
        refine lv_aload_n hx hb dL_sets_57 rfl (lv_at hl 3 rfl) ?_
        refine lv_iload hx hb dL_sets_58 (lv_at hl 2 rfl) ?_
        refine z_rVl (C := (k_rec C (nv_setTide_b (k_v C) (lowN ga 24) (btS (lowN ha 6))) U_58)) (v := vp_updL (v_td (k_v C)) (lowN ga 24) (btS (lowN ha 6)) (lowN ga 24)) (As := [.int (nI (lowN ga 24))]) (rest := []) ⟨hx, hb, hml, hown, hts⟩ hK hP (rd_tide_a l g ct ((k_rec C (nv_setTide_b (k_v C) (lowN ga 24) (btS (lowN ha 6))) U_58)) (lowN ga 24) (lowN_lt _ (by omega))) (cwV 1 hts gL_sets_X9_tide rfl rfl rfl (by decide +kernel) ⟨Nat.le_of_ble_eq_true rfl, Nat.le_of_ble_eq_true rfl⟩) rfl hl.1 rfl (Nat.le_of_ble_eq_true rfl) dL_sets_60 ⟨Nat.le_of_ble_eq_true rfl, Nat.le_of_ble_eq_true rfl⟩ ?_
        refine lv_lload hx hb dL_sets_63 (lv_at hl 0 rfl) ?_
        refine z_lif_ne (tgt := 110) hx hb dL_sets_65 dL_sets_66 (by decide) (fun c_61 => ?_) (fun c_61 => ?_)
        · exact absurd pk_uLs c_61
        · refine lv_aload_n hx hb dL_sets_69 rfl (lv_at hl 3 rfl) ?_
          refine lv_bipush (v := 24) hx hb dL_sets_70 (by decide) ?_
          refine lv_lconst (v := 0) hx hb dL_sets_72 (by decide) ?_
          refine z_rVi (C := (k_rec C (nv_setTide_b (k_v C) (lowN ga 24) (btS (lowN ha 6))) U_58)) (v := -2) (As := [.int 24, .long 0]) (rest := []) ⟨hx, hb, hml, hown, hts⟩ hK hP (rd_setTide_u l g ct ((k_rec C (nv_setTide_b (k_v C) (lowN ga 24) (btS (lowN ha 6))) U_58)) 24 0 (fun q => absurd q.1 (by decide))) (cwV 2 hts gL_sets_X9_setTide rfl rfl rfl (by decide +kernel) ⟨Nat.le_of_ble_eq_true rfl, Nat.le_of_ble_eq_true rfl⟩) rfl hl.1 rfl (Nat.le_of_ble_eq_true rfl) dL_sets_73 ⟨Nat.le_of_ble_eq_true rfl, Nat.le_of_ble_eq_true rfl⟩ ?_
          refine lv_bipush (v := (-2)) hx hb dL_sets_76 (by decide) ?_
          refine lv_icmp_ne (tgt := 110) hx hb dL_sets_78 (by decide) (fun h => absurd h (by decide)) (fun _ => ?_)
          refine lv_aload_n hx hb dL_sets_81 rfl (lv_at hl 3 rfl) ?_
          refine lv_iconst (v := 0) hx hb dL_sets_82 (by decide) ?_
          refine lv_ldc2 (v := 9221120237041090560) hx hb hown (hts (.constantLong RL 65 (9221120237041090560)) (List.mem_of_getElem? (i := 1) rfl)) dL_sets_83 ?_
          refine z_rVi (C := (k_rec C (nv_setTide_b (k_v C) (lowN ga 24) (btS (lowN ha 6))) U_58)) (v := -2) (As := [.int 0, .long 9221120237041090560]) (rest := []) ⟨hx, hb, hml, hown, hts⟩ hK hP (rd_setTide_u l g ct ((k_rec C (nv_setTide_b (k_v C) (lowN ga 24) (btS (lowN ha 6))) U_58)) 0 9221120237041090560 (fun q => absurd q.2 (by decide +kernel))) (cwV 2 hts gL_sets_X9_setTide rfl rfl rfl (by decide +kernel) ⟨Nat.le_of_ble_eq_true rfl, Nat.le_of_ble_eq_true rfl⟩) rfl hl.1 rfl (Nat.le_of_ble_eq_true rfl) dL_sets_86 ⟨Nat.le_of_ble_eq_true rfl, Nat.le_of_ble_eq_true rfl⟩ ?_
          refine lv_bipush (v := (-2)) hx hb dL_sets_89 (by decide) ?_
          refine lv_icmp_ne (tgt := 110) hx hb dL_sets_91 (by decide) (fun h => absurd h (by decide)) (fun _ => ?_)
          refine lv_aload_n hx hb dL_sets_94 rfl (lv_at hl 3 rfl) ?_
          refine lv_iconst (v := (-1)) hx hb dL_sets_95 (by decide) ?_
          refine z_rVl (C := (k_rec C (nv_setTide_b (k_v C) (lowN ga 24) (btS (lowN ha 6))) U_58)) (v := -2) (As := [.int ((-1))]) (rest := []) ⟨hx, hb, hml, hown, hts⟩ hK hP (rd_tide_u l g ct ((k_rec C (nv_setTide_b (k_v C) (lowN ga 24) (btS (lowN ha 6))) U_58)) (-1) (by decide)) (cwV 1 hts gL_sets_X9_tide rfl rfl rfl (by decide +kernel) ⟨Nat.le_of_ble_eq_true rfl, Nat.le_of_ble_eq_true rfl⟩) rfl hl.1 rfl (Nat.le_of_ble_eq_true rfl) dL_sets_96 ⟨Nat.le_of_ble_eq_true rfl, Nat.le_of_ble_eq_true rfl⟩ ?_
          refine lv_ldc2 (v := (-2)) hx hb hown (hts (.constantLong RL 44 (-2)) (List.mem_of_getElem? (i := 2) rfl)) dL_sets_99 ?_
          refine z_lif_ne (tgt := 110) hx hb dL_sets_102 dL_sets_103 (by decide) (fun c_62 => ?_) (fun c_62 => ?_)
          · exact absurd rfl c_62
          · refine lv_iconst (v := 1) hx hb dL_sets_106 (by decide) ?_
            refine lv_goto (tgt := 111) hx hb dL_sets_107 (by decide) ?_
            exact z_retZ (⟨(k_rec C (nv_setTide_b (k_v C) (lowN ga 24) (btS (lowN ha 6))) U_58), Or.inr ⟨_, U_58, iv_m hIV_59 (by omega), Sm_0 _⟩⟩ : {u : CT // Aft C u T}) hx hb hr hlocks rfl rfl hS hP hD (Nat.le_of_ble_eq_true rfl) (Nat.le_of_ble_eq_true rfl) dL_sets_111
      · exact absurd c_60 f_52
