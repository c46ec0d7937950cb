set_option maxHeartbeats 4000000 in
set_option maxRecDepth 100000 in
theorem c_L_adds (l : Launch) (g : va_G) (ct : Nat → ClassId) (sz : Nat) (C : CT) {T : Nat} (hC : CK C T) (hT : T + 1 ≤ 100) (so : Nat) (hso : so < 4) (ga ha : Int32) : Met l yL_adds wsL_adds (zRc 5 21 158 120) (va_Pc [.ref (k_ba C 0), .int (nI so), .int ga, .int ha] (zW g ct (CW ct C) sz)) (zEi (S := {u : CT // Aft C u T}) g (fun u => CW ct u.1) 1 (va_A (CW ct C) sz)) 21 158 (va_A (CW ct C) sz) := by
  refine z_write (QA := zEi (S := {u : CT // Aft C u T}) g (fun u => CW ct u.1) 1) (cc := cL_adds) (maxL := 7) (ret := some .boolean) (by decide) rfl (Nat.le_of_ble_eq_true rfl) ?_
  intro p e s m below meth c ls A hx hb hr hml hts hown hlocks hin hP hK hD hNW hA hS hl
  have hown : s.vm.findClass RL = some m.cls := hown
  have hl : lv_has ls 7 [(0, .ref (k_ba C 0)), (1, .int (nI so)), (2, .int ga), (3, .int ha)] := hl
  have hIV := hC.1
  have hnS := iv_nS hIV
  have hnD := iv_nD hIV
  have hnT := iv_nT hIV
  have hnP := iv_nP hIV
  refine lv_iload_n hx hb dL_adds_0 rfl (lv_at hl 1 rfl) ?_
  refine z_ifN_ne (x := so) (tgt := 185) hx hb (by omega) dL_adds_1 (by decide) (fun c_1 => ?_) (fun c_1 => ?_)
  · refine lv_iload_n hx hb dL_adds_185 rfl (lv_at hl 1 rfl) ?_
    refine lv_iconst (v := 1) hx hb dL_adds_186 (by decide) ?_
    refine z_icN_ne (x := so) (y := 1) (tgt := 282) hx hb (by omega) (by omega) dL_adds_187 (by decide) (fun c_2 => ?_) (fun c_2 => ?_)
    · refine lv_iload_n hx hb dL_adds_282 rfl (lv_at hl 1 rfl) ?_
      refine lv_iconst (v := 2) hx hb dL_adds_283 (by decide) ?_
      refine z_icN_ne (x := so) (y := 2) (tgt := 338) hx hb (by omega) (by omega) dL_adds_284 (by decide) (fun c_3 => ?_) (fun c_3 => ?_)
      · refine lv_aload_n hx hb dL_adds_338 rfl (lv_at hl 0 rfl) ?_
        refine lv_bipush (v := 14) hx hb dL_adds_339 (by decide) ?_
        refine z_rVi (C := C) (v := nI (v_nP (k_v C))) (As := [.int 14]) (rest := []) ⟨hx, hb, hml, hown, hts⟩ hK hP (rd_count_14 l g ct C hIV) (cwV 1 hts gL_adds_X9_count rfl rfl rfl (by decide +kernel) ⟨Nat.le_of_ble_eq_true rfl, Nat.le_of_ble_eq_true rfl⟩) rfl hl.1 rfl (Nat.le_of_ble_eq_true rfl) dL_adds_341 ⟨Nat.le_of_ble_eq_true rfl, Nat.le_of_ble_eq_true rfl⟩ ?_
        refine lv_istore (lv' := [(4, .int (nI (v_nP (k_v C)))), (0, .ref (k_ba C 0)), (1, .int (nI so)), (2, .int ga), (3, .int ha)]) hx hb dL_adds_344 hl (by decide) rfl (fun ls hl => ?_)
        refine lv_aload_n hx hb dL_adds_346 rfl (lv_at hl 1 rfl) ?_
        refine lv_iconst (v := 1) hx hb dL_adds_347 (by decide) ?_
        refine lv_iload_n hx hb dL_adds_348 rfl (lv_at hl 3 rfl) ?_
        refine lv_bipush (v := 99) hx hb dL_adds_349 (by decide) ?_
        refine z_cSi (v := nI (lowN ga 99)) (As := [.int ga, .int 99]) (rest := [.int 1, .ref (k_ba C 0)]) ⟨hx, hb, hml, hown, hts⟩ (c_L_low l ga 99 (by omega) (by omega)) (va_cwS 2 hts gL_adds_L_low rfl rfl rfl (by decide +kernel) ⟨Nat.le_of_ble_eq_true rfl, Nat.le_of_ble_eq_true rfl⟩) rfl hl.1 rfl (Nat.le_of_ble_eq_true rfl) dL_adds_351 ⟨Nat.le_of_ble_eq_true rfl, Nat.le_of_ble_eq_true rfl⟩ ?_
        refine z_iaddN (x := 1) (y := (lowN ga 99)) hx hb dL_adds_354 ?_
        refine lv_iconst (v := 1) hx hb dL_adds_355 (by decide) ?_
        refine lv_iload_n hx hb dL_adds_356 rfl (lv_at hl 4 rfl) ?_
        refine lv_sipush (v := 9000) hx hb dL_adds_357 (by decide) ?_
        refine z_cSi (v := nI (lowN ha 9000)) (As := [.int ha, .int 9000]) (rest := [.int 1, .int (nI (1 + (lowN ga 99))), .ref (k_ba C 0)]) ⟨hx, hb, hml, hown, hts⟩ (c_L_low l ha 9000 (by omega) (by omega)) (va_cwS 2 hts gL_adds_L_low rfl rfl rfl (by decide +kernel) ⟨Nat.le_of_ble_eq_true rfl, Nat.le_of_ble_eq_true rfl⟩) rfl hl.1 rfl (Nat.le_of_ble_eq_true rfl) dL_adds_360 ⟨Nat.le_of_ble_eq_true rfl, Nat.le_of_ble_eq_true rfl⟩ ?_
        refine z_iaddN (x := 1) (y := (lowN ha 9000)) hx hb dL_adds_363 ?_
        by_cases f_4 : v_nP (k_v C) = 6
        · refine z_rVi (C := C) (v := -3) (As := [.int (nI (1 + (lowN ga 99))), .int (nI (1 + (lowN ha 9000)))]) (rest := []) ⟨hx, hb, hml, hown, hts⟩ hK hP (rd_ap3 l g ct C hIV (nI (1 + lowN ga 99)) (nI (1 + lowN ha 9000)) (fun q => q.elim (low_in (lo := 1) (hi := 99) (by omega) (by omega) (by omega) (by omega)) (low_in (lo := 1) (hi := 99999) (by omega) (by omega) (by omega) (by omega))) (by omega)) (cwV 2 hts gL_adds_X9_addPump rfl rfl rfl (by decide +kernel) ⟨Nat.le_of_ble_eq_true rfl, Nat.le_of_ble_eq_true rfl⟩) rfl hl.1 rfl (Nat.le_of_ble_eq_true rfl) dL_adds_364 ⟨Nat.le_of_ble_eq_true rfl, Nat.le_of_ble_eq_true rfl⟩ ?_
          refine lv_iload hx hb dL_adds_367 (lv_at hl 0 rfl) ?_
          refine lv_bipush (v := 6) hx hb dL_adds_369 (by decide) ?_
          refine z_icN_ne (x := (v_nP (k_v C))) (y := 6) (tgt := 379) hx hb (by omega) (by omega) dL_adds_371 (by decide) (fun c_5 => ?_) (fun c_5 => ?_)
          · exact absurd f_4 c_5
          · refine lv_bipush (v := (-3)) hx hb dL_adds_374 (by decide) ?_
            refine lv_goto (tgt := 381) hx hb dL_adds_376 (by decide) ?_
            refine lv_icmp_ne (tgt := 400) hx hb dL_adds_381 (by decide) (fun h => absurd h (by decide)) (fun _ => ?_)
            refine lv_aload_n hx hb dL_adds_384 rfl (lv_at hl 1 rfl) ?_
            refine lv_bipush (v := 100) hx hb dL_adds_385 (by decide) ?_
            refine lv_iconst (v := 1) hx hb dL_adds_387 (by decide) ?_
            refine z_rVi (C := C) (v := -2) (As := [.int 100, .int 1]) (rest := []) ⟨hx, hb, hml, hown, hts⟩ hK hP (rd_ap2 l g ct C hIV 100 1 (Or.inl (Or.inr (by decide)))) (cwV 2 hts gL_adds_X9_addPump rfl rfl rfl (by decide +kernel) ⟨Nat.le_of_ble_eq_true rfl, Nat.le_of_ble_eq_true rfl⟩) rfl hl.1 rfl (Nat.le_of_ble_eq_true rfl) dL_adds_388 ⟨Nat.le_of_ble_eq_true rfl, Nat.le_of_ble_eq_true rfl⟩ ?_
            refine lv_bipush (v := (-2)) hx hb dL_adds_391 (by decide) ?_
            refine lv_icmp_ne (tgt := 400) hx hb dL_adds_393 (by decide) (fun h => absurd h (by decide)) (fun _ => ?_)
            refine lv_iconst (v := 1) hx hb dL_adds_396 (by decide) ?_
            refine lv_goto (tgt := 401) hx hb dL_adds_397 (by decide) ?_
            exact z_retZ (⟨C, Or.inl (Sm_0 C)⟩ : {u : CT // Aft C u T}) hx hb hr hlocks rfl rfl hS hP hD (Nat.le_of_ble_eq_true rfl) (Nat.le_of_ble_eq_true rfl) dL_adds_401
        · refine z_oVi (C := C) (K := fun u => ∃ U, u = k_rec C (nv_addPump_b (k_v C) (nI (1 + lowN ga 99)) (nI (1 + lowN ha 9000))) U) (v := nI (v_nP (k_v C))) (As := [.int (nI (1 + (lowN ga 99))), .int (nI (1 + (lowN ha 9000)))]) (rest := []) ⟨hx, hb, hml, hown, hts⟩ hK hP hD hS hNW hA (ac_addPump_b l g ct _ C hC.2.1 hC.2.2.1 (iv_01 hIV) (iv_nP hIV) (nI (1 + lowN ga 99)) (nI (1 + lowN ha 9000)) ⟨(low_in (lo := 1) (hi := 99) (by omega) (by omega) (by omega) (by omega)), (low_in (lo := 1) (hi := 99999) (by omega) (by omega) (by omega) (by omega)), (fun q => f_4 (by omega))⟩) (cwV 2 hts gL_adds_X9_addPump rfl rfl rfl (by decide +kernel) ⟨Nat.le_of_ble_eq_true rfl, Nat.le_of_ble_eq_true rfl⟩) rfl hl.1 rfl (Nat.le_of_ble_eq_true rfl) dL_adds_364 ⟨Nat.le_of_ble_eq_true rfl, Nat.le_of_ble_eq_true rfl⟩ (fun u_6 H locs hu_7 hP hD hS => ?_)
          obtain ⟨U_8, rfl⟩ := hu_7
          have hIV_9 : IV (nv_addPump_b (k_v C) (nI (1 + lowN ga 99)) (nI (1 + lowN ha 9000))) _ := iv_addPump hIV (fun q => f_4 (by omega)) (low_in (lo := 1) (hi := 99) (by omega) (by omega) (by omega) (by omega)) (low_in (lo := 1) (hi := 99999) (by omega) (by omega) (by omega) (by omega))
          refine lv_iload hx hb dL_adds_367 (lv_at hl 0 rfl) ?_
          refine lv_bipush (v := 6) hx hb dL_adds_369 (by decide) ?_
          refine z_icN_ne (x := (v_nP (k_v C))) (y := 6) (tgt := 379) hx hb (by omega) (by omega) dL_adds_371 (by decide) (fun c_10 => ?_) (fun c_10 => ?_)
          · refine lv_iload hx hb dL_adds_379 (lv_at hl 0 rfl) ?_
            refine z_icN_ne (x := (v_nP (k_v C))) (y := (v_nP (k_v C))) (tgt := 400) hx hb (by omega) (by omega) dL_adds_381 (by decide) (fun c_11 => ?_) (fun c_11 => ?_)
            · exact absurd rfl c_11
            · refine lv_aload_n hx hb dL_adds_384 rfl (lv_at hl 1 rfl) ?_
              refine lv_bipush (v := 100) hx hb dL_adds_385 (by decide) ?_
              refine lv_iconst (v := 1) hx hb dL_adds_387 (by decide) ?_
              refine z_rVi (C := (k_rec C (nv_addPump_b (k_v C) (nI (1 + lowN ga 99)) (nI (1 + lowN ha 9000))) U_8)) (v := -2) (As := [.int 100, .int 1]) (rest := []) ⟨hx, hb, hml, hown, hts⟩ hK hP (rd_ap2 l g ct ((k_rec C (nv_addPump_b (k_v C) (nI (1 + lowN ga 99)) (nI (1 + lowN ha 9000))) U_8)) hIV_9 100 1 (Or.inl (Or.inr (by decide)))) (cwV 2 hts gL_adds_X9_addPump rfl rfl rfl (by decide +kernel) ⟨Nat.le_of_ble_eq_true rfl, Nat.le_of_ble_eq_true rfl⟩) rfl hl.1 rfl (Nat.le_of_ble_eq_true rfl) dL_adds_388 ⟨Nat.le_of_ble_eq_true rfl, Nat.le_of_ble_eq_true rfl⟩ ?_
              refine lv_bipush (v := (-2)) hx hb dL_adds_391 (by decide) ?_
              refine lv_icmp_ne (tgt := 400) hx hb dL_adds_393 (by decide) (fun h => absurd h (by decide)) (fun _ => ?_)
              refine lv_iconst (v := 1) hx hb dL_adds_396 (by decide) ?_
              refine lv_goto (tgt := 401) hx hb dL_adds_397 (by decide) ?_
              exact z_retZ (⟨(k_rec C (nv_addPump_b (k_v C) (nI (1 + lowN ga 99)) (nI (1 + lowN ha 9000))) U_8), Or.inr ⟨_, U_8, iv_m hIV_9 (by omega), Sm_0 _⟩⟩ : {u : CT // Aft C u T}) hx hb hr hlocks rfl rfl hS hP hD (Nat.le_of_ble_eq_true rfl) (Nat.le_of_ble_eq_true rfl) dL_adds_401
          · exact absurd c_10 f_4
      · refine lv_aload_n hx hb dL_adds_287 rfl (lv_at hl 0 rfl) ?_
        refine lv_bipush (v := 13) hx hb dL_adds_288 (by decide) ?_
        refine z_rVi (C := C) (v := nI (v_nT (k_v C))) (As := [.int 13]) (rest := []) ⟨hx, hb, hml, hown, hts⟩ hK hP (rd_count_13 l g ct C hIV) (cwV 1 hts gL_adds_X9_count rfl rfl rfl (by decide +kernel) ⟨Nat.le_of_ble_eq_true rfl, Nat.le_of_ble_eq_true rfl⟩) rfl hl.1 rfl (Nat.le_of_ble_eq_true rfl) dL_adds_290 ⟨Nat.le_of_ble_eq_true rfl, Nat.le_of_ble_eq_true rfl⟩ ?_
        refine lv_istore (lv' := [(4, .int (nI (v_nT (k_v C)))), (0, .ref (k_ba C 0)), (1, .int (nI so)), (2, .int ga), (3, .int ha)]) hx hb dL_adds_293 hl (by decide) rfl (fun ls hl => ?_)
        refine lv_aload_n hx hb dL_adds_295 rfl (lv_at hl 1 rfl) ?_
        refine lv_iload_n hx hb dL_adds_296 rfl (lv_at hl 4 rfl) ?_
        refine lv_sipush (v := 9000) hx hb dL_adds_297 (by decide) ?_
        refine z_cSi (v := nI (lowN ha 9000)) (As := [.int ha, .int 9000]) (rest := [.ref (k_ba C 0)]) ⟨hx, hb, hml, hown, hts⟩ (c_L_low l ha 9000 (by omega) (by omega)) (va_cwS 2 hts gL_adds_L_low rfl rfl rfl (by decide +kernel) ⟨Nat.le_of_ble_eq_true rfl, Nat.le_of_ble_eq_true rfl⟩) rfl hl.1 rfl (Nat.le_of_ble_eq_true rfl) dL_adds_300 ⟨Nat.le_of_ble_eq_true rfl, Nat.le_of_ble_eq_true rfl⟩ ?_
        by_cases f_12 : v_nT (k_v C) = 4
        · refine z_rVi (C := C) (v := -3) (As := [.int (nI (lowN ha 9000))]) (rest := []) ⟨hx, hb, hml, hown, hts⟩ hK hP (rd_at3 l g ct C hIV (nI (lowN ha 9000)) (low0 (by omega) (by omega)) (by omega)) (cwV 1 hts gL_adds_X9_addStream rfl rfl rfl (by decide +kernel) ⟨Nat.le_of_ble_eq_true rfl, Nat.le_of_ble_eq_true rfl⟩) rfl hl.1 rfl (Nat.le_of_ble_eq_true rfl) dL_adds_303 ⟨Nat.le_of_ble_eq_true rfl, Nat.le_of_ble_eq_true rfl⟩ ?_
          refine lv_iload hx hb dL_adds_306 (lv_at hl 0 rfl) ?_
          refine lv_iconst (v := 4) hx hb dL_adds_308 (by decide) ?_
          refine z_icN_ne (x := (v_nT (k_v C))) (y := 4) (tgt := 317) hx hb (by omega) (by omega) dL_adds_309 (by decide) (fun c_13 => ?_) (fun c_13 => ?_)
          · exact absurd f_12 c_13
          · refine lv_bipush (v := (-3)) hx hb dL_adds_312 (by decide) ?_
            refine lv_goto (tgt := 319) hx hb dL_adds_314 (by decide) ?_
            refine lv_icmp_ne (tgt := 336) hx hb dL_adds_319 (by decide) (fun h => absurd h (by decide)) (fun _ => ?_)
            refine lv_aload_n hx hb dL_adds_322 rfl (lv_at hl 1 rfl) ?_
            refine lv_iconst (v := (-1)) hx hb dL_adds_323 (by decide) ?_
            refine z_rVi (C := C) (v := -2) (As := [.int ((-1))]) (rest := []) ⟨hx, hb, hml, hown, hts⟩ hK hP (rd_at2 l g ct C hIV (-1) (Or.inl (by decide))) (cwV 1 hts gL_adds_X9_addStream rfl rfl rfl (by decide +kernel) ⟨Nat.le_of_ble_eq_true rfl, Nat.le_of_ble_eq_true rfl⟩) rfl hl.1 rfl (Nat.le_of_ble_eq_true rfl) dL_adds_324 ⟨Nat.le_of_ble_eq_true rfl, Nat.le_of_ble_eq_true rfl⟩ ?_
            refine lv_bipush (v := (-2)) hx hb dL_adds_327 (by decide) ?_
            refine lv_icmp_ne (tgt := 336) hx hb dL_adds_329 (by decide) (fun h => absurd h (by decide)) (fun _ => ?_)
            refine lv_iconst (v := 1) hx hb dL_adds_332 (by decide) ?_
            refine lv_goto (tgt := 337) hx hb dL_adds_333 (by decide) ?_
            exact z_retZ (⟨C, Or.inl (Sm_0 C)⟩ : {u : CT // Aft C u T}) hx hb hr hlocks rfl rfl hS hP hD (Nat.le_of_ble_eq_true rfl) (Nat.le_of_ble_eq_true rfl) dL_adds_337
        · refine z_oVi (C := C) (K := fun u => ∃ U, u = k_rec C (nv_addStream_b (k_v C) (nI (lowN ha 9000))) U) (v := nI (v_nT (k_v C))) (As := [.int (nI (lowN ha 9000))]) (rest := []) ⟨hx, hb, hml, hown, hts⟩ hK hP hD hS hNW hA (ac_addStream_b l g ct _ C hC.2.1 hC.2.2.1 (iv_01 hIV) (iv_nT hIV) (nI (lowN ha 9000)) ⟨(low0 (by omega) (by omega)), (fun q => f_12 (by omega))⟩) (cwV 1 hts gL_adds_X9_addStream rfl rfl rfl (by decide +kernel) ⟨Nat.le_of_ble_eq_true rfl, Nat.le_of_ble_eq_true rfl⟩) rfl hl.1 rfl (Nat.le_of_ble_eq_true rfl) dL_adds_303 ⟨Nat.le_of_ble_eq_true rfl, Nat.le_of_ble_eq_true rfl⟩ (fun u_14 H locs hu_15 hP hD hS => ?_)
          obtain ⟨U_16, rfl⟩ := hu_15
          have hIV_17 : IV (nv_addStream_b (k_v C) (nI (lowN ha 9000))) _ := iv_addStream hIV (fun q => f_12 (by omega)) (low0 (by omega) (by omega))
          refine lv_iload hx hb dL_adds_306 (lv_at hl 0 rfl) ?_
          refine lv_iconst (v := 4) hx hb dL_adds_308 (by decide) ?_
          refine z_icN_ne (x := (v_nT (k_v C))) (y := 4) (tgt := 317) hx hb (by omega) (by omega) dL_adds_309 (by decide) (fun c_18 => ?_) (fun c_18 => ?_)
          · refine lv_iload hx hb dL_adds_317 (lv_at hl 0 rfl) ?_
            refine z_icN_ne (x := (v_nT (k_v C))) (y := (v_nT (k_v C))) (tgt := 336) hx hb (by omega) (by omega) dL_adds_319 (by decide) (fun c_19 => ?_) (fun c_19 => ?_)
            · exact absurd rfl c_19
            · refine lv_aload_n hx hb dL_adds_322 rfl (lv_at hl 1 rfl) ?_
              refine lv_iconst (v := (-1)) hx hb dL_adds_323 (by decide) ?_
              refine z_rVi (C := (k_rec C (nv_addStream_b (k_v C) (nI (lowN ha 9000))) U_16)) (v := -2) (As := [.int ((-1))]) (rest := []) ⟨hx, hb, hml, hown, hts⟩ hK hP (rd_at2 l g ct ((k_rec C (nv_addStream_b (k_v C) (nI (lowN ha 9000))) U_16)) hIV_17 (-1) (Or.inl (by decide))) (cwV 1 hts gL_adds_X9_addStream rfl rfl rfl (by decide +kernel) ⟨Nat.le_of_ble_eq_true rfl, Nat.le_of_ble_eq_true rfl⟩) rfl hl.1 rfl (Nat.le_of_ble_eq_true rfl) dL_adds_324 ⟨Nat.le_of_ble_eq_true rfl, Nat.le_of_ble_eq_true rfl⟩ ?_
              refine lv_bipush (v := (-2)) hx hb dL_adds_327 (by decide) ?_
              refine lv_icmp_ne (tgt := 336) hx hb dL_adds_329 (by decide) (fun h => absurd h (by decide)) (fun _ => ?_)
              refine lv_iconst (v := 1) hx hb dL_adds_332 (by decide) ?_
              refine lv_goto (tgt := 337) hx hb dL_adds_333 (by decide) ?_
              exact z_retZ (⟨(k_rec C (nv_addStream_b (k_v C) (nI (lowN ha 9000))) U_16), Or.inr ⟨_, U_16, iv_m hIV_17 (by omega), Sm_0 _⟩⟩ : {u : CT // Aft C u T}) hx hb hr hlocks rfl rfl hS hP hD (Nat.le_of_ble_eq_true rfl) (Nat.le_of_ble_eq_true rfl) dL_adds_337
          · exact absurd c_18 f_12
    · refine lv_aload_n hx hb dL_adds_190 rfl (lv_at hl 0 rfl) ?_
      refine lv_bipush (v := 12) hx hb dL_adds_191 (by decide) ?_
      refine z_rVi (C := C) (v := nI (v_nD (k_v C))) (As := [.int 12]) (rest := []) ⟨hx, hb, hml, hown, hts⟩ hK hP (rd_count_12 l g ct C hIV) (cwV 1 hts gL_adds_X9_count rfl rfl rfl (by decide +kernel) ⟨Nat.le_of_ble_eq_true rfl, Nat.le_of_ble_eq_true rfl⟩) rfl hl.1 rfl (Nat.le_of_ble_eq_true rfl) dL_adds_193 ⟨Nat.le_of_ble_eq_true rfl, Nat.le_of_ble_eq_true rfl⟩ ?_
      refine lv_istore (lv' := [(4, .int (nI (v_nD (k_v C)))), (0, .ref (k_ba C 0)), (1, .int (nI so)), (2, .int ga), (3, .int ha)]) hx hb dL_adds_196 hl (by decide) rfl (fun ls hl => ?_)
      refine lv_aload_n hx hb dL_adds_198 rfl (lv_at hl 1 rfl) ?_
      refine lv_bipush (v := 6) hx hb dL_adds_199 (by decide) ?_
      refine z_rVi (C := C) (v := waI (v_we (k_v C)) (v_nD (k_v C))) (As := [.int 6]) (rest := []) ⟨hx, hb, hml, hown, hts⟩ hK hP (rd_count_6 l g ct C hIV) (cwV 1 hts gL_adds_X9_count rfl rfl rfl (by decide +kernel) ⟨Nat.le_of_ble_eq_true rfl, Nat.le_of_ble_eq_true rfl⟩) rfl hl.1 rfl (Nat.le_of_ble_eq_true rfl) dL_adds_201 ⟨Nat.le_of_ble_eq_true rfl, Nat.le_of_ble_eq_true rfl⟩ ?_
      refine lv_istore (lv' := [(5, .int (waI (v_we (k_v C)) (v_nD (k_v C)))), (4, .int (nI (v_nD (k_v C)))), (0, .ref (k_ba C 0)), (1, .int (nI so)), (2, .int ga), (3, .int ha)]) hx hb dL_adds_204 hl (by decide) rfl (fun ls hl => ?_)
      refine lv_iconst (v := 1) hx hb dL_adds_206 (by decide) ?_
      refine lv_iload_n hx hb dL_adds_207 rfl (lv_at hl 5 rfl) ?_
      refine lv_bipush (v := 99) hx hb dL_adds_208 (by decide) ?_
      refine z_cSi (v := nI (lowN ha 99)) (As := [.int ha, .int 99]) (rest := [.int 1]) ⟨hx, hb, hml, hown, hts⟩ (c_L_low l ha 99 (by omega) (by omega)) (va_cwS 2 hts gL_adds_L_low rfl rfl rfl (by decide +kernel) ⟨Nat.le_of_ble_eq_true rfl, Nat.le_of_ble_eq_true rfl⟩) rfl hl.1 rfl (Nat.le_of_ble_eq_true rfl) dL_adds_210 ⟨Nat.le_of_ble_eq_true rfl, Nat.le_of_ble_eq_true rfl⟩ ?_
      refine z_iaddN (x := 1) (y := (lowN ha 99)) hx hb dL_adds_213 ?_
      refine lv_istore (lv' := [(6, .int (nI (1 + (lowN ha 99)))), (5, .int (waI (v_we (k_v C)) (v_nD (k_v C)))), (4, .int (nI (v_nD (k_v C)))), (0, .ref (k_ba C 0)), (1, .int (nI so)), (2, .int ga), (3, .int ha)]) hx hb dL_adds_214 hl (by decide) rfl (fun ls hl => ?_)
      refine lv_aload_n hx hb dL_adds_216 rfl (lv_at hl 3 rfl) ?_
      refine lv_iload hx hb dL_adds_217 (lv_at hl 0 rfl) ?_
      by_cases f_20 : v_nD (k_v C) = 6
      · refine z_rVi (C := C) (v := -3) (As := [.int (nI (1 + (lowN ha 99)))]) (rest := []) ⟨hx, hb, hml, hown, hts⟩ hK hP (rd_ad3 l g ct C hIV (nI (1 + lowN ha 99)) (low_in (lo := 1) (hi := 99) (by omega) (by omega) (by omega) (by omega)) (by omega)) (cwV 1 hts gL_adds_X9_addDistrict rfl rfl rfl (by decide +kernel) ⟨Nat.le_of_ble_eq_true rfl, Nat.le_of_ble_eq_true rfl⟩) rfl hl.1 rfl (Nat.le_of_ble_eq_true rfl) dL_adds_219 ⟨Nat.le_of_ble_eq_true rfl, Nat.le_of_ble_eq_true rfl⟩ ?_
        refine lv_iload hx hb dL_adds_222 (lv_at hl 2 rfl) ?_
        refine lv_bipush (v := 6) hx hb dL_adds_224 (by decide) ?_
        refine z_icN_ne (x := (v_nD (k_v C))) (y := 6) (tgt := 234) hx hb (by omega) (by omega) dL_adds_226 (by decide) (fun c_21 => ?_) (fun c_21 => ?_)
        · exact absurd f_20 c_21
        · refine lv_bipush (v := (-3)) hx hb dL_adds_229 (by decide) ?_
          refine lv_goto (tgt := 236) hx hb dL_adds_231 (by decide) ?_
          refine lv_icmp_ne (tgt := 280) hx hb dL_adds_236 (by decide) (fun h => absurd h (by decide)) (fun _ => ?_)
          refine lv_aload_n hx hb dL_adds_239 rfl (lv_at hl 3 rfl) ?_
          refine lv_bipush (v := 6) hx hb dL_adds_240 (by decide) ?_
          refine z_rVi (C := C) (v := waI (v_we (k_v C)) (v_nD (k_v C))) (As := [.int 6]) (rest := []) ⟨hx, hb, hml, hown, hts⟩ hK hP (rd_count_6 l g ct C hIV) (cwV 1 hts gL_adds_X9_count rfl rfl rfl (by decide +kernel) ⟨Nat.le_of_ble_eq_true rfl, Nat.le_of_ble_eq_true rfl⟩) rfl hl.1 rfl (Nat.le_of_ble_eq_true rfl) dL_adds_242 ⟨Nat.le_of_ble_eq_true rfl, Nat.le_of_ble_eq_true rfl⟩ ?_
          refine lv_iload hx hb dL_adds_245 (lv_at hl 2 rfl) ?_
          refine lv_bipush (v := 6) hx hb dL_adds_247 (by decide) ?_
          refine z_icN_ne (x := (v_nD (k_v C))) (y := 6) (tgt := 257) hx hb (by omega) (by omega) dL_adds_249 (by decide) (fun c_22 => ?_) (fun c_22 => ?_)
          · exact absurd f_20 c_22
          · refine lv_iload hx hb dL_adds_252 (lv_at hl 1 rfl) ?_
            refine lv_goto (tgt := 262) hx hb dL_adds_254 (by decide) ?_
            refine lv_icmp_ne (tgt := 280) hx hb dL_adds_262 (by decide) (fun c_23 => ?_) (fun c_23 => ?_)
            · exact absurd rfl c_23
            · refine lv_aload_n hx hb dL_adds_265 rfl (lv_at hl 3 rfl) ?_
              refine lv_bipush (v := 100) hx hb dL_adds_266 (by decide) ?_
              refine z_rVi (C := C) (v := -2) (As := [.int 100]) (rest := []) ⟨hx, hb, hml, hown, hts⟩ hK hP (rd_ad2 l g ct C hIV 100 (Or.inr (by decide))) (cwV 1 hts gL_adds_X9_addDistrict rfl rfl rfl (by decide +kernel) ⟨Nat.le_of_ble_eq_true rfl, Nat.le_of_ble_eq_true rfl⟩) rfl hl.1 rfl (Nat.le_of_ble_eq_true rfl) dL_adds_268 ⟨Nat.le_of_ble_eq_true rfl, Nat.le_of_ble_eq_true rfl⟩ ?_
              refine lv_bipush (v := (-2)) hx hb dL_adds_271 (by decide) ?_
              refine lv_icmp_ne (tgt := 280) hx hb dL_adds_273 (by decide) (fun h => absurd h (by decide)) (fun _ => ?_)
              refine lv_iconst (v := 1) hx hb dL_adds_276 (by decide) ?_
              refine lv_goto (tgt := 281) hx hb dL_adds_277 (by decide) ?_
              exact z_retZ (⟨C, Or.inl (Sm_0 C)⟩ : {u : CT // Aft C u T}) hx hb hr hlocks rfl rfl hS hP hD (Nat.le_of_ble_eq_true rfl) (Nat.le_of_ble_eq_true rfl) dL_adds_281
      · refine z_oVi (C := C) (K := fun u => ∃ U, u = k_rec C (nv_addDistrict_b (k_v C) (nI (1 + lowN ha 99))) U) (v := nI (v_nD (k_v C))) (As := [.int (nI (1 + (lowN ha 99)))]) (rest := []) ⟨hx, hb, hml, hown, hts⟩ hK hP hD hS hNW hA (ac_addDistrict_b l g ct _ C hC.2.1 hC.2.2.1 (iv_01 hIV) (iv_nD hIV) (nI (1 + lowN ha 99)) ⟨(low_in (lo := 1) (hi := 99) (by omega) (by omega) (by omega) (by omega)), (fun q => f_20 (by omega))⟩) (cwV 1 hts gL_adds_X9_addDistrict rfl rfl rfl (by decide +kernel) ⟨Nat.le_of_ble_eq_true rfl, Nat.le_of_ble_eq_true rfl⟩) rfl hl.1 rfl (Nat.le_of_ble_eq_true rfl) dL_adds_219 ⟨Nat.le_of_ble_eq_true rfl, Nat.le_of_ble_eq_true rfl⟩ (fun u_24 H locs hu_25 hP hD hS => ?_)
        obtain ⟨U_26, rfl⟩ := hu_25
        have hIV_27 : IV (nv_addDistrict_b (k_v C) (nI (1 + lowN ha 99))) _ := iv_addDistrict hIV (fun q => f_20 (by omega)) (low_in (lo := 1) (hi := 99) (by omega) (by omega) (by omega) (by omega))
        refine lv_iload hx hb dL_adds_222 (lv_at hl 2 rfl) ?_
        refine lv_bipush (v := 6) hx hb dL_adds_224 (by decide) ?_
        refine z_icN_ne (x := (v_nD (k_v C))) (y := 6) (tgt := 234) hx hb (by omega) (by omega) dL_adds_226 (by decide) (fun c_28 => ?_) (fun c_28 => ?_)
        · refine lv_iload hx hb dL_adds_234 (lv_at hl 2 rfl) ?_
          refine z_icN_ne (x := (v_nD (k_v C))) (y := (v_nD (k_v C))) (tgt := 280) hx hb (by omega) (by omega) dL_adds_236 (by decide) (fun c_29 => ?_) (fun c_29 => ?_)
          · exact absurd rfl c_29
          · refine lv_aload_n hx hb dL_adds_239 rfl (lv_at hl 3 rfl) ?_
            refine lv_bipush (v := 6) hx hb dL_adds_240 (by decide) ?_
            refine z_rVi (C := (k_rec C (nv_addDistrict_b (k_v C) (nI (1 + lowN ha 99))) U_26)) (v := waI (upd (v_we (k_v C)) (v_nD (k_v C)) (nI (1 + lowN ha 99))) (v_nD (k_v C) + 1)) (As := [.int 6]) (rest := []) ⟨hx, hb, hml, hown, hts⟩ hK hP (rd_count_6 l g ct ((k_rec C (nv_addDistrict_b (k_v C) (nI (1 + lowN ha 99))) U_26)) hIV_27) (cwV 1 hts gL_adds_X9_count rfl rfl rfl (by decide +kernel) ⟨Nat.le_of_ble_eq_true rfl, Nat.le_of_ble_eq_true rfl⟩) rfl hl.1 rfl (Nat.le_of_ble_eq_true rfl) dL_adds_242 ⟨Nat.le_of_ble_eq_true rfl, Nat.le_of_ble_eq_true rfl⟩ ?_
            refine lv_iload hx hb dL_adds_245 (lv_at hl 2 rfl) ?_
            refine lv_bipush (v := 6) hx hb dL_adds_247 (by decide) ?_
            refine z_icN_ne (x := (v_nD (k_v C))) (y := 6) (tgt := 257) hx hb (by omega) (by omega) dL_adds_249 (by decide) (fun c_30 => ?_) (fun c_30 => ?_)
            · refine lv_iload hx hb dL_adds_257 (lv_at hl 1 rfl) ?_
              refine lv_iload hx hb dL_adds_259 (lv_at hl 0 rfl) ?_
              refine lv_iadd hx hb dL_adds_261 ?_
              refine lv_icmp_ne (tgt := 280) hx hb dL_adds_262 (by decide) (fun c_31 => ?_) (fun c_31 => ?_)
              · exact absurd wa_add c_31
              · refine lv_aload_n hx hb dL_adds_265 rfl (lv_at hl 3 rfl) ?_
                refine lv_bipush (v := 100) hx hb dL_adds_266 (by decide) ?_
                refine z_rVi (C := (k_rec C (nv_addDistrict_b (k_v C) (nI (1 + lowN ha 99))) U_26)) (v := -2) (As := [.int 100]) (rest := []) ⟨hx, hb, hml, hown, hts⟩ hK hP (rd_ad2 l g ct ((k_rec C (nv_addDistrict_b (k_v C) (nI (1 + lowN ha 99))) U_26)) hIV_27 100 (Or.inr (by decide))) (cwV 1 hts gL_adds_X9_addDistrict rfl rfl rfl (by decide +kernel) ⟨Nat.le_of_ble_eq_true rfl, Nat.le_of_ble_eq_true rfl⟩) rfl hl.1 rfl (Nat.le_of_ble_eq_true rfl) dL_adds_268 ⟨Nat.le_of_ble_eq_true rfl, Nat.le_of_ble_eq_true rfl⟩ ?_
                refine lv_bipush (v := (-2)) hx hb dL_adds_271 (by decide) ?_
                refine lv_icmp_ne (tgt := 280) hx hb dL_adds_273 (by decide) (fun h => absurd h (by decide)) (fun _ => ?_)
                refine lv_iconst (v := 1) hx hb dL_adds_276 (by decide) ?_
                refine lv_goto (tgt := 281) hx hb dL_adds_277 (by decide) ?_
                exact z_retZ (⟨(k_rec C (nv_addDistrict_b (k_v C) (nI (1 + lowN ha 99))) U_26), Or.inr ⟨_, U_26, iv_m hIV_27 (by omega), Sm_0 _⟩⟩ : {u : CT // Aft C u T}) hx hb hr hlocks rfl rfl hS hP hD (Nat.le_of_ble_eq_true rfl) (Nat.le_of_ble_eq_true rfl) dL_adds_281
            · exact absurd c_30 f_20
        · exact absurd c_28 f_20
  · refine lv_aload_n hx hb dL_adds_4 rfl (lv_at hl 0 rfl) ?_
    refine lv_bipush (v := 11) hx hb dL_adds_5 (by decide) ?_
    refine z_rVi (C := C) (v := nI (v_nS (k_v C))) (As := [.int 11]) (rest := []) ⟨hx, hb, hml, hown, hts⟩ hK hP (rd_count_11 l g ct C hIV) (cwV 1 hts gL_adds_X9_count rfl rfl rfl (by decide +kernel) ⟨Nat.le_of_ble_eq_true rfl, Nat.le_of_ble_eq_true rfl⟩) rfl hl.1 rfl (Nat.le_of_ble_eq_true rfl) dL_adds_7 ⟨Nat.le_of_ble_eq_true rfl, Nat.le_of_ble_eq_true rfl⟩ ?_
    refine lv_istore (lv' := [(4, .int (nI (v_nS (k_v C)))), (0, .ref (k_ba C 0)), (1, .int (nI so)), (2, .int ga), (3, .int ha)]) hx hb dL_adds_10 hl (by decide) rfl (fun ls hl => ?_)
    refine lv_iconst (v := 1) hx hb dL_adds_12 (by decide) ?_
    refine lv_iload_n hx hb dL_adds_13 rfl (lv_at hl 4 rfl) ?_
    refine lv_bipush (v := 6) hx hb dL_adds_14 (by decide) ?_
    refine lv_ishr hx hb dL_adds_16 ?_
    refine lv_iconst (v := 3) hx hb dL_adds_17 (by decide) ?_
    refine z_cSi (v := nI (lowN (ha >>> ((6 : Int32) &&& 31)) 3)) (As := [.int (ha >>> ((6 : Int32) &&& 31)), .int 3]) (rest := [.int 1]) ⟨hx, hb, hml, hown, hts⟩ (c_L_low l (ha >>> ((6 : Int32) &&& 31)) 3 (by omega) (by omega)) (va_cwS 2 hts gL_adds_L_low rfl rfl rfl (by decide +kernel) ⟨Nat.le_of_ble_eq_true rfl, Nat.le_of_ble_eq_true rfl⟩) rfl hl.1 rfl (Nat.le_of_ble_eq_true rfl) dL_adds_18 ⟨Nat.le_of_ble_eq_true rfl, Nat.le_of_ble_eq_true rfl⟩ ?_
    refine z_iaddN (x := 1) (y := (lowN (ha >>> ((6 : Int32) &&& 31)) 3)) hx hb dL_adds_21 ?_
    refine lv_istore (lv' := [(5, .int (nI (1 + (lowN (ha >>> ((6 : Int32) &&& 31)) 3)))), (4, .int (nI (v_nS (k_v C)))), (0, .ref (k_ba C 0)), (1, .int (nI so)), (2, .int ga), (3, .int ha)]) hx hb dL_adds_22 hl (by decide) rfl (fun ls hl => ?_)
    refine lv_aload_n hx hb dL_adds_24 rfl (lv_at hl 2 rfl) ?_
    refine lv_bipush (v := 51) hx hb dL_adds_25 (by decide) ?_
    refine lv_lconst (v := 0) hx hb dL_adds_27 (by decide) ?_
    refine lv_iconst (v := 1) hx hb dL_adds_28 (by decide) ?_
    refine lv_iconst (v := 1) hx hb dL_adds_29 (by decide) ?_
    refine z_rVi (C := C) (v := -2) (As := [.int 51, .long 0, .int 1, .int 1]) (rest := []) ⟨hx, hb, hml, hown, hts⟩ hK hP (rd_as2 l g ct C hIV 51 0 1 1 (Or.inl (Or.inr (by decide)))) (cwV 4 hts gL_adds_X9_addSection rfl rfl rfl (by decide +kernel) ⟨Nat.le_of_ble_eq_true rfl, Nat.le_of_ble_eq_true rfl⟩) rfl hl.1 rfl (Nat.le_of_ble_eq_true rfl) dL_adds_30 ⟨Nat.le_of_ble_eq_true rfl, Nat.le_of_ble_eq_true rfl⟩ ?_
    refine lv_bipush (v := (-2)) hx hb dL_adds_33 (by decide) ?_
    refine lv_icmp_ne (tgt := 86) hx hb dL_adds_35 (by decide) (fun h => absurd h (by decide)) (fun _ => ?_)
    refine lv_aload_n hx hb dL_adds_38 rfl (lv_at hl 2 rfl) ?_
    refine lv_iconst (v := 1) hx hb dL_adds_39 (by decide) ?_
    refine lv_ldc2 (v := (-4613937818241073152)) hx hb hown (hts (.constantLong RL 48 (-4613937818241073152)) (List.mem_of_getElem? (i := 1) rfl)) dL_adds_40 ?_
    refine lv_iconst (v := 1) hx hb dL_adds_43 (by decide) ?_
    refine lv_iconst (v := 1) hx hb dL_adds_44 (by decide) ?_
    refine z_rVi (C := C) (v := -2) (As := [.int 1, .long ((-4613937818241073152)), .int 1, .int 1]) (rest := []) ⟨hx, hb, hml, hown, hts⟩ hK hP (rd_as2 l g ct C hIV 1 (-4613937818241073152) 1 1 (Or.inr (Or.inl (by decide +kernel)))) (cwV 4 hts gL_adds_X9_addSection rfl rfl rfl (by decide +kernel) ⟨Nat.le_of_ble_eq_true rfl, Nat.le_of_ble_eq_true rfl⟩) rfl hl.1 rfl (Nat.le_of_ble_eq_true rfl) dL_adds_45 ⟨Nat.le_of_ble_eq_true rfl, Nat.le_of_ble_eq_true rfl⟩ ?_
    refine lv_bipush (v := (-2)) hx hb dL_adds_48 (by decide) ?_
    refine lv_icmp_ne (tgt := 86) hx hb dL_adds_50 (by decide) (fun h => absurd h (by decide)) (fun _ => ?_)
    refine lv_aload_n hx hb dL_adds_53 rfl (lv_at hl 2 rfl) ?_
    refine lv_iconst (v := 1) hx hb dL_adds_54 (by decide) ?_
    refine lv_ldc2 (v := 9221120237041090560) hx hb hown (hts (.constantLong RL 65 (9221120237041090560)) (List.mem_of_getElem? (i := 2) rfl)) dL_adds_55 ?_
    refine lv_iconst (v := 1) hx hb dL_adds_58 (by decide) ?_
    refine lv_iconst (v := 1) hx hb dL_adds_59 (by decide) ?_
    refine z_rVi (C := C) (v := -2) (As := [.int 1, .long 9221120237041090560, .int 1, .int 1]) (rest := []) ⟨hx, hb, hml, hown, hts⟩ hK hP (rd_as2 l g ct C hIV 1 9221120237041090560 1 1 (Or.inr (Or.inl (by decide +kernel)))) (cwV 4 hts gL_adds_X9_addSection rfl rfl rfl (by decide +kernel) ⟨Nat.le_of_ble_eq_true rfl, Nat.le_of_ble_eq_true rfl⟩) rfl hl.1 rfl (Nat.le_of_ble_eq_true rfl) dL_adds_60 ⟨Nat.le_of_ble_eq_true rfl, Nat.le_of_ble_eq_true rfl⟩ ?_
    refine lv_bipush (v := (-2)) hx hb dL_adds_63 (by decide) ?_
    refine lv_icmp_ne (tgt := 86) hx hb dL_adds_65 (by decide) (fun h => absurd h (by decide)) (fun _ => ?_)
    refine lv_aload_n hx hb dL_adds_68 rfl (lv_at hl 2 rfl) ?_
    refine lv_iconst (v := 1) hx hb dL_adds_69 (by decide) ?_
    refine lv_lconst (v := 0) hx hb dL_adds_70 (by decide) ?_
    refine lv_bipush (v := 7) hx hb dL_adds_71 (by decide) ?_
    refine lv_iconst (v := 1) hx hb dL_adds_73 (by decide) ?_
    refine z_rVi (C := C) (v := -2) (As := [.int 1, .long 0, .int 7, .int 1]) (rest := []) ⟨hx, hb, hml, hown, hts⟩ hK hP (rd_as2 l g ct C hIV 1 0 7 1 (Or.inr (Or.inr (Or.inl (Or.inr (by decide)))))) (cwV 4 hts gL_adds_X9_addSection rfl rfl rfl (by decide +kernel) ⟨Nat.le_of_ble_eq_true rfl, Nat.le_of_ble_eq_true rfl⟩) rfl hl.1 rfl (Nat.le_of_ble_eq_true rfl) dL_adds_74 ⟨Nat.le_of_ble_eq_true rfl, Nat.le_of_ble_eq_true rfl⟩ ?_
    refine lv_bipush (v := (-2)) hx hb dL_adds_77 (by decide) ?_
    refine lv_icmp_ne (tgt := 86) hx hb dL_adds_79 (by decide) (fun h => absurd h (by decide)) (fun _ => ?_)
    refine lv_iconst (v := 1) hx hb dL_adds_82 (by decide) ?_
    refine lv_goto (tgt := 87) hx hb dL_adds_83 (by decide) ?_
    refine lv_istore (lv' := [(6, .int 1), (5, .int (nI (1 + (lowN (ha >>> ((6 : Int32) &&& 31)) 3)))), (4, .int (nI (v_nS (k_v C)))), (0, .ref (k_ba C 0)), (1, .int (nI so)), (2, .int ga), (3, .int ha)]) hx hb dL_adds_87 hl (by decide) rfl (fun ls hl => ?_)
    refine lv_iload hx hb dL_adds_89 (lv_at hl 0 rfl) ?_
    refine lv_if_eq (tgt := 183) hx hb dL_adds_91 (by decide) (fun h => absurd h (by decide)) (fun _ => ?_)
    refine lv_aload_n hx hb dL_adds_94 rfl (lv_at hl 3 rfl) ?_
    refine lv_iconst (v := 1) hx hb dL_adds_95 (by decide) ?_
    refine lv_iload_n hx hb dL_adds_96 rfl (lv_at hl 5 rfl) ?_
    refine lv_bipush (v := 50) hx hb dL_adds_97 (by decide) ?_
    refine z_cSi (v := nI (lowN ga 50)) (As := [.int ga, .int 50]) (rest := [.int 1, .ref (k_ba C 0)]) ⟨hx, hb, hml, hown, hts⟩ (c_L_low l ga 50 (by omega) (by omega)) (va_cwS 2 hts gL_adds_L_low rfl rfl rfl (by decide +kernel) ⟨Nat.le_of_ble_eq_true rfl, Nat.le_of_ble_eq_true rfl⟩) rfl hl.1 rfl (Nat.le_of_ble_eq_true rfl) dL_adds_99 ⟨Nat.le_of_ble_eq_true rfl, Nat.le_of_ble_eq_true rfl⟩ ?_
    refine z_iaddN (x := 1) (y := (lowN ga 50)) hx hb dL_adds_102 ?_
    refine z_cut (B0 := 118) (st2 := [.long (crB ha), .int (nI (1 + (lowN ga 50))), .ref (k_ba C 0)]) ?_ (fun kk => ?_)
    · refine lv_iconst (v := 1) hx hb dL_adds_118 (by decide) ?_
      refine lv_iload_n hx hb dL_adds_119 rfl (lv_at hl 6 rfl) ?_
      refine lv_iconst (v := 2) hx hb dL_adds_120 (by decide) ?_
      refine lv_ishr hx hb dL_adds_121 ?_
      refine lv_bipush (v := 6) hx hb dL_adds_122 (by decide) ?_
      refine z_cSi (v := nI (lowN (ha >>> ((2 : Int32) &&& 31)) 6)) (As := [.int (ha >>> ((2 : Int32) &&& 31)), .int 6]) (rest := [.int 1, .long (crB ha), .int (nI (1 + (lowN ga 50))), .ref (k_ba C 0)]) ⟨hx, hb, hml, hown, hts⟩ (c_L_low l (ha >>> ((2 : Int32) &&& 31)) 6 (by omega) (by omega)) (va_cwS 2 hts gL_adds_L_low rfl rfl rfl (by decide +kernel) ⟨Nat.le_of_ble_eq_true rfl, Nat.le_of_ble_eq_true rfl⟩) rfl hl.1 rfl (Nat.le_of_ble_eq_true rfl) dL_adds_124 ⟨Nat.le_of_ble_eq_true rfl, Nat.le_of_ble_eq_true rfl⟩ ?_
      refine z_iaddN (x := 1) (y := (lowN (ha >>> ((2 : Int32) &&& 31)) 6)) hx hb dL_adds_127 ?_
      refine lv_iload hx hb dL_adds_128 (lv_at hl 1 rfl) ?_
      by_cases f_32 : v_nS (k_v C) = 8
      · refine z_rVi (C := C) (v := -3) (As := [.int (nI (1 + (lowN ga 50))), .long (crB ha), .int (nI (1 + (lowN (ha >>> ((2 : Int32) &&& 31)) 6))), .int (nI (1 + (lowN (ha >>> ((6 : Int32) &&& 31)) 3)))]) (rest := []) ⟨hx, hb, hml, hown, hts⟩ hK hP (rd_as3 l g ct C hIV (nI (1 + lowN ga 50)) (crB ha) (nI (1 + lowN (ha >>> ((2 : Int32) &&& 31)) 6)) (nI (1 + lowN (ha >>> ((6 : Int32) &&& 31)) 3)) (fun q => q.elim (low_in (lo := 1) (hi := 50) (by omega) (by omega) (by omega) (by omega)) (fun q => q.elim (fun r => r (crB_ok ha)) (fun q => q.elim (low_in (lo := 1) (hi := 6) (by omega) (by omega) (by omega) (by omega)) (low_in (lo := 1) (hi := 20) (by omega) (by omega) (by omega) (by omega))))) (by omega)) (cwV 4 hts gL_adds_X9_addSection rfl rfl rfl (by decide +kernel) ⟨Nat.le_of_ble_eq_true rfl, Nat.le_of_ble_eq_true rfl⟩) rfl hl.1 rfl (Nat.le_of_ble_eq_true rfl) dL_adds_130 ⟨Nat.le_of_ble_eq_true rfl, Nat.le_of_ble_eq_true rfl⟩ ?_
        refine lv_iload hx hb dL_adds_133 (lv_at hl 2 rfl) ?_
        refine lv_bipush (v := 8) hx hb dL_adds_135 (by decide) ?_
        refine z_icN_ne (x := (v_nS (k_v C))) (y := 8) (tgt := 145) hx hb (by omega) (by omega) dL_adds_137 (by decide) (fun c_33 => ?_) (fun c_33 => ?_)
        · exact absurd f_32 c_33
        · refine lv_bipush (v := (-3)) hx hb dL_adds_140 (by decide) ?_
          refine lv_goto (tgt := 147) hx hb dL_adds_142 (by decide) ?_
          refine lv_icmp_ne (tgt := 183) hx hb dL_adds_147 (by decide) (fun h => absurd h (by decide)) (fun _ => ?_)
          refine lv_iload hx hb dL_adds_150 (lv_at hl 2 rfl) ?_
          refine lv_bipush (v := 8) hx hb dL_adds_152 (by decide) ?_
          refine z_icN_eq (x := (v_nS (k_v C))) (y := 8) (tgt := 179) hx hb (by omega) (by omega) dL_adds_154 (by decide) (fun c_34 => ?_) (fun c_34 => ?_)
          · refine lv_iconst (v := 1) hx hb dL_adds_179 (by decide) ?_
            refine lv_goto (tgt := 184) hx hb dL_adds_180 (by decide) ?_
            exact z_retZ (⟨C, Or.inl (Sm_0 C)⟩ : {u : CT // Aft C u T}) hx hb hr hlocks rfl rfl hS hP hD (Nat.le_of_ble_eq_true rfl) (Nat.le_of_ble_eq_true rfl) dL_adds_184
          · exact absurd f_32 c_34
      · refine z_oVi (C := C) (K := fun u => ∃ U, u = k_rec C (nv_addSection_b (k_v C) (nI (1 + lowN ga 50)) (crB ha) (nI (1 + lowN (ha >>> ((2 : Int32) &&& 31)) 6)) (nI (1 + lowN (ha >>> ((6 : Int32) &&& 31)) 3))) U) (v := nI (v_nS (k_v C))) (As := [.int (nI (1 + (lowN ga 50))), .long (crB ha), .int (nI (1 + (lowN (ha >>> ((2 : Int32) &&& 31)) 6))), .int (nI (1 + (lowN (ha >>> ((6 : Int32) &&& 31)) 3)))]) (rest := []) ⟨hx, hb, hml, hown, hts⟩ hK hP hD hS hNW hA (ac_addSection_b l g ct _ C hC.2.1 hC.2.2.1 (iv_01 hIV) (iv_nS hIV) (nI (1 + lowN ga 50)) (crB ha) (nI (1 + lowN (ha >>> ((2 : Int32) &&& 31)) 6)) (nI (1 + lowN (ha >>> ((6 : Int32) &&& 31)) 3)) ⟨(low_in (lo := 1) (hi := 50) (by omega) (by omega) (by omega) (by omega)), crB_ok ha, (low_in (lo := 1) (hi := 6) (by omega) (by omega) (by omega) (by omega)), (low_in (lo := 1) (hi := 20) (by omega) (by omega) (by omega) (by omega)), (fun q => f_32 (by omega))⟩) (cwV 4 hts gL_adds_X9_addSection rfl rfl rfl (by decide +kernel) ⟨Nat.le_of_ble_eq_true rfl, Nat.le_of_ble_eq_true rfl⟩) rfl hl.1 rfl (Nat.le_of_ble_eq_true rfl) dL_adds_130 ⟨Nat.le_of_ble_eq_true rfl, Nat.le_of_ble_eq_true rfl⟩ (fun u_35 H locs hu_36 hP hD hS => ?_)
        obtain ⟨U_37, rfl⟩ := hu_36
        have hIV_38 : IV (nv_addSection_b (k_v C) (nI (1 + lowN ga 50)) (crB ha) (nI (1 + lowN (ha >>> ((2 : Int32) &&& 31)) 6)) (nI (1 + lowN (ha >>> ((6 : Int32) &&& 31)) 3))) _ := iv_addSection hIV (fun q => f_32 (by omega)) (low_in (lo := 1) (hi := 50) (by omega) (by omega) (by omega) (by omega)) (crB_S ha) (low_in (lo := 1) (hi := 6) (by omega) (by omega) (by omega) (by omega)) (low_in (lo := 1) (hi := 20) (by omega) (by omega) (by omega) (by omega))
        refine lv_iload hx hb dL_adds_133 (lv_at hl 2 rfl) ?_
        refine lv_bipush (v := 8) hx hb dL_adds_135 (by decide) ?_
        refine z_icN_ne (x := (v_nS (k_v C))) (y := 8) (tgt := 145) hx hb (by omega) (by omega) dL_adds_137 (by decide) (fun c_39 => ?_) (fun c_39 => ?_)
        · refine lv_iload hx hb dL_adds_145 (lv_at hl 2 rfl) ?_
          refine z_icN_ne (x := (v_nS (k_v C))) (y := (v_nS (k_v C))) (tgt := 183) hx hb (by omega) (by omega) dL_adds_147 (by decide) (fun c_40 => ?_) (fun c_40 => ?_)
          · exact absurd rfl c_40
          · refine lv_iload hx hb dL_adds_150 (lv_at hl 2 rfl) ?_
            refine lv_bipush (v := 8) hx hb dL_adds_152 (by decide) ?_
            refine z_icN_eq (x := (v_nS (k_v C))) (y := 8) (tgt := 179) hx hb (by omega) (by omega) dL_adds_154 (by decide) (fun c_41 => ?_) (fun c_41 => ?_)
            · exact absurd c_41 f_32
            · refine lv_aload_n hx hb dL_adds_157 rfl (lv_at hl 3 rfl) ?_
              refine lv_iload hx hb dL_adds_158 (lv_at hl 2 rfl) ?_
              refine lv_iconst (v := 2) hx hb dL_adds_160 (by decide) ?_
              refine z_rVi (C := (k_rec C (nv_addSection_b (k_v C) (nI (1 + lowN ga 50)) (crB ha) (nI (1 + lowN (ha >>> ((2 : Int32) &&& 31)) 6)) (nI (1 + lowN (ha >>> ((6 : Int32) &&& 31)) 3))) U_37)) (v := upd (v_li (k_v C)) (v_nS (k_v C)) (nI (1 + lowN (ha >>> ((6 : Int32) &&& 31)) 3)) (v_nS (k_v C))) (As := [.int (nI (v_nS (k_v C))), .int 2]) (rest := []) ⟨hx, hb, hml, hown, hts⟩ hK hP (rd_section_2 l g ct ((k_rec C (nv_addSection_b (k_v C) (nI (1 + lowN ga 50)) (crB ha) (nI (1 + lowN (ha >>> ((2 : Int32) &&& 31)) 6)) (nI (1 + lowN (ha >>> ((6 : Int32) &&& 31)) 3))) U_37)) hIV_38 (v_nS (k_v C)) (Nat.lt_succ_self (v_nS (k_v C)))) (cwV 2 hts gL_adds_X9_section rfl rfl rfl (by decide +kernel) ⟨Nat.le_of_ble_eq_true rfl, Nat.le_of_ble_eq_true rfl⟩) rfl hl.1 rfl (Nat.le_of_ble_eq_true rfl) dL_adds_161 ⟨Nat.le_of_ble_eq_true rfl, Nat.le_of_ble_eq_true rfl⟩ ?_
              refine lv_iload hx hb dL_adds_164 (lv_at hl 1 rfl) ?_
              refine lv_icmp_ne (tgt := 183) hx hb dL_adds_166 (by decide) (fun c_42 => ?_) (fun c_42 => ?_)
              · exact absurd pk_us c_42
              · refine lv_aload_n hx hb dL_adds_169 rfl (lv_at hl 3 rfl) ?_
                refine lv_iload hx hb dL_adds_170 (lv_at hl 2 rfl) ?_
                refine lv_iconst (v := 3) hx hb dL_adds_172 (by decide) ?_
                refine z_rVi (C := (k_rec C (nv_addSection_b (k_v C) (nI (1 + lowN ga 50)) (crB ha) (nI (1 + lowN (ha >>> ((2 : Int32) &&& 31)) 6)) (nI (1 + lowN (ha >>> ((6 : Int32) &&& 31)) 3))) U_37)) (v := upd (v_co (k_v C)) (v_nS (k_v C)) 0 (v_nS (k_v C))) (As := [.int (nI (v_nS (k_v C))), .int 3]) (rest := []) ⟨hx, hb, hml, hown, hts⟩ hK hP (rd_section_3 l g ct ((k_rec C (nv_addSection_b (k_v C) (nI (1 + lowN ga 50)) (crB ha) (nI (1 + lowN (ha >>> ((2 : Int32) &&& 31)) 6)) (nI (1 + lowN (ha >>> ((6 : Int32) &&& 31)) 3))) U_37)) hIV_38 (v_nS (k_v C)) (Nat.lt_succ_self (v_nS (k_v C)))) (cwV 2 hts gL_adds_X9_section rfl rfl rfl (by decide +kernel) ⟨Nat.le_of_ble_eq_true rfl, Nat.le_of_ble_eq_true rfl⟩) rfl hl.1 rfl (Nat.le_of_ble_eq_true rfl) dL_adds_173 ⟨Nat.le_of_ble_eq_true rfl, Nat.le_of_ble_eq_true rfl⟩ ?_
                refine lv_if_ne (tgt := 183) hx hb dL_adds_176 (by decide) (fun c_43 => ?_) (fun c_43 => ?_)
                · exact absurd pk_us c_43
                · refine lv_iconst (v := 1) hx hb dL_adds_179 (by decide) ?_
                  refine lv_goto (tgt := 184) hx hb dL_adds_180 (by decide) ?_
                  exact z_retZ (⟨(k_rec C (nv_addSection_b (k_v C) (nI (1 + lowN ga 50)) (crB ha) (nI (1 + lowN (ha >>> ((2 : Int32) &&& 31)) 6)) (nI (1 + lowN (ha >>> ((6 : Int32) &&& 31)) 3))) U_37), Or.inr ⟨_, U_37, iv_m hIV_38 (by omega), Sm_0 _⟩⟩ : {u : CT // Aft C u T}) hx hb hr hlocks rfl rfl hS hP hD (Nat.le_of_ble_eq_true rfl) (Nat.le_of_ble_eq_true rfl) dL_adds_184
        · exact absurd c_39 f_32
    · refine lv_iload_n hx hb dL_adds_103 rfl (lv_at hl 6 rfl) ?_
      refine lv_iconst (v := 1) hx hb dL_adds_104 (by decide) ?_
      refine lv_iand hx hb dL_adds_105 ?_
      refine lv_if_ne (tgt := 115) hx hb dL_adds_106 (by decide) (fun c_44 => ?_) (fun c_44 => ?_)
      · refine lv_ldc2 (v := 4616189618054758400) hx hb hown (hts (.constantLong RL 50 (4616189618054758400)) (List.mem_of_getElem? (i := 4) rfl)) dL_adds_115 ?_
        have kk2 : crB ha = 4616189618054758400 := if_neg c_44; rw [kk2] at kk; exact kk
      · refine lv_ldc2 (v := 4607182418800017408) hx hb hown (hts (.constantLong RL 52 (4607182418800017408)) (List.mem_of_getElem? (i := 3) rfl)) dL_adds_109 ?_
        refine lv_goto (tgt := 118) hx hb dL_adds_112 (by decide) ?_
        have kk2 : crB ha = 4607182418800017408 := if_pos c_44; rw [kk2] at kk; exact kk
