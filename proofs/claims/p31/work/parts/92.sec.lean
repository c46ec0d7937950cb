set_option maxHeartbeats 4000000 in
set_option maxRecDepth 100000 in
theorem c_L_sections (l : Launch) (g : va_G) (ct : Nat → ClassId) (sz : Nat) (C : CT) {T : Nat} (hIV : IV (k_v C) T) (hT : T ≤ 100) : Met l yL_sections wsL_sections (zRm 6 143) (va_Pc [.ref (k_ba C 0)] (zW g ct (CW ct C) sz)) (zEi (S := {u : CT // Sm C u}) g (fun u => CW ct u.1) 1 (va_A (CW ct C) sz)) 0 0 (va_A (CW ct C) sz) := by
  refine z_write (QA := zEi (S := {u : CT // Sm C u}) g (fun u => CW ct u.1) 1) (cc := cL_sections) (maxL := 9) (ret := some .boolean) (by decide) rfl (Nat.le_of_ble_eq_true rfl) ?_
  intro p e s m below meth c ls A hx hb hr hml hts hown hlocks hin hP hK hD hNW hA hS hl
  have hown : s.vm.findClass RL = some m.cls := hown
  have hl : lv_has ls 9 [(0, .ref (k_ba C 0))] := hl
  have hnS := iv_nS hIV
  refine lv_bipush (v := (-5)) hx hb dL_sections_0 (by decide) ?_
  refine lv_istore_n (lv' := [(1, .int ((-5))), (0, .ref (k_ba C 0))]) hx hb dL_sections_2 rfl hl (by decide) rfl (fun ls hl => ?_)
  refine lv_iconst (v := 0) hx hb dL_sections_3 (by decide) ?_
  refine lv_istore_n (lv' := [(2, .int 0), (1, .int ((-5))), (0, .ref (k_ba C 0))]) hx hb dL_sections_4 rfl hl (by decide) rfl (fun ls hl => ?_)
  refine lv_iconst (v := 0) hx hb dL_sections_5 (by decide) ?_
  refine lv_istore_n (lv' := [(3, .int 0), (2, .int 0), (1, .int ((-5))), (0, .ref (k_ba C 0))]) hx hb dL_sections_6 rfl hl (by decide) rfl (fun ls hl => ?_)
  refine lv_iconst (v := 0) hx hb dL_sections_7 (by decide) ?_
  refine lv_istore (lv' := [(4, .int 0), (3, .int 0), (2, .int 0), (1, .int ((-5))), (0, .ref (k_ba C 0))]) hx hb dL_sections_8 hl (by decide) rfl (fun ls hl => ?_)
  refine lv_iconst (v := 0) hx hb dL_sections_10 (by decide) ?_
  refine lv_istore (lv' := [(5, .int 0), (4, .int 0), (3, .int 0), (2, .int 0), (1, .int ((-5))), (0, .ref (k_ba C 0))]) hx hb dL_sections_11 hl (by decide) rfl (fun ls hl => ?_)
  refine z_loop (v_nS (k_v C)) (fun k1 H locs ls => va_P g vwCl (CW ct C) H ∧ va_D A (CW ct C) ∧ va_S A s.heap H locs ∧ lv_has ls 9 [(0, .ref (k_ba C 0)), (1, .int (mvI (v_co (k_v C)) k1)), (2, .int (cntI (v_co (k_v C)) 2 k1)), (3, .int (cntI (v_co (k_v C)) 4 k1)), (4, .int (frI (v_co (k_v C)) k1)), (5, .int (nI k1))]) ⟨hP, hD, hS, (by rw [mv_0]; exact lv_sub hl [5, 4, 3, 2, 1, 0] rfl)⟩ ?_
  intro k1 H locs ls hkk1 hI ihk1
  obtain ⟨hP, hD, hS, hl⟩ := hI
  refine lv_iload hx hb dL_sections_13 (lv_at hl 5 rfl) ?_
  refine lv_aload_n hx hb dL_sections_15 rfl (lv_at hl 0 rfl) ?_
  refine lv_bipush (v := 11) hx hb dL_sections_16 (by decide) ?_
  refine z_rVi (C := C) (v := nI (v_nS (k_v C))) (As := [.int 11]) (rest := [.int (nI k1)]) ⟨hx, hb, hml, hown, hts⟩ hK hP (rd_count_11 l g ct C hIV) (cwV 1 hts gL_sections_X9_count rfl rfl rfl (by decide +kernel) ⟨Nat.le_of_ble_eq_true rfl, Nat.le_of_ble_eq_true rfl⟩) rfl hl.1 rfl (Nat.le_of_ble_eq_true rfl) dL_sections_18 ⟨Nat.le_of_ble_eq_true rfl, Nat.le_of_ble_eq_true rfl⟩ ?_
  refine z_icN_ge (x := k1) (y := (v_nS (k_v C))) (tgt := 239) hx hb (by omega) (by omega) dL_sections_21 (by decide) (fun c_1 => ?_) (fun c_1 => ?_)
  · have hkn : v_nS (k_v C) = k1 := by omega
    subst hkn
    refine lv_aload_n hx hb dL_sections_239 rfl (lv_at hl 0 rfl) ?_
    refine lv_iconst (v := 2) hx hb dL_sections_240 (by decide) ?_
    refine z_rVi (C := C) (v := mvI (v_co (k_v C)) (v_nS (k_v C))) (As := [.int 2]) (rest := []) ⟨hx, hb, hml, hown, hts⟩ hK hP (rd_count_2 l g ct C hIV) (cwV 1 hts gL_sections_X9_count rfl rfl rfl (by decide +kernel) ⟨Nat.le_of_ble_eq_true rfl, Nat.le_of_ble_eq_true rfl⟩) rfl hl.1 rfl (Nat.le_of_ble_eq_true rfl) dL_sections_241 ⟨Nat.le_of_ble_eq_true rfl, Nat.le_of_ble_eq_true rfl⟩ ?_
    refine lv_iload_n hx hb dL_sections_244 rfl (lv_at hl 1 rfl) ?_
    refine lv_icmp_ne (tgt := 321) hx hb dL_sections_245 (by decide) (fun c_2 => ?_) (fun c_2 => ?_)
    · exact absurd rfl c_2
    · refine lv_aload_n hx hb dL_sections_248 rfl (lv_at hl 0 rfl) ?_
      refine lv_iconst (v := 3) hx hb dL_sections_249 (by decide) ?_
      refine z_rVi (C := C) (v := cntI (v_co (k_v C)) 2 (v_nS (k_v C))) (As := [.int 3]) (rest := []) ⟨hx, hb, hml, hown, hts⟩ hK hP (rd_count_3 l g ct C hIV) (cwV 1 hts gL_sections_X9_count rfl rfl rfl (by decide +kernel) ⟨Nat.le_of_ble_eq_true rfl, Nat.le_of_ble_eq_true rfl⟩) rfl hl.1 rfl (Nat.le_of_ble_eq_true rfl) dL_sections_250 ⟨Nat.le_of_ble_eq_true rfl, Nat.le_of_ble_eq_true rfl⟩ ?_
      refine lv_iload_n hx hb dL_sections_253 rfl (lv_at hl 2 rfl) ?_
      refine lv_icmp_ne (tgt := 321) hx hb dL_sections_254 (by decide) (fun c_3 => ?_) (fun c_3 => ?_)
      · exact absurd rfl c_3
      · refine lv_aload_n hx hb dL_sections_257 rfl (lv_at hl 0 rfl) ?_
        refine lv_iconst (v := 4) hx hb dL_sections_258 (by decide) ?_
        refine z_rVi (C := C) (v := cntI (v_co (k_v C)) 4 (v_nS (k_v C))) (As := [.int 4]) (rest := []) ⟨hx, hb, hml, hown, hts⟩ hK hP (rd_count_4 l g ct C hIV) (cwV 1 hts gL_sections_X9_count rfl rfl rfl (by decide +kernel) ⟨Nat.le_of_ble_eq_true rfl, Nat.le_of_ble_eq_true rfl⟩) rfl hl.1 rfl (Nat.le_of_ble_eq_true rfl) dL_sections_259 ⟨Nat.le_of_ble_eq_true rfl, Nat.le_of_ble_eq_true rfl⟩ ?_
        refine lv_iload_n hx hb dL_sections_262 rfl (lv_at hl 3 rfl) ?_
        refine lv_icmp_ne (tgt := 321) hx hb dL_sections_263 (by decide) (fun c_4 => ?_) (fun c_4 => ?_)
        · exact absurd rfl c_4
        · refine lv_aload_n hx hb dL_sections_266 rfl (lv_at hl 0 rfl) ?_
          refine z_oVi (C := C) (K := fun u => Sm C u) (v := shI (k_v C)) (As := []) (rest := []) ⟨hx, hb, hml, hown, hts⟩ hK hP hD hS hNW hA (ac_shutInI l g ct _ C hIV (by omega)) (cwV 0 hts gL_sections_X9_shutIn rfl rfl rfl (by decide +kernel) ⟨Nat.le_of_ble_eq_true rfl, Nat.le_of_ble_eq_true rfl⟩) rfl hl.1 rfl (Nat.le_of_ble_eq_true rfl) dL_sections_267 ⟨Nat.le_of_ble_eq_true rfl, Nat.le_of_ble_eq_true rfl⟩ (fun u_5 H locs hu_6 hP hD hS => ?_)
          obtain ⟨tv_7, rfl⟩ := hu_6
          refine z_cut (B0 := 278) (st2 := [.int (if (shI (k_v C) = 0) then 1 else 0)]) ?_ (fun kk => ?_)
          · refine z_cut (B0 := 288) (st2 := [.int (if (frI (v_co (k_v C)) (v_nS (k_v C)) = 0) then 1 else 0), .int (if (shI (k_v C) = 0) then 1 else 0)]) ?_ (fun kk => ?_)
            · refine lv_icmp_ne (tgt := 321) hx hb dL_sections_288 (by decide) (fun c_8 => ?_) (fun c_8 => ?_)
              · exact absurd (ie (sh_fr hIV)) c_8
              · refine lv_aload_n hx hb dL_sections_291 rfl (lv_at hl 0 rfl) ?_
                refine lv_aload_n hx hb dL_sections_292 rfl (lv_at hl 0 rfl) ?_
                refine lv_bipush (v := 11) hx hb dL_sections_293 (by decide) ?_
                refine z_rVi (C := (k_tvS C tv_7)) (v := nI (v_nS (k_v C))) (As := [.int 11]) (rest := [.ref (k_ba C 0)]) ⟨hx, hb, hml, hown, hts⟩ hK hP (rd_count_11 l g ct ((k_tvS C tv_7)) hIV) (cwV 1 hts gL_sections_X9_count rfl rfl rfl (by decide +kernel) ⟨Nat.le_of_ble_eq_true rfl, Nat.le_of_ble_eq_true rfl⟩) rfl hl.1 rfl (Nat.le_of_ble_eq_true rfl) dL_sections_295 ⟨Nat.le_of_ble_eq_true rfl, Nat.le_of_ble_eq_true rfl⟩ ?_
                refine lv_iconst (v := 0) hx hb dL_sections_298 (by decide) ?_
                refine z_rVi (C := (k_tvS C tv_7)) (v := -1) (As := [.int (nI (v_nS (k_v C))), .int 0]) (rest := []) ⟨hx, hb, hml, hown, hts⟩ hK hP (rd_section_u l g ct ((k_tvS C tv_7)) (iv_nS hIV) (nI (v_nS (k_v C))) 0 (fun q => absurd q.2 Int32.lt_irrefl)) (cwV 2 hts gL_sections_X9_section rfl rfl rfl (by decide +kernel) ⟨Nat.le_of_ble_eq_true rfl, Nat.le_of_ble_eq_true rfl⟩) rfl hl.1 rfl (Nat.le_of_ble_eq_true rfl) dL_sections_299 ⟨Nat.le_of_ble_eq_true rfl, Nat.le_of_ble_eq_true rfl⟩ ?_
                refine lv_iconst (v := (-1)) hx hb dL_sections_302 (by decide) ?_
                refine lv_icmp_ne (tgt := 321) hx hb dL_sections_303 (by decide) (fun h => absurd h (by decide)) (fun _ => ?_)
                refine lv_aload_n hx hb dL_sections_306 rfl (lv_at hl 0 rfl) ?_
                refine lv_bipush (v := 18) hx hb dL_sections_307 (by decide) ?_
                refine z_rVi (C := (k_tvS C tv_7)) (v := -2) (As := [.int 18]) (rest := []) ⟨hx, hb, hml, hown, hts⟩ hK hP (rd_count_18 l g ct ((k_tvS C tv_7)) hIV) (cwV 1 hts gL_sections_X9_count rfl rfl rfl (by decide +kernel) ⟨Nat.le_of_ble_eq_true rfl, Nat.le_of_ble_eq_true rfl⟩) rfl hl.1 rfl (Nat.le_of_ble_eq_true rfl) dL_sections_309 ⟨Nat.le_of_ble_eq_true rfl, Nat.le_of_ble_eq_true rfl⟩ ?_
                refine lv_bipush (v := (-2)) hx hb dL_sections_312 (by decide) ?_
                refine lv_icmp_ne (tgt := 321) hx hb dL_sections_314 (by decide) (fun h => absurd h (by decide)) (fun _ => ?_)
                refine lv_iconst (v := 1) hx hb dL_sections_317 (by decide) ?_
                refine lv_goto (tgt := 322) hx hb dL_sections_318 (by decide) ?_
                exact z_retZ (⟨(k_tvS C tv_7), Sm_t (Sm_0 C) ⟨tv_7, rfl⟩⟩ : {u : CT // Sm C u}) hx hb hr hlocks rfl rfl hS hP hD (Nat.le_of_ble_eq_true rfl) (Nat.le_of_ble_eq_true rfl) dL_sections_322
            · refine lv_iload hx hb dL_sections_278 (lv_at hl 4 rfl) ?_
              refine lv_if_ne (tgt := 287) hx hb dL_sections_280 (by decide) (fun c_9 => ?_) (fun c_9 => ?_)
              · refine lv_iconst (v := 0) hx hb dL_sections_287 (by decide) ?_
                rw [if_neg (by simp [c_9])] at kk; exact kk
              · refine lv_iconst (v := 1) hx hb dL_sections_283 (by decide) ?_
                refine lv_goto (tgt := 288) hx hb dL_sections_284 (by decide) ?_
                rw [if_pos (by simp [c_9])] at kk; exact kk
          · refine lv_if_ne (tgt := 277) hx hb dL_sections_270 (by decide) (fun c_10 => ?_) (fun c_10 => ?_)
            · refine lv_iconst (v := 0) hx hb dL_sections_277 (by decide) ?_
              rw [if_neg (by simp [c_10])] at kk; exact kk
            · refine lv_iconst (v := 1) hx hb dL_sections_273 (by decide) ?_
              refine lv_goto (tgt := 278) hx hb dL_sections_274 (by decide) ?_
              rw [if_pos (by simp [c_10])] at kk; exact kk
  · refine lv_aload_n hx hb dL_sections_24 rfl (lv_at hl 0 rfl) ?_
    refine lv_iload hx hb dL_sections_25 (lv_at hl 5 rfl) ?_
    refine lv_iconst (v := 3) hx hb dL_sections_27 (by decide) ?_
    refine z_rVi (C := C) (v := v_co (k_v C) k1) (As := [.int (nI k1), .int 3]) (rest := []) ⟨hx, hb, hml, hown, hts⟩ hK hP (rd_section_3 l g ct C hIV k1 (show k1 < v_nS (k_v C) by omega)) (cwV 2 hts gL_sections_X9_section rfl rfl rfl (by decide +kernel) ⟨Nat.le_of_ble_eq_true rfl, Nat.le_of_ble_eq_true rfl⟩) rfl hl.1 rfl (Nat.le_of_ble_eq_true rfl) dL_sections_28 ⟨Nat.le_of_ble_eq_true rfl, Nat.le_of_ble_eq_true rfl⟩ ?_
    refine lv_istore (lv' := [(6, .int (v_co (k_v C) k1)), (0, .ref (k_ba C 0)), (1, .int (mvI (v_co (k_v C)) k1)), (2, .int (cntI (v_co (k_v C)) 2 k1)), (3, .int (cntI (v_co (k_v C)) 4 k1)), (4, .int (frI (v_co (k_v C)) k1)), (5, .int (nI k1))]) hx hb dL_sections_31 hl (by decide) rfl (fun ls hl => ?_)
    refine lv_aload_n hx hb dL_sections_33 rfl (lv_at hl 1 rfl) ?_
    refine lv_iload hx hb dL_sections_34 (lv_at hl 6 rfl) ?_
    refine lv_iconst (v := 4) hx hb dL_sections_36 (by decide) ?_
    refine z_rVi (C := C) (v := if v_co (k_v C) k1 = 1 ∨ v_co (k_v C) k1 = 3 then v_le (k_v C) k1 else -5) (As := [.int (nI k1), .int 4]) (rest := []) ⟨hx, hb, hml, hown, hts⟩ hK hP (rd_section_4 l g ct C hIV k1 (show k1 < v_nS (k_v C) by omega)) (cwV 2 hts gL_sections_X9_section rfl rfl rfl (by decide +kernel) ⟨Nat.le_of_ble_eq_true rfl, Nat.le_of_ble_eq_true rfl⟩) rfl hl.1 rfl (Nat.le_of_ble_eq_true rfl) dL_sections_37 ⟨Nat.le_of_ble_eq_true rfl, Nat.le_of_ble_eq_true rfl⟩ ?_
    refine lv_istore (lv' := [(7, .int (if v_co (k_v C) k1 = 1 ∨ v_co (k_v C) k1 = 3 then v_le (k_v C) k1 else -5)), (6, .int (v_co (k_v C) k1)), (0, .ref (k_ba C 0)), (1, .int (mvI (v_co (k_v C)) k1)), (2, .int (cntI (v_co (k_v C)) 2 k1)), (3, .int (cntI (v_co (k_v C)) 4 k1)), (4, .int (frI (v_co (k_v C)) k1)), (5, .int (nI k1))]) hx hb dL_sections_40 hl (by decide) rfl (fun ls hl => ?_)
    refine z_cut (B0 := 59) (st2 := [.int (if (v_co (k_v C) k1 = 1 ∨ v_co (k_v C) k1 = 3) then 1 else 0)]) ?_ (fun kk => ?_)
    · refine lv_istore (lv' := [(8, .int (if (v_co (k_v C) k1 = 1 ∨ v_co (k_v C) k1 = 3) then 1 else 0)), (7, .int (if v_co (k_v C) k1 = 1 ∨ v_co (k_v C) k1 = 3 then v_le (k_v C) k1 else -5)), (6, .int (v_co (k_v C) k1)), (0, .ref (k_ba C 0)), (1, .int (mvI (v_co (k_v C)) k1)), (2, .int (cntI (v_co (k_v C)) 2 k1)), (3, .int (cntI (v_co (k_v C)) 4 k1)), (4, .int (frI (v_co (k_v C)) k1)), (5, .int (nI k1))]) hx hb dL_sections_59 hl (by decide) rfl (fun ls hl => ?_)
      refine lv_iload hx hb dL_sections_61 (lv_at hl 0 rfl) ?_
      refine z_bif_eq (P := (v_co (k_v C) k1 = 1 ∨ v_co (k_v C) k1 = 3)) (tgt := 75) hx hb dL_sections_63 (by decide) (fun c_11 => ?_) (fun c_11 => ?_)
      · refine lv_iload_n hx hb dL_sections_75 rfl (lv_at hl 5 rfl) ?_
        refine z_cut (B0 := 87) (st2 := [.int (if v_co (k_v C) k1 = 2 then 1 else 0), .int (cntI (v_co (k_v C)) 2 k1)]) ?_ (fun kk => ?_)
        · refine lv_iadd hx hb dL_sections_87 ?_
          refine lv_istore_n (lv' := [(2, .int ((cntI (v_co (k_v C)) 2 k1) + (if v_co (k_v C) k1 = 2 then 1 else 0))), (8, .int (if (v_co (k_v C) k1 = 1 ∨ v_co (k_v C) k1 = 3) then 1 else 0)), (7, .int (if v_co (k_v C) k1 = 1 ∨ v_co (k_v C) k1 = 3 then v_le (k_v C) k1 else -5)), (6, .int (v_co (k_v C) k1)), (0, .ref (k_ba C 0)), (1, .int (mvI (v_co (k_v C)) k1)), (3, .int (cntI (v_co (k_v C)) 4 k1)), (4, .int (frI (v_co (k_v C)) k1)), (5, .int (nI k1))]) hx hb dL_sections_88 rfl hl (by decide) rfl (fun ls hl => ?_)
          refine lv_iload_n hx hb dL_sections_89 rfl (lv_at hl 6 rfl) ?_
          refine z_cut (B0 := 101) (st2 := [.int (if v_co (k_v C) k1 = 4 then 1 else 0), .int (cntI (v_co (k_v C)) 4 k1)]) ?_ (fun kk => ?_)
          · refine lv_iadd hx hb dL_sections_101 ?_
            refine lv_istore_n (lv' := [(3, .int ((cntI (v_co (k_v C)) 4 k1) + (if v_co (k_v C) k1 = 4 then 1 else 0))), (2, .int ((cntI (v_co (k_v C)) 2 k1) + (if v_co (k_v C) k1 = 2 then 1 else 0))), (8, .int (if (v_co (k_v C) k1 = 1 ∨ v_co (k_v C) k1 = 3) then 1 else 0)), (7, .int (if v_co (k_v C) k1 = 1 ∨ v_co (k_v C) k1 = 3 then v_le (k_v C) k1 else -5)), (6, .int (v_co (k_v C) k1)), (0, .ref (k_ba C 0)), (1, .int (mvI (v_co (k_v C)) k1)), (4, .int (frI (v_co (k_v C)) k1)), (5, .int (nI k1))]) hx hb dL_sections_102 rfl hl (by decide) rfl (fun ls hl => ?_)
            refine lv_iload hx hb dL_sections_103 (lv_at hl 7 rfl) ?_
            refine z_cut (B0 := 120) (st2 := [.int (if (v_co (k_v C) k1 = 1 ∨ v_co (k_v C) k1 = 3) ∨ v_co (k_v C) k1 = 0 then 1 else 0), .int (frI (v_co (k_v C)) k1)]) ?_ (fun kk => ?_)
            · refine lv_iadd hx hb dL_sections_120 ?_
              refine lv_istore (lv' := [(4, .int ((frI (v_co (k_v C)) k1) + (if (v_co (k_v C) k1 = 1 ∨ v_co (k_v C) k1 = 3) ∨ v_co (k_v C) k1 = 0 then 1 else 0))), (3, .int ((cntI (v_co (k_v C)) 4 k1) + (if v_co (k_v C) k1 = 4 then 1 else 0))), (2, .int ((cntI (v_co (k_v C)) 2 k1) + (if v_co (k_v C) k1 = 2 then 1 else 0))), (8, .int (if (v_co (k_v C) k1 = 1 ∨ v_co (k_v C) k1 = 3) then 1 else 0)), (7, .int (if v_co (k_v C) k1 = 1 ∨ v_co (k_v C) k1 = 3 then v_le (k_v C) k1 else -5)), (6, .int (v_co (k_v C) k1)), (0, .ref (k_ba C 0)), (1, .int (mvI (v_co (k_v C)) k1)), (5, .int (nI k1))]) hx hb dL_sections_121 hl (by decide) rfl (fun ls hl => ?_)
              refine lv_iload hx hb dL_sections_123 (lv_at hl 3 rfl) ?_
              refine z_cut (B0 := 135) (st2 := [.int (if (¬ (if v_co (k_v C) k1 = 1 ∨ v_co (k_v C) k1 = 3 then v_le (k_v C) k1 else -5) ≤ 0) then 1 else 0), .int (if (v_co (k_v C) k1 = 1 ∨ v_co (k_v C) k1 = 3) then 1 else 0)]) ?_ (fun kk => ?_)
              · refine lv_icmp_ne (tgt := 231) hx hb dL_sections_135 (by decide) (fun c_12 => ?_) (fun c_12 => ?_)
                · exact absurd (ie (fs_le hIV (show k1 < v_nS (k_v C) by omega))) c_12
                · refine lv_iload hx hb dL_sections_138 (lv_at hl 3 rfl) ?_
                  refine z_bif_ne (P := (v_co (k_v C) k1 = 1 ∨ v_co (k_v C) k1 = 3)) (tgt := 150) hx hb dL_sections_140 (by decide) (fun c_13 => ?_) (fun c_13 => ?_)
                  · exact absurd c_13 c_11
                  · refine lv_iload hx hb dL_sections_143 (lv_at hl 4 rfl) ?_
                    refine lv_bipush (v := (-5)) hx hb dL_sections_145 (by decide) ?_
                    refine lv_icmp_ne (tgt := 231) hx hb dL_sections_147 (by decide) (fun c_14 => ?_) (fun c_14 => ?_)
                    · exact absurd (if_neg c_11) c_14
                    · refine lv_iload hx hb dL_sections_150 (lv_at hl 4 rfl) ?_
                      refine lv_aload_n hx hb dL_sections_152 rfl (lv_at hl 6 rfl) ?_
                      refine lv_iload hx hb dL_sections_153 (lv_at hl 8 rfl) ?_
                      refine lv_iconst (v := 1) hx hb dL_sections_155 (by decide) ?_
                      refine z_rVi (C := C) (v := v_ho (k_v C) k1) (As := [.int (nI k1), .int 1]) (rest := [.int (if v_co (k_v C) k1 = 1 ∨ v_co (k_v C) k1 = 3 then v_le (k_v C) k1 else -5)]) ⟨hx, hb, hml, hown, hts⟩ hK hP (rd_section_1 l g ct C hIV k1 (show k1 < v_nS (k_v C) by omega)) (cwV 2 hts gL_sections_X9_section rfl rfl rfl (by decide +kernel) ⟨Nat.le_of_ble_eq_true rfl, Nat.le_of_ble_eq_true rfl⟩) rfl hl.1 rfl (Nat.le_of_ble_eq_true rfl) dL_sections_156 ⟨Nat.le_of_ble_eq_true rfl, Nat.le_of_ble_eq_true rfl⟩ ?_
                      refine lv_icmp_gt (tgt := 231) hx hb dL_sections_159 (by decide) (fun c_15 => ?_) (fun c_15 => ?_)
                      · exact absurd c_15 (fs_ho hIV (show k1 < v_nS (k_v C) by omega))
                      · refine lv_aload_n hx hb dL_sections_162 rfl (lv_at hl 6 rfl) ?_
                        refine lv_iload hx hb dL_sections_163 (lv_at hl 8 rfl) ?_
                        refine lv_iconst (v := 5) hx hb dL_sections_165 (by decide) ?_
                        refine z_rVi (C := C) (v := v_cs (k_v C) k1) (As := [.int (nI k1), .int 5]) (rest := []) ⟨hx, hb, hml, hown, hts⟩ hK hP (rd_section_5 l g ct C hIV k1 (show k1 < v_nS (k_v C) by omega)) (cwV 2 hts gL_sections_X9_section rfl rfl rfl (by decide +kernel) ⟨Nat.le_of_ble_eq_true rfl, Nat.le_of_ble_eq_true rfl⟩) rfl hl.1 rfl (Nat.le_of_ble_eq_true rfl) dL_sections_166 ⟨Nat.le_of_ble_eq_true rfl, Nat.le_of_ble_eq_true rfl⟩ ?_
                        refine lv_aload_n hx hb dL_sections_169 rfl (lv_at hl 6 rfl) ?_
                        refine lv_iload hx hb dL_sections_170 (lv_at hl 8 rfl) ?_
                        refine lv_iconst (v := 2) hx hb dL_sections_172 (by decide) ?_
                        refine z_rVi (C := C) (v := v_li (k_v C) k1) (As := [.int (nI k1), .int 2]) (rest := [.int (v_cs (k_v C) k1)]) ⟨hx, hb, hml, hown, hts⟩ hK hP (rd_section_2 l g ct C hIV k1 (show k1 < v_nS (k_v C) by omega)) (cwV 2 hts gL_sections_X9_section rfl rfl rfl (by decide +kernel) ⟨Nat.le_of_ble_eq_true rfl, Nat.le_of_ble_eq_true rfl⟩) rfl hl.1 rfl (Nat.le_of_ble_eq_true rfl) dL_sections_173 ⟨Nat.le_of_ble_eq_true rfl, Nat.le_of_ble_eq_true rfl⟩ ?_
                        refine lv_icmp_gt (tgt := 231) hx hb dL_sections_176 (by decide) (fun c_16 => ?_) (fun c_16 => ?_)
                        · exact absurd c_16 (fs_li hIV (show k1 < v_nS (k_v C) by omega))
                        · refine z_cut (B0 := 202) (st2 := []) ?_ (fun kk => ?_)
                          · refine z_cut (B0 := 218) (st2 := []) ?_ (fun kk => ?_)
                            · refine lv_aload_n hx hb dL_sections_218 rfl (lv_at hl 6 rfl) ?_
                              refine lv_iload hx hb dL_sections_219 (lv_at hl 8 rfl) ?_
                              refine lv_bipush (v := 6) hx hb dL_sections_221 (by decide) ?_
                              refine z_rVi (C := C) (v := -2) (As := [.int (nI k1), .int 6]) (rest := []) ⟨hx, hb, hml, hown, hts⟩ hK hP (rd_section_6 l g ct C hIV k1 (show k1 < v_nS (k_v C) by omega)) (cwV 2 hts gL_sections_X9_section rfl rfl rfl (by decide +kernel) ⟨Nat.le_of_ble_eq_true rfl, Nat.le_of_ble_eq_true rfl⟩) rfl hl.1 rfl (Nat.le_of_ble_eq_true rfl) dL_sections_223 ⟨Nat.le_of_ble_eq_true rfl, Nat.le_of_ble_eq_true rfl⟩ ?_
                              refine lv_bipush (v := (-2)) hx hb dL_sections_226 (by decide) ?_
                              refine lv_icmp_eq (tgt := 233) hx hb dL_sections_228 (by decide) (fun _ => ?_) (fun h => absurd h (by decide))
                              refine lv_iinc (v := nI (k1 + 1)) (lv' := [(5, .int (nI (k1 + 1))), (4, .int ((frI (v_co (k_v C)) k1) + (if (v_co (k_v C) k1 = 1 ∨ v_co (k_v C) k1 = 3) ∨ v_co (k_v C) k1 = 0 then 1 else 0))), (3, .int ((cntI (v_co (k_v C)) 4 k1) + (if v_co (k_v C) k1 = 4 then 1 else 0))), (2, .int ((cntI (v_co (k_v C)) 2 k1) + (if v_co (k_v C) k1 = 2 then 1 else 0))), (8, .int (if (v_co (k_v C) k1 = 1 ∨ v_co (k_v C) k1 = 3) then 1 else 0)), (7, .int (if v_co (k_v C) k1 = 1 ∨ v_co (k_v C) k1 = 3 then v_le (k_v C) k1 else -5)), (6, .int (v_co (k_v C) k1)), (0, .ref (k_ba C 0)), (1, .int (mvI (v_co (k_v C)) k1))]) hx hb dL_sections_233 hl (k := 8) rfl (nI_add k1 1) (by decide) rfl (fun ls hl => ?_)
                              refine lv_goto (tgt := 13) hx hb dL_sections_236 (by decide) ?_
                              exact ihk1 _ _ _ (by omega) ⟨hP, hD, hS, (by rw [mv_s0 c_11, cnt_s, cnt_s]; exact lv_sub hl [7, 8, 3, 2, 1, 0] rfl)⟩
                            · refine lv_iload hx hb dL_sections_202 (lv_at hl 5 rfl) ?_
                              refine lv_iconst (v := 2) hx hb dL_sections_204 (by decide) ?_
                              refine lv_icmp_ne (tgt := 218) hx hb dL_sections_205 (by decide) (fun c_17 => ?_) (fun c_17 => ?_)
                              · exact kk
                              · refine lv_aload_n hx hb dL_sections_208 rfl (lv_at hl 6 rfl) ?_
                                refine lv_iload hx hb dL_sections_209 (lv_at hl 8 rfl) ?_
                                refine lv_iconst (v := 5) hx hb dL_sections_211 (by decide) ?_
                                refine z_rVi (C := C) (v := v_cs (k_v C) k1) (As := [.int (nI k1), .int 5]) (rest := []) ⟨hx, hb, hml, hown, hts⟩ hK hP (rd_section_5 l g ct C hIV k1 (show k1 < v_nS (k_v C) by omega)) (cwV 2 hts gL_sections_X9_section rfl rfl rfl (by decide +kernel) ⟨Nat.le_of_ble_eq_true rfl, Nat.le_of_ble_eq_true rfl⟩) rfl hl.1 rfl (Nat.le_of_ble_eq_true rfl) dL_sections_212 ⟨Nat.le_of_ble_eq_true rfl, Nat.le_of_ble_eq_true rfl⟩ ?_
                                refine lv_if_eq (tgt := 231) hx hb dL_sections_215 (by decide) (fun c_18 => ?_) (fun c_18 => ?_)
                                · exact absurd c_18 (fs_2 hIV (show k1 < v_nS (k_v C) by omega) c_17)
                                · exact kk
                          · refine lv_iload hx hb dL_sections_179 (lv_at hl 5 rfl) ?_
                            refine lv_iconst (v := 4) hx hb dL_sections_181 (by decide) ?_
                            refine lv_icmp_ne (tgt := 202) hx hb dL_sections_182 (by decide) (fun c_19 => ?_) (fun c_19 => ?_)
                            · exact kk
                            · refine lv_aload_n hx hb dL_sections_185 rfl (lv_at hl 6 rfl) ?_
                              refine lv_iload hx hb dL_sections_186 (lv_at hl 8 rfl) ?_
                              refine lv_iconst (v := 5) hx hb dL_sections_188 (by decide) ?_
                              refine z_rVi (C := C) (v := v_cs (k_v C) k1) (As := [.int (nI k1), .int 5]) (rest := []) ⟨hx, hb, hml, hown, hts⟩ hK hP (rd_section_5 l g ct C hIV k1 (show k1 < v_nS (k_v C) by omega)) (cwV 2 hts gL_sections_X9_section rfl rfl rfl (by decide +kernel) ⟨Nat.le_of_ble_eq_true rfl, Nat.le_of_ble_eq_true rfl⟩) rfl hl.1 rfl (Nat.le_of_ble_eq_true rfl) dL_sections_189 ⟨Nat.le_of_ble_eq_true rfl, Nat.le_of_ble_eq_true rfl⟩ ?_
                              refine lv_aload_n hx hb dL_sections_192 rfl (lv_at hl 6 rfl) ?_
                              refine lv_iload hx hb dL_sections_193 (lv_at hl 8 rfl) ?_
                              refine lv_iconst (v := 2) hx hb dL_sections_195 (by decide) ?_
                              refine z_rVi (C := C) (v := v_li (k_v C) k1) (As := [.int (nI k1), .int 2]) (rest := [.int (v_cs (k_v C) k1)]) ⟨hx, hb, hml, hown, hts⟩ hK hP (rd_section_2 l g ct C hIV k1 (show k1 < v_nS (k_v C) by omega)) (cwV 2 hts gL_sections_X9_section rfl rfl rfl (by decide +kernel) ⟨Nat.le_of_ble_eq_true rfl, Nat.le_of_ble_eq_true rfl⟩) rfl hl.1 rfl (Nat.le_of_ble_eq_true rfl) dL_sections_196 ⟨Nat.le_of_ble_eq_true rfl, Nat.le_of_ble_eq_true rfl⟩ ?_
                              refine lv_icmp_lt (tgt := 231) hx hb dL_sections_199 (by decide) (fun c_20 => ?_) (fun c_20 => ?_)
                              · exact absurd c_20 (fs_4 hIV (show k1 < v_nS (k_v C) by omega) c_19)
                              · exact kk
              · refine lv_iload hx hb dL_sections_125 (lv_at hl 4 rfl) ?_
                refine lv_if_le (tgt := 134) hx hb dL_sections_127 (by decide) (fun c_21 => ?_) (fun c_21 => ?_)
                · refine lv_iconst (v := 0) hx hb dL_sections_134 (by decide) ?_
                  rw [if_neg (by simp [c_21])] at kk; exact kk
                · refine lv_iconst (v := 1) hx hb dL_sections_130 (by decide) ?_
                  refine lv_goto (tgt := 135) hx hb dL_sections_131 (by decide) ?_
                  rw [if_pos (by simp [c_21])] at kk; exact kk
            · refine lv_iload hx hb dL_sections_105 (lv_at hl 2 rfl) ?_
              refine z_bif_ne (P := (v_co (k_v C) k1 = 1 ∨ v_co (k_v C) k1 = 3)) (tgt := 115) hx hb dL_sections_107 (by decide) (fun c_22 => ?_) (fun c_22 => ?_)
              · exact absurd c_22 c_11
              · refine lv_iload hx hb dL_sections_110 (lv_at hl 4 rfl) ?_
                refine lv_if_ne (tgt := 119) hx hb dL_sections_112 (by decide) (fun c_23 => ?_) (fun c_23 => ?_)
                · refine lv_iconst (v := 0) hx hb dL_sections_119 (by decide) ?_
                  rw [if_neg (by simp [c_22, c_23])] at kk; exact kk
                · refine lv_iconst (v := 1) hx hb dL_sections_115 (by decide) ?_
                  refine lv_goto (tgt := 120) hx hb dL_sections_116 (by decide) ?_
                  rw [if_pos (by simp [c_22, c_23])] at kk; exact kk
          · refine lv_iload hx hb dL_sections_90 (lv_at hl 3 rfl) ?_
            refine lv_iconst (v := 4) hx hb dL_sections_92 (by decide) ?_
            refine lv_icmp_ne (tgt := 100) hx hb dL_sections_93 (by decide) (fun c_24 => ?_) (fun c_24 => ?_)
            · refine lv_iconst (v := 0) hx hb dL_sections_100 (by decide) ?_
              rw [if_neg (by simp [c_24])] at kk; exact kk
            · refine lv_iconst (v := 1) hx hb dL_sections_96 (by decide) ?_
              refine lv_goto (tgt := 101) hx hb dL_sections_97 (by decide) ?_
              rw [if_pos (by simp [c_24])] at kk; exact kk
        · refine lv_iload hx hb dL_sections_76 (lv_at hl 2 rfl) ?_
          refine lv_iconst (v := 2) hx hb dL_sections_78 (by decide) ?_
          refine lv_icmp_ne (tgt := 86) hx hb dL_sections_79 (by decide) (fun c_25 => ?_) (fun c_25 => ?_)
          · refine lv_iconst (v := 0) hx hb dL_sections_86 (by decide) ?_
            rw [if_neg (by simp [c_25])] at kk; exact kk
          · refine lv_iconst (v := 1) hx hb dL_sections_82 (by decide) ?_
            refine lv_goto (tgt := 87) hx hb dL_sections_83 (by decide) ?_
            rw [if_pos (by simp [c_25])] at kk; exact kk
      · refine lv_iload_n hx hb dL_sections_66 rfl (lv_at hl 4 rfl) ?_
        refine lv_if_lt (tgt := 72) hx hb dL_sections_67 (by decide) (fun c_26 => ?_) (fun c_26 => ?_)
        · refine lv_iload hx hb dL_sections_72 (lv_at hl 8 rfl) ?_
          refine lv_istore_n (lv' := [(1, .int (nI k1)), (8, .int (if (v_co (k_v C) k1 = 1 ∨ v_co (k_v C) k1 = 3) then 1 else 0)), (7, .int (if v_co (k_v C) k1 = 1 ∨ v_co (k_v C) k1 = 3 then v_le (k_v C) k1 else -5)), (6, .int (v_co (k_v C) k1)), (0, .ref (k_ba C 0)), (2, .int (cntI (v_co (k_v C)) 2 k1)), (3, .int (cntI (v_co (k_v C)) 4 k1)), (4, .int (frI (v_co (k_v C)) k1)), (5, .int (nI k1))]) hx hb dL_sections_74 rfl hl (by decide) rfl (fun ls hl => ?_)
          refine lv_iload_n hx hb dL_sections_75 rfl (lv_at hl 5 rfl) ?_
          refine z_cut (B0 := 87) (st2 := [.int (if v_co (k_v C) k1 = 2 then 1 else 0), .int (cntI (v_co (k_v C)) 2 k1)]) ?_ (fun kk => ?_)
          · refine lv_iadd hx hb dL_sections_87 ?_
            refine lv_istore_n (lv' := [(2, .int ((cntI (v_co (k_v C)) 2 k1) + (if v_co (k_v C) k1 = 2 then 1 else 0))), (1, .int (nI k1)), (8, .int (if (v_co (k_v C) k1 = 1 ∨ v_co (k_v C) k1 = 3) then 1 else 0)), (7, .int (if v_co (k_v C) k1 = 1 ∨ v_co (k_v C) k1 = 3 then v_le (k_v C) k1 else -5)), (6, .int (v_co (k_v C) k1)), (0, .ref (k_ba C 0)), (3, .int (cntI (v_co (k_v C)) 4 k1)), (4, .int (frI (v_co (k_v C)) k1)), (5, .int (nI k1))]) hx hb dL_sections_88 rfl hl (by decide) rfl (fun ls hl => ?_)
            refine lv_iload_n hx hb dL_sections_89 rfl (lv_at hl 6 rfl) ?_
            refine z_cut (B0 := 101) (st2 := [.int (if v_co (k_v C) k1 = 4 then 1 else 0), .int (cntI (v_co (k_v C)) 4 k1)]) ?_ (fun kk => ?_)
            · refine lv_iadd hx hb dL_sections_101 ?_
              refine lv_istore_n (lv' := [(3, .int ((cntI (v_co (k_v C)) 4 k1) + (if v_co (k_v C) k1 = 4 then 1 else 0))), (2, .int ((cntI (v_co (k_v C)) 2 k1) + (if v_co (k_v C) k1 = 2 then 1 else 0))), (1, .int (nI k1)), (8, .int (if (v_co (k_v C) k1 = 1 ∨ v_co (k_v C) k1 = 3) then 1 else 0)), (7, .int (if v_co (k_v C) k1 = 1 ∨ v_co (k_v C) k1 = 3 then v_le (k_v C) k1 else -5)), (6, .int (v_co (k_v C) k1)), (0, .ref (k_ba C 0)), (4, .int (frI (v_co (k_v C)) k1)), (5, .int (nI k1))]) hx hb dL_sections_102 rfl hl (by decide) rfl (fun ls hl => ?_)
              refine lv_iload hx hb dL_sections_103 (lv_at hl 7 rfl) ?_
              refine z_cut (B0 := 120) (st2 := [.int (if (v_co (k_v C) k1 = 1 ∨ v_co (k_v C) k1 = 3) ∨ v_co (k_v C) k1 = 0 then 1 else 0), .int (frI (v_co (k_v C)) k1)]) ?_ (fun kk => ?_)
              · refine lv_iadd hx hb dL_sections_120 ?_
                refine lv_istore (lv' := [(4, .int ((frI (v_co (k_v C)) k1) + (if (v_co (k_v C) k1 = 1 ∨ v_co (k_v C) k1 = 3) ∨ v_co (k_v C) k1 = 0 then 1 else 0))), (3, .int ((cntI (v_co (k_v C)) 4 k1) + (if v_co (k_v C) k1 = 4 then 1 else 0))), (2, .int ((cntI (v_co (k_v C)) 2 k1) + (if v_co (k_v C) k1 = 2 then 1 else 0))), (1, .int (nI k1)), (8, .int (if (v_co (k_v C) k1 = 1 ∨ v_co (k_v C) k1 = 3) then 1 else 0)), (7, .int (if v_co (k_v C) k1 = 1 ∨ v_co (k_v C) k1 = 3 then v_le (k_v C) k1 else -5)), (6, .int (v_co (k_v C) k1)), (0, .ref (k_ba C 0)), (5, .int (nI k1))]) hx hb dL_sections_121 hl (by decide) rfl (fun ls hl => ?_)
                refine lv_iload hx hb dL_sections_123 (lv_at hl 4 rfl) ?_
                refine z_cut (B0 := 135) (st2 := [.int (if (¬ (if v_co (k_v C) k1 = 1 ∨ v_co (k_v C) k1 = 3 then v_le (k_v C) k1 else -5) ≤ 0) then 1 else 0), .int (if (v_co (k_v C) k1 = 1 ∨ v_co (k_v C) k1 = 3) then 1 else 0)]) ?_ (fun kk => ?_)
                · refine lv_icmp_ne (tgt := 231) hx hb dL_sections_135 (by decide) (fun c_27 => ?_) (fun c_27 => ?_)
                  · exact absurd (ie (fs_le hIV (show k1 < v_nS (k_v C) by omega))) c_27
                  · refine lv_iload hx hb dL_sections_138 (lv_at hl 4 rfl) ?_
                    refine z_bif_ne (P := (v_co (k_v C) k1 = 1 ∨ v_co (k_v C) k1 = 3)) (tgt := 150) hx hb dL_sections_140 (by decide) (fun c_28 => ?_) (fun c_28 => ?_)
                    · refine lv_iload hx hb dL_sections_150 (lv_at hl 5 rfl) ?_
                      refine lv_aload_n hx hb dL_sections_152 rfl (lv_at hl 7 rfl) ?_
                      refine lv_iload hx hb dL_sections_153 (lv_at hl 8 rfl) ?_
                      refine lv_iconst (v := 1) hx hb dL_sections_155 (by decide) ?_
                      refine z_rVi (C := C) (v := v_ho (k_v C) k1) (As := [.int (nI k1), .int 1]) (rest := [.int (if v_co (k_v C) k1 = 1 ∨ v_co (k_v C) k1 = 3 then v_le (k_v C) k1 else -5)]) ⟨hx, hb, hml, hown, hts⟩ hK hP (rd_section_1 l g ct C hIV k1 (show k1 < v_nS (k_v C) by omega)) (cwV 2 hts gL_sections_X9_section rfl rfl rfl (by decide +kernel) ⟨Nat.le_of_ble_eq_true rfl, Nat.le_of_ble_eq_true rfl⟩) rfl hl.1 rfl (Nat.le_of_ble_eq_true rfl) dL_sections_156 ⟨Nat.le_of_ble_eq_true rfl, Nat.le_of_ble_eq_true rfl⟩ ?_
                      refine lv_icmp_gt (tgt := 231) hx hb dL_sections_159 (by decide) (fun c_29 => ?_) (fun c_29 => ?_)
                      · exact absurd c_29 (fs_ho hIV (show k1 < v_nS (k_v C) by omega))
                      · refine lv_aload_n hx hb dL_sections_162 rfl (lv_at hl 7 rfl) ?_
                        refine lv_iload hx hb dL_sections_163 (lv_at hl 8 rfl) ?_
                        refine lv_iconst (v := 5) hx hb dL_sections_165 (by decide) ?_
                        refine z_rVi (C := C) (v := v_cs (k_v C) k1) (As := [.int (nI k1), .int 5]) (rest := []) ⟨hx, hb, hml, hown, hts⟩ hK hP (rd_section_5 l g ct C hIV k1 (show k1 < v_nS (k_v C) by omega)) (cwV 2 hts gL_sections_X9_section rfl rfl rfl (by decide +kernel) ⟨Nat.le_of_ble_eq_true rfl, Nat.le_of_ble_eq_true rfl⟩) rfl hl.1 rfl (Nat.le_of_ble_eq_true rfl) dL_sections_166 ⟨Nat.le_of_ble_eq_true rfl, Nat.le_of_ble_eq_true rfl⟩ ?_
                        refine lv_aload_n hx hb dL_sections_169 rfl (lv_at hl 7 rfl) ?_
                        refine lv_iload hx hb dL_sections_170 (lv_at hl 8 rfl) ?_
                        refine lv_iconst (v := 2) hx hb dL_sections_172 (by decide) ?_
                        refine z_rVi (C := C) (v := v_li (k_v C) k1) (As := [.int (nI k1), .int 2]) (rest := [.int (v_cs (k_v C) k1)]) ⟨hx, hb, hml, hown, hts⟩ hK hP (rd_section_2 l g ct C hIV k1 (show k1 < v_nS (k_v C) by omega)) (cwV 2 hts gL_sections_X9_section rfl rfl rfl (by decide +kernel) ⟨Nat.le_of_ble_eq_true rfl, Nat.le_of_ble_eq_true rfl⟩) rfl hl.1 rfl (Nat.le_of_ble_eq_true rfl) dL_sections_173 ⟨Nat.le_of_ble_eq_true rfl, Nat.le_of_ble_eq_true rfl⟩ ?_
                        refine lv_icmp_gt (tgt := 231) hx hb dL_sections_176 (by decide) (fun c_30 => ?_) (fun c_30 => ?_)
                        · exact absurd c_30 (fs_li hIV (show k1 < v_nS (k_v C) by omega))
                        · refine z_cut (B0 := 202) (st2 := []) ?_ (fun kk => ?_)
                          · refine z_cut (B0 := 218) (st2 := []) ?_ (fun kk => ?_)
                            · refine lv_aload_n hx hb dL_sections_218 rfl (lv_at hl 7 rfl) ?_
                              refine lv_iload hx hb dL_sections_219 (lv_at hl 8 rfl) ?_
                              refine lv_bipush (v := 6) hx hb dL_sections_221 (by decide) ?_
                              refine z_rVi (C := C) (v := -2) (As := [.int (nI k1), .int 6]) (rest := []) ⟨hx, hb, hml, hown, hts⟩ hK hP (rd_section_6 l g ct C hIV k1 (show k1 < v_nS (k_v C) by omega)) (cwV 2 hts gL_sections_X9_section rfl rfl rfl (by decide +kernel) ⟨Nat.le_of_ble_eq_true rfl, Nat.le_of_ble_eq_true rfl⟩) rfl hl.1 rfl (Nat.le_of_ble_eq_true rfl) dL_sections_223 ⟨Nat.le_of_ble_eq_true rfl, Nat.le_of_ble_eq_true rfl⟩ ?_
                              refine lv_bipush (v := (-2)) hx hb dL_sections_226 (by decide) ?_
                              refine lv_icmp_eq (tgt := 233) hx hb dL_sections_228 (by decide) (fun _ => ?_) (fun h => absurd h (by decide))
                              refine lv_iinc (v := nI (k1 + 1)) (lv' := [(5, .int (nI (k1 + 1))), (4, .int ((frI (v_co (k_v C)) k1) + (if (v_co (k_v C) k1 = 1 ∨ v_co (k_v C) k1 = 3) ∨ v_co (k_v C) k1 = 0 then 1 else 0))), (3, .int ((cntI (v_co (k_v C)) 4 k1) + (if v_co (k_v C) k1 = 4 then 1 else 0))), (2, .int ((cntI (v_co (k_v C)) 2 k1) + (if v_co (k_v C) k1 = 2 then 1 else 0))), (1, .int (nI k1)), (8, .int (if (v_co (k_v C) k1 = 1 ∨ v_co (k_v C) k1 = 3) then 1 else 0)), (7, .int (if v_co (k_v C) k1 = 1 ∨ v_co (k_v C) k1 = 3 then v_le (k_v C) k1 else -5)), (6, .int (v_co (k_v C) k1)), (0, .ref (k_ba C 0))]) hx hb dL_sections_233 hl (k := 8) rfl (nI_add k1 1) (by decide) rfl (fun ls hl => ?_)
                              refine lv_goto (tgt := 13) hx hb dL_sections_236 (by decide) ?_
                              exact ihk1 _ _ _ (by omega) ⟨hP, hD, hS, (by rw [(mv_s1 (iv_s hIV).2 (show k1 < v_nS (k_v C) by omega) c_11).1, cnt_s, cnt_s]; exact lv_sub hl [8, 4, 3, 2, 1, 0] rfl)⟩
                            · refine lv_iload hx hb dL_sections_202 (lv_at hl 6 rfl) ?_
                              refine lv_iconst (v := 2) hx hb dL_sections_204 (by decide) ?_
                              refine lv_icmp_ne (tgt := 218) hx hb dL_sections_205 (by decide) (fun c_31 => ?_) (fun c_31 => ?_)
                              · exact kk
                              · refine lv_aload_n hx hb dL_sections_208 rfl (lv_at hl 7 rfl) ?_
                                refine lv_iload hx hb dL_sections_209 (lv_at hl 8 rfl) ?_
                                refine lv_iconst (v := 5) hx hb dL_sections_211 (by decide) ?_
                                refine z_rVi (C := C) (v := v_cs (k_v C) k1) (As := [.int (nI k1), .int 5]) (rest := []) ⟨hx, hb, hml, hown, hts⟩ hK hP (rd_section_5 l g ct C hIV k1 (show k1 < v_nS (k_v C) by omega)) (cwV 2 hts gL_sections_X9_section rfl rfl rfl (by decide +kernel) ⟨Nat.le_of_ble_eq_true rfl, Nat.le_of_ble_eq_true rfl⟩) rfl hl.1 rfl (Nat.le_of_ble_eq_true rfl) dL_sections_212 ⟨Nat.le_of_ble_eq_true rfl, Nat.le_of_ble_eq_true rfl⟩ ?_
                                refine lv_if_eq (tgt := 231) hx hb dL_sections_215 (by decide) (fun c_32 => ?_) (fun c_32 => ?_)
                                · exact absurd c_32 (fs_2 hIV (show k1 < v_nS (k_v C) by omega) c_31)
                                · exact kk
                          · refine lv_iload hx hb dL_sections_179 (lv_at hl 6 rfl) ?_
                            refine lv_iconst (v := 4) hx hb dL_sections_181 (by decide) ?_
                            refine lv_icmp_ne (tgt := 202) hx hb dL_sections_182 (by decide) (fun c_33 => ?_) (fun c_33 => ?_)
                            · exact kk
                            · refine lv_aload_n hx hb dL_sections_185 rfl (lv_at hl 7 rfl) ?_
                              refine lv_iload hx hb dL_sections_186 (lv_at hl 8 rfl) ?_
                              refine lv_iconst (v := 5) hx hb dL_sections_188 (by decide) ?_
                              refine z_rVi (C := C) (v := v_cs (k_v C) k1) (As := [.int (nI k1), .int 5]) (rest := []) ⟨hx, hb, hml, hown, hts⟩ hK hP (rd_section_5 l g ct C hIV k1 (show k1 < v_nS (k_v C) by omega)) (cwV 2 hts gL_sections_X9_section rfl rfl rfl (by decide +kernel) ⟨Nat.le_of_ble_eq_true rfl, Nat.le_of_ble_eq_true rfl⟩) rfl hl.1 rfl (Nat.le_of_ble_eq_true rfl) dL_sections_189 ⟨Nat.le_of_ble_eq_true rfl, Nat.le_of_ble_eq_true rfl⟩ ?_
                              refine lv_aload_n hx hb dL_sections_192 rfl (lv_at hl 7 rfl) ?_
                              refine lv_iload hx hb dL_sections_193 (lv_at hl 8 rfl) ?_
                              refine lv_iconst (v := 2) hx hb dL_sections_195 (by decide) ?_
                              refine z_rVi (C := C) (v := v_li (k_v C) k1) (As := [.int (nI k1), .int 2]) (rest := [.int (v_cs (k_v C) k1)]) ⟨hx, hb, hml, hown, hts⟩ hK hP (rd_section_2 l g ct C hIV k1 (show k1 < v_nS (k_v C) by omega)) (cwV 2 hts gL_sections_X9_section rfl rfl rfl (by decide +kernel) ⟨Nat.le_of_ble_eq_true rfl, Nat.le_of_ble_eq_true rfl⟩) rfl hl.1 rfl (Nat.le_of_ble_eq_true rfl) dL_sections_196 ⟨Nat.le_of_ble_eq_true rfl, Nat.le_of_ble_eq_true rfl⟩ ?_
                              refine lv_icmp_lt (tgt := 231) hx hb dL_sections_199 (by decide) (fun c_34 => ?_) (fun c_34 => ?_)
                              · exact absurd c_34 (fs_4 hIV (show k1 < v_nS (k_v C) by omega) c_33)
                              · exact kk
                    · exact absurd c_11 c_28
                · refine lv_iload hx hb dL_sections_125 (lv_at hl 5 rfl) ?_
                  refine lv_if_le (tgt := 134) hx hb dL_sections_127 (by decide) (fun c_35 => ?_) (fun c_35 => ?_)
                  · refine lv_iconst (v := 0) hx hb dL_sections_134 (by decide) ?_
                    rw [if_neg (by simp [c_35])] at kk; exact kk
                  · refine lv_iconst (v := 1) hx hb dL_sections_130 (by decide) ?_
                    refine lv_goto (tgt := 135) hx hb dL_sections_131 (by decide) ?_
                    rw [if_pos (by simp [c_35])] at kk; exact kk
              · refine lv_iload hx hb dL_sections_105 (lv_at hl 3 rfl) ?_
                refine z_bif_ne (P := (v_co (k_v C) k1 = 1 ∨ v_co (k_v C) k1 = 3)) (tgt := 115) hx hb dL_sections_107 (by decide) (fun c_36 => ?_) (fun c_36 => ?_)
                · refine lv_iconst (v := 1) hx hb dL_sections_115 (by decide) ?_
                  refine lv_goto (tgt := 120) hx hb dL_sections_116 (by decide) ?_
                  rw [if_pos (by simp [c_36])] at kk; exact kk
                · exact absurd c_11 c_36
            · refine lv_iload hx hb dL_sections_90 (lv_at hl 4 rfl) ?_
              refine lv_iconst (v := 4) hx hb dL_sections_92 (by decide) ?_
              refine lv_icmp_ne (tgt := 100) hx hb dL_sections_93 (by decide) (fun c_37 => ?_) (fun c_37 => ?_)
              · refine lv_iconst (v := 0) hx hb dL_sections_100 (by decide) ?_
                rw [if_neg (by simp [c_37])] at kk; exact kk
              · refine lv_iconst (v := 1) hx hb dL_sections_96 (by decide) ?_
                refine lv_goto (tgt := 101) hx hb dL_sections_97 (by decide) ?_
                rw [if_pos (by simp [c_37])] at kk; exact kk
          · refine lv_iload hx hb dL_sections_76 (lv_at hl 3 rfl) ?_
            refine lv_iconst (v := 2) hx hb dL_sections_78 (by decide) ?_
            refine lv_icmp_ne (tgt := 86) hx hb dL_sections_79 (by decide) (fun c_38 => ?_) (fun c_38 => ?_)
            · refine lv_iconst (v := 0) hx hb dL_sections_86 (by decide) ?_
              rw [if_neg (by simp [c_38])] at kk; exact kk
            · refine lv_iconst (v := 1) hx hb dL_sections_82 (by decide) ?_
              refine lv_goto (tgt := 87) hx hb dL_sections_83 (by decide) ?_
              rw [if_pos (by simp [c_38])] at kk; exact kk
        · exact absurd (show mvI (v_co (k_v C)) k1 < 0 by rw [(mv_s1 (iv_s hIV).2 (show k1 < v_nS (k_v C) by omega) c_11).2]; decide) c_26
    · refine lv_iload hx hb dL_sections_42 (lv_at hl 1 rfl) ?_
      refine lv_iconst (v := 1) hx hb dL_sections_44 (by decide) ?_
      refine lv_icmp_eq (tgt := 54) hx hb dL_sections_45 (by decide) (fun c_39 => ?_) (fun c_39 => ?_)
      · refine lv_iconst (v := 1) hx hb dL_sections_54 (by decide) ?_
        refine lv_goto (tgt := 59) hx hb dL_sections_55 (by decide) ?_
        rw [if_pos (by simp [c_39])] at kk; exact kk
      · refine lv_iload hx hb dL_sections_48 (lv_at hl 1 rfl) ?_
        refine lv_iconst (v := 3) hx hb dL_sections_50 (by decide) ?_
        refine lv_icmp_ne (tgt := 58) hx hb dL_sections_51 (by decide) (fun c_40 => ?_) (fun c_40 => ?_)
        · refine lv_iconst (v := 0) hx hb dL_sections_58 (by decide) ?_
          rw [if_neg (by simp [c_39, c_40])] at kk; exact kk
        · refine lv_iconst (v := 1) hx hb dL_sections_54 (by decide) ?_
          refine lv_goto (tgt := 59) hx hb dL_sections_55 (by decide) ?_
          rw [if_pos (by simp [c_39, c_40])] at kk; exact kk
