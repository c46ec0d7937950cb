theorem z_kk {p : Program} {l : Launch} {e : Env} {R : Room} {s : State} {m : MethodId} {args : Array Value} {below : List Frame} {meth : Method} {c : Code} {H : Heap} {locs : List Loc} {cells slots : Nat} {Q : State → Prop} {pc : Nat} {ls : Array Slot} {rest : List Value} {x y : Int32} (e1 : y = x) (kk : W p l e R s m args below meth c H locs cells slots Q (F0 m pc ls (.int y :: rest))) : W p l e R s m args below meth c H locs cells slots Q (F0 m pc ls (.int x :: rest)) := by
  subst e1
  exact kk

set_option maxHeartbeats 4000000 in
set_option maxRecDepth 100000 in
theorem c_L_waters (l : Launch) (g : va_G) (ct : Nat → ClassId) (sz : Nat) (C : CT) {T : Nat} (hIV : IV (k_v C) T) (hT : T ≤ 100) : Met l yL_waters wsL_waters (zRm 6 143) (va_Pc [.ref (k_ba C 0)] (zW g ct (CW ct C) sz)) (zEi (S := {u : CT // Sm C u}) g (fun u => CW ct u.1) 1 (va_A (CW ct C) sz)) 0 0 (va_A (CW ct C) sz) := by
  refine z_write (QA := zEi (S := {u : CT // Sm C u}) g (fun u => CW ct u.1) 1) (cc := cL_waters) (maxL := 12) (ret := some .boolean) (by decide) rfl (Nat.le_of_ble_eq_true rfl) ?_
  intro p e s m below meth c ls A hx hb hr hml hts hown hlocks hin hP hK hD hNW hA hS hl
  have hown : s.vm.findClass RL = some m.cls := hown
  have hl : lv_has ls 12 [(0, .ref (k_ba C 0))] := hl
  have hnP := iv_nP hIV
  have hh := iv_h hIV
  refine lv_aload_n hx hb dL_waters_0 rfl (lv_at hl 0 rfl) ?_
  refine lv_iconst (v := 1) hx hb dL_waters_1 (by decide) ?_
  refine z_rVl (C := C) (v := v_fi (k_v C)) (As := [.int 1]) (rest := []) ⟨hx, hb, hml, hown, hts⟩ hK hP (rd_water_1 l g ct C hIV) (cwV 1 hts gL_waters_X9_water rfl rfl rfl (by decide +kernel) ⟨Nat.le_of_ble_eq_true rfl, Nat.le_of_ble_eq_true rfl⟩) rfl hl.1 rfl (Nat.le_of_ble_eq_true rfl) dL_waters_2 ⟨Nat.le_of_ble_eq_true rfl, Nat.le_of_ble_eq_true rfl⟩ ?_
  refine lv_aload_n hx hb dL_waters_5 rfl (lv_at hl 0 rfl) ?_
  refine lv_iconst (v := 2) hx hb dL_waters_6 (by decide) ?_
  refine z_rVl (C := C) (v := v_fo (k_v C)) (As := [.int 2]) (rest := [.long (v_fi (k_v C))]) ⟨hx, hb, hml, hown, hts⟩ hK hP (rd_water_2 l g ct C hIV) (cwV 1 hts gL_waters_X9_water rfl rfl rfl (by decide +kernel) ⟨Nat.le_of_ble_eq_true rfl, Nat.le_of_ble_eq_true rfl⟩) rfl hl.1 rfl (Nat.le_of_ble_eq_true rfl) dL_waters_7 ⟨Nat.le_of_ble_eq_true rfl, Nat.le_of_ble_eq_true rfl⟩ ?_
  refine lv_lsub hx hb dL_waters_10 ?_
  refine lv_aload_n hx hb dL_waters_11 rfl (lv_at hl 0 rfl) ?_
  refine lv_iconst (v := 3) hx hb dL_waters_12 (by decide) ?_
  refine z_rVl (C := C) (v := v_fv (k_v C)) (As := [.int 3]) (rest := [.long ((v_fi (k_v C)) - (v_fo (k_v C)))]) ⟨hx, hb, hml, hown, hts⟩ hK hP (rd_water_3 l g ct C hIV) (cwV 1 hts gL_waters_X9_water rfl rfl rfl (by decide +kernel) ⟨Nat.le_of_ble_eq_true rfl, Nat.le_of_ble_eq_true rfl⟩) rfl hl.1 rfl (Nat.le_of_ble_eq_true rfl) dL_waters_13 ⟨Nat.le_of_ble_eq_true rfl, Nat.le_of_ble_eq_true rfl⟩ ?_
  refine lv_ladd hx hb dL_waters_16 ?_
  refine lv_aload_n hx hb dL_waters_17 rfl (lv_at hl 0 rfl) ?_
  refine lv_iconst (v := 4) hx hb dL_waters_18 (by decide) ?_
  refine z_rVl (C := C) (v := v_br (k_v C)) (As := [.int 4]) (rest := [.long (((v_fi (k_v C)) - (v_fo (k_v C))) + (v_fv (k_v C)))]) ⟨hx, hb, hml, hown, hts⟩ hK hP (rd_water_4 l g ct C hIV) (cwV 1 hts gL_waters_X9_water rfl rfl rfl (by decide +kernel) ⟨Nat.le_of_ble_eq_true rfl, Nat.le_of_ble_eq_true rfl⟩) rfl hl.1 rfl (Nat.le_of_ble_eq_true rfl) dL_waters_19 ⟨Nat.le_of_ble_eq_true rfl, Nat.le_of_ble_eq_true rfl⟩ ?_
  refine lv_ladd hx hb dL_waters_22 ?_
  refine lv_aload_n hx hb dL_waters_23 rfl (lv_at hl 0 rfl) ?_
  refine lv_iconst (v := 5) hx hb dL_waters_24 (by decide) ?_
  refine z_rVl (C := C) (v := v_pu (k_v C)) (As := [.int 5]) (rest := [.long ((((v_fi (k_v C)) - (v_fo (k_v C))) + (v_fv (k_v C))) + (v_br (k_v C)))]) ⟨hx, hb, hml, hown, hts⟩ hK hP (rd_water_5 l g ct C hIV) (cwV 1 hts gL_waters_X9_water rfl rfl rfl (by decide +kernel) ⟨Nat.le_of_ble_eq_true rfl, Nat.le_of_ble_eq_true rfl⟩) rfl hl.1 rfl (Nat.le_of_ble_eq_true rfl) dL_waters_25 ⟨Nat.le_of_ble_eq_true rfl, Nat.le_of_ble_eq_true rfl⟩ ?_
  refine lv_lsub hx hb dL_waters_28 ?_
  refine lv_lstore_n (lv' := [(1, .long (((((v_fi (k_v C)) - (v_fo (k_v C))) + (v_fv (k_v C))) + (v_br (k_v C))) - (v_pu (k_v C)))), (0, .ref (k_ba C 0))]) hx hb dL_waters_29 rfl hl (by decide) rfl (fun ls hl => ?_)
  refine lv_aload_n hx hb dL_waters_30 rfl (lv_at hl 1 rfl) ?_
  refine lv_iconst (v := 0) hx hb dL_waters_31 (by decide) ?_
  refine z_rVl (C := C) (v := v_vo (k_v C)) (As := [.int 0]) (rest := []) ⟨hx, hb, hml, hown, hts⟩ hK hP (rd_water_0 l g ct C hIV) (cwV 1 hts gL_waters_X9_water rfl rfl rfl (by decide +kernel) ⟨Nat.le_of_ble_eq_true rfl, Nat.le_of_ble_eq_true rfl⟩) rfl hl.1 rfl (Nat.le_of_ble_eq_true rfl) dL_waters_32 ⟨Nat.le_of_ble_eq_true rfl, Nat.le_of_ble_eq_true rfl⟩ ?_
  refine lv_l2d hx hb dL_waters_35 ?_
  refine lv_aload_n hx hb dL_waters_36 rfl (lv_at hl 1 rfl) ?_
  refine lv_bipush (v := 9) hx hb dL_waters_37 (by decide) ?_
  refine z_rVi (C := C) (v := v_ar (k_v C)) (As := [.int 9]) (rest := [.double (FP.l2d (v_vo (k_v C)))]) ⟨hx, hb, hml, hown, hts⟩ hK hP (rd_count_9 l g ct C hIV) (cwV 1 hts gL_waters_X9_count rfl rfl rfl (by decide +kernel) ⟨Nat.le_of_ble_eq_true rfl, Nat.le_of_ble_eq_true rfl⟩) rfl hl.1 rfl (Nat.le_of_ble_eq_true rfl) dL_waters_39 ⟨Nat.le_of_ble_eq_true rfl, Nat.le_of_ble_eq_true rfl⟩ ?_
  refine lv_i2d hx hb dL_waters_42 ?_
  refine lv_ddiv hx hb dL_waters_43 (nn_inn (iv_ar hIV) _) ?_
  refine lv_dstore_n (lv' := [(3, .double (FP.ddiv (FP.l2d (v_vo (k_v C))) (FP.i2d (v_ar (k_v C))))), (1, .long (((((v_fi (k_v C)) - (v_fo (k_v C))) + (v_fv (k_v C))) + (v_br (k_v C))) - (v_pu (k_v C)))), (0, .ref (k_ba C 0))]) hx hb dL_waters_44 rfl hl (by decide) rfl (fun ls hl => ?_)
  refine lv_aload_n hx hb dL_waters_45 rfl (lv_at hl 2 rfl) ?_
  refine lv_iconst (v := 3) hx hb dL_waters_46 (by decide) ?_
  refine z_rVd (C := C) (v := 9221120237041090560) (As := [.int 3]) (rest := []) ⟨hx, hb, hml, hown, hts⟩ hK hP (rd_level_3 l g ct C hIV (by omega)) (cwV 1 hts gL_waters_X9_level rfl rfl rfl (by decide +kernel) ⟨Nat.le_of_ble_eq_true rfl, Nat.le_of_ble_eq_true rfl⟩) rfl hl.1 rfl (Nat.le_of_ble_eq_true rfl) dL_waters_47 ⟨Nat.le_of_ble_eq_true rfl, Nat.le_of_ble_eq_true rfl⟩ ?_
  refine lv_dstore (lv' := [(5, .double 9221120237041090560), (3, .double (FP.ddiv (FP.l2d (v_vo (k_v C))) (FP.i2d (v_ar (k_v C))))), (1, .long (((((v_fi (k_v C)) - (v_fo (k_v C))) + (v_fv (k_v C))) + (v_br (k_v C))) - (v_pu (k_v C)))), (0, .ref (k_ba C 0))]) hx hb dL_waters_50 hl (by decide) rfl (fun ls hl => ?_)
  refine lv_aload_n hx hb dL_waters_52 rfl (lv_at hl 3 rfl) ?_
  refine lv_bipush (v := 49) hx hb dL_waters_53 (by decide) ?_
  refine z_rVd (C := C) (v := 9221120237041090560) (As := [.int 49]) (rest := []) ⟨hx, hb, hml, hown, hts⟩ hK hP (rd_forecast_a l g ct C 49 (by decide)) (cwV 1 hts gL_waters_X9_forecast rfl rfl rfl (by decide +kernel) ⟨Nat.le_of_ble_eq_true rfl, Nat.le_of_ble_eq_true rfl⟩) rfl hl.1 rfl (Nat.le_of_ble_eq_true rfl) dL_waters_55 ⟨Nat.le_of_ble_eq_true rfl, Nat.le_of_ble_eq_true rfl⟩ ?_
  refine lv_dstore (lv' := [(7, .double 9221120237041090560), (5, .double 9221120237041090560), (3, .double (FP.ddiv (FP.l2d (v_vo (k_v C))) (FP.i2d (v_ar (k_v C))))), (1, .long (((((v_fi (k_v C)) - (v_fo (k_v C))) + (v_fv (k_v C))) + (v_br (k_v C))) - (v_pu (k_v C)))), (0, .ref (k_ba C 0))]) hx hb dL_waters_58 hl (by decide) rfl (fun ls hl => ?_)
  refine lv_iconst (v := 0) hx hb dL_waters_60 (by decide) ?_
  refine lv_istore (lv' := [(9, .int 0), (7, .double 9221120237041090560), (5, .double 9221120237041090560), (3, .double (FP.ddiv (FP.l2d (v_vo (k_v C))) (FP.i2d (v_ar (k_v C))))), (1, .long (((((v_fi (k_v C)) - (v_fo (k_v C))) + (v_fv (k_v C))) + (v_br (k_v C))) - (v_pu (k_v C)))), (0, .ref (k_ba C 0))]) hx hb dL_waters_61 hl (by decide) rfl (fun ls hl => ?_)
  refine lv_iconst (v := 0) hx hb dL_waters_63 (by decide) ?_
  refine lv_istore (lv' := [(10, .int 0), (9, .int 0), (7, .double 9221120237041090560), (5, .double 9221120237041090560), (3, .double (FP.ddiv (FP.l2d (v_vo (k_v C))) (FP.i2d (v_ar (k_v C))))), (1, .long (((((v_fi (k_v C)) - (v_fo (k_v C))) + (v_fv (k_v C))) + (v_br (k_v C))) - (v_pu (k_v C)))), (0, .ref (k_ba C 0))]) hx hb dL_waters_64 hl (by decide) rfl (fun ls hl => ?_)
  refine z_loop (v_nP (k_v C)) (fun k1 H locs ls => va_P g vwCl (CW ct C) H ∧ va_D A (CW ct C) ∧ va_S A s.heap H locs ∧ lv_has ls 12 [(0, .ref (k_ba C 0)), (1, .long (v_fi (k_v C) - v_fo (k_v C) + v_fv (k_v C) + v_br (k_v C) - v_pu (k_v C))), (3, .double (FP.ddiv (FP.l2d (v_vo (k_v C))) (FP.i2d (v_ar (k_v C))))), (5, .double 9221120237041090560), (7, .double 9221120237041090560), (9, .int (drN (v_on (k_v C)) (v_po (k_v C)) (v_lim (k_v C)) k1)), (10, .int (nI k1))]) ⟨hP, hD, hS, lv_sub hl [6, 5, 4, 3, 2, 1, 0] rfl⟩ ?_
  intro k1 H locs ls hkk1 hI ihk1
  obtain ⟨hP, hD, hS, hl⟩ := hI
  refine lv_iload hx hb dL_waters_66 (lv_at hl 6 rfl) ?_
  refine lv_aload_n hx hb dL_waters_68 rfl (lv_at hl 0 rfl) ?_
  refine lv_bipush (v := 14) hx hb dL_waters_69 (by decide) ?_
  refine z_rVi (C := C) (v := nI (v_nP (k_v C))) (As := [.int 14]) (rest := [.int (nI k1)]) ⟨hx, hb, hml, hown, hts⟩ hK hP (rd_count_14 l g ct C hIV) (cwV 1 hts gL_waters_X9_count rfl rfl rfl (by decide +kernel) ⟨Nat.le_of_ble_eq_true rfl, Nat.le_of_ble_eq_true rfl⟩) rfl hl.1 rfl (Nat.le_of_ble_eq_true rfl) dL_waters_71 ⟨Nat.le_of_ble_eq_true rfl, Nat.le_of_ble_eq_true rfl⟩ ?_
  refine z_icN_ge (x := k1) (y := (v_nP (k_v C))) (tgt := 178) hx hb (by omega) (by omega) dL_waters_74 (by decide) (fun c_1 => ?_) (fun c_1 => ?_)
  · have hkn : v_nP (k_v C) = k1 := by omega
    subst hkn
    refine lv_aload_n hx hb dL_waters_178 rfl (lv_at hl 0 rfl) ?_
    refine lv_iconst (v := 0) hx hb dL_waters_179 (by decide) ?_
    refine z_rVl (C := C) (v := v_vo (k_v C)) (As := [.int 0]) (rest := []) ⟨hx, hb, hml, hown, hts⟩ hK hP (rd_water_0 l g ct C hIV) (cwV 1 hts gL_waters_X9_water rfl rfl rfl (by decide +kernel) ⟨Nat.le_of_ble_eq_true rfl, Nat.le_of_ble_eq_true rfl⟩) rfl hl.1 rfl (Nat.le_of_ble_eq_true rfl) dL_waters_180 ⟨Nat.le_of_ble_eq_true rfl, Nat.le_of_ble_eq_true rfl⟩ ?_
    refine lv_lload_n hx hb dL_waters_183 rfl (lv_at hl 1 rfl) ?_
    refine z_lif_ne (tgt := 306) hx hb dL_waters_184 dL_waters_185 (by decide) (fun c_2 => ?_) (fun c_2 => ?_)
    · exact absurd (iv_w hIV).1 c_2
    · refine lv_lload_n hx hb dL_waters_188 rfl (lv_at hl 1 rfl) ?_
      refine lv_lconst (v := 0) hx hb dL_waters_189 (by decide) ?_
      refine z_lif_lt (tgt := 306) hx hb dL_waters_190 dL_waters_191 (by decide) (fun c_3 => ?_) (fun c_3 => ?_)
      · exact absurd c_3 (fw_nn hIV)
      · refine lv_aload_n hx hb dL_waters_194 rfl (lv_at hl 0 rfl) ?_
        refine lv_iconst (v := 1) hx hb dL_waters_195 (by decide) ?_
        refine z_rVd (C := C) (v := FP.ddiv (FP.l2d (v_vo (k_v C))) (FP.i2d (v_ar (k_v C)))) (As := [.int 1]) (rest := []) ⟨hx, hb, hml, hown, hts⟩ hK hP (rd_level_1 l g ct C hIV (by omega)) (cwV 1 hts gL_waters_X9_level rfl rfl rfl (by decide +kernel) ⟨Nat.le_of_ble_eq_true rfl, Nat.le_of_ble_eq_true rfl⟩) rfl hl.1 rfl (Nat.le_of_ble_eq_true rfl) dL_waters_196 ⟨Nat.le_of_ble_eq_true rfl, Nat.le_of_ble_eq_true rfl⟩ ?_
        refine lv_dload_n hx hb dL_waters_199 rfl (lv_at hl 2 rfl) ?_
        refine lv_dcmp hx hb dL_waters_200 ?_
        refine lv_if_ne (tgt := 306) hx hb dL_waters_201 (by decide) (fun c_4 => ?_) (fun c_4 => ?_)
        · exact absurd (dc_refl (nu_inn (iv_ar hIV) _)) c_4
        · refine lv_aload_n hx hb dL_waters_204 rfl (lv_at hl 0 rfl) ?_
          refine lv_iconst (v := 0) hx hb dL_waters_205 (by decide) ?_
          refine z_oVd (C := C) (K := fun u => Sm C u) (v := FP.ddiv (FP.l2d (v_vo (k_v C))) (FP.i2d (v_ar (k_v C)))) (As := [.int 0]) (rest := []) ⟨hx, hb, hml, hown, hts⟩ hK hP hD hS hNW hA (ac_forecastI l g ct _ C hIV hT 0 (by omega)) (cwV 1 hts gL_waters_X9_forecast rfl rfl rfl (by decide +kernel) ⟨Nat.le_of_ble_eq_true rfl, Nat.le_of_ble_eq_true rfl⟩) rfl hl.1 rfl (Nat.le_of_ble_eq_true rfl) dL_waters_206 ⟨Nat.le_of_ble_eq_true rfl, Nat.le_of_ble_eq_true rfl⟩ (fun u_5 H locs hu_6 hP hD hS => ?_)
          obtain ⟨tv_7, rfl⟩ := hu_6
          refine lv_dload_n hx hb dL_waters_209 rfl (lv_at hl 2 rfl) ?_
          refine lv_dcmp hx hb dL_waters_210 ?_
          refine lv_if_ne (tgt := 306) hx hb dL_waters_211 (by decide) (fun c_8 => ?_) (fun c_8 => ?_)
          · exact absurd c_4 c_8
          · refine lv_dload hx hb dL_waters_214 (lv_at hl 3 rfl) ?_
            refine lv_dload hx hb dL_waters_216 (lv_at hl 3 rfl) ?_
            refine lv_dcmp hx hb dL_waters_218 ?_
            refine lv_if_eq (tgt := 306) hx hb dL_waters_219 (by decide) (fun c_9 => ?_) (fun c_9 => ?_)
            · exact absurd c_9 (by decide +kernel)
            · refine lv_dload hx hb dL_waters_222 (lv_at hl 4 rfl) ?_
              refine lv_dload hx hb dL_waters_224 (lv_at hl 4 rfl) ?_
              refine lv_dcmp hx hb dL_waters_226 ?_
              refine lv_if_eq (tgt := 306) hx hb dL_waters_227 (by decide) (fun c_10 => ?_) (fun c_10 => ?_)
              · exact absurd c_10 c_9
              · refine lv_aload_n hx hb dL_waters_230 rfl (lv_at hl 0 rfl) ?_
                refine lv_bipush (v := 6) hx hb dL_waters_231 (by decide) ?_
                refine z_rVl (C := (k_tvS C tv_7)) (v := -2) (As := [.int 6]) (rest := []) ⟨hx, hb, hml, hown, hts⟩ hK hP (rd_water_6 l g ct ((k_tvS C tv_7)) hIV) (cwV 1 hts gL_waters_X9_water rfl rfl rfl (by decide +kernel) ⟨Nat.le_of_ble_eq_true rfl, Nat.le_of_ble_eq_true rfl⟩) rfl hl.1 rfl (Nat.le_of_ble_eq_true rfl) dL_waters_233 ⟨Nat.le_of_ble_eq_true rfl, Nat.le_of_ble_eq_true rfl⟩ ?_
                refine lv_ldc2 (v := (-2)) hx hb hown (hts (.constantLong RL 44 (-2)) (List.mem_of_getElem? (i := 1) rfl)) dL_waters_236 ?_
                refine z_lif_ne (tgt := 306) hx hb dL_waters_239 dL_waters_240 (by decide) (fun c_11 => ?_) (fun c_11 => ?_)
                · exact absurd rfl c_11
                · refine lv_aload_n hx hb dL_waters_243 rfl (lv_at hl 0 rfl) ?_
                  refine lv_bipush (v := 8) hx hb dL_waters_244 (by decide) ?_
                  refine z_rVi (C := (k_tvS C tv_7)) (v := v_dl (k_v C)) (As := [.int 8]) (rest := []) ⟨hx, hb, hml, hown, hts⟩ hK hP (rd_count_8 l g ct ((k_tvS C tv_7)) hIV) (cwV 1 hts gL_waters_X9_count rfl rfl rfl (by decide +kernel) ⟨Nat.le_of_ble_eq_true rfl, Nat.le_of_ble_eq_true rfl⟩) rfl hl.1 rfl (Nat.le_of_ble_eq_true rfl) dL_waters_246 ⟨Nat.le_of_ble_eq_true rfl, Nat.le_of_ble_eq_true rfl⟩ ?_
                  refine lv_aload_n hx hb dL_waters_249 rfl (lv_at hl 0 rfl) ?_
                  refine lv_bipush (v := 7) hx hb dL_waters_250 (by decide) ?_
                  refine z_rVi (C := (k_tvS C tv_7)) (v := v_cb (k_v C)) (As := [.int 7]) (rest := [.int (v_dl (k_v C))]) ⟨hx, hb, hml, hown, hts⟩ hK hP (rd_count_7 l g ct ((k_tvS C tv_7)) hIV) (cwV 1 hts gL_waters_X9_count rfl rfl rfl (by decide +kernel) ⟨Nat.le_of_ble_eq_true rfl, Nat.le_of_ble_eq_true rfl⟩) rfl hl.1 rfl (Nat.le_of_ble_eq_true rfl) dL_waters_252 ⟨Nat.le_of_ble_eq_true rfl, Nat.le_of_ble_eq_true rfl⟩ ?_
                  refine lv_icmp_gt (tgt := 306) hx hb dL_waters_255 (by decide) (fun c_12 => ?_) (fun c_12 => ?_)
                  · exact absurd c_12 (fw_dl hIV)
                  · refine lv_aload_n hx hb dL_waters_258 rfl (lv_at hl 0 rfl) ?_
                    refine lv_iconst (v := 5) hx hb dL_waters_259 (by decide) ?_
                    refine z_rVi (C := (k_tvS C tv_7)) (v := wcI (v_cl (k_v C)) (v_we (k_v C)) (v_nD (k_v C))) (As := [.int 5]) (rest := []) ⟨hx, hb, hml, hown, hts⟩ hK hP (rd_count_5 l g ct ((k_tvS C tv_7)) hIV) (cwV 1 hts gL_waters_X9_count rfl rfl rfl (by decide +kernel) ⟨Nat.le_of_ble_eq_true rfl, Nat.le_of_ble_eq_true rfl⟩) rfl hl.1 rfl (Nat.le_of_ble_eq_true rfl) dL_waters_260 ⟨Nat.le_of_ble_eq_true rfl, Nat.le_of_ble_eq_true rfl⟩ ?_
                    refine lv_aload_n hx hb dL_waters_263 rfl (lv_at hl 0 rfl) ?_
                    refine lv_bipush (v := 6) hx hb dL_waters_264 (by decide) ?_
                    refine z_rVi (C := (k_tvS C tv_7)) (v := waI (v_we (k_v C)) (v_nD (k_v C))) (As := [.int 6]) (rest := [.int (wcI (v_cl (k_v C)) (v_we (k_v C)) (v_nD (k_v C)))]) ⟨hx, hb, hml, hown, hts⟩ hK hP (rd_count_6 l g ct ((k_tvS C tv_7)) hIV) (cwV 1 hts gL_waters_X9_count rfl rfl rfl (by decide +kernel) ⟨Nat.le_of_ble_eq_true rfl, Nat.le_of_ble_eq_true rfl⟩) rfl hl.1 rfl (Nat.le_of_ble_eq_true rfl) dL_waters_266 ⟨Nat.le_of_ble_eq_true rfl, Nat.le_of_ble_eq_true rfl⟩ ?_
                    refine lv_icmp_gt (tgt := 306) hx hb dL_waters_269 (by decide) (fun c_13 => ?_) (fun c_13 => ?_)
                    · exact absurd c_13 (fw_wc hIV)
                    · refine lv_aload_n hx hb dL_waters_272 rfl (lv_at hl 0 rfl) ?_
                      refine lv_bipush (v := 17) hx hb dL_waters_273 (by decide) ?_
                      refine z_rVi (C := (k_tvS C tv_7)) (v := v_idl (k_v C)) (As := [.int 17]) (rest := []) ⟨hx, hb, hml, hown, hts⟩ hK hP (rd_count_17 l g ct ((k_tvS C tv_7)) hIV) (cwV 1 hts gL_waters_X9_count rfl rfl rfl (by decide +kernel) ⟨Nat.le_of_ble_eq_true rfl, Nat.le_of_ble_eq_true rfl⟩) rfl hl.1 rfl (Nat.le_of_ble_eq_true rfl) dL_waters_275 ⟨Nat.le_of_ble_eq_true rfl, Nat.le_of_ble_eq_true rfl⟩ ?_
                      refine lv_aload_n hx hb dL_waters_278 rfl (lv_at hl 0 rfl) ?_
                      refine lv_bipush (v := 14) hx hb dL_waters_279 (by decide) ?_
                      refine z_rVi (C := (k_tvS C tv_7)) (v := nI (v_nP (k_v C))) (As := [.int 14]) (rest := [.int (v_idl (k_v C))]) ⟨hx, hb, hml, hown, hts⟩ hK hP (rd_count_14 l g ct ((k_tvS C tv_7)) hIV) (cwV 1 hts gL_waters_X9_count rfl rfl rfl (by decide +kernel) ⟨Nat.le_of_ble_eq_true rfl, Nat.le_of_ble_eq_true rfl⟩) rfl hl.1 rfl (Nat.le_of_ble_eq_true rfl) dL_waters_281 ⟨Nat.le_of_ble_eq_true rfl, Nat.le_of_ble_eq_true rfl⟩ ?_
                      refine lv_icmp_gt (tgt := 306) hx hb dL_waters_284 (by decide) (fun c_14 => ?_) (fun c_14 => ?_)
                      · exact absurd c_14 (fw_id hIV)
                      · refine lv_aload_n hx hb dL_waters_287 rfl (lv_at hl 0 rfl) ?_
                        refine lv_aload_n hx hb dL_waters_288 rfl (lv_at hl 0 rfl) ?_
                        refine lv_bipush (v := 14) hx hb dL_waters_289 (by decide) ?_
                        refine z_rVi (C := (k_tvS C tv_7)) (v := nI (v_nP (k_v C))) (As := [.int 14]) (rest := [.ref (k_ba C 0)]) ⟨hx, hb, hml, hown, hts⟩ hK hP (rd_count_14 l g ct ((k_tvS C tv_7)) hIV) (cwV 1 hts gL_waters_X9_count rfl rfl rfl (by decide +kernel) ⟨Nat.le_of_ble_eq_true rfl, Nat.le_of_ble_eq_true rfl⟩) rfl hl.1 rfl (Nat.le_of_ble_eq_true rfl) dL_waters_291 ⟨Nat.le_of_ble_eq_true rfl, Nat.le_of_ble_eq_true rfl⟩ ?_
                        refine lv_iconst (v := 0) hx hb dL_waters_294 (by decide) ?_
                        refine z_rVi (C := (k_tvS C tv_7)) (v := -1) (As := [.int (nI (v_nP (k_v C))), .int 0]) (rest := []) ⟨hx, hb, hml, hown, hts⟩ hK hP (rd_pump_u l g ct ((k_tvS C tv_7)) (iv_nP hIV) (nI (v_nP (k_v C))) 0 (fun q => absurd q.2 Int32.lt_irrefl)) (cwV 2 hts gL_waters_X9_pump rfl rfl rfl (by decide +kernel) ⟨Nat.le_of_ble_eq_true rfl, Nat.le_of_ble_eq_true rfl⟩) rfl hl.1 rfl (Nat.le_of_ble_eq_true rfl) dL_waters_295 ⟨Nat.le_of_ble_eq_true rfl, Nat.le_of_ble_eq_true rfl⟩ ?_
                        refine lv_iconst (v := (-1)) hx hb dL_waters_298 (by decide) ?_
                        refine lv_icmp_ne (tgt := 306) hx hb dL_waters_299 (by decide) (fun h => absurd h (by decide)) (fun _ => ?_)
                        refine lv_iconst (v := 1) hx hb dL_waters_302 (by decide) ?_
                        refine lv_goto (tgt := 307) hx hb dL_waters_303 (by decide) ?_
                        exact z_retZ (⟨(k_tvS C tv_7), Sm_t (Sm_0 C) ⟨tv_7, rfl⟩⟩ : {u : CT // Sm C u}) hx hb hr hlocks rfl rfl hS hP hD (Nat.le_of_ble_eq_true rfl) (Nat.le_of_ble_eq_true rfl) dL_waters_307
  · refine z_cut (B0 := 112) (st2 := [.int (if (rbP (v_on (k_v C)) (v_po (k_v C)) (v_lim (k_v C)) (drN (v_on (k_v C)) (v_po (k_v C)) (v_lim (k_v C)) k1) k1) then 1 else 0)]) ?_ (fun kk => ?_)
    · refine lv_istore (lv' := [(11, .int (if (rbP (v_on (k_v C)) (v_po (k_v C)) (v_lim (k_v C)) (drN (v_on (k_v C)) (v_po (k_v C)) (v_lim (k_v C)) k1) k1) then 1 else 0)), (0, .ref (k_ba C 0)), (1, .long (v_fi (k_v C) - v_fo (k_v C) + v_fv (k_v C) + v_br (k_v C) - v_pu (k_v C))), (3, .double (FP.ddiv (FP.l2d (v_vo (k_v C))) (FP.i2d (v_ar (k_v C))))), (5, .double 9221120237041090560), (7, .double 9221120237041090560), (9, .int (drN (v_on (k_v C)) (v_po (k_v C)) (v_lim (k_v C)) k1)), (10, .int (nI k1))]) hx hb dL_waters_112 hl (by decide) rfl (fun ls hl => ?_)
      refine lv_iload hx hb dL_waters_114 (lv_at hl 6 rfl) ?_
      refine z_cut (B0 := 132) (st2 := [.int (if rbP (v_on (k_v C)) (v_po (k_v C)) (v_lim (k_v C)) (drN (v_on (k_v C)) (v_po (k_v C)) (v_lim (k_v C)) k1) k1 then v_po (k_v C) k1 else 0), .int (drN (v_on (k_v C)) (v_po (k_v C)) (v_lim (k_v C)) k1)]) ?_ (fun kk => ?_)
      · refine lv_iadd hx hb dL_waters_132 ?_
        refine lv_istore (lv' := [(9, .int ((drN (v_on (k_v C)) (v_po (k_v C)) (v_lim (k_v C)) k1) + (if rbP (v_on (k_v C)) (v_po (k_v C)) (v_lim (k_v C)) (drN (v_on (k_v C)) (v_po (k_v C)) (v_lim (k_v C)) k1) k1 then v_po (k_v C) k1 else 0))), (11, .int (if (rbP (v_on (k_v C)) (v_po (k_v C)) (v_lim (k_v C)) (drN (v_on (k_v C)) (v_po (k_v C)) (v_lim (k_v C)) k1) k1) then 1 else 0)), (0, .ref (k_ba C 0)), (1, .long (v_fi (k_v C) - v_fo (k_v C) + v_fv (k_v C) + v_br (k_v C) - v_pu (k_v C))), (3, .double (FP.ddiv (FP.l2d (v_vo (k_v C))) (FP.i2d (v_ar (k_v C))))), (5, .double 9221120237041090560), (7, .double 9221120237041090560), (10, .int (nI k1))]) hx hb dL_waters_133 hl (by decide) rfl (fun ls hl => ?_)
        refine lv_aload_n hx hb dL_waters_135 rfl (lv_at hl 2 rfl) ?_
        refine lv_iload hx hb dL_waters_136 (lv_at hl 7 rfl) ?_
        refine lv_iconst (v := 3) hx hb dL_waters_138 (by decide) ?_
        refine z_rVi (C := C) (v := if rbP (v_on (k_v C)) (v_po (k_v C)) (v_lim (k_v C)) (drN (v_on (k_v C)) (v_po (k_v C)) (v_lim (k_v C)) k1) k1 then 1 else 0) (As := [.int (nI k1), .int 3]) (rest := []) ⟨hx, hb, hml, hown, hts⟩ hK hP (rd_pump_3 l g ct C hIV k1 (show k1 < v_nP (k_v C) by omega)) (cwV 2 hts gL_waters_X9_pump rfl rfl rfl (by decide +kernel) ⟨Nat.le_of_ble_eq_true rfl, Nat.le_of_ble_eq_true rfl⟩) rfl hl.1 rfl (Nat.le_of_ble_eq_true rfl) dL_waters_139 ⟨Nat.le_of_ble_eq_true rfl, Nat.le_of_ble_eq_true rfl⟩ ?_
        refine z_cut (B0 := 152) (st2 := [.int (if rbP (v_on (k_v C)) (v_po (k_v C)) (v_lim (k_v C)) (drN (v_on (k_v C)) (v_po (k_v C)) (v_lim (k_v C)) k1) k1 then 1 else 0), .int (if rbP (v_on (k_v C)) (v_po (k_v C)) (v_lim (k_v C)) (drN (v_on (k_v C)) (v_po (k_v C)) (v_lim (k_v C)) k1) k1 then 1 else 0)]) ?_ (fun kk => ?_)
        · refine lv_icmp_ne (tgt := 170) hx hb dL_waters_152 (by decide) (fun c_15 => ?_) (fun c_15 => ?_)
          · exact absurd rfl c_15
          · refine lv_aload_n hx hb dL_waters_155 rfl (lv_at hl 2 rfl) ?_
            refine lv_iload hx hb dL_waters_156 (lv_at hl 7 rfl) ?_
            refine lv_iconst (v := 4) hx hb dL_waters_158 (by decide) ?_
            refine z_rVi (C := C) (v := v_ra (k_v C) k1) (As := [.int (nI k1), .int 4]) (rest := []) ⟨hx, hb, hml, hown, hts⟩ hK hP (rd_pump_4 l g ct C hIV k1 (show k1 < v_nP (k_v C) by omega)) (cwV 2 hts gL_waters_X9_pump rfl rfl rfl (by decide +kernel) ⟨Nat.le_of_ble_eq_true rfl, Nat.le_of_ble_eq_true rfl⟩) rfl hl.1 rfl (Nat.le_of_ble_eq_true rfl) dL_waters_159 ⟨Nat.le_of_ble_eq_true rfl, Nat.le_of_ble_eq_true rfl⟩ ?_
            refine lv_aload_n hx hb dL_waters_162 rfl (lv_at hl 2 rfl) ?_
            refine lv_iconst (v := 0) hx hb dL_waters_163 (by decide) ?_
            refine z_rVi (C := C) (v := nI (v_h (k_v C))) (As := [.int 0]) (rest := [.int (v_ra (k_v C) k1)]) ⟨hx, hb, hml, hown, hts⟩ hK hP (rd_count_0 l g ct C hIV) (cwV 1 hts gL_waters_X9_count rfl rfl rfl (by decide +kernel) ⟨Nat.le_of_ble_eq_true rfl, Nat.le_of_ble_eq_true rfl⟩) rfl hl.1 rfl (Nat.le_of_ble_eq_true rfl) dL_waters_164 ⟨Nat.le_of_ble_eq_true rfl, Nat.le_of_ble_eq_true rfl⟩ ?_
            refine lv_icmp_le (tgt := 172) hx hb dL_waters_167 (by decide) (fun c_16 => ?_) (fun c_16 => ?_)
            · refine lv_iinc (v := nI (k1 + 1)) (lv' := [(10, .int (nI (k1 + 1))), (9, .int ((drN (v_on (k_v C)) (v_po (k_v C)) (v_lim (k_v C)) k1) + (if rbP (v_on (k_v C)) (v_po (k_v C)) (v_lim (k_v C)) (drN (v_on (k_v C)) (v_po (k_v C)) (v_lim (k_v C)) k1) k1 then v_po (k_v C) k1 else 0))), (11, .int (if (rbP (v_on (k_v C)) (v_po (k_v C)) (v_lim (k_v C)) (drN (v_on (k_v C)) (v_po (k_v C)) (v_lim (k_v C)) k1) k1) then 1 else 0)), (0, .ref (k_ba C 0)), (1, .long (v_fi (k_v C) - v_fo (k_v C) + v_fv (k_v C) + v_br (k_v C) - v_pu (k_v C))), (3, .double (FP.ddiv (FP.l2d (v_vo (k_v C))) (FP.i2d (v_ar (k_v C))))), (5, .double 9221120237041090560), (7, .double 9221120237041090560)]) hx hb dL_waters_172 hl (k := 7) rfl (nI_add k1 1) (by decide) rfl (fun ls hl => ?_)
              refine lv_goto (tgt := 66) hx hb dL_waters_175 (by decide) ?_
              exact ihk1 _ _ _ (by omega) ⟨hP, hD, hS, (by rw [drN_s2]; exact lv_sub hl [3, 4, 5, 6, 7, 1, 0] rfl)⟩
            · exact absurd (fw_ra hIV hT (show k1 < v_nP (k_v C) by omega)) c_16
        · refine lv_iload hx hb dL_waters_142 (lv_at hl 1 rfl) ?_
          refine z_bif_eq (P := (rbP (v_on (k_v C)) (v_po (k_v C)) (v_lim (k_v C)) (drN (v_on (k_v C)) (v_po (k_v C)) (v_lim (k_v C)) k1) k1)) (tgt := 151) hx hb dL_waters_144 (by decide) (fun c_17 => ?_) (fun c_17 => ?_)
          · refine lv_iconst (v := 0) hx hb dL_waters_151 (by decide) ?_
            exact z_kk (if_neg c_17) kk
          · refine lv_iconst (v := 1) hx hb dL_waters_147 (by decide) ?_
            refine lv_goto (tgt := 152) hx hb dL_waters_148 (by decide) ?_
            exact z_kk (if_pos c_17) kk
      · refine lv_iload hx hb dL_waters_116 (lv_at hl 0 rfl) ?_
        refine z_bif_eq (P := (rbP (v_on (k_v C)) (v_po (k_v C)) (v_lim (k_v C)) (drN (v_on (k_v C)) (v_po (k_v C)) (v_lim (k_v C)) k1) k1)) (tgt := 131) hx hb dL_waters_118 (by decide) (fun c_18 => ?_) (fun c_18 => ?_)
        · refine lv_iconst (v := 0) hx hb dL_waters_131 (by decide) ?_
          rw [if_neg c_18] at kk; exact kk
        · refine lv_aload_n hx hb dL_waters_121 rfl (lv_at hl 1 rfl) ?_
          refine lv_iload hx hb dL_waters_122 (lv_at hl 7 rfl) ?_
          refine lv_iconst (v := 0) hx hb dL_waters_124 (by decide) ?_
          refine z_rVi (C := C) (v := v_po (k_v C) k1) (As := [.int (nI k1), .int 0]) (rest := [.int (drN (v_on (k_v C)) (v_po (k_v C)) (v_lim (k_v C)) k1)]) ⟨hx, hb, hml, hown, hts⟩ hK hP (rd_pump_0 l g ct C hIV k1 (show k1 < v_nP (k_v C) by omega)) (cwV 2 hts gL_waters_X9_pump rfl rfl rfl (by decide +kernel) ⟨Nat.le_of_ble_eq_true rfl, Nat.le_of_ble_eq_true rfl⟩) rfl hl.1 rfl (Nat.le_of_ble_eq_true rfl) dL_waters_125 ⟨Nat.le_of_ble_eq_true rfl, Nat.le_of_ble_eq_true rfl⟩ ?_
          refine lv_goto (tgt := 132) hx hb dL_waters_128 (by decide) ?_
          rw [if_pos c_18] at kk; exact kk
    · refine lv_aload_n hx hb dL_waters_77 rfl (lv_at hl 0 rfl) ?_
      refine lv_iload hx hb dL_waters_78 (lv_at hl 6 rfl) ?_
      refine lv_iconst (v := 2) hx hb dL_waters_80 (by decide) ?_
      refine z_rVi (C := C) (v := if v_on (k_v C) k1 = 0 then 0 else 1) (As := [.int (nI k1), .int 2]) (rest := []) ⟨hx, hb, hml, hown, hts⟩ hK hP (rd_pump_2 l g ct C hIV k1 (show k1 < v_nP (k_v C) by omega)) (cwV 2 hts gL_waters_X9_pump rfl rfl rfl (by decide +kernel) ⟨Nat.le_of_ble_eq_true rfl, Nat.le_of_ble_eq_true rfl⟩) rfl hl.1 rfl (Nat.le_of_ble_eq_true rfl) dL_waters_81 ⟨Nat.le_of_ble_eq_true rfl, Nat.le_of_ble_eq_true rfl⟩ ?_
      refine lv_iconst (v := 1) hx hb dL_waters_84 (by decide) ?_
      refine lv_icmp_ne (tgt := 111) hx hb dL_waters_85 (by decide) (fun c_19 => ?_) (fun c_19 => ?_)
      · refine lv_iconst (v := 0) hx hb dL_waters_111 (by decide) ?_
        rw [if_neg (fun q => c_19 (on1.mpr q.1))] at kk; exact kk
      · refine lv_iload hx hb dL_waters_88 (lv_at hl 5 rfl) ?_
        refine lv_aload_n hx hb dL_waters_90 rfl (lv_at hl 0 rfl) ?_
        refine lv_iload hx hb dL_waters_91 (lv_at hl 6 rfl) ?_
        refine lv_iconst (v := 0) hx hb dL_waters_93 (by decide) ?_
        refine z_rVi (C := C) (v := v_po (k_v C) k1) (As := [.int (nI k1), .int 0]) (rest := [.int (drN (v_on (k_v C)) (v_po (k_v C)) (v_lim (k_v C)) k1)]) ⟨hx, hb, hml, hown, hts⟩ hK hP (rd_pump_0 l g ct C hIV k1 (show k1 < v_nP (k_v C) by omega)) (cwV 2 hts gL_waters_X9_pump rfl rfl rfl (by decide +kernel) ⟨Nat.le_of_ble_eq_true rfl, Nat.le_of_ble_eq_true rfl⟩) rfl hl.1 rfl (Nat.le_of_ble_eq_true rfl) dL_waters_94 ⟨Nat.le_of_ble_eq_true rfl, Nat.le_of_ble_eq_true rfl⟩ ?_
        refine lv_iadd hx hb dL_waters_97 ?_
        refine lv_aload_n hx hb dL_waters_98 rfl (lv_at hl 0 rfl) ?_
        refine lv_bipush (v := 10) hx hb dL_waters_99 (by decide) ?_
        refine z_rVi (C := C) (v := v_lim (k_v C)) (As := [.int 10]) (rest := [.int ((drN (v_on (k_v C)) (v_po (k_v C)) (v_lim (k_v C)) k1) + (v_po (k_v C) k1))]) ⟨hx, hb, hml, hown, hts⟩ hK hP (rd_count_10 l g ct C hIV) (cwV 1 hts gL_waters_X9_count rfl rfl rfl (by decide +kernel) ⟨Nat.le_of_ble_eq_true rfl, Nat.le_of_ble_eq_true rfl⟩) rfl hl.1 rfl (Nat.le_of_ble_eq_true rfl) dL_waters_101 ⟨Nat.le_of_ble_eq_true rfl, Nat.le_of_ble_eq_true rfl⟩ ?_
        refine lv_icmp_gt (tgt := 111) hx hb dL_waters_104 (by decide) (fun c_20 => ?_) (fun c_20 => ?_)
        · refine lv_iconst (v := 0) hx hb dL_waters_111 (by decide) ?_
          rw [if_neg (fun q => q.2 c_20)] at kk; exact kk
        · refine lv_iconst (v := 1) hx hb dL_waters_107 (by decide) ?_
          refine lv_goto (tgt := 112) hx hb dL_waters_108 (by decide) ?_
          rw [if_pos ⟨on1.mp c_19, c_20⟩] at kk; exact kk
