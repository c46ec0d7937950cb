set_option maxHeartbeats 4000000 in
set_option maxRecDepth 100000 in
theorem c_X9_level_a (l : Launch) (g : va_G) (ct : Nat → ClassId) (f0 ta h0 x0 : Nat) (sn : Value) (ad : Nat → Nat) (v : SVT) (hh : v_h v < 2 ^ 31) (htd : ∀ i, i < 24 → lvOk (v_td v i)) (hal : lvOk (v_al v)) (har : arOk (v_ar v)) (x : Int32) : Met l yX9_level wsX9_level (zRm 4 97) (va_Pc [.ref f0, .int x] (zR g ct [zO f0 8 [.ref (ad 0), .ref ta, .ref h0, .ref x0, sn], zO (ad 0) 5 [.ref (ad 1), .ref (ad 9), .ref (ad 12), .ref (ad 14), .ref (ad 19), .ref (ad 20), .long (v_al v), .int (nI (v_h v)), .int (v_od v), .int (v_cb v), .int (v_dl v)], zO (ad 1) 4 [.int (nI (v_nS v)), .ref (ad 2), .ref (ad 3), .ref (ad 4), .ref (ad 5), .ref (ad 6), .ref (ad 7), .ref (ad 8)], zI ct (ad 2) 8 (v_wi v), zE ct (ad 3) 8 (v_cr v), zI ct (ad 4) 8 (v_ho v), zI ct (ad 5) 8 (v_li v), zI ct (ad 6) 8 (v_co v), zI ct (ad 7) 8 (v_le v), zI ct (ad 8) 8 (v_cs v), zO (ad 9) 1 [.int (nI (v_nD v)), .ref (ad 10), .ref (ad 11)], zI ct (ad 10) 6 (v_we v), zZ ct (ad 11) 6 (v_cl v), zO (ad 12) 6 [.int (nI (v_nT v)), .ref (ad 13)], zI ct (ad 13) 4 (v_sw v), zO (ad 14) 3 [.int (nI (v_nP v)), .int (v_lim v), .int (v_idl v), .ref (ad 15), .ref (ad 16), .ref (ad 17), .ref (ad 18)], zI ct (ad 15) 6 (v_po v), zI ct (ad 16) 6 (v_pw v), zZ ct (ad 17) 6 (v_on v), zI ct (ad 18) 6 (v_ra v), zO (ad 19) 0 [.int (v_ar v), .long (v_vo v), .long (v_fi v), .long (v_fo v), .long (v_fv v), .long (v_br v), .long (v_pu v)], zL ct (ad 20) 24 (v_td v)])) (vp_Sd (fun r => r = if x = 0 then (v_td v (v_h v % 24)).toUInt64 else if x = 1 then FP.ddiv (FP.l2d (v_vo v)) (FP.i2d (v_ar v)) else if x = 2 then (v_al v).toUInt64 else 9221120237041090560)) 0 0 (fun _ => False) := by
  refine z_read (cc := cX9_level) (maxL := 2) (ret := some .double) (by decide) rfl (Nat.le_of_ble_eq_true rfl) ?_
  intro p e s m below meth c ls hx hb hr hml hts hown hlocks hP hK hl
  have hown : s.vm.findClass RX9 = some m.cls := hown
  have hl : lv_has ls 2 [(0, .ref f0), (1, .int x)] := hl
  have hi_wsX90 : ∀ w ∈ wsX90, w ∈ wsX9_level := fun w h => List.mem_cons_of_mem _ (List.mem_append_left _ (List.mem_append_left _ (List.mem_append_right _ h)))
  have hi_wsX60 : ∀ w ∈ wsX60, w ∈ wsX9_level := fun w h => List.mem_cons_of_mem _ (List.mem_append_left _ (List.mem_append_right _ h))
  refine lv_iload_n hx hb dX9_level_0 rfl (lv_at hl 1 rfl) ?_
  by_cases e_1 : x = 0
  · subst e_1
    refine lv_tableIn (off := 27) (tgt := 28) hx hb dX9_level_1 (by decide) (by decide) rfl (by decide) ?_
    refine lv_aload_n hx hb dX9_level_28 rfl (lv_at hl 0 rfl) ?_
    refine va_get (D := g) (ci := 8) (v := .ref (ad 0)) (C := RX9) (T := TX9) (N := 5) hx hb hts hi_wsX90 hown hK hP 0 rfl rfl 0 (by decide) (hts (.fieldLink RX9 10 "FloodBarrier" "now" "LFloodBarrier$State;") (List.mem_of_getElem? (i := 1) rfl)) (fun _ h9 => h9) rfl dX9_level_29 ?_
    refine z_cVd (wc := [zO (ad 0) 5 [.ref (ad 1), .ref (ad 9), .ref (ad 12), .ref (ad 14), .ref (ad 19), .ref (ad 20), .long (v_al v), .int (nI (v_h v)), .int (v_od v), .int (v_cb v), .int (v_dl v)], zO (ad 1) 4 [.int (nI (v_nS v)), .ref (ad 2), .ref (ad 3), .ref (ad 4), .ref (ad 5), .ref (ad 6), .ref (ad 7), .ref (ad 8)], zI ct (ad 2) 8 (v_wi v), zE ct (ad 3) 8 (v_cr v), zI ct (ad 4) 8 (v_ho v), zI ct (ad 5) 8 (v_li v), zI ct (ad 6) 8 (v_co v), zI ct (ad 7) 8 (v_le v), zI ct (ad 8) 8 (v_cs v), zO (ad 9) 1 [.int (nI (v_nD v)), .ref (ad 10), .ref (ad 11)], zI ct (ad 10) 6 (v_we v), zZ ct (ad 11) 6 (v_cl v), zO (ad 12) 6 [.int (nI (v_nT v)), .ref (ad 13)], zI ct (ad 13) 4 (v_sw v), zO (ad 14) 3 [.int (nI (v_nP v)), .int (v_lim v), .int (v_idl v), .ref (ad 15), .ref (ad 16), .ref (ad 17), .ref (ad 18)], zI ct (ad 15) 6 (v_po v), zI ct (ad 16) 6 (v_pw v), zZ ct (ad 17) 6 (v_on v), zI ct (ad 18) 6 (v_ra v), zO (ad 19) 0 [.int (v_ar v), .long (v_vo v), .long (v_fi v), .long (v_fo v), .long (v_fv v), .long (v_br v), .long (v_pu v)], zL ct (ad 20) 24 (v_td v)]) (As := []) (rest := []) ⟨hx, hb, hml, hown, hts⟩ hK hP [1, 2, 3, 4, 5, 6, 7, 8, 9, 10, 11, 12, 13, 14, 15, 16, 17, 18, 19, 20, 21] rfl (c_X6_outer l g ct (ad 0) (ad 1) (ad 2) (ad 3) (ad 4) (ad 5) (ad 6) (ad 7) (ad 8) (ad 9) (ad 10) (ad 11) (ad 12) (ad 13) (ad 14) (ad 15) (ad 16) (ad 17) (ad 18) (ad 19) (ad 20) (v_nS v) (v_wi v) (v_cr v) (v_ho v) (v_li v) (v_co v) (v_le v) (v_cs v) (v_nD v) (v_we v) (v_cl v) (v_nT v) (v_sw v) (v_nP v) (v_lim v) (v_idl v) (v_po v) (v_pw v) (v_on v) (v_ra v) (v_ar v) (v_vo v) (v_fi v) (v_fo v) (v_fv v) (v_br v) (v_pu v) (v_td v) (v_al v) (v_h v) (v_od v) (v_cb v) (v_dl v) (by omega) htd) (cwV 0 hts gX9_level_X6_outer rfl rfl rfl (by decide +kernel) ⟨Nat.le_of_ble_eq_true rfl, Nat.le_of_ble_eq_true rfl⟩) 0 rfl rfl rfl hl.1 rfl (Nat.le_of_ble_eq_true rfl) dX9_level_32 ⟨Nat.zero_le _, Nat.zero_le _⟩ ?_
    exact z_dretR hx hb hr hlocks rfl rfl dX9_level_35
  by_cases e_2 : x = 1
  · subst e_2
    refine lv_tableIn (off := 35) (tgt := 36) hx hb dX9_level_1 (by decide) (by decide) rfl (by decide) ?_
    refine lv_aload_n hx hb dX9_level_36 rfl (lv_at hl 0 rfl) ?_
    refine va_get (D := g) (ci := 8) (v := .ref (ad 0)) (C := RX9) (T := TX9) (N := 5) hx hb hts hi_wsX90 hown hK hP 0 rfl rfl 0 (by decide) (hts (.fieldLink RX9 10 "FloodBarrier" "now" "LFloodBarrier$State;") (List.mem_of_getElem? (i := 1) rfl)) (fun _ h9 => h9) rfl dX9_level_37 ?_
    refine va_get (D := g) (ci := 5) (v := .ref (ad 19)) (C := RX6) (T := TX6) (N := 11) hx hb hts hi_wsX60 hown hK hP 1 rfl rfl 4 (by decide) (hts (.fieldLink RX9 118 "FloodBarrier$State" "basin" "LFloodBarrier$Basin;") (List.mem_of_getElem? (i := 2) rfl)) (fun _ h9 => h9) rfl dX9_level_40 ?_
    refine z_cVd (wc := [zO (ad 19) 0 [.int (v_ar v), .long (v_vo v), .long (v_fi v), .long (v_fo v), .long (v_fv v), .long (v_br v), .long (v_pu v)]]) (As := []) (rest := []) ⟨hx, hb, hml, hown, hts⟩ hK hP [20] rfl (c_X0_inner l g ct (ad 19) (v_ar v) (v_vo v) (v_fi v) (v_fo v) (v_fv v) (v_br v) (v_pu v) (nn_inn har _)) (cwV 0 hts gX9_level_X0_inner rfl rfl rfl (by decide +kernel) ⟨Nat.le_of_ble_eq_true rfl, Nat.le_of_ble_eq_true rfl⟩) 0 rfl rfl rfl hl.1 rfl (Nat.le_of_ble_eq_true rfl) dX9_level_43 ⟨Nat.zero_le _, Nat.zero_le _⟩ ?_
    exact z_dretR hx hb hr hlocks rfl (by first | rfl | (simp [e_1])) dX9_level_46
  by_cases e_3 : x = 2
  · subst e_3
    refine lv_tableIn (off := 46) (tgt := 47) hx hb dX9_level_1 (by decide) (by decide) rfl (by decide) ?_
    refine lv_aload_n hx hb dX9_level_47 rfl (lv_at hl 0 rfl) ?_
    refine va_get (D := g) (ci := 8) (v := .ref (ad 0)) (C := RX9) (T := TX9) (N := 5) hx hb hts hi_wsX90 hown hK hP 0 rfl rfl 0 (by decide) (hts (.fieldLink RX9 10 "FloodBarrier" "now" "LFloodBarrier$State;") (List.mem_of_getElem? (i := 1) rfl)) (fun _ h9 => h9) rfl dX9_level_48 ?_
    refine va_get (D := g) (ci := 5) (v := .long (v_al v)) (C := RX6) (T := TX6) (N := 11) hx hb hts hi_wsX60 hown hK hP 1 rfl rfl 6 (by decide) (hts (.fieldLink RX9 134 "FloodBarrier$State" "alarm" "J") (List.mem_of_getElem? (i := 3) rfl)) (fun _ h9 => h9) rfl dX9_level_51 ?_
    refine z_cSd (As := [.long (v_al v)]) (rest := []) ⟨hx, hb, hml, hown, hts⟩ (c_X3_ofBits l (v_al v) hal) (va_cwS 1 hts gX9_level_X3_ofBits rfl rfl rfl (by decide +kernel) ⟨Nat.le_of_ble_eq_true rfl, Nat.le_of_ble_eq_true rfl⟩) rfl hl.1 rfl (Nat.le_of_ble_eq_true rfl) dX9_level_54 ⟨Nat.zero_le _, Nat.zero_le _⟩ ?_
    exact z_dretR hx hb hr hlocks rfl (by first | rfl | (simp [e_1, e_2])) dX9_level_57
  refine lv_tableOut (tgt := 58) hx hb dX9_level_1 (by have q0 : x.toInt ≠ 0 := fun q => e_1 (Int32.toInt_inj.mp (q.trans (by decide))); have q1 : x.toInt ≠ 1 := fun q => e_2 (Int32.toInt_inj.mp (q.trans (by decide))); have q2 : x.toInt ≠ 2 := fun q => e_3 (Int32.toInt_inj.mp (q.trans (by decide))); omega) (by decide) ?_
  refine lv_ldc2d (v := 9221120237041090560) hx hb hown (hts (.constantDouble RX9 263 (9221120237041090560)) (List.mem_of_getElem? (i := 4) rfl)) dX9_level_58 ?_
  exact z_dretR hx hb hr hlocks rfl (by first | rfl | (simp [e_1, e_2, e_3])) dX9_level_61

set_option maxHeartbeats 4000000 in
set_option maxRecDepth 100000 in
theorem c_X9_water_a (l : Launch) (g : va_G) (ct : Nat → ClassId) (f0 ta h0 x0 : Nat) (sn : Value) (ad : Nat → Nat) (v : SVT) (x : Int32) : Met l yX9_water wsX9_water (zRm 0 0) (va_Pc [.ref f0, .int x] (zR g ct [zO f0 8 [.ref (ad 0), .ref ta, .ref h0, .ref x0, sn], zO (ad 0) 5 [.ref (ad 1), .ref (ad 9), .ref (ad 12), .ref (ad 14), .ref (ad 19), .ref (ad 20), .long (v_al v), .int (nI (v_h v)), .int (v_od v), .int (v_cb v), .int (v_dl v)], zO (ad 1) 4 [.int (nI (v_nS v)), .ref (ad 2), .ref (ad 3), .ref (ad 4), .ref (ad 5), .ref (ad 6), .ref (ad 7), .ref (ad 8)], zI ct (ad 2) 8 (v_wi v), zE ct (ad 3) 8 (v_cr v), zI ct (ad 4) 8 (v_ho v), zI ct (ad 5) 8 (v_li v), zI ct (ad 6) 8 (v_co v), zI ct (ad 7) 8 (v_le v), zI ct (ad 8) 8 (v_cs v), zO (ad 9) 1 [.int (nI (v_nD v)), .ref (ad 10), .ref (ad 11)], zI ct (ad 10) 6 (v_we v), zZ ct (ad 11) 6 (v_cl v), zO (ad 12) 6 [.int (nI (v_nT v)), .ref (ad 13)], zI ct (ad 13) 4 (v_sw v), zO (ad 14) 3 [.int (nI (v_nP v)), .int (v_lim v), .int (v_idl v), .ref (ad 15), .ref (ad 16), .ref (ad 17), .ref (ad 18)], zI ct (ad 15) 6 (v_po v), zI ct (ad 16) 6 (v_pw v), zZ ct (ad 17) 6 (v_on v), zI ct (ad 18) 6 (v_ra v), zO (ad 19) 0 [.int (v_ar v), .long (v_vo v), .long (v_fi v), .long (v_fo v), .long (v_fv v), .long (v_br v), .long (v_pu v)], zL ct (ad 20) 24 (v_td v)])) (vp_Sl (fun r => r = if x = 0 then v_vo v else if x = 1 then v_fi v else if x = 2 then v_fo v else if x = 3 then v_fv v else if x = 4 then v_br v else if x = 5 then v_pu v else -2)) 0 0 (fun _ => False) := by
  refine z_read (cc := cX9_water) (maxL := 2) (ret := some .long) (by decide) rfl (Nat.le_of_ble_eq_true rfl) ?_
  intro p e s m below meth c ls hx hb hr hml hts hown hlocks hP hK hl
  have hown : s.vm.findClass RX9 = some m.cls := hown
  have hl : lv_has ls 2 [(0, .ref f0), (1, .int x)] := hl
  have hi_wsX90 : ∀ w ∈ wsX90, w ∈ wsX9_water := fun w h => List.mem_cons_of_mem _ (List.mem_append_left _ (List.mem_append_left _ (List.mem_append_right _ h)))
  have hi_wsX60 : ∀ w ∈ wsX60, w ∈ wsX9_water := fun w h => List.mem_cons_of_mem _ (List.mem_append_left _ (List.mem_append_right _ h))
  have hi_wsX00 : ∀ w ∈ wsX00, w ∈ wsX9_water := fun w h => List.mem_cons_of_mem _ (List.mem_append_right _ h)
  refine lv_iload_n hx hb dX9_water_0 rfl (lv_at hl 1 rfl) ?_
  by_cases e_1 : x = 0
  · subst e_1
    refine lv_tableIn (off := 39) (tgt := 40) hx hb dX9_water_1 (by decide) (by decide) rfl (by decide) ?_
    refine lv_aload_n hx hb dX9_water_40 rfl (lv_at hl 0 rfl) ?_
    refine va_get (D := g) (ci := 8) (v := .ref (ad 0)) (C := RX9) (T := TX9) (N := 5) hx hb hts hi_wsX90 hown hK hP 0 rfl rfl 0 (by decide) (hts (.fieldLink RX9 10 "FloodBarrier" "now" "LFloodBarrier$State;") (List.mem_of_getElem? (i := 1) rfl)) (fun _ h9 => h9) rfl dX9_water_41 ?_
    refine va_get (D := g) (ci := 5) (v := .ref (ad 19)) (C := RX6) (T := TX6) (N := 11) hx hb hts hi_wsX60 hown hK hP 1 rfl rfl 4 (by decide) (hts (.fieldLink RX9 118 "FloodBarrier$State" "basin" "LFloodBarrier$Basin;") (List.mem_of_getElem? (i := 2) rfl)) (fun _ h9 => h9) rfl dX9_water_44 ?_
    refine va_get (D := g) (ci := 0) (v := .long (v_vo v)) (C := RX0) (T := TX0) (N := 7) hx hb hts hi_wsX00 hown hK hP 20 rfl rfl 1 (by decide) (hts (.fieldLink RX9 265 "FloodBarrier$Basin" "volume" "J") (List.mem_of_getElem? (i := 3) rfl)) (fun _ h9 => h9) rfl dX9_water_47 ?_
    exact z_lretR hx hb hr hlocks rfl rfl dX9_water_50
  by_cases e_2 : x = 1
  · subst e_2
    refine lv_tableIn (off := 50) (tgt := 51) hx hb dX9_water_1 (by decide) (by decide) rfl (by decide) ?_
    refine lv_aload_n hx hb dX9_water_51 rfl (lv_at hl 0 rfl) ?_
    refine va_get (D := g) (ci := 8) (v := .ref (ad 0)) (C := RX9) (T := TX9) (N := 5) hx hb hts hi_wsX90 hown hK hP 0 rfl rfl 0 (by decide) (hts (.fieldLink RX9 10 "FloodBarrier" "now" "LFloodBarrier$State;") (List.mem_of_getElem? (i := 1) rfl)) (fun _ h9 => h9) rfl dX9_water_52 ?_
    refine va_get (D := g) (ci := 5) (v := .ref (ad 19)) (C := RX6) (T := TX6) (N := 11) hx hb hts hi_wsX60 hown hK hP 1 rfl rfl 4 (by decide) (hts (.fieldLink RX9 118 "FloodBarrier$State" "basin" "LFloodBarrier$Basin;") (List.mem_of_getElem? (i := 2) rfl)) (fun _ h9 => h9) rfl dX9_water_55 ?_
    refine va_get (D := g) (ci := 0) (v := .long (v_fi v)) (C := RX0) (T := TX0) (N := 7) hx hb hts hi_wsX00 hown hK hP 20 rfl rfl 2 (by decide) (hts (.fieldLink RX9 268 "FloodBarrier$Basin" "flowedIn" "J") (List.mem_of_getElem? (i := 4) rfl)) (fun _ h9 => h9) rfl dX9_water_58 ?_
    exact z_lretR hx hb hr hlocks rfl (by first | rfl | (simp [e_1])) dX9_water_61
  by_cases e_3 : x = 2
  · subst e_3
    refine lv_tableIn (off := 61) (tgt := 62) hx hb dX9_water_1 (by decide) (by decide) rfl (by decide) ?_
    refine lv_aload_n hx hb dX9_water_62 rfl (lv_at hl 0 rfl) ?_
    refine va_get (D := g) (ci := 8) (v := .ref (ad 0)) (C := RX9) (T := TX9) (N := 5) hx hb hts hi_wsX90 hown hK hP 0 rfl rfl 0 (by decide) (hts (.fieldLink RX9 10 "FloodBarrier" "now" "LFloodBarrier$State;") (List.mem_of_getElem? (i := 1) rfl)) (fun _ h9 => h9) rfl dX9_water_63 ?_
    refine va_get (D := g) (ci := 5) (v := .ref (ad 19)) (C := RX6) (T := TX6) (N := 11) hx hb hts hi_wsX60 hown hK hP 1 rfl rfl 4 (by decide) (hts (.fieldLink RX9 118 "FloodBarrier$State" "basin" "LFloodBarrier$Basin;") (List.mem_of_getElem? (i := 2) rfl)) (fun _ h9 => h9) rfl dX9_water_66 ?_
    refine va_get (D := g) (ci := 0) (v := .long (v_fo v)) (C := RX0) (T := TX0) (N := 7) hx hb hts hi_wsX00 hown hK hP 20 rfl rfl 3 (by decide) (hts (.fieldLink RX9 271 "FloodBarrier$Basin" "flowedOut" "J") (List.mem_of_getElem? (i := 5) rfl)) (fun _ h9 => h9) rfl dX9_water_69 ?_
    exact z_lretR hx hb hr hlocks rfl (by first | rfl | (simp [e_1, e_2])) dX9_water_72
  by_cases e_4 : x = 3
  · subst e_4
    refine lv_tableIn (off := 72) (tgt := 73) hx hb dX9_water_1 (by decide) (by decide) rfl (by decide) ?_
    refine lv_aload_n hx hb dX9_water_73 rfl (lv_at hl 0 rfl) ?_
    refine va_get (D := g) (ci := 8) (v := .ref (ad 0)) (C := RX9) (T := TX9) (N := 5) hx hb hts hi_wsX90 hown hK hP 0 rfl rfl 0 (by decide) (hts (.fieldLink RX9 10 "FloodBarrier" "now" "LFloodBarrier$State;") (List.mem_of_getElem? (i := 1) rfl)) (fun _ h9 => h9) rfl dX9_water_74 ?_
    refine va_get (D := g) (ci := 5) (v := .ref (ad 19)) (C := RX6) (T := TX6) (N := 11) hx hb hts hi_wsX60 hown hK hP 1 rfl rfl 4 (by decide) (hts (.fieldLink RX9 118 "FloodBarrier$State" "basin" "LFloodBarrier$Basin;") (List.mem_of_getElem? (i := 2) rfl)) (fun _ h9 => h9) rfl dX9_water_77 ?_
    refine va_get (D := g) (ci := 0) (v := .long (v_fv v)) (C := RX0) (T := TX0) (N := 7) hx hb hts hi_wsX00 hown hK hP 20 rfl rfl 4 (by decide) (hts (.fieldLink RX9 274 "FloodBarrier$Basin" "flowedOver" "J") (List.mem_of_getElem? (i := 6) rfl)) (fun _ h9 => h9) rfl dX9_water_80 ?_
    exact z_lretR hx hb hr hlocks rfl (by first | rfl | (simp [e_1, e_2, e_3])) dX9_water_83
  by_cases e_5 : x = 4
  · subst e_5
    refine lv_tableIn (off := 83) (tgt := 84) hx hb dX9_water_1 (by decide) (by decide) rfl (by decide) ?_
    refine lv_aload_n hx hb dX9_water_84 rfl (lv_at hl 0 rfl) ?_
    refine va_get (D := g) (ci := 8) (v := .ref (ad 0)) (C := RX9) (T := TX9) (N := 5) hx hb hts hi_wsX90 hown hK hP 0 rfl rfl 0 (by decide) (hts (.fieldLink RX9 10 "FloodBarrier" "now" "LFloodBarrier$State;") (List.mem_of_getElem? (i := 1) rfl)) (fun _ h9 => h9) rfl dX9_water_85 ?_
    refine va_get (D := g) (ci := 5) (v := .ref (ad 19)) (C := RX6) (T := TX6) (N := 11) hx hb hts hi_wsX60 hown hK hP 1 rfl rfl 4 (by decide) (hts (.fieldLink RX9 118 "FloodBarrier$State" "basin" "LFloodBarrier$Basin;") (List.mem_of_getElem? (i := 2) rfl)) (fun _ h9 => h9) rfl dX9_water_88 ?_
    refine va_get (D := g) (ci := 0) (v := .long (v_br v)) (C := RX0) (T := TX0) (N := 7) hx hb hts hi_wsX00 hown hK hP 20 rfl rfl 5 (by decide) (hts (.fieldLink RX9 277 "FloodBarrier$Basin" "brought" "J") (List.mem_of_getElem? (i := 7) rfl)) (fun _ h9 => h9) rfl dX9_water_91 ?_
    exact z_lretR hx hb hr hlocks rfl (by first | rfl | (simp [e_1, e_2, e_3, e_4])) dX9_water_94
  by_cases e_6 : x = 5
  · subst e_6
    refine lv_tableIn (off := 94) (tgt := 95) hx hb dX9_water_1 (by decide) (by decide) rfl (by decide) ?_
    refine lv_aload_n hx hb dX9_water_95 rfl (lv_at hl 0 rfl) ?_
    refine va_get (D := g) (ci := 8) (v := .ref (ad 0)) (C := RX9) (T := TX9) (N := 5) hx hb hts hi_wsX90 hown hK hP 0 rfl rfl 0 (by decide) (hts (.fieldLink RX9 10 "FloodBarrier" "now" "LFloodBarrier$State;") (List.mem_of_getElem? (i := 1) rfl)) (fun _ h9 => h9) rfl dX9_water_96 ?_
    refine va_get (D := g) (ci := 5) (v := .ref (ad 19)) (C := RX6) (T := TX6) (N := 11) hx hb hts hi_wsX60 hown hK hP 1 rfl rfl 4 (by decide) (hts (.fieldLink RX9 118 "FloodBarrier$State" "basin" "LFloodBarrier$Basin;") (List.mem_of_getElem? (i := 2) rfl)) (fun _ h9 => h9) rfl dX9_water_99 ?_
    refine va_get (D := g) (ci := 0) (v := .long (v_pu v)) (C := RX0) (T := TX0) (N := 7) hx hb hts hi_wsX00 hown hK hP 20 rfl rfl 6 (by decide) (hts (.fieldLink RX9 280 "FloodBarrier$Basin" "pumped" "J") (List.mem_of_getElem? (i := 8) rfl)) (fun _ h9 => h9) rfl dX9_water_102 ?_
    exact z_lretR hx hb hr hlocks rfl (by first | rfl | (simp [e_1, e_2, e_3, e_4, e_5])) dX9_water_105
  refine lv_tableOut (tgt := 106) hx hb dX9_water_1 (by have q0 : x.toInt ≠ 0 := fun q => e_1 (Int32.toInt_inj.mp (q.trans (by decide))); have q1 : x.toInt ≠ 1 := fun q => e_2 (Int32.toInt_inj.mp (q.trans (by decide))); have q2 : x.toInt ≠ 2 := fun q => e_3 (Int32.toInt_inj.mp (q.trans (by decide))); have q3 : x.toInt ≠ 3 := fun q => e_4 (Int32.toInt_inj.mp (q.trans (by decide))); have q4 : x.toInt ≠ 4 := fun q => e_5 (Int32.toInt_inj.mp (q.trans (by decide))); have q5 : x.toInt ≠ 5 := fun q => e_6 (Int32.toInt_inj.mp (q.trans (by decide))); omega) (by decide) ?_
  refine lv_ldc2 (v := (-2)) hx hb hown (hts (.constantLong RX9 283 (-2)) (List.mem_of_getElem? (i := 9) rfl)) dX9_water_106 ?_
  exact z_lretR hx hb hr hlocks rfl (by first | rfl | (simp [e_1, e_2, e_3, e_4, e_5, e_6])) dX9_water_109

set_option maxHeartbeats 4000000 in
set_option maxRecDepth 100000 in
theorem c_X9_tide_u (l : Launch) (g : va_G) (ct : Nat → ClassId) (f0 ta h0 x0 : Nat) (sn : Value) (ad : Nat → Nat) (v : SVT) (x : Int32) (hact : ¬ hdP x) : Met l yX9_tide wsX9_tide (zRm 1 20) (va_Pc [.ref f0, .int x] (zR g ct [zO f0 8 [.ref (ad 0), .ref ta, .ref h0, .ref x0, sn], zO (ad 0) 5 [.ref (ad 1), .ref (ad 9), .ref (ad 12), .ref (ad 14), .ref (ad 19), .ref (ad 20), .long (v_al v), .int (nI (v_h v)), .int (v_od v), .int (v_cb v), .int (v_dl v)], zO (ad 1) 4 [.int (nI (v_nS v)), .ref (ad 2), .ref (ad 3), .ref (ad 4), .ref (ad 5), .ref (ad 6), .ref (ad 7), .ref (ad 8)], zI ct (ad 2) 8 (v_wi v), zE ct (ad 3) 8 (v_cr v), zI ct (ad 4) 8 (v_ho v), zI ct (ad 5) 8 (v_li v), zI ct (ad 6) 8 (v_co v), zI ct (ad 7) 8 (v_le v), zI ct (ad 8) 8 (v_cs v), zO (ad 9) 1 [.int (nI (v_nD v)), .ref (ad 10), .ref (ad 11)], zI ct (ad 10) 6 (v_we v), zZ ct (ad 11) 6 (v_cl v), zO (ad 12) 6 [.int (nI (v_nT v)), .ref (ad 13)], zI ct (ad 13) 4 (v_sw v), zO (ad 14) 3 [.int (nI (v_nP v)), .int (v_lim v), .int (v_idl v), .ref (ad 15), .ref (ad 16), .ref (ad 17), .ref (ad 18)], zI ct (ad 15) 6 (v_po v), zI ct (ad 16) 6 (v_pw v), zZ ct (ad 17) 6 (v_on v), zI ct (ad 18) 6 (v_ra v), zO (ad 19) 0 [.int (v_ar v), .long (v_vo v), .long (v_fi v), .long (v_fo v), .long (v_fv v), .long (v_br v), .long (v_pu v)], zL ct (ad 20) 24 (v_td v)])) (vp_Sl (fun r => r = -2)) 0 0 (fun _ => False) := by
  refine z_read (cc := cX9_tide) (maxL := 2) (ret := some .long) (by decide) rfl (Nat.le_of_ble_eq_true rfl) ?_
  intro p e s m below meth c ls hx hb hr hml hts hown hlocks hP hK hl
  have hown : s.vm.findClass RX9 = some m.cls := hown
  have hl : lv_has ls 2 [(0, .ref f0), (1, .int x)] := hl
  refine lv_iload_n hx hb dX9_tide_0 rfl (lv_at hl 1 rfl) ?_
  refine z_cSi (As := [.int x]) (rest := []) ⟨hx, hb, hml, hown, hts⟩ (c_X9_isHourOfDay l x) (va_cwS 1 hts gX9_tide_X9_isHourOfDay rfl rfl rfl (by decide +kernel) ⟨Nat.le_of_ble_eq_true rfl, Nat.le_of_ble_eq_true rfl⟩) rfl hl.1 rfl (Nat.le_of_ble_eq_true rfl) dX9_tide_1 ⟨Nat.zero_le _, Nat.zero_le _⟩ ?_
  refine z_bif_eq (P := (hdP x)) (tgt := 19) hx hb dX9_tide_4 (by decide) (fun c_1 => ?_) (fun c_1 => ?_)
  · refine lv_ldc2 (v := (-2)) hx hb hown (hts (.constantLong RX9 283 (-2)) (List.mem_of_getElem? (i := 3) rfl)) dX9_tide_19 ?_
    exact z_lretR hx hb hr hlocks rfl rfl dX9_tide_22
  · exact absurd c_1 hact

set_option maxHeartbeats 4000000 in
set_option maxRecDepth 100000 in
theorem c_X9_tide_a (l : Launch) (g : va_G) (ct : Nat → ClassId) (f0 ta h0 x0 : Nat) (sn : Value) (ad : Nat → Nat) (v : SVT) (k : Nat) (hk : k < 24) : Met l yX9_tide wsX9_tide (zRm 1 20) (va_Pc [.ref f0, .int (nI k)] (zR g ct [zO f0 8 [.ref (ad 0), .ref ta, .ref h0, .ref x0, sn], zO (ad 0) 5 [.ref (ad 1), .ref (ad 9), .ref (ad 12), .ref (ad 14), .ref (ad 19), .ref (ad 20), .long (v_al v), .int (nI (v_h v)), .int (v_od v), .int (v_cb v), .int (v_dl v)], zO (ad 1) 4 [.int (nI (v_nS v)), .ref (ad 2), .ref (ad 3), .ref (ad 4), .ref (ad 5), .ref (ad 6), .ref (ad 7), .ref (ad 8)], zI ct (ad 2) 8 (v_wi v), zE ct (ad 3) 8 (v_cr v), zI ct (ad 4) 8 (v_ho v), zI ct (ad 5) 8 (v_li v), zI ct (ad 6) 8 (v_co v), zI ct (ad 7) 8 (v_le v), zI ct (ad 8) 8 (v_cs v), zO (ad 9) 1 [.int (nI (v_nD v)), .ref (ad 10), .ref (ad 11)], zI ct (ad 10) 6 (v_we v), zZ ct (ad 11) 6 (v_cl v), zO (ad 12) 6 [.int (nI (v_nT v)), .ref (ad 13)], zI ct (ad 13) 4 (v_sw v), zO (ad 14) 3 [.int (nI (v_nP v)), .int (v_lim v), .int (v_idl v), .ref (ad 15), .ref (ad 16), .ref (ad 17), .ref (ad 18)], zI ct (ad 15) 6 (v_po v), zI ct (ad 16) 6 (v_pw v), zZ ct (ad 17) 6 (v_on v), zI ct (ad 18) 6 (v_ra v), zO (ad 19) 0 [.int (v_ar v), .long (v_vo v), .long (v_fi v), .long (v_fo v), .long (v_fv v), .long (v_br v), .long (v_pu v)], zL ct (ad 20) 24 (v_td v)])) (vp_Sl (fun r => r = v_td v k)) 0 0 (fun _ => False) := by
  refine z_read (cc := cX9_tide) (maxL := 2) (ret := some .long) (by decide) rfl (Nat.le_of_ble_eq_true rfl) ?_
  intro p e s m below meth c ls hx hb hr hml hts hown hlocks hP hK hl
  have hown : s.vm.findClass RX9 = some m.cls := hown
  have hl : lv_has ls 2 [(0, .ref f0), (1, .int (nI k))] := hl
  have hi_wsX90 : ∀ w ∈ wsX90, w ∈ wsX9_tide := fun w h => List.mem_cons_of_mem _ (List.mem_append_left _ (List.mem_append_right _ h))
  have hi_wsX60 : ∀ w ∈ wsX60, w ∈ wsX9_tide := fun w h => List.mem_cons_of_mem _ (List.mem_append_right _ h)
  refine lv_iload_n hx hb dX9_tide_0 rfl (lv_at hl 1 rfl) ?_
  refine z_cSi (As := [.int (nI k)]) (rest := []) ⟨hx, hb, hml, hown, hts⟩ (c_X9_isHourOfDay l (nI k)) (va_cwS 1 hts gX9_tide_X9_isHourOfDay rfl rfl rfl (by decide +kernel) ⟨Nat.le_of_ble_eq_true rfl, Nat.le_of_ble_eq_true rfl⟩) rfl hl.1 rfl (Nat.le_of_ble_eq_true rfl) dX9_tide_1 ⟨Nat.zero_le _, Nat.zero_le _⟩ ?_
  refine z_bif_eq (P := (hdP (nI k))) (tgt := 19) hx hb dX9_tide_4 (by decide) (fun c_1 => ?_) (fun c_1 => ?_)
  · exact absurd (show hdP (nI k) from ⟨nI_pos (by omega), nI_lt (b := 24) hk (by omega)⟩) c_1
  · refine lv_aload_n hx hb dX9_tide_7 rfl (lv_at hl 0 rfl) ?_
    refine va_get (D := g) (ci := 8) (v := .ref (ad 0)) (C := RX9) (T := TX9) (N := 5) hx hb hts hi_wsX90 hown hK hP 0 rfl rfl 0 (by decide) (hts (.fieldLink RX9 10 "FloodBarrier" "now" "LFloodBarrier$State;") (List.mem_of_getElem? (i := 1) rfl)) (fun _ h9 => h9) rfl dX9_tide_8 ?_
    refine va_get (D := g) (ci := 5) (v := .ref (ad 20)) (C := RX6) (T := TX6) (N := 11) hx hb hts hi_wsX60 hown hK hP 1 rfl rfl 5 (by decide) (hts (.fieldLink RX9 145 "FloodBarrier$State" "tides" "[J") (List.mem_of_getElem? (i := 2) rfl)) (fun _ h9 => h9) rfl dX9_tide_11 ?_
    refine lv_iload_n hx hb dX9_tide_14 rfl (lv_at hl 1 rfl) ?_
    refine z_lald (ct := ct) (f := (v_td v)) (k := k) hx hb hK hP 21 rfl (by omega) (by decide) dX9_tide_15 ?_
    refine lv_goto (tgt := 22) hx hb dX9_tide_16 (by decide) ?_
    exact z_lretR hx hb hr hlocks rfl rfl dX9_tide_22
