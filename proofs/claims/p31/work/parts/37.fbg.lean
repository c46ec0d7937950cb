set_option maxHeartbeats 4000000 in
set_option maxRecDepth 100000 in
theorem c_X9_section_u (l : Launch) (g : va_G) (ct : Nat → ClassId) (f0 ta h0 x0 : Nat) (sn : Value) (ad : Nat → Nat) (v : SVT) (hnS : v_nS v ≤ 8) (x : Int32) (y : Int32) (hact : ¬ (¬ x < 0 ∧ x < nI (v_nS v))) : Met l yX9_section wsX9_section (zRm 1 21) (va_Pc [.ref f0, .int x, .int y] (zR g ct [zO f0 8 [.ref (ad 0), .ref ta, .ref h0, .ref x0, sn], zO (ad 0) 5 [.ref (ad 1), .ref (ad 9), .ref (ad 12), .ref (ad 14), .ref (ad 19), .ref (ad 20), .long (v_al v), .int (nI (v_h v)), .int (v_od v), .int (v_cb v), .int (v_dl v)], zO (ad 1) 4 [.int (nI (v_nS v)), .ref (ad 2), .ref (ad 3), .ref (ad 4), .ref (ad 5), .ref (ad 6), .ref (ad 7), .ref (ad 8)], zI ct (ad 2) 8 (v_wi v), zE ct (ad 3) 8 (v_cr v), zI ct (ad 4) 8 (v_ho v), zI ct (ad 5) 8 (v_li v), zI ct (ad 6) 8 (v_co v), zI ct (ad 7) 8 (v_le v), zI ct (ad 8) 8 (v_cs v), zO (ad 9) 1 [.int (nI (v_nD v)), .ref (ad 10), .ref (ad 11)], zI ct (ad 10) 6 (v_we v), zZ ct (ad 11) 6 (v_cl v), zO (ad 12) 6 [.int (nI (v_nT v)), .ref (ad 13)], zI ct (ad 13) 4 (v_sw v), zO (ad 14) 3 [.int (nI (v_nP v)), .int (v_lim v), .int (v_idl v), .ref (ad 15), .ref (ad 16), .ref (ad 17), .ref (ad 18)], zI ct (ad 15) 6 (v_po v), zI ct (ad 16) 6 (v_pw v), zZ ct (ad 17) 6 (v_on v), zI ct (ad 18) 6 (v_ra v), zO (ad 19) 0 [.int (v_ar v), .long (v_vo v), .long (v_fi v), .long (v_fo v), .long (v_fv v), .long (v_br v), .long (v_pu v)], zL ct (ad 20) 24 (v_td v)])) (vp_Si (fun r => r = -1)) 0 0 (fun _ => False) := by
  refine z_read (cc := cX9_section) (maxL := 3) (ret := some .int) (by decide) rfl (Nat.le_of_ble_eq_true rfl) ?_
  intro p e s m below meth c ls hx hb hr hml hts hown hlocks hP hK hl
  have hown : s.vm.findClass RX9 = some m.cls := hown
  have hl : lv_has ls 3 [(0, .ref f0), (1, .int x), (2, .int y)] := hl
  have hi_wsX90 : ∀ w ∈ wsX90, w ∈ wsX9_section := fun w h => List.mem_cons_of_mem _ (List.mem_append_left _ (List.mem_append_left _ (List.mem_append_right _ h)))
  have hi_wsX60 : ∀ w ∈ wsX60, w ∈ wsX9_section := fun w h => List.mem_cons_of_mem _ (List.mem_append_left _ (List.mem_append_right _ h))
  refine lv_aload_n hx hb dX9_section_0 rfl (lv_at hl 0 rfl) ?_
  refine va_get (D := g) (ci := 8) (v := .ref (ad 0)) (C := RX9) (T := TX9) (N := 5) hx hb hts hi_wsX90 hown hK hP 0 rfl rfl 0 (by decide) (hts (.fieldLink RX9 10 "FloodBarrier" "now" "LFloodBarrier$State;") (List.mem_of_getElem? (i := 1) rfl)) (fun _ h9 => h9) rfl dX9_section_1 ?_
  refine va_get (D := g) (ci := 5) (v := .ref (ad 1)) (C := RX6) (T := TX6) (N := 11) hx hb hts hi_wsX60 hown hK hP 1 rfl rfl 0 (by decide) (hts (.fieldLink RX9 43 "FloodBarrier$State" "sections" "LFloodBarrier$Sections;") (List.mem_of_getElem? (i := 2) rfl)) (fun _ h9 => h9) rfl dX9_section_4 ?_
  refine lv_iload_n hx hb dX9_section_7 rfl (lv_at hl 1 rfl) ?_
  refine z_cVi (wc := [zO (ad 1) 4 [.int (nI (v_nS v)), .ref (ad 2), .ref (ad 3), .ref (ad 4), .ref (ad 5), .ref (ad 6), .ref (ad 7), .ref (ad 8)], zI ct (ad 2) 8 (v_wi v), zE ct (ad 3) 8 (v_cr v), zI ct (ad 4) 8 (v_ho v), zI ct (ad 5) 8 (v_li v), zI ct (ad 6) 8 (v_co v), zI ct (ad 7) 8 (v_le v), zI ct (ad 8) 8 (v_cs v)]) (As := [.int x]) (rest := []) ⟨hx, hb, hml, hown, hts⟩ hK hP [2, 3, 4, 5, 6, 7, 8, 9] rfl (c_X5_has l g ct (ad 1) (ad 2) (ad 3) (ad 4) (ad 5) (ad 6) (ad 7) (ad 8) (v_nS v) (v_wi v) (v_cr v) (v_ho v) (v_li v) (v_co v) (v_le v) (v_cs v) x) (cwV 1 hts gX9_section_X5_has rfl rfl rfl (by decide +kernel) ⟨Nat.le_of_ble_eq_true rfl, Nat.le_of_ble_eq_true rfl⟩) 0 rfl rfl rfl hl.1 rfl (Nat.le_of_ble_eq_true rfl) dX9_section_8 ⟨Nat.zero_le _, Nat.zero_le _⟩ ?_
  refine z_bif_ne (P := (¬ x < 0 ∧ x < nI (v_nS v))) (tgt := 16) hx hb dX9_section_11 (by decide) (fun c_1 => ?_) (fun c_1 => ?_)
  · exact absurd c_1 hact
  · refine lv_iconst (v := (-1)) hx hb dX9_section_14 (by decide) ?_
    exact z_iretR hx hb hr hlocks rfl (by simp [c_1]) dX9_section_15

set_option maxHeartbeats 4000000 in
set_option maxRecDepth 100000 in
theorem c_X9_section_a (l : Launch) (g : va_G) (ct : Nat → ClassId) (f0 ta h0 x0 : Nat) (sn : Value) (ad : Nat → Nat) (v : SVT) (hnS : v_nS v ≤ 8) (k : Nat) (hk : k < v_nS v) (x : Int32) : Met l yX9_section wsX9_section (zRm 1 21) (va_Pc [.ref f0, .int (nI k), .int x] (zR g ct [zO f0 8 [.ref (ad 0), .ref ta, .ref h0, .ref x0, sn], zO (ad 0) 5 [.ref (ad 1), .ref (ad 9), .ref (ad 12), .ref (ad 14), .ref (ad 19), .ref (ad 20), .long (v_al v), .int (nI (v_h v)), .int (v_od v), .int (v_cb v), .int (v_dl v)], zO (ad 1) 4 [.int (nI (v_nS v)), .ref (ad 2), .ref (ad 3), .ref (ad 4), .ref (ad 5), .ref (ad 6), .ref (ad 7), .ref (ad 8)], zI ct (ad 2) 8 (v_wi v), zE ct (ad 3) 8 (v_cr v), zI ct (ad 4) 8 (v_ho v), zI ct (ad 5) 8 (v_li v), zI ct (ad 6) 8 (v_co v), zI ct (ad 7) 8 (v_le v), zI ct (ad 8) 8 (v_cs v), zO (ad 9) 1 [.int (nI (v_nD v)), .ref (ad 10), .ref (ad 11)], zI ct (ad 10) 6 (v_we v), zZ ct (ad 11) 6 (v_cl v), zO (ad 12) 6 [.int (nI (v_nT v)), .ref (ad 13)], zI ct (ad 13) 4 (v_sw v), zO (ad 14) 3 [.int (nI (v_nP v)), .int (v_lim v), .int (v_idl v), .ref (ad 15), .ref (ad 16), .ref (ad 17), .ref (ad 18)], zI ct (ad 15) 6 (v_po v), zI ct (ad 16) 6 (v_pw v), zZ ct (ad 17) 6 (v_on v), zI ct (ad 18) 6 (v_ra v), zO (ad 19) 0 [.int (v_ar v), .long (v_vo v), .long (v_fi v), .long (v_fo v), .long (v_fv v), .long (v_br v), .long (v_pu v)], zL ct (ad 20) 24 (v_td v)])) (vp_Si (fun r => r = if x = 0 then v_wi v k else if x = 1 then v_ho v k else if x = 2 then v_li v k else if x = 3 then v_co v k else if x = 4 then if v_co v k = 1 ∨ v_co v k = 3 then v_le v k else -5 else if x = 5 then v_cs v k else -2)) 0 0 (fun _ => False) := by
  refine z_read (cc := cX9_section) (maxL := 3) (ret := some .int) (by decide) rfl (Nat.le_of_ble_eq_true rfl) ?_
  intro p e s m below meth c ls hx hb hr hml hts hown hlocks hP hK hl
  have hown : s.vm.findClass RX9 = some m.cls := hown
  have hl : lv_has ls 3 [(0, .ref f0), (1, .int (nI k)), (2, .int x)] := hl
  have hi_wsX90 : ∀ w ∈ wsX90, w ∈ wsX9_section := fun w h => List.mem_cons_of_mem _ (List.mem_append_left _ (List.mem_append_left _ (List.mem_append_right _ h)))
  have hi_wsX60 : ∀ w ∈ wsX60, w ∈ wsX9_section := fun w h => List.mem_cons_of_mem _ (List.mem_append_left _ (List.mem_append_right _ h))
  have hi_wsX50 : ∀ w ∈ wsX50, w ∈ wsX9_section := fun w h => List.mem_cons_of_mem _ (List.mem_append_right _ h)
  refine lv_aload_n hx hb dX9_section_0 rfl (lv_at hl 0 rfl) ?_
  refine va_get (D := g) (ci := 8) (v := .ref (ad 0)) (C := RX9) (T := TX9) (N := 5) hx hb hts hi_wsX90 hown hK hP 0 rfl rfl 0 (by decide) (hts (.fieldLink RX9 10 "FloodBarrier" "now" "LFloodBarrier$State;") (List.mem_of_getElem? (i := 1) rfl)) (fun _ h9 => h9) rfl dX9_section_1 ?_
  refine va_get (D := g) (ci := 5) (v := .ref (ad 1)) (C := RX6) (T := TX6) (N := 11) hx hb hts hi_wsX60 hown hK hP 1 rfl rfl 0 (by decide) (hts (.fieldLink RX9 43 "FloodBarrier$State" "sections" "LFloodBarrier$Sections;") (List.mem_of_getElem? (i := 2) rfl)) (fun _ h9 => h9) rfl dX9_section_4 ?_
  refine lv_iload_n hx hb dX9_section_7 rfl (lv_at hl 1 rfl) ?_
  refine z_cVi (wc := [zO (ad 1) 4 [.int (nI (v_nS v)), .ref (ad 2), .ref (ad 3), .ref (ad 4), .ref (ad 5), .ref (ad 6), .ref (ad 7), .ref (ad 8)], zI ct (ad 2) 8 (v_wi v), zE ct (ad 3) 8 (v_cr v), zI ct (ad 4) 8 (v_ho v), zI ct (ad 5) 8 (v_li v), zI ct (ad 6) 8 (v_co v), zI ct (ad 7) 8 (v_le v), zI ct (ad 8) 8 (v_cs v)]) (As := [.int (nI k)]) (rest := []) ⟨hx, hb, hml, hown, hts⟩ hK hP [2, 3, 4, 5, 6, 7, 8, 9] rfl (c_X5_has l g ct (ad 1) (ad 2) (ad 3) (ad 4) (ad 5) (ad 6) (ad 7) (ad 8) (v_nS v) (v_wi v) (v_cr v) (v_ho v) (v_li v) (v_co v) (v_le v) (v_cs v) (nI k)) (cwV 1 hts gX9_section_X5_has rfl rfl rfl (by decide +kernel) ⟨Nat.le_of_ble_eq_true rfl, Nat.le_of_ble_eq_true rfl⟩) 0 rfl rfl rfl hl.1 rfl (Nat.le_of_ble_eq_true rfl) dX9_section_8 ⟨Nat.zero_le _, Nat.zero_le _⟩ ?_
  refine z_bif_ne (P := (¬ (nI k) < 0 ∧ (nI k) < nI (v_nS v))) (tgt := 16) hx hb dX9_section_11 (by decide) (fun c_1 => ?_) (fun c_1 => ?_)
  · refine lv_iload_n hx hb dX9_section_16 rfl (lv_at hl 2 rfl) ?_
    by_cases e_2 : x = 0
    · subst e_2
      refine lv_tableIn (off := 39) (tgt := 56) hx hb dX9_section_17 (by decide) (by decide) rfl (by decide) ?_
      refine lv_aload_n hx hb dX9_section_56 rfl (lv_at hl 0 rfl) ?_
      refine va_get (D := g) (ci := 8) (v := .ref (ad 0)) (C := RX9) (T := TX9) (N := 5) hx hb hts hi_wsX90 hown hK hP 0 rfl rfl 0 (by decide) (hts (.fieldLink RX9 10 "FloodBarrier" "now" "LFloodBarrier$State;") (List.mem_of_getElem? (i := 1) rfl)) (fun _ h9 => h9) rfl dX9_section_57 ?_
      refine va_get (D := g) (ci := 5) (v := .ref (ad 1)) (C := RX6) (T := TX6) (N := 11) hx hb hts hi_wsX60 hown hK hP 1 rfl rfl 0 (by decide) (hts (.fieldLink RX9 43 "FloodBarrier$State" "sections" "LFloodBarrier$Sections;") (List.mem_of_getElem? (i := 2) rfl)) (fun _ h9 => h9) rfl dX9_section_60 ?_
      refine va_get (D := g) (ci := 4) (v := .ref (ad 2)) (C := RX5) (T := TX5) (N := 8) hx hb hts hi_wsX50 hown hK hP 2 rfl rfl 1 (by decide) (hts (.fieldLink RX9 234 "FloodBarrier$Sections" "width" "[I") (List.mem_of_getElem? (i := 3) rfl)) (fun _ h9 => h9) rfl dX9_section_63 ?_
      refine lv_iload_n hx hb dX9_section_66 rfl (lv_at hl 1 rfl) ?_
      refine z_iald (ct := ct) (f := (v_wi v)) (k := k) hx hb hK hP 3 rfl (by omega) (by decide) dX9_section_67 ?_
      exact z_iretR hx hb hr hlocks rfl rfl dX9_section_68
    by_cases e_3 : x = 1
    · subst e_3
      refine lv_tableIn (off := 52) (tgt := 69) hx hb dX9_section_17 (by decide) (by decide) rfl (by decide) ?_
      refine lv_aload_n hx hb dX9_section_69 rfl (lv_at hl 0 rfl) ?_
      refine va_get (D := g) (ci := 8) (v := .ref (ad 0)) (C := RX9) (T := TX9) (N := 5) hx hb hts hi_wsX90 hown hK hP 0 rfl rfl 0 (by decide) (hts (.fieldLink RX9 10 "FloodBarrier" "now" "LFloodBarrier$State;") (List.mem_of_getElem? (i := 1) rfl)) (fun _ h9 => h9) rfl dX9_section_70 ?_
      refine va_get (D := g) (ci := 5) (v := .ref (ad 1)) (C := RX6) (T := TX6) (N := 11) hx hb hts hi_wsX60 hown hK hP 1 rfl rfl 0 (by decide) (hts (.fieldLink RX9 43 "FloodBarrier$State" "sections" "LFloodBarrier$Sections;") (List.mem_of_getElem? (i := 2) rfl)) (fun _ h9 => h9) rfl dX9_section_73 ?_
      refine va_get (D := g) (ci := 4) (v := .ref (ad 4)) (C := RX5) (T := TX5) (N := 8) hx hb hts hi_wsX50 hown hK hP 2 rfl rfl 3 (by decide) (hts (.fieldLink RX9 237 "FloodBarrier$Sections" "hours" "[I") (List.mem_of_getElem? (i := 4) rfl)) (fun _ h9 => h9) rfl dX9_section_76 ?_
      refine lv_iload_n hx hb dX9_section_79 rfl (lv_at hl 1 rfl) ?_
      refine z_iald (ct := ct) (f := (v_ho v)) (k := k) hx hb hK hP 5 rfl (by omega) (by decide) dX9_section_80 ?_
      exact z_iretR hx hb hr hlocks rfl (by first | rfl | (simp [e_2])) dX9_section_81
    by_cases e_4 : x = 2
    · subst e_4
      refine lv_tableIn (off := 65) (tgt := 82) hx hb dX9_section_17 (by decide) (by decide) rfl (by decide) ?_
      refine lv_aload_n hx hb dX9_section_82 rfl (lv_at hl 0 rfl) ?_
      refine va_get (D := g) (ci := 8) (v := .ref (ad 0)) (C := RX9) (T := TX9) (N := 5) hx hb hts hi_wsX90 hown hK hP 0 rfl rfl 0 (by decide) (hts (.fieldLink RX9 10 "FloodBarrier" "now" "LFloodBarrier$State;") (List.mem_of_getElem? (i := 1) rfl)) (fun _ h9 => h9) rfl dX9_section_83 ?_
      refine va_get (D := g) (ci := 5) (v := .ref (ad 1)) (C := RX6) (T := TX6) (N := 11) hx hb hts hi_wsX60 hown hK hP 1 rfl rfl 0 (by decide) (hts (.fieldLink RX9 43 "FloodBarrier$State" "sections" "LFloodBarrier$Sections;") (List.mem_of_getElem? (i := 2) rfl)) (fun _ h9 => h9) rfl dX9_section_86 ?_
      refine va_get (D := g) (ci := 4) (v := .ref (ad 5)) (C := RX5) (T := TX5) (N := 8) hx hb hts hi_wsX50 hown hK hP 2 rfl rfl 4 (by decide) (hts (.fieldLink RX9 240 "FloodBarrier$Sections" "life" "[I") (List.mem_of_getElem? (i := 5) rfl)) (fun _ h9 => h9) rfl dX9_section_89 ?_
      refine lv_iload_n hx hb dX9_section_92 rfl (lv_at hl 1 rfl) ?_
      refine z_iald (ct := ct) (f := (v_li v)) (k := k) hx hb hK hP 6 rfl (by omega) (by decide) dX9_section_93 ?_
      exact z_iretR hx hb hr hlocks rfl (by first | rfl | (simp [e_2, e_3])) dX9_section_94
    by_cases e_5 : x = 3
    · subst e_5
      refine lv_tableIn (off := 78) (tgt := 95) hx hb dX9_section_17 (by decide) (by decide) rfl (by decide) ?_
      refine lv_aload_n hx hb dX9_section_95 rfl (lv_at hl 0 rfl) ?_
      refine va_get (D := g) (ci := 8) (v := .ref (ad 0)) (C := RX9) (T := TX9) (N := 5) hx hb hts hi_wsX90 hown hK hP 0 rfl rfl 0 (by decide) (hts (.fieldLink RX9 10 "FloodBarrier" "now" "LFloodBarrier$State;") (List.mem_of_getElem? (i := 1) rfl)) (fun _ h9 => h9) rfl dX9_section_96 ?_
      refine va_get (D := g) (ci := 5) (v := .ref (ad 1)) (C := RX6) (T := TX6) (N := 11) hx hb hts hi_wsX60 hown hK hP 1 rfl rfl 0 (by decide) (hts (.fieldLink RX9 43 "FloodBarrier$State" "sections" "LFloodBarrier$Sections;") (List.mem_of_getElem? (i := 2) rfl)) (fun _ h9 => h9) rfl dX9_section_99 ?_
      refine va_get (D := g) (ci := 4) (v := .ref (ad 6)) (C := RX5) (T := TX5) (N := 8) hx hb hts hi_wsX50 hown hK hP 2 rfl rfl 5 (by decide) (hts (.fieldLink RX9 184 "FloodBarrier$Sections" "condition" "[I") (List.mem_of_getElem? (i := 6) rfl)) (fun _ h9 => h9) rfl dX9_section_102 ?_
      refine lv_iload_n hx hb dX9_section_105 rfl (lv_at hl 1 rfl) ?_
      refine z_iald (ct := ct) (f := (v_co v)) (k := k) hx hb hK hP 7 rfl (by omega) (by decide) dX9_section_106 ?_
      exact z_iretR hx hb hr hlocks rfl (by first | rfl | (simp [e_2, e_3, e_4])) dX9_section_107
    by_cases e_6 : x = 4
    · subst e_6
      refine lv_tableIn (off := 91) (tgt := 108) hx hb dX9_section_17 (by decide) (by decide) rfl (by decide) ?_
      refine lv_aload_n hx hb dX9_section_108 rfl (lv_at hl 0 rfl) ?_
      refine va_get (D := g) (ci := 8) (v := .ref (ad 0)) (C := RX9) (T := TX9) (N := 5) hx hb hts hi_wsX90 hown hK hP 0 rfl rfl 0 (by decide) (hts (.fieldLink RX9 10 "FloodBarrier" "now" "LFloodBarrier$State;") (List.mem_of_getElem? (i := 1) rfl)) (fun _ h9 => h9) rfl dX9_section_109 ?_
      refine va_get (D := g) (ci := 5) (v := .ref (ad 1)) (C := RX6) (T := TX6) (N := 11) hx hb hts hi_wsX60 hown hK hP 1 rfl rfl 0 (by decide) (hts (.fieldLink RX9 43 "FloodBarrier$State" "sections" "LFloodBarrier$Sections;") (List.mem_of_getElem? (i := 2) rfl)) (fun _ h9 => h9) rfl dX9_section_112 ?_
      refine lv_iload_n hx hb dX9_section_115 rfl (lv_at hl 1 rfl) ?_
      refine z_cVi (wc := [zO (ad 1) 4 [.int (nI (v_nS v)), .ref (ad 2), .ref (ad 3), .ref (ad 4), .ref (ad 5), .ref (ad 6), .ref (ad 7), .ref (ad 8)], zI ct (ad 2) 8 (v_wi v), zE ct (ad 3) 8 (v_cr v), zI ct (ad 4) 8 (v_ho v), zI ct (ad 5) 8 (v_li v), zI ct (ad 6) 8 (v_co v), zI ct (ad 7) 8 (v_le v), zI ct (ad 8) 8 (v_cs v)]) (As := [.int (nI k)]) (rest := []) ⟨hx, hb, hml, hown, hts⟩ hK hP [2, 3, 4, 5, 6, 7, 8, 9] rfl (c_X5_isMoving l g ct (ad 1) (ad 2) (ad 3) (ad 4) (ad 5) (ad 6) (ad 7) (ad 8) (v_nS v) (v_wi v) (v_cr v) (v_ho v) (v_li v) (v_co v) (v_le v) (v_cs v) k (by omega)) (cwV 1 hts gX9_section_X5_isMoving rfl rfl rfl (by decide +kernel) ⟨Nat.le_of_ble_eq_true rfl, Nat.le_of_ble_eq_true rfl⟩) 0 rfl rfl rfl hl.1 rfl (Nat.le_of_ble_eq_true rfl) dX9_section_116 ⟨Nat.zero_le _, Nat.zero_le _⟩ ?_
      refine z_bif_eq (P := ((v_co v) k = 1 ∨ (v_co v) k = 3)) (tgt := 137) hx hb dX9_section_119 (by decide) (fun c_7 => ?_) (fun c_7 => ?_)
      · refine lv_bipush (v := (-5)) hx hb dX9_section_137 (by decide) ?_
        exact z_iretR hx hb hr hlocks rfl (by first | rfl | (simp [e_2, e_3, e_4, e_5, c_7])) dX9_section_139
      · refine lv_aload_n hx hb dX9_section_122 rfl (lv_at hl 0 rfl) ?_
        refine va_get (D := g) (ci := 8) (v := .ref (ad 0)) (C := RX9) (T := TX9) (N := 5) hx hb hts hi_wsX90 hown hK hP 0 rfl rfl 0 (by decide) (hts (.fieldLink RX9 10 "FloodBarrier" "now" "LFloodBarrier$State;") (List.mem_of_getElem? (i := 1) rfl)) (fun _ h9 => h9) rfl dX9_section_123 ?_
        refine va_get (D := g) (ci := 5) (v := .ref (ad 1)) (C := RX6) (T := TX6) (N := 11) hx hb hts hi_wsX60 hown hK hP 1 rfl rfl 0 (by decide) (hts (.fieldLink RX9 43 "FloodBarrier$State" "sections" "LFloodBarrier$Sections;") (List.mem_of_getElem? (i := 2) rfl)) (fun _ h9 => h9) rfl dX9_section_126 ?_
        refine va_get (D := g) (ci := 4) (v := .ref (ad 7)) (C := RX5) (T := TX5) (N := 8) hx hb hts hi_wsX50 hown hK hP 2 rfl rfl 6 (by decide) (hts (.fieldLink RX9 243 "FloodBarrier$Sections" "left" "[I") (List.mem_of_getElem? (i := 7) rfl)) (fun _ h9 => h9) rfl dX9_section_129 ?_
        refine lv_iload_n hx hb dX9_section_132 rfl (lv_at hl 1 rfl) ?_
        refine z_iald (ct := ct) (f := (v_le v)) (k := k) hx hb hK hP 8 rfl (by omega) (by decide) dX9_section_133 ?_
        refine lv_goto (tgt := 139) hx hb dX9_section_134 (by decide) ?_
        exact z_iretR hx hb hr hlocks rfl (by first | rfl | (simp [e_2, e_3, e_4, e_5, c_7])) dX9_section_139
    by_cases e_8 : x = 5
    · subst e_8
      refine lv_tableIn (off := 123) (tgt := 140) hx hb dX9_section_17 (by decide) (by decide) rfl (by decide) ?_
      refine lv_aload_n hx hb dX9_section_140 rfl (lv_at hl 0 rfl) ?_
      refine va_get (D := g) (ci := 8) (v := .ref (ad 0)) (C := RX9) (T := TX9) (N := 5) hx hb hts hi_wsX90 hown hK hP 0 rfl rfl 0 (by decide) (hts (.fieldLink RX9 10 "FloodBarrier" "now" "LFloodBarrier$State;") (List.mem_of_getElem? (i := 1) rfl)) (fun _ h9 => h9) rfl dX9_section_141 ?_
      refine va_get (D := g) (ci := 5) (v := .ref (ad 1)) (C := RX6) (T := TX6) (N := 11) hx hb hts hi_wsX60 hown hK hP 1 rfl rfl 0 (by decide) (hts (.fieldLink RX9 43 "FloodBarrier$State" "sections" "LFloodBarrier$Sections;") (List.mem_of_getElem? (i := 2) rfl)) (fun _ h9 => h9) rfl dX9_section_144 ?_
      refine va_get (D := g) (ci := 4) (v := .ref (ad 8)) (C := RX5) (T := TX5) (N := 8) hx hb hts hi_wsX50 hown hK hP 2 rfl rfl 7 (by decide) (hts (.fieldLink RX9 181 "FloodBarrier$Sections" "closings" "[I") (List.mem_of_getElem? (i := 8) rfl)) (fun _ h9 => h9) rfl dX9_section_147 ?_
      refine lv_iload_n hx hb dX9_section_150 rfl (lv_at hl 1 rfl) ?_
      refine z_iald (ct := ct) (f := (v_cs v)) (k := k) hx hb hK hP 9 rfl (by omega) (by decide) dX9_section_151 ?_
      exact z_iretR hx hb hr hlocks rfl (by first | rfl | (simp [e_2, e_3, e_4, e_5, e_6])) dX9_section_152
    refine lv_tableOut (tgt := 153) hx hb dX9_section_17 (by have q0 : x.toInt ≠ 0 := fun q => e_2 (Int32.toInt_inj.mp (q.trans (by decide))); have q1 : x.toInt ≠ 1 := fun q => e_3 (Int32.toInt_inj.mp (q.trans (by decide))); have q2 : x.toInt ≠ 2 := fun q => e_4 (Int32.toInt_inj.mp (q.trans (by decide))); have q3 : x.toInt ≠ 3 := fun q => e_5 (Int32.toInt_inj.mp (q.trans (by decide))); have q4 : x.toInt ≠ 4 := fun q => e_6 (Int32.toInt_inj.mp (q.trans (by decide))); have q5 : x.toInt ≠ 5 := fun q => e_8 (Int32.toInt_inj.mp (q.trans (by decide))); omega) (by decide) ?_
    refine lv_bipush (v := (-2)) hx hb dX9_section_153 (by decide) ?_
    exact z_iretR hx hb hr hlocks rfl (by first | rfl | (simp [e_2, e_3, e_4, e_5, e_6, e_8])) dX9_section_155
  · exact absurd (show (¬ nI k < 0 ∧ nI k < nI (v_nS v)) from ⟨nI_pos (by omega), nI_lt hk (by omega)⟩) c_1

set_option maxHeartbeats 4000000 in
set_option maxRecDepth 100000 in
theorem c_X9_pump_u (l : Launch) (g : va_G) (ct : Nat → ClassId) (f0 ta h0 x0 : Nat) (sn : Value) (ad : Nat → Nat) (v : SVT) (hnP : v_nP v ≤ 6) (x : Int32) (y : Int32) (hact : ¬ (¬ x < 0 ∧ x < nI (v_nP v))) : Met l yX9_pump wsX9_pump (zRm 1 21) (va_Pc [.ref f0, .int x, .int y] (zR g ct [zO f0 8 [.ref (ad 0), .ref ta, .ref h0, .ref x0, sn], zO (ad 0) 5 [.ref (ad 1), .ref (ad 9), .ref (ad 12), .ref (ad 14), .ref (ad 19), .ref (ad 20), .long (v_al v), .int (nI (v_h v)), .int (v_od v), .int (v_cb v), .int (v_dl v)], zO (ad 1) 4 [.int (nI (v_nS v)), .ref (ad 2), .ref (ad 3), .ref (ad 4), .ref (ad 5), .ref (ad 6), .ref (ad 7), .ref (ad 8)], zI ct (ad 2) 8 (v_wi v), zE ct (ad 3) 8 (v_cr v), zI ct (ad 4) 8 (v_ho v), zI ct (ad 5) 8 (v_li v), zI ct (ad 6) 8 (v_co v), zI ct (ad 7) 8 (v_le v), zI ct (ad 8) 8 (v_cs v), zO (ad 9) 1 [.int (nI (v_nD v)), .ref (ad 10), .ref (ad 11)], zI ct (ad 10) 6 (v_we v), zZ ct (ad 11) 6 (v_cl v), zO (ad 12) 6 [.int (nI (v_nT v)), .ref (ad 13)], zI ct (ad 13) 4 (v_sw v), zO (ad 14) 3 [.int (nI (v_nP v)), .int (v_lim v), .int (v_idl v), .ref (ad 15), .ref (ad 16), .ref (ad 17), .ref (ad 18)], zI ct (ad 15) 6 (v_po v), zI ct (ad 16) 6 (v_pw v), zZ ct (ad 17) 6 (v_on v), zI ct (ad 18) 6 (v_ra v), zO (ad 19) 0 [.int (v_ar v), .long (v_vo v), .long (v_fi v), .long (v_fo v), .long (v_fv v), .long (v_br v), .long (v_pu v)], zL ct (ad 20) 24 (v_td v)])) (vp_Si (fun r => r = -1)) 0 0 (fun _ => False) := by
  refine z_read (cc := cX9_pump) (maxL := 3) (ret := some .int) (by decide) rfl (Nat.le_of_ble_eq_true rfl) ?_
  intro p e s m below meth c ls hx hb hr hml hts hown hlocks hP hK hl
  have hown : s.vm.findClass RX9 = some m.cls := hown
  have hl : lv_has ls 3 [(0, .ref f0), (1, .int x), (2, .int y)] := hl
  have hi_wsX90 : ∀ w ∈ wsX90, w ∈ wsX9_pump := fun w h => List.mem_cons_of_mem _ (List.mem_append_left _ (List.mem_append_left _ (List.mem_append_right _ h)))
  have hi_wsX60 : ∀ w ∈ wsX60, w ∈ wsX9_pump := fun w h => List.mem_cons_of_mem _ (List.mem_append_left _ (List.mem_append_right _ h))
  refine lv_aload_n hx hb dX9_pump_0 rfl (lv_at hl 0 rfl) ?_
  refine va_get (D := g) (ci := 8) (v := .ref (ad 0)) (C := RX9) (T := TX9) (N := 5) hx hb hts hi_wsX90 hown hK hP 0 rfl rfl 0 (by decide) (hts (.fieldLink RX9 10 "FloodBarrier" "now" "LFloodBarrier$State;") (List.mem_of_getElem? (i := 1) rfl)) (fun _ h9 => h9) rfl dX9_pump_1 ?_
  refine va_get (D := g) (ci := 5) (v := .ref (ad 14)) (C := RX6) (T := TX6) (N := 11) hx hb hts hi_wsX60 hown hK hP 1 rfl rfl 3 (by decide) (hts (.fieldLink RX9 84 "FloodBarrier$State" "pumps" "LFloodBarrier$Pumps;") (List.mem_of_getElem? (i := 2) rfl)) (fun _ h9 => h9) rfl dX9_pump_4 ?_
  refine lv_iload_n hx hb dX9_pump_7 rfl (lv_at hl 1 rfl) ?_
  refine z_cVi (wc := [zO (ad 14) 3 [.int (nI (v_nP v)), .int (v_lim v), .int (v_idl v), .ref (ad 15), .ref (ad 16), .ref (ad 17), .ref (ad 18)], zI ct (ad 15) 6 (v_po v), zI ct (ad 16) 6 (v_pw v), zZ ct (ad 17) 6 (v_on v), zI ct (ad 18) 6 (v_ra v)]) (As := [.int x]) (rest := []) ⟨hx, hb, hml, hown, hts⟩ hK hP [15, 16, 17, 18, 19] rfl (c_X4_has l g ct (ad 14) (ad 15) (ad 16) (ad 17) (ad 18) (v_nP v) (v_lim v) (v_idl v) (v_po v) (v_pw v) (v_on v) (v_ra v) x) (cwV 1 hts gX9_pump_X4_has rfl rfl rfl (by decide +kernel) ⟨Nat.le_of_ble_eq_true rfl, Nat.le_of_ble_eq_true rfl⟩) 0 rfl rfl rfl hl.1 rfl (Nat.le_of_ble_eq_true rfl) dX9_pump_8 ⟨Nat.zero_le _, Nat.zero_le _⟩ ?_
  refine z_bif_ne (P := (¬ x < 0 ∧ x < nI (v_nP v))) (tgt := 16) hx hb dX9_pump_11 (by decide) (fun c_1 => ?_) (fun c_1 => ?_)
  · exact absurd c_1 hact
  · refine lv_iconst (v := (-1)) hx hb dX9_pump_14 (by decide) ?_
    exact z_iretR hx hb hr hlocks rfl (by simp [c_1]) dX9_pump_15

set_option maxHeartbeats 4000000 in
set_option maxRecDepth 100000 in
theorem c_X9_pump_a (l : Launch) (g : va_G) (ct : Nat → ClassId) (f0 ta h0 x0 : Nat) (sn : Value) (ad : Nat → Nat) (v : SVT) (hnP : v_nP v ≤ 6) (k : Nat) (hk : k < v_nP v) (x : Int32) : Met l yX9_pump wsX9_pump (zRm 2 45) (va_Pc [.ref f0, .int (nI k), .int x] (zR g ct [zO f0 8 [.ref (ad 0), .ref ta, .ref h0, .ref x0, sn], zO (ad 0) 5 [.ref (ad 1), .ref (ad 9), .ref (ad 12), .ref (ad 14), .ref (ad 19), .ref (ad 20), .long (v_al v), .int (nI (v_h v)), .int (v_od v), .int (v_cb v), .int (v_dl v)], zO (ad 1) 4 [.int (nI (v_nS v)), .ref (ad 2), .ref (ad 3), .ref (ad 4), .ref (ad 5), .ref (ad 6), .ref (ad 7), .ref (ad 8)], zI ct (ad 2) 8 (v_wi v), zE ct (ad 3) 8 (v_cr v), zI ct (ad 4) 8 (v_ho v), zI ct (ad 5) 8 (v_li v), zI ct (ad 6) 8 (v_co v), zI ct (ad 7) 8 (v_le v), zI ct (ad 8) 8 (v_cs v), zO (ad 9) 1 [.int (nI (v_nD v)), .ref (ad 10), .ref (ad 11)], zI ct (ad 10) 6 (v_we v), zZ ct (ad 11) 6 (v_cl v), zO (ad 12) 6 [.int (nI (v_nT v)), .ref (ad 13)], zI ct (ad 13) 4 (v_sw v), zO (ad 14) 3 [.int (nI (v_nP v)), .int (v_lim v), .int (v_idl v), .ref (ad 15), .ref (ad 16), .ref (ad 17), .ref (ad 18)], zI ct (ad 15) 6 (v_po v), zI ct (ad 16) 6 (v_pw v), zZ ct (ad 17) 6 (v_on v), zI ct (ad 18) 6 (v_ra v), zO (ad 19) 0 [.int (v_ar v), .long (v_vo v), .long (v_fi v), .long (v_fo v), .long (v_fv v), .long (v_br v), .long (v_pu v)], zL ct (ad 20) 24 (v_td v)])) (vp_Si (fun r => r = if x = 0 then v_po v k else if x = 1 then v_pw v k else if x = 2 then if v_on v k = 0 then 0 else 1 else if x = 3 then if rbP (v_on v) (v_po v) (v_lim v) (drN (v_on v) (v_po v) (v_lim v) k) k then 1 else 0 else if x = 4 then v_ra v k else -2)) 0 0 (fun _ => False) := by
  refine z_read (cc := cX9_pump) (maxL := 3) (ret := some .int) (by decide) rfl (Nat.le_of_ble_eq_true rfl) ?_
  intro p e s m below meth c ls hx hb hr hml hts hown hlocks hP hK hl
  have hown : s.vm.findClass RX9 = some m.cls := hown
  have hl : lv_has ls 3 [(0, .ref f0), (1, .int (nI k)), (2, .int x)] := hl
  have hi_wsX90 : ∀ w ∈ wsX90, w ∈ wsX9_pump := fun w h => List.mem_cons_of_mem _ (List.mem_append_left _ (List.mem_append_left _ (List.mem_append_right _ h)))
  have hi_wsX60 : ∀ w ∈ wsX60, w ∈ wsX9_pump := fun w h => List.mem_cons_of_mem _ (List.mem_append_left _ (List.mem_append_right _ h))
  have hi_wsX40 : ∀ w ∈ wsX40, w ∈ wsX9_pump := fun w h => List.mem_cons_of_mem _ (List.mem_append_right _ h)
  refine lv_aload_n hx hb dX9_pump_0 rfl (lv_at hl 0 rfl) ?_
  refine va_get (D := g) (ci := 8) (v := .ref (ad 0)) (C := RX9) (T := TX9) (N := 5) hx hb hts hi_wsX90 hown hK hP 0 rfl rfl 0 (by decide) (hts (.fieldLink RX9 10 "FloodBarrier" "now" "LFloodBarrier$State;") (List.mem_of_getElem? (i := 1) rfl)) (fun _ h9 => h9) rfl dX9_pump_1 ?_
  refine va_get (D := g) (ci := 5) (v := .ref (ad 14)) (C := RX6) (T := TX6) (N := 11) hx hb hts hi_wsX60 hown hK hP 1 rfl rfl 3 (by decide) (hts (.fieldLink RX9 84 "FloodBarrier$State" "pumps" "LFloodBarrier$Pumps;") (List.mem_of_getElem? (i := 2) rfl)) (fun _ h9 => h9) rfl dX9_pump_4 ?_
  refine lv_iload_n hx hb dX9_pump_7 rfl (lv_at hl 1 rfl) ?_
  refine z_cVi (wc := [zO (ad 14) 3 [.int (nI (v_nP v)), .int (v_lim v), .int (v_idl v), .ref (ad 15), .ref (ad 16), .ref (ad 17), .ref (ad 18)], zI ct (ad 15) 6 (v_po v), zI ct (ad 16) 6 (v_pw v), zZ ct (ad 17) 6 (v_on v), zI ct (ad 18) 6 (v_ra v)]) (As := [.int (nI k)]) (rest := []) ⟨hx, hb, hml, hown, hts⟩ hK hP [15, 16, 17, 18, 19] rfl (c_X4_has l g ct (ad 14) (ad 15) (ad 16) (ad 17) (ad 18) (v_nP v) (v_lim v) (v_idl v) (v_po v) (v_pw v) (v_on v) (v_ra v) (nI k)) (cwV 1 hts gX9_pump_X4_has rfl rfl rfl (by decide +kernel) ⟨Nat.le_of_ble_eq_true rfl, Nat.le_of_ble_eq_true rfl⟩) 0 rfl rfl rfl hl.1 rfl (Nat.le_of_ble_eq_true rfl) dX9_pump_8 ⟨Nat.zero_le _, Nat.zero_le _⟩ ?_
  refine z_bif_ne (P := (¬ (nI k) < 0 ∧ (nI k) < nI (v_nP v))) (tgt := 16) hx hb dX9_pump_11 (by decide) (fun c_1 => ?_) (fun c_1 => ?_)
  · refine lv_iload_n hx hb dX9_pump_16 rfl (lv_at hl 2 rfl) ?_
    by_cases e_2 : x = 0
    · subst e_2
      refine lv_tableIn (off := 35) (tgt := 52) hx hb dX9_pump_17 (by decide) (by decide) rfl (by decide) ?_
      refine lv_aload_n hx hb dX9_pump_52 rfl (lv_at hl 0 rfl) ?_
      refine va_get (D := g) (ci := 8) (v := .ref (ad 0)) (C := RX9) (T := TX9) (N := 5) hx hb hts hi_wsX90 hown hK hP 0 rfl rfl 0 (by decide) (hts (.fieldLink RX9 10 "FloodBarrier" "now" "LFloodBarrier$State;") (List.mem_of_getElem? (i := 1) rfl)) (fun _ h9 => h9) rfl dX9_pump_53 ?_
      refine va_get (D := g) (ci := 5) (v := .ref (ad 14)) (C := RX6) (T := TX6) (N := 11) hx hb hts hi_wsX60 hown hK hP 1 rfl rfl 3 (by decide) (hts (.fieldLink RX9 84 "FloodBarrier$State" "pumps" "LFloodBarrier$Pumps;") (List.mem_of_getElem? (i := 2) rfl)) (fun _ h9 => h9) rfl dX9_pump_56 ?_
      refine va_get (D := g) (ci := 3) (v := .ref (ad 15)) (C := RX4) (T := TX4) (N := 7) hx hb hts hi_wsX40 hown hK hP 15 rfl rfl 3 (by decide) (hts (.fieldLink RX9 246 "FloodBarrier$Pumps" "power" "[I") (List.mem_of_getElem? (i := 3) rfl)) (fun _ h9 => h9) rfl dX9_pump_59 ?_
      refine lv_iload_n hx hb dX9_pump_62 rfl (lv_at hl 1 rfl) ?_
      refine z_iald (ct := ct) (f := (v_po v)) (k := k) hx hb hK hP 16 rfl (by omega) (by decide) dX9_pump_63 ?_
      exact z_iretR hx hb hr hlocks rfl rfl dX9_pump_64
    by_cases e_3 : x = 1
    · subst e_3
      refine lv_tableIn (off := 48) (tgt := 65) hx hb dX9_pump_17 (by decide) (by decide) rfl (by decide) ?_
      refine lv_aload_n hx hb dX9_pump_65 rfl (lv_at hl 0 rfl) ?_
      refine va_get (D := g) (ci := 8) (v := .ref (ad 0)) (C := RX9) (T := TX9) (N := 5) hx hb hts hi_wsX90 hown hK hP 0 rfl rfl 0 (by decide) (hts (.fieldLink RX9 10 "FloodBarrier" "now" "LFloodBarrier$State;") (List.mem_of_getElem? (i := 1) rfl)) (fun _ h9 => h9) rfl dX9_pump_66 ?_
      refine va_get (D := g) (ci := 5) (v := .ref (ad 14)) (C := RX6) (T := TX6) (N := 11) hx hb hts hi_wsX60 hown hK hP 1 rfl rfl 3 (by decide) (hts (.fieldLink RX9 84 "FloodBarrier$State" "pumps" "LFloodBarrier$Pumps;") (List.mem_of_getElem? (i := 2) rfl)) (fun _ h9 => h9) rfl dX9_pump_69 ?_
      refine va_get (D := g) (ci := 3) (v := .ref (ad 16)) (C := RX4) (T := TX4) (N := 7) hx hb hts hi_wsX40 hown hK hP 15 rfl rfl 4 (by decide) (hts (.fieldLink RX9 249 "FloodBarrier$Pumps" "water" "[I") (List.mem_of_getElem? (i := 4) rfl)) (fun _ h9 => h9) rfl dX9_pump_72 ?_
      refine lv_iload_n hx hb dX9_pump_75 rfl (lv_at hl 1 rfl) ?_
      refine z_iald (ct := ct) (f := (v_pw v)) (k := k) hx hb hK hP 17 rfl (by omega) (by decide) dX9_pump_76 ?_
      exact z_iretR hx hb hr hlocks rfl (by first | rfl | (rw [if_pos rfl]; done) | (simp [e_2])) dX9_pump_77
    by_cases e_4 : x = 2
    · subst e_4
      refine lv_tableIn (off := 61) (tgt := 78) hx hb dX9_pump_17 (by decide) (by decide) rfl (by decide) ?_
      refine lv_aload_n hx hb dX9_pump_78 rfl (lv_at hl 0 rfl) ?_
      refine va_get (D := g) (ci := 8) (v := .ref (ad 0)) (C := RX9) (T := TX9) (N := 5) hx hb hts hi_wsX90 hown hK hP 0 rfl rfl 0 (by decide) (hts (.fieldLink RX9 10 "FloodBarrier" "now" "LFloodBarrier$State;") (List.mem_of_getElem? (i := 1) rfl)) (fun _ h9 => h9) rfl dX9_pump_79 ?_
      refine va_get (D := g) (ci := 5) (v := .ref (ad 14)) (C := RX6) (T := TX6) (N := 11) hx hb hts hi_wsX60 hown hK hP 1 rfl rfl 3 (by decide) (hts (.fieldLink RX9 84 "FloodBarrier$State" "pumps" "LFloodBarrier$Pumps;") (List.mem_of_getElem? (i := 2) rfl)) (fun _ h9 => h9) rfl dX9_pump_82 ?_
      refine va_get (D := g) (ci := 3) (v := .ref (ad 17)) (C := RX4) (T := TX4) (N := 7) hx hb hts hi_wsX40 hown hK hP 15 rfl rfl 5 (by decide) (hts (.fieldLink RX9 103 "FloodBarrier$Pumps" "on" "[Z") (List.mem_of_getElem? (i := 5) rfl)) (fun _ h9 => h9) rfl dX9_pump_85 ?_
      refine lv_iload_n hx hb dX9_pump_88 rfl (lv_at hl 1 rfl) ?_
      refine z_zald (ct := ct) (f := (v_on v)) (k := k) hx hb hK hP 18 rfl (by omega) (by decide) dX9_pump_89 ?_
      refine lv_if_eq (tgt := 97) hx hb dX9_pump_90 (by decide) (fun c_5 => ?_) (fun c_5 => ?_)
      · refine lv_iconst (v := 0) hx hb dX9_pump_97 (by decide) ?_
        exact z_iretR hx hb hr hlocks rfl (by first | rfl | (rw [if_pos rfl]; done) | (simp [e_2, e_3, c_5])) dX9_pump_98
      · refine lv_iconst (v := 1) hx hb dX9_pump_93 (by decide) ?_
        refine lv_goto (tgt := 98) hx hb dX9_pump_94 (by decide) ?_
        exact z_iretR hx hb hr hlocks rfl (by first | rfl | (rw [if_pos rfl]; done) | (simp [e_2, e_3, c_5])) dX9_pump_98
    by_cases e_6 : x = 3
    · subst e_6
      refine lv_tableIn (off := 82) (tgt := 99) hx hb dX9_pump_17 (by decide) (by decide) rfl (by decide) ?_
      refine lv_aload_n hx hb dX9_pump_99 rfl (lv_at hl 0 rfl) ?_
      refine va_get (D := g) (ci := 8) (v := .ref (ad 0)) (C := RX9) (T := TX9) (N := 5) hx hb hts hi_wsX90 hown hK hP 0 rfl rfl 0 (by decide) (hts (.fieldLink RX9 10 "FloodBarrier" "now" "LFloodBarrier$State;") (List.mem_of_getElem? (i := 1) rfl)) (fun _ h9 => h9) rfl dX9_pump_100 ?_
      refine va_get (D := g) (ci := 5) (v := .ref (ad 14)) (C := RX6) (T := TX6) (N := 11) hx hb hts hi_wsX60 hown hK hP 1 rfl rfl 3 (by decide) (hts (.fieldLink RX9 84 "FloodBarrier$State" "pumps" "LFloodBarrier$Pumps;") (List.mem_of_getElem? (i := 2) rfl)) (fun _ h9 => h9) rfl dX9_pump_103 ?_
      refine lv_iload_n hx hb dX9_pump_106 rfl (lv_at hl 1 rfl) ?_
      refine z_cVi (wc := [zO (ad 14) 3 [.int (nI (v_nP v)), .int (v_lim v), .int (v_idl v), .ref (ad 15), .ref (ad 16), .ref (ad 17), .ref (ad 18)], zI ct (ad 15) 6 (v_po v), zI ct (ad 16) 6 (v_pw v), zZ ct (ad 17) 6 (v_on v), zI ct (ad 18) 6 (v_ra v)]) (As := [.int (nI k)]) (rest := []) ⟨hx, hb, hml, hown, hts⟩ hK hP [15, 16, 17, 18, 19] rfl (c_X4_wouldRun l g ct (ad 14) (ad 15) (ad 16) (ad 17) (ad 18) (v_nP v) (v_lim v) (v_idl v) (v_po v) (v_pw v) (v_on v) (v_ra v) k (by omega) (by omega)) (cwV 1 hts gX9_pump_X4_wouldRun rfl rfl rfl (by decide +kernel) ⟨Nat.le_of_ble_eq_true rfl, Nat.le_of_ble_eq_true rfl⟩) 0 rfl rfl rfl hl.1 rfl (Nat.le_of_ble_eq_true rfl) dX9_pump_107 ⟨Nat.zero_le _, Nat.zero_le _⟩ ?_
      refine z_bif_eq (P := (rbP (v_on v) (v_po v) (v_lim v) (drN (v_on v) (v_po v) (v_lim v) k) k)) (tgt := 117) hx hb dX9_pump_110 (by decide) (fun c_7 => ?_) (fun c_7 => ?_)
      · refine lv_iconst (v := 0) hx hb dX9_pump_117 (by decide) ?_
        exact z_iretR hx hb hr hlocks rfl (by first | rfl | (rw [if_pos rfl]; done) | (simp [e_2, e_3, e_4, c_7])) dX9_pump_118
      · refine lv_iconst (v := 1) hx hb dX9_pump_113 (by decide) ?_
        refine lv_goto (tgt := 118) hx hb dX9_pump_114 (by decide) ?_
        exact z_iretR hx hb hr hlocks rfl (by first | rfl | (rw [if_pos rfl]; done) | (simp [e_2, e_3, e_4, c_7])) dX9_pump_118
    by_cases e_8 : x = 4
    · subst e_8
      refine lv_tableIn (off := 102) (tgt := 119) hx hb dX9_pump_17 (by decide) (by decide) rfl (by decide) ?_
      refine lv_aload_n hx hb dX9_pump_119 rfl (lv_at hl 0 rfl) ?_
      refine va_get (D := g) (ci := 8) (v := .ref (ad 0)) (C := RX9) (T := TX9) (N := 5) hx hb hts hi_wsX90 hown hK hP 0 rfl rfl 0 (by decide) (hts (.fieldLink RX9 10 "FloodBarrier" "now" "LFloodBarrier$State;") (List.mem_of_getElem? (i := 1) rfl)) (fun _ h9 => h9) rfl dX9_pump_120 ?_
      refine va_get (D := g) (ci := 5) (v := .ref (ad 14)) (C := RX6) (T := TX6) (N := 11) hx hb hts hi_wsX60 hown hK hP 1 rfl rfl 3 (by decide) (hts (.fieldLink RX9 84 "FloodBarrier$State" "pumps" "LFloodBarrier$Pumps;") (List.mem_of_getElem? (i := 2) rfl)) (fun _ h9 => h9) rfl dX9_pump_123 ?_
      refine va_get (D := g) (ci := 3) (v := .ref (ad 18)) (C := RX4) (T := TX4) (N := 7) hx hb hts hi_wsX40 hown hK hP 15 rfl rfl 6 (by decide) (hts (.fieldLink RX9 253 "FloodBarrier$Pumps" "ran" "[I") (List.mem_of_getElem? (i := 6) rfl)) (fun _ h9 => h9) rfl dX9_pump_126 ?_
      refine lv_iload_n hx hb dX9_pump_129 rfl (lv_at hl 1 rfl) ?_
      refine z_iald (ct := ct) (f := (v_ra v)) (k := k) hx hb hK hP 19 rfl (by omega) (by decide) dX9_pump_130 ?_
      exact z_iretR hx hb hr hlocks rfl (by first | rfl | (rw [if_pos rfl]; done) | (simp [e_2, e_3, e_4, e_6])) dX9_pump_131
    refine lv_tableOut (tgt := 132) hx hb dX9_pump_17 (by have q0 : x.toInt ≠ 0 := fun q => e_2 (Int32.toInt_inj.mp (q.trans (by decide))); have q1 : x.toInt ≠ 1 := fun q => e_3 (Int32.toInt_inj.mp (q.trans (by decide))); have q2 : x.toInt ≠ 2 := fun q => e_4 (Int32.toInt_inj.mp (q.trans (by decide))); have q3 : x.toInt ≠ 3 := fun q => e_6 (Int32.toInt_inj.mp (q.trans (by decide))); have q4 : x.toInt ≠ 4 := fun q => e_8 (Int32.toInt_inj.mp (q.trans (by decide))); omega) (by decide) ?_
    refine lv_bipush (v := (-2)) hx hb dX9_pump_132 (by decide) ?_
    exact z_iretR hx hb hr hlocks rfl (by first | rfl | (rw [if_pos rfl]; done) | (simp [e_2, e_3, e_4, e_6, e_8])) dX9_pump_134
  · exact absurd (show (¬ nI k < 0 ∧ nI k < nI (v_nP v)) from ⟨nI_pos (by omega), nI_lt hk (by omega)⟩) c_1
