set_option maxHeartbeats 4000000 in
set_option maxRecDepth 100000 in
theorem c_X9_size (l : Launch) (g : va_G) (ct : Nat → ClassId) (f0 ta h0 x0 : Nat) (sn : Value) (ad : Nat → Nat) (v : SVT) (h1 old many : Nat) (r : RgT) (x1 x2 : Nat) (len : Nat) (ch te : Nat → Int32) (lv : Nat) (x : Int32) : Met l yX9_size wsX9_size (zRm 0 0) (va_Pc [.ref f0, .int x] (zR g ct [zO f0 8 [.ref (ad 0), .ref ta, .ref h0, .ref x0, sn], zO (ad 0) 5 [.ref (ad 1), .ref (ad 9), .ref (ad 12), .ref (ad 14), .ref (ad 19), .ref (ad 20), .long (v_al v), .int (nI (v_h v)), .int (v_od v), .int (v_cb v), .int (v_dl v)], zO (ad 1) 4 [.int (nI (v_nS v)), .ref (ad 2), .ref (ad 3), .ref (ad 4), .ref (ad 5), .ref (ad 6), .ref (ad 7), .ref (ad 8)], zI ct (ad 2) 8 (v_wi v), zE ct (ad 3) 8 (v_cr v), zI ct (ad 4) 8 (v_ho v), zI ct (ad 5) 8 (v_li v), zI ct (ad 6) 8 (v_co v), zI ct (ad 7) 8 (v_le v), zI ct (ad 8) 8 (v_cs v), zO (ad 9) 1 [.int (nI (v_nD v)), .ref (ad 10), .ref (ad 11)], zI ct (ad 10) 6 (v_we v), zZ ct (ad 11) 6 (v_cl v), zO (ad 12) 6 [.int (nI (v_nT v)), .ref (ad 13)], zI ct (ad 13) 4 (v_sw v), zO (ad 14) 3 [.int (nI (v_nP v)), .int (v_lim v), .int (v_idl v), .ref (ad 15), .ref (ad 16), .ref (ad 17), .ref (ad 18)], zI ct (ad 15) 6 (v_po v), zI ct (ad 16) 6 (v_pw v), zZ ct (ad 17) 6 (v_on v), zI ct (ad 18) 6 (v_ra v), zO (ad 19) 0 [.int (v_ar v), .long (v_vo v), .long (v_fi v), .long (v_fo v), .long (v_fv v), .long (v_br v), .long (v_pu v)], zL ct (ad 20) 24 (v_td v), zO h0 2 [.ref h1, .int (nI old), .int (nI many)], zQ ct h1 5 (rgA r), zO x0 7 [.int (nI len), .ref x1, .ref x2, .int (nI lv)], zC ct x1 60 ch, zI ct x2 15 te])) (vp_Si (fun r => r = if x = 11 then nI (v_nS v) else if x = 12 then nI (v_nD v) else if x = 13 then nI (v_nT v) else if x = 14 then nI (v_nP v) else if x = 15 then nI many else if x = 16 then nI len else if x = 17 then v_idl v else -2)) 0 0 (fun _ => False) := by
  refine z_read (cc := cX9_size) (maxL := 2) (ret := some .int) (by decide) rfl (Nat.le_of_ble_eq_true rfl) ?_
  intro p e s m below meth c ls hx hb hr hml hts hown hlocks hP hK hl
  have hown : s.vm.findClass RX9 = some m.cls := hown
  have hl : lv_has ls 2 [(0, .ref f0), (1, .int x)] := hl
  have hi_wsX90 : ∀ w ∈ wsX90, w ∈ wsX9_size := fun w h => List.mem_cons_of_mem _ (List.mem_append_left _ (List.mem_append_left _ (List.mem_append_left _ (List.mem_append_left _ (List.mem_append_left _ (List.mem_append_left _ (List.mem_append_left _ (List.mem_append_right _ h))))))))
  have hi_wsX60 : ∀ w ∈ wsX60, w ∈ wsX9_size := fun w h => List.mem_cons_of_mem _ (List.mem_append_left _ (List.mem_append_left _ (List.mem_append_left _ (List.mem_append_left _ (List.mem_append_left _ (List.mem_append_left _ (List.mem_append_right _ h)))))))
  have hi_wsX50 : ∀ w ∈ wsX50, w ∈ wsX9_size := fun w h => List.mem_cons_of_mem _ (List.mem_append_left _ (List.mem_append_left _ (List.mem_append_left _ (List.mem_append_left _ (List.mem_append_left _ (List.mem_append_right _ h))))))
  have hi_wsX10 : ∀ w ∈ wsX10, w ∈ wsX9_size := fun w h => List.mem_cons_of_mem _ (List.mem_append_left _ (List.mem_append_left _ (List.mem_append_left _ (List.mem_append_left _ (List.mem_append_right _ h)))))
  have hi_wsX70 : ∀ w ∈ wsX70, w ∈ wsX9_size := fun w h => List.mem_cons_of_mem _ (List.mem_append_left _ (List.mem_append_left _ (List.mem_append_left _ (List.mem_append_right _ h))))
  have hi_wsX40 : ∀ w ∈ wsX40, w ∈ wsX9_size := fun w h => List.mem_cons_of_mem _ (List.mem_append_left _ (List.mem_append_left _ (List.mem_append_right _ h)))
  have hi_wsX20 : ∀ w ∈ wsX20, w ∈ wsX9_size := fun w h => List.mem_cons_of_mem _ (List.mem_append_left _ (List.mem_append_right _ h))
  have hi_wsX80 : ∀ w ∈ wsX80, w ∈ wsX9_size := fun w h => List.mem_cons_of_mem _ (List.mem_append_right _ h)
  refine lv_iload_n hx hb dX9_size_0 rfl (lv_at hl 1 rfl) ?_
  by_cases e_1 : x = 11
  · subst e_1
    refine lv_tableIn (off := 43) (tgt := 44) hx hb dX9_size_1 (by decide) (by decide) rfl (by decide) ?_
    refine lv_aload_n hx hb dX9_size_44 rfl (lv_at hl 0 rfl) ?_
    refine va_get (D := g) (ci := 8) (v := .ref (ad 0)) (C := RX9) (T := TX9) (N := 5) hx hb hts hi_wsX90 hown hK hP 0 rfl rfl 0 (by decide) (hts (.fieldLink RX9 10 "FloodBarrier" "now" "LFloodBarrier$State;") (List.mem_of_getElem? (i := 1) rfl)) (fun _ h9 => h9) rfl dX9_size_45 ?_
    refine va_get (D := g) (ci := 5) (v := .ref (ad 1)) (C := RX6) (T := TX6) (N := 11) hx hb hts hi_wsX60 hown hK hP 1 rfl rfl 0 (by decide) (hts (.fieldLink RX9 43 "FloodBarrier$State" "sections" "LFloodBarrier$Sections;") (List.mem_of_getElem? (i := 2) rfl)) (fun _ h9 => h9) rfl dX9_size_48 ?_
    refine va_get (D := g) (ci := 4) (v := .int (nI (v_nS v))) (C := RX5) (T := TX5) (N := 8) hx hb hts hi_wsX50 hown hK hP 2 rfl rfl 0 (by decide) (hts (.fieldLink RX9 297 "FloodBarrier$Sections" "many" "I") (List.mem_of_getElem? (i := 3) rfl)) (fun _ h9 => h9) rfl dX9_size_51 ?_
    exact z_iretR hx hb hr hlocks rfl rfl dX9_size_54
  by_cases e_2 : x = 12
  · subst e_2
    refine lv_tableIn (off := 54) (tgt := 55) hx hb dX9_size_1 (by decide) (by decide) rfl (by decide) ?_
    refine lv_aload_n hx hb dX9_size_55 rfl (lv_at hl 0 rfl) ?_
    refine va_get (D := g) (ci := 8) (v := .ref (ad 0)) (C := RX9) (T := TX9) (N := 5) hx hb hts hi_wsX90 hown hK hP 0 rfl rfl 0 (by decide) (hts (.fieldLink RX9 10 "FloodBarrier" "now" "LFloodBarrier$State;") (List.mem_of_getElem? (i := 1) rfl)) (fun _ h9 => h9) rfl dX9_size_56 ?_
    refine va_get (D := g) (ci := 5) (v := .ref (ad 9)) (C := RX6) (T := TX6) (N := 11) hx hb hts hi_wsX60 hown hK hP 1 rfl rfl 1 (by decide) (hts (.fieldLink RX9 65 "FloodBarrier$State" "districts" "LFloodBarrier$Districts;") (List.mem_of_getElem? (i := 4) rfl)) (fun _ h9 => h9) rfl dX9_size_59 ?_
    refine va_get (D := g) (ci := 1) (v := .int (nI (v_nD v))) (C := RX1) (T := TX1) (N := 3) hx hb hts hi_wsX10 hown hK hP 10 rfl rfl 0 (by decide) (hts (.fieldLink RX9 298 "FloodBarrier$Districts" "many" "I") (List.mem_of_getElem? (i := 5) rfl)) (fun _ h9 => h9) rfl dX9_size_62 ?_
    exact z_iretR hx hb hr hlocks rfl (by first | rfl | (simp [e_1])) dX9_size_65
  by_cases e_3 : x = 13
  · subst e_3
    refine lv_tableIn (off := 65) (tgt := 66) hx hb dX9_size_1 (by decide) (by decide) rfl (by decide) ?_
    refine lv_aload_n hx hb dX9_size_66 rfl (lv_at hl 0 rfl) ?_
    refine va_get (D := g) (ci := 8) (v := .ref (ad 0)) (C := RX9) (T := TX9) (N := 5) hx hb hts hi_wsX90 hown hK hP 0 rfl rfl 0 (by decide) (hts (.fieldLink RX9 10 "FloodBarrier" "now" "LFloodBarrier$State;") (List.mem_of_getElem? (i := 1) rfl)) (fun _ h9 => h9) rfl dX9_size_67 ?_
    refine va_get (D := g) (ci := 5) (v := .ref (ad 12)) (C := RX6) (T := TX6) (N := 11) hx hb hts hi_wsX60 hown hK hP 1 rfl rfl 2 (by decide) (hts (.fieldLink RX9 76 "FloodBarrier$State" "streams" "LFloodBarrier$Streams;") (List.mem_of_getElem? (i := 6) rfl)) (fun _ h9 => h9) rfl dX9_size_70 ?_
    refine va_get (D := g) (ci := 6) (v := .int (nI (v_nT v))) (C := RX7) (T := TX7) (N := 2) hx hb hts hi_wsX70 hown hK hP 13 rfl rfl 0 (by decide) (hts (.fieldLink RX9 299 "FloodBarrier$Streams" "many" "I") (List.mem_of_getElem? (i := 7) rfl)) (fun _ h9 => h9) rfl dX9_size_73 ?_
    exact z_iretR hx hb hr hlocks rfl (by first | rfl | (simp [e_1, e_2])) dX9_size_76
  by_cases e_4 : x = 14
  · subst e_4
    refine lv_tableIn (off := 76) (tgt := 77) hx hb dX9_size_1 (by decide) (by decide) rfl (by decide) ?_
    refine lv_aload_n hx hb dX9_size_77 rfl (lv_at hl 0 rfl) ?_
    refine va_get (D := g) (ci := 8) (v := .ref (ad 0)) (C := RX9) (T := TX9) (N := 5) hx hb hts hi_wsX90 hown hK hP 0 rfl rfl 0 (by decide) (hts (.fieldLink RX9 10 "FloodBarrier" "now" "LFloodBarrier$State;") (List.mem_of_getElem? (i := 1) rfl)) (fun _ h9 => h9) rfl dX9_size_78 ?_
    refine va_get (D := g) (ci := 5) (v := .ref (ad 14)) (C := RX6) (T := TX6) (N := 11) hx hb hts hi_wsX60 hown hK hP 1 rfl rfl 3 (by decide) (hts (.fieldLink RX9 84 "FloodBarrier$State" "pumps" "LFloodBarrier$Pumps;") (List.mem_of_getElem? (i := 8) rfl)) (fun _ h9 => h9) rfl dX9_size_81 ?_
    refine va_get (D := g) (ci := 3) (v := .int (nI (v_nP v))) (C := RX4) (T := TX4) (N := 7) hx hb hts hi_wsX40 hown hK hP 15 rfl rfl 0 (by decide) (hts (.fieldLink RX9 300 "FloodBarrier$Pumps" "many" "I") (List.mem_of_getElem? (i := 9) rfl)) (fun _ h9 => h9) rfl dX9_size_84 ?_
    exact z_iretR hx hb hr hlocks rfl (by first | rfl | (simp [e_1, e_2, e_3])) dX9_size_87
  by_cases e_5 : x = 15
  · subst e_5
    refine lv_tableIn (off := 87) (tgt := 88) hx hb dX9_size_1 (by decide) (by decide) rfl (by decide) ?_
    refine lv_aload_n hx hb dX9_size_88 rfl (lv_at hl 0 rfl) ?_
    refine va_get (D := g) (ci := 8) (v := .ref h0) (C := RX9) (T := TX9) (N := 5) hx hb hts hi_wsX90 hown hK hP 0 rfl rfl 2 (by decide) (hts (.fieldLink RX9 22 "FloodBarrier" "history" "LFloodBarrier$History;") (List.mem_of_getElem? (i := 10) rfl)) (fun _ h9 => h9) rfl dX9_size_89 ?_
    refine va_get (D := g) (ci := 2) (v := .int (nI many)) (C := RX2) (T := TX2) (N := 3) hx hb hts hi_wsX20 hown hK hP 22 rfl rfl 2 (by decide) (hts (.fieldLink RX9 222 "FloodBarrier$History" "many" "I") (List.mem_of_getElem? (i := 11) rfl)) (fun _ h9 => h9) rfl dX9_size_92 ?_
    exact z_iretR hx hb hr hlocks rfl (by first | rfl | (simp [e_1, e_2, e_3, e_4])) dX9_size_95
  by_cases e_6 : x = 16
  · subst e_6
    refine lv_tableIn (off := 95) (tgt := 96) hx hb dX9_size_1 (by decide) (by decide) rfl (by decide) ?_
    refine lv_aload_n hx hb dX9_size_96 rfl (lv_at hl 0 rfl) ?_
    refine va_get (D := g) (ci := 8) (v := .ref x0) (C := RX9) (T := TX9) (N := 5) hx hb hts hi_wsX90 hown hK hP 0 rfl rfl 3 (by decide) (hts (.fieldLink RX9 29 "FloodBarrier" "text" "LFloodBarrier$TideText;") (List.mem_of_getElem? (i := 12) rfl)) (fun _ h9 => h9) rfl dX9_size_97 ?_
    refine va_get (D := g) (ci := 7) (v := .int (nI len)) (C := RX8) (T := TX8) (N := 4) hx hb hts hi_wsX80 hown hK hP 24 rfl rfl 0 (by decide) (hts (.fieldLink RX9 301 "FloodBarrier$TideText" "length" "I") (List.mem_of_getElem? (i := 13) rfl)) (fun _ h9 => h9) rfl dX9_size_100 ?_
    exact z_iretR hx hb hr hlocks rfl (by first | rfl | (simp [e_1, e_2, e_3, e_4, e_5])) dX9_size_103
  by_cases e_7 : x = 17
  · subst e_7
    refine lv_tableIn (off := 103) (tgt := 104) hx hb dX9_size_1 (by decide) (by decide) rfl (by decide) ?_
    refine lv_aload_n hx hb dX9_size_104 rfl (lv_at hl 0 rfl) ?_
    refine va_get (D := g) (ci := 8) (v := .ref (ad 0)) (C := RX9) (T := TX9) (N := 5) hx hb hts hi_wsX90 hown hK hP 0 rfl rfl 0 (by decide) (hts (.fieldLink RX9 10 "FloodBarrier" "now" "LFloodBarrier$State;") (List.mem_of_getElem? (i := 1) rfl)) (fun _ h9 => h9) rfl dX9_size_105 ?_
    refine va_get (D := g) (ci := 5) (v := .ref (ad 14)) (C := RX6) (T := TX6) (N := 11) hx hb hts hi_wsX60 hown hK hP 1 rfl rfl 3 (by decide) (hts (.fieldLink RX9 84 "FloodBarrier$State" "pumps" "LFloodBarrier$Pumps;") (List.mem_of_getElem? (i := 8) rfl)) (fun _ h9 => h9) rfl dX9_size_108 ?_
    refine va_get (D := g) (ci := 3) (v := .int (v_idl v)) (C := RX4) (T := TX4) (N := 7) hx hb hts hi_wsX40 hown hK hP 15 rfl rfl 2 (by decide) (hts (.fieldLink RX9 304 "FloodBarrier$Pumps" "idle" "I") (List.mem_of_getElem? (i := 14) rfl)) (fun _ h9 => h9) rfl dX9_size_111 ?_
    exact z_iretR hx hb hr hlocks rfl (by first | rfl | (simp [e_1, e_2, e_3, e_4, e_5, e_6])) dX9_size_114
  refine lv_tableOut (tgt := 115) hx hb dX9_size_1 (by have q0 : x.toInt ≠ 11 := fun q => e_1 (Int32.toInt_inj.mp (q.trans (by decide))); have q1 : x.toInt ≠ 12 := fun q => e_2 (Int32.toInt_inj.mp (q.trans (by decide))); have q2 : x.toInt ≠ 13 := fun q => e_3 (Int32.toInt_inj.mp (q.trans (by decide))); have q3 : x.toInt ≠ 14 := fun q => e_4 (Int32.toInt_inj.mp (q.trans (by decide))); have q4 : x.toInt ≠ 15 := fun q => e_5 (Int32.toInt_inj.mp (q.trans (by decide))); have q5 : x.toInt ≠ 16 := fun q => e_6 (Int32.toInt_inj.mp (q.trans (by decide))); have q6 : x.toInt ≠ 17 := fun q => e_7 (Int32.toInt_inj.mp (q.trans (by decide))); omega) (by decide) ?_
  refine lv_bipush (v := (-2)) hx hb dX9_size_115 (by decide) ?_
  exact z_iretR hx hb hr hlocks rfl (by first | rfl | (simp [e_1, e_2, e_3, e_4, e_5, e_6, e_7])) dX9_size_117

set_option maxHeartbeats 4000000 in
set_option maxRecDepth 100000 in
theorem c_X9_count_a (l : Launch) (g : va_G) (ct : Nat → ClassId) (f0 ta h0 x0 : Nat) (sn : Value) (ad : Nat → Nat) (v : SVT) (h1 old many : Nat) (r : RgT) (x1 x2 : Nat) (len : Nat) (ch te : Nat → Int32) (lv : Nat) (hnS : v_nS v ≤ 8) (hnD : v_nD v ≤ 6) (x : Int32) : Met l yX9_count wsX9_count (zRm 2 42) (va_Pc [.ref f0, .int x] (zR g ct [zO f0 8 [.ref (ad 0), .ref ta, .ref h0, .ref x0, sn], zO (ad 0) 5 [.ref (ad 1), .ref (ad 9), .ref (ad 12), .ref (ad 14), .ref (ad 19), .ref (ad 20), .long (v_al v), .int (nI (v_h v)), .int (v_od v), .int (v_cb v), .int (v_dl v)], zO (ad 1) 4 [.int (nI (v_nS v)), .ref (ad 2), .ref (ad 3), .ref (ad 4), .ref (ad 5), .ref (ad 6), .ref (ad 7), .ref (ad 8)], zI ct (ad 2) 8 (v_wi v), zE ct (ad 3) 8 (v_cr v), zI ct (ad 4) 8 (v_ho v), zI ct (ad 5) 8 (v_li v), zI ct (ad 6) 8 (v_co v), zI ct (ad 7) 8 (v_le v), zI ct (ad 8) 8 (v_cs v), zO (ad 9) 1 [.int (nI (v_nD v)), .ref (ad 10), .ref (ad 11)], zI ct (ad 10) 6 (v_we v), zZ ct (ad 11) 6 (v_cl v), zO (ad 12) 6 [.int (nI (v_nT v)), .ref (ad 13)], zI ct (ad 13) 4 (v_sw v), zO (ad 14) 3 [.int (nI (v_nP v)), .int (v_lim v), .int (v_idl v), .ref (ad 15), .ref (ad 16), .ref (ad 17), .ref (ad 18)], zI ct (ad 15) 6 (v_po v), zI ct (ad 16) 6 (v_pw v), zZ ct (ad 17) 6 (v_on v), zI ct (ad 18) 6 (v_ra v), zO (ad 19) 0 [.int (v_ar v), .long (v_vo v), .long (v_fi v), .long (v_fo v), .long (v_fv v), .long (v_br v), .long (v_pu v)], zL ct (ad 20) 24 (v_td v), zO h0 2 [.ref h1, .int (nI old), .int (nI many)], zQ ct h1 5 (rgA r), zO x0 7 [.int (nI len), .ref x1, .ref x2, .int (nI lv)], zC ct x1 60 ch, zI ct x2 15 te])) (vp_Si (fun r => r = if x = 0 then nI (v_h v) else if x = 1 then v_od v else if x = 2 then mvI (v_co v) (v_nS v) else if x = 3 then cntI (v_co v) 2 (v_nS v) else if x = 4 then cntI (v_co v) 4 (v_nS v) else if x = 5 then wcI (v_cl v) (v_we v) (v_nD v) else if x = 6 then waI (v_we v) (v_nD v) else if x = 7 then v_cb v else if x = 8 then v_dl v else if x = 9 then v_ar v else if x = 10 then v_lim v else if x = 11 then nI (v_nS v) else if x = 12 then nI (v_nD v) else if x = 13 then nI (v_nT v) else if x = 14 then nI (v_nP v) else if x = 15 then nI many else if x = 16 then nI len else if x = 17 then v_idl v else -2)) 0 0 (fun _ => False) := by
  refine z_read (cc := cX9_count) (maxL := 2) (ret := some .int) (by decide) rfl (Nat.le_of_ble_eq_true rfl) ?_
  intro p e s m below meth c ls hx hb hr hml hts hown hlocks hP hK hl
  have hown : s.vm.findClass RX9 = some m.cls := hown
  have hl : lv_has ls 2 [(0, .ref f0), (1, .int x)] := hl
  have hi_wsX90 : ∀ w ∈ wsX90, w ∈ wsX9_count := fun w h => List.mem_cons_of_mem _ (List.mem_append_left _ (List.mem_append_left _ (List.mem_append_left _ (List.mem_append_left _ (List.mem_append_left _ (List.mem_append_left _ (List.mem_append_left _ (List.mem_append_left _ (List.mem_append_right _ h)))))))))
  have hi_wsX60 : ∀ w ∈ wsX60, w ∈ wsX9_count := fun w h => List.mem_cons_of_mem _ (List.mem_append_left _ (List.mem_append_left _ (List.mem_append_left _ (List.mem_append_left _ (List.mem_append_left _ (List.mem_append_left _ (List.mem_append_left _ (List.mem_append_right _ h))))))))
  have hi_wsX00 : ∀ w ∈ wsX00, w ∈ wsX9_count := fun w h => List.mem_cons_of_mem _ (List.mem_append_left _ (List.mem_append_left _ (List.mem_append_left _ (List.mem_append_left _ (List.mem_append_left _ (List.mem_append_left _ (List.mem_append_right _ h)))))))
  have hi_wsX40 : ∀ w ∈ wsX40, w ∈ wsX9_count := fun w h => List.mem_cons_of_mem _ (List.mem_append_left _ (List.mem_append_left _ (List.mem_append_left _ (List.mem_append_left _ (List.mem_append_left _ (List.mem_append_right _ h))))))
  refine lv_iload_n hx hb dX9_count_0 rfl (lv_at hl 1 rfl) ?_
  by_cases e_1 : x = 0
  · subst e_1
    refine lv_tableIn (off := 59) (tgt := 60) hx hb dX9_count_1 (by decide) (by decide) rfl (by decide) ?_
    refine lv_aload_n hx hb dX9_count_60 rfl (lv_at hl 0 rfl) ?_
    refine va_get (D := g) (ci := 8) (v := .ref (ad 0)) (C := RX9) (T := TX9) (N := 5) hx hb hts hi_wsX90 hown hK hP 0 rfl rfl 0 (by decide) (hts (.fieldLink RX9 10 "FloodBarrier" "now" "LFloodBarrier$State;") (List.mem_of_getElem? (i := 1) rfl)) (fun _ h9 => h9) rfl dX9_count_61 ?_
    refine va_get (D := g) (ci := 5) (v := .int (nI (v_h v))) (C := RX6) (T := TX6) (N := 11) hx hb hts hi_wsX60 hown hK hP 1 rfl rfl 7 (by decide) (hts (.fieldLink RX9 231 "FloodBarrier$State" "hour" "I") (List.mem_of_getElem? (i := 2) rfl)) (fun _ h9 => h9) rfl dX9_count_64 ?_
    exact z_iretR hx hb hr hlocks rfl rfl dX9_count_67
  by_cases e_2 : x = 1
  · subst e_2
    refine lv_tableIn (off := 67) (tgt := 68) hx hb dX9_count_1 (by decide) (by decide) rfl (by decide) ?_
    refine lv_aload_n hx hb dX9_count_68 rfl (lv_at hl 0 rfl) ?_
    refine va_get (D := g) (ci := 8) (v := .ref (ad 0)) (C := RX9) (T := TX9) (N := 5) hx hb hts hi_wsX90 hown hK hP 0 rfl rfl 0 (by decide) (hts (.fieldLink RX9 10 "FloodBarrier" "now" "LFloodBarrier$State;") (List.mem_of_getElem? (i := 1) rfl)) (fun _ h9 => h9) rfl dX9_count_69 ?_
    refine va_get (D := g) (ci := 5) (v := .int (v_od v)) (C := RX6) (T := TX6) (N := 11) hx hb hts hi_wsX60 hown hK hP 1 rfl rfl 8 (by decide) (hts (.fieldLink RX9 162 "FloodBarrier$State" "order" "I") (List.mem_of_getElem? (i := 3) rfl)) (fun _ h9 => h9) rfl dX9_count_72 ?_
    exact z_iretR hx hb hr hlocks rfl (by first | rfl | (simp only [if_neg e_1])) dX9_count_75
  by_cases e_3 : x = 2
  · subst e_3
    refine lv_tableIn (off := 75) (tgt := 76) hx hb dX9_count_1 (by decide) (by decide) rfl (by decide) ?_
    refine lv_aload_n hx hb dX9_count_76 rfl (lv_at hl 0 rfl) ?_
    refine va_get (D := g) (ci := 8) (v := .ref (ad 0)) (C := RX9) (T := TX9) (N := 5) hx hb hts hi_wsX90 hown hK hP 0 rfl rfl 0 (by decide) (hts (.fieldLink RX9 10 "FloodBarrier" "now" "LFloodBarrier$State;") (List.mem_of_getElem? (i := 1) rfl)) (fun _ h9 => h9) rfl dX9_count_77 ?_
    refine va_get (D := g) (ci := 5) (v := .ref (ad 1)) (C := RX6) (T := TX6) (N := 11) hx hb hts hi_wsX60 hown hK hP 1 rfl rfl 0 (by decide) (hts (.fieldLink RX9 43 "FloodBarrier$State" "sections" "LFloodBarrier$Sections;") (List.mem_of_getElem? (i := 4) rfl)) (fun _ h9 => h9) rfl dX9_count_80 ?_
    refine z_cVi (wc := [zO (ad 1) 4 [.int (nI (v_nS v)), .ref (ad 2), .ref (ad 3), .ref (ad 4), .ref (ad 5), .ref (ad 6), .ref (ad 7), .ref (ad 8)], zI ct (ad 2) 8 (v_wi v), zE ct (ad 3) 8 (v_cr v), zI ct (ad 4) 8 (v_ho v), zI ct (ad 5) 8 (v_li v), zI ct (ad 6) 8 (v_co v), zI ct (ad 7) 8 (v_le v), zI ct (ad 8) 8 (v_cs v)]) (As := []) (rest := []) ⟨hx, hb, hml, hown, hts⟩ hK hP [2, 3, 4, 5, 6, 7, 8, 9] rfl (c_X5_moving l g ct (ad 1) (ad 2) (ad 3) (ad 4) (ad 5) (ad 6) (ad 7) (ad 8) (v_nS v) (v_wi v) (v_cr v) (v_ho v) (v_li v) (v_co v) (v_le v) (v_cs v) (by omega)) (cwV 0 hts gX9_count_X5_moving rfl rfl rfl (by decide +kernel) ⟨Nat.le_of_ble_eq_true rfl, Nat.le_of_ble_eq_true rfl⟩) 0 rfl rfl rfl hl.1 rfl (Nat.le_of_ble_eq_true rfl) dX9_count_83 ⟨Nat.zero_le _, Nat.zero_le _⟩ ?_
    exact z_iretR hx hb hr hlocks rfl (by first | rfl | (simp only [if_neg e_1, if_neg e_2])) dX9_count_86
  by_cases e_4 : x = 3
  · subst e_4
    refine lv_tableIn (off := 86) (tgt := 87) hx hb dX9_count_1 (by decide) (by decide) rfl (by decide) ?_
    refine lv_aload_n hx hb dX9_count_87 rfl (lv_at hl 0 rfl) ?_
    refine va_get (D := g) (ci := 8) (v := .ref (ad 0)) (C := RX9) (T := TX9) (N := 5) hx hb hts hi_wsX90 hown hK hP 0 rfl rfl 0 (by decide) (hts (.fieldLink RX9 10 "FloodBarrier" "now" "LFloodBarrier$State;") (List.mem_of_getElem? (i := 1) rfl)) (fun _ h9 => h9) rfl dX9_count_88 ?_
    refine va_get (D := g) (ci := 5) (v := .ref (ad 1)) (C := RX6) (T := TX6) (N := 11) hx hb hts hi_wsX60 hown hK hP 1 rfl rfl 0 (by decide) (hts (.fieldLink RX9 43 "FloodBarrier$State" "sections" "LFloodBarrier$Sections;") (List.mem_of_getElem? (i := 4) rfl)) (fun _ h9 => h9) rfl dX9_count_91 ?_
    refine lv_iconst (v := 2) hx hb dX9_count_94 (by decide) ?_
    refine z_cVi (wc := [zO (ad 1) 4 [.int (nI (v_nS v)), .ref (ad 2), .ref (ad 3), .ref (ad 4), .ref (ad 5), .ref (ad 6), .ref (ad 7), .ref (ad 8)], zI ct (ad 2) 8 (v_wi v), zE ct (ad 3) 8 (v_cr v), zI ct (ad 4) 8 (v_ho v), zI ct (ad 5) 8 (v_li v), zI ct (ad 6) 8 (v_co v), zI ct (ad 7) 8 (v_le v), zI ct (ad 8) 8 (v_cs v)]) (As := [.int 2]) (rest := []) ⟨hx, hb, hml, hown, hts⟩ hK hP [2, 3, 4, 5, 6, 7, 8, 9] rfl (c_X5_countIn l g ct (ad 1) (ad 2) (ad 3) (ad 4) (ad 5) (ad 6) (ad 7) (ad 8) (v_nS v) (v_wi v) (v_cr v) (v_ho v) (v_li v) (v_co v) (v_le v) (v_cs v) (by omega) 2) (cwV 1 hts gX9_count_X5_countIn rfl rfl rfl (by decide +kernel) ⟨Nat.le_of_ble_eq_true rfl, Nat.le_of_ble_eq_true rfl⟩) 0 rfl rfl rfl hl.1 rfl (Nat.le_of_ble_eq_true rfl) dX9_count_95 ⟨Nat.zero_le _, Nat.zero_le _⟩ ?_
    exact z_iretR hx hb hr hlocks rfl (by first | rfl | (simp only [if_neg e_1, if_neg e_2, if_neg e_3])) dX9_count_98
  by_cases e_5 : x = 4
  · subst e_5
    refine lv_tableIn (off := 98) (tgt := 99) hx hb dX9_count_1 (by decide) (by decide) rfl (by decide) ?_
    refine lv_aload_n hx hb dX9_count_99 rfl (lv_at hl 0 rfl) ?_
    refine va_get (D := g) (ci := 8) (v := .ref (ad 0)) (C := RX9) (T := TX9) (N := 5) hx hb hts hi_wsX90 hown hK hP 0 rfl rfl 0 (by decide) (hts (.fieldLink RX9 10 "FloodBarrier" "now" "LFloodBarrier$State;") (List.mem_of_getElem? (i := 1) rfl)) (fun _ h9 => h9) rfl dX9_count_100 ?_
    refine va_get (D := g) (ci := 5) (v := .ref (ad 1)) (C := RX6) (T := TX6) (N := 11) hx hb hts hi_wsX60 hown hK hP 1 rfl rfl 0 (by decide) (hts (.fieldLink RX9 43 "FloodBarrier$State" "sections" "LFloodBarrier$Sections;") (List.mem_of_getElem? (i := 4) rfl)) (fun _ h9 => h9) rfl dX9_count_103 ?_
    refine lv_iconst (v := 4) hx hb dX9_count_106 (by decide) ?_
    refine z_cVi (wc := [zO (ad 1) 4 [.int (nI (v_nS v)), .ref (ad 2), .ref (ad 3), .ref (ad 4), .ref (ad 5), .ref (ad 6), .ref (ad 7), .ref (ad 8)], zI ct (ad 2) 8 (v_wi v), zE ct (ad 3) 8 (v_cr v), zI ct (ad 4) 8 (v_ho v), zI ct (ad 5) 8 (v_li v), zI ct (ad 6) 8 (v_co v), zI ct (ad 7) 8 (v_le v), zI ct (ad 8) 8 (v_cs v)]) (As := [.int 4]) (rest := []) ⟨hx, hb, hml, hown, hts⟩ hK hP [2, 3, 4, 5, 6, 7, 8, 9] rfl (c_X5_countIn l g ct (ad 1) (ad 2) (ad 3) (ad 4) (ad 5) (ad 6) (ad 7) (ad 8) (v_nS v) (v_wi v) (v_cr v) (v_ho v) (v_li v) (v_co v) (v_le v) (v_cs v) (by omega) 4) (cwV 1 hts gX9_count_X5_countIn rfl rfl rfl (by decide +kernel) ⟨Nat.le_of_ble_eq_true rfl, Nat.le_of_ble_eq_true rfl⟩) 0 rfl rfl rfl hl.1 rfl (Nat.le_of_ble_eq_true rfl) dX9_count_107 ⟨Nat.zero_le _, Nat.zero_le _⟩ ?_
    exact z_iretR hx hb hr hlocks rfl (by first | rfl | (simp only [if_neg e_1, if_neg e_2, if_neg e_3, if_neg e_4])) dX9_count_110
  by_cases e_6 : x = 5
  · subst e_6
    refine lv_tableIn (off := 110) (tgt := 111) hx hb dX9_count_1 (by decide) (by decide) rfl (by decide) ?_
    refine lv_aload_n hx hb dX9_count_111 rfl (lv_at hl 0 rfl) ?_
    refine va_get (D := g) (ci := 8) (v := .ref (ad 0)) (C := RX9) (T := TX9) (N := 5) hx hb hts hi_wsX90 hown hK hP 0 rfl rfl 0 (by decide) (hts (.fieldLink RX9 10 "FloodBarrier" "now" "LFloodBarrier$State;") (List.mem_of_getElem? (i := 1) rfl)) (fun _ h9 => h9) rfl dX9_count_112 ?_
    refine va_get (D := g) (ci := 5) (v := .ref (ad 9)) (C := RX6) (T := TX6) (N := 11) hx hb hts hi_wsX60 hown hK hP 1 rfl rfl 1 (by decide) (hts (.fieldLink RX9 65 "FloodBarrier$State" "districts" "LFloodBarrier$Districts;") (List.mem_of_getElem? (i := 5) rfl)) (fun _ h9 => h9) rfl dX9_count_115 ?_
    refine z_cVi (wc := [zO (ad 9) 1 [.int (nI (v_nD v)), .ref (ad 10), .ref (ad 11)], zI ct (ad 10) 6 (v_we v), zZ ct (ad 11) 6 (v_cl v)]) (As := []) (rest := []) ⟨hx, hb, hml, hown, hts⟩ hK hP [10, 11, 12] rfl (c_X1_weightForClosing l g ct (ad 9) (ad 10) (ad 11) (v_nD v) (v_we v) (v_cl v) (by omega)) (cwV 0 hts gX9_count_X1_weightForClosing rfl rfl rfl (by decide +kernel) ⟨Nat.le_of_ble_eq_true rfl, Nat.le_of_ble_eq_true rfl⟩) 0 rfl rfl rfl hl.1 rfl (Nat.le_of_ble_eq_true rfl) dX9_count_118 ⟨Nat.zero_le _, Nat.zero_le _⟩ ?_
    exact z_iretR hx hb hr hlocks rfl (by first | rfl | (simp only [if_neg e_1, if_neg e_2, if_neg e_3, if_neg e_4, if_neg e_5])) dX9_count_121
  by_cases e_7 : x = 6
  · subst e_7
    refine lv_tableIn (off := 121) (tgt := 122) hx hb dX9_count_1 (by decide) (by decide) rfl (by decide) ?_
    refine lv_aload_n hx hb dX9_count_122 rfl (lv_at hl 0 rfl) ?_
    refine va_get (D := g) (ci := 8) (v := .ref (ad 0)) (C := RX9) (T := TX9) (N := 5) hx hb hts hi_wsX90 hown hK hP 0 rfl rfl 0 (by decide) (hts (.fieldLink RX9 10 "FloodBarrier" "now" "LFloodBarrier$State;") (List.mem_of_getElem? (i := 1) rfl)) (fun _ h9 => h9) rfl dX9_count_123 ?_
    refine va_get (D := g) (ci := 5) (v := .ref (ad 9)) (C := RX6) (T := TX6) (N := 11) hx hb hts hi_wsX60 hown hK hP 1 rfl rfl 1 (by decide) (hts (.fieldLink RX9 65 "FloodBarrier$State" "districts" "LFloodBarrier$Districts;") (List.mem_of_getElem? (i := 5) rfl)) (fun _ h9 => h9) rfl dX9_count_126 ?_
    refine z_cVi (wc := [zO (ad 9) 1 [.int (nI (v_nD v)), .ref (ad 10), .ref (ad 11)], zI ct (ad 10) 6 (v_we v), zZ ct (ad 11) 6 (v_cl v)]) (As := []) (rest := []) ⟨hx, hb, hml, hown, hts⟩ hK hP [10, 11, 12] rfl (c_X1_weightOfAll l g ct (ad 9) (ad 10) (ad 11) (v_nD v) (v_we v) (v_cl v) (by omega)) (cwV 0 hts gX9_count_X1_weightOfAll rfl rfl rfl (by decide +kernel) ⟨Nat.le_of_ble_eq_true rfl, Nat.le_of_ble_eq_true rfl⟩) 0 rfl rfl rfl hl.1 rfl (Nat.le_of_ble_eq_true rfl) dX9_count_129 ⟨Nat.zero_le _, Nat.zero_le _⟩ ?_
    exact z_iretR hx hb hr hlocks rfl (by first | rfl | (simp only [if_neg e_1, if_neg e_2, if_neg e_3, if_neg e_4, if_neg e_5, if_neg e_6])) dX9_count_132
  by_cases e_8 : x = 7
  · subst e_8
    refine lv_tableIn (off := 132) (tgt := 133) hx hb dX9_count_1 (by decide) (by decide) rfl (by decide) ?_
    refine lv_aload_n hx hb dX9_count_133 rfl (lv_at hl 0 rfl) ?_
    refine va_get (D := g) (ci := 8) (v := .ref (ad 0)) (C := RX9) (T := TX9) (N := 5) hx hb hts hi_wsX90 hown hK hP 0 rfl rfl 0 (by decide) (hts (.fieldLink RX9 10 "FloodBarrier" "now" "LFloodBarrier$State;") (List.mem_of_getElem? (i := 1) rfl)) (fun _ h9 => h9) rfl dX9_count_134 ?_
    refine va_get (D := g) (ci := 5) (v := .int (v_cb v)) (C := RX6) (T := TX6) (N := 11) hx hb hts hi_wsX60 hown hK hP 1 rfl rfl 9 (by decide) (hts (.fieldLink RX9 288 "FloodBarrier$State" "closingsBegun" "I") (List.mem_of_getElem? (i := 6) rfl)) (fun _ h9 => h9) rfl dX9_count_137 ?_
    exact z_iretR hx hb hr hlocks rfl (by first | rfl | (simp only [if_neg e_1, if_neg e_2, if_neg e_3, if_neg e_4, if_neg e_5, if_neg e_6, if_neg e_7])) dX9_count_140
  by_cases e_9 : x = 8
  · subst e_9
    refine lv_tableIn (off := 140) (tgt := 141) hx hb dX9_count_1 (by decide) (by decide) rfl (by decide) ?_
    refine lv_aload_n hx hb dX9_count_141 rfl (lv_at hl 0 rfl) ?_
    refine va_get (D := g) (ci := 8) (v := .ref (ad 0)) (C := RX9) (T := TX9) (N := 5) hx hb hts hi_wsX90 hown hK hP 0 rfl rfl 0 (by decide) (hts (.fieldLink RX9 10 "FloodBarrier" "now" "LFloodBarrier$State;") (List.mem_of_getElem? (i := 1) rfl)) (fun _ h9 => h9) rfl dX9_count_142 ?_
    refine va_get (D := g) (ci := 5) (v := .int (v_dl v)) (C := RX6) (T := TX6) (N := 11) hx hb hts hi_wsX60 hown hK hP 1 rfl rfl 10 (by decide) (hts (.fieldLink RX9 291 "FloodBarrier$State" "drills" "I") (List.mem_of_getElem? (i := 7) rfl)) (fun _ h9 => h9) rfl dX9_count_145 ?_
    exact z_iretR hx hb hr hlocks rfl (by first | rfl | (simp only [if_neg e_1, if_neg e_2, if_neg e_3, if_neg e_4, if_neg e_5, if_neg e_6, if_neg e_7, if_neg e_8])) dX9_count_148
  by_cases e_10 : x = 9
  · subst e_10
    refine lv_tableIn (off := 148) (tgt := 149) hx hb dX9_count_1 (by decide) (by decide) rfl (by decide) ?_
    refine lv_aload_n hx hb dX9_count_149 rfl (lv_at hl 0 rfl) ?_
    refine va_get (D := g) (ci := 8) (v := .ref (ad 0)) (C := RX9) (T := TX9) (N := 5) hx hb hts hi_wsX90 hown hK hP 0 rfl rfl 0 (by decide) (hts (.fieldLink RX9 10 "FloodBarrier" "now" "LFloodBarrier$State;") (List.mem_of_getElem? (i := 1) rfl)) (fun _ h9 => h9) rfl dX9_count_150 ?_
    refine va_get (D := g) (ci := 5) (v := .ref (ad 19)) (C := RX6) (T := TX6) (N := 11) hx hb hts hi_wsX60 hown hK hP 1 rfl rfl 4 (by decide) (hts (.fieldLink RX9 118 "FloodBarrier$State" "basin" "LFloodBarrier$Basin;") (List.mem_of_getElem? (i := 8) rfl)) (fun _ h9 => h9) rfl dX9_count_153 ?_
    refine va_get (D := g) (ci := 0) (v := .int (v_ar v)) (C := RX0) (T := TX0) (N := 7) hx hb hts hi_wsX00 hown hK hP 20 rfl rfl 0 (by decide) (hts (.fieldLink RX9 122 "FloodBarrier$Basin" "area" "I") (List.mem_of_getElem? (i := 9) rfl)) (fun _ h9 => h9) rfl dX9_count_156 ?_
    exact z_iretR hx hb hr hlocks rfl (by first | rfl | (simp only [if_neg e_1, if_neg e_2, if_neg e_3, if_neg e_4, if_neg e_5, if_neg e_6, if_neg e_7, if_neg e_8, if_neg e_9])) dX9_count_159
  by_cases e_11 : x = 10
  · subst e_11
    refine lv_tableIn (off := 159) (tgt := 160) hx hb dX9_count_1 (by decide) (by decide) rfl (by decide) ?_
    refine lv_aload_n hx hb dX9_count_160 rfl (lv_at hl 0 rfl) ?_
    refine va_get (D := g) (ci := 8) (v := .ref (ad 0)) (C := RX9) (T := TX9) (N := 5) hx hb hts hi_wsX90 hown hK hP 0 rfl rfl 0 (by decide) (hts (.fieldLink RX9 10 "FloodBarrier" "now" "LFloodBarrier$State;") (List.mem_of_getElem? (i := 1) rfl)) (fun _ h9 => h9) rfl dX9_count_161 ?_
    refine va_get (D := g) (ci := 5) (v := .ref (ad 14)) (C := RX6) (T := TX6) (N := 11) hx hb hts hi_wsX60 hown hK hP 1 rfl rfl 3 (by decide) (hts (.fieldLink RX9 84 "FloodBarrier$State" "pumps" "LFloodBarrier$Pumps;") (List.mem_of_getElem? (i := 10) rfl)) (fun _ h9 => h9) rfl dX9_count_164 ?_
    refine va_get (D := g) (ci := 3) (v := .int (v_lim v)) (C := RX4) (T := TX4) (N := 7) hx hb hts hi_wsX40 hown hK hP 15 rfl rfl 1 (by decide) (hts (.fieldLink RX9 128 "FloodBarrier$Pumps" "limit" "I") (List.mem_of_getElem? (i := 11) rfl)) (fun _ h9 => h9) rfl dX9_count_167 ?_
    exact z_iretR hx hb hr hlocks rfl (by first | rfl | (simp only [if_neg e_1, if_neg e_2, if_neg e_3, if_neg e_4, if_neg e_5, if_neg e_6, if_neg e_7, if_neg e_8, if_neg e_9, if_neg e_10])) dX9_count_170
  refine lv_tableOut (tgt := 171) hx hb dX9_count_1 (by have q0 : x.toInt ≠ 0 := fun q => e_1 (Int32.toInt_inj.mp (q.trans (by decide))); have q1 : x.toInt ≠ 1 := fun q => e_2 (Int32.toInt_inj.mp (q.trans (by decide))); have q2 : x.toInt ≠ 2 := fun q => e_3 (Int32.toInt_inj.mp (q.trans (by decide))); have q3 : x.toInt ≠ 3 := fun q => e_4 (Int32.toInt_inj.mp (q.trans (by decide))); have q4 : x.toInt ≠ 4 := fun q => e_5 (Int32.toInt_inj.mp (q.trans (by decide))); have q5 : x.toInt ≠ 5 := fun q => e_6 (Int32.toInt_inj.mp (q.trans (by decide))); have q6 : x.toInt ≠ 6 := fun q => e_7 (Int32.toInt_inj.mp (q.trans (by decide))); have q7 : x.toInt ≠ 7 := fun q => e_8 (Int32.toInt_inj.mp (q.trans (by decide))); have q8 : x.toInt ≠ 8 := fun q => e_9 (Int32.toInt_inj.mp (q.trans (by decide))); have q9 : x.toInt ≠ 9 := fun q => e_10 (Int32.toInt_inj.mp (q.trans (by decide))); have q10 : x.toInt ≠ 10 := fun q => e_11 (Int32.toInt_inj.mp (q.trans (by decide))); omega) (by decide) ?_
  refine lv_aload_n hx hb dX9_count_171 rfl (lv_at hl 0 rfl) ?_
  refine lv_iload_n hx hb dX9_count_172 rfl (lv_at hl 1 rfl) ?_
  refine z_cVi (wc := [zO f0 8 [.ref (ad 0), .ref ta, .ref h0, .ref x0, sn], zO (ad 0) 5 [.ref (ad 1), .ref (ad 9), .ref (ad 12), .ref (ad 14), .ref (ad 19), .ref (ad 20), .long (v_al v), .int (nI (v_h v)), .int (v_od v), .int (v_cb v), .int (v_dl v)], zO (ad 1) 4 [.int (nI (v_nS v)), .ref (ad 2), .ref (ad 3), .ref (ad 4), .ref (ad 5), .ref (ad 6), .ref (ad 7), .ref (ad 8)], zI ct (ad 2) 8 (v_wi v), zE ct (ad 3) 8 (v_cr v), zI ct (ad 4) 8 (v_ho v), zI ct (ad 5) 8 (v_li v), zI ct (ad 6) 8 (v_co v), zI ct (ad 7) 8 (v_le v), zI ct (ad 8) 8 (v_cs v), zO (ad 9) 1 [.int (nI (v_nD v)), .ref (ad 10), .ref (ad 11)], zI ct (ad 10) 6 (v_we v), zZ ct (ad 11) 6 (v_cl v), zO (ad 12) 6 [.int (nI (v_nT v)), .ref (ad 13)], zI ct (ad 13) 4 (v_sw v), zO (ad 14) 3 [.int (nI (v_nP v)), .int (v_lim v), .int (v_idl v), .ref (ad 15), .ref (ad 16), .ref (ad 17), .ref (ad 18)], zI ct (ad 15) 6 (v_po v), zI ct (ad 16) 6 (v_pw v), zZ ct (ad 17) 6 (v_on v), zI ct (ad 18) 6 (v_ra v), zO (ad 19) 0 [.int (v_ar v), .long (v_vo v), .long (v_fi v), .long (v_fo v), .long (v_fv v), .long (v_br v), .long (v_pu v)], zL ct (ad 20) 24 (v_td v), zO h0 2 [.ref h1, .int (nI old), .int (nI many)], zQ ct h1 5 (rgA r), zO x0 7 [.int (nI len), .ref x1, .ref x2, .int (nI lv)], zC ct x1 60 ch, zI ct x2 15 te]) (As := [.int x]) (rest := []) ⟨hx, hb, hml, hown, hts⟩ hK hP [0, 1, 2, 3, 4, 5, 6, 7, 8, 9, 10, 11, 12, 13, 14, 15, 16, 17, 18, 19, 20, 21, 22, 23, 24, 25, 26] rfl (c_X9_size l g ct f0 ta h0 x0 sn ad v h1 old many r x1 x2 len ch te lv x) (cwV 1 hts gX9_count_X9_size rfl rfl rfl (by decide +kernel) ⟨Nat.le_of_ble_eq_true rfl, Nat.le_of_ble_eq_true rfl⟩) 0 rfl rfl rfl hl.1 rfl (Nat.le_of_ble_eq_true rfl) dX9_count_173 ⟨Nat.zero_le _, Nat.zero_le _⟩ ?_
  exact z_iretR hx hb hr hlocks rfl (by first | rfl | (simp only [if_neg e_1, if_neg e_2, if_neg e_3, if_neg e_4, if_neg e_5, if_neg e_6, if_neg e_7, if_neg e_8, if_neg e_9, if_neg e_10, if_neg e_11])) dX9_count_176
