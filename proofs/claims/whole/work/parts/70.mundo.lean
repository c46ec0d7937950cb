set_option maxHeartbeats 4000000 in
set_option maxRecDepth 100000 in
theorem c_isNaN (l : Launch) (x : UInt64) (hnn : Op.cmpValue (FP.dcmp x x) CmpOp.l = 0) : Met l yJxe99ae_isNaN_b9ae7 wsJxe99ae_isNaN_b9ae7 (zRm 0 0) (va_Pc [.double x] (fun _ => True)) (vp_Si (fun r => r = 0)) 0 0 (fun _ => False) := by
  refine z_statF (cc := cJxe99ae_isNaN_b9ae7) (maxL := 2) (ret := some .boolean) (by decide +kernel) rfl (Nat.le_of_ble_eq_true rfl) ?_
  intro p e s m below meth c ls hx hb hr hml hts hown hlocks hl
  have hown : s.vm.findClass RJxe99ae = some m.cls := hown
  have hl : lv_has ls 2 [(0, .double x)] := hl
  refine lv_dload_n hx hb dJxe99ae_isNaN_b9ae7_0 rfl (lv_at hl 0 rfl) ?_
  refine lv_dload_n hx hb dJxe99ae_isNaN_b9ae7_1 rfl (lv_at hl 0 rfl) ?_
  refine lv_dcmp hx hb dJxe99ae_isNaN_b9ae7_2 ?_
  refine lv_if_eq (tgt := 10) hx hb dJxe99ae_isNaN_b9ae7_3 (by decide) (fun c_1 => ?_) (fun c_1 => ?_)
  · refine lv_iconst (v := 0) hx hb dJxe99ae_isNaN_b9ae7_10 (by decide) ?_
    exact z_zretR hx hb hr hlocks rfl rfl rfl dJxe99ae_isNaN_b9ae7_11
  · exact absurd hnn c_1

set_option maxHeartbeats 4000000 in
set_option maxRecDepth 100000 in
theorem c_d2lb (l : Launch) (x : UInt64) (hnn : Op.cmpValue (FP.dcmp x x) CmpOp.l = 0) : Met l yJxe99ae_doubleToLongBits_ccdee wsJxe99ae_doubleToLongBits_ccdee (zRm 1 25) (va_Pc [.double x] (fun _ => True)) (vp_Sl (fun r => r = x.toInt64)) 0 0 (fun _ => False) := by
  refine z_statF (cc := cJxe99ae_doubleToLongBits_ccdee) (maxL := 2) (ret := some .long) (by decide +kernel) rfl (Nat.le_of_ble_eq_true rfl) ?_
  intro p e s m below meth c ls hx hb hr hml hts hown hlocks hl
  have hown : s.vm.findClass RJxe99ae = some m.cls := hown
  have hl : lv_has ls 2 [(0, .double x)] := hl
  refine lv_dload_n hx hb dJxe99ae_doubleToLongBits_ccdee_0 rfl (lv_at hl 0 rfl) ?_
  refine z_cSi (As := [.double x]) (rest := []) ⟨hx, hb, hml, hown, hts⟩ (c_isNaN l x hnn) (va_cwS 1 hts gJxe99ae_doubleToLongBits_ccdee_Jxe99ae_isNaN_b9ae7 rfl rfl rfl (by decide +kernel) ⟨Nat.le_of_ble_eq_true rfl, Nat.le_of_ble_eq_true rfl⟩) rfl hl.1 rfl (Nat.le_of_ble_eq_true rfl) dJxe99ae_doubleToLongBits_ccdee_1 ⟨Nat.zero_le _, Nat.zero_le _⟩ ?_
  refine lv_if_ne (tgt := 12) hx hb dJxe99ae_doubleToLongBits_ccdee_4 (by decide) (fun h => absurd h (by decide)) (fun _ => ?_)
  refine lv_dload_n hx hb dJxe99ae_doubleToLongBits_ccdee_7 rfl (lv_at hl 0 rfl) ?_
  refine vn_d2l hx hb (hml.trans hl.1.symm) hown (hts (.methodLink RJxe99ae 134 ⟨"java/lang/Double", "doubleToRawLongBits", "(D)J"⟩) (List.mem_of_getElem? (i := 1) rfl)) (hts (.native ⟨"java/lang/Double", "doubleToRawLongBits", "(D)J"⟩) (List.mem_of_getElem? (i := 2) rfl)) (hts (.static ⟨"java/lang/Double", "doubleToRawLongBits", "(D)J"⟩) (List.mem_of_getElem? (i := 3) rfl)) (hts (.initialized "java/lang/Double") (List.mem_of_getElem? (i := 4) rfl)) (Nat.le_of_ble_eq_true rfl) (Nat.le_of_ble_eq_true rfl) dJxe99ae_doubleToLongBits_ccdee_8 ?_
  exact z_lretR hx hb hr hlocks rfl rfl dJxe99ae_doubleToLongBits_ccdee_11

set_option maxHeartbeats 4000000 in
set_option maxRecDepth 100000 in
theorem c_X10_nothing (l : Launch) (z : Nat) : Met l yX10_nothing wsX10_nothing (zRm 0 0) (va_Pc [] (fun _ => True)) (vp_Sd (fun r => r = 9221120237041090560)) 0 0 (fun _ => False) := by
  refine z_stat (cc := cX10_nothing) (maxL := 0) (ret := some .double) (by decide) rfl (Nat.le_of_ble_eq_true rfl) ?_
  intro p e s m below meth c ls hx hb hr hml hts hown hlocks hl
  have hown : s.vm.findClass RX10 = some m.cls := hown
  have hl : lv_has ls 0 [] := hl
  refine lv_ldc2d (v := 9221120237041090560) hx hb hown (hts (.constantDouble RX10 205 (9221120237041090560)) (List.mem_of_getElem? (i := 1) rfl)) dX10_nothing_0 ?_
  exact z_dretR hx hb hr hlocks rfl rfl dX10_nothing_3

set_option maxHeartbeats 4000000 in
set_option maxRecDepth 100000 in
theorem c_X10_forecast_u (l : Launch) (g : va_G) (ct : Nat → ClassId) (m0 m1 m2 m3 m4 m5 m6 m7 m8 m9 : Nat) (n hy sl sp : Nat → Int64) (re rh rs : Nat → UInt64) (kp : Nat) (fl : Int32) (tn : Nat) (tx : Nat → Int32) (pa rn : Nat) (rd : Nat → Int32) (x : Int32) (hact : ¬ inP x.toInt64 0 48) : Met l yX10_forecast wsX10_forecast (zRm 1 25) (va_Pc [.ref m0, .int x] (zR g ct [zO m0 9 [.ref m1, .ref m2, .ref m3, .ref m4, .ref m5, .ref m6, .ref m7, .int (nI kp), .int fl, .int (nI tn), .ref m8, .int (nI pa), .int (nI rn), .ref m9], zL ct m1 108 n, zL ct m2 540 hy, zL ct m3 108 sl, zL ct m4 108 sp, zD ct m5 33 re, zD ct m6 165 rh, zD ct m7 33 rs, zC ct m8 60 tx, zI ct m9 17 rd])) (vp_Sd (fun r => r = 9221120237041090560)) 0 0 (fun _ => False) := by
  refine z_read (cc := cX10_forecast) (maxL := 5) (ret := some .double) (by decide) rfl (Nat.le_of_ble_eq_true rfl) ?_
  intro p e s m below meth c ls hx hb hr hml hts hown hlocks hP hK hl
  have hown : s.vm.findClass RX10 = some m.cls := hown
  have hl : lv_has ls 5 [(0, .ref m0), (1, .int x)] := hl
  refine lv_iload_n hx hb dX10_forecast_0 rfl (lv_at hl 1 rfl) ?_
  refine lv_i2l (v := x.toInt64) hx hb dX10_forecast_1 rfl ?_
  refine lv_lconst (v := 0) hx hb dX10_forecast_2 (by decide) ?_
  refine lv_ldc2 (v := 48) hx hb hown (hts (.constantLong RX10 175 (48)) (List.mem_of_getElem? (i := 1) rfl)) dX10_forecast_3 ?_
  refine z_cSi (As := [.long x.toInt64, .long 0, .long 48]) (rest := []) ⟨hx, hb, hml, hown, hts⟩ (c_X10_in l x.toInt64 0 48) (va_cwS 3 hts gX10_forecast_X10_in rfl rfl rfl (by decide +kernel) ⟨Nat.le_of_ble_eq_true rfl, Nat.le_of_ble_eq_true rfl⟩) rfl hl.1 rfl (Nat.le_of_ble_eq_true rfl) dX10_forecast_6 ⟨Nat.zero_le _, Nat.zero_le _⟩ ?_
  refine z_bif_ne (P := (inP x.toInt64 0 48)) (tgt := 16) hx hb dX10_forecast_9 (by decide) (fun c_1 => ?_) (fun c_1 => ?_)
  · exact absurd c_1 hact
  · refine z_cSd (As := []) (rest := []) ⟨hx, hb, hml, hown, hts⟩ (c_X10_nothing l 0) (va_cwS 0 hts gX10_forecast_X10_nothing rfl rfl rfl (by decide +kernel) ⟨Nat.le_of_ble_eq_true rfl, Nat.le_of_ble_eq_true rfl⟩) rfl hl.1 rfl (Nat.le_of_ble_eq_true rfl) dX10_forecast_12 ⟨Nat.zero_le _, Nat.zero_le _⟩ ?_
    exact z_dretR hx hb hr hlocks rfl rfl dX10_forecast_15

set_option maxHeartbeats 4000000 in
set_option maxRecDepth 100000 in
theorem c_X10_undo_a (l : Launch) (g : va_G) (ct : Nat → ClassId) (m0 m1 m2 m3 m4 m5 m6 m7 m8 m9 : Nat) (n hy sl sp : Nat → Int64) (re rh rs : Nat → UInt64) (kp : Nat) (fl : Int32) (tn : Nat) (tx : Nat → Int32) (pa rn : Nat) (rd : Nat → Int32) (hk0 : kp = 0) : Met l yX10_undo wsX10_undo (zRm 0 0) (va_Pc [.ref m0] (zR g ct [zO m0 9 [.ref m1, .ref m2, .ref m3, .ref m4, .ref m5, .ref m6, .ref m7, .int (nI kp), .int fl, .int (nI tn), .ref m8, .int (nI pa), .int (nI rn), .ref m9], zL ct m1 108 n, zL ct m2 540 hy, zL ct m3 108 sl, zL ct m4 108 sp, zD ct m5 33 re, zD ct m6 165 rh, zD ct m7 33 rs, zC ct m8 60 tx, zI ct m9 17 rd])) (vp_Si (fun r => r = -5)) 0 0 (fun _ => False) := by
  refine z_read (cc := cX10_undo) (maxL := 2) (ret := some .int) (by decide) rfl (Nat.le_of_ble_eq_true rfl) ?_
  intro p e s m below meth c ls hx hb hr hml hts hown hlocks hP hK hl
  have hown : s.vm.findClass RX10 = some m.cls := hown
  have hl : lv_has ls 2 [(0, .ref m0)] := hl
  have hi_wsX100 : ∀ w ∈ wsX100, w ∈ wsX10_undo := fun w h => List.mem_cons_of_mem _ (List.mem_append_right _ h)
  refine lv_aload_n hx hb dX10_undo_0 rfl (lv_at hl 0 rfl) ?_
  refine va_get (D := g) (ci := 9) (v := .int (nI kp)) (C := RX10) (T := TX10) (N := 14) hx hb hts hi_wsX100 hown hK hP 0 rfl rfl 7 (by decide) (hts (.fieldLink RX10 46 "FloodBarrierModel" "kept" "I") (List.mem_of_getElem? (i := 1) rfl)) (fun _ h9 => h9) rfl dX10_undo_1 ?_
  refine z_ifN_ne (x := kp) (tgt := 10) hx hb (by omega) dX10_undo_4 (by decide) (fun c_1 => ?_) (fun c_1 => ?_)
  · exact absurd hk0 c_1
  · refine lv_bipush (v := (-5)) hx hb dX10_undo_7 (by decide) ?_
    exact z_iretR hx hb hr hlocks rfl rfl dX10_undo_9

set_option maxHeartbeats 4000000 in
set_option maxRecDepth 100000 in
theorem c_X10_undo_b (l : Launch) (g : va_G) (ct : Nat → ClassId) (sz : Nat) (m0 m1 m2 m3 m4 m5 m6 m7 m8 m9 : Nat) (n hy sl sp : Nat → Int64) (re rh rs : Nat → UInt64) (kq : Nat) (fl : Int32) (tn : Nat) (tx : Nat → Int32) (pa rn : Nat) (rd : Nat → Int32) (hkq : kq < 5) : Met l yX10_undo wsX10_undo (zRm 0 0) (va_Pc [.ref m0] (zW g ct [zO m0 9 [.ref m1, .ref m2, .ref m3, .ref m4, .ref m5, .ref m6, .ref m7, .int (nI (kq + 1)), .int fl, .int (nI tn), .ref m8, .int (nI pa), .int (nI rn), .ref m9], zL ct m1 108 n, zL ct m2 540 hy, zL ct m3 108 sl, zL ct m4 108 sp, zD ct m5 33 re, zD ct m6 165 rh, zD ct m7 33 rs, zC ct m8 60 tx, zI ct m9 17 rd] sz)) (zQi g [zO m0 9 [.ref m1, .ref m2, .ref m3, .ref m4, .ref m5, .ref m6, .ref m7, .int (nI kq), .int fl, .int (nI tn), .ref m8, .int (nI pa), .int (nI rn), .ref m9], zL ct m1 108 (cp0 n (fun j => hy (108 * kq + j)) 108), zL ct m2 540 hy, zL ct m3 108 sl, zL ct m4 108 sp, zD ct m5 33 (cp0 re (fun j => rh (33 * kq + j)) 33), zD ct m6 165 rh, zD ct m7 33 rs, zC ct m8 60 tx, zI ct m9 17 rd] (nI kq) (va_A [zO m0 9 [.ref m1, .ref m2, .ref m3, .ref m4, .ref m5, .ref m6, .ref m7, .int (nI (kq + 1)), .int fl, .int (nI tn), .ref m8, .int (nI pa), .int (nI rn), .ref m9], zL ct m1 108 n, zL ct m2 540 hy, zL ct m3 108 sl, zL ct m4 108 sp, zD ct m5 33 re, zD ct m6 165 rh, zD ct m7 33 rs, zC ct m8 60 tx, zI ct m9 17 rd] sz)) 0 0 (va_A [zO m0 9 [.ref m1, .ref m2, .ref m3, .ref m4, .ref m5, .ref m6, .ref m7, .int (nI (kq + 1)), .int fl, .int (nI tn), .ref m8, .int (nI pa), .int (nI rn), .ref m9], zL ct m1 108 n, zL ct m2 540 hy, zL ct m3 108 sl, zL ct m4 108 sp, zD ct m5 33 re, zD ct m6 165 rh, zD ct m7 33 rs, zC ct m8 60 tx, zI ct m9 17 rd] sz) := by
  refine z_write (QA := zQi g [zO m0 9 [.ref m1, .ref m2, .ref m3, .ref m4, .ref m5, .ref m6, .ref m7, .int (nI kq), .int fl, .int (nI tn), .ref m8, .int (nI pa), .int (nI rn), .ref m9], zL ct m1 108 (cp0 n (fun j => hy (108 * kq + j)) 108), zL ct m2 540 hy, zL ct m3 108 sl, zL ct m4 108 sp, zD ct m5 33 (cp0 re (fun j => rh (33 * kq + j)) 33), zD ct m6 165 rh, zD ct m7 33 rs, zC ct m8 60 tx, zI ct m9 17 rd] (nI kq)) (cc := cX10_undo) (maxL := 2) (ret := some .int) (by decide) rfl (Nat.le_of_ble_eq_true rfl) ?_
  intro p e s m below meth c ls A hx hb hr hml hts hown hlocks hin hP hK hD hNW hA hS hl
  have hown : s.vm.findClass RX10 = some m.cls := hown
  have hl : lv_has ls 2 [(0, .ref m0)] := hl
  have hi_wsX100 : ∀ w ∈ wsX100, w ∈ wsX10_undo := fun w h => List.mem_cons_of_mem _ (List.mem_append_right _ h)
  refine lv_aload_n hx hb dX10_undo_0 rfl (lv_at hl 0 rfl) ?_
  refine va_get (D := g) (ci := 9) (v := .int (nI (kq + 1))) (C := RX10) (T := TX10) (N := 14) hx hb hts hi_wsX100 hown hK hP 0 rfl rfl 7 (by decide) (hts (.fieldLink RX10 46 "FloodBarrierModel" "kept" "I") (List.mem_of_getElem? (i := 1) rfl)) (fun _ h9 => h9) rfl dX10_undo_1 ?_
  refine z_ifN_ne (x := (kq + 1)) (tgt := 10) hx hb (by omega) dX10_undo_4 (by decide) (fun c_1 => ?_) (fun c_1 => ?_)
  · refine lv_aload_n hx hb dX10_undo_10 rfl (lv_at hl 0 rfl) ?_
    refine lv_dup hx hb dX10_undo_11 rfl ?_
    refine va_get (D := g) (ci := 9) (v := .int (nI (kq + 1))) (C := RX10) (T := TX10) (N := 14) hx hb hts hi_wsX100 hown hK hP 0 rfl rfl 7 (by decide) (hts (.fieldLink RX10 46 "FloodBarrierModel" "kept" "I") (List.mem_of_getElem? (i := 1) rfl)) (fun _ h9 => h9) rfl dX10_undo_12 ?_
    refine lv_iconst (v := 1) hx hb dX10_undo_15 (by decide) ?_
    refine z_isubN (x := (kq + 1)) (y := 1) hx hb (by omega) dX10_undo_16 ?_
    rw [Nat.add_sub_cancel]
    refine va_put (D := g) (ci := 9) (v := .int (nI kq)) (C := RX10) (T := TX10) (N := 14) hx hb hts hi_wsX100 tyX10 tyX10_ok nmX10 hown hK hP hD hS 0 rfl rfl 7 (by decide) (hts (.fieldLink RX10 46 "FloodBarrierModel" "kept" "I") (List.mem_of_getElem? (i := 1) rfl)) (fun _ h9 => h9) rfl (tyX10_ok 7 (by decide)) rfl rfl (Nat.le_of_ble_eq_true rfl) dX10_undo_17 (fun H locs hP hD hS => ?_)
    have hP : va_P g vwCl [zO m0 9 [.ref m1, .ref m2, .ref m3, .ref m4, .ref m5, .ref m6, .ref m7, .int (nI kq), .int fl, .int (nI tn), .ref m8, .int (nI pa), .int (nI rn), .ref m9], zL ct m1 108 n, zL ct m2 540 hy, zL ct m3 108 sl, zL ct m4 108 sp, zD ct m5 33 re, zD ct m6 165 rh, zD ct m7 33 rs, zC ct m8 60 tx, zI ct m9 17 rd] H := hP
    have hD : va_D A [zO m0 9 [.ref m1, .ref m2, .ref m3, .ref m4, .ref m5, .ref m6, .ref m7, .int (nI kq), .int fl, .int (nI tn), .ref m8, .int (nI pa), .int (nI rn), .ref m9], zL ct m1 108 n, zL ct m2 540 hy, zL ct m3 108 sl, zL ct m4 108 sp, zD ct m5 33 re, zD ct m6 165 rh, zD ct m7 33 rs, zC ct m8 60 tx, zI ct m9 17 rd] := hD
    refine lv_iconst (v := 0) hx hb dX10_undo_20 (by decide) ?_
    refine lv_istore_n (lv' := [(1, .int 0), (0, .ref m0)]) hx hb dX10_undo_21 rfl hl (by decide) rfl (fun ls hl => ?_)
    refine z_loop 108 (fun k1 H locs ls => va_P g vwCl [zO m0 9 [.ref m1, .ref m2, .ref m3, .ref m4, .ref m5, .ref m6, .ref m7, .int (nI kq), .int fl, .int (nI tn), .ref m8, .int (nI pa), .int (nI rn), .ref m9], zL ct m1 108 (cp0 n (fun j => hy (108 * kq + j)) k1), zL ct m2 540 hy, zL ct m3 108 sl, zL ct m4 108 sp, zD ct m5 33 re, zD ct m6 165 rh, zD ct m7 33 rs, zC ct m8 60 tx, zI ct m9 17 rd] H ∧ va_D A [zO m0 9 [.ref m1, .ref m2, .ref m3, .ref m4, .ref m5, .ref m6, .ref m7, .int (nI kq), .int fl, .int (nI tn), .ref m8, .int (nI pa), .int (nI rn), .ref m9], zL ct m1 108 (cp0 n (fun j => hy (108 * kq + j)) k1), zL ct m2 540 hy, zL ct m3 108 sl, zL ct m4 108 sp, zD ct m5 33 re, zD ct m6 165 rh, zD ct m7 33 rs, zC ct m8 60 tx, zI ct m9 17 rd] ∧ va_S A s.heap H locs ∧ lv_has ls 2 [(0, .ref m0), (1, .int (nI k1))]) ⟨(by rw [cp0_0 n (fun j => hy (108 * kq + j))]; exact hP), (by rw [cp0_0 n (fun j => hy (108 * kq + j))]; exact hD), hS, lv_sub hl [1, 0] rfl⟩ ?_
    intro k1 H locs ls hkk1 hI ihk1
    obtain ⟨hP, hD, hS, hl⟩ := hI
    refine lv_iload_n hx hb dX10_undo_22 rfl (lv_at hl 1 rfl) ?_
    refine lv_bipush (v := 108) hx hb dX10_undo_23 (by decide) ?_
    refine z_icN_ge (x := k1) (y := 108) (tgt := 54) hx hb (by omega) (by omega) dX10_undo_25 (by decide) (fun c_2 => ?_) (fun c_2 => ?_)
    · have hkn : 108 = k1 := by omega
      subst hkn
      refine lv_iconst (v := 0) hx hb dX10_undo_54 (by decide) ?_
      refine lv_istore_n (lv' := [(1, .int 0), (0, .ref m0)]) hx hb dX10_undo_55 rfl hl (by decide) rfl (fun ls hl => ?_)
      refine z_loop 33 (fun k2 H locs ls => va_P g vwCl [zO m0 9 [.ref m1, .ref m2, .ref m3, .ref m4, .ref m5, .ref m6, .ref m7, .int (nI kq), .int fl, .int (nI tn), .ref m8, .int (nI pa), .int (nI rn), .ref m9], zL ct m1 108 (cp0 n (fun j => hy (108 * kq + j)) 108), zL ct m2 540 hy, zL ct m3 108 sl, zL ct m4 108 sp, zD ct m5 33 (cp0 re (fun j => rh (33 * kq + j)) k2), zD ct m6 165 rh, zD ct m7 33 rs, zC ct m8 60 tx, zI ct m9 17 rd] H ∧ va_D A [zO m0 9 [.ref m1, .ref m2, .ref m3, .ref m4, .ref m5, .ref m6, .ref m7, .int (nI kq), .int fl, .int (nI tn), .ref m8, .int (nI pa), .int (nI rn), .ref m9], zL ct m1 108 (cp0 n (fun j => hy (108 * kq + j)) 108), zL ct m2 540 hy, zL ct m3 108 sl, zL ct m4 108 sp, zD ct m5 33 (cp0 re (fun j => rh (33 * kq + j)) k2), zD ct m6 165 rh, zD ct m7 33 rs, zC ct m8 60 tx, zI ct m9 17 rd] ∧ va_S A s.heap H locs ∧ lv_has ls 2 [(0, .ref m0), (1, .int (nI k2))]) ⟨(by rw [cp0_0 re (fun j => rh (33 * kq + j))]; exact hP), (by rw [cp0_0 re (fun j => rh (33 * kq + j))]; exact hD), hS, lv_sub hl [1, 0] rfl⟩ ?_
      intro k2 H locs ls hkk2 hI ihk2
      obtain ⟨hP, hD, hS, hl⟩ := hI
      refine lv_iload_n hx hb dX10_undo_56 rfl (lv_at hl 1 rfl) ?_
      refine lv_bipush (v := 33) hx hb dX10_undo_57 (by decide) ?_
      refine z_icN_ge (x := k2) (y := 33) (tgt := 88) hx hb (by omega) (by omega) dX10_undo_59 (by decide) (fun c_3 => ?_) (fun c_3 => ?_)
      · have hkn : 33 = k2 := by omega
        subst hkn
        refine lv_aload_n hx hb dX10_undo_88 rfl (lv_at hl 0 rfl) ?_
        refine va_get (D := g) (ci := 9) (v := .int (nI kq)) (C := RX10) (T := TX10) (N := 14) hx hb hts hi_wsX100 hown hK hP 0 rfl rfl 7 (by decide) (hts (.fieldLink RX10 46 "FloodBarrierModel" "kept" "I") (List.mem_of_getElem? (i := 1) rfl)) (fun _ h9 => h9) rfl dX10_undo_89 ?_
        exact z_iretW hx hb hr hlocks hS hP hD rfl rfl (Nat.le_refl _) (Nat.le_refl _) dX10_undo_92
      · refine lv_aload_n hx hb dX10_undo_62 rfl (lv_at hl 0 rfl) ?_
        refine va_get (D := g) (ci := 9) (v := .ref m5) (C := RX10) (T := TX10) (N := 14) hx hb hts hi_wsX100 hown hK hP 0 rfl rfl 4 (by decide) (hts (.fieldLink RX10 22 "FloodBarrierModel" "real" "[D") (List.mem_of_getElem? (i := 4) rfl)) (fun _ h9 => h9) rfl dX10_undo_63 ?_
        refine lv_iload_n hx hb dX10_undo_66 rfl (lv_at hl 1 rfl) ?_
        refine lv_aload_n hx hb dX10_undo_67 rfl (lv_at hl 0 rfl) ?_
        refine va_get (D := g) (ci := 9) (v := .ref m6) (C := RX10) (T := TX10) (N := 14) hx hb hts hi_wsX100 hown hK hP 0 rfl rfl 5 (by decide) (hts (.fieldLink RX10 26 "FloodBarrierModel" "realHistory" "[D") (List.mem_of_getElem? (i := 5) rfl)) (fun _ h9 => h9) rfl dX10_undo_68 ?_
        refine lv_bipush (v := 33) hx hb dX10_undo_71 (by decide) ?_
        refine lv_aload_n hx hb dX10_undo_73 rfl (lv_at hl 0 rfl) ?_
        refine va_get (D := g) (ci := 9) (v := .int (nI kq)) (C := RX10) (T := TX10) (N := 14) hx hb hts hi_wsX100 hown hK hP 0 rfl rfl 7 (by decide) (hts (.fieldLink RX10 46 "FloodBarrierModel" "kept" "I") (List.mem_of_getElem? (i := 1) rfl)) (fun _ h9 => h9) rfl dX10_undo_74 ?_
        refine z_imulN (x := 33) (y := kq) hx hb dX10_undo_77 ?_
        refine lv_iload_n hx hb dX10_undo_78 rfl (lv_at hl 1 rfl) ?_
        refine z_iaddN (x := (33 * kq)) (y := k2) hx hb dX10_undo_79 ?_
        refine z_dald (ct := ct) (f := rh) (k := ((33 * kq) + k2)) hx hb hK hP 6 rfl (by omega) (by decide) dX10_undo_80 ?_
        refine z_dast (ct := ct) (f := (cp0 re (fun j => rh (33 * kq + j)) k2)) (k := k2) (x := (rh ((33 * kq) + k2))) hx hb hK hP hD hS 5 rfl (by omega) (by decide) dX10_undo_81 (fun H locs hP hD hS => ?_)
        have hP : va_P g vwCl [zO m0 9 [.ref m1, .ref m2, .ref m3, .ref m4, .ref m5, .ref m6, .ref m7, .int (nI kq), .int fl, .int (nI tn), .ref m8, .int (nI pa), .int (nI rn), .ref m9], zL ct m1 108 (cp0 n (fun j => hy (108 * kq + j)) 108), zL ct m2 540 hy, zL ct m3 108 sl, zL ct m4 108 sp, zD ct m5 33 (vf_upd (cp0 re (fun j => rh (33 * kq + j)) k2) k2 (rh ((33 * kq) + k2))), zD ct m6 165 rh, zD ct m7 33 rs, zC ct m8 60 tx, zI ct m9 17 rd] H := hP
        have hD : va_D A [zO m0 9 [.ref m1, .ref m2, .ref m3, .ref m4, .ref m5, .ref m6, .ref m7, .int (nI kq), .int fl, .int (nI tn), .ref m8, .int (nI pa), .int (nI rn), .ref m9], zL ct m1 108 (cp0 n (fun j => hy (108 * kq + j)) 108), zL ct m2 540 hy, zL ct m3 108 sl, zL ct m4 108 sp, zD ct m5 33 (vf_upd (cp0 re (fun j => rh (33 * kq + j)) k2) k2 (rh ((33 * kq) + k2))), zD ct m6 165 rh, zD ct m7 33 rs, zC ct m8 60 tx, zI ct m9 17 rd] := hD
        refine lv_iinc (v := nI (k2 + 1)) (lv' := [(1, .int (nI (k2 + 1))), (0, .ref m0)]) hx hb dX10_undo_82 hl (k := 1) rfl (nI_add k2 1) (by decide) rfl (fun ls hl => ?_)
        refine lv_goto (tgt := 56) hx hb dX10_undo_85 (by decide) ?_
        exact ihk2 _ _ _ (by omega) ⟨(by first | exact hP | (simp only [lp_s, ← cp0_sD, if_neg c_1, if_neg c_2, if_pos c_3]; exact hP)), (by first | exact hD | (simp only [lp_s, ← cp0_sD, if_neg c_1, if_neg c_2, if_pos c_3]; exact hD)), hS, (by first | exact lv_sub hl [1, 0] rfl | (simp only [lp_s, ← cp0_sD, if_neg c_1, if_neg c_2, if_pos c_3]; exact lv_sub hl [1, 0] rfl))⟩
    · refine lv_aload_n hx hb dX10_undo_28 rfl (lv_at hl 0 rfl) ?_
      refine va_get (D := g) (ci := 9) (v := .ref m1) (C := RX10) (T := TX10) (N := 14) hx hb hts hi_wsX100 hown hK hP 0 rfl rfl 0 (by decide) (hts (.fieldLink RX10 7 "FloodBarrierModel" "now" "[J") (List.mem_of_getElem? (i := 2) rfl)) (fun _ h9 => h9) rfl dX10_undo_29 ?_
      refine lv_iload_n hx hb dX10_undo_32 rfl (lv_at hl 1 rfl) ?_
      refine lv_aload_n hx hb dX10_undo_33 rfl (lv_at hl 0 rfl) ?_
      refine va_get (D := g) (ci := 9) (v := .ref m2) (C := RX10) (T := TX10) (N := 14) hx hb hts hi_wsX100 hown hK hP 0 rfl rfl 1 (by decide) (hts (.fieldLink RX10 13 "FloodBarrierModel" "history" "[J") (List.mem_of_getElem? (i := 3) rfl)) (fun _ h9 => h9) rfl dX10_undo_34 ?_
      refine lv_bipush (v := 108) hx hb dX10_undo_37 (by decide) ?_
      refine lv_aload_n hx hb dX10_undo_39 rfl (lv_at hl 0 rfl) ?_
      refine va_get (D := g) (ci := 9) (v := .int (nI kq)) (C := RX10) (T := TX10) (N := 14) hx hb hts hi_wsX100 hown hK hP 0 rfl rfl 7 (by decide) (hts (.fieldLink RX10 46 "FloodBarrierModel" "kept" "I") (List.mem_of_getElem? (i := 1) rfl)) (fun _ h9 => h9) rfl dX10_undo_40 ?_
      refine z_imulN (x := 108) (y := kq) hx hb dX10_undo_43 ?_
      refine lv_iload_n hx hb dX10_undo_44 rfl (lv_at hl 1 rfl) ?_
      refine z_iaddN (x := (108 * kq)) (y := k1) hx hb dX10_undo_45 ?_
      refine z_lald (ct := ct) (f := hy) (k := ((108 * kq) + k1)) hx hb hK hP 2 rfl (by omega) (by decide) dX10_undo_46 ?_
      refine z_last (ct := ct) (f := (cp0 n (fun j => hy (108 * kq + j)) k1)) (k := k1) (x := (hy ((108 * kq) + k1))) hx hb hK hP hD hS 1 rfl (by omega) (by decide) dX10_undo_47 (fun H locs hP hD hS => ?_)
      have hP : va_P g vwCl [zO m0 9 [.ref m1, .ref m2, .ref m3, .ref m4, .ref m5, .ref m6, .ref m7, .int (nI kq), .int fl, .int (nI tn), .ref m8, .int (nI pa), .int (nI rn), .ref m9], zL ct m1 108 (vp_updL (cp0 n (fun j => hy (108 * kq + j)) k1) k1 (hy ((108 * kq) + k1))), zL ct m2 540 hy, zL ct m3 108 sl, zL ct m4 108 sp, zD ct m5 33 re, zD ct m6 165 rh, zD ct m7 33 rs, zC ct m8 60 tx, zI ct m9 17 rd] H := hP
      have hD : va_D A [zO m0 9 [.ref m1, .ref m2, .ref m3, .ref m4, .ref m5, .ref m6, .ref m7, .int (nI kq), .int fl, .int (nI tn), .ref m8, .int (nI pa), .int (nI rn), .ref m9], zL ct m1 108 (vp_updL (cp0 n (fun j => hy (108 * kq + j)) k1) k1 (hy ((108 * kq) + k1))), zL ct m2 540 hy, zL ct m3 108 sl, zL ct m4 108 sp, zD ct m5 33 re, zD ct m6 165 rh, zD ct m7 33 rs, zC ct m8 60 tx, zI ct m9 17 rd] := hD
      refine lv_iinc (v := nI (k1 + 1)) (lv' := [(1, .int (nI (k1 + 1))), (0, .ref m0)]) hx hb dX10_undo_48 hl (k := 1) rfl (nI_add k1 1) (by decide) rfl (fun ls hl => ?_)
      refine lv_goto (tgt := 22) hx hb dX10_undo_51 (by decide) ?_
      exact ihk1 _ _ _ (by omega) ⟨(by first | exact hP | (simp only [lp_s, ← cp0_s, if_neg c_1, if_pos c_2]; exact hP)), (by first | exact hD | (simp only [lp_s, ← cp0_s, if_neg c_1, if_pos c_2]; exact hD)), hS, (by first | exact lv_sub hl [1, 0] rfl | (simp only [lp_s, ← cp0_s, if_neg c_1, if_pos c_2]; exact lv_sub hl [1, 0] rfl))⟩
  · exact absurd c_1 (by omega)

set_option maxHeartbeats 4000000 in
set_option maxRecDepth 100000 in
theorem c_X10_keep_b (l : Launch) (g : va_G) (ct : Nat → ClassId) (sz : Nat) (m0 m1 m2 m3 m4 m5 m6 m7 m8 m9 : Nat) (n hy sl sp : Nat → Int64) (re rh rs : Nat → UInt64) (kp : Nat) (fl : Int32) (tn : Nat) (tx : Nat → Int32) (pa rn : Nat) (rd : Nat → Int32) : Met l yX10_keep wsX10_keep (zRm 1 21) (va_Pc [.ref m0] (zW g ct [zO m0 9 [.ref m1, .ref m2, .ref m3, .ref m4, .ref m5, .ref m6, .ref m7, .int (nI kp), .int fl, .int (nI tn), .ref m8, .int (nI pa), .int (nI rn), .ref m9], zL ct m1 108 n, zL ct m2 540 hy, zL ct m3 108 sl, zL ct m4 108 sp, zD ct m5 33 re, zD ct m6 165 rh, zD ct m7 33 rs, zC ct m8 60 tx, zI ct m9 17 rd] sz)) (zQi g [zO m0 9 [.ref m1, .ref m2, .ref m3, .ref m4, .ref m5, .ref m6, .ref m7, .int (nI kp), .int 1, .int (nI tn), .ref m8, .int (nI pa), .int (nI rn), .ref m9], zL ct m1 108 n, zL ct m2 540 hy, zL ct m3 108 (cp0 sl n 108), zL ct m4 108 sp, zD ct m5 33 re, zD ct m6 165 rh, zD ct m7 33 (cp0 rs re 33), zC ct m8 60 tx, zI ct m9 17 rd] ((n 0).toInt32) (va_A [zO m0 9 [.ref m1, .ref m2, .ref m3, .ref m4, .ref m5, .ref m6, .ref m7, .int (nI kp), .int fl, .int (nI tn), .ref m8, .int (nI pa), .int (nI rn), .ref m9], zL ct m1 108 n, zL ct m2 540 hy, zL ct m3 108 sl, zL ct m4 108 sp, zD ct m5 33 re, zD ct m6 165 rh, zD ct m7 33 rs, zC ct m8 60 tx, zI ct m9 17 rd] sz)) 0 0 (va_A [zO m0 9 [.ref m1, .ref m2, .ref m3, .ref m4, .ref m5, .ref m6, .ref m7, .int (nI kp), .int fl, .int (nI tn), .ref m8, .int (nI pa), .int (nI rn), .ref m9], zL ct m1 108 n, zL ct m2 540 hy, zL ct m3 108 sl, zL ct m4 108 sp, zD ct m5 33 re, zD ct m6 165 rh, zD ct m7 33 rs, zC ct m8 60 tx, zI ct m9 17 rd] sz) := by
  refine z_write (QA := zQi g [zO m0 9 [.ref m1, .ref m2, .ref m3, .ref m4, .ref m5, .ref m6, .ref m7, .int (nI kp), .int 1, .int (nI tn), .ref m8, .int (nI pa), .int (nI rn), .ref m9], zL ct m1 108 n, zL ct m2 540 hy, zL ct m3 108 (cp0 sl n 108), zL ct m4 108 sp, zD ct m5 33 re, zD ct m6 165 rh, zD ct m7 33 (cp0 rs re 33), zC ct m8 60 tx, zI ct m9 17 rd] ((n 0).toInt32)) (cc := cX10_keep) (maxL := 2) (ret := some .int) (by decide) rfl (Nat.le_of_ble_eq_true rfl) ?_
  intro p e s m below meth c ls A hx hb hr hml hts hown hlocks hin hP hK hD hNW hA hS hl
  have hown : s.vm.findClass RX10 = some m.cls := hown
  have hl : lv_has ls 2 [(0, .ref m0)] := hl
  have hi_wsX100 : ∀ w ∈ wsX100, w ∈ wsX10_keep := fun w h => List.mem_cons_of_mem _ (List.mem_append_right _ h)
  refine lv_iconst (v := 0) hx hb dX10_keep_0 (by decide) ?_
  refine lv_istore_n (lv' := [(1, .int 0), (0, .ref m0)]) hx hb dX10_keep_1 rfl hl (by decide) rfl (fun ls hl => ?_)
  refine z_loop 108 (fun k1 H locs ls => va_P g vwCl [zO m0 9 [.ref m1, .ref m2, .ref m3, .ref m4, .ref m5, .ref m6, .ref m7, .int (nI kp), .int fl, .int (nI tn), .ref m8, .int (nI pa), .int (nI rn), .ref m9], zL ct m1 108 n, zL ct m2 540 hy, zL ct m3 108 (cp0 sl n k1), zL ct m4 108 sp, zD ct m5 33 re, zD ct m6 165 rh, zD ct m7 33 rs, zC ct m8 60 tx, zI ct m9 17 rd] H ∧ va_D A [zO m0 9 [.ref m1, .ref m2, .ref m3, .ref m4, .ref m5, .ref m6, .ref m7, .int (nI kp), .int fl, .int (nI tn), .ref m8, .int (nI pa), .int (nI rn), .ref m9], zL ct m1 108 n, zL ct m2 540 hy, zL ct m3 108 (cp0 sl n k1), zL ct m4 108 sp, zD ct m5 33 re, zD ct m6 165 rh, zD ct m7 33 rs, zC ct m8 60 tx, zI ct m9 17 rd] ∧ va_S A s.heap H locs ∧ lv_has ls 2 [(0, .ref m0), (1, .int (nI k1))]) ⟨(by rw [cp0_0 sl n]; exact hP), (by rw [cp0_0 sl n]; exact hD), hS, lv_sub hl [1, 0] rfl⟩ ?_
  intro k1 H locs ls hkk1 hI ihk1
  obtain ⟨hP, hD, hS, hl⟩ := hI
  refine lv_iload_n hx hb dX10_keep_2 rfl (lv_at hl 1 rfl) ?_
  refine lv_bipush (v := 108) hx hb dX10_keep_3 (by decide) ?_
  refine z_icN_ge (x := k1) (y := 108) (tgt := 26) hx hb (by omega) (by omega) dX10_keep_5 (by decide) (fun c_1 => ?_) (fun c_1 => ?_)
  · have hkn : 108 = k1 := by omega
    subst hkn
    refine lv_iconst (v := 0) hx hb dX10_keep_26 (by decide) ?_
    refine lv_istore_n (lv' := [(1, .int 0), (0, .ref m0)]) hx hb dX10_keep_27 rfl hl (by decide) rfl (fun ls hl => ?_)
    refine z_loop 33 (fun k2 H locs ls => va_P g vwCl [zO m0 9 [.ref m1, .ref m2, .ref m3, .ref m4, .ref m5, .ref m6, .ref m7, .int (nI kp), .int fl, .int (nI tn), .ref m8, .int (nI pa), .int (nI rn), .ref m9], zL ct m1 108 n, zL ct m2 540 hy, zL ct m3 108 (cp0 sl n 108), zL ct m4 108 sp, zD ct m5 33 re, zD ct m6 165 rh, zD ct m7 33 (cp0 rs re k2), zC ct m8 60 tx, zI ct m9 17 rd] H ∧ va_D A [zO m0 9 [.ref m1, .ref m2, .ref m3, .ref m4, .ref m5, .ref m6, .ref m7, .int (nI kp), .int fl, .int (nI tn), .ref m8, .int (nI pa), .int (nI rn), .ref m9], zL ct m1 108 n, zL ct m2 540 hy, zL ct m3 108 (cp0 sl n 108), zL ct m4 108 sp, zD ct m5 33 re, zD ct m6 165 rh, zD ct m7 33 (cp0 rs re k2), zC ct m8 60 tx, zI ct m9 17 rd] ∧ va_S A s.heap H locs ∧ lv_has ls 2 [(0, .ref m0), (1, .int (nI k2))]) ⟨(by rw [cp0_0 rs re]; exact hP), (by rw [cp0_0 rs re]; exact hD), hS, lv_sub hl [1, 0] rfl⟩ ?_
    intro k2 H locs ls hkk2 hI ihk2
    obtain ⟨hP, hD, hS, hl⟩ := hI
    refine lv_iload_n hx hb dX10_keep_28 rfl (lv_at hl 1 rfl) ?_
    refine lv_bipush (v := 33) hx hb dX10_keep_29 (by decide) ?_
    refine z_icN_ge (x := k2) (y := 33) (tgt := 52) hx hb (by omega) (by omega) dX10_keep_31 (by decide) (fun c_2 => ?_) (fun c_2 => ?_)
    · have hkn : 33 = k2 := by omega
      subst hkn
      refine lv_aload_n hx hb dX10_keep_52 rfl (lv_at hl 0 rfl) ?_
      refine lv_iconst (v := 1) hx hb dX10_keep_53 (by decide) ?_
      refine va_put (D := g) (ci := 9) (v := .int 1) (C := RX10) (T := TX10) (N := 14) hx hb hts hi_wsX100 tyX10 tyX10_ok nmX10 hown hK hP hD hS 0 rfl rfl 8 (by decide) (hts (.fieldLink RX10 201 "FloodBarrierModel" "isFilled" "Z") (List.mem_of_getElem? (i := 5) rfl)) (fun _ h9 => h9) rfl (tyX10_ok 8 (by decide)) rfl rfl (Nat.le_of_ble_eq_true rfl) dX10_keep_54 (fun H locs hP hD hS => ?_)
      have hP : va_P g vwCl [zO m0 9 [.ref m1, .ref m2, .ref m3, .ref m4, .ref m5, .ref m6, .ref m7, .int (nI kp), .int 1, .int (nI tn), .ref m8, .int (nI pa), .int (nI rn), .ref m9], zL ct m1 108 n, zL ct m2 540 hy, zL ct m3 108 (cp0 sl n 108), zL ct m4 108 sp, zD ct m5 33 re, zD ct m6 165 rh, zD ct m7 33 (cp0 rs re 33), zC ct m8 60 tx, zI ct m9 17 rd] H := hP
      have hD : va_D A [zO m0 9 [.ref m1, .ref m2, .ref m3, .ref m4, .ref m5, .ref m6, .ref m7, .int (nI kp), .int 1, .int (nI tn), .ref m8, .int (nI pa), .int (nI rn), .ref m9], zL ct m1 108 n, zL ct m2 540 hy, zL ct m3 108 (cp0 sl n 108), zL ct m4 108 sp, zD ct m5 33 re, zD ct m6 165 rh, zD ct m7 33 (cp0 rs re 33), zC ct m8 60 tx, zI ct m9 17 rd] := hD
      refine lv_aload_n hx hb dX10_keep_57 rfl (lv_at hl 0 rfl) ?_
      refine lv_iconst (v := 0) hx hb dX10_keep_58 (by decide) ?_
      refine z_cVi (wc := [zO m0 9 [.ref m1, .ref m2, .ref m3, .ref m4, .ref m5, .ref m6, .ref m7, .int (nI kp), .int 1, .int (nI tn), .ref m8, .int (nI pa), .int (nI rn), .ref m9], zL ct m1 108 n, zL ct m2 540 hy, zL ct m3 108 (cp0 sl n 108), zL ct m4 108 sp, zD ct m5 33 re, zD ct m6 165 rh, zD ct m7 33 (cp0 rs re 33), zC ct m8 60 tx, zI ct m9 17 rd]) (As := [.int 0]) (rest := []) ⟨hx, hb, hml, hown, hts⟩ hK hP [0, 1, 2, 3, 4, 5, 6, 7, 8, 9] rfl (c_X10_cell l g ct m0 m1 m2 m3 m4 m5 m6 m7 m8 m9 n hy (cp0 sl n 108) sp re rh (cp0 rs re 33) kp 1 tn tx pa rn rd 0 (by omega)) (cwV 1 hts gX10_keep_X10_cell rfl rfl rfl (by decide +kernel) ⟨Nat.le_of_ble_eq_true rfl, Nat.le_of_ble_eq_true rfl⟩) 0 rfl rfl rfl hl.1 rfl (Nat.le_of_ble_eq_true rfl) dX10_keep_59 ⟨Nat.zero_le _, Nat.zero_le _⟩ ?_
      exact z_iretW hx hb hr hlocks hS hP hD rfl rfl (Nat.le_refl _) (Nat.le_refl _) dX10_keep_62
    · refine lv_aload_n hx hb dX10_keep_34 rfl (lv_at hl 0 rfl) ?_
      refine va_get (D := g) (ci := 9) (v := .ref m7) (C := RX10) (T := TX10) (N := 14) hx hb hts hi_wsX100 hown hK hP 0 rfl rfl 6 (by decide) (hts (.fieldLink RX10 29 "FloodBarrierModel" "realSlot" "[D") (List.mem_of_getElem? (i := 3) rfl)) (fun _ h9 => h9) rfl dX10_keep_35 ?_
      refine lv_iload_n hx hb dX10_keep_38 rfl (lv_at hl 1 rfl) ?_
      refine lv_aload_n hx hb dX10_keep_39 rfl (lv_at hl 0 rfl) ?_
      refine va_get (D := g) (ci := 9) (v := .ref m5) (C := RX10) (T := TX10) (N := 14) hx hb hts hi_wsX100 hown hK hP 0 rfl rfl 4 (by decide) (hts (.fieldLink RX10 22 "FloodBarrierModel" "real" "[D") (List.mem_of_getElem? (i := 4) rfl)) (fun _ h9 => h9) rfl dX10_keep_40 ?_
      refine lv_iload_n hx hb dX10_keep_43 rfl (lv_at hl 1 rfl) ?_
      refine z_dald (ct := ct) (f := re) (k := k2) hx hb hK hP 5 rfl (by omega) (by decide) dX10_keep_44 ?_
      refine z_dast (ct := ct) (f := (cp0 rs re k2)) (k := k2) (x := (re k2)) hx hb hK hP hD hS 7 rfl (by omega) (by decide) dX10_keep_45 (fun H locs hP hD hS => ?_)
      have hP : va_P g vwCl [zO m0 9 [.ref m1, .ref m2, .ref m3, .ref m4, .ref m5, .ref m6, .ref m7, .int (nI kp), .int fl, .int (nI tn), .ref m8, .int (nI pa), .int (nI rn), .ref m9], zL ct m1 108 n, zL ct m2 540 hy, zL ct m3 108 (cp0 sl n 108), zL ct m4 108 sp, zD ct m5 33 re, zD ct m6 165 rh, zD ct m7 33 (vf_upd (cp0 rs re k2) k2 (re k2)), zC ct m8 60 tx, zI ct m9 17 rd] H := hP
      have hD : va_D A [zO m0 9 [.ref m1, .ref m2, .ref m3, .ref m4, .ref m5, .ref m6, .ref m7, .int (nI kp), .int fl, .int (nI tn), .ref m8, .int (nI pa), .int (nI rn), .ref m9], zL ct m1 108 n, zL ct m2 540 hy, zL ct m3 108 (cp0 sl n 108), zL ct m4 108 sp, zD ct m5 33 re, zD ct m6 165 rh, zD ct m7 33 (vf_upd (cp0 rs re k2) k2 (re k2)), zC ct m8 60 tx, zI ct m9 17 rd] := hD
      refine lv_iinc (v := nI (k2 + 1)) (lv' := [(1, .int (nI (k2 + 1))), (0, .ref m0)]) hx hb dX10_keep_46 hl (k := 1) rfl (nI_add k2 1) (by decide) rfl (fun ls hl => ?_)
      refine lv_goto (tgt := 28) hx hb dX10_keep_49 (by decide) ?_
      exact ihk2 _ _ _ (by omega) ⟨(by first | exact hP | (simp only [lp_s, ← cp0_sD, if_neg c_1, if_pos c_2]; exact hP)), (by first | exact hD | (simp only [lp_s, ← cp0_sD, if_neg c_1, if_pos c_2]; exact hD)), hS, (by first | exact lv_sub hl [1, 0] rfl | (simp only [lp_s, ← cp0_sD, if_neg c_1, if_pos c_2]; exact lv_sub hl [1, 0] rfl))⟩
  · refine lv_aload_n hx hb dX10_keep_8 rfl (lv_at hl 0 rfl) ?_
    refine va_get (D := g) (ci := 9) (v := .ref m3) (C := RX10) (T := TX10) (N := 14) hx hb hts hi_wsX100 hown hK hP 0 rfl rfl 2 (by decide) (hts (.fieldLink RX10 16 "FloodBarrierModel" "slot" "[J") (List.mem_of_getElem? (i := 1) rfl)) (fun _ h9 => h9) rfl dX10_keep_9 ?_
    refine lv_iload_n hx hb dX10_keep_12 rfl (lv_at hl 1 rfl) ?_
    refine lv_aload_n hx hb dX10_keep_13 rfl (lv_at hl 0 rfl) ?_
    refine va_get (D := g) (ci := 9) (v := .ref m1) (C := RX10) (T := TX10) (N := 14) hx hb hts hi_wsX100 hown hK hP 0 rfl rfl 0 (by decide) (hts (.fieldLink RX10 7 "FloodBarrierModel" "now" "[J") (List.mem_of_getElem? (i := 2) rfl)) (fun _ h9 => h9) rfl dX10_keep_14 ?_
    refine lv_iload_n hx hb dX10_keep_17 rfl (lv_at hl 1 rfl) ?_
    refine z_lald (ct := ct) (f := n) (k := k1) hx hb hK hP 1 rfl (by omega) (by decide) dX10_keep_18 ?_
    refine z_last (ct := ct) (f := (cp0 sl n k1)) (k := k1) (x := (n k1)) hx hb hK hP hD hS 3 rfl (by omega) (by decide) dX10_keep_19 (fun H locs hP hD hS => ?_)
    have hP : va_P g vwCl [zO m0 9 [.ref m1, .ref m2, .ref m3, .ref m4, .ref m5, .ref m6, .ref m7, .int (nI kp), .int fl, .int (nI tn), .ref m8, .int (nI pa), .int (nI rn), .ref m9], zL ct m1 108 n, zL ct m2 540 hy, zL ct m3 108 (vp_updL (cp0 sl n k1) k1 (n k1)), zL ct m4 108 sp, zD ct m5 33 re, zD ct m6 165 rh, zD ct m7 33 rs, zC ct m8 60 tx, zI ct m9 17 rd] H := hP
    have hD : va_D A [zO m0 9 [.ref m1, .ref m2, .ref m3, .ref m4, .ref m5, .ref m6, .ref m7, .int (nI kp), .int fl, .int (nI tn), .ref m8, .int (nI pa), .int (nI rn), .ref m9], zL ct m1 108 n, zL ct m2 540 hy, zL ct m3 108 (vp_updL (cp0 sl n k1) k1 (n k1)), zL ct m4 108 sp, zD ct m5 33 re, zD ct m6 165 rh, zD ct m7 33 rs, zC ct m8 60 tx, zI ct m9 17 rd] := hD
    refine lv_iinc (v := nI (k1 + 1)) (lv' := [(1, .int (nI (k1 + 1))), (0, .ref m0)]) hx hb dX10_keep_20 hl (k := 1) rfl (nI_add k1 1) (by decide) rfl (fun ls hl => ?_)
    refine lv_goto (tgt := 2) hx hb dX10_keep_23 (by decide) ?_
    exact ihk1 _ _ _ (by omega) ⟨(by first | exact hP | (simp only [lp_s, ← cp0_s, if_pos c_1]; exact hP)), (by first | exact hD | (simp only [lp_s, ← cp0_s, if_pos c_1]; exact hD)), hS, (by first | exact lv_sub hl [1, 0] rfl | (simp only [lp_s, ← cp0_s, if_pos c_1]; exact lv_sub hl [1, 0] rfl))⟩

set_option maxHeartbeats 4000000 in
set_option maxRecDepth 100000 in
theorem c_X10_restore_n (l : Launch) (g : va_G) (ct : Nat → ClassId) (m0 m1 m2 m3 m4 m5 m6 m7 m8 m9 : Nat) (n hy sl sp : Nat → Int64) (re rh rs : Nat → UInt64) (kp : Nat) (tn : Nat) (tx : Nat → Int32) (pa rn : Nat) (rd : Nat → Int32) : Met l yX10_restore wsX10_restore (zRm 0 0) (va_Pc [.ref m0] (zR g ct [zO m0 9 [.ref m1, .ref m2, .ref m3, .ref m4, .ref m5, .ref m6, .ref m7, .int (nI kp), .int 0, .int (nI tn), .ref m8, .int (nI pa), .int (nI rn), .ref m9], zL ct m1 108 n, zL ct m2 540 hy, zL ct m3 108 sl, zL ct m4 108 sp, zD ct m5 33 re, zD ct m6 165 rh, zD ct m7 33 rs, zC ct m8 60 tx, zI ct m9 17 rd])) (vp_Si (fun r => r = -5)) 0 0 (fun _ => False) := by
  refine z_read (cc := cX10_restore) (maxL := 2) (ret := some .int) (by decide) rfl (Nat.le_of_ble_eq_true rfl) ?_
  intro p e s m below meth c ls hx hb hr hml hts hown hlocks hP hK hl
  have hown : s.vm.findClass RX10 = some m.cls := hown
  have hl : lv_has ls 2 [(0, .ref m0)] := hl
  have hi_wsX100 : ∀ w ∈ wsX100, w ∈ wsX10_restore := fun w h => List.mem_cons_of_mem _ (List.mem_append_right _ h)
  refine lv_aload_n hx hb dX10_restore_0 rfl (lv_at hl 0 rfl) ?_
  refine va_get (D := g) (ci := 9) (v := .int 0) (C := RX10) (T := TX10) (N := 14) hx hb hts hi_wsX100 hown hK hP 0 rfl rfl 8 (by decide) (hts (.fieldLink RX10 201 "FloodBarrierModel" "isFilled" "Z") (List.mem_of_getElem? (i := 1) rfl)) (fun _ h9 => h9) rfl dX10_restore_1 ?_
  refine lv_if_ne (tgt := 10) hx hb dX10_restore_4 (by decide) (fun h => absurd h (by decide)) (fun _ => ?_)
  refine lv_bipush (v := (-5)) hx hb dX10_restore_7 (by decide) ?_
  exact z_iretR hx hb hr hlocks rfl rfl dX10_restore_9

set_option maxHeartbeats 4000000 in
set_option maxRecDepth 100000 in
theorem c_X10_restore_b (l : Launch) (g : va_G) (ct : Nat → ClassId) (sz : Nat) (m0 m1 m2 m3 m4 m5 m6 m7 m8 m9 : Nat) (n hy sl sp : Nat → Int64) (re rh rs : Nat → UInt64) (kp : Nat) (tn : Nat) (tx : Nat → Int32) (pa rn : Nat) (rd : Nat → Int32) (hkp : kp ≤ 5) : Met l yX10_restore wsX10_restore (zRm 1 21) (va_Pc [.ref m0] (zW g ct [zO m0 9 [.ref m1, .ref m2, .ref m3, .ref m4, .ref m5, .ref m6, .ref m7, .int (nI kp), .int 1, .int (nI tn), .ref m8, .int (nI pa), .int (nI rn), .ref m9], zL ct m1 108 n, zL ct m2 540 hy, zL ct m3 108 sl, zL ct m4 108 sp, zD ct m5 33 re, zD ct m6 165 rh, zD ct m7 33 rs, zC ct m8 60 tx, zI ct m9 17 rd] sz)) (zQi g [zO m0 9 [.ref m1, .ref m2, .ref m3, .ref m4, .ref m5, .ref m6, .ref m7, .int (nI (mkp kp)), .int 1, .int (nI tn), .ref m8, .int (nI pa), .int (nI rn), .ref m9], zL ct m1 108 (cp0 n sl 108), zL ct m2 540 (mhy hy n kp), zL ct m3 108 sl, zL ct m4 108 sp, zD ct m5 33 (cp0 re rs 33), zD ct m6 165 (mrh rh re kp), zD ct m7 33 rs, zC ct m8 60 tx, zI ct m9 17 rd] (((cp0 n sl 108) 0).toInt32) (va_A [zO m0 9 [.ref m1, .ref m2, .ref m3, .ref m4, .ref m5, .ref m6, .ref m7, .int (nI kp), .int 1, .int (nI tn), .ref m8, .int (nI pa), .int (nI rn), .ref m9], zL ct m1 108 n, zL ct m2 540 hy, zL ct m3 108 sl, zL ct m4 108 sp, zD ct m5 33 re, zD ct m6 165 rh, zD ct m7 33 rs, zC ct m8 60 tx, zI ct m9 17 rd] sz)) 0 0 (va_A [zO m0 9 [.ref m1, .ref m2, .ref m3, .ref m4, .ref m5, .ref m6, .ref m7, .int (nI kp), .int 1, .int (nI tn), .ref m8, .int (nI pa), .int (nI rn), .ref m9], zL ct m1 108 n, zL ct m2 540 hy, zL ct m3 108 sl, zL ct m4 108 sp, zD ct m5 33 re, zD ct m6 165 rh, zD ct m7 33 rs, zC ct m8 60 tx, zI ct m9 17 rd] sz) := by
  refine z_write (QA := zQi g [zO m0 9 [.ref m1, .ref m2, .ref m3, .ref m4, .ref m5, .ref m6, .ref m7, .int (nI (mkp kp)), .int 1, .int (nI tn), .ref m8, .int (nI pa), .int (nI rn), .ref m9], zL ct m1 108 (cp0 n sl 108), zL ct m2 540 (mhy hy n kp), zL ct m3 108 sl, zL ct m4 108 sp, zD ct m5 33 (cp0 re rs 33), zD ct m6 165 (mrh rh re kp), zD ct m7 33 rs, zC ct m8 60 tx, zI ct m9 17 rd] (((cp0 n sl 108) 0).toInt32)) (cc := cX10_restore) (maxL := 2) (ret := some .int) (by decide) rfl (Nat.le_of_ble_eq_true rfl) ?_
  intro p e s m below meth c ls A hx hb hr hml hts hown hlocks hin hP hK hD hNW hA hS hl
  have hown : s.vm.findClass RX10 = some m.cls := hown
  have hl : lv_has ls 2 [(0, .ref m0)] := hl
  have hi_wsX100 : ∀ w ∈ wsX100, w ∈ wsX10_restore := fun w h => List.mem_cons_of_mem _ (List.mem_append_right _ h)
  refine lv_aload_n hx hb dX10_restore_0 rfl (lv_at hl 0 rfl) ?_
  refine va_get (D := g) (ci := 9) (v := .int 1) (C := RX10) (T := TX10) (N := 14) hx hb hts hi_wsX100 hown hK hP 0 rfl rfl 8 (by decide) (hts (.fieldLink RX10 201 "FloodBarrierModel" "isFilled" "Z") (List.mem_of_getElem? (i := 1) rfl)) (fun _ h9 => h9) rfl dX10_restore_1 ?_
  refine lv_if_ne (tgt := 10) hx hb dX10_restore_4 (by decide) (fun _ => ?_) (fun h => absurd h (by decide))
  refine lv_aload_n hx hb dX10_restore_10 rfl (lv_at hl 0 rfl) ?_
  refine z_wVv (wc := [zO m0 9 [.ref m1, .ref m2, .ref m3, .ref m4, .ref m5, .ref m6, .ref m7, .int (nI kp), .int 1, .int (nI tn), .ref m8, .int (nI pa), .int (nI rn), .ref m9], zL ct m1 108 n, zL ct m2 540 hy, zL ct m3 108 sl, zL ct m4 108 sp, zD ct m5 33 re, zD ct m6 165 rh, zD ct m7 33 rs, zC ct m8 60 tx, zI ct m9 17 rd]) (wr := []) (w2 := [zO m0 9 [.ref m1, .ref m2, .ref m3, .ref m4, .ref m5, .ref m6, .ref m7, .int (nI (mkp kp)), .int 1, .int (nI tn), .ref m8, .int (nI pa), .int (nI rn), .ref m9], zL ct m1 108 n, zL ct m2 540 (mhy hy n kp), zL ct m3 108 sl, zL ct m4 108 sp, zD ct m5 33 re, zD ct m6 165 (mrh rh re kp), zD ct m7 33 rs, zC ct m8 60 tx, zI ct m9 17 rd]) (As := []) (rest := []) ⟨hx, hb, hml, hown, hts⟩ hK hP hD hS hNW hA [0, 1, 2, 3, 4, 5, 6, 7, 8, 9] [] [0, 1, 2, 3, 4, 5, 6, 7, 8, 9] rfl rfl rfl rfl rfl rfl (by decide) (c_X10_record l g ct _ m0 m1 m2 m3 m4 m5 m6 m7 m8 m9 n hy sl sp re rh rs kp 1 tn tx pa rn rd (by omega)) (cwV 0 hts gX10_restore_X10_record rfl rfl rfl (by decide +kernel) ⟨Nat.le_of_ble_eq_true rfl, Nat.le_of_ble_eq_true rfl⟩) 0 rfl rfl rfl hl.1 rfl (Nat.le_of_ble_eq_true rfl) dX10_restore_11 ⟨Nat.zero_le _, Nat.zero_le _⟩ (fun H locs hP hD hS => ?_)
  refine lv_iconst (v := 0) hx hb dX10_restore_14 (by decide) ?_
  refine lv_istore_n (lv' := [(1, .int 0), (0, .ref m0)]) hx hb dX10_restore_15 rfl hl (by decide) rfl (fun ls hl => ?_)
  refine z_loop 108 (fun k1 H locs ls => va_P g vwCl [zO m0 9 [.ref m1, .ref m2, .ref m3, .ref m4, .ref m5, .ref m6, .ref m7, .int (nI (mkp kp)), .int 1, .int (nI tn), .ref m8, .int (nI pa), .int (nI rn), .ref m9], zL ct m1 108 (cp0 n sl k1), zL ct m2 540 (mhy hy n kp), zL ct m3 108 sl, zL ct m4 108 sp, zD ct m5 33 re, zD ct m6 165 (mrh rh re kp), zD ct m7 33 rs, zC ct m8 60 tx, zI ct m9 17 rd] H ∧ va_D A [zO m0 9 [.ref m1, .ref m2, .ref m3, .ref m4, .ref m5, .ref m6, .ref m7, .int (nI (mkp kp)), .int 1, .int (nI tn), .ref m8, .int (nI pa), .int (nI rn), .ref m9], zL ct m1 108 (cp0 n sl k1), zL ct m2 540 (mhy hy n kp), zL ct m3 108 sl, zL ct m4 108 sp, zD ct m5 33 re, zD ct m6 165 (mrh rh re kp), zD ct m7 33 rs, zC ct m8 60 tx, zI ct m9 17 rd] ∧ va_S A s.heap H locs ∧ lv_has ls 2 [(0, .ref m0), (1, .int (nI k1))]) ⟨(by rw [cp0_0 n sl]; exact hP), (by rw [cp0_0 n sl]; exact hD), hS, lv_sub hl [1, 0] rfl⟩ ?_
  intro k1 H locs ls hkk1 hI ihk1
  obtain ⟨hP, hD, hS, hl⟩ := hI
  refine lv_iload_n hx hb dX10_restore_16 rfl (lv_at hl 1 rfl) ?_
  refine lv_bipush (v := 108) hx hb dX10_restore_17 (by decide) ?_
  refine z_icN_ge (x := k1) (y := 108) (tgt := 40) hx hb (by omega) (by omega) dX10_restore_19 (by decide) (fun c_1 => ?_) (fun c_1 => ?_)
  · have hkn : 108 = k1 := by omega
    subst hkn
    refine lv_iconst (v := 0) hx hb dX10_restore_40 (by decide) ?_
    refine lv_istore_n (lv' := [(1, .int 0), (0, .ref m0)]) hx hb dX10_restore_41 rfl hl (by decide) rfl (fun ls hl => ?_)
    refine z_loop 33 (fun k2 H locs ls => va_P g vwCl [zO m0 9 [.ref m1, .ref m2, .ref m3, .ref m4, .ref m5, .ref m6, .ref m7, .int (nI (mkp kp)), .int 1, .int (nI tn), .ref m8, .int (nI pa), .int (nI rn), .ref m9], zL ct m1 108 (cp0 n sl 108), zL ct m2 540 (mhy hy n kp), zL ct m3 108 sl, zL ct m4 108 sp, zD ct m5 33 (cp0 re rs k2), zD ct m6 165 (mrh rh re kp), zD ct m7 33 rs, zC ct m8 60 tx, zI ct m9 17 rd] H ∧ va_D A [zO m0 9 [.ref m1, .ref m2, .ref m3, .ref m4, .ref m5, .ref m6, .ref m7, .int (nI (mkp kp)), .int 1, .int (nI tn), .ref m8, .int (nI pa), .int (nI rn), .ref m9], zL ct m1 108 (cp0 n sl 108), zL ct m2 540 (mhy hy n kp), zL ct m3 108 sl, zL ct m4 108 sp, zD ct m5 33 (cp0 re rs k2), zD ct m6 165 (mrh rh re kp), zD ct m7 33 rs, zC ct m8 60 tx, zI ct m9 17 rd] ∧ va_S A s.heap H locs ∧ lv_has ls 2 [(0, .ref m0), (1, .int (nI k2))]) ⟨(by rw [cp0_0 re rs]; exact hP), (by rw [cp0_0 re rs]; exact hD), hS, lv_sub hl [1, 0] rfl⟩ ?_
    intro k2 H locs ls hkk2 hI ihk2
    obtain ⟨hP, hD, hS, hl⟩ := hI
    refine lv_iload_n hx hb dX10_restore_42 rfl (lv_at hl 1 rfl) ?_
    refine lv_bipush (v := 33) hx hb dX10_restore_43 (by decide) ?_
    refine z_icN_ge (x := k2) (y := 33) (tgt := 66) hx hb (by omega) (by omega) dX10_restore_45 (by decide) (fun c_2 => ?_) (fun c_2 => ?_)
    · have hkn : 33 = k2 := by omega
      subst hkn
      refine lv_aload_n hx hb dX10_restore_66 rfl (lv_at hl 0 rfl) ?_
      refine lv_iconst (v := 0) hx hb dX10_restore_67 (by decide) ?_
      refine z_cVi (wc := [zO m0 9 [.ref m1, .ref m2, .ref m3, .ref m4, .ref m5, .ref m6, .ref m7, .int (nI (mkp kp)), .int 1, .int (nI tn), .ref m8, .int (nI pa), .int (nI rn), .ref m9], zL ct m1 108 (cp0 n sl 108), zL ct m2 540 (mhy hy n kp), zL ct m3 108 sl, zL ct m4 108 sp, zD ct m5 33 (cp0 re rs 33), zD ct m6 165 (mrh rh re kp), zD ct m7 33 rs, zC ct m8 60 tx, zI ct m9 17 rd]) (As := [.int 0]) (rest := []) ⟨hx, hb, hml, hown, hts⟩ hK hP [0, 1, 2, 3, 4, 5, 6, 7, 8, 9] rfl (c_X10_cell l g ct m0 m1 m2 m3 m4 m5 m6 m7 m8 m9 (cp0 n sl 108) (mhy hy n kp) sl sp (cp0 re rs 33) (mrh rh re kp) rs (mkp kp) 1 tn tx pa rn rd 0 (by omega)) (cwV 1 hts gX10_restore_X10_cell rfl rfl rfl (by decide +kernel) ⟨Nat.le_of_ble_eq_true rfl, Nat.le_of_ble_eq_true rfl⟩) 0 rfl rfl rfl hl.1 rfl (Nat.le_of_ble_eq_true rfl) dX10_restore_68 ⟨Nat.zero_le _, Nat.zero_le _⟩ ?_
      exact z_iretW hx hb hr hlocks hS hP hD rfl rfl (Nat.le_refl _) (Nat.le_refl _) dX10_restore_71
    · refine lv_aload_n hx hb dX10_restore_48 rfl (lv_at hl 0 rfl) ?_
      refine va_get (D := g) (ci := 9) (v := .ref m5) (C := RX10) (T := TX10) (N := 14) hx hb hts hi_wsX100 hown hK hP 0 rfl rfl 4 (by decide) (hts (.fieldLink RX10 22 "FloodBarrierModel" "real" "[D") (List.mem_of_getElem? (i := 4) rfl)) (fun _ h9 => h9) rfl dX10_restore_49 ?_
      refine lv_iload_n hx hb dX10_restore_52 rfl (lv_at hl 1 rfl) ?_
      refine lv_aload_n hx hb dX10_restore_53 rfl (lv_at hl 0 rfl) ?_
      refine va_get (D := g) (ci := 9) (v := .ref m7) (C := RX10) (T := TX10) (N := 14) hx hb hts hi_wsX100 hown hK hP 0 rfl rfl 6 (by decide) (hts (.fieldLink RX10 29 "FloodBarrierModel" "realSlot" "[D") (List.mem_of_getElem? (i := 5) rfl)) (fun _ h9 => h9) rfl dX10_restore_54 ?_
      refine lv_iload_n hx hb dX10_restore_57 rfl (lv_at hl 1 rfl) ?_
      refine z_dald (ct := ct) (f := rs) (k := k2) hx hb hK hP 7 rfl (by omega) (by decide) dX10_restore_58 ?_
      refine z_dast (ct := ct) (f := (cp0 re rs k2)) (k := k2) (x := (rs k2)) hx hb hK hP hD hS 5 rfl (by omega) (by decide) dX10_restore_59 (fun H locs hP hD hS => ?_)
      have hP : va_P g vwCl [zO m0 9 [.ref m1, .ref m2, .ref m3, .ref m4, .ref m5, .ref m6, .ref m7, .int (nI (mkp kp)), .int 1, .int (nI tn), .ref m8, .int (nI pa), .int (nI rn), .ref m9], zL ct m1 108 (cp0 n sl 108), zL ct m2 540 (mhy hy n kp), zL ct m3 108 sl, zL ct m4 108 sp, zD ct m5 33 (vf_upd (cp0 re rs k2) k2 (rs k2)), zD ct m6 165 (mrh rh re kp), zD ct m7 33 rs, zC ct m8 60 tx, zI ct m9 17 rd] H := hP
      have hD : va_D A [zO m0 9 [.ref m1, .ref m2, .ref m3, .ref m4, .ref m5, .ref m6, .ref m7, .int (nI (mkp kp)), .int 1, .int (nI tn), .ref m8, .int (nI pa), .int (nI rn), .ref m9], zL ct m1 108 (cp0 n sl 108), zL ct m2 540 (mhy hy n kp), zL ct m3 108 sl, zL ct m4 108 sp, zD ct m5 33 (vf_upd (cp0 re rs k2) k2 (rs k2)), zD ct m6 165 (mrh rh re kp), zD ct m7 33 rs, zC ct m8 60 tx, zI ct m9 17 rd] := hD
      refine lv_iinc (v := nI (k2 + 1)) (lv' := [(1, .int (nI (k2 + 1))), (0, .ref m0)]) hx hb dX10_restore_60 hl (k := 1) rfl (nI_add k2 1) (by decide) rfl (fun ls hl => ?_)
      refine lv_goto (tgt := 42) hx hb dX10_restore_63 (by decide) ?_
      exact ihk2 _ _ _ (by omega) ⟨(by first | exact hP | (simp only [lp_s, ← cp0_sD, if_neg c_1, if_pos c_2]; exact hP)), (by first | exact hD | (simp only [lp_s, ← cp0_sD, if_neg c_1, if_pos c_2]; exact hD)), hS, (by first | exact lv_sub hl [1, 0] rfl | (simp only [lp_s, ← cp0_sD, if_neg c_1, if_pos c_2]; exact lv_sub hl [1, 0] rfl))⟩
  · refine lv_aload_n hx hb dX10_restore_22 rfl (lv_at hl 0 rfl) ?_
    refine va_get (D := g) (ci := 9) (v := .ref m1) (C := RX10) (T := TX10) (N := 14) hx hb hts hi_wsX100 hown hK hP 0 rfl rfl 0 (by decide) (hts (.fieldLink RX10 7 "FloodBarrierModel" "now" "[J") (List.mem_of_getElem? (i := 2) rfl)) (fun _ h9 => h9) rfl dX10_restore_23 ?_
    refine lv_iload_n hx hb dX10_restore_26 rfl (lv_at hl 1 rfl) ?_
    refine lv_aload_n hx hb dX10_restore_27 rfl (lv_at hl 0 rfl) ?_
    refine va_get (D := g) (ci := 9) (v := .ref m3) (C := RX10) (T := TX10) (N := 14) hx hb hts hi_wsX100 hown hK hP 0 rfl rfl 2 (by decide) (hts (.fieldLink RX10 16 "FloodBarrierModel" "slot" "[J") (List.mem_of_getElem? (i := 3) rfl)) (fun _ h9 => h9) rfl dX10_restore_28 ?_
    refine lv_iload_n hx hb dX10_restore_31 rfl (lv_at hl 1 rfl) ?_
    refine z_lald (ct := ct) (f := sl) (k := k1) hx hb hK hP 3 rfl (by omega) (by decide) dX10_restore_32 ?_
    refine z_last (ct := ct) (f := (cp0 n sl k1)) (k := k1) (x := (sl k1)) hx hb hK hP hD hS 1 rfl (by omega) (by decide) dX10_restore_33 (fun H locs hP hD hS => ?_)
    have hP : va_P g vwCl [zO m0 9 [.ref m1, .ref m2, .ref m3, .ref m4, .ref m5, .ref m6, .ref m7, .int (nI (mkp kp)), .int 1, .int (nI tn), .ref m8, .int (nI pa), .int (nI rn), .ref m9], zL ct m1 108 (vp_updL (cp0 n sl k1) k1 (sl k1)), zL ct m2 540 (mhy hy n kp), zL ct m3 108 sl, zL ct m4 108 sp, zD ct m5 33 re, zD ct m6 165 (mrh rh re kp), zD ct m7 33 rs, zC ct m8 60 tx, zI ct m9 17 rd] H := hP
    have hD : va_D A [zO m0 9 [.ref m1, .ref m2, .ref m3, .ref m4, .ref m5, .ref m6, .ref m7, .int (nI (mkp kp)), .int 1, .int (nI tn), .ref m8, .int (nI pa), .int (nI rn), .ref m9], zL ct m1 108 (vp_updL (cp0 n sl k1) k1 (sl k1)), zL ct m2 540 (mhy hy n kp), zL ct m3 108 sl, zL ct m4 108 sp, zD ct m5 33 re, zD ct m6 165 (mrh rh re kp), zD ct m7 33 rs, zC ct m8 60 tx, zI ct m9 17 rd] := hD
    refine lv_iinc (v := nI (k1 + 1)) (lv' := [(1, .int (nI (k1 + 1))), (0, .ref m0)]) hx hb dX10_restore_34 hl (k := 1) rfl (nI_add k1 1) (by decide) rfl (fun ls hl => ?_)
    refine lv_goto (tgt := 16) hx hb dX10_restore_37 (by decide) ?_
    exact ihk1 _ _ _ (by omega) ⟨(by first | exact hP | (simp only [lp_s, ← cp0_s, if_pos c_1]; exact hP)), (by first | exact hD | (simp only [lp_s, ← cp0_s, if_pos c_1]; exact hD)), hS, (by first | exact lv_sub hl [1, 0] rfl | (simp only [lp_s, ← cp0_s, if_pos c_1]; exact lv_sub hl [1, 0] rfl))⟩
