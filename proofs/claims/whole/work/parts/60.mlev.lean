set_option maxHeartbeats 4000000 in
set_option maxRecDepth 100000 in
theorem c_X10_set_u (l : Launch) (g : va_G) (ct : Nat → ClassId) (m0 m1 m2 m3 m4 m5 m6 m7 m8 m9 : Nat) (n hy sl sp : Nat → Int64) (re rh rs : Nat → UInt64) (kp : Nat) (fl : Int32) (tn : Nat) (tx : Nat → Int32) (pa rn : Nat) (rd : Nat → Int32) (x y : Int32) (hact : ¬ inP x.toInt64 0 1) : Met l yX10_set wsX10_set (zRm 1 25) (va_Pc [.ref m0, .int x, .int y] (zR g ct [zO m0 9 [.ref m1, .ref m2, .ref m3, .ref m4, .ref m5, .ref m6, .ref m7, .int (nI kp), .int fl, .int (nI tn), .ref m8, .int (nI pa), .int (nI rn), .ref m9], zL ct m1 108 n, zL ct m2 540 hy, zL ct m3 108 sl, zL ct m4 108 sp, zD ct m5 33 re, zD ct m6 165 rh, zD ct m7 33 rs, zC ct m8 60 tx, zI ct m9 17 rd])) (vp_Si (fun r => r = -2)) 0 0 (fun _ => False) := by
  refine z_read (cc := cX10_set) (maxL := 3) (ret := some .int) (by decide) rfl (Nat.le_of_ble_eq_true rfl) ?_
  intro p e s m below meth c ls hx hb hr hml hts hown hlocks hP hK hl
  have hown : s.vm.findClass RX10 = some m.cls := hown
  have hl : lv_has ls 3 [(0, .ref m0), (1, .int x), (2, .int y)] := hl
  refine lv_iload_n hx hb dX10_set_0 rfl (lv_at hl 1 rfl) ?_
  refine lv_i2l (v := x.toInt64) hx hb dX10_set_1 rfl ?_
  refine lv_lconst (v := 0) hx hb dX10_set_2 (by decide) ?_
  refine lv_lconst (v := 1) hx hb dX10_set_3 (by decide) ?_
  refine z_cSi (As := [.long x.toInt64, .long 0, .long 1]) (rest := []) ⟨hx, hb, hml, hown, hts⟩ (c_X10_in l x.toInt64 0 1) (va_cwS 3 hts gX10_set_X10_in rfl rfl rfl (by decide +kernel) ⟨Nat.le_of_ble_eq_true rfl, Nat.le_of_ble_eq_true rfl⟩) rfl hl.1 rfl (Nat.le_of_ble_eq_true rfl) dX10_set_4 ⟨Nat.zero_le _, Nat.zero_le _⟩ ?_
  refine z_bif_eq (P := (inP x.toInt64 0 1)) (tgt := 43) hx hb dX10_set_7 (by decide) (fun c_1 => ?_) (fun c_1 => ?_)
  · refine lv_bipush (v := (-2)) hx hb dX10_set_43 (by decide) ?_
    exact z_iretR hx hb hr hlocks rfl rfl dX10_set_45
  · exact absurd c_1 hact

set_option maxHeartbeats 4000000 in
set_option maxRecDepth 100000 in
theorem c_X10_set_a0 (l : Launch) (g : va_G) (ct : Nat → ClassId) (m0 m1 m2 m3 m4 m5 m6 m7 m8 m9 : Nat) (n hy sl sp : Nat → Int64) (re rh rs : Nat → UInt64) (kp : Nat) (fl : Int32) (tn : Nat) (tx : Nat → Int32) (pa rn : Nat) (rd : Nat → Int32) (y : Int32) (hno : ¬ (inP y.toInt64 1000 1000000 ∧ ¬ (n 5).toInt32 = y)) : Met l yX10_set wsX10_set (zRm 2 44) (va_Pc [.ref m0, .int 0, .int y] (zR g ct [zO m0 9 [.ref m1, .ref m2, .ref m3, .ref m4, .ref m5, .ref m6, .ref m7, .int (nI kp), .int fl, .int (nI tn), .ref m8, .int (nI pa), .int (nI rn), .ref m9], zL ct m1 108 n, zL ct m2 540 hy, zL ct m3 108 sl, zL ct m4 108 sp, zD ct m5 33 re, zD ct m6 165 rh, zD ct m7 33 rs, zC ct m8 60 tx, zI ct m9 17 rd])) (vp_Si (fun r => r = if inP y.toInt64 1000 1000000 then -5 else -2)) 0 0 (fun _ => False) := by
  refine z_read (cc := cX10_set) (maxL := 3) (ret := some .int) (by decide) rfl (Nat.le_of_ble_eq_true rfl) ?_
  intro p e s m below meth c ls hx hb hr hml hts hown hlocks hP hK hl
  have hown : s.vm.findClass RX10 = some m.cls := hown
  have hl : lv_has ls 3 [(0, .ref m0), (1, .int 0), (2, .int y)] := hl
  refine lv_iload_n hx hb dX10_set_0 rfl (lv_at hl 1 rfl) ?_
  refine lv_i2l (v := lN 0) hx hb dX10_set_1 (show (0 : Int32).toInt64 = lN 0 from by decide) ?_
  refine lv_lconst (v := 0) hx hb dX10_set_2 (by decide) ?_
  refine lv_lconst (v := 1) hx hb dX10_set_3 (by decide) ?_
  refine z_cSi (As := [.long (lN 0), .long 0, .long 1]) (rest := []) ⟨hx, hb, hml, hown, hts⟩ (c_X10_in l (lN 0) 0 1) (va_cwS 3 hts gX10_set_X10_in rfl rfl rfl (by decide +kernel) ⟨Nat.le_of_ble_eq_true rfl, Nat.le_of_ble_eq_true rfl⟩) rfl hl.1 rfl (Nat.le_of_ble_eq_true rfl) dX10_set_4 ⟨Nat.zero_le _, Nat.zero_le _⟩ ?_
  refine z_bif_eq (P := (inP (lN 0) 0 1)) (tgt := 43) hx hb dX10_set_7 (by decide) (fun c_1 => ?_) (fun c_1 => ?_)
  · exact absurd (show inP (lN 0) 0 1 from (by decide)) c_1
  · refine lv_iload_n hx hb dX10_set_10 rfl (lv_at hl 1 rfl) ?_
    refine lv_if_ne (tgt := 31) hx hb dX10_set_11 (by decide) (fun h => absurd h (by decide)) (fun _ => ?_)
    refine lv_iload_n hx hb dX10_set_14 rfl (lv_at hl 2 rfl) ?_
    refine lv_i2l (v := y.toInt64) hx hb dX10_set_15 rfl ?_
    refine lv_ldc2 (v := 1000) hx hb hown (hts (.constantLong RX10 110 (1000)) (List.mem_of_getElem? (i := 1) rfl)) dX10_set_16 ?_
    refine lv_ldc2 (v := 1000000) hx hb hown (hts (.constantLong RX10 112 (1000000)) (List.mem_of_getElem? (i := 2) rfl)) dX10_set_19 ?_
    refine z_cSi (As := [.long y.toInt64, .long 1000, .long 1000000]) (rest := []) ⟨hx, hb, hml, hown, hts⟩ (c_X10_in l y.toInt64 1000 1000000) (va_cwS 3 hts gX10_set_X10_in rfl rfl rfl (by decide +kernel) ⟨Nat.le_of_ble_eq_true rfl, Nat.le_of_ble_eq_true rfl⟩) rfl hl.1 rfl (Nat.le_of_ble_eq_true rfl) dX10_set_22 ⟨Nat.zero_le _, Nat.zero_le _⟩ ?_
    refine z_bif_ne (P := (inP y.toInt64 1000 1000000)) (tgt := 46) hx hb dX10_set_25 (by decide) (fun c_2 => ?_) (fun c_2 => ?_)
    · refine lv_aload_n hx hb dX10_set_46 rfl (lv_at hl 0 rfl) ?_
      refine lv_iload_n hx hb dX10_set_47 rfl (lv_at hl 1 rfl) ?_
      refine lv_if_ne (tgt := 55) hx hb dX10_set_48 (by decide) (fun h => absurd h (by decide)) (fun _ => ?_)
      refine lv_iconst (v := 5) hx hb dX10_set_51 (by decide) ?_
      refine lv_goto (tgt := 57) hx hb dX10_set_52 (by decide) ?_
      refine lv_iload_n hx hb dX10_set_57 rfl (lv_at hl 2 rfl) ?_
      refine z_cVi (wc := [zO m0 9 [.ref m1, .ref m2, .ref m3, .ref m4, .ref m5, .ref m6, .ref m7, .int (nI kp), .int fl, .int (nI tn), .ref m8, .int (nI pa), .int (nI rn), .ref m9], zL ct m1 108 n, zL ct m2 540 hy, zL ct m3 108 sl, zL ct m4 108 sp, zD ct m5 33 re, zD ct m6 165 rh, zD ct m7 33 rs, zC ct m8 60 tx, zI ct m9 17 rd]) (As := [.int 5, .int y]) (rest := []) ⟨hx, hb, hml, hown, hts⟩ hK hP [0, 1, 2, 3, 4, 5, 6, 7, 8, 9] rfl (c_X10_sets_a l g ct m0 m1 m2 m3 m4 m5 m6 m7 m8 m9 n hy sl sp re rh rs kp fl tn tx pa rn rd 5 (by omega) y (fun q => hno ⟨c_2, q⟩)) (cwV 2 hts gX10_set_X10_sets rfl rfl rfl (by decide +kernel) ⟨Nat.le_of_ble_eq_true rfl, Nat.le_of_ble_eq_true rfl⟩) 0 rfl rfl rfl hl.1 rfl (Nat.le_of_ble_eq_true rfl) dX10_set_58 ⟨Nat.zero_le _, Nat.zero_le _⟩ ?_
      exact z_iretR hx hb hr hlocks rfl (by simp [c_2]) dX10_set_61
    · refine lv_goto (tgt := 43) hx hb dX10_set_28 (by decide) ?_
      refine lv_bipush (v := (-2)) hx hb dX10_set_43 (by decide) ?_
      exact z_iretR hx hb hr hlocks rfl (by simp [c_2]) dX10_set_45

set_option maxHeartbeats 4000000 in
set_option maxRecDepth 100000 in
theorem c_X10_set_b0 (l : Launch) (g : va_G) (ct : Nat → ClassId) (sz : Nat) (m0 m1 m2 m3 m4 m5 m6 m7 m8 m9 : Nat) (n hy sl sp : Nat → Int64) (re rh rs : Nat → UInt64) (kp : Nat) (fl : Int32) (tn : Nat) (tx : Nat → Int32) (pa rn : Nat) (rd : Nat → Int32) (hkp : kp ≤ 5) (y : Int32) (hact : inP y.toInt64 1000 1000000 ∧ ¬ (n 5).toInt32 = y) : Met l yX10_set wsX10_set (zRm 2 44) (va_Pc [.ref m0, .int 0, .int y] (zW g ct [zO m0 9 [.ref m1, .ref m2, .ref m3, .ref m4, .ref m5, .ref m6, .ref m7, .int (nI kp), .int fl, .int (nI tn), .ref m8, .int (nI pa), .int (nI rn), .ref m9], zL ct m1 108 n, zL ct m2 540 hy, zL ct m3 108 sl, zL ct m4 108 sp, zD ct m5 33 re, zD ct m6 165 rh, zD ct m7 33 rs, zC ct m8 60 tx, zI ct m9 17 rd] sz)) (zQi g [zO m0 9 [.ref m1, .ref m2, .ref m3, .ref m4, .ref m5, .ref m6, .ref m7, .int (nI (mkp kp)), .int fl, .int (nI tn), .ref m8, .int (nI pa), .int (nI rn), .ref m9], zL ct m1 108 (vp_updL n 5 y.toInt64), zL ct m2 540 (mhy hy n kp), zL ct m3 108 sl, zL ct m4 108 sp, zD ct m5 33 re, zD ct m6 165 (mrh rh re kp), zD ct m7 33 rs, zC ct m8 60 tx, zI ct m9 17 rd] ((n 5).toInt32) (va_A [zO m0 9 [.ref m1, .ref m2, .ref m3, .ref m4, .ref m5, .ref m6, .ref m7, .int (nI kp), .int fl, .int (nI tn), .ref m8, .int (nI pa), .int (nI rn), .ref m9], zL ct m1 108 n, zL ct m2 540 hy, zL ct m3 108 sl, zL ct m4 108 sp, zD ct m5 33 re, zD ct m6 165 rh, zD ct m7 33 rs, zC ct m8 60 tx, zI ct m9 17 rd] sz)) 0 0 (va_A [zO m0 9 [.ref m1, .ref m2, .ref m3, .ref m4, .ref m5, .ref m6, .ref m7, .int (nI kp), .int fl, .int (nI tn), .ref m8, .int (nI pa), .int (nI rn), .ref m9], zL ct m1 108 n, zL ct m2 540 hy, zL ct m3 108 sl, zL ct m4 108 sp, zD ct m5 33 re, zD ct m6 165 rh, zD ct m7 33 rs, zC ct m8 60 tx, zI ct m9 17 rd] sz) := by
  refine z_write (QA := zQi g [zO m0 9 [.ref m1, .ref m2, .ref m3, .ref m4, .ref m5, .ref m6, .ref m7, .int (nI (mkp kp)), .int fl, .int (nI tn), .ref m8, .int (nI pa), .int (nI rn), .ref m9], zL ct m1 108 (vp_updL n 5 y.toInt64), zL ct m2 540 (mhy hy n kp), zL ct m3 108 sl, zL ct m4 108 sp, zD ct m5 33 re, zD ct m6 165 (mrh rh re kp), zD ct m7 33 rs, zC ct m8 60 tx, zI ct m9 17 rd] ((n 5).toInt32)) (cc := cX10_set) (maxL := 3) (ret := some .int) (by decide) rfl (Nat.le_of_ble_eq_true rfl) ?_
  intro p e s m below meth c ls A hx hb hr hml hts hown hlocks hin hP hK hD hNW hA hS hl
  have hown : s.vm.findClass RX10 = some m.cls := hown
  have hl : lv_has ls 3 [(0, .ref m0), (1, .int 0), (2, .int y)] := hl
  refine lv_iload_n hx hb dX10_set_0 rfl (lv_at hl 1 rfl) ?_
  refine lv_i2l (v := lN 0) hx hb dX10_set_1 (show (0 : Int32).toInt64 = lN 0 from by decide) ?_
  refine lv_lconst (v := 0) hx hb dX10_set_2 (by decide) ?_
  refine lv_lconst (v := 1) hx hb dX10_set_3 (by decide) ?_
  refine z_cSi (As := [.long (lN 0), .long 0, .long 1]) (rest := []) ⟨hx, hb, hml, hown, hts⟩ (c_X10_in l (lN 0) 0 1) (va_cwS 3 hts gX10_set_X10_in rfl rfl rfl (by decide +kernel) ⟨Nat.le_of_ble_eq_true rfl, Nat.le_of_ble_eq_true rfl⟩) rfl hl.1 rfl (Nat.le_of_ble_eq_true rfl) dX10_set_4 ⟨Nat.zero_le _, Nat.zero_le _⟩ ?_
  refine z_bif_eq (P := (inP (lN 0) 0 1)) (tgt := 43) hx hb dX10_set_7 (by decide) (fun c_1 => ?_) (fun c_1 => ?_)
  · exact absurd (show inP (lN 0) 0 1 from (by decide)) c_1
  · refine lv_iload_n hx hb dX10_set_10 rfl (lv_at hl 1 rfl) ?_
    refine lv_if_ne (tgt := 31) hx hb dX10_set_11 (by decide) (fun h => absurd h (by decide)) (fun _ => ?_)
    refine lv_iload_n hx hb dX10_set_14 rfl (lv_at hl 2 rfl) ?_
    refine lv_i2l (v := y.toInt64) hx hb dX10_set_15 rfl ?_
    refine lv_ldc2 (v := 1000) hx hb hown (hts (.constantLong RX10 110 (1000)) (List.mem_of_getElem? (i := 1) rfl)) dX10_set_16 ?_
    refine lv_ldc2 (v := 1000000) hx hb hown (hts (.constantLong RX10 112 (1000000)) (List.mem_of_getElem? (i := 2) rfl)) dX10_set_19 ?_
    refine z_cSi (As := [.long y.toInt64, .long 1000, .long 1000000]) (rest := []) ⟨hx, hb, hml, hown, hts⟩ (c_X10_in l y.toInt64 1000 1000000) (va_cwS 3 hts gX10_set_X10_in rfl rfl rfl (by decide +kernel) ⟨Nat.le_of_ble_eq_true rfl, Nat.le_of_ble_eq_true rfl⟩) rfl hl.1 rfl (Nat.le_of_ble_eq_true rfl) dX10_set_22 ⟨Nat.zero_le _, Nat.zero_le _⟩ ?_
    refine z_bif_ne (P := (inP y.toInt64 1000 1000000)) (tgt := 46) hx hb dX10_set_25 (by decide) (fun c_2 => ?_) (fun c_2 => ?_)
    · refine lv_aload_n hx hb dX10_set_46 rfl (lv_at hl 0 rfl) ?_
      refine lv_iload_n hx hb dX10_set_47 rfl (lv_at hl 1 rfl) ?_
      refine lv_if_ne (tgt := 55) hx hb dX10_set_48 (by decide) (fun h => absurd h (by decide)) (fun _ => ?_)
      refine lv_iconst (v := 5) hx hb dX10_set_51 (by decide) ?_
      refine lv_goto (tgt := 57) hx hb dX10_set_52 (by decide) ?_
      refine lv_iload_n hx hb dX10_set_57 rfl (lv_at hl 2 rfl) ?_
      refine z_wVi (wc := [zO m0 9 [.ref m1, .ref m2, .ref m3, .ref m4, .ref m5, .ref m6, .ref m7, .int (nI kp), .int fl, .int (nI tn), .ref m8, .int (nI pa), .int (nI rn), .ref m9], zL ct m1 108 n, zL ct m2 540 hy, zL ct m3 108 sl, zL ct m4 108 sp, zD ct m5 33 re, zD ct m6 165 rh, zD ct m7 33 rs, zC ct m8 60 tx, zI ct m9 17 rd]) (wr := []) (w2 := [zO m0 9 [.ref m1, .ref m2, .ref m3, .ref m4, .ref m5, .ref m6, .ref m7, .int (nI (mkp kp)), .int fl, .int (nI tn), .ref m8, .int (nI pa), .int (nI rn), .ref m9], zL ct m1 108 (vp_updL n 5 y.toInt64), zL ct m2 540 (mhy hy n kp), zL ct m3 108 sl, zL ct m4 108 sp, zD ct m5 33 re, zD ct m6 165 (mrh rh re kp), zD ct m7 33 rs, zC ct m8 60 tx, zI ct m9 17 rd]) (As := [.int 5, .int y]) (rest := []) ⟨hx, hb, hml, hown, hts⟩ hK hP hD hS hNW hA [0, 1, 2, 3, 4, 5, 6, 7, 8, 9] [] [0, 1, 2, 3, 4, 5, 6, 7, 8, 9] rfl rfl rfl rfl rfl rfl (by decide) (c_X10_sets_b l g ct _ m0 m1 m2 m3 m4 m5 m6 m7 m8 m9 n hy sl sp re rh rs kp fl tn tx pa rn rd (by omega) 5 (by omega) y hact.2) (cwV 2 hts gX10_set_X10_sets rfl rfl rfl (by decide +kernel) ⟨Nat.le_of_ble_eq_true rfl, Nat.le_of_ble_eq_true rfl⟩) 0 rfl rfl rfl hl.1 rfl (Nat.le_of_ble_eq_true rfl) dX10_set_58 ⟨Nat.zero_le _, Nat.zero_le _⟩ (fun H locs hP hD hS => ?_)
      exact z_iretW hx hb hr hlocks hS hP hD rfl rfl (Nat.le_refl _) (Nat.le_refl _) dX10_set_61
    · exact absurd hact.1 c_2

set_option maxHeartbeats 4000000 in
set_option maxRecDepth 100000 in
theorem c_X10_set_a1 (l : Launch) (g : va_G) (ct : Nat → ClassId) (m0 m1 m2 m3 m4 m5 m6 m7 m8 m9 : Nat) (n hy sl sp : Nat → Int64) (re rh rs : Nat → UInt64) (kp : Nat) (fl : Int32) (tn : Nat) (tx : Nat → Int32) (pa rn : Nat) (rd : Nat → Int32) (y : Int32) (hno : ¬ (inP y.toInt64 0 600 ∧ ¬ (n 6).toInt32 = y)) : Met l yX10_set wsX10_set (zRm 2 44) (va_Pc [.ref m0, .int 1, .int y] (zR g ct [zO m0 9 [.ref m1, .ref m2, .ref m3, .ref m4, .ref m5, .ref m6, .ref m7, .int (nI kp), .int fl, .int (nI tn), .ref m8, .int (nI pa), .int (nI rn), .ref m9], zL ct m1 108 n, zL ct m2 540 hy, zL ct m3 108 sl, zL ct m4 108 sp, zD ct m5 33 re, zD ct m6 165 rh, zD ct m7 33 rs, zC ct m8 60 tx, zI ct m9 17 rd])) (vp_Si (fun r => r = if inP y.toInt64 0 600 then -5 else -2)) 0 0 (fun _ => False) := by
  refine z_read (cc := cX10_set) (maxL := 3) (ret := some .int) (by decide) rfl (Nat.le_of_ble_eq_true rfl) ?_
  intro p e s m below meth c ls hx hb hr hml hts hown hlocks hP hK hl
  have hown : s.vm.findClass RX10 = some m.cls := hown
  have hl : lv_has ls 3 [(0, .ref m0), (1, .int 1), (2, .int y)] := hl
  refine lv_iload_n hx hb dX10_set_0 rfl (lv_at hl 1 rfl) ?_
  refine lv_i2l (v := lN 1) hx hb dX10_set_1 (show (1 : Int32).toInt64 = lN 1 from by decide) ?_
  refine lv_lconst (v := 0) hx hb dX10_set_2 (by decide) ?_
  refine lv_lconst (v := 1) hx hb dX10_set_3 (by decide) ?_
  refine z_cSi (As := [.long (lN 1), .long 0, .long 1]) (rest := []) ⟨hx, hb, hml, hown, hts⟩ (c_X10_in l (lN 1) 0 1) (va_cwS 3 hts gX10_set_X10_in rfl rfl rfl (by decide +kernel) ⟨Nat.le_of_ble_eq_true rfl, Nat.le_of_ble_eq_true rfl⟩) rfl hl.1 rfl (Nat.le_of_ble_eq_true rfl) dX10_set_4 ⟨Nat.zero_le _, Nat.zero_le _⟩ ?_
  refine z_bif_eq (P := (inP (lN 1) 0 1)) (tgt := 43) hx hb dX10_set_7 (by decide) (fun c_1 => ?_) (fun c_1 => ?_)
  · exact absurd (show inP (lN 1) 0 1 from (by decide)) c_1
  · refine lv_iload_n hx hb dX10_set_10 rfl (lv_at hl 1 rfl) ?_
    refine lv_if_ne (tgt := 31) hx hb dX10_set_11 (by decide) (fun _ => ?_) (fun h => absurd h (by decide))
    refine lv_iload_n hx hb dX10_set_31 rfl (lv_at hl 2 rfl) ?_
    refine lv_i2l (v := y.toInt64) hx hb dX10_set_32 rfl ?_
    refine lv_lconst (v := 0) hx hb dX10_set_33 (by decide) ?_
    refine lv_ldc2 (v := 600) hx hb hown (hts (.constantLong RX10 114 (600)) (List.mem_of_getElem? (i := 3) rfl)) dX10_set_34 ?_
    refine z_cSi (As := [.long y.toInt64, .long 0, .long 600]) (rest := []) ⟨hx, hb, hml, hown, hts⟩ (c_X10_in l y.toInt64 0 600) (va_cwS 3 hts gX10_set_X10_in rfl rfl rfl (by decide +kernel) ⟨Nat.le_of_ble_eq_true rfl, Nat.le_of_ble_eq_true rfl⟩) rfl hl.1 rfl (Nat.le_of_ble_eq_true rfl) dX10_set_37 ⟨Nat.zero_le _, Nat.zero_le _⟩ ?_
    refine z_bif_ne (P := (inP y.toInt64 0 600)) (tgt := 46) hx hb dX10_set_40 (by decide) (fun c_2 => ?_) (fun c_2 => ?_)
    · refine lv_aload_n hx hb dX10_set_46 rfl (lv_at hl 0 rfl) ?_
      refine lv_iload_n hx hb dX10_set_47 rfl (lv_at hl 1 rfl) ?_
      refine lv_if_ne (tgt := 55) hx hb dX10_set_48 (by decide) (fun _ => ?_) (fun h => absurd h (by decide))
      refine lv_bipush (v := 6) hx hb dX10_set_55 (by decide) ?_
      refine lv_iload_n hx hb dX10_set_57 rfl (lv_at hl 2 rfl) ?_
      refine z_cVi (wc := [zO m0 9 [.ref m1, .ref m2, .ref m3, .ref m4, .ref m5, .ref m6, .ref m7, .int (nI kp), .int fl, .int (nI tn), .ref m8, .int (nI pa), .int (nI rn), .ref m9], zL ct m1 108 n, zL ct m2 540 hy, zL ct m3 108 sl, zL ct m4 108 sp, zD ct m5 33 re, zD ct m6 165 rh, zD ct m7 33 rs, zC ct m8 60 tx, zI ct m9 17 rd]) (As := [.int 6, .int y]) (rest := []) ⟨hx, hb, hml, hown, hts⟩ hK hP [0, 1, 2, 3, 4, 5, 6, 7, 8, 9] rfl (c_X10_sets_a l g ct m0 m1 m2 m3 m4 m5 m6 m7 m8 m9 n hy sl sp re rh rs kp fl tn tx pa rn rd 6 (by omega) y (fun q => hno ⟨c_2, q⟩)) (cwV 2 hts gX10_set_X10_sets rfl rfl rfl (by decide +kernel) ⟨Nat.le_of_ble_eq_true rfl, Nat.le_of_ble_eq_true rfl⟩) 0 rfl rfl rfl hl.1 rfl (Nat.le_of_ble_eq_true rfl) dX10_set_58 ⟨Nat.zero_le _, Nat.zero_le _⟩ ?_
      exact z_iretR hx hb hr hlocks rfl (by simp [c_2]) dX10_set_61
    · refine lv_bipush (v := (-2)) hx hb dX10_set_43 (by decide) ?_
      exact z_iretR hx hb hr hlocks rfl (by simp [c_2]) dX10_set_45

set_option maxHeartbeats 4000000 in
set_option maxRecDepth 100000 in
theorem c_X10_set_b1 (l : Launch) (g : va_G) (ct : Nat → ClassId) (sz : Nat) (m0 m1 m2 m3 m4 m5 m6 m7 m8 m9 : Nat) (n hy sl sp : Nat → Int64) (re rh rs : Nat → UInt64) (kp : Nat) (fl : Int32) (tn : Nat) (tx : Nat → Int32) (pa rn : Nat) (rd : Nat → Int32) (hkp : kp ≤ 5) (y : Int32) (hact : inP y.toInt64 0 600 ∧ ¬ (n 6).toInt32 = y) : Met l yX10_set wsX10_set (zRm 2 44) (va_Pc [.ref m0, .int 1, .int y] (zW g ct [zO m0 9 [.ref m1, .ref m2, .ref m3, .ref m4, .ref m5, .ref m6, .ref m7, .int (nI kp), .int fl, .int (nI tn), .ref m8, .int (nI pa), .int (nI rn), .ref m9], zL ct m1 108 n, zL ct m2 540 hy, zL ct m3 108 sl, zL ct m4 108 sp, zD ct m5 33 re, zD ct m6 165 rh, zD ct m7 33 rs, zC ct m8 60 tx, zI ct m9 17 rd] sz)) (zQi g [zO m0 9 [.ref m1, .ref m2, .ref m3, .ref m4, .ref m5, .ref m6, .ref m7, .int (nI (mkp kp)), .int fl, .int (nI tn), .ref m8, .int (nI pa), .int (nI rn), .ref m9], zL ct m1 108 (vp_updL n 6 y.toInt64), zL ct m2 540 (mhy hy n kp), zL ct m3 108 sl, zL ct m4 108 sp, zD ct m5 33 re, zD ct m6 165 (mrh rh re kp), zD ct m7 33 rs, zC ct m8 60 tx, zI ct m9 17 rd] ((n 6).toInt32) (va_A [zO m0 9 [.ref m1, .ref m2, .ref m3, .ref m4, .ref m5, .ref m6, .ref m7, .int (nI kp), .int fl, .int (nI tn), .ref m8, .int (nI pa), .int (nI rn), .ref m9], zL ct m1 108 n, zL ct m2 540 hy, zL ct m3 108 sl, zL ct m4 108 sp, zD ct m5 33 re, zD ct m6 165 rh, zD ct m7 33 rs, zC ct m8 60 tx, zI ct m9 17 rd] sz)) 0 0 (va_A [zO m0 9 [.ref m1, .ref m2, .ref m3, .ref m4, .ref m5, .ref m6, .ref m7, .int (nI kp), .int fl, .int (nI tn), .ref m8, .int (nI pa), .int (nI rn), .ref m9], zL ct m1 108 n, zL ct m2 540 hy, zL ct m3 108 sl, zL ct m4 108 sp, zD ct m5 33 re, zD ct m6 165 rh, zD ct m7 33 rs, zC ct m8 60 tx, zI ct m9 17 rd] sz) := by
  refine z_write (QA := zQi g [zO m0 9 [.ref m1, .ref m2, .ref m3, .ref m4, .ref m5, .ref m6, .ref m7, .int (nI (mkp kp)), .int fl, .int (nI tn), .ref m8, .int (nI pa), .int (nI rn), .ref m9], zL ct m1 108 (vp_updL n 6 y.toInt64), zL ct m2 540 (mhy hy n kp), zL ct m3 108 sl, zL ct m4 108 sp, zD ct m5 33 re, zD ct m6 165 (mrh rh re kp), zD ct m7 33 rs, zC ct m8 60 tx, zI ct m9 17 rd] ((n 6).toInt32)) (cc := cX10_set) (maxL := 3) (ret := some .int) (by decide) rfl (Nat.le_of_ble_eq_true rfl) ?_
  intro p e s m below meth c ls A hx hb hr hml hts hown hlocks hin hP hK hD hNW hA hS hl
  have hown : s.vm.findClass RX10 = some m.cls := hown
  have hl : lv_has ls 3 [(0, .ref m0), (1, .int 1), (2, .int y)] := hl
  refine lv_iload_n hx hb dX10_set_0 rfl (lv_at hl 1 rfl) ?_
  refine lv_i2l (v := lN 1) hx hb dX10_set_1 (show (1 : Int32).toInt64 = lN 1 from by decide) ?_
  refine lv_lconst (v := 0) hx hb dX10_set_2 (by decide) ?_
  refine lv_lconst (v := 1) hx hb dX10_set_3 (by decide) ?_
  refine z_cSi (As := [.long (lN 1), .long 0, .long 1]) (rest := []) ⟨hx, hb, hml, hown, hts⟩ (c_X10_in l (lN 1) 0 1) (va_cwS 3 hts gX10_set_X10_in rfl rfl rfl (by decide +kernel) ⟨Nat.le_of_ble_eq_true rfl, Nat.le_of_ble_eq_true rfl⟩) rfl hl.1 rfl (Nat.le_of_ble_eq_true rfl) dX10_set_4 ⟨Nat.zero_le _, Nat.zero_le _⟩ ?_
  refine z_bif_eq (P := (inP (lN 1) 0 1)) (tgt := 43) hx hb dX10_set_7 (by decide) (fun c_1 => ?_) (fun c_1 => ?_)
  · exact absurd (show inP (lN 1) 0 1 from (by decide)) c_1
  · refine lv_iload_n hx hb dX10_set_10 rfl (lv_at hl 1 rfl) ?_
    refine lv_if_ne (tgt := 31) hx hb dX10_set_11 (by decide) (fun _ => ?_) (fun h => absurd h (by decide))
    refine lv_iload_n hx hb dX10_set_31 rfl (lv_at hl 2 rfl) ?_
    refine lv_i2l (v := y.toInt64) hx hb dX10_set_32 rfl ?_
    refine lv_lconst (v := 0) hx hb dX10_set_33 (by decide) ?_
    refine lv_ldc2 (v := 600) hx hb hown (hts (.constantLong RX10 114 (600)) (List.mem_of_getElem? (i := 3) rfl)) dX10_set_34 ?_
    refine z_cSi (As := [.long y.toInt64, .long 0, .long 600]) (rest := []) ⟨hx, hb, hml, hown, hts⟩ (c_X10_in l y.toInt64 0 600) (va_cwS 3 hts gX10_set_X10_in rfl rfl rfl (by decide +kernel) ⟨Nat.le_of_ble_eq_true rfl, Nat.le_of_ble_eq_true rfl⟩) rfl hl.1 rfl (Nat.le_of_ble_eq_true rfl) dX10_set_37 ⟨Nat.zero_le _, Nat.zero_le _⟩ ?_
    refine z_bif_ne (P := (inP y.toInt64 0 600)) (tgt := 46) hx hb dX10_set_40 (by decide) (fun c_2 => ?_) (fun c_2 => ?_)
    · refine lv_aload_n hx hb dX10_set_46 rfl (lv_at hl 0 rfl) ?_
      refine lv_iload_n hx hb dX10_set_47 rfl (lv_at hl 1 rfl) ?_
      refine lv_if_ne (tgt := 55) hx hb dX10_set_48 (by decide) (fun _ => ?_) (fun h => absurd h (by decide))
      refine lv_bipush (v := 6) hx hb dX10_set_55 (by decide) ?_
      refine lv_iload_n hx hb dX10_set_57 rfl (lv_at hl 2 rfl) ?_
      refine z_wVi (wc := [zO m0 9 [.ref m1, .ref m2, .ref m3, .ref m4, .ref m5, .ref m6, .ref m7, .int (nI kp), .int fl, .int (nI tn), .ref m8, .int (nI pa), .int (nI rn), .ref m9], zL ct m1 108 n, zL ct m2 540 hy, zL ct m3 108 sl, zL ct m4 108 sp, zD ct m5 33 re, zD ct m6 165 rh, zD ct m7 33 rs, zC ct m8 60 tx, zI ct m9 17 rd]) (wr := []) (w2 := [zO m0 9 [.ref m1, .ref m2, .ref m3, .ref m4, .ref m5, .ref m6, .ref m7, .int (nI (mkp kp)), .int fl, .int (nI tn), .ref m8, .int (nI pa), .int (nI rn), .ref m9], zL ct m1 108 (vp_updL n 6 y.toInt64), zL ct m2 540 (mhy hy n kp), zL ct m3 108 sl, zL ct m4 108 sp, zD ct m5 33 re, zD ct m6 165 (mrh rh re kp), zD ct m7 33 rs, zC ct m8 60 tx, zI ct m9 17 rd]) (As := [.int 6, .int y]) (rest := []) ⟨hx, hb, hml, hown, hts⟩ hK hP hD hS hNW hA [0, 1, 2, 3, 4, 5, 6, 7, 8, 9] [] [0, 1, 2, 3, 4, 5, 6, 7, 8, 9] rfl rfl rfl rfl rfl rfl (by decide) (c_X10_sets_b l g ct _ m0 m1 m2 m3 m4 m5 m6 m7 m8 m9 n hy sl sp re rh rs kp fl tn tx pa rn rd (by omega) 6 (by omega) y hact.2) (cwV 2 hts gX10_set_X10_sets rfl rfl rfl (by decide +kernel) ⟨Nat.le_of_ble_eq_true rfl, Nat.le_of_ble_eq_true rfl⟩) 0 rfl rfl rfl hl.1 rfl (Nat.le_of_ble_eq_true rfl) dX10_set_58 ⟨Nat.zero_le _, Nat.zero_le _⟩ (fun H locs hP hD hS => ?_)
      exact z_iretW hx hb hr hlocks hS hP hD rfl rfl (Nat.le_refl _) (Nat.le_refl _) dX10_set_61
    · exact absurd hact.1 c_2

set_option maxHeartbeats 4000000 in
set_option maxRecDepth 100000 in
theorem c_X10_setsLevel_a (l : Launch) (g : va_G) (ct : Nat → ClassId) (m0 m1 m2 m3 m4 m5 m6 m7 m8 m9 : Nat) (n hy sl sp : Nat → Int64) (re rh rs : Nat → UInt64) (kp : Nat) (fl : Int32) (tn : Nat) (tx : Nat → Int32) (pa rn : Nat) (rd : Nat → Int32) (w : Nat) (hw : w < 33) (y : Int64) (hno : ¬ (isLvP y 13840687554816376832 4621819117588971520 ∧ ¬ Op.cmpValue (FP.dcmp (re w) y.toUInt64) CmpOp.l = 0)) : Met l yX10_setsLevel wsX10_setsLevel (zRm 2 52) (va_Pc [.ref m0, .int (nI w), .long y] (zR g ct [zO m0 9 [.ref m1, .ref m2, .ref m3, .ref m4, .ref m5, .ref m6, .ref m7, .int (nI kp), .int fl, .int (nI tn), .ref m8, .int (nI pa), .int (nI rn), .ref m9], zL ct m1 108 n, zL ct m2 540 hy, zL ct m3 108 sl, zL ct m4 108 sp, zD ct m5 33 re, zD ct m6 165 rh, zD ct m7 33 rs, zC ct m8 60 tx, zI ct m9 17 rd])) (vp_Si (fun r => r = if isLvP y 13840687554816376832 4621819117588971520 then -5 else -2)) 0 0 (fun _ => False) := by
  refine z_read (cc := cX10_setsLevel) (maxL := 6) (ret := some .int) (by decide) rfl (Nat.le_of_ble_eq_true rfl) ?_
  intro p e s m below meth c ls hx hb hr hml hts hown hlocks hP hK hl
  have hown : s.vm.findClass RX10 = some m.cls := hown
  have hl : lv_has ls 6 [(0, .ref m0), (1, .int (nI w)), (2, .long y)] := hl
  have hi_wsX100 : ∀ w ∈ wsX100, w ∈ wsX10_setsLevel := fun w h => List.mem_cons_of_mem _ (List.mem_append_right _ h)
  refine lv_lload_n hx hb dX10_setsLevel_0 rfl (lv_at hl 2 rfl) ?_
  refine lv_ldc2d (v := 13840687554816376832) hx hb hown (hts (.constantDouble RX10 116 (13840687554816376832)) (List.mem_of_getElem? (i := 1) rfl)) dX10_setsLevel_1 ?_
  refine lv_ldc2d (v := 4621819117588971520) hx hb hown (hts (.constantDouble RX10 70 (4621819117588971520)) (List.mem_of_getElem? (i := 2) rfl)) dX10_setsLevel_4 ?_
  refine z_cSi (As := [.long y, .double 13840687554816376832, .double 4621819117588971520]) (rest := []) ⟨hx, hb, hml, hown, hts⟩ (c_X10_isLevel l y 13840687554816376832 4621819117588971520) (va_cwS 3 hts gX10_setsLevel_X10_isLevel rfl rfl rfl (by decide +kernel) ⟨Nat.le_of_ble_eq_true rfl, Nat.le_of_ble_eq_true rfl⟩) rfl hl.1 rfl (Nat.le_of_ble_eq_true rfl) dX10_setsLevel_7 ⟨Nat.zero_le _, Nat.zero_le _⟩ ?_
  refine z_bif_ne (P := (isLvP y 13840687554816376832 4621819117588971520)) (tgt := 16) hx hb dX10_setsLevel_10 (by decide) (fun c_1 => ?_) (fun c_1 => ?_)
  · refine lv_lload_n hx hb dX10_setsLevel_16 rfl (lv_at hl 2 rfl) ?_
    refine vn_l2d hx hb (hml.trans hl.1.symm) hown (hts (.methodLink RX10 62 ⟨"java/lang/Double", "longBitsToDouble", "(J)D"⟩) (List.mem_of_getElem? (i := 3) rfl)) (hts (.native ⟨"java/lang/Double", "longBitsToDouble", "(J)D"⟩) (List.mem_of_getElem? (i := 4) rfl)) (hts (.static ⟨"java/lang/Double", "longBitsToDouble", "(J)D"⟩) (List.mem_of_getElem? (i := 5) rfl)) (hts (.initialized "java/lang/Double") (List.mem_of_getElem? (i := 6) rfl)) (z_snl c_1.1) (Nat.le_of_ble_eq_true rfl) (Nat.le_of_ble_eq_true rfl) dX10_setsLevel_17 ?_
    refine lv_dstore (lv' := [(4, .double y.toUInt64), (0, .ref m0), (1, .int (nI w)), (2, .long y)]) hx hb dX10_setsLevel_20 hl (by decide) rfl (fun ls hl => ?_)
    refine lv_aload_n hx hb dX10_setsLevel_22 rfl (lv_at hl 1 rfl) ?_
    refine va_get (D := g) (ci := 9) (v := .ref m5) (C := RX10) (T := TX10) (N := 14) hx hb hts hi_wsX100 hown hK hP 0 rfl rfl 4 (by decide) (hts (.fieldLink RX10 22 "FloodBarrierModel" "real" "[D") (List.mem_of_getElem? (i := 7) rfl)) (fun _ h9 => h9) rfl dX10_setsLevel_23 ?_
    refine lv_iload_n hx hb dX10_setsLevel_26 rfl (lv_at hl 2 rfl) ?_
    refine z_dald (ct := ct) (f := re) (k := w) hx hb hK hP 5 rfl (by omega) (by decide) dX10_setsLevel_27 ?_
    refine lv_dload hx hb dX10_setsLevel_28 (lv_at hl 0 rfl) ?_
    refine lv_dcmp hx hb dX10_setsLevel_30 ?_
    refine lv_if_ne (tgt := 37) hx hb dX10_setsLevel_31 (by decide) (fun c_2 => ?_) (fun c_2 => ?_)
    · refine lv_aload_n hx hb dX10_setsLevel_37 rfl (lv_at hl 1 rfl) ?_
      exact absurd ⟨c_1, c_2⟩ hno
    · refine lv_bipush (v := (-5)) hx hb dX10_setsLevel_34 (by decide) ?_
      exact z_iretR hx hb hr hlocks rfl (by simp [c_1, c_2]) dX10_setsLevel_36
  · refine lv_bipush (v := (-2)) hx hb dX10_setsLevel_13 (by decide) ?_
    exact z_iretR hx hb hr hlocks rfl (by simp [c_1]) dX10_setsLevel_15

set_option maxHeartbeats 4000000 in
set_option maxRecDepth 100000 in
theorem c_X10_setsLevel_b (l : Launch) (g : va_G) (ct : Nat → ClassId) (sz : Nat) (m0 m1 m2 m3 m4 m5 m6 m7 m8 m9 : Nat) (n hy sl sp : Nat → Int64) (re rh rs : Nat → UInt64) (kp : Nat) (fl : Int32) (tn : Nat) (tx : Nat → Int32) (pa rn : Nat) (rd : Nat → Int32) (hkp : kp ≤ 5) (w : Nat) (hw : w < 33) (y : Int64) (hact : isLvP y 13840687554816376832 4621819117588971520 ∧ ¬ Op.cmpValue (FP.dcmp (re w) y.toUInt64) CmpOp.l = 0) : Met l yX10_setsLevel wsX10_setsLevel (zRm 2 52) (va_Pc [.ref m0, .int (nI w), .long y] (zW g ct [zO m0 9 [.ref m1, .ref m2, .ref m3, .ref m4, .ref m5, .ref m6, .ref m7, .int (nI kp), .int fl, .int (nI tn), .ref m8, .int (nI pa), .int (nI rn), .ref m9], zL ct m1 108 n, zL ct m2 540 hy, zL ct m3 108 sl, zL ct m4 108 sp, zD ct m5 33 re, zD ct m6 165 rh, zD ct m7 33 rs, zC ct m8 60 tx, zI ct m9 17 rd] sz)) (zQi g [zO m0 9 [.ref m1, .ref m2, .ref m3, .ref m4, .ref m5, .ref m6, .ref m7, .int (nI (mkp kp)), .int fl, .int (nI tn), .ref m8, .int (nI pa), .int (nI rn), .ref m9], zL ct m1 108 n, zL ct m2 540 (mhy hy n kp), zL ct m3 108 sl, zL ct m4 108 sp, zD ct m5 33 (vf_upd re w y.toUInt64), zD ct m6 165 (mrh rh re kp), zD ct m7 33 rs, zC ct m8 60 tx, zI ct m9 17 rd] 1 (va_A [zO m0 9 [.ref m1, .ref m2, .ref m3, .ref m4, .ref m5, .ref m6, .ref m7, .int (nI kp), .int fl, .int (nI tn), .ref m8, .int (nI pa), .int (nI rn), .ref m9], zL ct m1 108 n, zL ct m2 540 hy, zL ct m3 108 sl, zL ct m4 108 sp, zD ct m5 33 re, zD ct m6 165 rh, zD ct m7 33 rs, zC ct m8 60 tx, zI ct m9 17 rd] sz)) 0 0 (va_A [zO m0 9 [.ref m1, .ref m2, .ref m3, .ref m4, .ref m5, .ref m6, .ref m7, .int (nI kp), .int fl, .int (nI tn), .ref m8, .int (nI pa), .int (nI rn), .ref m9], zL ct m1 108 n, zL ct m2 540 hy, zL ct m3 108 sl, zL ct m4 108 sp, zD ct m5 33 re, zD ct m6 165 rh, zD ct m7 33 rs, zC ct m8 60 tx, zI ct m9 17 rd] sz) := by
  refine z_write (QA := zQi g [zO m0 9 [.ref m1, .ref m2, .ref m3, .ref m4, .ref m5, .ref m6, .ref m7, .int (nI (mkp kp)), .int fl, .int (nI tn), .ref m8, .int (nI pa), .int (nI rn), .ref m9], zL ct m1 108 n, zL ct m2 540 (mhy hy n kp), zL ct m3 108 sl, zL ct m4 108 sp, zD ct m5 33 (vf_upd re w y.toUInt64), zD ct m6 165 (mrh rh re kp), zD ct m7 33 rs, zC ct m8 60 tx, zI ct m9 17 rd] 1) (cc := cX10_setsLevel) (maxL := 6) (ret := some .int) (by decide) rfl (Nat.le_of_ble_eq_true rfl) ?_
  intro p e s m below meth c ls A hx hb hr hml hts hown hlocks hin hP hK hD hNW hA hS hl
  have hown : s.vm.findClass RX10 = some m.cls := hown
  have hl : lv_has ls 6 [(0, .ref m0), (1, .int (nI w)), (2, .long y)] := hl
  have hi_wsX100 : ∀ w ∈ wsX100, w ∈ wsX10_setsLevel := fun w h => List.mem_cons_of_mem _ (List.mem_append_right _ h)
  refine lv_lload_n hx hb dX10_setsLevel_0 rfl (lv_at hl 2 rfl) ?_
  refine lv_ldc2d (v := 13840687554816376832) hx hb hown (hts (.constantDouble RX10 116 (13840687554816376832)) (List.mem_of_getElem? (i := 1) rfl)) dX10_setsLevel_1 ?_
  refine lv_ldc2d (v := 4621819117588971520) hx hb hown (hts (.constantDouble RX10 70 (4621819117588971520)) (List.mem_of_getElem? (i := 2) rfl)) dX10_setsLevel_4 ?_
  refine z_cSi (As := [.long y, .double 13840687554816376832, .double 4621819117588971520]) (rest := []) ⟨hx, hb, hml, hown, hts⟩ (c_X10_isLevel l y 13840687554816376832 4621819117588971520) (va_cwS 3 hts gX10_setsLevel_X10_isLevel rfl rfl rfl (by decide +kernel) ⟨Nat.le_of_ble_eq_true rfl, Nat.le_of_ble_eq_true rfl⟩) rfl hl.1 rfl (Nat.le_of_ble_eq_true rfl) dX10_setsLevel_7 ⟨Nat.zero_le _, Nat.zero_le _⟩ ?_
  refine z_bif_ne (P := (isLvP y 13840687554816376832 4621819117588971520)) (tgt := 16) hx hb dX10_setsLevel_10 (by decide) (fun c_1 => ?_) (fun c_1 => ?_)
  · refine lv_lload_n hx hb dX10_setsLevel_16 rfl (lv_at hl 2 rfl) ?_
    refine vn_l2d hx hb (hml.trans hl.1.symm) hown (hts (.methodLink RX10 62 ⟨"java/lang/Double", "longBitsToDouble", "(J)D"⟩) (List.mem_of_getElem? (i := 3) rfl)) (hts (.native ⟨"java/lang/Double", "longBitsToDouble", "(J)D"⟩) (List.mem_of_getElem? (i := 4) rfl)) (hts (.static ⟨"java/lang/Double", "longBitsToDouble", "(J)D"⟩) (List.mem_of_getElem? (i := 5) rfl)) (hts (.initialized "java/lang/Double") (List.mem_of_getElem? (i := 6) rfl)) (z_snl hact.1.1) (Nat.le_of_ble_eq_true rfl) (Nat.le_of_ble_eq_true rfl) dX10_setsLevel_17 ?_
    refine lv_dstore (lv' := [(4, .double y.toUInt64), (0, .ref m0), (1, .int (nI w)), (2, .long y)]) hx hb dX10_setsLevel_20 hl (by decide) rfl (fun ls hl => ?_)
    refine lv_aload_n hx hb dX10_setsLevel_22 rfl (lv_at hl 1 rfl) ?_
    refine va_get (D := g) (ci := 9) (v := .ref m5) (C := RX10) (T := TX10) (N := 14) hx hb hts hi_wsX100 hown hK hP 0 rfl rfl 4 (by decide) (hts (.fieldLink RX10 22 "FloodBarrierModel" "real" "[D") (List.mem_of_getElem? (i := 7) rfl)) (fun _ h9 => h9) rfl dX10_setsLevel_23 ?_
    refine lv_iload_n hx hb dX10_setsLevel_26 rfl (lv_at hl 2 rfl) ?_
    refine z_dald (ct := ct) (f := re) (k := w) hx hb hK hP 5 rfl (by omega) (by decide) dX10_setsLevel_27 ?_
    refine lv_dload hx hb dX10_setsLevel_28 (lv_at hl 0 rfl) ?_
    refine lv_dcmp hx hb dX10_setsLevel_30 ?_
    refine lv_if_ne (tgt := 37) hx hb dX10_setsLevel_31 (by decide) (fun c_2 => ?_) (fun c_2 => ?_)
    · refine lv_aload_n hx hb dX10_setsLevel_37 rfl (lv_at hl 1 rfl) ?_
      refine z_wVv (wc := [zO m0 9 [.ref m1, .ref m2, .ref m3, .ref m4, .ref m5, .ref m6, .ref m7, .int (nI kp), .int fl, .int (nI tn), .ref m8, .int (nI pa), .int (nI rn), .ref m9], zL ct m1 108 n, zL ct m2 540 hy, zL ct m3 108 sl, zL ct m4 108 sp, zD ct m5 33 re, zD ct m6 165 rh, zD ct m7 33 rs, zC ct m8 60 tx, zI ct m9 17 rd]) (wr := []) (w2 := [zO m0 9 [.ref m1, .ref m2, .ref m3, .ref m4, .ref m5, .ref m6, .ref m7, .int (nI (mkp kp)), .int fl, .int (nI tn), .ref m8, .int (nI pa), .int (nI rn), .ref m9], zL ct m1 108 n, zL ct m2 540 (mhy hy n kp), zL ct m3 108 sl, zL ct m4 108 sp, zD ct m5 33 re, zD ct m6 165 (mrh rh re kp), zD ct m7 33 rs, zC ct m8 60 tx, zI ct m9 17 rd]) (As := []) (rest := []) ⟨hx, hb, hml, hown, hts⟩ hK hP hD hS hNW hA [0, 1, 2, 3, 4, 5, 6, 7, 8, 9] [] [0, 1, 2, 3, 4, 5, 6, 7, 8, 9] rfl rfl rfl rfl rfl rfl (by decide) (c_X10_record l g ct _ m0 m1 m2 m3 m4 m5 m6 m7 m8 m9 n hy sl sp re rh rs kp fl tn tx pa rn rd (by omega)) (cwV 0 hts gX10_setsLevel_X10_record rfl rfl rfl (by decide +kernel) ⟨Nat.le_of_ble_eq_true rfl, Nat.le_of_ble_eq_true rfl⟩) 0 rfl rfl rfl hl.1 rfl (Nat.le_of_ble_eq_true rfl) dX10_setsLevel_38 ⟨Nat.zero_le _, Nat.zero_le _⟩ (fun H locs hP hD hS => ?_)
      refine lv_aload_n hx hb dX10_setsLevel_41 rfl (lv_at hl 1 rfl) ?_
      refine va_get (D := g) (ci := 9) (v := .ref m5) (C := RX10) (T := TX10) (N := 14) hx hb hts hi_wsX100 hown hK hP 0 rfl rfl 4 (by decide) (hts (.fieldLink RX10 22 "FloodBarrierModel" "real" "[D") (List.mem_of_getElem? (i := 7) rfl)) (fun _ h9 => h9) rfl dX10_setsLevel_42 ?_
      refine lv_iload_n hx hb dX10_setsLevel_45 rfl (lv_at hl 2 rfl) ?_
      refine lv_dload hx hb dX10_setsLevel_46 (lv_at hl 0 rfl) ?_
      refine z_dast (ct := ct) (f := re) (k := w) (x := y.toUInt64) hx hb hK hP hD hS 5 rfl (by omega) (by decide) dX10_setsLevel_48 (fun H locs hP hD hS => ?_)
      have hP : va_P g vwCl [zO m0 9 [.ref m1, .ref m2, .ref m3, .ref m4, .ref m5, .ref m6, .ref m7, .int (nI (mkp kp)), .int fl, .int (nI tn), .ref m8, .int (nI pa), .int (nI rn), .ref m9], zL ct m1 108 n, zL ct m2 540 (mhy hy n kp), zL ct m3 108 sl, zL ct m4 108 sp, zD ct m5 33 (vf_upd re w y.toUInt64), zD ct m6 165 (mrh rh re kp), zD ct m7 33 rs, zC ct m8 60 tx, zI ct m9 17 rd] H := hP
      have hD : va_D A [zO m0 9 [.ref m1, .ref m2, .ref m3, .ref m4, .ref m5, .ref m6, .ref m7, .int (nI (mkp kp)), .int fl, .int (nI tn), .ref m8, .int (nI pa), .int (nI rn), .ref m9], zL ct m1 108 n, zL ct m2 540 (mhy hy n kp), zL ct m3 108 sl, zL ct m4 108 sp, zD ct m5 33 (vf_upd re w y.toUInt64), zD ct m6 165 (mrh rh re kp), zD ct m7 33 rs, zC ct m8 60 tx, zI ct m9 17 rd] := hD
      refine lv_iconst (v := 1) hx hb dX10_setsLevel_49 (by decide) ?_
      exact z_iretW hx hb hr hlocks hS hP hD rfl rfl (Nat.le_refl _) (Nat.le_refl _) dX10_setsLevel_50
    · exact absurd c_2 hact.2
  · exact absurd hact.1 c_1

set_option maxHeartbeats 4000000 in
set_option maxRecDepth 100000 in
theorem c_X10_setAlarm_a (l : Launch) (g : va_G) (ct : Nat → ClassId) (m0 m1 m2 m3 m4 m5 m6 m7 m8 m9 : Nat) (n hy sl sp : Nat → Int64) (re rh rs : Nat → UInt64) (kp : Nat) (fl : Int32) (tn : Nat) (tx : Nat → Int32) (pa rn : Nat) (rd : Nat → Int32) (y : Int64) (hno : ¬ (isLvP y 13840687554816376832 4621819117588971520 ∧ ¬ Op.cmpValue (FP.dcmp (re 0) y.toUInt64) CmpOp.l = 0)) : Met l yX10_setAlarm wsX10_setAlarm (zRm 3 77) (va_Pc [.ref m0, .long y] (zR g ct [zO m0 9 [.ref m1, .ref m2, .ref m3, .ref m4, .ref m5, .ref m6, .ref m7, .int (nI kp), .int fl, .int (nI tn), .ref m8, .int (nI pa), .int (nI rn), .ref m9], zL ct m1 108 n, zL ct m2 540 hy, zL ct m3 108 sl, zL ct m4 108 sp, zD ct m5 33 re, zD ct m6 165 rh, zD ct m7 33 rs, zC ct m8 60 tx, zI ct m9 17 rd])) (vp_Si (fun r => r = if isLvP y 13840687554816376832 4621819117588971520 then -5 else -2)) 0 0 (fun _ => False) := by
  refine z_read (cc := cX10_setAlarm) (maxL := 3) (ret := some .int) (by decide) rfl (Nat.le_of_ble_eq_true rfl) ?_
  intro p e s m below meth c ls hx hb hr hml hts hown hlocks hP hK hl
  have hown : s.vm.findClass RX10 = some m.cls := hown
  have hl : lv_has ls 3 [(0, .ref m0), (1, .long y)] := hl
  refine lv_aload_n hx hb dX10_setAlarm_0 rfl (lv_at hl 0 rfl) ?_
  refine lv_iconst (v := 0) hx hb dX10_setAlarm_1 (by decide) ?_
  refine lv_lload_n hx hb dX10_setAlarm_2 rfl (lv_at hl 1 rfl) ?_
  refine z_cVi (wc := [zO m0 9 [.ref m1, .ref m2, .ref m3, .ref m4, .ref m5, .ref m6, .ref m7, .int (nI kp), .int fl, .int (nI tn), .ref m8, .int (nI pa), .int (nI rn), .ref m9], zL ct m1 108 n, zL ct m2 540 hy, zL ct m3 108 sl, zL ct m4 108 sp, zD ct m5 33 re, zD ct m6 165 rh, zD ct m7 33 rs, zC ct m8 60 tx, zI ct m9 17 rd]) (As := [.int 0, .long y]) (rest := []) ⟨hx, hb, hml, hown, hts⟩ hK hP [0, 1, 2, 3, 4, 5, 6, 7, 8, 9] rfl (c_X10_setsLevel_a l g ct m0 m1 m2 m3 m4 m5 m6 m7 m8 m9 n hy sl sp re rh rs kp fl tn tx pa rn rd 0 (by omega) y hno) (cwV 2 hts gX10_setAlarm_X10_setsLevel rfl rfl rfl (by decide +kernel) ⟨Nat.le_of_ble_eq_true rfl, Nat.le_of_ble_eq_true rfl⟩) 0 rfl rfl rfl hl.1 rfl (Nat.le_of_ble_eq_true rfl) dX10_setAlarm_3 ⟨Nat.zero_le _, Nat.zero_le _⟩ ?_
  exact z_iretR hx hb hr hlocks rfl rfl dX10_setAlarm_6

set_option maxHeartbeats 4000000 in
set_option maxRecDepth 100000 in
theorem c_X10_setAlarm_b (l : Launch) (g : va_G) (ct : Nat → ClassId) (sz : Nat) (m0 m1 m2 m3 m4 m5 m6 m7 m8 m9 : Nat) (n hy sl sp : Nat → Int64) (re rh rs : Nat → UInt64) (kp : Nat) (fl : Int32) (tn : Nat) (tx : Nat → Int32) (pa rn : Nat) (rd : Nat → Int32) (hkp : kp ≤ 5) (y : Int64) (hact : isLvP y 13840687554816376832 4621819117588971520 ∧ ¬ Op.cmpValue (FP.dcmp (re 0) y.toUInt64) CmpOp.l = 0) : Met l yX10_setAlarm wsX10_setAlarm (zRm 3 77) (va_Pc [.ref m0, .long y] (zW g ct [zO m0 9 [.ref m1, .ref m2, .ref m3, .ref m4, .ref m5, .ref m6, .ref m7, .int (nI kp), .int fl, .int (nI tn), .ref m8, .int (nI pa), .int (nI rn), .ref m9], zL ct m1 108 n, zL ct m2 540 hy, zL ct m3 108 sl, zL ct m4 108 sp, zD ct m5 33 re, zD ct m6 165 rh, zD ct m7 33 rs, zC ct m8 60 tx, zI ct m9 17 rd] sz)) (zQi g [zO m0 9 [.ref m1, .ref m2, .ref m3, .ref m4, .ref m5, .ref m6, .ref m7, .int (nI (mkp kp)), .int fl, .int (nI tn), .ref m8, .int (nI pa), .int (nI rn), .ref m9], zL ct m1 108 n, zL ct m2 540 (mhy hy n kp), zL ct m3 108 sl, zL ct m4 108 sp, zD ct m5 33 (vf_upd re 0 y.toUInt64), zD ct m6 165 (mrh rh re kp), zD ct m7 33 rs, zC ct m8 60 tx, zI ct m9 17 rd] 1 (va_A [zO m0 9 [.ref m1, .ref m2, .ref m3, .ref m4, .ref m5, .ref m6, .ref m7, .int (nI kp), .int fl, .int (nI tn), .ref m8, .int (nI pa), .int (nI rn), .ref m9], zL ct m1 108 n, zL ct m2 540 hy, zL ct m3 108 sl, zL ct m4 108 sp, zD ct m5 33 re, zD ct m6 165 rh, zD ct m7 33 rs, zC ct m8 60 tx, zI ct m9 17 rd] sz)) 0 0 (va_A [zO m0 9 [.ref m1, .ref m2, .ref m3, .ref m4, .ref m5, .ref m6, .ref m7, .int (nI kp), .int fl, .int (nI tn), .ref m8, .int (nI pa), .int (nI rn), .ref m9], zL ct m1 108 n, zL ct m2 540 hy, zL ct m3 108 sl, zL ct m4 108 sp, zD ct m5 33 re, zD ct m6 165 rh, zD ct m7 33 rs, zC ct m8 60 tx, zI ct m9 17 rd] sz) := by
  refine z_write (QA := zQi g [zO m0 9 [.ref m1, .ref m2, .ref m3, .ref m4, .ref m5, .ref m6, .ref m7, .int (nI (mkp kp)), .int fl, .int (nI tn), .ref m8, .int (nI pa), .int (nI rn), .ref m9], zL ct m1 108 n, zL ct m2 540 (mhy hy n kp), zL ct m3 108 sl, zL ct m4 108 sp, zD ct m5 33 (vf_upd re 0 y.toUInt64), zD ct m6 165 (mrh rh re kp), zD ct m7 33 rs, zC ct m8 60 tx, zI ct m9 17 rd] 1) (cc := cX10_setAlarm) (maxL := 3) (ret := some .int) (by decide) rfl (Nat.le_of_ble_eq_true rfl) ?_
  intro p e s m below meth c ls A hx hb hr hml hts hown hlocks hin hP hK hD hNW hA hS hl
  have hown : s.vm.findClass RX10 = some m.cls := hown
  have hl : lv_has ls 3 [(0, .ref m0), (1, .long y)] := hl
  refine lv_aload_n hx hb dX10_setAlarm_0 rfl (lv_at hl 0 rfl) ?_
  refine lv_iconst (v := 0) hx hb dX10_setAlarm_1 (by decide) ?_
  refine lv_lload_n hx hb dX10_setAlarm_2 rfl (lv_at hl 1 rfl) ?_
  refine z_wVi (wc := [zO m0 9 [.ref m1, .ref m2, .ref m3, .ref m4, .ref m5, .ref m6, .ref m7, .int (nI kp), .int fl, .int (nI tn), .ref m8, .int (nI pa), .int (nI rn), .ref m9], zL ct m1 108 n, zL ct m2 540 hy, zL ct m3 108 sl, zL ct m4 108 sp, zD ct m5 33 re, zD ct m6 165 rh, zD ct m7 33 rs, zC ct m8 60 tx, zI ct m9 17 rd]) (wr := []) (w2 := [zO m0 9 [.ref m1, .ref m2, .ref m3, .ref m4, .ref m5, .ref m6, .ref m7, .int (nI (mkp kp)), .int fl, .int (nI tn), .ref m8, .int (nI pa), .int (nI rn), .ref m9], zL ct m1 108 n, zL ct m2 540 (mhy hy n kp), zL ct m3 108 sl, zL ct m4 108 sp, zD ct m5 33 (vf_upd re 0 y.toUInt64), zD ct m6 165 (mrh rh re kp), zD ct m7 33 rs, zC ct m8 60 tx, zI ct m9 17 rd]) (As := [.int 0, .long y]) (rest := []) ⟨hx, hb, hml, hown, hts⟩ hK hP hD hS hNW hA [0, 1, 2, 3, 4, 5, 6, 7, 8, 9] [] [0, 1, 2, 3, 4, 5, 6, 7, 8, 9] rfl rfl rfl rfl rfl rfl (by decide) (c_X10_setsLevel_b l g ct _ m0 m1 m2 m3 m4 m5 m6 m7 m8 m9 n hy sl sp re rh rs kp fl tn tx pa rn rd (by omega) 0 (by omega) y hact) (cwV 2 hts gX10_setAlarm_X10_setsLevel rfl rfl rfl (by decide +kernel) ⟨Nat.le_of_ble_eq_true rfl, Nat.le_of_ble_eq_true rfl⟩) 0 rfl rfl rfl hl.1 rfl (Nat.le_of_ble_eq_true rfl) dX10_setAlarm_3 ⟨Nat.zero_le _, Nat.zero_le _⟩ (fun H locs hP hD hS => ?_)
  exact z_iretW hx hb hr hlocks hS hP hD rfl rfl (Nat.le_refl _) (Nat.le_refl _) dX10_setAlarm_6

set_option maxHeartbeats 4000000 in
set_option maxRecDepth 100000 in
theorem c_X10_setTide_u (l : Launch) (g : va_G) (ct : Nat → ClassId) (m0 m1 m2 m3 m4 m5 m6 m7 m8 m9 : Nat) (n hy sl sp : Nat → Int64) (re rh rs : Nat → UInt64) (kp : Nat) (fl : Int32) (tn : Nat) (tx : Nat → Int32) (pa rn : Nat) (rd : Nat → Int32) (x : Int32) (y : Int64) (hact : ¬ inP x.toInt64 0 23) : Met l yX10_setTide wsX10_setTide (zRm 1 25) (va_Pc [.ref m0, .int x, .long y] (zR g ct [zO m0 9 [.ref m1, .ref m2, .ref m3, .ref m4, .ref m5, .ref m6, .ref m7, .int (nI kp), .int fl, .int (nI tn), .ref m8, .int (nI pa), .int (nI rn), .ref m9], zL ct m1 108 n, zL ct m2 540 hy, zL ct m3 108 sl, zL ct m4 108 sp, zD ct m5 33 re, zD ct m6 165 rh, zD ct m7 33 rs, zC ct m8 60 tx, zI ct m9 17 rd])) (vp_Si (fun r => r = -2)) 0 0 (fun _ => False) := by
  refine z_read (cc := cX10_setTide) (maxL := 4) (ret := some .int) (by decide) rfl (Nat.le_of_ble_eq_true rfl) ?_
  intro p e s m below meth c ls hx hb hr hml hts hown hlocks hP hK hl
  have hown : s.vm.findClass RX10 = some m.cls := hown
  have hl : lv_has ls 4 [(0, .ref m0), (1, .int x), (2, .long y)] := hl
  refine lv_iload_n hx hb dX10_setTide_0 rfl (lv_at hl 1 rfl) ?_
  refine lv_i2l (v := x.toInt64) hx hb dX10_setTide_1 rfl ?_
  refine lv_lconst (v := 0) hx hb dX10_setTide_2 (by decide) ?_
  refine lv_ldc2 (v := 23) hx hb hown (hts (.constantLong RX10 122 (23)) (List.mem_of_getElem? (i := 1) rfl)) dX10_setTide_3 ?_
  refine z_cSi (As := [.long x.toInt64, .long 0, .long 23]) (rest := []) ⟨hx, hb, hml, hown, hts⟩ (c_X10_in l x.toInt64 0 23) (va_cwS 3 hts gX10_setTide_X10_in rfl rfl rfl (by decide +kernel) ⟨Nat.le_of_ble_eq_true rfl, Nat.le_of_ble_eq_true rfl⟩) rfl hl.1 rfl (Nat.le_of_ble_eq_true rfl) dX10_setTide_6 ⟨Nat.zero_le _, Nat.zero_le _⟩ ?_
  refine z_bif_eq (P := (inP x.toInt64 0 23)) (tgt := 23) hx hb dX10_setTide_9 (by decide) (fun c_1 => ?_) (fun c_1 => ?_)
  · refine lv_bipush (v := (-2)) hx hb dX10_setTide_23 (by decide) ?_
    exact z_iretR hx hb hr hlocks rfl rfl dX10_setTide_25
  · exact absurd c_1 hact

theorem inP_k {k : Nat} (hk : k < 24) : inP (lN k) 0 23 := ⟨fun q => Nat.not_lt_zero k ((lN_lt (b := 0) (by omega) (by decide)).mp q), fun q => absurd ((lN_lt (a := 23) (by decide) (by omega)).mp q) (by omega)⟩

set_option maxHeartbeats 4000000 in
set_option maxRecDepth 100000 in
theorem c_X10_setTide_a (l : Launch) (g : va_G) (ct : Nat → ClassId) (m0 m1 m2 m3 m4 m5 m6 m7 m8 m9 : Nat) (n hy sl sp : Nat → Int64) (re rh rs : Nat → UInt64) (kp : Nat) (fl : Int32) (tn : Nat) (tx : Nat → Int32) (pa rn : Nat) (rd : Nat → Int32) (k : Nat) (hk : k < 24) (y : Int64) (hno : ¬ (isLvP y 13840687554816376832 4621819117588971520 ∧ ¬ Op.cmpValue (FP.dcmp (re (1 + k)) y.toUInt64) CmpOp.l = 0)) : Met l yX10_setTide wsX10_setTide (zRm 3 77) (va_Pc [.ref m0, .int (nI k), .long y] (zR g ct [zO m0 9 [.ref m1, .ref m2, .ref m3, .ref m4, .ref m5, .ref m6, .ref m7, .int (nI kp), .int fl, .int (nI tn), .ref m8, .int (nI pa), .int (nI rn), .ref m9], zL ct m1 108 n, zL ct m2 540 hy, zL ct m3 108 sl, zL ct m4 108 sp, zD ct m5 33 re, zD ct m6 165 rh, zD ct m7 33 rs, zC ct m8 60 tx, zI ct m9 17 rd])) (vp_Si (fun r => r = if isLvP y 13840687554816376832 4621819117588971520 then -5 else -2)) 0 0 (fun _ => False) := by
  refine z_read (cc := cX10_setTide) (maxL := 4) (ret := some .int) (by decide) rfl (Nat.le_of_ble_eq_true rfl) ?_
  intro p e s m below meth c ls hx hb hr hml hts hown hlocks hP hK hl
  have hown : s.vm.findClass RX10 = some m.cls := hown
  have hl : lv_has ls 4 [(0, .ref m0), (1, .int (nI k)), (2, .long y)] := hl
  refine lv_iload_n hx hb dX10_setTide_0 rfl (lv_at hl 1 rfl) ?_
  refine lv_i2l (v := lN k) hx hb dX10_setTide_1 (nI_l (by omega)) ?_
  refine lv_lconst (v := 0) hx hb dX10_setTide_2 (by decide) ?_
  refine lv_ldc2 (v := 23) hx hb hown (hts (.constantLong RX10 122 (23)) (List.mem_of_getElem? (i := 1) rfl)) dX10_setTide_3 ?_
  refine z_cSi (As := [.long (lN k), .long 0, .long 23]) (rest := []) ⟨hx, hb, hml, hown, hts⟩ (c_X10_in l (lN k) 0 23) (va_cwS 3 hts gX10_setTide_X10_in rfl rfl rfl (by decide +kernel) ⟨Nat.le_of_ble_eq_true rfl, Nat.le_of_ble_eq_true rfl⟩) rfl hl.1 rfl (Nat.le_of_ble_eq_true rfl) dX10_setTide_6 ⟨Nat.zero_le _, Nat.zero_le _⟩ ?_
  refine z_bif_eq (P := (inP (lN k) 0 23)) (tgt := 23) hx hb dX10_setTide_9 (by decide) (fun c_1 => ?_) (fun c_1 => ?_)
  · exact absurd (show inP (lN k) 0 23 from inP_k hk) c_1
  · refine lv_aload_n hx hb dX10_setTide_12 rfl (lv_at hl 0 rfl) ?_
    refine lv_iconst (v := 1) hx hb dX10_setTide_13 (by decide) ?_
    refine lv_iload_n hx hb dX10_setTide_14 rfl (lv_at hl 1 rfl) ?_
    refine z_iaddN (x := 1) (y := k) hx hb dX10_setTide_15 ?_
    refine lv_lload_n hx hb dX10_setTide_16 rfl (lv_at hl 2 rfl) ?_
    refine z_cVi (wc := [zO m0 9 [.ref m1, .ref m2, .ref m3, .ref m4, .ref m5, .ref m6, .ref m7, .int (nI kp), .int fl, .int (nI tn), .ref m8, .int (nI pa), .int (nI rn), .ref m9], zL ct m1 108 n, zL ct m2 540 hy, zL ct m3 108 sl, zL ct m4 108 sp, zD ct m5 33 re, zD ct m6 165 rh, zD ct m7 33 rs, zC ct m8 60 tx, zI ct m9 17 rd]) (As := [.int (nI (1 + k)), .long y]) (rest := []) ⟨hx, hb, hml, hown, hts⟩ hK hP [0, 1, 2, 3, 4, 5, 6, 7, 8, 9] rfl (c_X10_setsLevel_a l g ct m0 m1 m2 m3 m4 m5 m6 m7 m8 m9 n hy sl sp re rh rs kp fl tn tx pa rn rd (1 + k) (by omega) y hno) (cwV 2 hts gX10_setTide_X10_setsLevel rfl rfl rfl (by decide +kernel) ⟨Nat.le_of_ble_eq_true rfl, Nat.le_of_ble_eq_true rfl⟩) 0 rfl rfl rfl hl.1 rfl (Nat.le_of_ble_eq_true rfl) dX10_setTide_17 ⟨Nat.zero_le _, Nat.zero_le _⟩ ?_
    refine lv_goto (tgt := 25) hx hb dX10_setTide_20 (by decide) ?_
    exact z_iretR hx hb hr hlocks rfl rfl dX10_setTide_25

set_option maxHeartbeats 4000000 in
set_option maxRecDepth 100000 in
theorem c_X10_setTide_b (l : Launch) (g : va_G) (ct : Nat → ClassId) (sz : Nat) (m0 m1 m2 m3 m4 m5 m6 m7 m8 m9 : Nat) (n hy sl sp : Nat → Int64) (re rh rs : Nat → UInt64) (kp : Nat) (fl : Int32) (tn : Nat) (tx : Nat → Int32) (pa rn : Nat) (rd : Nat → Int32) (hkp : kp ≤ 5) (k : Nat) (hk : k < 24) (y : Int64) (hact : isLvP y 13840687554816376832 4621819117588971520 ∧ ¬ Op.cmpValue (FP.dcmp (re (1 + k)) y.toUInt64) CmpOp.l = 0) : Met l yX10_setTide wsX10_setTide (zRm 3 77) (va_Pc [.ref m0, .int (nI k), .long y] (zW g ct [zO m0 9 [.ref m1, .ref m2, .ref m3, .ref m4, .ref m5, .ref m6, .ref m7, .int (nI kp), .int fl, .int (nI tn), .ref m8, .int (nI pa), .int (nI rn), .ref m9], zL ct m1 108 n, zL ct m2 540 hy, zL ct m3 108 sl, zL ct m4 108 sp, zD ct m5 33 re, zD ct m6 165 rh, zD ct m7 33 rs, zC ct m8 60 tx, zI ct m9 17 rd] sz)) (zQi g [zO m0 9 [.ref m1, .ref m2, .ref m3, .ref m4, .ref m5, .ref m6, .ref m7, .int (nI (mkp kp)), .int fl, .int (nI tn), .ref m8, .int (nI pa), .int (nI rn), .ref m9], zL ct m1 108 n, zL ct m2 540 (mhy hy n kp), zL ct m3 108 sl, zL ct m4 108 sp, zD ct m5 33 (vf_upd re (1 + k) y.toUInt64), zD ct m6 165 (mrh rh re kp), zD ct m7 33 rs, zC ct m8 60 tx, zI ct m9 17 rd] 1 (va_A [zO m0 9 [.ref m1, .ref m2, .ref m3, .ref m4, .ref m5, .ref m6, .ref m7, .int (nI kp), .int fl, .int (nI tn), .ref m8, .int (nI pa), .int (nI rn), .ref m9], zL ct m1 108 n, zL ct m2 540 hy, zL ct m3 108 sl, zL ct m4 108 sp, zD ct m5 33 re, zD ct m6 165 rh, zD ct m7 33 rs, zC ct m8 60 tx, zI ct m9 17 rd] sz)) 0 0 (va_A [zO m0 9 [.ref m1, .ref m2, .ref m3, .ref m4, .ref m5, .ref m6, .ref m7, .int (nI kp), .int fl, .int (nI tn), .ref m8, .int (nI pa), .int (nI rn), .ref m9], zL ct m1 108 n, zL ct m2 540 hy, zL ct m3 108 sl, zL ct m4 108 sp, zD ct m5 33 re, zD ct m6 165 rh, zD ct m7 33 rs, zC ct m8 60 tx, zI ct m9 17 rd] sz) := by
  refine z_write (QA := zQi g [zO m0 9 [.ref m1, .ref m2, .ref m3, .ref m4, .ref m5, .ref m6, .ref m7, .int (nI (mkp kp)), .int fl, .int (nI tn), .ref m8, .int (nI pa), .int (nI rn), .ref m9], zL ct m1 108 n, zL ct m2 540 (mhy hy n kp), zL ct m3 108 sl, zL ct m4 108 sp, zD ct m5 33 (vf_upd re (1 + k) y.toUInt64), zD ct m6 165 (mrh rh re kp), zD ct m7 33 rs, zC ct m8 60 tx, zI ct m9 17 rd] 1) (cc := cX10_setTide) (maxL := 4) (ret := some .int) (by decide) rfl (Nat.le_of_ble_eq_true rfl) ?_
  intro p e s m below meth c ls A hx hb hr hml hts hown hlocks hin hP hK hD hNW hA hS hl
  have hown : s.vm.findClass RX10 = some m.cls := hown
  have hl : lv_has ls 4 [(0, .ref m0), (1, .int (nI k)), (2, .long y)] := hl
  refine lv_iload_n hx hb dX10_setTide_0 rfl (lv_at hl 1 rfl) ?_
  refine lv_i2l (v := lN k) hx hb dX10_setTide_1 (nI_l (by omega)) ?_
  refine lv_lconst (v := 0) hx hb dX10_setTide_2 (by decide) ?_
  refine lv_ldc2 (v := 23) hx hb hown (hts (.constantLong RX10 122 (23)) (List.mem_of_getElem? (i := 1) rfl)) dX10_setTide_3 ?_
  refine z_cSi (As := [.long (lN k), .long 0, .long 23]) (rest := []) ⟨hx, hb, hml, hown, hts⟩ (c_X10_in l (lN k) 0 23) (va_cwS 3 hts gX10_setTide_X10_in rfl rfl rfl (by decide +kernel) ⟨Nat.le_of_ble_eq_true rfl, Nat.le_of_ble_eq_true rfl⟩) rfl hl.1 rfl (Nat.le_of_ble_eq_true rfl) dX10_setTide_6 ⟨Nat.zero_le _, Nat.zero_le _⟩ ?_
  refine z_bif_eq (P := (inP (lN k) 0 23)) (tgt := 23) hx hb dX10_setTide_9 (by decide) (fun c_1 => ?_) (fun c_1 => ?_)
  · exact absurd (show inP (lN k) 0 23 from inP_k hk) c_1
  · refine lv_aload_n hx hb dX10_setTide_12 rfl (lv_at hl 0 rfl) ?_
    refine lv_iconst (v := 1) hx hb dX10_setTide_13 (by decide) ?_
    refine lv_iload_n hx hb dX10_setTide_14 rfl (lv_at hl 1 rfl) ?_
    refine z_iaddN (x := 1) (y := k) hx hb dX10_setTide_15 ?_
    refine lv_lload_n hx hb dX10_setTide_16 rfl (lv_at hl 2 rfl) ?_
    refine z_wVi (wc := [zO m0 9 [.ref m1, .ref m2, .ref m3, .ref m4, .ref m5, .ref m6, .ref m7, .int (nI kp), .int fl, .int (nI tn), .ref m8, .int (nI pa), .int (nI rn), .ref m9], zL ct m1 108 n, zL ct m2 540 hy, zL ct m3 108 sl, zL ct m4 108 sp, zD ct m5 33 re, zD ct m6 165 rh, zD ct m7 33 rs, zC ct m8 60 tx, zI ct m9 17 rd]) (wr := []) (w2 := [zO m0 9 [.ref m1, .ref m2, .ref m3, .ref m4, .ref m5, .ref m6, .ref m7, .int (nI (mkp kp)), .int fl, .int (nI tn), .ref m8, .int (nI pa), .int (nI rn), .ref m9], zL ct m1 108 n, zL ct m2 540 (mhy hy n kp), zL ct m3 108 sl, zL ct m4 108 sp, zD ct m5 33 (vf_upd re (1 + k) y.toUInt64), zD ct m6 165 (mrh rh re kp), zD ct m7 33 rs, zC ct m8 60 tx, zI ct m9 17 rd]) (As := [.int (nI (1 + k)), .long y]) (rest := []) ⟨hx, hb, hml, hown, hts⟩ hK hP hD hS hNW hA [0, 1, 2, 3, 4, 5, 6, 7, 8, 9] [] [0, 1, 2, 3, 4, 5, 6, 7, 8, 9] rfl rfl rfl rfl rfl rfl (by decide) (c_X10_setsLevel_b l g ct _ m0 m1 m2 m3 m4 m5 m6 m7 m8 m9 n hy sl sp re rh rs kp fl tn tx pa rn rd (by omega) (1 + k) (by omega) y hact) (cwV 2 hts gX10_setTide_X10_setsLevel rfl rfl rfl (by decide +kernel) ⟨Nat.le_of_ble_eq_true rfl, Nat.le_of_ble_eq_true rfl⟩) 0 rfl rfl rfl hl.1 rfl (Nat.le_of_ble_eq_true rfl) dX10_setTide_17 ⟨Nat.zero_le _, Nat.zero_le _⟩ (fun H locs hP hD hS => ?_)
    refine lv_goto (tgt := 25) hx hb dX10_setTide_20 (by decide) ?_
    exact z_iretW hx hb hr hlocks hS hP hD rfl rfl (Nat.le_refl _) (Nat.le_refl _) dX10_setTide_25
