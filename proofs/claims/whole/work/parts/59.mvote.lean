set_option maxHeartbeats 4000000 in
set_option maxRecDepth 100000 in
theorem c_X10_switchPump_u (l : Launch) (g : va_G) (ct : Nat → ClassId) (m0 m1 m2 m3 m4 m5 m6 m7 m8 m9 : Nat) (n hy sl sp : Nat → Int64) (re rh rs : Nat → UInt64) (kp : Nat) (fl : Int32) (tn : Nat) (tx : Nat → Int32) (pa rn : Nat) (rd : Nat → Int32) (x : Int32) (y : Int32) (hact : ¬ inP x.toInt64 0 (n 10 - 1)) : Met l yX10_switchPump wsX10_switchPump (zRm 2 47) (va_Pc [.ref m0, .int x, .int y] (zR g ct [zO m0 9 [.ref m1, .ref m2, .ref m3, .ref m4, .ref m5, .ref m6, .ref m7, .int (nI kp), .int fl, .int (nI tn), .ref m8, .int (nI pa), .int (nI rn), .ref m9], zL ct m1 108 n, zL ct m2 540 hy, zL ct m3 108 sl, zL ct m4 108 sp, zD ct m5 33 re, zD ct m6 165 rh, zD ct m7 33 rs, zC ct m8 60 tx, zI ct m9 17 rd])) (vp_Si (fun r => r = -1)) 0 0 (fun _ => False) := by
  refine z_read (cc := cX10_switchPump) (maxL := 3) (ret := some .int) (by decide) rfl (Nat.le_of_ble_eq_true rfl) ?_
  intro p e s m below meth c ls hx hb hr hml hts hown hlocks hP hK hl
  have hown : s.vm.findClass RX10 = some m.cls := hown
  have hl : lv_has ls 3 [(0, .ref m0), (1, .int x), (2, .int y)] := hl
  refine lv_aload_n hx hb dX10_switchPump_0 rfl (lv_at hl 0 rfl) ?_
  refine lv_iload_n hx hb dX10_switchPump_1 rfl (lv_at hl 1 rfl) ?_
  refine lv_bipush (v := 10) hx hb dX10_switchPump_2 (by decide) ?_
  refine z_cVi (wc := [zO m0 9 [.ref m1, .ref m2, .ref m3, .ref m4, .ref m5, .ref m6, .ref m7, .int (nI kp), .int fl, .int (nI tn), .ref m8, .int (nI pa), .int (nI rn), .ref m9], zL ct m1 108 n, zL ct m2 540 hy, zL ct m3 108 sl, zL ct m4 108 sp, zD ct m5 33 re, zD ct m6 165 rh, zD ct m7 33 rs, zC ct m8 60 tx, zI ct m9 17 rd]) (As := [.int x, .int 10]) (rest := []) ⟨hx, hb, hml, hown, hts⟩ hK hP [0, 1, 2, 3, 4, 5, 6, 7, 8, 9] rfl (c_X10_isNone l g ct m0 m1 m2 m3 m4 m5 m6 m7 m8 m9 n hy sl sp re rh rs kp fl tn tx pa rn rd x 10 (by omega)) (cwV 2 hts gX10_switchPump_X10_isNone rfl rfl rfl (by decide +kernel) ⟨Nat.le_of_ble_eq_true rfl, Nat.le_of_ble_eq_true rfl⟩) 0 rfl rfl rfl hl.1 rfl (Nat.le_of_ble_eq_true rfl) dX10_switchPump_4 ⟨Nat.zero_le _, Nat.zero_le _⟩ ?_
  refine z_bif_eq (P := (¬ inP x.toInt64 0 (n 10 - 1))) (tgt := 12) hx hb dX10_switchPump_7 (by decide) (fun c_1 => ?_) (fun c_1 => ?_)
  · exact absurd hact c_1
  · refine lv_iconst (v := (-1)) hx hb dX10_switchPump_10 (by decide) ?_
    exact z_iretR hx hb hr hlocks rfl rfl dX10_switchPump_11

set_option maxHeartbeats 4000000 in
set_option maxRecDepth 100000 in
theorem c_X10_switchPump_a0 (l : Launch) (g : va_G) (ct : Nat → ClassId) (m0 m1 m2 m3 m4 m5 m6 m7 m8 m9 : Nat) (n hy sl sp : Nat → Int64) (re rh rs : Nat → UInt64) (kp : Nat) (fl : Int32) (tn : Nat) (tx : Nat → Int32) (pa rn : Nat) (rd : Nat → Int32) (k : Nat) (hk : k < 6) (hinP : inP (nI k).toInt64 0 (n 10 - 1)) (hno : ¬ ¬ (n (84 + 4 * k + 2)).toInt32 = 0) : Met l yX10_switchPump wsX10_switchPump (zRm 2 47) (va_Pc [.ref m0, .int (nI k), .int 0] (zR g ct [zO m0 9 [.ref m1, .ref m2, .ref m3, .ref m4, .ref m5, .ref m6, .ref m7, .int (nI kp), .int fl, .int (nI tn), .ref m8, .int (nI pa), .int (nI rn), .ref m9], zL ct m1 108 n, zL ct m2 540 hy, zL ct m3 108 sl, zL ct m4 108 sp, zD ct m5 33 re, zD ct m6 165 rh, zD ct m7 33 rs, zC ct m8 60 tx, zI ct m9 17 rd])) (vp_Si (fun r => r = -5)) 0 0 (fun _ => False) := by
  refine z_read (cc := cX10_switchPump) (maxL := 3) (ret := some .int) (by decide) rfl (Nat.le_of_ble_eq_true rfl) ?_
  intro p e s m below meth c ls hx hb hr hml hts hown hlocks hP hK hl
  have hown : s.vm.findClass RX10 = some m.cls := hown
  have hl : lv_has ls 3 [(0, .ref m0), (1, .int (nI k)), (2, .int 0)] := hl
  refine lv_aload_n hx hb dX10_switchPump_0 rfl (lv_at hl 0 rfl) ?_
  refine lv_iload_n hx hb dX10_switchPump_1 rfl (lv_at hl 1 rfl) ?_
  refine lv_bipush (v := 10) hx hb dX10_switchPump_2 (by decide) ?_
  refine z_cVi (wc := [zO m0 9 [.ref m1, .ref m2, .ref m3, .ref m4, .ref m5, .ref m6, .ref m7, .int (nI kp), .int fl, .int (nI tn), .ref m8, .int (nI pa), .int (nI rn), .ref m9], zL ct m1 108 n, zL ct m2 540 hy, zL ct m3 108 sl, zL ct m4 108 sp, zD ct m5 33 re, zD ct m6 165 rh, zD ct m7 33 rs, zC ct m8 60 tx, zI ct m9 17 rd]) (As := [.int (nI k), .int 10]) (rest := []) ⟨hx, hb, hml, hown, hts⟩ hK hP [0, 1, 2, 3, 4, 5, 6, 7, 8, 9] rfl (c_X10_isNone l g ct m0 m1 m2 m3 m4 m5 m6 m7 m8 m9 n hy sl sp re rh rs kp fl tn tx pa rn rd (nI k) 10 (by omega)) (cwV 2 hts gX10_switchPump_X10_isNone rfl rfl rfl (by decide +kernel) ⟨Nat.le_of_ble_eq_true rfl, Nat.le_of_ble_eq_true rfl⟩) 0 rfl rfl rfl hl.1 rfl (Nat.le_of_ble_eq_true rfl) dX10_switchPump_4 ⟨Nat.zero_le _, Nat.zero_le _⟩ ?_
  refine z_bif_eq (P := (¬ inP (nI k).toInt64 0 (n 10 - 1))) (tgt := 12) hx hb dX10_switchPump_7 (by decide) (fun c_1 => ?_) (fun c_1 => ?_)
  · refine lv_aload_n hx hb dX10_switchPump_12 rfl (lv_at hl 0 rfl) ?_
    refine lv_bipush (v := 84) hx hb dX10_switchPump_13 (by decide) ?_
    refine lv_iconst (v := 4) hx hb dX10_switchPump_15 (by decide) ?_
    refine lv_iload_n hx hb dX10_switchPump_16 rfl (lv_at hl 1 rfl) ?_
    refine z_imulN (x := 4) (y := k) hx hb dX10_switchPump_17 ?_
    refine z_iaddN (x := 84) (y := (4 * k)) hx hb dX10_switchPump_18 ?_
    refine lv_iconst (v := 2) hx hb dX10_switchPump_19 (by decide) ?_
    refine z_iaddN (x := (84 + (4 * k))) (y := 2) hx hb dX10_switchPump_20 ?_
    refine lv_iload_n hx hb dX10_switchPump_21 rfl (lv_at hl 2 rfl) ?_
    refine lv_if_eq (tgt := 29) hx hb dX10_switchPump_22 (by decide) (fun _ => ?_) (fun h => absurd h (by decide))
    refine lv_iconst (v := 0) hx hb dX10_switchPump_29 (by decide) ?_
    refine z_cVi (wc := [zO m0 9 [.ref m1, .ref m2, .ref m3, .ref m4, .ref m5, .ref m6, .ref m7, .int (nI kp), .int fl, .int (nI tn), .ref m8, .int (nI pa), .int (nI rn), .ref m9], zL ct m1 108 n, zL ct m2 540 hy, zL ct m3 108 sl, zL ct m4 108 sp, zD ct m5 33 re, zD ct m6 165 rh, zD ct m7 33 rs, zC ct m8 60 tx, zI ct m9 17 rd]) (As := [.int (nI ((84 + (4 * k)) + 2)), .int 0]) (rest := []) ⟨hx, hb, hml, hown, hts⟩ hK hP [0, 1, 2, 3, 4, 5, 6, 7, 8, 9] rfl (c_X10_sets_a l g ct m0 m1 m2 m3 m4 m5 m6 m7 m8 m9 n hy sl sp re rh rs kp fl tn tx pa rn rd ((84 + (4 * k)) + 2) (by omega) 0 hno) (cwV 2 hts gX10_switchPump_X10_sets rfl rfl rfl (by decide +kernel) ⟨Nat.le_of_ble_eq_true rfl, Nat.le_of_ble_eq_true rfl⟩) 0 rfl rfl rfl hl.1 rfl (Nat.le_of_ble_eq_true rfl) dX10_switchPump_30 ⟨Nat.zero_le _, Nat.zero_le _⟩ ?_
    refine lv_bipush (v := (-5)) hx hb dX10_switchPump_33 (by decide) ?_
    refine lv_icmp_ne (tgt := 43) hx hb dX10_switchPump_35 (by decide) (fun h => absurd h (by decide)) (fun _ => ?_)
    refine lv_bipush (v := (-5)) hx hb dX10_switchPump_38 (by decide) ?_
    refine lv_goto (tgt := 47) hx hb dX10_switchPump_40 (by decide) ?_
    exact z_iretR hx hb hr hlocks rfl rfl dX10_switchPump_47
  · exact absurd (show inP (nI k).toInt64 0 (n 10 - 1) from hinP) c_1

set_option maxHeartbeats 4000000 in
set_option maxRecDepth 100000 in
theorem c_X10_switchPump_b0 (l : Launch) (g : va_G) (ct : Nat → ClassId) (sz : Nat) (m0 m1 m2 m3 m4 m5 m6 m7 m8 m9 : Nat) (n hy sl sp : Nat → Int64) (re rh rs : Nat → UInt64) (kp : Nat) (fl : Int32) (tn : Nat) (tx : Nat → Int32) (pa rn : Nat) (rd : Nat → Int32) (hkp : kp ≤ 5) (k : Nat) (hk : k < 6) (hinP : inP (nI k).toInt64 0 (n 10 - 1)) (nP : Nat) (hnP : nP ≤ 6) (hn10 : n 10 = lN nP) (hact : ¬ (n (84 + 4 * k + 2)).toInt32 = 0 ∧ ¬ (n (84 + 4 * k + 2)).toInt32 = (-5)) : Met l yX10_switchPump wsX10_switchPump (zRm 3 65) (va_Pc [.ref m0, .int (nI k), .int 0] (zW g ct [zO m0 9 [.ref m1, .ref m2, .ref m3, .ref m4, .ref m5, .ref m6, .ref m7, .int (nI kp), .int fl, .int (nI tn), .ref m8, .int (nI pa), .int (nI rn), .ref m9], zL ct m1 108 n, zL ct m2 540 hy, zL ct m3 108 sl, zL ct m4 108 sp, zD ct m5 33 re, zD ct m6 165 rh, zD ct m7 33 rs, zC ct m8 60 tx, zI ct m9 17 rd] sz)) (zQi g [zO m0 9 [.ref m1, .ref m2, .ref m3, .ref m4, .ref m5, .ref m6, .ref m7, .int (nI (mkp kp)), .int fl, .int (nI tn), .ref m8, .int (nI pa), .int (nI rn), .ref m9], zL ct m1 108 (vp_updL n (84 + 4 * k + 2) (0 : Int32).toInt64), zL ct m2 540 (mhy hy n kp), zL ct m3 108 sl, zL ct m4 108 sp, zD ct m5 33 re, zD ct m6 165 (mrh rh re kp), zD ct m7 33 rs, zC ct m8 60 tx, zI ct m9 17 rd] (monI (vp_updL n (84 + 4 * k + 2) (0 : Int32).toInt64) nP) (va_A [zO m0 9 [.ref m1, .ref m2, .ref m3, .ref m4, .ref m5, .ref m6, .ref m7, .int (nI kp), .int fl, .int (nI tn), .ref m8, .int (nI pa), .int (nI rn), .ref m9], zL ct m1 108 n, zL ct m2 540 hy, zL ct m3 108 sl, zL ct m4 108 sp, zD ct m5 33 re, zD ct m6 165 rh, zD ct m7 33 rs, zC ct m8 60 tx, zI ct m9 17 rd] sz)) 0 0 (va_A [zO m0 9 [.ref m1, .ref m2, .ref m3, .ref m4, .ref m5, .ref m6, .ref m7, .int (nI kp), .int fl, .int (nI tn), .ref m8, .int (nI pa), .int (nI rn), .ref m9], zL ct m1 108 n, zL ct m2 540 hy, zL ct m3 108 sl, zL ct m4 108 sp, zD ct m5 33 re, zD ct m6 165 rh, zD ct m7 33 rs, zC ct m8 60 tx, zI ct m9 17 rd] sz) := by
  refine z_write (QA := zQi g [zO m0 9 [.ref m1, .ref m2, .ref m3, .ref m4, .ref m5, .ref m6, .ref m7, .int (nI (mkp kp)), .int fl, .int (nI tn), .ref m8, .int (nI pa), .int (nI rn), .ref m9], zL ct m1 108 (vp_updL n (84 + 4 * k + 2) (0 : Int32).toInt64), zL ct m2 540 (mhy hy n kp), zL ct m3 108 sl, zL ct m4 108 sp, zD ct m5 33 re, zD ct m6 165 (mrh rh re kp), zD ct m7 33 rs, zC ct m8 60 tx, zI ct m9 17 rd] (monI (vp_updL n (84 + 4 * k + 2) (0 : Int32).toInt64) nP)) (cc := cX10_switchPump) (maxL := 3) (ret := some .int) (by decide) rfl (Nat.le_of_ble_eq_true rfl) ?_
  intro p e s m below meth c ls A hx hb hr hml hts hown hlocks hin hP hK hD hNW hA hS hl
  have hown : s.vm.findClass RX10 = some m.cls := hown
  have hl : lv_has ls 3 [(0, .ref m0), (1, .int (nI k)), (2, .int 0)] := hl
  refine lv_aload_n hx hb dX10_switchPump_0 rfl (lv_at hl 0 rfl) ?_
  refine lv_iload_n hx hb dX10_switchPump_1 rfl (lv_at hl 1 rfl) ?_
  refine lv_bipush (v := 10) hx hb dX10_switchPump_2 (by decide) ?_
  refine z_cVi (wc := [zO m0 9 [.ref m1, .ref m2, .ref m3, .ref m4, .ref m5, .ref m6, .ref m7, .int (nI kp), .int fl, .int (nI tn), .ref m8, .int (nI pa), .int (nI rn), .ref m9], zL ct m1 108 n, zL ct m2 540 hy, zL ct m3 108 sl, zL ct m4 108 sp, zD ct m5 33 re, zD ct m6 165 rh, zD ct m7 33 rs, zC ct m8 60 tx, zI ct m9 17 rd]) (As := [.int (nI k), .int 10]) (rest := []) ⟨hx, hb, hml, hown, hts⟩ hK hP [0, 1, 2, 3, 4, 5, 6, 7, 8, 9] rfl (c_X10_isNone l g ct m0 m1 m2 m3 m4 m5 m6 m7 m8 m9 n hy sl sp re rh rs kp fl tn tx pa rn rd (nI k) 10 (by omega)) (cwV 2 hts gX10_switchPump_X10_isNone rfl rfl rfl (by decide +kernel) ⟨Nat.le_of_ble_eq_true rfl, Nat.le_of_ble_eq_true rfl⟩) 0 rfl rfl rfl hl.1 rfl (Nat.le_of_ble_eq_true rfl) dX10_switchPump_4 ⟨Nat.zero_le _, Nat.zero_le _⟩ ?_
  refine z_bif_eq (P := (¬ inP (nI k).toInt64 0 (n 10 - 1))) (tgt := 12) hx hb dX10_switchPump_7 (by decide) (fun c_1 => ?_) (fun c_1 => ?_)
  · refine lv_aload_n hx hb dX10_switchPump_12 rfl (lv_at hl 0 rfl) ?_
    refine lv_bipush (v := 84) hx hb dX10_switchPump_13 (by decide) ?_
    refine lv_iconst (v := 4) hx hb dX10_switchPump_15 (by decide) ?_
    refine lv_iload_n hx hb dX10_switchPump_16 rfl (lv_at hl 1 rfl) ?_
    refine z_imulN (x := 4) (y := k) hx hb dX10_switchPump_17 ?_
    refine z_iaddN (x := 84) (y := (4 * k)) hx hb dX10_switchPump_18 ?_
    refine lv_iconst (v := 2) hx hb dX10_switchPump_19 (by decide) ?_
    refine z_iaddN (x := (84 + (4 * k))) (y := 2) hx hb dX10_switchPump_20 ?_
    refine lv_iload_n hx hb dX10_switchPump_21 rfl (lv_at hl 2 rfl) ?_
    refine lv_if_eq (tgt := 29) hx hb dX10_switchPump_22 (by decide) (fun _ => ?_) (fun h => absurd h (by decide))
    refine lv_iconst (v := 0) hx hb dX10_switchPump_29 (by decide) ?_
    refine z_wVi (wc := [zO m0 9 [.ref m1, .ref m2, .ref m3, .ref m4, .ref m5, .ref m6, .ref m7, .int (nI kp), .int fl, .int (nI tn), .ref m8, .int (nI pa), .int (nI rn), .ref m9], zL ct m1 108 n, zL ct m2 540 hy, zL ct m3 108 sl, zL ct m4 108 sp, zD ct m5 33 re, zD ct m6 165 rh, zD ct m7 33 rs, zC ct m8 60 tx, zI ct m9 17 rd]) (wr := []) (w2 := [zO m0 9 [.ref m1, .ref m2, .ref m3, .ref m4, .ref m5, .ref m6, .ref m7, .int (nI (mkp kp)), .int fl, .int (nI tn), .ref m8, .int (nI pa), .int (nI rn), .ref m9], zL ct m1 108 (vp_updL n ((84 + (4 * k)) + 2) (0 : Int32).toInt64), zL ct m2 540 (mhy hy n kp), zL ct m3 108 sl, zL ct m4 108 sp, zD ct m5 33 re, zD ct m6 165 (mrh rh re kp), zD ct m7 33 rs, zC ct m8 60 tx, zI ct m9 17 rd]) (As := [.int (nI ((84 + (4 * k)) + 2)), .int 0]) (rest := []) ⟨hx, hb, hml, hown, hts⟩ hK hP hD hS hNW hA [0, 1, 2, 3, 4, 5, 6, 7, 8, 9] [] [0, 1, 2, 3, 4, 5, 6, 7, 8, 9] rfl rfl rfl rfl rfl rfl (by decide) (c_X10_sets_b l g ct _ m0 m1 m2 m3 m4 m5 m6 m7 m8 m9 n hy sl sp re rh rs kp fl tn tx pa rn rd (by omega) ((84 + (4 * k)) + 2) (by omega) 0 hact.1) (cwV 2 hts gX10_switchPump_X10_sets rfl rfl rfl (by decide +kernel) ⟨Nat.le_of_ble_eq_true rfl, Nat.le_of_ble_eq_true rfl⟩) 0 rfl rfl rfl hl.1 rfl (Nat.le_of_ble_eq_true rfl) dX10_switchPump_30 ⟨Nat.zero_le _, Nat.zero_le _⟩ (fun H locs hP hD hS => ?_)
    refine lv_bipush (v := (-5)) hx hb dX10_switchPump_33 (by decide) ?_
    refine lv_icmp_ne (tgt := 43) hx hb dX10_switchPump_35 (by decide) (fun c_2 => ?_) (fun c_2 => ?_)
    · refine lv_aload_n hx hb dX10_switchPump_43 rfl (lv_at hl 0 rfl) ?_
      refine z_cVi (wc := [zO m0 9 [.ref m1, .ref m2, .ref m3, .ref m4, .ref m5, .ref m6, .ref m7, .int (nI (mkp kp)), .int fl, .int (nI tn), .ref m8, .int (nI pa), .int (nI rn), .ref m9], zL ct m1 108 (vp_updL n ((84 + (4 * k)) + 2) (0 : Int32).toInt64), zL ct m2 540 (mhy hy n kp), zL ct m3 108 sl, zL ct m4 108 sp, zD ct m5 33 re, zD ct m6 165 (mrh rh re kp), zD ct m7 33 rs, zC ct m8 60 tx, zI ct m9 17 rd]) (As := []) (rest := []) ⟨hx, hb, hml, hown, hts⟩ hK hP [0, 1, 2, 3, 4, 5, 6, 7, 8, 9] rfl (c_X10_pumpsOn l g ct m0 m1 m2 m3 m4 m5 m6 m7 m8 m9 (vp_updL n ((84 + (4 * k)) + 2) (0 : Int32).toInt64) (mhy hy n kp) sl sp re (mrh rh re kp) rs (mkp kp) fl tn tx pa rn rd nP (by omega) (by rw [pk_uLn (by omega)]; exact hn10)) (cwV 0 hts gX10_switchPump_X10_pumpsOn rfl rfl rfl (by decide +kernel) ⟨Nat.le_of_ble_eq_true rfl, Nat.le_of_ble_eq_true rfl⟩) 0 rfl rfl rfl hl.1 rfl (Nat.le_of_ble_eq_true rfl) dX10_switchPump_44 ⟨Nat.zero_le _, Nat.zero_le _⟩ ?_
      exact z_iretW hx hb hr hlocks hS hP hD rfl rfl (Nat.le_refl _) (Nat.le_refl _) dX10_switchPump_47
    · exact absurd c_2 hact.2
  · exact absurd (show inP (nI k).toInt64 0 (n 10 - 1) from hinP) c_1

set_option maxHeartbeats 4000000 in
set_option maxRecDepth 100000 in
theorem c_X10_vote_u (l : Launch) (g : va_G) (ct : Nat → ClassId) (m0 m1 m2 m3 m4 m5 m6 m7 m8 m9 : Nat) (n hy sl sp : Nat → Int64) (re rh rs : Nat → UInt64) (kp : Nat) (fl : Int32) (tn : Nat) (tx : Nat → Int32) (pa rn : Nat) (rd : Nat → Int32) (x : Int32) (y : Int32) (hact : ¬ inP x.toInt64 0 (n 8 - 1)) : Met l yX10_vote wsX10_vote (zRm 2 47) (va_Pc [.ref m0, .int x, .int y] (zR g ct [zO m0 9 [.ref m1, .ref m2, .ref m3, .ref m4, .ref m5, .ref m6, .ref m7, .int (nI kp), .int fl, .int (nI tn), .ref m8, .int (nI pa), .int (nI rn), .ref m9], zL ct m1 108 n, zL ct m2 540 hy, zL ct m3 108 sl, zL ct m4 108 sp, zD ct m5 33 re, zD ct m6 165 rh, zD ct m7 33 rs, zC ct m8 60 tx, zI ct m9 17 rd])) (vp_Si (fun r => r = -1)) 0 0 (fun _ => False) := by
  refine z_read (cc := cX10_vote) (maxL := 3) (ret := some .int) (by decide) rfl (Nat.le_of_ble_eq_true rfl) ?_
  intro p e s m below meth c ls hx hb hr hml hts hown hlocks hP hK hl
  have hown : s.vm.findClass RX10 = some m.cls := hown
  have hl : lv_has ls 3 [(0, .ref m0), (1, .int x), (2, .int y)] := hl
  refine lv_aload_n hx hb dX10_vote_0 rfl (lv_at hl 0 rfl) ?_
  refine lv_iload_n hx hb dX10_vote_1 rfl (lv_at hl 1 rfl) ?_
  refine lv_bipush (v := 8) hx hb dX10_vote_2 (by decide) ?_
  refine z_cVi (wc := [zO m0 9 [.ref m1, .ref m2, .ref m3, .ref m4, .ref m5, .ref m6, .ref m7, .int (nI kp), .int fl, .int (nI tn), .ref m8, .int (nI pa), .int (nI rn), .ref m9], zL ct m1 108 n, zL ct m2 540 hy, zL ct m3 108 sl, zL ct m4 108 sp, zD ct m5 33 re, zD ct m6 165 rh, zD ct m7 33 rs, zC ct m8 60 tx, zI ct m9 17 rd]) (As := [.int x, .int 8]) (rest := []) ⟨hx, hb, hml, hown, hts⟩ hK hP [0, 1, 2, 3, 4, 5, 6, 7, 8, 9] rfl (c_X10_isNone l g ct m0 m1 m2 m3 m4 m5 m6 m7 m8 m9 n hy sl sp re rh rs kp fl tn tx pa rn rd x 8 (by omega)) (cwV 2 hts gX10_vote_X10_isNone rfl rfl rfl (by decide +kernel) ⟨Nat.le_of_ble_eq_true rfl, Nat.le_of_ble_eq_true rfl⟩) 0 rfl rfl rfl hl.1 rfl (Nat.le_of_ble_eq_true rfl) dX10_vote_4 ⟨Nat.zero_le _, Nat.zero_le _⟩ ?_
  refine z_bif_eq (P := (¬ inP x.toInt64 0 (n 8 - 1))) (tgt := 12) hx hb dX10_vote_7 (by decide) (fun c_1 => ?_) (fun c_1 => ?_)
  · exact absurd hact c_1
  · refine lv_iconst (v := (-1)) hx hb dX10_vote_10 (by decide) ?_
    exact z_iretR hx hb hr hlocks rfl rfl dX10_vote_11

set_option maxHeartbeats 4000000 in
set_option maxRecDepth 100000 in
theorem c_X10_vote_a0 (l : Launch) (g : va_G) (ct : Nat → ClassId) (m0 m1 m2 m3 m4 m5 m6 m7 m8 m9 : Nat) (n hy sl sp : Nat → Int64) (re rh rs : Nat → UInt64) (kp : Nat) (fl : Int32) (tn : Nat) (tx : Nat → Int32) (pa rn : Nat) (rd : Nat → Int32) (k : Nat) (hk : k < 6) (hinP : inP (nI k).toInt64 0 (n 8 - 1)) (hno : ¬ ¬ (n (68 + 2 * k + 1)).toInt32 = 0) : Met l yX10_vote wsX10_vote (zRm 2 47) (va_Pc [.ref m0, .int (nI k), .int 0] (zR g ct [zO m0 9 [.ref m1, .ref m2, .ref m3, .ref m4, .ref m5, .ref m6, .ref m7, .int (nI kp), .int fl, .int (nI tn), .ref m8, .int (nI pa), .int (nI rn), .ref m9], zL ct m1 108 n, zL ct m2 540 hy, zL ct m3 108 sl, zL ct m4 108 sp, zD ct m5 33 re, zD ct m6 165 rh, zD ct m7 33 rs, zC ct m8 60 tx, zI ct m9 17 rd])) (vp_Si (fun r => r = -5)) 0 0 (fun _ => False) := by
  refine z_read (cc := cX10_vote) (maxL := 3) (ret := some .int) (by decide) rfl (Nat.le_of_ble_eq_true rfl) ?_
  intro p e s m below meth c ls hx hb hr hml hts hown hlocks hP hK hl
  have hown : s.vm.findClass RX10 = some m.cls := hown
  have hl : lv_has ls 3 [(0, .ref m0), (1, .int (nI k)), (2, .int 0)] := hl
  refine lv_aload_n hx hb dX10_vote_0 rfl (lv_at hl 0 rfl) ?_
  refine lv_iload_n hx hb dX10_vote_1 rfl (lv_at hl 1 rfl) ?_
  refine lv_bipush (v := 8) hx hb dX10_vote_2 (by decide) ?_
  refine z_cVi (wc := [zO m0 9 [.ref m1, .ref m2, .ref m3, .ref m4, .ref m5, .ref m6, .ref m7, .int (nI kp), .int fl, .int (nI tn), .ref m8, .int (nI pa), .int (nI rn), .ref m9], zL ct m1 108 n, zL ct m2 540 hy, zL ct m3 108 sl, zL ct m4 108 sp, zD ct m5 33 re, zD ct m6 165 rh, zD ct m7 33 rs, zC ct m8 60 tx, zI ct m9 17 rd]) (As := [.int (nI k), .int 8]) (rest := []) ⟨hx, hb, hml, hown, hts⟩ hK hP [0, 1, 2, 3, 4, 5, 6, 7, 8, 9] rfl (c_X10_isNone l g ct m0 m1 m2 m3 m4 m5 m6 m7 m8 m9 n hy sl sp re rh rs kp fl tn tx pa rn rd (nI k) 8 (by omega)) (cwV 2 hts gX10_vote_X10_isNone rfl rfl rfl (by decide +kernel) ⟨Nat.le_of_ble_eq_true rfl, Nat.le_of_ble_eq_true rfl⟩) 0 rfl rfl rfl hl.1 rfl (Nat.le_of_ble_eq_true rfl) dX10_vote_4 ⟨Nat.zero_le _, Nat.zero_le _⟩ ?_
  refine z_bif_eq (P := (¬ inP (nI k).toInt64 0 (n 8 - 1))) (tgt := 12) hx hb dX10_vote_7 (by decide) (fun c_1 => ?_) (fun c_1 => ?_)
  · refine lv_aload_n hx hb dX10_vote_12 rfl (lv_at hl 0 rfl) ?_
    refine lv_bipush (v := 68) hx hb dX10_vote_13 (by decide) ?_
    refine lv_iconst (v := 2) hx hb dX10_vote_15 (by decide) ?_
    refine lv_iload_n hx hb dX10_vote_16 rfl (lv_at hl 1 rfl) ?_
    refine z_imulN (x := 2) (y := k) hx hb dX10_vote_17 ?_
    refine z_iaddN (x := 68) (y := (2 * k)) hx hb dX10_vote_18 ?_
    refine lv_iconst (v := 1) hx hb dX10_vote_19 (by decide) ?_
    refine z_iaddN (x := (68 + (2 * k))) (y := 1) hx hb dX10_vote_20 ?_
    refine lv_iload_n hx hb dX10_vote_21 rfl (lv_at hl 2 rfl) ?_
    refine lv_if_eq (tgt := 29) hx hb dX10_vote_22 (by decide) (fun _ => ?_) (fun h => absurd h (by decide))
    refine lv_iconst (v := 0) hx hb dX10_vote_29 (by decide) ?_
    refine z_cVi (wc := [zO m0 9 [.ref m1, .ref m2, .ref m3, .ref m4, .ref m5, .ref m6, .ref m7, .int (nI kp), .int fl, .int (nI tn), .ref m8, .int (nI pa), .int (nI rn), .ref m9], zL ct m1 108 n, zL ct m2 540 hy, zL ct m3 108 sl, zL ct m4 108 sp, zD ct m5 33 re, zD ct m6 165 rh, zD ct m7 33 rs, zC ct m8 60 tx, zI ct m9 17 rd]) (As := [.int (nI ((68 + (2 * k)) + 1)), .int 0]) (rest := []) ⟨hx, hb, hml, hown, hts⟩ hK hP [0, 1, 2, 3, 4, 5, 6, 7, 8, 9] rfl (c_X10_sets_a l g ct m0 m1 m2 m3 m4 m5 m6 m7 m8 m9 n hy sl sp re rh rs kp fl tn tx pa rn rd ((68 + (2 * k)) + 1) (by omega) 0 hno) (cwV 2 hts gX10_vote_X10_sets rfl rfl rfl (by decide +kernel) ⟨Nat.le_of_ble_eq_true rfl, Nat.le_of_ble_eq_true rfl⟩) 0 rfl rfl rfl hl.1 rfl (Nat.le_of_ble_eq_true rfl) dX10_vote_30 ⟨Nat.zero_le _, Nat.zero_le _⟩ ?_
    refine lv_bipush (v := (-5)) hx hb dX10_vote_33 (by decide) ?_
    refine lv_icmp_ne (tgt := 43) hx hb dX10_vote_35 (by decide) (fun h => absurd h (by decide)) (fun _ => ?_)
    refine lv_bipush (v := (-5)) hx hb dX10_vote_38 (by decide) ?_
    refine lv_goto (tgt := 48) hx hb dX10_vote_40 (by decide) ?_
    exact z_iretR hx hb hr hlocks rfl rfl dX10_vote_48
  · exact absurd (show inP (nI k).toInt64 0 (n 8 - 1) from hinP) c_1

set_option maxHeartbeats 4000000 in
set_option maxRecDepth 100000 in
theorem c_X10_vote_b0 (l : Launch) (g : va_G) (ct : Nat → ClassId) (sz : Nat) (m0 m1 m2 m3 m4 m5 m6 m7 m8 m9 : Nat) (n hy sl sp : Nat → Int64) (re rh rs : Nat → UInt64) (kp : Nat) (fl : Int32) (tn : Nat) (tx : Nat → Int32) (pa rn : Nat) (rd : Nat → Int32) (hkp : kp ≤ 5) (k : Nat) (hk : k < 6) (hinP : inP (nI k).toInt64 0 (n 8 - 1)) (nD : Nat) (hnD : nD ≤ 6) (hn8 : n 8 = lN nD) (hact : ¬ (n (68 + 2 * k + 1)).toInt32 = 0 ∧ ¬ (n (68 + 2 * k + 1)).toInt32 = (-5)) : Met l yX10_vote wsX10_vote (zRm 2 47) (va_Pc [.ref m0, .int (nI k), .int 0] (zW g ct [zO m0 9 [.ref m1, .ref m2, .ref m3, .ref m4, .ref m5, .ref m6, .ref m7, .int (nI kp), .int fl, .int (nI tn), .ref m8, .int (nI pa), .int (nI rn), .ref m9], zL ct m1 108 n, zL ct m2 540 hy, zL ct m3 108 sl, zL ct m4 108 sp, zD ct m5 33 re, zD ct m6 165 rh, zD ct m7 33 rs, zC ct m8 60 tx, zI ct m9 17 rd] sz)) (zQi g [zO m0 9 [.ref m1, .ref m2, .ref m3, .ref m4, .ref m5, .ref m6, .ref m7, .int (nI (mkp kp)), .int fl, .int (nI tn), .ref m8, .int (nI pa), .int (nI rn), .ref m9], zL ct m1 108 (vp_updL n (68 + 2 * k + 1) (0 : Int32).toInt64), zL ct m2 540 (mhy hy n kp), zL ct m3 108 sl, zL ct m4 108 sp, zD ct m5 33 re, zD ct m6 165 (mrh rh re kp), zD ct m7 33 rs, zC ct m8 60 tx, zI ct m9 17 rd] (mwcI (vp_updL n (68 + 2 * k + 1) (0 : Int32).toInt64) nD) (va_A [zO m0 9 [.ref m1, .ref m2, .ref m3, .ref m4, .ref m5, .ref m6, .ref m7, .int (nI kp), .int fl, .int (nI tn), .ref m8, .int (nI pa), .int (nI rn), .ref m9], zL ct m1 108 n, zL ct m2 540 hy, zL ct m3 108 sl, zL ct m4 108 sp, zD ct m5 33 re, zD ct m6 165 rh, zD ct m7 33 rs, zC ct m8 60 tx, zI ct m9 17 rd] sz)) 0 0 (va_A [zO m0 9 [.ref m1, .ref m2, .ref m3, .ref m4, .ref m5, .ref m6, .ref m7, .int (nI kp), .int fl, .int (nI tn), .ref m8, .int (nI pa), .int (nI rn), .ref m9], zL ct m1 108 n, zL ct m2 540 hy, zL ct m3 108 sl, zL ct m4 108 sp, zD ct m5 33 re, zD ct m6 165 rh, zD ct m7 33 rs, zC ct m8 60 tx, zI ct m9 17 rd] sz) := by
  refine z_write (QA := zQi g [zO m0 9 [.ref m1, .ref m2, .ref m3, .ref m4, .ref m5, .ref m6, .ref m7, .int (nI (mkp kp)), .int fl, .int (nI tn), .ref m8, .int (nI pa), .int (nI rn), .ref m9], zL ct m1 108 (vp_updL n (68 + 2 * k + 1) (0 : Int32).toInt64), zL ct m2 540 (mhy hy n kp), zL ct m3 108 sl, zL ct m4 108 sp, zD ct m5 33 re, zD ct m6 165 (mrh rh re kp), zD ct m7 33 rs, zC ct m8 60 tx, zI ct m9 17 rd] (mwcI (vp_updL n (68 + 2 * k + 1) (0 : Int32).toInt64) nD)) (cc := cX10_vote) (maxL := 3) (ret := some .int) (by decide) rfl (Nat.le_of_ble_eq_true rfl) ?_
  intro p e s m below meth c ls A hx hb hr hml hts hown hlocks hin hP hK hD hNW hA hS hl
  have hown : s.vm.findClass RX10 = some m.cls := hown
  have hl : lv_has ls 3 [(0, .ref m0), (1, .int (nI k)), (2, .int 0)] := hl
  refine lv_aload_n hx hb dX10_vote_0 rfl (lv_at hl 0 rfl) ?_
  refine lv_iload_n hx hb dX10_vote_1 rfl (lv_at hl 1 rfl) ?_
  refine lv_bipush (v := 8) hx hb dX10_vote_2 (by decide) ?_
  refine z_cVi (wc := [zO m0 9 [.ref m1, .ref m2, .ref m3, .ref m4, .ref m5, .ref m6, .ref m7, .int (nI kp), .int fl, .int (nI tn), .ref m8, .int (nI pa), .int (nI rn), .ref m9], zL ct m1 108 n, zL ct m2 540 hy, zL ct m3 108 sl, zL ct m4 108 sp, zD ct m5 33 re, zD ct m6 165 rh, zD ct m7 33 rs, zC ct m8 60 tx, zI ct m9 17 rd]) (As := [.int (nI k), .int 8]) (rest := []) ⟨hx, hb, hml, hown, hts⟩ hK hP [0, 1, 2, 3, 4, 5, 6, 7, 8, 9] rfl (c_X10_isNone l g ct m0 m1 m2 m3 m4 m5 m6 m7 m8 m9 n hy sl sp re rh rs kp fl tn tx pa rn rd (nI k) 8 (by omega)) (cwV 2 hts gX10_vote_X10_isNone rfl rfl rfl (by decide +kernel) ⟨Nat.le_of_ble_eq_true rfl, Nat.le_of_ble_eq_true rfl⟩) 0 rfl rfl rfl hl.1 rfl (Nat.le_of_ble_eq_true rfl) dX10_vote_4 ⟨Nat.zero_le _, Nat.zero_le _⟩ ?_
  refine z_bif_eq (P := (¬ inP (nI k).toInt64 0 (n 8 - 1))) (tgt := 12) hx hb dX10_vote_7 (by decide) (fun c_1 => ?_) (fun c_1 => ?_)
  · refine lv_aload_n hx hb dX10_vote_12 rfl (lv_at hl 0 rfl) ?_
    refine lv_bipush (v := 68) hx hb dX10_vote_13 (by decide) ?_
    refine lv_iconst (v := 2) hx hb dX10_vote_15 (by decide) ?_
    refine lv_iload_n hx hb dX10_vote_16 rfl (lv_at hl 1 rfl) ?_
    refine z_imulN (x := 2) (y := k) hx hb dX10_vote_17 ?_
    refine z_iaddN (x := 68) (y := (2 * k)) hx hb dX10_vote_18 ?_
    refine lv_iconst (v := 1) hx hb dX10_vote_19 (by decide) ?_
    refine z_iaddN (x := (68 + (2 * k))) (y := 1) hx hb dX10_vote_20 ?_
    refine lv_iload_n hx hb dX10_vote_21 rfl (lv_at hl 2 rfl) ?_
    refine lv_if_eq (tgt := 29) hx hb dX10_vote_22 (by decide) (fun _ => ?_) (fun h => absurd h (by decide))
    refine lv_iconst (v := 0) hx hb dX10_vote_29 (by decide) ?_
    refine z_wVi (wc := [zO m0 9 [.ref m1, .ref m2, .ref m3, .ref m4, .ref m5, .ref m6, .ref m7, .int (nI kp), .int fl, .int (nI tn), .ref m8, .int (nI pa), .int (nI rn), .ref m9], zL ct m1 108 n, zL ct m2 540 hy, zL ct m3 108 sl, zL ct m4 108 sp, zD ct m5 33 re, zD ct m6 165 rh, zD ct m7 33 rs, zC ct m8 60 tx, zI ct m9 17 rd]) (wr := []) (w2 := [zO m0 9 [.ref m1, .ref m2, .ref m3, .ref m4, .ref m5, .ref m6, .ref m7, .int (nI (mkp kp)), .int fl, .int (nI tn), .ref m8, .int (nI pa), .int (nI rn), .ref m9], zL ct m1 108 (vp_updL n ((68 + (2 * k)) + 1) (0 : Int32).toInt64), zL ct m2 540 (mhy hy n kp), zL ct m3 108 sl, zL ct m4 108 sp, zD ct m5 33 re, zD ct m6 165 (mrh rh re kp), zD ct m7 33 rs, zC ct m8 60 tx, zI ct m9 17 rd]) (As := [.int (nI ((68 + (2 * k)) + 1)), .int 0]) (rest := []) ⟨hx, hb, hml, hown, hts⟩ hK hP hD hS hNW hA [0, 1, 2, 3, 4, 5, 6, 7, 8, 9] [] [0, 1, 2, 3, 4, 5, 6, 7, 8, 9] rfl rfl rfl rfl rfl rfl (by decide) (c_X10_sets_b l g ct _ m0 m1 m2 m3 m4 m5 m6 m7 m8 m9 n hy sl sp re rh rs kp fl tn tx pa rn rd (by omega) ((68 + (2 * k)) + 1) (by omega) 0 hact.1) (cwV 2 hts gX10_vote_X10_sets rfl rfl rfl (by decide +kernel) ⟨Nat.le_of_ble_eq_true rfl, Nat.le_of_ble_eq_true rfl⟩) 0 rfl rfl rfl hl.1 rfl (Nat.le_of_ble_eq_true rfl) dX10_vote_30 ⟨Nat.zero_le _, Nat.zero_le _⟩ (fun H locs hP hD hS => ?_)
    refine lv_bipush (v := (-5)) hx hb dX10_vote_33 (by decide) ?_
    refine lv_icmp_ne (tgt := 43) hx hb dX10_vote_35 (by decide) (fun c_2 => ?_) (fun c_2 => ?_)
    · refine lv_aload_n hx hb dX10_vote_43 rfl (lv_at hl 0 rfl) ?_
      refine lv_iconst (v := 1) hx hb dX10_vote_44 (by decide) ?_
      refine z_cVi (wc := [zO m0 9 [.ref m1, .ref m2, .ref m3, .ref m4, .ref m5, .ref m6, .ref m7, .int (nI (mkp kp)), .int fl, .int (nI tn), .ref m8, .int (nI pa), .int (nI rn), .ref m9], zL ct m1 108 (vp_updL n ((68 + (2 * k)) + 1) (0 : Int32).toInt64), zL ct m2 540 (mhy hy n kp), zL ct m3 108 sl, zL ct m4 108 sp, zD ct m5 33 re, zD ct m6 165 (mrh rh re kp), zD ct m7 33 rs, zC ct m8 60 tx, zI ct m9 17 rd]) (As := [.int 1]) (rest := []) ⟨hx, hb, hml, hown, hts⟩ hK hP [0, 1, 2, 3, 4, 5, 6, 7, 8, 9] rfl (c_X10_weights1 l g ct m0 m1 m2 m3 m4 m5 m6 m7 m8 m9 (vp_updL n ((68 + (2 * k)) + 1) (0 : Int32).toInt64) (mhy hy n kp) sl sp re (mrh rh re kp) rs (mkp kp) fl tn tx pa rn rd nD (by omega) (by rw [pk_uLn (by omega)]; exact hn8)) (cwV 1 hts gX10_vote_X10_weights rfl rfl rfl (by decide +kernel) ⟨Nat.le_of_ble_eq_true rfl, Nat.le_of_ble_eq_true rfl⟩) 0 rfl rfl rfl hl.1 rfl (Nat.le_of_ble_eq_true rfl) dX10_vote_45 ⟨Nat.zero_le _, Nat.zero_le _⟩ ?_
      exact z_iretW hx hb hr hlocks hS hP hD rfl rfl (Nat.le_refl _) (Nat.le_refl _) dX10_vote_48
    · exact absurd c_2 hact.2
  · exact absurd (show inP (nI k).toInt64 0 (n 8 - 1) from hinP) c_1

set_option maxHeartbeats 4000000 in
set_option maxRecDepth 100000 in
theorem c_X10_switchPump_a1 (l : Launch) (g : va_G) (ct : Nat → ClassId) (m0 m1 m2 m3 m4 m5 m6 m7 m8 m9 : Nat) (n hy sl sp : Nat → Int64) (re rh rs : Nat → UInt64) (kp : Nat) (fl : Int32) (tn : Nat) (tx : Nat → Int32) (pa rn : Nat) (rd : Nat → Int32) (k : Nat) (hk : k < 6) (hinP : inP (nI k).toInt64 0 (n 10 - 1)) (hno : ¬ ¬ (n (84 + 4 * k + 2)).toInt32 = 1) : Met l yX10_switchPump wsX10_switchPump (zRm 2 47) (va_Pc [.ref m0, .int (nI k), .int 1] (zR g ct [zO m0 9 [.ref m1, .ref m2, .ref m3, .ref m4, .ref m5, .ref m6, .ref m7, .int (nI kp), .int fl, .int (nI tn), .ref m8, .int (nI pa), .int (nI rn), .ref m9], zL ct m1 108 n, zL ct m2 540 hy, zL ct m3 108 sl, zL ct m4 108 sp, zD ct m5 33 re, zD ct m6 165 rh, zD ct m7 33 rs, zC ct m8 60 tx, zI ct m9 17 rd])) (vp_Si (fun r => r = -5)) 0 0 (fun _ => False) := by
  refine z_read (cc := cX10_switchPump) (maxL := 3) (ret := some .int) (by decide) rfl (Nat.le_of_ble_eq_true rfl) ?_
  intro p e s m below meth c ls hx hb hr hml hts hown hlocks hP hK hl
  have hown : s.vm.findClass RX10 = some m.cls := hown
  have hl : lv_has ls 3 [(0, .ref m0), (1, .int (nI k)), (2, .int 1)] := hl
  refine lv_aload_n hx hb dX10_switchPump_0 rfl (lv_at hl 0 rfl) ?_
  refine lv_iload_n hx hb dX10_switchPump_1 rfl (lv_at hl 1 rfl) ?_
  refine lv_bipush (v := 10) hx hb dX10_switchPump_2 (by decide) ?_
  refine z_cVi (wc := [zO m0 9 [.ref m1, .ref m2, .ref m3, .ref m4, .ref m5, .ref m6, .ref m7, .int (nI kp), .int fl, .int (nI tn), .ref m8, .int (nI pa), .int (nI rn), .ref m9], zL ct m1 108 n, zL ct m2 540 hy, zL ct m3 108 sl, zL ct m4 108 sp, zD ct m5 33 re, zD ct m6 165 rh, zD ct m7 33 rs, zC ct m8 60 tx, zI ct m9 17 rd]) (As := [.int (nI k), .int 10]) (rest := []) ⟨hx, hb, hml, hown, hts⟩ hK hP [0, 1, 2, 3, 4, 5, 6, 7, 8, 9] rfl (c_X10_isNone l g ct m0 m1 m2 m3 m4 m5 m6 m7 m8 m9 n hy sl sp re rh rs kp fl tn tx pa rn rd (nI k) 10 (by omega)) (cwV 2 hts gX10_switchPump_X10_isNone rfl rfl rfl (by decide +kernel) ⟨Nat.le_of_ble_eq_true rfl, Nat.le_of_ble_eq_true rfl⟩) 0 rfl rfl rfl hl.1 rfl (Nat.le_of_ble_eq_true rfl) dX10_switchPump_4 ⟨Nat.zero_le _, Nat.zero_le _⟩ ?_
  refine z_bif_eq (P := (¬ inP (nI k).toInt64 0 (n 10 - 1))) (tgt := 12) hx hb dX10_switchPump_7 (by decide) (fun c_1 => ?_) (fun c_1 => ?_)
  · refine lv_aload_n hx hb dX10_switchPump_12 rfl (lv_at hl 0 rfl) ?_
    refine lv_bipush (v := 84) hx hb dX10_switchPump_13 (by decide) ?_
    refine lv_iconst (v := 4) hx hb dX10_switchPump_15 (by decide) ?_
    refine lv_iload_n hx hb dX10_switchPump_16 rfl (lv_at hl 1 rfl) ?_
    refine z_imulN (x := 4) (y := k) hx hb dX10_switchPump_17 ?_
    refine z_iaddN (x := 84) (y := (4 * k)) hx hb dX10_switchPump_18 ?_
    refine lv_iconst (v := 2) hx hb dX10_switchPump_19 (by decide) ?_
    refine z_iaddN (x := (84 + (4 * k))) (y := 2) hx hb dX10_switchPump_20 ?_
    refine lv_iload_n hx hb dX10_switchPump_21 rfl (lv_at hl 2 rfl) ?_
    refine lv_if_eq (tgt := 29) hx hb dX10_switchPump_22 (by decide) (fun h => absurd h (by decide)) (fun _ => ?_)
    refine lv_iconst (v := 1) hx hb dX10_switchPump_25 (by decide) ?_
    refine lv_goto (tgt := 30) hx hb dX10_switchPump_26 (by decide) ?_
    refine z_cVi (wc := [zO m0 9 [.ref m1, .ref m2, .ref m3, .ref m4, .ref m5, .ref m6, .ref m7, .int (nI kp), .int fl, .int (nI tn), .ref m8, .int (nI pa), .int (nI rn), .ref m9], zL ct m1 108 n, zL ct m2 540 hy, zL ct m3 108 sl, zL ct m4 108 sp, zD ct m5 33 re, zD ct m6 165 rh, zD ct m7 33 rs, zC ct m8 60 tx, zI ct m9 17 rd]) (As := [.int (nI ((84 + (4 * k)) + 2)), .int 1]) (rest := []) ⟨hx, hb, hml, hown, hts⟩ hK hP [0, 1, 2, 3, 4, 5, 6, 7, 8, 9] rfl (c_X10_sets_a l g ct m0 m1 m2 m3 m4 m5 m6 m7 m8 m9 n hy sl sp re rh rs kp fl tn tx pa rn rd ((84 + (4 * k)) + 2) (by omega) 1 hno) (cwV 2 hts gX10_switchPump_X10_sets rfl rfl rfl (by decide +kernel) ⟨Nat.le_of_ble_eq_true rfl, Nat.le_of_ble_eq_true rfl⟩) 0 rfl rfl rfl hl.1 rfl (Nat.le_of_ble_eq_true rfl) dX10_switchPump_30 ⟨Nat.zero_le _, Nat.zero_le _⟩ ?_
    refine lv_bipush (v := (-5)) hx hb dX10_switchPump_33 (by decide) ?_
    refine lv_icmp_ne (tgt := 43) hx hb dX10_switchPump_35 (by decide) (fun h => absurd h (by decide)) (fun _ => ?_)
    refine lv_bipush (v := (-5)) hx hb dX10_switchPump_38 (by decide) ?_
    refine lv_goto (tgt := 47) hx hb dX10_switchPump_40 (by decide) ?_
    exact z_iretR hx hb hr hlocks rfl rfl dX10_switchPump_47
  · exact absurd (show inP (nI k).toInt64 0 (n 10 - 1) from hinP) c_1

set_option maxHeartbeats 4000000 in
set_option maxRecDepth 100000 in
theorem c_X10_switchPump_b1 (l : Launch) (g : va_G) (ct : Nat → ClassId) (sz : Nat) (m0 m1 m2 m3 m4 m5 m6 m7 m8 m9 : Nat) (n hy sl sp : Nat → Int64) (re rh rs : Nat → UInt64) (kp : Nat) (fl : Int32) (tn : Nat) (tx : Nat → Int32) (pa rn : Nat) (rd : Nat → Int32) (hkp : kp ≤ 5) (k : Nat) (hk : k < 6) (hinP : inP (nI k).toInt64 0 (n 10 - 1)) (nP : Nat) (hnP : nP ≤ 6) (hn10 : n 10 = lN nP) (hact : ¬ (n (84 + 4 * k + 2)).toInt32 = 1 ∧ ¬ (n (84 + 4 * k + 2)).toInt32 = (-5)) : Met l yX10_switchPump wsX10_switchPump (zRm 3 65) (va_Pc [.ref m0, .int (nI k), .int 1] (zW g ct [zO m0 9 [.ref m1, .ref m2, .ref m3, .ref m4, .ref m5, .ref m6, .ref m7, .int (nI kp), .int fl, .int (nI tn), .ref m8, .int (nI pa), .int (nI rn), .ref m9], zL ct m1 108 n, zL ct m2 540 hy, zL ct m3 108 sl, zL ct m4 108 sp, zD ct m5 33 re, zD ct m6 165 rh, zD ct m7 33 rs, zC ct m8 60 tx, zI ct m9 17 rd] sz)) (zQi g [zO m0 9 [.ref m1, .ref m2, .ref m3, .ref m4, .ref m5, .ref m6, .ref m7, .int (nI (mkp kp)), .int fl, .int (nI tn), .ref m8, .int (nI pa), .int (nI rn), .ref m9], zL ct m1 108 (vp_updL n (84 + 4 * k + 2) (1 : Int32).toInt64), zL ct m2 540 (mhy hy n kp), zL ct m3 108 sl, zL ct m4 108 sp, zD ct m5 33 re, zD ct m6 165 (mrh rh re kp), zD ct m7 33 rs, zC ct m8 60 tx, zI ct m9 17 rd] (monI (vp_updL n (84 + 4 * k + 2) (1 : Int32).toInt64) nP) (va_A [zO m0 9 [.ref m1, .ref m2, .ref m3, .ref m4, .ref m5, .ref m6, .ref m7, .int (nI kp), .int fl, .int (nI tn), .ref m8, .int (nI pa), .int (nI rn), .ref m9], zL ct m1 108 n, zL ct m2 540 hy, zL ct m3 108 sl, zL ct m4 108 sp, zD ct m5 33 re, zD ct m6 165 rh, zD ct m7 33 rs, zC ct m8 60 tx, zI ct m9 17 rd] sz)) 0 0 (va_A [zO m0 9 [.ref m1, .ref m2, .ref m3, .ref m4, .ref m5, .ref m6, .ref m7, .int (nI kp), .int fl, .int (nI tn), .ref m8, .int (nI pa), .int (nI rn), .ref m9], zL ct m1 108 n, zL ct m2 540 hy, zL ct m3 108 sl, zL ct m4 108 sp, zD ct m5 33 re, zD ct m6 165 rh, zD ct m7 33 rs, zC ct m8 60 tx, zI ct m9 17 rd] sz) := by
  refine z_write (QA := zQi g [zO m0 9 [.ref m1, .ref m2, .ref m3, .ref m4, .ref m5, .ref m6, .ref m7, .int (nI (mkp kp)), .int fl, .int (nI tn), .ref m8, .int (nI pa), .int (nI rn), .ref m9], zL ct m1 108 (vp_updL n (84 + 4 * k + 2) (1 : Int32).toInt64), zL ct m2 540 (mhy hy n kp), zL ct m3 108 sl, zL ct m4 108 sp, zD ct m5 33 re, zD ct m6 165 (mrh rh re kp), zD ct m7 33 rs, zC ct m8 60 tx, zI ct m9 17 rd] (monI (vp_updL n (84 + 4 * k + 2) (1 : Int32).toInt64) nP)) (cc := cX10_switchPump) (maxL := 3) (ret := some .int) (by decide) rfl (Nat.le_of_ble_eq_true rfl) ?_
  intro p e s m below meth c ls A hx hb hr hml hts hown hlocks hin hP hK hD hNW hA hS hl
  have hown : s.vm.findClass RX10 = some m.cls := hown
  have hl : lv_has ls 3 [(0, .ref m0), (1, .int (nI k)), (2, .int 1)] := hl
  refine lv_aload_n hx hb dX10_switchPump_0 rfl (lv_at hl 0 rfl) ?_
  refine lv_iload_n hx hb dX10_switchPump_1 rfl (lv_at hl 1 rfl) ?_
  refine lv_bipush (v := 10) hx hb dX10_switchPump_2 (by decide) ?_
  refine z_cVi (wc := [zO m0 9 [.ref m1, .ref m2, .ref m3, .ref m4, .ref m5, .ref m6, .ref m7, .int (nI kp), .int fl, .int (nI tn), .ref m8, .int (nI pa), .int (nI rn), .ref m9], zL ct m1 108 n, zL ct m2 540 hy, zL ct m3 108 sl, zL ct m4 108 sp, zD ct m5 33 re, zD ct m6 165 rh, zD ct m7 33 rs, zC ct m8 60 tx, zI ct m9 17 rd]) (As := [.int (nI k), .int 10]) (rest := []) ⟨hx, hb, hml, hown, hts⟩ hK hP [0, 1, 2, 3, 4, 5, 6, 7, 8, 9] rfl (c_X10_isNone l g ct m0 m1 m2 m3 m4 m5 m6 m7 m8 m9 n hy sl sp re rh rs kp fl tn tx pa rn rd (nI k) 10 (by omega)) (cwV 2 hts gX10_switchPump_X10_isNone rfl rfl rfl (by decide +kernel) ⟨Nat.le_of_ble_eq_true rfl, Nat.le_of_ble_eq_true rfl⟩) 0 rfl rfl rfl hl.1 rfl (Nat.le_of_ble_eq_true rfl) dX10_switchPump_4 ⟨Nat.zero_le _, Nat.zero_le _⟩ ?_
  refine z_bif_eq (P := (¬ inP (nI k).toInt64 0 (n 10 - 1))) (tgt := 12) hx hb dX10_switchPump_7 (by decide) (fun c_1 => ?_) (fun c_1 => ?_)
  · refine lv_aload_n hx hb dX10_switchPump_12 rfl (lv_at hl 0 rfl) ?_
    refine lv_bipush (v := 84) hx hb dX10_switchPump_13 (by decide) ?_
    refine lv_iconst (v := 4) hx hb dX10_switchPump_15 (by decide) ?_
    refine lv_iload_n hx hb dX10_switchPump_16 rfl (lv_at hl 1 rfl) ?_
    refine z_imulN (x := 4) (y := k) hx hb dX10_switchPump_17 ?_
    refine z_iaddN (x := 84) (y := (4 * k)) hx hb dX10_switchPump_18 ?_
    refine lv_iconst (v := 2) hx hb dX10_switchPump_19 (by decide) ?_
    refine z_iaddN (x := (84 + (4 * k))) (y := 2) hx hb dX10_switchPump_20 ?_
    refine lv_iload_n hx hb dX10_switchPump_21 rfl (lv_at hl 2 rfl) ?_
    refine lv_if_eq (tgt := 29) hx hb dX10_switchPump_22 (by decide) (fun h => absurd h (by decide)) (fun _ => ?_)
    refine lv_iconst (v := 1) hx hb dX10_switchPump_25 (by decide) ?_
    refine lv_goto (tgt := 30) hx hb dX10_switchPump_26 (by decide) ?_
    refine z_wVi (wc := [zO m0 9 [.ref m1, .ref m2, .ref m3, .ref m4, .ref m5, .ref m6, .ref m7, .int (nI kp), .int fl, .int (nI tn), .ref m8, .int (nI pa), .int (nI rn), .ref m9], zL ct m1 108 n, zL ct m2 540 hy, zL ct m3 108 sl, zL ct m4 108 sp, zD ct m5 33 re, zD ct m6 165 rh, zD ct m7 33 rs, zC ct m8 60 tx, zI ct m9 17 rd]) (wr := []) (w2 := [zO m0 9 [.ref m1, .ref m2, .ref m3, .ref m4, .ref m5, .ref m6, .ref m7, .int (nI (mkp kp)), .int fl, .int (nI tn), .ref m8, .int (nI pa), .int (nI rn), .ref m9], zL ct m1 108 (vp_updL n ((84 + (4 * k)) + 2) (1 : Int32).toInt64), zL ct m2 540 (mhy hy n kp), zL ct m3 108 sl, zL ct m4 108 sp, zD ct m5 33 re, zD ct m6 165 (mrh rh re kp), zD ct m7 33 rs, zC ct m8 60 tx, zI ct m9 17 rd]) (As := [.int (nI ((84 + (4 * k)) + 2)), .int 1]) (rest := []) ⟨hx, hb, hml, hown, hts⟩ hK hP hD hS hNW hA [0, 1, 2, 3, 4, 5, 6, 7, 8, 9] [] [0, 1, 2, 3, 4, 5, 6, 7, 8, 9] rfl rfl rfl rfl rfl rfl (by decide) (c_X10_sets_b l g ct _ m0 m1 m2 m3 m4 m5 m6 m7 m8 m9 n hy sl sp re rh rs kp fl tn tx pa rn rd (by omega) ((84 + (4 * k)) + 2) (by omega) 1 hact.1) (cwV 2 hts gX10_switchPump_X10_sets rfl rfl rfl (by decide +kernel) ⟨Nat.le_of_ble_eq_true rfl, Nat.le_of_ble_eq_true rfl⟩) 0 rfl rfl rfl hl.1 rfl (Nat.le_of_ble_eq_true rfl) dX10_switchPump_30 ⟨Nat.zero_le _, Nat.zero_le _⟩ (fun H locs hP hD hS => ?_)
    refine lv_bipush (v := (-5)) hx hb dX10_switchPump_33 (by decide) ?_
    refine lv_icmp_ne (tgt := 43) hx hb dX10_switchPump_35 (by decide) (fun c_2 => ?_) (fun c_2 => ?_)
    · refine lv_aload_n hx hb dX10_switchPump_43 rfl (lv_at hl 0 rfl) ?_
      refine z_cVi (wc := [zO m0 9 [.ref m1, .ref m2, .ref m3, .ref m4, .ref m5, .ref m6, .ref m7, .int (nI (mkp kp)), .int fl, .int (nI tn), .ref m8, .int (nI pa), .int (nI rn), .ref m9], zL ct m1 108 (vp_updL n ((84 + (4 * k)) + 2) (1 : Int32).toInt64), zL ct m2 540 (mhy hy n kp), zL ct m3 108 sl, zL ct m4 108 sp, zD ct m5 33 re, zD ct m6 165 (mrh rh re kp), zD ct m7 33 rs, zC ct m8 60 tx, zI ct m9 17 rd]) (As := []) (rest := []) ⟨hx, hb, hml, hown, hts⟩ hK hP [0, 1, 2, 3, 4, 5, 6, 7, 8, 9] rfl (c_X10_pumpsOn l g ct m0 m1 m2 m3 m4 m5 m6 m7 m8 m9 (vp_updL n ((84 + (4 * k)) + 2) (1 : Int32).toInt64) (mhy hy n kp) sl sp re (mrh rh re kp) rs (mkp kp) fl tn tx pa rn rd nP (by omega) (by rw [pk_uLn (by omega)]; exact hn10)) (cwV 0 hts gX10_switchPump_X10_pumpsOn rfl rfl rfl (by decide +kernel) ⟨Nat.le_of_ble_eq_true rfl, Nat.le_of_ble_eq_true rfl⟩) 0 rfl rfl rfl hl.1 rfl (Nat.le_of_ble_eq_true rfl) dX10_switchPump_44 ⟨Nat.zero_le _, Nat.zero_le _⟩ ?_
      exact z_iretW hx hb hr hlocks hS hP hD rfl rfl (Nat.le_refl _) (Nat.le_refl _) dX10_switchPump_47
    · exact absurd c_2 hact.2
  · exact absurd (show inP (nI k).toInt64 0 (n 10 - 1) from hinP) c_1

set_option maxHeartbeats 4000000 in
set_option maxRecDepth 100000 in
theorem c_X10_vote_a1 (l : Launch) (g : va_G) (ct : Nat → ClassId) (m0 m1 m2 m3 m4 m5 m6 m7 m8 m9 : Nat) (n hy sl sp : Nat → Int64) (re rh rs : Nat → UInt64) (kp : Nat) (fl : Int32) (tn : Nat) (tx : Nat → Int32) (pa rn : Nat) (rd : Nat → Int32) (k : Nat) (hk : k < 6) (hinP : inP (nI k).toInt64 0 (n 8 - 1)) (hno : ¬ ¬ (n (68 + 2 * k + 1)).toInt32 = 1) : Met l yX10_vote wsX10_vote (zRm 2 47) (va_Pc [.ref m0, .int (nI k), .int 1] (zR g ct [zO m0 9 [.ref m1, .ref m2, .ref m3, .ref m4, .ref m5, .ref m6, .ref m7, .int (nI kp), .int fl, .int (nI tn), .ref m8, .int (nI pa), .int (nI rn), .ref m9], zL ct m1 108 n, zL ct m2 540 hy, zL ct m3 108 sl, zL ct m4 108 sp, zD ct m5 33 re, zD ct m6 165 rh, zD ct m7 33 rs, zC ct m8 60 tx, zI ct m9 17 rd])) (vp_Si (fun r => r = -5)) 0 0 (fun _ => False) := by
  refine z_read (cc := cX10_vote) (maxL := 3) (ret := some .int) (by decide) rfl (Nat.le_of_ble_eq_true rfl) ?_
  intro p e s m below meth c ls hx hb hr hml hts hown hlocks hP hK hl
  have hown : s.vm.findClass RX10 = some m.cls := hown
  have hl : lv_has ls 3 [(0, .ref m0), (1, .int (nI k)), (2, .int 1)] := hl
  refine lv_aload_n hx hb dX10_vote_0 rfl (lv_at hl 0 rfl) ?_
  refine lv_iload_n hx hb dX10_vote_1 rfl (lv_at hl 1 rfl) ?_
  refine lv_bipush (v := 8) hx hb dX10_vote_2 (by decide) ?_
  refine z_cVi (wc := [zO m0 9 [.ref m1, .ref m2, .ref m3, .ref m4, .ref m5, .ref m6, .ref m7, .int (nI kp), .int fl, .int (nI tn), .ref m8, .int (nI pa), .int (nI rn), .ref m9], zL ct m1 108 n, zL ct m2 540 hy, zL ct m3 108 sl, zL ct m4 108 sp, zD ct m5 33 re, zD ct m6 165 rh, zD ct m7 33 rs, zC ct m8 60 tx, zI ct m9 17 rd]) (As := [.int (nI k), .int 8]) (rest := []) ⟨hx, hb, hml, hown, hts⟩ hK hP [0, 1, 2, 3, 4, 5, 6, 7, 8, 9] rfl (c_X10_isNone l g ct m0 m1 m2 m3 m4 m5 m6 m7 m8 m9 n hy sl sp re rh rs kp fl tn tx pa rn rd (nI k) 8 (by omega)) (cwV 2 hts gX10_vote_X10_isNone rfl rfl rfl (by decide +kernel) ⟨Nat.le_of_ble_eq_true rfl, Nat.le_of_ble_eq_true rfl⟩) 0 rfl rfl rfl hl.1 rfl (Nat.le_of_ble_eq_true rfl) dX10_vote_4 ⟨Nat.zero_le _, Nat.zero_le _⟩ ?_
  refine z_bif_eq (P := (¬ inP (nI k).toInt64 0 (n 8 - 1))) (tgt := 12) hx hb dX10_vote_7 (by decide) (fun c_1 => ?_) (fun c_1 => ?_)
  · refine lv_aload_n hx hb dX10_vote_12 rfl (lv_at hl 0 rfl) ?_
    refine lv_bipush (v := 68) hx hb dX10_vote_13 (by decide) ?_
    refine lv_iconst (v := 2) hx hb dX10_vote_15 (by decide) ?_
    refine lv_iload_n hx hb dX10_vote_16 rfl (lv_at hl 1 rfl) ?_
    refine z_imulN (x := 2) (y := k) hx hb dX10_vote_17 ?_
    refine z_iaddN (x := 68) (y := (2 * k)) hx hb dX10_vote_18 ?_
    refine lv_iconst (v := 1) hx hb dX10_vote_19 (by decide) ?_
    refine z_iaddN (x := (68 + (2 * k))) (y := 1) hx hb dX10_vote_20 ?_
    refine lv_iload_n hx hb dX10_vote_21 rfl (lv_at hl 2 rfl) ?_
    refine lv_if_eq (tgt := 29) hx hb dX10_vote_22 (by decide) (fun h => absurd h (by decide)) (fun _ => ?_)
    refine lv_iconst (v := 1) hx hb dX10_vote_25 (by decide) ?_
    refine lv_goto (tgt := 30) hx hb dX10_vote_26 (by decide) ?_
    refine z_cVi (wc := [zO m0 9 [.ref m1, .ref m2, .ref m3, .ref m4, .ref m5, .ref m6, .ref m7, .int (nI kp), .int fl, .int (nI tn), .ref m8, .int (nI pa), .int (nI rn), .ref m9], zL ct m1 108 n, zL ct m2 540 hy, zL ct m3 108 sl, zL ct m4 108 sp, zD ct m5 33 re, zD ct m6 165 rh, zD ct m7 33 rs, zC ct m8 60 tx, zI ct m9 17 rd]) (As := [.int (nI ((68 + (2 * k)) + 1)), .int 1]) (rest := []) ⟨hx, hb, hml, hown, hts⟩ hK hP [0, 1, 2, 3, 4, 5, 6, 7, 8, 9] rfl (c_X10_sets_a l g ct m0 m1 m2 m3 m4 m5 m6 m7 m8 m9 n hy sl sp re rh rs kp fl tn tx pa rn rd ((68 + (2 * k)) + 1) (by omega) 1 hno) (cwV 2 hts gX10_vote_X10_sets rfl rfl rfl (by decide +kernel) ⟨Nat.le_of_ble_eq_true rfl, Nat.le_of_ble_eq_true rfl⟩) 0 rfl rfl rfl hl.1 rfl (Nat.le_of_ble_eq_true rfl) dX10_vote_30 ⟨Nat.zero_le _, Nat.zero_le _⟩ ?_
    refine lv_bipush (v := (-5)) hx hb dX10_vote_33 (by decide) ?_
    refine lv_icmp_ne (tgt := 43) hx hb dX10_vote_35 (by decide) (fun h => absurd h (by decide)) (fun _ => ?_)
    refine lv_bipush (v := (-5)) hx hb dX10_vote_38 (by decide) ?_
    refine lv_goto (tgt := 48) hx hb dX10_vote_40 (by decide) ?_
    exact z_iretR hx hb hr hlocks rfl rfl dX10_vote_48
  · exact absurd (show inP (nI k).toInt64 0 (n 8 - 1) from hinP) c_1

set_option maxHeartbeats 4000000 in
set_option maxRecDepth 100000 in
theorem c_X10_vote_b1 (l : Launch) (g : va_G) (ct : Nat → ClassId) (sz : Nat) (m0 m1 m2 m3 m4 m5 m6 m7 m8 m9 : Nat) (n hy sl sp : Nat → Int64) (re rh rs : Nat → UInt64) (kp : Nat) (fl : Int32) (tn : Nat) (tx : Nat → Int32) (pa rn : Nat) (rd : Nat → Int32) (hkp : kp ≤ 5) (k : Nat) (hk : k < 6) (hinP : inP (nI k).toInt64 0 (n 8 - 1)) (nD : Nat) (hnD : nD ≤ 6) (hn8 : n 8 = lN nD) (hact : ¬ (n (68 + 2 * k + 1)).toInt32 = 1 ∧ ¬ (n (68 + 2 * k + 1)).toInt32 = (-5)) : Met l yX10_vote wsX10_vote (zRm 2 47) (va_Pc [.ref m0, .int (nI k), .int 1] (zW g ct [zO m0 9 [.ref m1, .ref m2, .ref m3, .ref m4, .ref m5, .ref m6, .ref m7, .int (nI kp), .int fl, .int (nI tn), .ref m8, .int (nI pa), .int (nI rn), .ref m9], zL ct m1 108 n, zL ct m2 540 hy, zL ct m3 108 sl, zL ct m4 108 sp, zD ct m5 33 re, zD ct m6 165 rh, zD ct m7 33 rs, zC ct m8 60 tx, zI ct m9 17 rd] sz)) (zQi g [zO m0 9 [.ref m1, .ref m2, .ref m3, .ref m4, .ref m5, .ref m6, .ref m7, .int (nI (mkp kp)), .int fl, .int (nI tn), .ref m8, .int (nI pa), .int (nI rn), .ref m9], zL ct m1 108 (vp_updL n (68 + 2 * k + 1) (1 : Int32).toInt64), zL ct m2 540 (mhy hy n kp), zL ct m3 108 sl, zL ct m4 108 sp, zD ct m5 33 re, zD ct m6 165 (mrh rh re kp), zD ct m7 33 rs, zC ct m8 60 tx, zI ct m9 17 rd] (mwcI (vp_updL n (68 + 2 * k + 1) (1 : Int32).toInt64) nD) (va_A [zO m0 9 [.ref m1, .ref m2, .ref m3, .ref m4, .ref m5, .ref m6, .ref m7, .int (nI kp), .int fl, .int (nI tn), .ref m8, .int (nI pa), .int (nI rn), .ref m9], zL ct m1 108 n, zL ct m2 540 hy, zL ct m3 108 sl, zL ct m4 108 sp, zD ct m5 33 re, zD ct m6 165 rh, zD ct m7 33 rs, zC ct m8 60 tx, zI ct m9 17 rd] sz)) 0 0 (va_A [zO m0 9 [.ref m1, .ref m2, .ref m3, .ref m4, .ref m5, .ref m6, .ref m7, .int (nI kp), .int fl, .int (nI tn), .ref m8, .int (nI pa), .int (nI rn), .ref m9], zL ct m1 108 n, zL ct m2 540 hy, zL ct m3 108 sl, zL ct m4 108 sp, zD ct m5 33 re, zD ct m6 165 rh, zD ct m7 33 rs, zC ct m8 60 tx, zI ct m9 17 rd] sz) := by
  refine z_write (QA := zQi g [zO m0 9 [.ref m1, .ref m2, .ref m3, .ref m4, .ref m5, .ref m6, .ref m7, .int (nI (mkp kp)), .int fl, .int (nI tn), .ref m8, .int (nI pa), .int (nI rn), .ref m9], zL ct m1 108 (vp_updL n (68 + 2 * k + 1) (1 : Int32).toInt64), zL ct m2 540 (mhy hy n kp), zL ct m3 108 sl, zL ct m4 108 sp, zD ct m5 33 re, zD ct m6 165 (mrh rh re kp), zD ct m7 33 rs, zC ct m8 60 tx, zI ct m9 17 rd] (mwcI (vp_updL n (68 + 2 * k + 1) (1 : Int32).toInt64) nD)) (cc := cX10_vote) (maxL := 3) (ret := some .int) (by decide) rfl (Nat.le_of_ble_eq_true rfl) ?_
  intro p e s m below meth c ls A hx hb hr hml hts hown hlocks hin hP hK hD hNW hA hS hl
  have hown : s.vm.findClass RX10 = some m.cls := hown
  have hl : lv_has ls 3 [(0, .ref m0), (1, .int (nI k)), (2, .int 1)] := hl
  refine lv_aload_n hx hb dX10_vote_0 rfl (lv_at hl 0 rfl) ?_
  refine lv_iload_n hx hb dX10_vote_1 rfl (lv_at hl 1 rfl) ?_
  refine lv_bipush (v := 8) hx hb dX10_vote_2 (by decide) ?_
  refine z_cVi (wc := [zO m0 9 [.ref m1, .ref m2, .ref m3, .ref m4, .ref m5, .ref m6, .ref m7, .int (nI kp), .int fl, .int (nI tn), .ref m8, .int (nI pa), .int (nI rn), .ref m9], zL ct m1 108 n, zL ct m2 540 hy, zL ct m3 108 sl, zL ct m4 108 sp, zD ct m5 33 re, zD ct m6 165 rh, zD ct m7 33 rs, zC ct m8 60 tx, zI ct m9 17 rd]) (As := [.int (nI k), .int 8]) (rest := []) ⟨hx, hb, hml, hown, hts⟩ hK hP [0, 1, 2, 3, 4, 5, 6, 7, 8, 9] rfl (c_X10_isNone l g ct m0 m1 m2 m3 m4 m5 m6 m7 m8 m9 n hy sl sp re rh rs kp fl tn tx pa rn rd (nI k) 8 (by omega)) (cwV 2 hts gX10_vote_X10_isNone rfl rfl rfl (by decide +kernel) ⟨Nat.le_of_ble_eq_true rfl, Nat.le_of_ble_eq_true rfl⟩) 0 rfl rfl rfl hl.1 rfl (Nat.le_of_ble_eq_true rfl) dX10_vote_4 ⟨Nat.zero_le _, Nat.zero_le _⟩ ?_
  refine z_bif_eq (P := (¬ inP (nI k).toInt64 0 (n 8 - 1))) (tgt := 12) hx hb dX10_vote_7 (by decide) (fun c_1 => ?_) (fun c_1 => ?_)
  · refine lv_aload_n hx hb dX10_vote_12 rfl (lv_at hl 0 rfl) ?_
    refine lv_bipush (v := 68) hx hb dX10_vote_13 (by decide) ?_
    refine lv_iconst (v := 2) hx hb dX10_vote_15 (by decide) ?_
    refine lv_iload_n hx hb dX10_vote_16 rfl (lv_at hl 1 rfl) ?_
    refine z_imulN (x := 2) (y := k) hx hb dX10_vote_17 ?_
    refine z_iaddN (x := 68) (y := (2 * k)) hx hb dX10_vote_18 ?_
    refine lv_iconst (v := 1) hx hb dX10_vote_19 (by decide) ?_
    refine z_iaddN (x := (68 + (2 * k))) (y := 1) hx hb dX10_vote_20 ?_
    refine lv_iload_n hx hb dX10_vote_21 rfl (lv_at hl 2 rfl) ?_
    refine lv_if_eq (tgt := 29) hx hb dX10_vote_22 (by decide) (fun h => absurd h (by decide)) (fun _ => ?_)
    refine lv_iconst (v := 1) hx hb dX10_vote_25 (by decide) ?_
    refine lv_goto (tgt := 30) hx hb dX10_vote_26 (by decide) ?_
    refine z_wVi (wc := [zO m0 9 [.ref m1, .ref m2, .ref m3, .ref m4, .ref m5, .ref m6, .ref m7, .int (nI kp), .int fl, .int (nI tn), .ref m8, .int (nI pa), .int (nI rn), .ref m9], zL ct m1 108 n, zL ct m2 540 hy, zL ct m3 108 sl, zL ct m4 108 sp, zD ct m5 33 re, zD ct m6 165 rh, zD ct m7 33 rs, zC ct m8 60 tx, zI ct m9 17 rd]) (wr := []) (w2 := [zO m0 9 [.ref m1, .ref m2, .ref m3, .ref m4, .ref m5, .ref m6, .ref m7, .int (nI (mkp kp)), .int fl, .int (nI tn), .ref m8, .int (nI pa), .int (nI rn), .ref m9], zL ct m1 108 (vp_updL n ((68 + (2 * k)) + 1) (1 : Int32).toInt64), zL ct m2 540 (mhy hy n kp), zL ct m3 108 sl, zL ct m4 108 sp, zD ct m5 33 re, zD ct m6 165 (mrh rh re kp), zD ct m7 33 rs, zC ct m8 60 tx, zI ct m9 17 rd]) (As := [.int (nI ((68 + (2 * k)) + 1)), .int 1]) (rest := []) ⟨hx, hb, hml, hown, hts⟩ hK hP hD hS hNW hA [0, 1, 2, 3, 4, 5, 6, 7, 8, 9] [] [0, 1, 2, 3, 4, 5, 6, 7, 8, 9] rfl rfl rfl rfl rfl rfl (by decide) (c_X10_sets_b l g ct _ m0 m1 m2 m3 m4 m5 m6 m7 m8 m9 n hy sl sp re rh rs kp fl tn tx pa rn rd (by omega) ((68 + (2 * k)) + 1) (by omega) 1 hact.1) (cwV 2 hts gX10_vote_X10_sets rfl rfl rfl (by decide +kernel) ⟨Nat.le_of_ble_eq_true rfl, Nat.le_of_ble_eq_true rfl⟩) 0 rfl rfl rfl hl.1 rfl (Nat.le_of_ble_eq_true rfl) dX10_vote_30 ⟨Nat.zero_le _, Nat.zero_le _⟩ (fun H locs hP hD hS => ?_)
    refine lv_bipush (v := (-5)) hx hb dX10_vote_33 (by decide) ?_
    refine lv_icmp_ne (tgt := 43) hx hb dX10_vote_35 (by decide) (fun c_2 => ?_) (fun c_2 => ?_)
    · refine lv_aload_n hx hb dX10_vote_43 rfl (lv_at hl 0 rfl) ?_
      refine lv_iconst (v := 1) hx hb dX10_vote_44 (by decide) ?_
      refine z_cVi (wc := [zO m0 9 [.ref m1, .ref m2, .ref m3, .ref m4, .ref m5, .ref m6, .ref m7, .int (nI (mkp kp)), .int fl, .int (nI tn), .ref m8, .int (nI pa), .int (nI rn), .ref m9], zL ct m1 108 (vp_updL n ((68 + (2 * k)) + 1) (1 : Int32).toInt64), zL ct m2 540 (mhy hy n kp), zL ct m3 108 sl, zL ct m4 108 sp, zD ct m5 33 re, zD ct m6 165 (mrh rh re kp), zD ct m7 33 rs, zC ct m8 60 tx, zI ct m9 17 rd]) (As := [.int 1]) (rest := []) ⟨hx, hb, hml, hown, hts⟩ hK hP [0, 1, 2, 3, 4, 5, 6, 7, 8, 9] rfl (c_X10_weights1 l g ct m0 m1 m2 m3 m4 m5 m6 m7 m8 m9 (vp_updL n ((68 + (2 * k)) + 1) (1 : Int32).toInt64) (mhy hy n kp) sl sp re (mrh rh re kp) rs (mkp kp) fl tn tx pa rn rd nD (by omega) (by rw [pk_uLn (by omega)]; exact hn8)) (cwV 1 hts gX10_vote_X10_weights rfl rfl rfl (by decide +kernel) ⟨Nat.le_of_ble_eq_true rfl, Nat.le_of_ble_eq_true rfl⟩) 0 rfl rfl rfl hl.1 rfl (Nat.le_of_ble_eq_true rfl) dX10_vote_45 ⟨Nat.zero_le _, Nat.zero_le _⟩ ?_
      exact z_iretW hx hb hr hlocks hS hP hD rfl rfl (Nat.le_refl _) (Nat.le_refl _) dX10_vote_48
    · exact absurd c_2 hact.2
  · exact absurd (show inP (nI k).toInt64 0 (n 8 - 1) from hinP) c_1
