set_option maxHeartbeats 4000000 in
set_option maxRecDepth 100000 in
theorem c_X10_addDistrict_a (l : Launch) (g : va_G) (ct : Nat → ClassId) (m0 m1 m2 m3 m4 m5 m6 m7 m8 m9 : Nat) (n hy sl sp : Nat → Int64) (re rh rs : Nat → UInt64) (kp : Nat) (fl : Int32) (tn : Nat) (tx : Nat → Int32) (pa rn : Nat) (rd : Nat → Int32) (x : Int32) (nD : Nat) (hnD : nD ≤ 6) (hn8 : n 8 = lN nD) (hno : ¬ (inP x.toInt64 1 99 ∧ ¬ nD = 6)) : Met l yX10_addDistrict wsX10_addDistrict (zRm 1 25) (va_Pc [.ref m0, .int x] (zR g ct [zO m0 9 [.ref m1, .ref m2, .ref m3, .ref m4, .ref m5, .ref m6, .ref m7, .int (nI kp), .int fl, .int (nI tn), .ref m8, .int (nI pa), .int (nI rn), .ref m9], zL ct m1 108 n, zL ct m2 540 hy, zL ct m3 108 sl, zL ct m4 108 sp, zD ct m5 33 re, zD ct m6 165 rh, zD ct m7 33 rs, zC ct m8 60 tx, zI ct m9 17 rd])) (vp_Si (fun r => r = if inP x.toInt64 1 99 then -3 else -2)) 0 0 (fun _ => False) := by
  refine z_read (cc := cX10_addDistrict) (maxL := 3) (ret := some .int) (by decide) rfl (Nat.le_of_ble_eq_true rfl) ?_
  intro p e s m below meth c ls hx hb hr hml hts hown hlocks hP hK hl
  have hown : s.vm.findClass RX10 = some m.cls := hown
  have hl : lv_has ls 3 [(0, .ref m0), (1, .int x)] := hl
  have hi_wsX100 : ∀ w ∈ wsX100, w ∈ wsX10_addDistrict := fun w h => List.mem_cons_of_mem _ (List.mem_append_right _ h)
  refine lv_iload_n hx hb dX10_addDistrict_0 rfl (lv_at hl 1 rfl) ?_
  refine lv_i2l (v := x.toInt64) hx hb dX10_addDistrict_1 rfl ?_
  refine lv_lconst (v := 1) hx hb dX10_addDistrict_2 (by decide) ?_
  refine lv_ldc2 (v := 99) hx hb hown (hts (.constantLong RX10 89 (99)) (List.mem_of_getElem? (i := 1) rfl)) dX10_addDistrict_3 ?_
  refine z_cSi (As := [.long x.toInt64, .long 1, .long 99]) (rest := []) ⟨hx, hb, hml, hown, hts⟩ (c_X10_in l x.toInt64 1 99) (va_cwS 3 hts gX10_addDistrict_X10_in rfl rfl rfl (by decide +kernel) ⟨Nat.le_of_ble_eq_true rfl, Nat.le_of_ble_eq_true rfl⟩) rfl hl.1 rfl (Nat.le_of_ble_eq_true rfl) dX10_addDistrict_6 ⟨Nat.zero_le _, Nat.zero_le _⟩ ?_
  refine z_bif_ne (P := (inP x.toInt64 1 99)) (tgt := 15) hx hb dX10_addDistrict_9 (by decide) (fun c_1 => ?_) (fun c_1 => ?_)
  · refine lv_aload_n hx hb dX10_addDistrict_15 rfl (lv_at hl 0 rfl) ?_
    refine va_get (D := g) (ci := 9) (v := .ref m1) (C := RX10) (T := TX10) (N := 14) hx hb hts hi_wsX100 hown hK hP 0 rfl rfl 0 (by decide) (hts (.fieldLink RX10 7 "FloodBarrierModel" "now" "[J") (List.mem_of_getElem? (i := 2) rfl)) (fun _ h9 => h9) rfl dX10_addDistrict_16 ?_
    refine lv_bipush (v := 8) hx hb dX10_addDistrict_19 (by decide) ?_
    refine z_lald (ct := ct) (f := n) (k := 8) hx hb hK hP 1 rfl (by omega) (by decide) dX10_addDistrict_21 ?_
    rw [hn8]
    refine lv_ldc2 (v := 6) hx hb hown (hts (.constantLong RX10 76 (6)) (List.mem_of_getElem? (i := 3) rfl)) dX10_addDistrict_22 ?_
    refine z_lcN_ne (x := nD) (y := 6) (tgt := 32) hx hb (by omega) (by omega) dX10_addDistrict_25 dX10_addDistrict_26 (by decide) (fun c_2 => ?_) (fun c_2 => ?_)
    · refine lv_aload_n hx hb dX10_addDistrict_32 rfl (lv_at hl 0 rfl) ?_
      exact absurd ⟨c_1, c_2⟩ hno
    · refine lv_bipush (v := (-3)) hx hb dX10_addDistrict_29 (by decide) ?_
      exact z_iretR hx hb hr hlocks rfl (by simp [c_1, c_2]) dX10_addDistrict_31
  · refine lv_bipush (v := (-2)) hx hb dX10_addDistrict_12 (by decide) ?_
    exact z_iretR hx hb hr hlocks rfl (by simp [c_1]) dX10_addDistrict_14

set_option maxHeartbeats 4000000 in
set_option maxRecDepth 100000 in
theorem c_X10_addDistrict_b (l : Launch) (g : va_G) (ct : Nat → ClassId) (sz : Nat) (m0 m1 m2 m3 m4 m5 m6 m7 m8 m9 : Nat) (n hy sl sp : Nat → Int64) (re rh rs : Nat → UInt64) (kp : Nat) (fl : Int32) (tn : Nat) (tx : Nat → Int32) (pa rn : Nat) (rd : Nat → Int32) (hkp : kp ≤ 5) (x : Int32) (nD : Nat) (hnD : nD ≤ 6) (hn8 : n 8 = lN nD) (hact : inP x.toInt64 1 99 ∧ ¬ nD = 6) : Met l yX10_addDistrict wsX10_addDistrict (zRm 1 25) (va_Pc [.ref m0, .int x] (zW g ct [zO m0 9 [.ref m1, .ref m2, .ref m3, .ref m4, .ref m5, .ref m6, .ref m7, .int (nI kp), .int fl, .int (nI tn), .ref m8, .int (nI pa), .int (nI rn), .ref m9], zL ct m1 108 n, zL ct m2 540 hy, zL ct m3 108 sl, zL ct m4 108 sp, zD ct m5 33 re, zD ct m6 165 rh, zD ct m7 33 rs, zC ct m8 60 tx, zI ct m9 17 rd] sz)) (zQi g [zO m0 9 [.ref m1, .ref m2, .ref m3, .ref m4, .ref m5, .ref m6, .ref m7, .int (nI (mkp kp)), .int fl, .int (nI tn), .ref m8, .int (nI pa), .int (nI rn), .ref m9], zL ct m1 108 (vp_updL (vp_updL (vp_updL n 8 (lN nD + 1)) (68 + 2 * nD) x.toInt64) (68 + 2 * nD + 1) 0), zL ct m2 540 (mhy hy n kp), zL ct m3 108 sl, zL ct m4 108 sp, zD ct m5 33 re, zD ct m6 165 (mrh rh re kp), zD ct m7 33 rs, zC ct m8 60 tx, zI ct m9 17 rd] (nI nD) (va_A [zO m0 9 [.ref m1, .ref m2, .ref m3, .ref m4, .ref m5, .ref m6, .ref m7, .int (nI kp), .int fl, .int (nI tn), .ref m8, .int (nI pa), .int (nI rn), .ref m9], zL ct m1 108 n, zL ct m2 540 hy, zL ct m3 108 sl, zL ct m4 108 sp, zD ct m5 33 re, zD ct m6 165 rh, zD ct m7 33 rs, zC ct m8 60 tx, zI ct m9 17 rd] sz)) 0 0 (va_A [zO m0 9 [.ref m1, .ref m2, .ref m3, .ref m4, .ref m5, .ref m6, .ref m7, .int (nI kp), .int fl, .int (nI tn), .ref m8, .int (nI pa), .int (nI rn), .ref m9], zL ct m1 108 n, zL ct m2 540 hy, zL ct m3 108 sl, zL ct m4 108 sp, zD ct m5 33 re, zD ct m6 165 rh, zD ct m7 33 rs, zC ct m8 60 tx, zI ct m9 17 rd] sz) := by
  refine z_write (QA := zQi g [zO m0 9 [.ref m1, .ref m2, .ref m3, .ref m4, .ref m5, .ref m6, .ref m7, .int (nI (mkp kp)), .int fl, .int (nI tn), .ref m8, .int (nI pa), .int (nI rn), .ref m9], zL ct m1 108 (vp_updL (vp_updL (vp_updL n 8 (lN nD + 1)) (68 + 2 * nD) x.toInt64) (68 + 2 * nD + 1) 0), zL ct m2 540 (mhy hy n kp), zL ct m3 108 sl, zL ct m4 108 sp, zD ct m5 33 re, zD ct m6 165 (mrh rh re kp), zD ct m7 33 rs, zC ct m8 60 tx, zI ct m9 17 rd] (nI nD)) (cc := cX10_addDistrict) (maxL := 3) (ret := some .int) (by decide) rfl (Nat.le_of_ble_eq_true rfl) ?_
  intro p e s m below meth c ls A hx hb hr hml hts hown hlocks hin hP hK hD hNW hA hS hl
  have hown : s.vm.findClass RX10 = some m.cls := hown
  have hl : lv_has ls 3 [(0, .ref m0), (1, .int x)] := hl
  have hi_wsX100 : ∀ w ∈ wsX100, w ∈ wsX10_addDistrict := fun w h => List.mem_cons_of_mem _ (List.mem_append_right _ h)
  refine lv_iload_n hx hb dX10_addDistrict_0 rfl (lv_at hl 1 rfl) ?_
  refine lv_i2l (v := x.toInt64) hx hb dX10_addDistrict_1 rfl ?_
  refine lv_lconst (v := 1) hx hb dX10_addDistrict_2 (by decide) ?_
  refine lv_ldc2 (v := 99) hx hb hown (hts (.constantLong RX10 89 (99)) (List.mem_of_getElem? (i := 1) rfl)) dX10_addDistrict_3 ?_
  refine z_cSi (As := [.long x.toInt64, .long 1, .long 99]) (rest := []) ⟨hx, hb, hml, hown, hts⟩ (c_X10_in l x.toInt64 1 99) (va_cwS 3 hts gX10_addDistrict_X10_in rfl rfl rfl (by decide +kernel) ⟨Nat.le_of_ble_eq_true rfl, Nat.le_of_ble_eq_true rfl⟩) rfl hl.1 rfl (Nat.le_of_ble_eq_true rfl) dX10_addDistrict_6 ⟨Nat.zero_le _, Nat.zero_le _⟩ ?_
  refine z_bif_ne (P := (inP x.toInt64 1 99)) (tgt := 15) hx hb dX10_addDistrict_9 (by decide) (fun c_1 => ?_) (fun c_1 => ?_)
  · refine lv_aload_n hx hb dX10_addDistrict_15 rfl (lv_at hl 0 rfl) ?_
    refine va_get (D := g) (ci := 9) (v := .ref m1) (C := RX10) (T := TX10) (N := 14) hx hb hts hi_wsX100 hown hK hP 0 rfl rfl 0 (by decide) (hts (.fieldLink RX10 7 "FloodBarrierModel" "now" "[J") (List.mem_of_getElem? (i := 2) rfl)) (fun _ h9 => h9) rfl dX10_addDistrict_16 ?_
    refine lv_bipush (v := 8) hx hb dX10_addDistrict_19 (by decide) ?_
    refine z_lald (ct := ct) (f := n) (k := 8) hx hb hK hP 1 rfl (by omega) (by decide) dX10_addDistrict_21 ?_
    rw [hn8]
    refine lv_ldc2 (v := 6) hx hb hown (hts (.constantLong RX10 76 (6)) (List.mem_of_getElem? (i := 3) rfl)) dX10_addDistrict_22 ?_
    refine z_lcN_ne (x := nD) (y := 6) (tgt := 32) hx hb (by omega) (by omega) dX10_addDistrict_25 dX10_addDistrict_26 (by decide) (fun c_2 => ?_) (fun c_2 => ?_)
    · refine lv_aload_n hx hb dX10_addDistrict_32 rfl (lv_at hl 0 rfl) ?_
      refine z_wVv (wc := [zO m0 9 [.ref m1, .ref m2, .ref m3, .ref m4, .ref m5, .ref m6, .ref m7, .int (nI kp), .int fl, .int (nI tn), .ref m8, .int (nI pa), .int (nI rn), .ref m9], zL ct m1 108 n, zL ct m2 540 hy, zL ct m3 108 sl, zL ct m4 108 sp, zD ct m5 33 re, zD ct m6 165 rh, zD ct m7 33 rs, zC ct m8 60 tx, zI ct m9 17 rd]) (wr := []) (w2 := [zO m0 9 [.ref m1, .ref m2, .ref m3, .ref m4, .ref m5, .ref m6, .ref m7, .int (nI (mkp kp)), .int fl, .int (nI tn), .ref m8, .int (nI pa), .int (nI rn), .ref m9], zL ct m1 108 n, zL ct m2 540 (mhy hy n kp), zL ct m3 108 sl, zL ct m4 108 sp, zD ct m5 33 re, zD ct m6 165 (mrh rh re kp), zD ct m7 33 rs, zC ct m8 60 tx, zI ct m9 17 rd]) (As := []) (rest := []) ⟨hx, hb, hml, hown, hts⟩ hK hP hD hS hNW hA [0, 1, 2, 3, 4, 5, 6, 7, 8, 9] [] [0, 1, 2, 3, 4, 5, 6, 7, 8, 9] rfl rfl rfl rfl rfl rfl (by decide) (c_X10_record l g ct _ m0 m1 m2 m3 m4 m5 m6 m7 m8 m9 n hy sl sp re rh rs kp fl tn tx pa rn rd (by omega)) (cwV 0 hts gX10_addDistrict_X10_record rfl rfl rfl (by decide +kernel) ⟨Nat.le_of_ble_eq_true rfl, Nat.le_of_ble_eq_true rfl⟩) 0 rfl rfl rfl hl.1 rfl (Nat.le_of_ble_eq_true rfl) dX10_addDistrict_33 ⟨Nat.zero_le _, Nat.zero_le _⟩ (fun H locs hP hD hS => ?_)
      refine lv_aload_n hx hb dX10_addDistrict_36 rfl (lv_at hl 0 rfl) ?_
      refine lv_bipush (v := 8) hx hb dX10_addDistrict_37 (by decide) ?_
      refine z_cVi (wc := [zO m0 9 [.ref m1, .ref m2, .ref m3, .ref m4, .ref m5, .ref m6, .ref m7, .int (nI (mkp kp)), .int fl, .int (nI tn), .ref m8, .int (nI pa), .int (nI rn), .ref m9], zL ct m1 108 n, zL ct m2 540 (mhy hy n kp), zL ct m3 108 sl, zL ct m4 108 sp, zD ct m5 33 re, zD ct m6 165 (mrh rh re kp), zD ct m7 33 rs, zC ct m8 60 tx, zI ct m9 17 rd]) (As := [.int 8]) (rest := []) ⟨hx, hb, hml, hown, hts⟩ hK hP [0, 1, 2, 3, 4, 5, 6, 7, 8, 9] rfl (c_X10_cell l g ct m0 m1 m2 m3 m4 m5 m6 m7 m8 m9 n (mhy hy n kp) sl sp re (mrh rh re kp) rs (mkp kp) fl tn tx pa rn rd 8 (by omega)) (cwV 1 hts gX10_addDistrict_X10_cell rfl rfl rfl (by decide +kernel) ⟨Nat.le_of_ble_eq_true rfl, Nat.le_of_ble_eq_true rfl⟩) 0 rfl rfl rfl hl.1 rfl (Nat.le_of_ble_eq_true rfl) dX10_addDistrict_39 ⟨Nat.zero_le _, Nat.zero_le _⟩ ?_
      rw [hn8, lN_i]
      refine lv_istore_n (lv' := [(2, .int (nI nD)), (0, .ref m0), (1, .int x)]) hx hb dX10_addDistrict_42 rfl hl (by decide) rfl (fun ls hl => ?_)
      refine lv_aload_n hx hb dX10_addDistrict_43 rfl (lv_at hl 1 rfl) ?_
      refine va_get (D := g) (ci := 9) (v := .ref m1) (C := RX10) (T := TX10) (N := 14) hx hb hts hi_wsX100 hown hK hP 0 rfl rfl 0 (by decide) (hts (.fieldLink RX10 7 "FloodBarrierModel" "now" "[J") (List.mem_of_getElem? (i := 2) rfl)) (fun _ h9 => h9) rfl dX10_addDistrict_44 ?_
      refine lv_bipush (v := 8) hx hb dX10_addDistrict_47 (by decide) ?_
      refine lv_dup2_11 hx hb dX10_addDistrict_49 rfl rfl ?_
      refine z_lald (ct := ct) (f := n) (k := 8) hx hb hK hP 1 rfl (by omega) (by decide) dX10_addDistrict_50 ?_
      rw [hn8]
      refine lv_lconst (v := 1) hx hb dX10_addDistrict_51 (by decide) ?_
      refine lv_ladd hx hb dX10_addDistrict_52 ?_
      refine z_last (ct := ct) (f := n) (k := 8) (x := ((lN nD) + 1)) hx hb hK hP hD hS 1 rfl (by omega) (by decide) dX10_addDistrict_53 (fun H locs hP hD hS => ?_)
      have hP : va_P g vwCl [zO m0 9 [.ref m1, .ref m2, .ref m3, .ref m4, .ref m5, .ref m6, .ref m7, .int (nI (mkp kp)), .int fl, .int (nI tn), .ref m8, .int (nI pa), .int (nI rn), .ref m9], zL ct m1 108 (vp_updL n 8 ((lN nD) + 1)), zL ct m2 540 (mhy hy n kp), zL ct m3 108 sl, zL ct m4 108 sp, zD ct m5 33 re, zD ct m6 165 (mrh rh re kp), zD ct m7 33 rs, zC ct m8 60 tx, zI ct m9 17 rd] H := hP
      have hD : va_D A [zO m0 9 [.ref m1, .ref m2, .ref m3, .ref m4, .ref m5, .ref m6, .ref m7, .int (nI (mkp kp)), .int fl, .int (nI tn), .ref m8, .int (nI pa), .int (nI rn), .ref m9], zL ct m1 108 (vp_updL n 8 ((lN nD) + 1)), zL ct m2 540 (mhy hy n kp), zL ct m3 108 sl, zL ct m4 108 sp, zD ct m5 33 re, zD ct m6 165 (mrh rh re kp), zD ct m7 33 rs, zC ct m8 60 tx, zI ct m9 17 rd] := hD
      refine lv_aload_n hx hb dX10_addDistrict_54 rfl (lv_at hl 1 rfl) ?_
      refine va_get (D := g) (ci := 9) (v := .ref m1) (C := RX10) (T := TX10) (N := 14) hx hb hts hi_wsX100 hown hK hP 0 rfl rfl 0 (by decide) (hts (.fieldLink RX10 7 "FloodBarrierModel" "now" "[J") (List.mem_of_getElem? (i := 2) rfl)) (fun _ h9 => h9) rfl dX10_addDistrict_55 ?_
      refine lv_bipush (v := 68) hx hb dX10_addDistrict_58 (by decide) ?_
      refine lv_iconst (v := 2) hx hb dX10_addDistrict_60 (by decide) ?_
      refine lv_iload_n hx hb dX10_addDistrict_61 rfl (lv_at hl 0 rfl) ?_
      refine z_imulN (x := 2) (y := nD) hx hb dX10_addDistrict_62 ?_
      refine z_iaddN (x := 68) (y := (2 * nD)) hx hb dX10_addDistrict_63 ?_
      refine lv_iload_n hx hb dX10_addDistrict_64 rfl (lv_at hl 2 rfl) ?_
      refine lv_i2l (v := x.toInt64) hx hb dX10_addDistrict_65 rfl ?_
      refine z_last (ct := ct) (f := (vp_updL n 8 ((lN nD) + 1))) (k := (68 + (2 * nD))) (x := x.toInt64) hx hb hK hP hD hS 1 rfl (by omega) (by decide) dX10_addDistrict_66 (fun H locs hP hD hS => ?_)
      have hP : va_P g vwCl [zO m0 9 [.ref m1, .ref m2, .ref m3, .ref m4, .ref m5, .ref m6, .ref m7, .int (nI (mkp kp)), .int fl, .int (nI tn), .ref m8, .int (nI pa), .int (nI rn), .ref m9], zL ct m1 108 (vp_updL (vp_updL n 8 ((lN nD) + 1)) (68 + (2 * nD)) x.toInt64), zL ct m2 540 (mhy hy n kp), zL ct m3 108 sl, zL ct m4 108 sp, zD ct m5 33 re, zD ct m6 165 (mrh rh re kp), zD ct m7 33 rs, zC ct m8 60 tx, zI ct m9 17 rd] H := hP
      have hD : va_D A [zO m0 9 [.ref m1, .ref m2, .ref m3, .ref m4, .ref m5, .ref m6, .ref m7, .int (nI (mkp kp)), .int fl, .int (nI tn), .ref m8, .int (nI pa), .int (nI rn), .ref m9], zL ct m1 108 (vp_updL (vp_updL n 8 ((lN nD) + 1)) (68 + (2 * nD)) x.toInt64), zL ct m2 540 (mhy hy n kp), zL ct m3 108 sl, zL ct m4 108 sp, zD ct m5 33 re, zD ct m6 165 (mrh rh re kp), zD ct m7 33 rs, zC ct m8 60 tx, zI ct m9 17 rd] := hD
      refine lv_aload_n hx hb dX10_addDistrict_67 rfl (lv_at hl 1 rfl) ?_
      refine va_get (D := g) (ci := 9) (v := .ref m1) (C := RX10) (T := TX10) (N := 14) hx hb hts hi_wsX100 hown hK hP 0 rfl rfl 0 (by decide) (hts (.fieldLink RX10 7 "FloodBarrierModel" "now" "[J") (List.mem_of_getElem? (i := 2) rfl)) (fun _ h9 => h9) rfl dX10_addDistrict_68 ?_
      refine lv_bipush (v := 68) hx hb dX10_addDistrict_71 (by decide) ?_
      refine lv_iconst (v := 2) hx hb dX10_addDistrict_73 (by decide) ?_
      refine lv_iload_n hx hb dX10_addDistrict_74 rfl (lv_at hl 0 rfl) ?_
      refine z_imulN (x := 2) (y := nD) hx hb dX10_addDistrict_75 ?_
      refine z_iaddN (x := 68) (y := (2 * nD)) hx hb dX10_addDistrict_76 ?_
      refine lv_iconst (v := 1) hx hb dX10_addDistrict_77 (by decide) ?_
      refine z_iaddN (x := (68 + (2 * nD))) (y := 1) hx hb dX10_addDistrict_78 ?_
      refine lv_lconst (v := 0) hx hb dX10_addDistrict_79 (by decide) ?_
      refine z_last (ct := ct) (f := (vp_updL (vp_updL n 8 ((lN nD) + 1)) (68 + (2 * nD)) x.toInt64)) (k := ((68 + (2 * nD)) + 1)) (x := 0) hx hb hK hP hD hS 1 rfl (by omega) (by decide) dX10_addDistrict_80 (fun H locs hP hD hS => ?_)
      have hP : va_P g vwCl [zO m0 9 [.ref m1, .ref m2, .ref m3, .ref m4, .ref m5, .ref m6, .ref m7, .int (nI (mkp kp)), .int fl, .int (nI tn), .ref m8, .int (nI pa), .int (nI rn), .ref m9], zL ct m1 108 (vp_updL (vp_updL (vp_updL n 8 ((lN nD) + 1)) (68 + (2 * nD)) x.toInt64) ((68 + (2 * nD)) + 1) 0), zL ct m2 540 (mhy hy n kp), zL ct m3 108 sl, zL ct m4 108 sp, zD ct m5 33 re, zD ct m6 165 (mrh rh re kp), zD ct m7 33 rs, zC ct m8 60 tx, zI ct m9 17 rd] H := hP
      have hD : va_D A [zO m0 9 [.ref m1, .ref m2, .ref m3, .ref m4, .ref m5, .ref m6, .ref m7, .int (nI (mkp kp)), .int fl, .int (nI tn), .ref m8, .int (nI pa), .int (nI rn), .ref m9], zL ct m1 108 (vp_updL (vp_updL (vp_updL n 8 ((lN nD) + 1)) (68 + (2 * nD)) x.toInt64) ((68 + (2 * nD)) + 1) 0), zL ct m2 540 (mhy hy n kp), zL ct m3 108 sl, zL ct m4 108 sp, zD ct m5 33 re, zD ct m6 165 (mrh rh re kp), zD ct m7 33 rs, zC ct m8 60 tx, zI ct m9 17 rd] := hD
      refine lv_iload_n hx hb dX10_addDistrict_81 rfl (lv_at hl 0 rfl) ?_
      exact z_iretW hx hb hr hlocks hS hP hD rfl rfl (Nat.le_refl _) (Nat.le_refl _) dX10_addDistrict_82
    · exact absurd c_2 hact.2
  · exact absurd hact.1 c_1

set_option maxHeartbeats 4000000 in
set_option maxRecDepth 100000 in
theorem c_X10_addStream_a (l : Launch) (g : va_G) (ct : Nat → ClassId) (m0 m1 m2 m3 m4 m5 m6 m7 m8 m9 : Nat) (n hy sl sp : Nat → Int64) (re rh rs : Nat → UInt64) (kp : Nat) (fl : Int32) (tn : Nat) (tx : Nat → Int32) (pa rn : Nat) (rd : Nat → Int32) (x : Int32) (nT : Nat) (hnT : nT ≤ 4) (hn9 : n 9 = lN nT) (hno : ¬ (inP x.toInt64 0 99999 ∧ ¬ nT = 4)) : Met l yX10_addStream wsX10_addStream (zRm 1 25) (va_Pc [.ref m0, .int x] (zR g ct [zO m0 9 [.ref m1, .ref m2, .ref m3, .ref m4, .ref m5, .ref m6, .ref m7, .int (nI kp), .int fl, .int (nI tn), .ref m8, .int (nI pa), .int (nI rn), .ref m9], zL ct m1 108 n, zL ct m2 540 hy, zL ct m3 108 sl, zL ct m4 108 sp, zD ct m5 33 re, zD ct m6 165 rh, zD ct m7 33 rs, zC ct m8 60 tx, zI ct m9 17 rd])) (vp_Si (fun r => r = if inP x.toInt64 0 99999 then -3 else -2)) 0 0 (fun _ => False) := by
  refine z_read (cc := cX10_addStream) (maxL := 2) (ret := some .int) (by decide) rfl (Nat.le_of_ble_eq_true rfl) ?_
  intro p e s m below meth c ls hx hb hr hml hts hown hlocks hP hK hl
  have hown : s.vm.findClass RX10 = some m.cls := hown
  have hl : lv_has ls 2 [(0, .ref m0), (1, .int x)] := hl
  have hi_wsX100 : ∀ w ∈ wsX100, w ∈ wsX10_addStream := fun w h => List.mem_cons_of_mem _ (List.mem_append_right _ h)
  refine lv_iload_n hx hb dX10_addStream_0 rfl (lv_at hl 1 rfl) ?_
  refine lv_i2l (v := x.toInt64) hx hb dX10_addStream_1 rfl ?_
  refine lv_lconst (v := 0) hx hb dX10_addStream_2 (by decide) ?_
  refine lv_ldc2 (v := 99999) hx hb hown (hts (.constantLong RX10 91 (99999)) (List.mem_of_getElem? (i := 1) rfl)) dX10_addStream_3 ?_
  refine z_cSi (As := [.long x.toInt64, .long 0, .long 99999]) (rest := []) ⟨hx, hb, hml, hown, hts⟩ (c_X10_in l x.toInt64 0 99999) (va_cwS 3 hts gX10_addStream_X10_in rfl rfl rfl (by decide +kernel) ⟨Nat.le_of_ble_eq_true rfl, Nat.le_of_ble_eq_true rfl⟩) rfl hl.1 rfl (Nat.le_of_ble_eq_true rfl) dX10_addStream_6 ⟨Nat.zero_le _, Nat.zero_le _⟩ ?_
  refine z_bif_ne (P := (inP x.toInt64 0 99999)) (tgt := 15) hx hb dX10_addStream_9 (by decide) (fun c_1 => ?_) (fun c_1 => ?_)
  · refine lv_aload_n hx hb dX10_addStream_15 rfl (lv_at hl 0 rfl) ?_
    refine va_get (D := g) (ci := 9) (v := .ref m1) (C := RX10) (T := TX10) (N := 14) hx hb hts hi_wsX100 hown hK hP 0 rfl rfl 0 (by decide) (hts (.fieldLink RX10 7 "FloodBarrierModel" "now" "[J") (List.mem_of_getElem? (i := 2) rfl)) (fun _ h9 => h9) rfl dX10_addStream_16 ?_
    refine lv_bipush (v := 9) hx hb dX10_addStream_19 (by decide) ?_
    refine z_lald (ct := ct) (f := n) (k := 9) hx hb hK hP 1 rfl (by omega) (by decide) dX10_addStream_21 ?_
    rw [hn9]
    refine lv_ldc2 (v := 4) hx hb hown (hts (.constantLong RX10 93 (4)) (List.mem_of_getElem? (i := 3) rfl)) dX10_addStream_22 ?_
    refine z_lcN_ne (x := nT) (y := 4) (tgt := 32) hx hb (by omega) (by omega) dX10_addStream_25 dX10_addStream_26 (by decide) (fun c_2 => ?_) (fun c_2 => ?_)
    · refine lv_aload_n hx hb dX10_addStream_32 rfl (lv_at hl 0 rfl) ?_
      exact absurd ⟨c_1, c_2⟩ hno
    · refine lv_bipush (v := (-3)) hx hb dX10_addStream_29 (by decide) ?_
      exact z_iretR hx hb hr hlocks rfl (by simp [c_1, c_2]) dX10_addStream_31
  · refine lv_bipush (v := (-2)) hx hb dX10_addStream_12 (by decide) ?_
    exact z_iretR hx hb hr hlocks rfl (by simp [c_1]) dX10_addStream_14

set_option maxHeartbeats 4000000 in
set_option maxRecDepth 100000 in
theorem c_X10_addStream_b (l : Launch) (g : va_G) (ct : Nat → ClassId) (sz : Nat) (m0 m1 m2 m3 m4 m5 m6 m7 m8 m9 : Nat) (n hy sl sp : Nat → Int64) (re rh rs : Nat → UInt64) (kp : Nat) (fl : Int32) (tn : Nat) (tx : Nat → Int32) (pa rn : Nat) (rd : Nat → Int32) (hkp : kp ≤ 5) (x : Int32) (nT : Nat) (hnT : nT ≤ 4) (hn9 : n 9 = lN nT) (hact : inP x.toInt64 0 99999 ∧ ¬ nT = 4) : Met l yX10_addStream wsX10_addStream (zRm 1 25) (va_Pc [.ref m0, .int x] (zW g ct [zO m0 9 [.ref m1, .ref m2, .ref m3, .ref m4, .ref m5, .ref m6, .ref m7, .int (nI kp), .int fl, .int (nI tn), .ref m8, .int (nI pa), .int (nI rn), .ref m9], zL ct m1 108 n, zL ct m2 540 hy, zL ct m3 108 sl, zL ct m4 108 sp, zD ct m5 33 re, zD ct m6 165 rh, zD ct m7 33 rs, zC ct m8 60 tx, zI ct m9 17 rd] sz)) (zQi g [zO m0 9 [.ref m1, .ref m2, .ref m3, .ref m4, .ref m5, .ref m6, .ref m7, .int (nI (mkp kp)), .int fl, .int (nI tn), .ref m8, .int (nI pa), .int (nI rn), .ref m9], zL ct m1 108 (vp_updL (vp_updL n (80 + nT) x.toInt64) 9 ((vp_updL n (80 + nT) x.toInt64) 9 + 1)), zL ct m2 540 (mhy hy n kp), zL ct m3 108 sl, zL ct m4 108 sp, zD ct m5 33 re, zD ct m6 165 (mrh rh re kp), zD ct m7 33 rs, zC ct m8 60 tx, zI ct m9 17 rd] ((vp_updL (vp_updL n (80 + nT) x.toInt64) 9 ((vp_updL n (80 + nT) x.toInt64) 9 + 1) 9).toInt32 - 1) (va_A [zO m0 9 [.ref m1, .ref m2, .ref m3, .ref m4, .ref m5, .ref m6, .ref m7, .int (nI kp), .int fl, .int (nI tn), .ref m8, .int (nI pa), .int (nI rn), .ref m9], zL ct m1 108 n, zL ct m2 540 hy, zL ct m3 108 sl, zL ct m4 108 sp, zD ct m5 33 re, zD ct m6 165 rh, zD ct m7 33 rs, zC ct m8 60 tx, zI ct m9 17 rd] sz)) 0 0 (va_A [zO m0 9 [.ref m1, .ref m2, .ref m3, .ref m4, .ref m5, .ref m6, .ref m7, .int (nI kp), .int fl, .int (nI tn), .ref m8, .int (nI pa), .int (nI rn), .ref m9], zL ct m1 108 n, zL ct m2 540 hy, zL ct m3 108 sl, zL ct m4 108 sp, zD ct m5 33 re, zD ct m6 165 rh, zD ct m7 33 rs, zC ct m8 60 tx, zI ct m9 17 rd] sz) := by
  refine z_write (QA := zQi g [zO m0 9 [.ref m1, .ref m2, .ref m3, .ref m4, .ref m5, .ref m6, .ref m7, .int (nI (mkp kp)), .int fl, .int (nI tn), .ref m8, .int (nI pa), .int (nI rn), .ref m9], zL ct m1 108 (vp_updL (vp_updL n (80 + nT) x.toInt64) 9 ((vp_updL n (80 + nT) x.toInt64) 9 + 1)), zL ct m2 540 (mhy hy n kp), zL ct m3 108 sl, zL ct m4 108 sp, zD ct m5 33 re, zD ct m6 165 (mrh rh re kp), zD ct m7 33 rs, zC ct m8 60 tx, zI ct m9 17 rd] ((vp_updL (vp_updL n (80 + nT) x.toInt64) 9 ((vp_updL n (80 + nT) x.toInt64) 9 + 1) 9).toInt32 - 1)) (cc := cX10_addStream) (maxL := 2) (ret := some .int) (by decide) rfl (Nat.le_of_ble_eq_true rfl) ?_
  intro p e s m below meth c ls A hx hb hr hml hts hown hlocks hin hP hK hD hNW hA hS hl
  have hown : s.vm.findClass RX10 = some m.cls := hown
  have hl : lv_has ls 2 [(0, .ref m0), (1, .int x)] := hl
  have hi_wsX100 : ∀ w ∈ wsX100, w ∈ wsX10_addStream := fun w h => List.mem_cons_of_mem _ (List.mem_append_right _ h)
  refine lv_iload_n hx hb dX10_addStream_0 rfl (lv_at hl 1 rfl) ?_
  refine lv_i2l (v := x.toInt64) hx hb dX10_addStream_1 rfl ?_
  refine lv_lconst (v := 0) hx hb dX10_addStream_2 (by decide) ?_
  refine lv_ldc2 (v := 99999) hx hb hown (hts (.constantLong RX10 91 (99999)) (List.mem_of_getElem? (i := 1) rfl)) dX10_addStream_3 ?_
  refine z_cSi (As := [.long x.toInt64, .long 0, .long 99999]) (rest := []) ⟨hx, hb, hml, hown, hts⟩ (c_X10_in l x.toInt64 0 99999) (va_cwS 3 hts gX10_addStream_X10_in rfl rfl rfl (by decide +kernel) ⟨Nat.le_of_ble_eq_true rfl, Nat.le_of_ble_eq_true rfl⟩) rfl hl.1 rfl (Nat.le_of_ble_eq_true rfl) dX10_addStream_6 ⟨Nat.zero_le _, Nat.zero_le _⟩ ?_
  refine z_bif_ne (P := (inP x.toInt64 0 99999)) (tgt := 15) hx hb dX10_addStream_9 (by decide) (fun c_1 => ?_) (fun c_1 => ?_)
  · refine lv_aload_n hx hb dX10_addStream_15 rfl (lv_at hl 0 rfl) ?_
    refine va_get (D := g) (ci := 9) (v := .ref m1) (C := RX10) (T := TX10) (N := 14) hx hb hts hi_wsX100 hown hK hP 0 rfl rfl 0 (by decide) (hts (.fieldLink RX10 7 "FloodBarrierModel" "now" "[J") (List.mem_of_getElem? (i := 2) rfl)) (fun _ h9 => h9) rfl dX10_addStream_16 ?_
    refine lv_bipush (v := 9) hx hb dX10_addStream_19 (by decide) ?_
    refine z_lald (ct := ct) (f := n) (k := 9) hx hb hK hP 1 rfl (by omega) (by decide) dX10_addStream_21 ?_
    rw [hn9]
    refine lv_ldc2 (v := 4) hx hb hown (hts (.constantLong RX10 93 (4)) (List.mem_of_getElem? (i := 3) rfl)) dX10_addStream_22 ?_
    refine z_lcN_ne (x := nT) (y := 4) (tgt := 32) hx hb (by omega) (by omega) dX10_addStream_25 dX10_addStream_26 (by decide) (fun c_2 => ?_) (fun c_2 => ?_)
    · refine lv_aload_n hx hb dX10_addStream_32 rfl (lv_at hl 0 rfl) ?_
      refine z_wVv (wc := [zO m0 9 [.ref m1, .ref m2, .ref m3, .ref m4, .ref m5, .ref m6, .ref m7, .int (nI kp), .int fl, .int (nI tn), .ref m8, .int (nI pa), .int (nI rn), .ref m9], zL ct m1 108 n, zL ct m2 540 hy, zL ct m3 108 sl, zL ct m4 108 sp, zD ct m5 33 re, zD ct m6 165 rh, zD ct m7 33 rs, zC ct m8 60 tx, zI ct m9 17 rd]) (wr := []) (w2 := [zO m0 9 [.ref m1, .ref m2, .ref m3, .ref m4, .ref m5, .ref m6, .ref m7, .int (nI (mkp kp)), .int fl, .int (nI tn), .ref m8, .int (nI pa), .int (nI rn), .ref m9], zL ct m1 108 n, zL ct m2 540 (mhy hy n kp), zL ct m3 108 sl, zL ct m4 108 sp, zD ct m5 33 re, zD ct m6 165 (mrh rh re kp), zD ct m7 33 rs, zC ct m8 60 tx, zI ct m9 17 rd]) (As := []) (rest := []) ⟨hx, hb, hml, hown, hts⟩ hK hP hD hS hNW hA [0, 1, 2, 3, 4, 5, 6, 7, 8, 9] [] [0, 1, 2, 3, 4, 5, 6, 7, 8, 9] rfl rfl rfl rfl rfl rfl (by decide) (c_X10_record l g ct _ m0 m1 m2 m3 m4 m5 m6 m7 m8 m9 n hy sl sp re rh rs kp fl tn tx pa rn rd (by omega)) (cwV 0 hts gX10_addStream_X10_record rfl rfl rfl (by decide +kernel) ⟨Nat.le_of_ble_eq_true rfl, Nat.le_of_ble_eq_true rfl⟩) 0 rfl rfl rfl hl.1 rfl (Nat.le_of_ble_eq_true rfl) dX10_addStream_33 ⟨Nat.zero_le _, Nat.zero_le _⟩ (fun H locs hP hD hS => ?_)
      refine lv_aload_n hx hb dX10_addStream_36 rfl (lv_at hl 0 rfl) ?_
      refine va_get (D := g) (ci := 9) (v := .ref m1) (C := RX10) (T := TX10) (N := 14) hx hb hts hi_wsX100 hown hK hP 0 rfl rfl 0 (by decide) (hts (.fieldLink RX10 7 "FloodBarrierModel" "now" "[J") (List.mem_of_getElem? (i := 2) rfl)) (fun _ h9 => h9) rfl dX10_addStream_37 ?_
      refine lv_bipush (v := 80) hx hb dX10_addStream_40 (by decide) ?_
      refine lv_aload_n hx hb dX10_addStream_42 rfl (lv_at hl 0 rfl) ?_
      refine lv_bipush (v := 9) hx hb dX10_addStream_43 (by decide) ?_
      refine z_cVi (wc := [zO m0 9 [.ref m1, .ref m2, .ref m3, .ref m4, .ref m5, .ref m6, .ref m7, .int (nI (mkp kp)), .int fl, .int (nI tn), .ref m8, .int (nI pa), .int (nI rn), .ref m9], zL ct m1 108 n, zL ct m2 540 (mhy hy n kp), zL ct m3 108 sl, zL ct m4 108 sp, zD ct m5 33 re, zD ct m6 165 (mrh rh re kp), zD ct m7 33 rs, zC ct m8 60 tx, zI ct m9 17 rd]) (As := [.int 9]) (rest := [.int 80, .ref m1]) ⟨hx, hb, hml, hown, hts⟩ hK hP [0, 1, 2, 3, 4, 5, 6, 7, 8, 9] rfl (c_X10_cell l g ct m0 m1 m2 m3 m4 m5 m6 m7 m8 m9 n (mhy hy n kp) sl sp re (mrh rh re kp) rs (mkp kp) fl tn tx pa rn rd 9 (by omega)) (cwV 1 hts gX10_addStream_X10_cell rfl rfl rfl (by decide +kernel) ⟨Nat.le_of_ble_eq_true rfl, Nat.le_of_ble_eq_true rfl⟩) 0 rfl rfl rfl hl.1 rfl (Nat.le_of_ble_eq_true rfl) dX10_addStream_45 ⟨Nat.zero_le _, Nat.zero_le _⟩ ?_
      rw [hn9, lN_i]
      refine z_iaddN (x := 80) (y := nT) hx hb dX10_addStream_48 ?_
      refine lv_iload_n hx hb dX10_addStream_49 rfl (lv_at hl 1 rfl) ?_
      refine lv_i2l (v := x.toInt64) hx hb dX10_addStream_50 rfl ?_
      refine z_last (ct := ct) (f := n) (k := (80 + nT)) (x := x.toInt64) hx hb hK hP hD hS 1 rfl (by omega) (by decide) dX10_addStream_51 (fun H locs hP hD hS => ?_)
      have hP : va_P g vwCl [zO m0 9 [.ref m1, .ref m2, .ref m3, .ref m4, .ref m5, .ref m6, .ref m7, .int (nI (mkp kp)), .int fl, .int (nI tn), .ref m8, .int (nI pa), .int (nI rn), .ref m9], zL ct m1 108 (vp_updL n (80 + nT) x.toInt64), zL ct m2 540 (mhy hy n kp), zL ct m3 108 sl, zL ct m4 108 sp, zD ct m5 33 re, zD ct m6 165 (mrh rh re kp), zD ct m7 33 rs, zC ct m8 60 tx, zI ct m9 17 rd] H := hP
      have hD : va_D A [zO m0 9 [.ref m1, .ref m2, .ref m3, .ref m4, .ref m5, .ref m6, .ref m7, .int (nI (mkp kp)), .int fl, .int (nI tn), .ref m8, .int (nI pa), .int (nI rn), .ref m9], zL ct m1 108 (vp_updL n (80 + nT) x.toInt64), zL ct m2 540 (mhy hy n kp), zL ct m3 108 sl, zL ct m4 108 sp, zD ct m5 33 re, zD ct m6 165 (mrh rh re kp), zD ct m7 33 rs, zC ct m8 60 tx, zI ct m9 17 rd] := hD
      refine lv_aload_n hx hb dX10_addStream_52 rfl (lv_at hl 0 rfl) ?_
      refine va_get (D := g) (ci := 9) (v := .ref m1) (C := RX10) (T := TX10) (N := 14) hx hb hts hi_wsX100 hown hK hP 0 rfl rfl 0 (by decide) (hts (.fieldLink RX10 7 "FloodBarrierModel" "now" "[J") (List.mem_of_getElem? (i := 2) rfl)) (fun _ h9 => h9) rfl dX10_addStream_53 ?_
      refine lv_bipush (v := 9) hx hb dX10_addStream_56 (by decide) ?_
      refine lv_dup2_11 hx hb dX10_addStream_58 rfl rfl ?_
      refine z_lald (ct := ct) (f := (vp_updL n (80 + nT) x.toInt64)) (k := 9) hx hb hK hP 1 rfl (by omega) (by decide) dX10_addStream_59 ?_
      refine lv_lconst (v := 1) hx hb dX10_addStream_60 (by decide) ?_
      refine lv_ladd hx hb dX10_addStream_61 ?_
      refine z_last (ct := ct) (f := (vp_updL n (80 + nT) x.toInt64)) (k := 9) (x := (((vp_updL n (80 + nT) x.toInt64) 9) + 1)) hx hb hK hP hD hS 1 rfl (by omega) (by decide) dX10_addStream_62 (fun H locs hP hD hS => ?_)
      have hP : va_P g vwCl [zO m0 9 [.ref m1, .ref m2, .ref m3, .ref m4, .ref m5, .ref m6, .ref m7, .int (nI (mkp kp)), .int fl, .int (nI tn), .ref m8, .int (nI pa), .int (nI rn), .ref m9], zL ct m1 108 (vp_updL (vp_updL n (80 + nT) x.toInt64) 9 (((vp_updL n (80 + nT) x.toInt64) 9) + 1)), zL ct m2 540 (mhy hy n kp), zL ct m3 108 sl, zL ct m4 108 sp, zD ct m5 33 re, zD ct m6 165 (mrh rh re kp), zD ct m7 33 rs, zC ct m8 60 tx, zI ct m9 17 rd] H := hP
      have hD : va_D A [zO m0 9 [.ref m1, .ref m2, .ref m3, .ref m4, .ref m5, .ref m6, .ref m7, .int (nI (mkp kp)), .int fl, .int (nI tn), .ref m8, .int (nI pa), .int (nI rn), .ref m9], zL ct m1 108 (vp_updL (vp_updL n (80 + nT) x.toInt64) 9 (((vp_updL n (80 + nT) x.toInt64) 9) + 1)), zL ct m2 540 (mhy hy n kp), zL ct m3 108 sl, zL ct m4 108 sp, zD ct m5 33 re, zD ct m6 165 (mrh rh re kp), zD ct m7 33 rs, zC ct m8 60 tx, zI ct m9 17 rd] := hD
      refine lv_aload_n hx hb dX10_addStream_63 rfl (lv_at hl 0 rfl) ?_
      refine lv_bipush (v := 9) hx hb dX10_addStream_64 (by decide) ?_
      refine z_cVi (wc := [zO m0 9 [.ref m1, .ref m2, .ref m3, .ref m4, .ref m5, .ref m6, .ref m7, .int (nI (mkp kp)), .int fl, .int (nI tn), .ref m8, .int (nI pa), .int (nI rn), .ref m9], zL ct m1 108 (vp_updL (vp_updL n (80 + nT) x.toInt64) 9 (((vp_updL n (80 + nT) x.toInt64) 9) + 1)), zL ct m2 540 (mhy hy n kp), zL ct m3 108 sl, zL ct m4 108 sp, zD ct m5 33 re, zD ct m6 165 (mrh rh re kp), zD ct m7 33 rs, zC ct m8 60 tx, zI ct m9 17 rd]) (As := [.int 9]) (rest := []) ⟨hx, hb, hml, hown, hts⟩ hK hP [0, 1, 2, 3, 4, 5, 6, 7, 8, 9] rfl (c_X10_cell l g ct m0 m1 m2 m3 m4 m5 m6 m7 m8 m9 (vp_updL (vp_updL n (80 + nT) x.toInt64) 9 (((vp_updL n (80 + nT) x.toInt64) 9) + 1)) (mhy hy n kp) sl sp re (mrh rh re kp) rs (mkp kp) fl tn tx pa rn rd 9 (by omega)) (cwV 1 hts gX10_addStream_X10_cell rfl rfl rfl (by decide +kernel) ⟨Nat.le_of_ble_eq_true rfl, Nat.le_of_ble_eq_true rfl⟩) 0 rfl rfl rfl hl.1 rfl (Nat.le_of_ble_eq_true rfl) dX10_addStream_66 ⟨Nat.zero_le _, Nat.zero_le _⟩ ?_
      refine lv_iconst (v := 1) hx hb dX10_addStream_69 (by decide) ?_
      refine lv_isub hx hb dX10_addStream_70 ?_
      exact z_iretW hx hb hr hlocks hS hP hD rfl rfl (Nat.le_refl _) (Nat.le_refl _) dX10_addStream_71
    · exact absurd c_2 hact.2
  · exact absurd hact.1 c_1

set_option maxHeartbeats 4000000 in
set_option maxRecDepth 100000 in
theorem c_X10_addPump_a (l : Launch) (g : va_G) (ct : Nat → ClassId) (m0 m1 m2 m3 m4 m5 m6 m7 m8 m9 : Nat) (n hy sl sp : Nat → Int64) (re rh rs : Nat → UInt64) (kp : Nat) (fl : Int32) (tn : Nat) (tx : Nat → Int32) (pa rn : Nat) (rd : Nat → Int32) (x y : Int32) (nP : Nat) (hnP : nP ≤ 6) (hn10 : n 10 = lN nP) (hno : ¬ (inP x.toInt64 1 99 ∧ inP y.toInt64 1 99999 ∧ ¬ nP = 6)) : Met l yX10_addPump wsX10_addPump (zRm 1 25) (va_Pc [.ref m0, .int x, .int y] (zR g ct [zO m0 9 [.ref m1, .ref m2, .ref m3, .ref m4, .ref m5, .ref m6, .ref m7, .int (nI kp), .int fl, .int (nI tn), .ref m8, .int (nI pa), .int (nI rn), .ref m9], zL ct m1 108 n, zL ct m2 540 hy, zL ct m3 108 sl, zL ct m4 108 sp, zD ct m5 33 re, zD ct m6 165 rh, zD ct m7 33 rs, zC ct m8 60 tx, zI ct m9 17 rd])) (vp_Si (fun r => r = if inP x.toInt64 1 99 ∧ inP y.toInt64 1 99999 then -3 else -2)) 0 0 (fun _ => False) := by
  refine z_read (cc := cX10_addPump) (maxL := 4) (ret := some .int) (by decide) rfl (Nat.le_of_ble_eq_true rfl) ?_
  intro p e s m below meth c ls hx hb hr hml hts hown hlocks hP hK hl
  have hown : s.vm.findClass RX10 = some m.cls := hown
  have hl : lv_has ls 4 [(0, .ref m0), (1, .int x), (2, .int y)] := hl
  have hi_wsX100 : ∀ w ∈ wsX100, w ∈ wsX10_addPump := fun w h => List.mem_cons_of_mem _ (List.mem_append_right _ h)
  refine lv_iload_n hx hb dX10_addPump_0 rfl (lv_at hl 1 rfl) ?_
  refine lv_i2l (v := x.toInt64) hx hb dX10_addPump_1 rfl ?_
  refine lv_lconst (v := 1) hx hb dX10_addPump_2 (by decide) ?_
  refine lv_ldc2 (v := 99) hx hb hown (hts (.constantLong RX10 89 (99)) (List.mem_of_getElem? (i := 1) rfl)) dX10_addPump_3 ?_
  refine z_cSi (As := [.long x.toInt64, .long 1, .long 99]) (rest := []) ⟨hx, hb, hml, hown, hts⟩ (c_X10_in l x.toInt64 1 99) (va_cwS 3 hts gX10_addPump_X10_in rfl rfl rfl (by decide +kernel) ⟨Nat.le_of_ble_eq_true rfl, Nat.le_of_ble_eq_true rfl⟩) rfl hl.1 rfl (Nat.le_of_ble_eq_true rfl) dX10_addPump_6 ⟨Nat.zero_le _, Nat.zero_le _⟩ ?_
  refine z_bif_eq (P := (inP x.toInt64 1 99)) (tgt := 24) hx hb dX10_addPump_9 (by decide) (fun c_1 => ?_) (fun c_1 => ?_)
  · refine lv_bipush (v := (-2)) hx hb dX10_addPump_24 (by decide) ?_
    exact z_iretR hx hb hr hlocks rfl (by simp [c_1]) dX10_addPump_26
  · refine lv_iload_n hx hb dX10_addPump_12 rfl (lv_at hl 2 rfl) ?_
    refine lv_i2l (v := y.toInt64) hx hb dX10_addPump_13 rfl ?_
    refine lv_lconst (v := 1) hx hb dX10_addPump_14 (by decide) ?_
    refine lv_ldc2 (v := 99999) hx hb hown (hts (.constantLong RX10 91 (99999)) (List.mem_of_getElem? (i := 2) rfl)) dX10_addPump_15 ?_
    refine z_cSi (As := [.long y.toInt64, .long 1, .long 99999]) (rest := []) ⟨hx, hb, hml, hown, hts⟩ (c_X10_in l y.toInt64 1 99999) (va_cwS 3 hts gX10_addPump_X10_in rfl rfl rfl (by decide +kernel) ⟨Nat.le_of_ble_eq_true rfl, Nat.le_of_ble_eq_true rfl⟩) rfl hl.1 rfl (Nat.le_of_ble_eq_true rfl) dX10_addPump_18 ⟨Nat.zero_le _, Nat.zero_le _⟩ ?_
    refine z_bif_ne (P := (inP y.toInt64 1 99999)) (tgt := 27) hx hb dX10_addPump_21 (by decide) (fun c_2 => ?_) (fun c_2 => ?_)
    · refine lv_aload_n hx hb dX10_addPump_27 rfl (lv_at hl 0 rfl) ?_
      refine va_get (D := g) (ci := 9) (v := .ref m1) (C := RX10) (T := TX10) (N := 14) hx hb hts hi_wsX100 hown hK hP 0 rfl rfl 0 (by decide) (hts (.fieldLink RX10 7 "FloodBarrierModel" "now" "[J") (List.mem_of_getElem? (i := 3) rfl)) (fun _ h9 => h9) rfl dX10_addPump_28 ?_
      refine lv_bipush (v := 10) hx hb dX10_addPump_31 (by decide) ?_
      refine z_lald (ct := ct) (f := n) (k := 10) hx hb hK hP 1 rfl (by omega) (by decide) dX10_addPump_33 ?_
      rw [hn10]
      refine lv_ldc2 (v := 6) hx hb hown (hts (.constantLong RX10 76 (6)) (List.mem_of_getElem? (i := 4) rfl)) dX10_addPump_34 ?_
      refine z_lcN_ne (x := nP) (y := 6) (tgt := 44) hx hb (by omega) (by omega) dX10_addPump_37 dX10_addPump_38 (by decide) (fun c_3 => ?_) (fun c_3 => ?_)
      · refine lv_aload_n hx hb dX10_addPump_44 rfl (lv_at hl 0 rfl) ?_
        exact absurd ⟨c_1, c_2, c_3⟩ hno
      · refine lv_bipush (v := (-3)) hx hb dX10_addPump_41 (by decide) ?_
        exact z_iretR hx hb hr hlocks rfl (by simp [c_1, c_2, c_3]) dX10_addPump_43
    · refine lv_bipush (v := (-2)) hx hb dX10_addPump_24 (by decide) ?_
      exact z_iretR hx hb hr hlocks rfl (by simp [c_1, c_2]) dX10_addPump_26

set_option maxHeartbeats 4000000 in
set_option maxRecDepth 100000 in
theorem c_X10_addPump_b (l : Launch) (g : va_G) (ct : Nat → ClassId) (sz : Nat) (m0 m1 m2 m3 m4 m5 m6 m7 m8 m9 : Nat) (n hy sl sp : Nat → Int64) (re rh rs : Nat → UInt64) (kp : Nat) (fl : Int32) (tn : Nat) (tx : Nat → Int32) (pa rn : Nat) (rd : Nat → Int32) (hkp : kp ≤ 5) (x y : Int32) (nP : Nat) (hnP : nP ≤ 6) (hn10 : n 10 = lN nP) (hact : inP x.toInt64 1 99 ∧ inP y.toInt64 1 99999 ∧ ¬ nP = 6) : Met l yX10_addPump wsX10_addPump (zRm 1 25) (va_Pc [.ref m0, .int x, .int y] (zW g ct [zO m0 9 [.ref m1, .ref m2, .ref m3, .ref m4, .ref m5, .ref m6, .ref m7, .int (nI kp), .int fl, .int (nI tn), .ref m8, .int (nI pa), .int (nI rn), .ref m9], zL ct m1 108 n, zL ct m2 540 hy, zL ct m3 108 sl, zL ct m4 108 sp, zD ct m5 33 re, zD ct m6 165 rh, zD ct m7 33 rs, zC ct m8 60 tx, zI ct m9 17 rd] sz)) (zQi g [zO m0 9 [.ref m1, .ref m2, .ref m3, .ref m4, .ref m5, .ref m6, .ref m7, .int (nI (mkp kp)), .int fl, .int (nI tn), .ref m8, .int (nI pa), .int (nI rn), .ref m9], zL ct m1 108 (vp_updL (vp_updL (vp_updL (vp_updL (vp_updL n 10 (lN nP + 1)) (84 + 4 * nP + 0) x.toInt64) (84 + 4 * nP + 1) y.toInt64) (84 + 4 * nP + 2) 0) (84 + 4 * nP + 3) 0), zL ct m2 540 (mhy hy n kp), zL ct m3 108 sl, zL ct m4 108 sp, zD ct m5 33 re, zD ct m6 165 (mrh rh re kp), zD ct m7 33 rs, zC ct m8 60 tx, zI ct m9 17 rd] (nI nP) (va_A [zO m0 9 [.ref m1, .ref m2, .ref m3, .ref m4, .ref m5, .ref m6, .ref m7, .int (nI kp), .int fl, .int (nI tn), .ref m8, .int (nI pa), .int (nI rn), .ref m9], zL ct m1 108 n, zL ct m2 540 hy, zL ct m3 108 sl, zL ct m4 108 sp, zD ct m5 33 re, zD ct m6 165 rh, zD ct m7 33 rs, zC ct m8 60 tx, zI ct m9 17 rd] sz)) 0 0 (va_A [zO m0 9 [.ref m1, .ref m2, .ref m3, .ref m4, .ref m5, .ref m6, .ref m7, .int (nI kp), .int fl, .int (nI tn), .ref m8, .int (nI pa), .int (nI rn), .ref m9], zL ct m1 108 n, zL ct m2 540 hy, zL ct m3 108 sl, zL ct m4 108 sp, zD ct m5 33 re, zD ct m6 165 rh, zD ct m7 33 rs, zC ct m8 60 tx, zI ct m9 17 rd] sz) := by
  refine z_write (QA := zQi g [zO m0 9 [.ref m1, .ref m2, .ref m3, .ref m4, .ref m5, .ref m6, .ref m7, .int (nI (mkp kp)), .int fl, .int (nI tn), .ref m8, .int (nI pa), .int (nI rn), .ref m9], zL ct m1 108 (vp_updL (vp_updL (vp_updL (vp_updL (vp_updL n 10 (lN nP + 1)) (84 + 4 * nP + 0) x.toInt64) (84 + 4 * nP + 1) y.toInt64) (84 + 4 * nP + 2) 0) (84 + 4 * nP + 3) 0), zL ct m2 540 (mhy hy n kp), zL ct m3 108 sl, zL ct m4 108 sp, zD ct m5 33 re, zD ct m6 165 (mrh rh re kp), zD ct m7 33 rs, zC ct m8 60 tx, zI ct m9 17 rd] (nI nP)) (cc := cX10_addPump) (maxL := 4) (ret := some .int) (by decide) rfl (Nat.le_of_ble_eq_true rfl) ?_
  intro p e s m below meth c ls A hx hb hr hml hts hown hlocks hin hP hK hD hNW hA hS hl
  have hown : s.vm.findClass RX10 = some m.cls := hown
  have hl : lv_has ls 4 [(0, .ref m0), (1, .int x), (2, .int y)] := hl
  have hi_wsX100 : ∀ w ∈ wsX100, w ∈ wsX10_addPump := fun w h => List.mem_cons_of_mem _ (List.mem_append_right _ h)
  refine lv_iload_n hx hb dX10_addPump_0 rfl (lv_at hl 1 rfl) ?_
  refine lv_i2l (v := x.toInt64) hx hb dX10_addPump_1 rfl ?_
  refine lv_lconst (v := 1) hx hb dX10_addPump_2 (by decide) ?_
  refine lv_ldc2 (v := 99) hx hb hown (hts (.constantLong RX10 89 (99)) (List.mem_of_getElem? (i := 1) rfl)) dX10_addPump_3 ?_
  refine z_cSi (As := [.long x.toInt64, .long 1, .long 99]) (rest := []) ⟨hx, hb, hml, hown, hts⟩ (c_X10_in l x.toInt64 1 99) (va_cwS 3 hts gX10_addPump_X10_in rfl rfl rfl (by decide +kernel) ⟨Nat.le_of_ble_eq_true rfl, Nat.le_of_ble_eq_true rfl⟩) rfl hl.1 rfl (Nat.le_of_ble_eq_true rfl) dX10_addPump_6 ⟨Nat.zero_le _, Nat.zero_le _⟩ ?_
  refine z_bif_eq (P := (inP x.toInt64 1 99)) (tgt := 24) hx hb dX10_addPump_9 (by decide) (fun c_1 => ?_) (fun c_1 => ?_)
  · exact absurd hact.1 c_1
  · refine lv_iload_n hx hb dX10_addPump_12 rfl (lv_at hl 2 rfl) ?_
    refine lv_i2l (v := y.toInt64) hx hb dX10_addPump_13 rfl ?_
    refine lv_lconst (v := 1) hx hb dX10_addPump_14 (by decide) ?_
    refine lv_ldc2 (v := 99999) hx hb hown (hts (.constantLong RX10 91 (99999)) (List.mem_of_getElem? (i := 2) rfl)) dX10_addPump_15 ?_
    refine z_cSi (As := [.long y.toInt64, .long 1, .long 99999]) (rest := []) ⟨hx, hb, hml, hown, hts⟩ (c_X10_in l y.toInt64 1 99999) (va_cwS 3 hts gX10_addPump_X10_in rfl rfl rfl (by decide +kernel) ⟨Nat.le_of_ble_eq_true rfl, Nat.le_of_ble_eq_true rfl⟩) rfl hl.1 rfl (Nat.le_of_ble_eq_true rfl) dX10_addPump_18 ⟨Nat.zero_le _, Nat.zero_le _⟩ ?_
    refine z_bif_ne (P := (inP y.toInt64 1 99999)) (tgt := 27) hx hb dX10_addPump_21 (by decide) (fun c_2 => ?_) (fun c_2 => ?_)
    · refine lv_aload_n hx hb dX10_addPump_27 rfl (lv_at hl 0 rfl) ?_
      refine va_get (D := g) (ci := 9) (v := .ref m1) (C := RX10) (T := TX10) (N := 14) hx hb hts hi_wsX100 hown hK hP 0 rfl rfl 0 (by decide) (hts (.fieldLink RX10 7 "FloodBarrierModel" "now" "[J") (List.mem_of_getElem? (i := 3) rfl)) (fun _ h9 => h9) rfl dX10_addPump_28 ?_
      refine lv_bipush (v := 10) hx hb dX10_addPump_31 (by decide) ?_
      refine z_lald (ct := ct) (f := n) (k := 10) hx hb hK hP 1 rfl (by omega) (by decide) dX10_addPump_33 ?_
      rw [hn10]
      refine lv_ldc2 (v := 6) hx hb hown (hts (.constantLong RX10 76 (6)) (List.mem_of_getElem? (i := 4) rfl)) dX10_addPump_34 ?_
      refine z_lcN_ne (x := nP) (y := 6) (tgt := 44) hx hb (by omega) (by omega) dX10_addPump_37 dX10_addPump_38 (by decide) (fun c_3 => ?_) (fun c_3 => ?_)
      · refine lv_aload_n hx hb dX10_addPump_44 rfl (lv_at hl 0 rfl) ?_
        refine z_wVv (wc := [zO m0 9 [.ref m1, .ref m2, .ref m3, .ref m4, .ref m5, .ref m6, .ref m7, .int (nI kp), .int fl, .int (nI tn), .ref m8, .int (nI pa), .int (nI rn), .ref m9], zL ct m1 108 n, zL ct m2 540 hy, zL ct m3 108 sl, zL ct m4 108 sp, zD ct m5 33 re, zD ct m6 165 rh, zD ct m7 33 rs, zC ct m8 60 tx, zI ct m9 17 rd]) (wr := []) (w2 := [zO m0 9 [.ref m1, .ref m2, .ref m3, .ref m4, .ref m5, .ref m6, .ref m7, .int (nI (mkp kp)), .int fl, .int (nI tn), .ref m8, .int (nI pa), .int (nI rn), .ref m9], zL ct m1 108 n, zL ct m2 540 (mhy hy n kp), zL ct m3 108 sl, zL ct m4 108 sp, zD ct m5 33 re, zD ct m6 165 (mrh rh re kp), zD ct m7 33 rs, zC ct m8 60 tx, zI ct m9 17 rd]) (As := []) (rest := []) ⟨hx, hb, hml, hown, hts⟩ hK hP hD hS hNW hA [0, 1, 2, 3, 4, 5, 6, 7, 8, 9] [] [0, 1, 2, 3, 4, 5, 6, 7, 8, 9] rfl rfl rfl rfl rfl rfl (by decide) (c_X10_record l g ct _ m0 m1 m2 m3 m4 m5 m6 m7 m8 m9 n hy sl sp re rh rs kp fl tn tx pa rn rd (by omega)) (cwV 0 hts gX10_addPump_X10_record rfl rfl rfl (by decide +kernel) ⟨Nat.le_of_ble_eq_true rfl, Nat.le_of_ble_eq_true rfl⟩) 0 rfl rfl rfl hl.1 rfl (Nat.le_of_ble_eq_true rfl) dX10_addPump_45 ⟨Nat.zero_le _, Nat.zero_le _⟩ (fun H locs hP hD hS => ?_)
        refine lv_aload_n hx hb dX10_addPump_48 rfl (lv_at hl 0 rfl) ?_
        refine lv_bipush (v := 10) hx hb dX10_addPump_49 (by decide) ?_
        refine z_cVi (wc := [zO m0 9 [.ref m1, .ref m2, .ref m3, .ref m4, .ref m5, .ref m6, .ref m7, .int (nI (mkp kp)), .int fl, .int (nI tn), .ref m8, .int (nI pa), .int (nI rn), .ref m9], zL ct m1 108 n, zL ct m2 540 (mhy hy n kp), zL ct m3 108 sl, zL ct m4 108 sp, zD ct m5 33 re, zD ct m6 165 (mrh rh re kp), zD ct m7 33 rs, zC ct m8 60 tx, zI ct m9 17 rd]) (As := [.int 10]) (rest := []) ⟨hx, hb, hml, hown, hts⟩ hK hP [0, 1, 2, 3, 4, 5, 6, 7, 8, 9] rfl (c_X10_cell l g ct m0 m1 m2 m3 m4 m5 m6 m7 m8 m9 n (mhy hy n kp) sl sp re (mrh rh re kp) rs (mkp kp) fl tn tx pa rn rd 10 (by omega)) (cwV 1 hts gX10_addPump_X10_cell rfl rfl rfl (by decide +kernel) ⟨Nat.le_of_ble_eq_true rfl, Nat.le_of_ble_eq_true rfl⟩) 0 rfl rfl rfl hl.1 rfl (Nat.le_of_ble_eq_true rfl) dX10_addPump_51 ⟨Nat.zero_le _, Nat.zero_le _⟩ ?_
        rw [hn10, lN_i]
        refine lv_istore_n (lv' := [(3, .int (nI nP)), (0, .ref m0), (1, .int x), (2, .int y)]) hx hb dX10_addPump_54 rfl hl (by decide) rfl (fun ls hl => ?_)
        refine lv_aload_n hx hb dX10_addPump_55 rfl (lv_at hl 1 rfl) ?_
        refine va_get (D := g) (ci := 9) (v := .ref m1) (C := RX10) (T := TX10) (N := 14) hx hb hts hi_wsX100 hown hK hP 0 rfl rfl 0 (by decide) (hts (.fieldLink RX10 7 "FloodBarrierModel" "now" "[J") (List.mem_of_getElem? (i := 3) rfl)) (fun _ h9 => h9) rfl dX10_addPump_56 ?_
        refine lv_bipush (v := 10) hx hb dX10_addPump_59 (by decide) ?_
        refine lv_dup2_11 hx hb dX10_addPump_61 rfl rfl ?_
        refine z_lald (ct := ct) (f := n) (k := 10) hx hb hK hP 1 rfl (by omega) (by decide) dX10_addPump_62 ?_
        rw [hn10]
        refine lv_lconst (v := 1) hx hb dX10_addPump_63 (by decide) ?_
        refine lv_ladd hx hb dX10_addPump_64 ?_
        refine z_last (ct := ct) (f := n) (k := 10) (x := ((lN nP) + 1)) hx hb hK hP hD hS 1 rfl (by omega) (by decide) dX10_addPump_65 (fun H locs hP hD hS => ?_)
        have hP : va_P g vwCl [zO m0 9 [.ref m1, .ref m2, .ref m3, .ref m4, .ref m5, .ref m6, .ref m7, .int (nI (mkp kp)), .int fl, .int (nI tn), .ref m8, .int (nI pa), .int (nI rn), .ref m9], zL ct m1 108 (vp_updL n 10 ((lN nP) + 1)), zL ct m2 540 (mhy hy n kp), zL ct m3 108 sl, zL ct m4 108 sp, zD ct m5 33 re, zD ct m6 165 (mrh rh re kp), zD ct m7 33 rs, zC ct m8 60 tx, zI ct m9 17 rd] H := hP
        have hD : va_D A [zO m0 9 [.ref m1, .ref m2, .ref m3, .ref m4, .ref m5, .ref m6, .ref m7, .int (nI (mkp kp)), .int fl, .int (nI tn), .ref m8, .int (nI pa), .int (nI rn), .ref m9], zL ct m1 108 (vp_updL n 10 ((lN nP) + 1)), zL ct m2 540 (mhy hy n kp), zL ct m3 108 sl, zL ct m4 108 sp, zD ct m5 33 re, zD ct m6 165 (mrh rh re kp), zD ct m7 33 rs, zC ct m8 60 tx, zI ct m9 17 rd] := hD
        refine lv_aload_n hx hb dX10_addPump_66 rfl (lv_at hl 1 rfl) ?_
        refine va_get (D := g) (ci := 9) (v := .ref m1) (C := RX10) (T := TX10) (N := 14) hx hb hts hi_wsX100 hown hK hP 0 rfl rfl 0 (by decide) (hts (.fieldLink RX10 7 "FloodBarrierModel" "now" "[J") (List.mem_of_getElem? (i := 3) rfl)) (fun _ h9 => h9) rfl dX10_addPump_67 ?_
        refine lv_bipush (v := 84) hx hb dX10_addPump_70 (by decide) ?_
        refine lv_iconst (v := 4) hx hb dX10_addPump_72 (by decide) ?_
        refine lv_iload_n hx hb dX10_addPump_73 rfl (lv_at hl 0 rfl) ?_
        refine z_imulN (x := 4) (y := nP) hx hb dX10_addPump_74 ?_
        refine z_iaddN (x := 84) (y := (4 * nP)) hx hb dX10_addPump_75 ?_
        refine lv_iconst (v := 0) hx hb dX10_addPump_76 (by decide) ?_
        refine z_iaddN (x := (84 + (4 * nP))) (y := 0) hx hb dX10_addPump_77 ?_
        refine lv_iload_n hx hb dX10_addPump_78 rfl (lv_at hl 2 rfl) ?_
        refine lv_i2l (v := x.toInt64) hx hb dX10_addPump_79 rfl ?_
        refine z_last (ct := ct) (f := (vp_updL n 10 ((lN nP) + 1))) (k := ((84 + (4 * nP)) + 0)) (x := x.toInt64) hx hb hK hP hD hS 1 rfl (by omega) (by decide) dX10_addPump_80 (fun H locs hP hD hS => ?_)
        have hP : va_P g vwCl [zO m0 9 [.ref m1, .ref m2, .ref m3, .ref m4, .ref m5, .ref m6, .ref m7, .int (nI (mkp kp)), .int fl, .int (nI tn), .ref m8, .int (nI pa), .int (nI rn), .ref m9], zL ct m1 108 (vp_updL (vp_updL n 10 ((lN nP) + 1)) ((84 + (4 * nP)) + 0) x.toInt64), zL ct m2 540 (mhy hy n kp), zL ct m3 108 sl, zL ct m4 108 sp, zD ct m5 33 re, zD ct m6 165 (mrh rh re kp), zD ct m7 33 rs, zC ct m8 60 tx, zI ct m9 17 rd] H := hP
        have hD : va_D A [zO m0 9 [.ref m1, .ref m2, .ref m3, .ref m4, .ref m5, .ref m6, .ref m7, .int (nI (mkp kp)), .int fl, .int (nI tn), .ref m8, .int (nI pa), .int (nI rn), .ref m9], zL ct m1 108 (vp_updL (vp_updL n 10 ((lN nP) + 1)) ((84 + (4 * nP)) + 0) x.toInt64), zL ct m2 540 (mhy hy n kp), zL ct m3 108 sl, zL ct m4 108 sp, zD ct m5 33 re, zD ct m6 165 (mrh rh re kp), zD ct m7 33 rs, zC ct m8 60 tx, zI ct m9 17 rd] := hD
        refine lv_aload_n hx hb dX10_addPump_81 rfl (lv_at hl 1 rfl) ?_
        refine va_get (D := g) (ci := 9) (v := .ref m1) (C := RX10) (T := TX10) (N := 14) hx hb hts hi_wsX100 hown hK hP 0 rfl rfl 0 (by decide) (hts (.fieldLink RX10 7 "FloodBarrierModel" "now" "[J") (List.mem_of_getElem? (i := 3) rfl)) (fun _ h9 => h9) rfl dX10_addPump_82 ?_
        refine lv_bipush (v := 84) hx hb dX10_addPump_85 (by decide) ?_
        refine lv_iconst (v := 4) hx hb dX10_addPump_87 (by decide) ?_
        refine lv_iload_n hx hb dX10_addPump_88 rfl (lv_at hl 0 rfl) ?_
        refine z_imulN (x := 4) (y := nP) hx hb dX10_addPump_89 ?_
        refine z_iaddN (x := 84) (y := (4 * nP)) hx hb dX10_addPump_90 ?_
        refine lv_iconst (v := 1) hx hb dX10_addPump_91 (by decide) ?_
        refine z_iaddN (x := (84 + (4 * nP))) (y := 1) hx hb dX10_addPump_92 ?_
        refine lv_iload_n hx hb dX10_addPump_93 rfl (lv_at hl 3 rfl) ?_
        refine lv_i2l (v := y.toInt64) hx hb dX10_addPump_94 rfl ?_
        refine z_last (ct := ct) (f := (vp_updL (vp_updL n 10 ((lN nP) + 1)) ((84 + (4 * nP)) + 0) x.toInt64)) (k := ((84 + (4 * nP)) + 1)) (x := y.toInt64) hx hb hK hP hD hS 1 rfl (by omega) (by decide) dX10_addPump_95 (fun H locs hP hD hS => ?_)
        have hP : va_P g vwCl [zO m0 9 [.ref m1, .ref m2, .ref m3, .ref m4, .ref m5, .ref m6, .ref m7, .int (nI (mkp kp)), .int fl, .int (nI tn), .ref m8, .int (nI pa), .int (nI rn), .ref m9], zL ct m1 108 (vp_updL (vp_updL (vp_updL n 10 ((lN nP) + 1)) ((84 + (4 * nP)) + 0) x.toInt64) ((84 + (4 * nP)) + 1) y.toInt64), zL ct m2 540 (mhy hy n kp), zL ct m3 108 sl, zL ct m4 108 sp, zD ct m5 33 re, zD ct m6 165 (mrh rh re kp), zD ct m7 33 rs, zC ct m8 60 tx, zI ct m9 17 rd] H := hP
        have hD : va_D A [zO m0 9 [.ref m1, .ref m2, .ref m3, .ref m4, .ref m5, .ref m6, .ref m7, .int (nI (mkp kp)), .int fl, .int (nI tn), .ref m8, .int (nI pa), .int (nI rn), .ref m9], zL ct m1 108 (vp_updL (vp_updL (vp_updL n 10 ((lN nP) + 1)) ((84 + (4 * nP)) + 0) x.toInt64) ((84 + (4 * nP)) + 1) y.toInt64), zL ct m2 540 (mhy hy n kp), zL ct m3 108 sl, zL ct m4 108 sp, zD ct m5 33 re, zD ct m6 165 (mrh rh re kp), zD ct m7 33 rs, zC ct m8 60 tx, zI ct m9 17 rd] := hD
        refine lv_aload_n hx hb dX10_addPump_96 rfl (lv_at hl 1 rfl) ?_
        refine va_get (D := g) (ci := 9) (v := .ref m1) (C := RX10) (T := TX10) (N := 14) hx hb hts hi_wsX100 hown hK hP 0 rfl rfl 0 (by decide) (hts (.fieldLink RX10 7 "FloodBarrierModel" "now" "[J") (List.mem_of_getElem? (i := 3) rfl)) (fun _ h9 => h9) rfl dX10_addPump_97 ?_
        refine lv_bipush (v := 84) hx hb dX10_addPump_100 (by decide) ?_
        refine lv_iconst (v := 4) hx hb dX10_addPump_102 (by decide) ?_
        refine lv_iload_n hx hb dX10_addPump_103 rfl (lv_at hl 0 rfl) ?_
        refine z_imulN (x := 4) (y := nP) hx hb dX10_addPump_104 ?_
        refine z_iaddN (x := 84) (y := (4 * nP)) hx hb dX10_addPump_105 ?_
        refine lv_iconst (v := 2) hx hb dX10_addPump_106 (by decide) ?_
        refine z_iaddN (x := (84 + (4 * nP))) (y := 2) hx hb dX10_addPump_107 ?_
        refine lv_lconst (v := 0) hx hb dX10_addPump_108 (by decide) ?_
        refine z_last (ct := ct) (f := (vp_updL (vp_updL (vp_updL n 10 ((lN nP) + 1)) ((84 + (4 * nP)) + 0) x.toInt64) ((84 + (4 * nP)) + 1) y.toInt64)) (k := ((84 + (4 * nP)) + 2)) (x := 0) hx hb hK hP hD hS 1 rfl (by omega) (by decide) dX10_addPump_109 (fun H locs hP hD hS => ?_)
        have hP : va_P g vwCl [zO m0 9 [.ref m1, .ref m2, .ref m3, .ref m4, .ref m5, .ref m6, .ref m7, .int (nI (mkp kp)), .int fl, .int (nI tn), .ref m8, .int (nI pa), .int (nI rn), .ref m9], zL ct m1 108 (vp_updL (vp_updL (vp_updL (vp_updL n 10 ((lN nP) + 1)) ((84 + (4 * nP)) + 0) x.toInt64) ((84 + (4 * nP)) + 1) y.toInt64) ((84 + (4 * nP)) + 2) 0), zL ct m2 540 (mhy hy n kp), zL ct m3 108 sl, zL ct m4 108 sp, zD ct m5 33 re, zD ct m6 165 (mrh rh re kp), zD ct m7 33 rs, zC ct m8 60 tx, zI ct m9 17 rd] H := hP
        have hD : va_D A [zO m0 9 [.ref m1, .ref m2, .ref m3, .ref m4, .ref m5, .ref m6, .ref m7, .int (nI (mkp kp)), .int fl, .int (nI tn), .ref m8, .int (nI pa), .int (nI rn), .ref m9], zL ct m1 108 (vp_updL (vp_updL (vp_updL (vp_updL n 10 ((lN nP) + 1)) ((84 + (4 * nP)) + 0) x.toInt64) ((84 + (4 * nP)) + 1) y.toInt64) ((84 + (4 * nP)) + 2) 0), zL ct m2 540 (mhy hy n kp), zL ct m3 108 sl, zL ct m4 108 sp, zD ct m5 33 re, zD ct m6 165 (mrh rh re kp), zD ct m7 33 rs, zC ct m8 60 tx, zI ct m9 17 rd] := hD
        refine lv_aload_n hx hb dX10_addPump_110 rfl (lv_at hl 1 rfl) ?_
        refine va_get (D := g) (ci := 9) (v := .ref m1) (C := RX10) (T := TX10) (N := 14) hx hb hts hi_wsX100 hown hK hP 0 rfl rfl 0 (by decide) (hts (.fieldLink RX10 7 "FloodBarrierModel" "now" "[J") (List.mem_of_getElem? (i := 3) rfl)) (fun _ h9 => h9) rfl dX10_addPump_111 ?_
        refine lv_bipush (v := 84) hx hb dX10_addPump_114 (by decide) ?_
        refine lv_iconst (v := 4) hx hb dX10_addPump_116 (by decide) ?_
        refine lv_iload_n hx hb dX10_addPump_117 rfl (lv_at hl 0 rfl) ?_
        refine z_imulN (x := 4) (y := nP) hx hb dX10_addPump_118 ?_
        refine z_iaddN (x := 84) (y := (4 * nP)) hx hb dX10_addPump_119 ?_
        refine lv_iconst (v := 3) hx hb dX10_addPump_120 (by decide) ?_
        refine z_iaddN (x := (84 + (4 * nP))) (y := 3) hx hb dX10_addPump_121 ?_
        refine lv_lconst (v := 0) hx hb dX10_addPump_122 (by decide) ?_
        refine z_last (ct := ct) (f := (vp_updL (vp_updL (vp_updL (vp_updL n 10 ((lN nP) + 1)) ((84 + (4 * nP)) + 0) x.toInt64) ((84 + (4 * nP)) + 1) y.toInt64) ((84 + (4 * nP)) + 2) 0)) (k := ((84 + (4 * nP)) + 3)) (x := 0) hx hb hK hP hD hS 1 rfl (by omega) (by decide) dX10_addPump_123 (fun H locs hP hD hS => ?_)
        have hP : va_P g vwCl [zO m0 9 [.ref m1, .ref m2, .ref m3, .ref m4, .ref m5, .ref m6, .ref m7, .int (nI (mkp kp)), .int fl, .int (nI tn), .ref m8, .int (nI pa), .int (nI rn), .ref m9], zL ct m1 108 (vp_updL (vp_updL (vp_updL (vp_updL (vp_updL n 10 ((lN nP) + 1)) ((84 + (4 * nP)) + 0) x.toInt64) ((84 + (4 * nP)) + 1) y.toInt64) ((84 + (4 * nP)) + 2) 0) ((84 + (4 * nP)) + 3) 0), zL ct m2 540 (mhy hy n kp), zL ct m3 108 sl, zL ct m4 108 sp, zD ct m5 33 re, zD ct m6 165 (mrh rh re kp), zD ct m7 33 rs, zC ct m8 60 tx, zI ct m9 17 rd] H := hP
        have hD : va_D A [zO m0 9 [.ref m1, .ref m2, .ref m3, .ref m4, .ref m5, .ref m6, .ref m7, .int (nI (mkp kp)), .int fl, .int (nI tn), .ref m8, .int (nI pa), .int (nI rn), .ref m9], zL ct m1 108 (vp_updL (vp_updL (vp_updL (vp_updL (vp_updL n 10 ((lN nP) + 1)) ((84 + (4 * nP)) + 0) x.toInt64) ((84 + (4 * nP)) + 1) y.toInt64) ((84 + (4 * nP)) + 2) 0) ((84 + (4 * nP)) + 3) 0), zL ct m2 540 (mhy hy n kp), zL ct m3 108 sl, zL ct m4 108 sp, zD ct m5 33 re, zD ct m6 165 (mrh rh re kp), zD ct m7 33 rs, zC ct m8 60 tx, zI ct m9 17 rd] := hD
        refine lv_iload_n hx hb dX10_addPump_124 rfl (lv_at hl 0 rfl) ?_
        exact z_iretW hx hb hr hlocks hS hP hD rfl rfl (Nat.le_refl _) (Nat.le_refl _) dX10_addPump_125
      · exact absurd c_3 hact.2.2
    · exact absurd hact.2.1 c_2

set_option maxHeartbeats 4000000 in
set_option maxRecDepth 100000 in
theorem c_X10_sets_a (l : Launch) (g : va_G) (ct : Nat → ClassId) (m0 m1 m2 m3 m4 m5 m6 m7 m8 m9 : Nat) (n hy sl sp : Nat → Int64) (re rh rs : Nat → UInt64) (kp : Nat) (fl : Int32) (tn : Nat) (tx : Nat → Int32) (pa rn : Nat) (rd : Nat → Int32) (w : Nat) (hw : w < 108) (x : Int32) (hno : ¬ (¬ (n w).toInt32 = x)) : Met l yX10_sets wsX10_sets (zRm 1 21) (va_Pc [.ref m0, .int (nI w), .int x] (zR g ct [zO m0 9 [.ref m1, .ref m2, .ref m3, .ref m4, .ref m5, .ref m6, .ref m7, .int (nI kp), .int fl, .int (nI tn), .ref m8, .int (nI pa), .int (nI rn), .ref m9], zL ct m1 108 n, zL ct m2 540 hy, zL ct m3 108 sl, zL ct m4 108 sp, zD ct m5 33 re, zD ct m6 165 rh, zD ct m7 33 rs, zC ct m8 60 tx, zI ct m9 17 rd])) (vp_Si (fun r => r = -5)) 0 0 (fun _ => False) := by
  refine z_read (cc := cX10_sets) (maxL := 4) (ret := some .int) (by decide) rfl (Nat.le_of_ble_eq_true rfl) ?_
  intro p e s m below meth c ls hx hb hr hml hts hown hlocks hP hK hl
  have hown : s.vm.findClass RX10 = some m.cls := hown
  have hl : lv_has ls 4 [(0, .ref m0), (1, .int (nI w)), (2, .int x)] := hl
  refine lv_aload_n hx hb dX10_sets_0 rfl (lv_at hl 0 rfl) ?_
  refine lv_iload_n hx hb dX10_sets_1 rfl (lv_at hl 1 rfl) ?_
  refine z_cVi (wc := [zO m0 9 [.ref m1, .ref m2, .ref m3, .ref m4, .ref m5, .ref m6, .ref m7, .int (nI kp), .int fl, .int (nI tn), .ref m8, .int (nI pa), .int (nI rn), .ref m9], zL ct m1 108 n, zL ct m2 540 hy, zL ct m3 108 sl, zL ct m4 108 sp, zD ct m5 33 re, zD ct m6 165 rh, zD ct m7 33 rs, zC ct m8 60 tx, zI ct m9 17 rd]) (As := [.int (nI w)]) (rest := []) ⟨hx, hb, hml, hown, hts⟩ hK hP [0, 1, 2, 3, 4, 5, 6, 7, 8, 9] rfl (c_X10_cell l g ct m0 m1 m2 m3 m4 m5 m6 m7 m8 m9 n hy sl sp re rh rs kp fl tn tx pa rn rd w (by omega)) (cwV 1 hts gX10_sets_X10_cell rfl rfl rfl (by decide +kernel) ⟨Nat.le_of_ble_eq_true rfl, Nat.le_of_ble_eq_true rfl⟩) 0 rfl rfl rfl hl.1 rfl (Nat.le_of_ble_eq_true rfl) dX10_sets_2 ⟨Nat.zero_le _, Nat.zero_le _⟩ ?_
  refine lv_istore_n (lv' := [(3, .int ((n w).toInt32)), (0, .ref m0), (1, .int (nI w)), (2, .int x)]) hx hb dX10_sets_5 rfl hl (by decide) rfl (fun ls hl => ?_)
  refine lv_iload_n hx hb dX10_sets_6 rfl (lv_at hl 0 rfl) ?_
  refine lv_iload_n hx hb dX10_sets_7 rfl (lv_at hl 3 rfl) ?_
  refine lv_icmp_ne (tgt := 14) hx hb dX10_sets_8 (by decide) (fun c_1 => ?_) (fun c_1 => ?_)
  · refine lv_aload_n hx hb dX10_sets_14 rfl (lv_at hl 1 rfl) ?_
    exact absurd c_1 hno
  · refine lv_bipush (v := (-5)) hx hb dX10_sets_11 (by decide) ?_
    exact z_iretR hx hb hr hlocks rfl rfl dX10_sets_13

set_option maxHeartbeats 4000000 in
set_option maxRecDepth 100000 in
theorem c_X10_sets_b (l : Launch) (g : va_G) (ct : Nat → ClassId) (sz : Nat) (m0 m1 m2 m3 m4 m5 m6 m7 m8 m9 : Nat) (n hy sl sp : Nat → Int64) (re rh rs : Nat → UInt64) (kp : Nat) (fl : Int32) (tn : Nat) (tx : Nat → Int32) (pa rn : Nat) (rd : Nat → Int32) (hkp : kp ≤ 5) (w : Nat) (hw : w < 108) (x : Int32) (hact : ¬ (n w).toInt32 = x) : Met l yX10_sets wsX10_sets (zRm 1 21) (va_Pc [.ref m0, .int (nI w), .int x] (zW g ct [zO m0 9 [.ref m1, .ref m2, .ref m3, .ref m4, .ref m5, .ref m6, .ref m7, .int (nI kp), .int fl, .int (nI tn), .ref m8, .int (nI pa), .int (nI rn), .ref m9], zL ct m1 108 n, zL ct m2 540 hy, zL ct m3 108 sl, zL ct m4 108 sp, zD ct m5 33 re, zD ct m6 165 rh, zD ct m7 33 rs, zC ct m8 60 tx, zI ct m9 17 rd] sz)) (zQi g [zO m0 9 [.ref m1, .ref m2, .ref m3, .ref m4, .ref m5, .ref m6, .ref m7, .int (nI (mkp kp)), .int fl, .int (nI tn), .ref m8, .int (nI pa), .int (nI rn), .ref m9], zL ct m1 108 (vp_updL n w x.toInt64), zL ct m2 540 (mhy hy n kp), zL ct m3 108 sl, zL ct m4 108 sp, zD ct m5 33 re, zD ct m6 165 (mrh rh re kp), zD ct m7 33 rs, zC ct m8 60 tx, zI ct m9 17 rd] ((n w).toInt32) (va_A [zO m0 9 [.ref m1, .ref m2, .ref m3, .ref m4, .ref m5, .ref m6, .ref m7, .int (nI kp), .int fl, .int (nI tn), .ref m8, .int (nI pa), .int (nI rn), .ref m9], zL ct m1 108 n, zL ct m2 540 hy, zL ct m3 108 sl, zL ct m4 108 sp, zD ct m5 33 re, zD ct m6 165 rh, zD ct m7 33 rs, zC ct m8 60 tx, zI ct m9 17 rd] sz)) 0 0 (va_A [zO m0 9 [.ref m1, .ref m2, .ref m3, .ref m4, .ref m5, .ref m6, .ref m7, .int (nI kp), .int fl, .int (nI tn), .ref m8, .int (nI pa), .int (nI rn), .ref m9], zL ct m1 108 n, zL ct m2 540 hy, zL ct m3 108 sl, zL ct m4 108 sp, zD ct m5 33 re, zD ct m6 165 rh, zD ct m7 33 rs, zC ct m8 60 tx, zI ct m9 17 rd] sz) := by
  refine z_write (QA := zQi g [zO m0 9 [.ref m1, .ref m2, .ref m3, .ref m4, .ref m5, .ref m6, .ref m7, .int (nI (mkp kp)), .int fl, .int (nI tn), .ref m8, .int (nI pa), .int (nI rn), .ref m9], zL ct m1 108 (vp_updL n w x.toInt64), zL ct m2 540 (mhy hy n kp), zL ct m3 108 sl, zL ct m4 108 sp, zD ct m5 33 re, zD ct m6 165 (mrh rh re kp), zD ct m7 33 rs, zC ct m8 60 tx, zI ct m9 17 rd] ((n w).toInt32)) (cc := cX10_sets) (maxL := 4) (ret := some .int) (by decide) rfl (Nat.le_of_ble_eq_true rfl) ?_
  intro p e s m below meth c ls A hx hb hr hml hts hown hlocks hin hP hK hD hNW hA hS hl
  have hown : s.vm.findClass RX10 = some m.cls := hown
  have hl : lv_has ls 4 [(0, .ref m0), (1, .int (nI w)), (2, .int x)] := hl
  have hi_wsX100 : ∀ w ∈ wsX100, w ∈ wsX10_sets := fun w h => List.mem_cons_of_mem _ (List.mem_append_right _ h)
  refine lv_aload_n hx hb dX10_sets_0 rfl (lv_at hl 0 rfl) ?_
  refine lv_iload_n hx hb dX10_sets_1 rfl (lv_at hl 1 rfl) ?_
  refine z_cVi (wc := [zO m0 9 [.ref m1, .ref m2, .ref m3, .ref m4, .ref m5, .ref m6, .ref m7, .int (nI kp), .int fl, .int (nI tn), .ref m8, .int (nI pa), .int (nI rn), .ref m9], zL ct m1 108 n, zL ct m2 540 hy, zL ct m3 108 sl, zL ct m4 108 sp, zD ct m5 33 re, zD ct m6 165 rh, zD ct m7 33 rs, zC ct m8 60 tx, zI ct m9 17 rd]) (As := [.int (nI w)]) (rest := []) ⟨hx, hb, hml, hown, hts⟩ hK hP [0, 1, 2, 3, 4, 5, 6, 7, 8, 9] rfl (c_X10_cell l g ct m0 m1 m2 m3 m4 m5 m6 m7 m8 m9 n hy sl sp re rh rs kp fl tn tx pa rn rd w (by omega)) (cwV 1 hts gX10_sets_X10_cell rfl rfl rfl (by decide +kernel) ⟨Nat.le_of_ble_eq_true rfl, Nat.le_of_ble_eq_true rfl⟩) 0 rfl rfl rfl hl.1 rfl (Nat.le_of_ble_eq_true rfl) dX10_sets_2 ⟨Nat.zero_le _, Nat.zero_le _⟩ ?_
  refine lv_istore_n (lv' := [(3, .int ((n w).toInt32)), (0, .ref m0), (1, .int (nI w)), (2, .int x)]) hx hb dX10_sets_5 rfl hl (by decide) rfl (fun ls hl => ?_)
  refine lv_iload_n hx hb dX10_sets_6 rfl (lv_at hl 0 rfl) ?_
  refine lv_iload_n hx hb dX10_sets_7 rfl (lv_at hl 3 rfl) ?_
  refine lv_icmp_ne (tgt := 14) hx hb dX10_sets_8 (by decide) (fun c_1 => ?_) (fun c_1 => ?_)
  · refine lv_aload_n hx hb dX10_sets_14 rfl (lv_at hl 1 rfl) ?_
    refine z_wVv (wc := [zO m0 9 [.ref m1, .ref m2, .ref m3, .ref m4, .ref m5, .ref m6, .ref m7, .int (nI kp), .int fl, .int (nI tn), .ref m8, .int (nI pa), .int (nI rn), .ref m9], zL ct m1 108 n, zL ct m2 540 hy, zL ct m3 108 sl, zL ct m4 108 sp, zD ct m5 33 re, zD ct m6 165 rh, zD ct m7 33 rs, zC ct m8 60 tx, zI ct m9 17 rd]) (wr := []) (w2 := [zO m0 9 [.ref m1, .ref m2, .ref m3, .ref m4, .ref m5, .ref m6, .ref m7, .int (nI (mkp kp)), .int fl, .int (nI tn), .ref m8, .int (nI pa), .int (nI rn), .ref m9], zL ct m1 108 n, zL ct m2 540 (mhy hy n kp), zL ct m3 108 sl, zL ct m4 108 sp, zD ct m5 33 re, zD ct m6 165 (mrh rh re kp), zD ct m7 33 rs, zC ct m8 60 tx, zI ct m9 17 rd]) (As := []) (rest := []) ⟨hx, hb, hml, hown, hts⟩ hK hP hD hS hNW hA [0, 1, 2, 3, 4, 5, 6, 7, 8, 9] [] [0, 1, 2, 3, 4, 5, 6, 7, 8, 9] rfl rfl rfl rfl rfl rfl (by decide) (c_X10_record l g ct _ m0 m1 m2 m3 m4 m5 m6 m7 m8 m9 n hy sl sp re rh rs kp fl tn tx pa rn rd (by omega)) (cwV 0 hts gX10_sets_X10_record rfl rfl rfl (by decide +kernel) ⟨Nat.le_of_ble_eq_true rfl, Nat.le_of_ble_eq_true rfl⟩) 0 rfl rfl rfl hl.1 rfl (Nat.le_of_ble_eq_true rfl) dX10_sets_15 ⟨Nat.zero_le _, Nat.zero_le _⟩ (fun H locs hP hD hS => ?_)
    refine lv_aload_n hx hb dX10_sets_18 rfl (lv_at hl 1 rfl) ?_
    refine va_get (D := g) (ci := 9) (v := .ref m1) (C := RX10) (T := TX10) (N := 14) hx hb hts hi_wsX100 hown hK hP 0 rfl rfl 0 (by decide) (hts (.fieldLink RX10 7 "FloodBarrierModel" "now" "[J") (List.mem_of_getElem? (i := 1) rfl)) (fun _ h9 => h9) rfl dX10_sets_19 ?_
    refine lv_iload_n hx hb dX10_sets_22 rfl (lv_at hl 2 rfl) ?_
    refine lv_iload_n hx hb dX10_sets_23 rfl (lv_at hl 3 rfl) ?_
    refine lv_i2l (v := x.toInt64) hx hb dX10_sets_24 rfl ?_
    refine z_last (ct := ct) (f := n) (k := w) (x := x.toInt64) hx hb hK hP hD hS 1 rfl (by omega) (by decide) dX10_sets_25 (fun H locs hP hD hS => ?_)
    have hP : va_P g vwCl [zO m0 9 [.ref m1, .ref m2, .ref m3, .ref m4, .ref m5, .ref m6, .ref m7, .int (nI (mkp kp)), .int fl, .int (nI tn), .ref m8, .int (nI pa), .int (nI rn), .ref m9], zL ct m1 108 (vp_updL n w x.toInt64), zL ct m2 540 (mhy hy n kp), zL ct m3 108 sl, zL ct m4 108 sp, zD ct m5 33 re, zD ct m6 165 (mrh rh re kp), zD ct m7 33 rs, zC ct m8 60 tx, zI ct m9 17 rd] H := hP
    have hD : va_D A [zO m0 9 [.ref m1, .ref m2, .ref m3, .ref m4, .ref m5, .ref m6, .ref m7, .int (nI (mkp kp)), .int fl, .int (nI tn), .ref m8, .int (nI pa), .int (nI rn), .ref m9], zL ct m1 108 (vp_updL n w x.toInt64), zL ct m2 540 (mhy hy n kp), zL ct m3 108 sl, zL ct m4 108 sp, zD ct m5 33 re, zD ct m6 165 (mrh rh re kp), zD ct m7 33 rs, zC ct m8 60 tx, zI ct m9 17 rd] := hD
    refine lv_iload_n hx hb dX10_sets_26 rfl (lv_at hl 0 rfl) ?_
    exact z_iretW hx hb hr hlocks hS hP hD rfl rfl (Nat.le_refl _) (Nat.le_refl _) dX10_sets_27
  · exact absurd c_1 hact
