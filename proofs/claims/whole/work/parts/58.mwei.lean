def monI (n : Nat → Int64) (k : Nat) : Int32 := lp (fun k r => r + (n (84 + 4 * k + 2)).toInt32) k 0
def mwcI (n : Nat → Int64) (k : Nat) : Int32 := lp (fun k r => if n (68 + 2 * k + 1) = 1 then r + (n (68 + 2 * k)).toInt32 else r + 0) k 0
def mwaI (n : Nat → Int64) (k : Nat) : Int32 := lp (fun k r => r + (n (68 + 2 * k)).toInt32) k 0

set_option maxHeartbeats 4000000 in
set_option maxRecDepth 100000 in
theorem c_X10_setStream_u (l : Launch) (g : va_G) (ct : Nat → ClassId) (m0 m1 m2 m3 m4 m5 m6 m7 m8 m9 : Nat) (n hy sl sp : Nat → Int64) (re rh rs : Nat → UInt64) (kp : Nat) (fl : Int32) (tn : Nat) (tx : Nat → Int32) (pa rn : Nat) (rd : Nat → Int32) (x : Int32) (y : Int32) (hact : ¬ inP x.toInt64 0 (n 9 - 1)) : Met l yX10_setStream wsX10_setStream (zRm 2 47) (va_Pc [.ref m0, .int x, .int y] (zR g ct [zO m0 9 [.ref m1, .ref m2, .ref m3, .ref m4, .ref m5, .ref m6, .ref m7, .int (nI kp), .int fl, .int (nI tn), .ref m8, .int (nI pa), .int (nI rn), .ref m9], zL ct m1 108 n, zL ct m2 540 hy, zL ct m3 108 sl, zL ct m4 108 sp, zD ct m5 33 re, zD ct m6 165 rh, zD ct m7 33 rs, zC ct m8 60 tx, zI ct m9 17 rd])) (vp_Si (fun r => r = -1)) 0 0 (fun _ => False) := by
  refine z_read (cc := cX10_setStream) (maxL := 3) (ret := some .int) (by decide) rfl (Nat.le_of_ble_eq_true rfl) ?_
  intro p e s m below meth c ls hx hb hr hml hts hown hlocks hP hK hl
  have hown : s.vm.findClass RX10 = some m.cls := hown
  have hl : lv_has ls 3 [(0, .ref m0), (1, .int x), (2, .int y)] := hl
  refine lv_aload_n hx hb dX10_setStream_0 rfl (lv_at hl 0 rfl) ?_
  refine lv_iload_n hx hb dX10_setStream_1 rfl (lv_at hl 1 rfl) ?_
  refine lv_bipush (v := 9) hx hb dX10_setStream_2 (by decide) ?_
  refine z_cVi (wc := [zO m0 9 [.ref m1, .ref m2, .ref m3, .ref m4, .ref m5, .ref m6, .ref m7, .int (nI kp), .int fl, .int (nI tn), .ref m8, .int (nI pa), .int (nI rn), .ref m9], zL ct m1 108 n, zL ct m2 540 hy, zL ct m3 108 sl, zL ct m4 108 sp, zD ct m5 33 re, zD ct m6 165 rh, zD ct m7 33 rs, zC ct m8 60 tx, zI ct m9 17 rd]) (As := [.int x, .int 9]) (rest := []) ⟨hx, hb, hml, hown, hts⟩ hK hP [0, 1, 2, 3, 4, 5, 6, 7, 8, 9] rfl (c_X10_isNone l g ct m0 m1 m2 m3 m4 m5 m6 m7 m8 m9 n hy sl sp re rh rs kp fl tn tx pa rn rd x 9 (by omega)) (cwV 2 hts gX10_setStream_X10_isNone rfl rfl rfl (by decide +kernel) ⟨Nat.le_of_ble_eq_true rfl, Nat.le_of_ble_eq_true rfl⟩) 0 rfl rfl rfl hl.1 rfl (Nat.le_of_ble_eq_true rfl) dX10_setStream_4 ⟨Nat.zero_le _, Nat.zero_le _⟩ ?_
  refine z_bif_eq (P := (¬ inP x.toInt64 0 (n 9 - 1))) (tgt := 12) hx hb dX10_setStream_7 (by decide) (fun c_1 => ?_) (fun c_1 => ?_)
  · exact absurd hact c_1
  · refine lv_iconst (v := (-1)) hx hb dX10_setStream_10 (by decide) ?_
    exact z_iretR hx hb hr hlocks rfl rfl dX10_setStream_11

set_option maxHeartbeats 4000000 in
set_option maxRecDepth 100000 in
theorem c_X10_setStream_a (l : Launch) (g : va_G) (ct : Nat → ClassId) (m0 m1 m2 m3 m4 m5 m6 m7 m8 m9 : Nat) (n hy sl sp : Nat → Int64) (re rh rs : Nat → UInt64) (kp : Nat) (fl : Int32) (tn : Nat) (tx : Nat → Int32) (pa rn : Nat) (rd : Nat → Int32) (k : Nat) (hk : k < 4) (hinP : inP (nI k).toInt64 0 (n 9 - 1)) (y : Int32) (hno : ¬ (inP y.toInt64 0 99999 ∧ ¬ (n (80 + k)).toInt32 = y)) : Met l yX10_setStream wsX10_setStream (zRm 2 47) (va_Pc [.ref m0, .int (nI k), .int y] (zR g ct [zO m0 9 [.ref m1, .ref m2, .ref m3, .ref m4, .ref m5, .ref m6, .ref m7, .int (nI kp), .int fl, .int (nI tn), .ref m8, .int (nI pa), .int (nI rn), .ref m9], zL ct m1 108 n, zL ct m2 540 hy, zL ct m3 108 sl, zL ct m4 108 sp, zD ct m5 33 re, zD ct m6 165 rh, zD ct m7 33 rs, zC ct m8 60 tx, zI ct m9 17 rd])) (vp_Si (fun r => r = if inP y.toInt64 0 99999 then -5 else -2)) 0 0 (fun _ => False) := by
  refine z_read (cc := cX10_setStream) (maxL := 3) (ret := some .int) (by decide) rfl (Nat.le_of_ble_eq_true rfl) ?_
  intro p e s m below meth c ls hx hb hr hml hts hown hlocks hP hK hl
  have hown : s.vm.findClass RX10 = some m.cls := hown
  have hl : lv_has ls 3 [(0, .ref m0), (1, .int (nI k)), (2, .int y)] := hl
  refine lv_aload_n hx hb dX10_setStream_0 rfl (lv_at hl 0 rfl) ?_
  refine lv_iload_n hx hb dX10_setStream_1 rfl (lv_at hl 1 rfl) ?_
  refine lv_bipush (v := 9) hx hb dX10_setStream_2 (by decide) ?_
  refine z_cVi (wc := [zO m0 9 [.ref m1, .ref m2, .ref m3, .ref m4, .ref m5, .ref m6, .ref m7, .int (nI kp), .int fl, .int (nI tn), .ref m8, .int (nI pa), .int (nI rn), .ref m9], zL ct m1 108 n, zL ct m2 540 hy, zL ct m3 108 sl, zL ct m4 108 sp, zD ct m5 33 re, zD ct m6 165 rh, zD ct m7 33 rs, zC ct m8 60 tx, zI ct m9 17 rd]) (As := [.int (nI k), .int 9]) (rest := []) ⟨hx, hb, hml, hown, hts⟩ hK hP [0, 1, 2, 3, 4, 5, 6, 7, 8, 9] rfl (c_X10_isNone l g ct m0 m1 m2 m3 m4 m5 m6 m7 m8 m9 n hy sl sp re rh rs kp fl tn tx pa rn rd (nI k) 9 (by omega)) (cwV 2 hts gX10_setStream_X10_isNone rfl rfl rfl (by decide +kernel) ⟨Nat.le_of_ble_eq_true rfl, Nat.le_of_ble_eq_true rfl⟩) 0 rfl rfl rfl hl.1 rfl (Nat.le_of_ble_eq_true rfl) dX10_setStream_4 ⟨Nat.zero_le _, Nat.zero_le _⟩ ?_
  refine z_bif_eq (P := (¬ inP (nI k).toInt64 0 (n 9 - 1))) (tgt := 12) hx hb dX10_setStream_7 (by decide) (fun c_1 => ?_) (fun c_1 => ?_)
  · refine lv_iload_n hx hb dX10_setStream_12 rfl (lv_at hl 2 rfl) ?_
    refine lv_i2l (v := y.toInt64) hx hb dX10_setStream_13 rfl ?_
    refine lv_lconst (v := 0) hx hb dX10_setStream_14 (by decide) ?_
    refine lv_ldc2 (v := 99999) hx hb hown (hts (.constantLong RX10 91 (99999)) (List.mem_of_getElem? (i := 1) rfl)) dX10_setStream_15 ?_
    refine z_cSi (As := [.long y.toInt64, .long 0, .long 99999]) (rest := []) ⟨hx, hb, hml, hown, hts⟩ (c_X10_in l y.toInt64 0 99999) (va_cwS 3 hts gX10_setStream_X10_in rfl rfl rfl (by decide +kernel) ⟨Nat.le_of_ble_eq_true rfl, Nat.le_of_ble_eq_true rfl⟩) rfl hl.1 rfl (Nat.le_of_ble_eq_true rfl) dX10_setStream_18 ⟨Nat.zero_le _, Nat.zero_le _⟩ ?_
    refine z_bif_eq (P := (inP y.toInt64 0 99999)) (tgt := 36) hx hb dX10_setStream_21 (by decide) (fun c_2 => ?_) (fun c_2 => ?_)
    · refine lv_bipush (v := (-2)) hx hb dX10_setStream_36 (by decide) ?_
      exact z_iretR hx hb hr hlocks rfl (by simp [c_2]) dX10_setStream_38
    · refine lv_aload_n hx hb dX10_setStream_24 rfl (lv_at hl 0 rfl) ?_
      refine lv_bipush (v := 80) hx hb dX10_setStream_25 (by decide) ?_
      refine lv_iload_n hx hb dX10_setStream_27 rfl (lv_at hl 1 rfl) ?_
      refine z_iaddN (x := 80) (y := k) hx hb dX10_setStream_28 ?_
      refine lv_iload_n hx hb dX10_setStream_29 rfl (lv_at hl 2 rfl) ?_
      refine z_cVi (wc := [zO m0 9 [.ref m1, .ref m2, .ref m3, .ref m4, .ref m5, .ref m6, .ref m7, .int (nI kp), .int fl, .int (nI tn), .ref m8, .int (nI pa), .int (nI rn), .ref m9], zL ct m1 108 n, zL ct m2 540 hy, zL ct m3 108 sl, zL ct m4 108 sp, zD ct m5 33 re, zD ct m6 165 rh, zD ct m7 33 rs, zC ct m8 60 tx, zI ct m9 17 rd]) (As := [.int (nI (80 + k)), .int y]) (rest := []) ⟨hx, hb, hml, hown, hts⟩ hK hP [0, 1, 2, 3, 4, 5, 6, 7, 8, 9] rfl (c_X10_sets_a l g ct m0 m1 m2 m3 m4 m5 m6 m7 m8 m9 n hy sl sp re rh rs kp fl tn tx pa rn rd (80 + k) (by omega) y (fun q => hno ⟨c_2, q⟩)) (cwV 2 hts gX10_setStream_X10_sets rfl rfl rfl (by decide +kernel) ⟨Nat.le_of_ble_eq_true rfl, Nat.le_of_ble_eq_true rfl⟩) 0 rfl rfl rfl hl.1 rfl (Nat.le_of_ble_eq_true rfl) dX10_setStream_30 ⟨Nat.zero_le _, Nat.zero_le _⟩ ?_
      refine lv_goto (tgt := 38) hx hb dX10_setStream_33 (by decide) ?_
      exact z_iretR hx hb hr hlocks rfl (by simp [c_2]) dX10_setStream_38
  · exact absurd (show inP (nI k).toInt64 0 (n 9 - 1) from hinP) c_1

set_option maxHeartbeats 4000000 in
set_option maxRecDepth 100000 in
theorem c_X10_setStream_b (l : Launch) (g : va_G) (ct : Nat → ClassId) (sz : Nat) (m0 m1 m2 m3 m4 m5 m6 m7 m8 m9 : Nat) (n hy sl sp : Nat → Int64) (re rh rs : Nat → UInt64) (kp : Nat) (fl : Int32) (tn : Nat) (tx : Nat → Int32) (pa rn : Nat) (rd : Nat → Int32) (hkp : kp ≤ 5) (k : Nat) (hk : k < 4) (hinP : inP (nI k).toInt64 0 (n 9 - 1)) (y : Int32) (hact : inP y.toInt64 0 99999 ∧ ¬ (n (80 + k)).toInt32 = y) : Met l yX10_setStream wsX10_setStream (zRm 2 47) (va_Pc [.ref m0, .int (nI k), .int y] (zW g ct [zO m0 9 [.ref m1, .ref m2, .ref m3, .ref m4, .ref m5, .ref m6, .ref m7, .int (nI kp), .int fl, .int (nI tn), .ref m8, .int (nI pa), .int (nI rn), .ref m9], zL ct m1 108 n, zL ct m2 540 hy, zL ct m3 108 sl, zL ct m4 108 sp, zD ct m5 33 re, zD ct m6 165 rh, zD ct m7 33 rs, zC ct m8 60 tx, zI ct m9 17 rd] sz)) (zQi g [zO m0 9 [.ref m1, .ref m2, .ref m3, .ref m4, .ref m5, .ref m6, .ref m7, .int (nI (mkp kp)), .int fl, .int (nI tn), .ref m8, .int (nI pa), .int (nI rn), .ref m9], zL ct m1 108 (vp_updL n (80 + k) y.toInt64), zL ct m2 540 (mhy hy n kp), zL ct m3 108 sl, zL ct m4 108 sp, zD ct m5 33 re, zD ct m6 165 (mrh rh re kp), zD ct m7 33 rs, zC ct m8 60 tx, zI ct m9 17 rd] ((n (80 + k)).toInt32) (va_A [zO m0 9 [.ref m1, .ref m2, .ref m3, .ref m4, .ref m5, .ref m6, .ref m7, .int (nI kp), .int fl, .int (nI tn), .ref m8, .int (nI pa), .int (nI rn), .ref m9], zL ct m1 108 n, zL ct m2 540 hy, zL ct m3 108 sl, zL ct m4 108 sp, zD ct m5 33 re, zD ct m6 165 rh, zD ct m7 33 rs, zC ct m8 60 tx, zI ct m9 17 rd] sz)) 0 0 (va_A [zO m0 9 [.ref m1, .ref m2, .ref m3, .ref m4, .ref m5, .ref m6, .ref m7, .int (nI kp), .int fl, .int (nI tn), .ref m8, .int (nI pa), .int (nI rn), .ref m9], zL ct m1 108 n, zL ct m2 540 hy, zL ct m3 108 sl, zL ct m4 108 sp, zD ct m5 33 re, zD ct m6 165 rh, zD ct m7 33 rs, zC ct m8 60 tx, zI ct m9 17 rd] sz) := by
  refine z_write (QA := zQi g [zO m0 9 [.ref m1, .ref m2, .ref m3, .ref m4, .ref m5, .ref m6, .ref m7, .int (nI (mkp kp)), .int fl, .int (nI tn), .ref m8, .int (nI pa), .int (nI rn), .ref m9], zL ct m1 108 (vp_updL n (80 + k) y.toInt64), zL ct m2 540 (mhy hy n kp), zL ct m3 108 sl, zL ct m4 108 sp, zD ct m5 33 re, zD ct m6 165 (mrh rh re kp), zD ct m7 33 rs, zC ct m8 60 tx, zI ct m9 17 rd] ((n (80 + k)).toInt32)) (cc := cX10_setStream) (maxL := 3) (ret := some .int) (by decide) rfl (Nat.le_of_ble_eq_true rfl) ?_
  intro p e s m below meth c ls A hx hb hr hml hts hown hlocks hin hP hK hD hNW hA hS hl
  have hown : s.vm.findClass RX10 = some m.cls := hown
  have hl : lv_has ls 3 [(0, .ref m0), (1, .int (nI k)), (2, .int y)] := hl
  refine lv_aload_n hx hb dX10_setStream_0 rfl (lv_at hl 0 rfl) ?_
  refine lv_iload_n hx hb dX10_setStream_1 rfl (lv_at hl 1 rfl) ?_
  refine lv_bipush (v := 9) hx hb dX10_setStream_2 (by decide) ?_
  refine z_cVi (wc := [zO m0 9 [.ref m1, .ref m2, .ref m3, .ref m4, .ref m5, .ref m6, .ref m7, .int (nI kp), .int fl, .int (nI tn), .ref m8, .int (nI pa), .int (nI rn), .ref m9], zL ct m1 108 n, zL ct m2 540 hy, zL ct m3 108 sl, zL ct m4 108 sp, zD ct m5 33 re, zD ct m6 165 rh, zD ct m7 33 rs, zC ct m8 60 tx, zI ct m9 17 rd]) (As := [.int (nI k), .int 9]) (rest := []) ⟨hx, hb, hml, hown, hts⟩ hK hP [0, 1, 2, 3, 4, 5, 6, 7, 8, 9] rfl (c_X10_isNone l g ct m0 m1 m2 m3 m4 m5 m6 m7 m8 m9 n hy sl sp re rh rs kp fl tn tx pa rn rd (nI k) 9 (by omega)) (cwV 2 hts gX10_setStream_X10_isNone rfl rfl rfl (by decide +kernel) ⟨Nat.le_of_ble_eq_true rfl, Nat.le_of_ble_eq_true rfl⟩) 0 rfl rfl rfl hl.1 rfl (Nat.le_of_ble_eq_true rfl) dX10_setStream_4 ⟨Nat.zero_le _, Nat.zero_le _⟩ ?_
  refine z_bif_eq (P := (¬ inP (nI k).toInt64 0 (n 9 - 1))) (tgt := 12) hx hb dX10_setStream_7 (by decide) (fun c_1 => ?_) (fun c_1 => ?_)
  · refine lv_iload_n hx hb dX10_setStream_12 rfl (lv_at hl 2 rfl) ?_
    refine lv_i2l (v := y.toInt64) hx hb dX10_setStream_13 rfl ?_
    refine lv_lconst (v := 0) hx hb dX10_setStream_14 (by decide) ?_
    refine lv_ldc2 (v := 99999) hx hb hown (hts (.constantLong RX10 91 (99999)) (List.mem_of_getElem? (i := 1) rfl)) dX10_setStream_15 ?_
    refine z_cSi (As := [.long y.toInt64, .long 0, .long 99999]) (rest := []) ⟨hx, hb, hml, hown, hts⟩ (c_X10_in l y.toInt64 0 99999) (va_cwS 3 hts gX10_setStream_X10_in rfl rfl rfl (by decide +kernel) ⟨Nat.le_of_ble_eq_true rfl, Nat.le_of_ble_eq_true rfl⟩) rfl hl.1 rfl (Nat.le_of_ble_eq_true rfl) dX10_setStream_18 ⟨Nat.zero_le _, Nat.zero_le _⟩ ?_
    refine z_bif_eq (P := (inP y.toInt64 0 99999)) (tgt := 36) hx hb dX10_setStream_21 (by decide) (fun c_2 => ?_) (fun c_2 => ?_)
    · exact absurd hact.1 c_2
    · refine lv_aload_n hx hb dX10_setStream_24 rfl (lv_at hl 0 rfl) ?_
      refine lv_bipush (v := 80) hx hb dX10_setStream_25 (by decide) ?_
      refine lv_iload_n hx hb dX10_setStream_27 rfl (lv_at hl 1 rfl) ?_
      refine z_iaddN (x := 80) (y := k) hx hb dX10_setStream_28 ?_
      refine lv_iload_n hx hb dX10_setStream_29 rfl (lv_at hl 2 rfl) ?_
      refine z_wVi (wc := [zO m0 9 [.ref m1, .ref m2, .ref m3, .ref m4, .ref m5, .ref m6, .ref m7, .int (nI kp), .int fl, .int (nI tn), .ref m8, .int (nI pa), .int (nI rn), .ref m9], zL ct m1 108 n, zL ct m2 540 hy, zL ct m3 108 sl, zL ct m4 108 sp, zD ct m5 33 re, zD ct m6 165 rh, zD ct m7 33 rs, zC ct m8 60 tx, zI ct m9 17 rd]) (wr := []) (w2 := [zO m0 9 [.ref m1, .ref m2, .ref m3, .ref m4, .ref m5, .ref m6, .ref m7, .int (nI (mkp kp)), .int fl, .int (nI tn), .ref m8, .int (nI pa), .int (nI rn), .ref m9], zL ct m1 108 (vp_updL n (80 + k) y.toInt64), zL ct m2 540 (mhy hy n kp), zL ct m3 108 sl, zL ct m4 108 sp, zD ct m5 33 re, zD ct m6 165 (mrh rh re kp), zD ct m7 33 rs, zC ct m8 60 tx, zI ct m9 17 rd]) (As := [.int (nI (80 + k)), .int y]) (rest := []) ⟨hx, hb, hml, hown, hts⟩ hK hP hD hS hNW hA [0, 1, 2, 3, 4, 5, 6, 7, 8, 9] [] [0, 1, 2, 3, 4, 5, 6, 7, 8, 9] rfl rfl rfl rfl rfl rfl (by decide) (c_X10_sets_b l g ct _ m0 m1 m2 m3 m4 m5 m6 m7 m8 m9 n hy sl sp re rh rs kp fl tn tx pa rn rd (by omega) (80 + k) (by omega) y hact.2) (cwV 2 hts gX10_setStream_X10_sets rfl rfl rfl (by decide +kernel) ⟨Nat.le_of_ble_eq_true rfl, Nat.le_of_ble_eq_true rfl⟩) 0 rfl rfl rfl hl.1 rfl (Nat.le_of_ble_eq_true rfl) dX10_setStream_30 ⟨Nat.zero_le _, Nat.zero_le _⟩ (fun H locs hP hD hS => ?_)
      refine lv_goto (tgt := 38) hx hb dX10_setStream_33 (by decide) ?_
      exact z_iretW hx hb hr hlocks hS hP hD rfl rfl (Nat.le_refl _) (Nat.le_refl _) dX10_setStream_38
  · exact absurd (show inP (nI k).toInt64 0 (n 9 - 1) from hinP) c_1

set_option maxHeartbeats 4000000 in
set_option maxRecDepth 100000 in
theorem c_X10_pumpsOn (l : Launch) (g : va_G) (ct : Nat → ClassId) (m0 m1 m2 m3 m4 m5 m6 m7 m8 m9 : Nat) (n hy sl sp : Nat → Int64) (re rh rs : Nat → UInt64) (kp : Nat) (fl : Int32) (tn : Nat) (tx : Nat → Int32) (pa rn : Nat) (rd : Nat → Int32) (nP : Nat) (hnP : nP ≤ 6) (hn10 : n 10 = lN nP) : Met l yX10_pumpsOn wsX10_pumpsOn (zRm 2 43) (va_Pc [.ref m0] (zR g ct [zO m0 9 [.ref m1, .ref m2, .ref m3, .ref m4, .ref m5, .ref m6, .ref m7, .int (nI kp), .int fl, .int (nI tn), .ref m8, .int (nI pa), .int (nI rn), .ref m9], zL ct m1 108 n, zL ct m2 540 hy, zL ct m3 108 sl, zL ct m4 108 sp, zD ct m5 33 re, zD ct m6 165 rh, zD ct m7 33 rs, zC ct m8 60 tx, zI ct m9 17 rd])) (vp_Si (fun r => r = monI n nP)) 0 0 (fun _ => False) := by
  refine z_read (cc := cX10_pumpsOn) (maxL := 3) (ret := some .int) (by decide) rfl (Nat.le_of_ble_eq_true rfl) ?_
  intro p e s m below meth c ls hx hb hr hml hts hown hlocks hP hK hl
  have hown : s.vm.findClass RX10 = some m.cls := hown
  have hl : lv_has ls 3 [(0, .ref m0)] := hl
  have hi_wsX100 : ∀ w ∈ wsX100, w ∈ wsX10_pumpsOn := fun w h => List.mem_cons_of_mem _ (List.mem_append_right _ h)
  refine lv_iconst (v := 0) hx hb dX10_pumpsOn_0 (by decide) ?_
  refine lv_istore_n (lv' := [(1, .int 0), (0, .ref m0)]) hx hb dX10_pumpsOn_1 rfl hl (by decide) rfl (fun ls hl => ?_)
  refine lv_iconst (v := 0) hx hb dX10_pumpsOn_2 (by decide) ?_
  refine lv_istore_n (lv' := [(2, .int 0), (1, .int 0), (0, .ref m0)]) hx hb dX10_pumpsOn_3 rfl hl (by decide) rfl (fun ls hl => ?_)
  refine z_loop nP (fun k1 H2 locs2 ls => H2 = s.heap ∧ locs2 = [] ∧ lv_has ls 3 [(0, .ref m0), (1, .int (monI n k1)), (2, .int (nI k1))]) ⟨rfl, rfl, lv_sub hl [2, 1, 0] rfl⟩ ?_
  intro k1 H2 locs2 ls hkk1 hI ihk1
  obtain ⟨rfl, rfl, hl⟩ := hI
  refine lv_iload_n hx hb dX10_pumpsOn_4 rfl (lv_at hl 2 rfl) ?_
  refine lv_i2l (v := lN k1) hx hb dX10_pumpsOn_5 (nI_l (by omega)) ?_
  refine lv_aload_n hx hb dX10_pumpsOn_6 rfl (lv_at hl 0 rfl) ?_
  refine va_get (D := g) (ci := 9) (v := .ref m1) (C := RX10) (T := TX10) (N := 14) hx hb hts hi_wsX100 hown hK hP 0 rfl rfl 0 (by decide) (hts (.fieldLink RX10 7 "FloodBarrierModel" "now" "[J") (List.mem_of_getElem? (i := 1) rfl)) (fun _ h9 => h9) rfl dX10_pumpsOn_7 ?_
  refine lv_bipush (v := 10) hx hb dX10_pumpsOn_10 (by decide) ?_
  refine z_lald (ct := ct) (f := n) (k := 10) hx hb hK hP 1 rfl (by omega) (by decide) dX10_pumpsOn_12 ?_
  rw [hn10]
  refine z_lcN_ge (x := k1) (y := nP) (tgt := 32) hx hb (by omega) (by omega) dX10_pumpsOn_13 dX10_pumpsOn_14 (by decide) (fun c_1 => ?_) (fun c_1 => ?_)
  · have hkn : nP = k1 := by omega
    subst hkn
    refine lv_iload_n hx hb dX10_pumpsOn_32 rfl (lv_at hl 1 rfl) ?_
    exact z_iretR hx hb hr hlocks rfl rfl dX10_pumpsOn_33
  · refine lv_iload_n hx hb dX10_pumpsOn_17 rfl (lv_at hl 1 rfl) ?_
    refine lv_aload_n hx hb dX10_pumpsOn_18 rfl (lv_at hl 0 rfl) ?_
    refine lv_iload_n hx hb dX10_pumpsOn_19 rfl (lv_at hl 2 rfl) ?_
    refine lv_iconst (v := 2) hx hb dX10_pumpsOn_20 (by decide) ?_
    refine z_cVi (wc := [zO m0 9 [.ref m1, .ref m2, .ref m3, .ref m4, .ref m5, .ref m6, .ref m7, .int (nI kp), .int fl, .int (nI tn), .ref m8, .int (nI pa), .int (nI rn), .ref m9], zL ct m1 108 n, zL ct m2 540 hy, zL ct m3 108 sl, zL ct m4 108 sp, zD ct m5 33 re, zD ct m6 165 rh, zD ct m7 33 rs, zC ct m8 60 tx, zI ct m9 17 rd]) (As := [.int (nI k1), .int 2]) (rest := [.int (monI n k1)]) ⟨hx, hb, hml, hown, hts⟩ hK hP [0, 1, 2, 3, 4, 5, 6, 7, 8, 9] rfl (c_X10_ofPump l g ct m0 m1 m2 m3 m4 m5 m6 m7 m8 m9 n hy sl sp re rh rs kp fl tn tx pa rn rd k1 2 (by omega) (by omega)) (cwV 2 hts gX10_pumpsOn_X10_ofPump rfl rfl rfl (by decide +kernel) ⟨Nat.le_of_ble_eq_true rfl, Nat.le_of_ble_eq_true rfl⟩) 0 rfl rfl rfl hl.1 rfl (Nat.le_of_ble_eq_true rfl) dX10_pumpsOn_21 ⟨Nat.zero_le _, Nat.zero_le _⟩ ?_
    refine lv_iadd hx hb dX10_pumpsOn_24 ?_
    refine lv_istore_n (lv' := [(1, .int ((monI n k1) + ((n (84 + 4 * k1 + 2)).toInt32))), (0, .ref m0), (2, .int (nI k1))]) hx hb dX10_pumpsOn_25 rfl hl (by decide) rfl (fun ls hl => ?_)
    refine lv_iinc (v := nI (k1 + 1)) (lv' := [(2, .int (nI (k1 + 1))), (1, .int ((monI n k1) + ((n (84 + 4 * k1 + 2)).toInt32))), (0, .ref m0)]) hx hb dX10_pumpsOn_26 hl (k := 2) rfl (nI_add k1 1) (by decide) rfl (fun ls hl => ?_)
    refine lv_goto (tgt := 4) hx hb dX10_pumpsOn_29 (by decide) ?_
    exact ihk1 _ _ _ (by omega) ⟨rfl, rfl, (by first | exact lv_sub hl [2, 1, 0] rfl | (simp only [lp_s, monI, if_pos c_1]; exact lv_sub hl [2, 1, 0] rfl))⟩

set_option maxHeartbeats 4000000 in
set_option maxRecDepth 100000 in
theorem c_X10_weights1 (l : Launch) (g : va_G) (ct : Nat → ClassId) (m0 m1 m2 m3 m4 m5 m6 m7 m8 m9 : Nat) (n hy sl sp : Nat → Int64) (re rh rs : Nat → UInt64) (kp : Nat) (fl : Int32) (tn : Nat) (tx : Nat → Int32) (pa rn : Nat) (rd : Nat → Int32) (nD : Nat) (hnD : nD ≤ 6) (hn8 : n 8 = lN nD) : Met l yX10_weights wsX10_weights (zRm 1 21) (va_Pc [.ref m0, .int 1] (zR g ct [zO m0 9 [.ref m1, .ref m2, .ref m3, .ref m4, .ref m5, .ref m6, .ref m7, .int (nI kp), .int fl, .int (nI tn), .ref m8, .int (nI pa), .int (nI rn), .ref m9], zL ct m1 108 n, zL ct m2 540 hy, zL ct m3 108 sl, zL ct m4 108 sp, zD ct m5 33 re, zD ct m6 165 rh, zD ct m7 33 rs, zC ct m8 60 tx, zI ct m9 17 rd])) (vp_Si (fun r => r = mwcI n nD)) 0 0 (fun _ => False) := by
  refine z_read (cc := cX10_weights) (maxL := 4) (ret := some .int) (by decide) rfl (Nat.le_of_ble_eq_true rfl) ?_
  intro p e s m below meth c ls hx hb hr hml hts hown hlocks hP hK hl
  have hown : s.vm.findClass RX10 = some m.cls := hown
  have hl : lv_has ls 4 [(0, .ref m0), (1, .int 1)] := hl
  have hi_wsX100 : ∀ w ∈ wsX100, w ∈ wsX10_weights := fun w h => List.mem_cons_of_mem _ (List.mem_append_right _ h)
  refine lv_iconst (v := 0) hx hb dX10_weights_0 (by decide) ?_
  refine lv_istore_n (lv' := [(2, .int 0), (0, .ref m0), (1, .int 1)]) hx hb dX10_weights_1 rfl hl (by decide) rfl (fun ls hl => ?_)
  refine lv_iconst (v := 0) hx hb dX10_weights_2 (by decide) ?_
  refine lv_istore_n (lv' := [(3, .int 0), (2, .int 0), (0, .ref m0), (1, .int 1)]) hx hb dX10_weights_3 rfl hl (by decide) rfl (fun ls hl => ?_)
  refine z_loop nD (fun k1 H2 locs2 ls => H2 = s.heap ∧ locs2 = [] ∧ lv_has ls 4 [(0, .ref m0), (1, .int 1), (2, .int (mwcI n k1)), (3, .int (nI k1))]) ⟨rfl, rfl, lv_sub hl [2, 3, 1, 0] rfl⟩ ?_
  intro k1 H2 locs2 ls hkk1 hI ihk1
  obtain ⟨rfl, rfl, hl⟩ := hI
  refine lv_iload_n hx hb dX10_weights_4 rfl (lv_at hl 3 rfl) ?_
  refine lv_i2l (v := lN k1) hx hb dX10_weights_5 (nI_l (by omega)) ?_
  refine lv_aload_n hx hb dX10_weights_6 rfl (lv_at hl 0 rfl) ?_
  refine va_get (D := g) (ci := 9) (v := .ref m1) (C := RX10) (T := TX10) (N := 14) hx hb hts hi_wsX100 hown hK hP 0 rfl rfl 0 (by decide) (hts (.fieldLink RX10 7 "FloodBarrierModel" "now" "[J") (List.mem_of_getElem? (i := 1) rfl)) (fun _ h9 => h9) rfl dX10_weights_7 ?_
  refine lv_bipush (v := 8) hx hb dX10_weights_10 (by decide) ?_
  refine z_lald (ct := ct) (f := n) (k := 8) hx hb hK hP 1 rfl (by omega) (by decide) dX10_weights_12 ?_
  rw [hn8]
  refine z_lcN_ge (x := k1) (y := nD) (tgt := 62) hx hb (by omega) (by omega) dX10_weights_13 dX10_weights_14 (by decide) (fun c_1 => ?_) (fun c_1 => ?_)
  · have hkn : nD = k1 := by omega
    subst hkn
    refine lv_iload_n hx hb dX10_weights_62 rfl (lv_at hl 2 rfl) ?_
    exact z_iretR hx hb hr hlocks rfl rfl dX10_weights_63
  · refine lv_iload_n hx hb dX10_weights_17 rfl (lv_at hl 2 rfl) ?_
    refine lv_iload_n hx hb dX10_weights_18 rfl (lv_at hl 1 rfl) ?_
    refine lv_if_eq (tgt := 40) hx hb dX10_weights_19 (by decide) (fun h => absurd h (by decide)) (fun _ => ?_)
    refine lv_aload_n hx hb dX10_weights_22 rfl (lv_at hl 0 rfl) ?_
    refine va_get (D := g) (ci := 9) (v := .ref m1) (C := RX10) (T := TX10) (N := 14) hx hb hts hi_wsX100 hown hK hP 0 rfl rfl 0 (by decide) (hts (.fieldLink RX10 7 "FloodBarrierModel" "now" "[J") (List.mem_of_getElem? (i := 1) rfl)) (fun _ h9 => h9) rfl dX10_weights_23 ?_
    refine lv_bipush (v := 68) hx hb dX10_weights_26 (by decide) ?_
    refine lv_iconst (v := 2) hx hb dX10_weights_28 (by decide) ?_
    refine lv_iload_n hx hb dX10_weights_29 rfl (lv_at hl 3 rfl) ?_
    refine z_imulN (x := 2) (y := k1) hx hb dX10_weights_30 ?_
    refine z_iaddN (x := 68) (y := (2 * k1)) hx hb dX10_weights_31 ?_
    refine lv_iconst (v := 1) hx hb dX10_weights_32 (by decide) ?_
    refine z_iaddN (x := (68 + (2 * k1))) (y := 1) hx hb dX10_weights_33 ?_
    refine z_lald (ct := ct) (f := n) (k := ((68 + (2 * k1)) + 1)) hx hb hK hP 1 rfl (by omega) (by decide) dX10_weights_34 ?_
    refine lv_lconst (v := 1) hx hb dX10_weights_35 (by decide) ?_
    refine z_lif_ne (tgt := 53) hx hb dX10_weights_36 dX10_weights_37 (by decide) (fun c_2 => ?_) (fun c_2 => ?_)
    · refine lv_iconst (v := 0) hx hb dX10_weights_53 (by decide) ?_
      refine lv_iadd hx hb dX10_weights_54 ?_
      refine lv_istore_n (lv' := [(2, .int ((mwcI n k1) + 0)), (0, .ref m0), (1, .int 1), (3, .int (nI k1))]) hx hb dX10_weights_55 rfl hl (by decide) rfl (fun ls hl => ?_)
      refine lv_iinc (v := nI (k1 + 1)) (lv' := [(3, .int (nI (k1 + 1))), (2, .int ((mwcI n k1) + 0)), (0, .ref m0), (1, .int 1)]) hx hb dX10_weights_56 hl (k := 3) rfl (nI_add k1 1) (by decide) rfl (fun ls hl => ?_)
      refine lv_goto (tgt := 4) hx hb dX10_weights_59 (by decide) ?_
      exact ihk1 _ _ _ (by omega) ⟨rfl, rfl, (by first | exact lv_sub hl [2, 3, 1, 0] rfl | (simp only [lp_s, mwcI, if_pos c_1, if_neg c_2]; exact lv_sub hl [2, 3, 1, 0] rfl))⟩
    · refine lv_aload_n hx hb dX10_weights_40 rfl (lv_at hl 0 rfl) ?_
      refine lv_bipush (v := 68) hx hb dX10_weights_41 (by decide) ?_
      refine lv_iconst (v := 2) hx hb dX10_weights_43 (by decide) ?_
      refine lv_iload_n hx hb dX10_weights_44 rfl (lv_at hl 3 rfl) ?_
      refine z_imulN (x := 2) (y := k1) hx hb dX10_weights_45 ?_
      refine z_iaddN (x := 68) (y := (2 * k1)) hx hb dX10_weights_46 ?_
      refine z_cVi (wc := [zO m0 9 [.ref m1, .ref m2, .ref m3, .ref m4, .ref m5, .ref m6, .ref m7, .int (nI kp), .int fl, .int (nI tn), .ref m8, .int (nI pa), .int (nI rn), .ref m9], zL ct m1 108 n, zL ct m2 540 hy, zL ct m3 108 sl, zL ct m4 108 sp, zD ct m5 33 re, zD ct m6 165 rh, zD ct m7 33 rs, zC ct m8 60 tx, zI ct m9 17 rd]) (As := [.int (nI (68 + (2 * k1)))]) (rest := [.int (mwcI n k1)]) ⟨hx, hb, hml, hown, hts⟩ hK hP [0, 1, 2, 3, 4, 5, 6, 7, 8, 9] rfl (c_X10_cell l g ct m0 m1 m2 m3 m4 m5 m6 m7 m8 m9 n hy sl sp re rh rs kp fl tn tx pa rn rd (68 + (2 * k1)) (by omega)) (cwV 1 hts gX10_weights_X10_cell rfl rfl rfl (by decide +kernel) ⟨Nat.le_of_ble_eq_true rfl, Nat.le_of_ble_eq_true rfl⟩) 0 rfl rfl rfl hl.1 rfl (Nat.le_of_ble_eq_true rfl) dX10_weights_47 ⟨Nat.zero_le _, Nat.zero_le _⟩ ?_
      refine lv_goto (tgt := 54) hx hb dX10_weights_50 (by decide) ?_
      refine lv_iadd hx hb dX10_weights_54 ?_
      refine lv_istore_n (lv' := [(2, .int ((mwcI n k1) + ((n (68 + (2 * k1))).toInt32))), (0, .ref m0), (1, .int 1), (3, .int (nI k1))]) hx hb dX10_weights_55 rfl hl (by decide) rfl (fun ls hl => ?_)
      refine lv_iinc (v := nI (k1 + 1)) (lv' := [(3, .int (nI (k1 + 1))), (2, .int ((mwcI n k1) + ((n (68 + (2 * k1))).toInt32))), (0, .ref m0), (1, .int 1)]) hx hb dX10_weights_56 hl (k := 3) rfl (nI_add k1 1) (by decide) rfl (fun ls hl => ?_)
      refine lv_goto (tgt := 4) hx hb dX10_weights_59 (by decide) ?_
      exact ihk1 _ _ _ (by omega) ⟨rfl, rfl, (by first | exact lv_sub hl [2, 3, 1, 0] rfl | (simp only [lp_s, mwcI, if_pos c_1, if_pos c_2]; exact lv_sub hl [2, 3, 1, 0] rfl))⟩

set_option maxHeartbeats 4000000 in
set_option maxRecDepth 100000 in
theorem c_X10_weights0 (l : Launch) (g : va_G) (ct : Nat → ClassId) (m0 m1 m2 m3 m4 m5 m6 m7 m8 m9 : Nat) (n hy sl sp : Nat → Int64) (re rh rs : Nat → UInt64) (kp : Nat) (fl : Int32) (tn : Nat) (tx : Nat → Int32) (pa rn : Nat) (rd : Nat → Int32) (nD : Nat) (hnD : nD ≤ 6) (hn8 : n 8 = lN nD) : Met l yX10_weights wsX10_weights (zRm 1 21) (va_Pc [.ref m0, .int 0] (zR g ct [zO m0 9 [.ref m1, .ref m2, .ref m3, .ref m4, .ref m5, .ref m6, .ref m7, .int (nI kp), .int fl, .int (nI tn), .ref m8, .int (nI pa), .int (nI rn), .ref m9], zL ct m1 108 n, zL ct m2 540 hy, zL ct m3 108 sl, zL ct m4 108 sp, zD ct m5 33 re, zD ct m6 165 rh, zD ct m7 33 rs, zC ct m8 60 tx, zI ct m9 17 rd])) (vp_Si (fun r => r = mwaI n nD)) 0 0 (fun _ => False) := by
  refine z_read (cc := cX10_weights) (maxL := 4) (ret := some .int) (by decide) rfl (Nat.le_of_ble_eq_true rfl) ?_
  intro p e s m below meth c ls hx hb hr hml hts hown hlocks hP hK hl
  have hown : s.vm.findClass RX10 = some m.cls := hown
  have hl : lv_has ls 4 [(0, .ref m0), (1, .int 0)] := hl
  have hi_wsX100 : ∀ w ∈ wsX100, w ∈ wsX10_weights := fun w h => List.mem_cons_of_mem _ (List.mem_append_right _ h)
  refine lv_iconst (v := 0) hx hb dX10_weights_0 (by decide) ?_
  refine lv_istore_n (lv' := [(2, .int 0), (0, .ref m0), (1, .int 0)]) hx hb dX10_weights_1 rfl hl (by decide) rfl (fun ls hl => ?_)
  refine lv_iconst (v := 0) hx hb dX10_weights_2 (by decide) ?_
  refine lv_istore_n (lv' := [(3, .int 0), (2, .int 0), (0, .ref m0), (1, .int 0)]) hx hb dX10_weights_3 rfl hl (by decide) rfl (fun ls hl => ?_)
  refine z_loop nD (fun k1 H2 locs2 ls => H2 = s.heap ∧ locs2 = [] ∧ lv_has ls 4 [(0, .ref m0), (1, .int 0), (2, .int (mwaI n k1)), (3, .int (nI k1))]) ⟨rfl, rfl, lv_sub hl [2, 3, 1, 0] rfl⟩ ?_
  intro k1 H2 locs2 ls hkk1 hI ihk1
  obtain ⟨rfl, rfl, hl⟩ := hI
  refine lv_iload_n hx hb dX10_weights_4 rfl (lv_at hl 3 rfl) ?_
  refine lv_i2l (v := lN k1) hx hb dX10_weights_5 (nI_l (by omega)) ?_
  refine lv_aload_n hx hb dX10_weights_6 rfl (lv_at hl 0 rfl) ?_
  refine va_get (D := g) (ci := 9) (v := .ref m1) (C := RX10) (T := TX10) (N := 14) hx hb hts hi_wsX100 hown hK hP 0 rfl rfl 0 (by decide) (hts (.fieldLink RX10 7 "FloodBarrierModel" "now" "[J") (List.mem_of_getElem? (i := 1) rfl)) (fun _ h9 => h9) rfl dX10_weights_7 ?_
  refine lv_bipush (v := 8) hx hb dX10_weights_10 (by decide) ?_
  refine z_lald (ct := ct) (f := n) (k := 8) hx hb hK hP 1 rfl (by omega) (by decide) dX10_weights_12 ?_
  rw [hn8]
  refine z_lcN_ge (x := k1) (y := nD) (tgt := 62) hx hb (by omega) (by omega) dX10_weights_13 dX10_weights_14 (by decide) (fun c_1 => ?_) (fun c_1 => ?_)
  · have hkn : nD = k1 := by omega
    subst hkn
    refine lv_iload_n hx hb dX10_weights_62 rfl (lv_at hl 2 rfl) ?_
    exact z_iretR hx hb hr hlocks rfl rfl dX10_weights_63
  · refine lv_iload_n hx hb dX10_weights_17 rfl (lv_at hl 2 rfl) ?_
    refine lv_iload_n hx hb dX10_weights_18 rfl (lv_at hl 1 rfl) ?_
    refine lv_if_eq (tgt := 40) hx hb dX10_weights_19 (by decide) (fun _ => ?_) (fun h => absurd h (by decide))
    refine lv_aload_n hx hb dX10_weights_40 rfl (lv_at hl 0 rfl) ?_
    refine lv_bipush (v := 68) hx hb dX10_weights_41 (by decide) ?_
    refine lv_iconst (v := 2) hx hb dX10_weights_43 (by decide) ?_
    refine lv_iload_n hx hb dX10_weights_44 rfl (lv_at hl 3 rfl) ?_
    refine z_imulN (x := 2) (y := k1) hx hb dX10_weights_45 ?_
    refine z_iaddN (x := 68) (y := (2 * k1)) hx hb dX10_weights_46 ?_
    refine z_cVi (wc := [zO m0 9 [.ref m1, .ref m2, .ref m3, .ref m4, .ref m5, .ref m6, .ref m7, .int (nI kp), .int fl, .int (nI tn), .ref m8, .int (nI pa), .int (nI rn), .ref m9], zL ct m1 108 n, zL ct m2 540 hy, zL ct m3 108 sl, zL ct m4 108 sp, zD ct m5 33 re, zD ct m6 165 rh, zD ct m7 33 rs, zC ct m8 60 tx, zI ct m9 17 rd]) (As := [.int (nI (68 + (2 * k1)))]) (rest := [.int (mwaI n k1)]) ⟨hx, hb, hml, hown, hts⟩ hK hP [0, 1, 2, 3, 4, 5, 6, 7, 8, 9] rfl (c_X10_cell l g ct m0 m1 m2 m3 m4 m5 m6 m7 m8 m9 n hy sl sp re rh rs kp fl tn tx pa rn rd (68 + (2 * k1)) (by omega)) (cwV 1 hts gX10_weights_X10_cell rfl rfl rfl (by decide +kernel) ⟨Nat.le_of_ble_eq_true rfl, Nat.le_of_ble_eq_true rfl⟩) 0 rfl rfl rfl hl.1 rfl (Nat.le_of_ble_eq_true rfl) dX10_weights_47 ⟨Nat.zero_le _, Nat.zero_le _⟩ ?_
    refine lv_goto (tgt := 54) hx hb dX10_weights_50 (by decide) ?_
    refine lv_iadd hx hb dX10_weights_54 ?_
    refine lv_istore_n (lv' := [(2, .int ((mwaI n k1) + ((n (68 + (2 * k1))).toInt32))), (0, .ref m0), (1, .int 0), (3, .int (nI k1))]) hx hb dX10_weights_55 rfl hl (by decide) rfl (fun ls hl => ?_)
    refine lv_iinc (v := nI (k1 + 1)) (lv' := [(3, .int (nI (k1 + 1))), (2, .int ((mwaI n k1) + ((n (68 + (2 * k1))).toInt32))), (0, .ref m0), (1, .int 0)]) hx hb dX10_weights_56 hl (k := 3) rfl (nI_add k1 1) (by decide) rfl (fun ls hl => ?_)
    refine lv_goto (tgt := 4) hx hb dX10_weights_59 (by decide) ?_
    exact ihk1 _ _ _ (by omega) ⟨rfl, rfl, (by first | exact lv_sub hl [2, 3, 1, 0] rfl | (simp only [lp_s, mwaI, if_pos c_1]; exact lv_sub hl [2, 3, 1, 0] rfl))⟩
