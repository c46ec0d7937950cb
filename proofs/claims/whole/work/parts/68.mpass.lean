set_option maxHeartbeats 4000000 in
set_option maxRecDepth 100000 in
theorem c_X10_pass_u (l : Launch) (g : va_G) (ct : Nat → ClassId) (m0 m1 m2 m3 m4 m5 m6 m7 m8 m9 : Nat) (n hy sl sp : Nat → Int64) (re rh rs : Nat → UInt64) (kp : Nat) (fl : Int32) (tn : Nat) (tx : Nat → Int32) (pa rn : Nat) (rd : Nat → Int32) (x : Int32) (hact : ¬ inP x.toInt64 1 48) : Met l yX10_pass wsX10_pass (zRm 1 25) (va_Pc [.ref m0, .int x] (zR g ct [zO m0 9 [.ref m1, .ref m2, .ref m3, .ref m4, .ref m5, .ref m6, .ref m7, .int (nI kp), .int fl, .int (nI tn), .ref m8, .int (nI pa), .int (nI rn), .ref m9], zL ct m1 108 n, zL ct m2 540 hy, zL ct m3 108 sl, zL ct m4 108 sp, zD ct m5 33 re, zD ct m6 165 rh, zD ct m7 33 rs, zC ct m8 60 tx, zI ct m9 17 rd])) (vp_Si (fun r => r = -2)) 0 0 (fun _ => False) := by
  refine z_read (cc := cX10_pass) (maxL := 4) (ret := some .int) (by decide) rfl (Nat.le_of_ble_eq_true rfl) ?_
  intro p e s m below meth c ls hx hb hr hml hts hown hlocks hP hK hl
  have hown : s.vm.findClass RX10 = some m.cls := hown
  have hl : lv_has ls 4 [(0, .ref m0), (1, .int x)] := hl
  refine lv_iload_n hx hb dX10_pass_0 rfl (lv_at hl 1 rfl) ?_
  refine lv_i2l (v := x.toInt64) hx hb dX10_pass_1 rfl ?_
  refine lv_lconst (v := 1) hx hb dX10_pass_2 (by decide) ?_
  refine lv_ldc2 (v := 48) hx hb hown (hts (.constantLong RX10 175 (48)) (List.mem_of_getElem? (i := 1) rfl)) dX10_pass_3 ?_
  refine z_cSi (As := [.long x.toInt64, .long 1, .long 48]) (rest := []) ⟨hx, hb, hml, hown, hts⟩ (c_X10_in l x.toInt64 1 48) (va_cwS 3 hts gX10_pass_X10_in rfl rfl rfl (by decide +kernel) ⟨Nat.le_of_ble_eq_true rfl, Nat.le_of_ble_eq_true rfl⟩) rfl hl.1 rfl (Nat.le_of_ble_eq_true rfl) dX10_pass_6 ⟨Nat.zero_le _, Nat.zero_le _⟩ ?_
  refine z_bif_ne (P := (inP x.toInt64 1 48)) (tgt := 15) hx hb dX10_pass_9 (by decide) (fun c_1 => ?_) (fun c_1 => ?_)
  · exact absurd c_1 hact
  · refine lv_bipush (v := (-2)) hx hb dX10_pass_12 (by decide) ?_
    exact z_iretR hx hb hr hlocks rfl rfl dX10_pass_14

set_option maxHeartbeats 4000000 in
set_option maxRecDepth 100000 in
theorem c_X10_pass_b (l : Launch) (g : va_G) (ct : Nat → ClassId) (sz : Nat) (m0 m1 m2 m3 m4 m5 m6 m7 m8 m9 : Nat) (n hy sl sp : Nat → Int64) (re rh rs : Nat → UInt64) (kp : Nat) (fl : Int32) (tn : Nat) (tx : Nat → Int32) (pa rn : Nat) (rd : Nat → Int32) (hkp : kp ≤ 5) (nS : Nat) (hnS : nS ≤ 8) (hn7 : n 7 = lN nS) (nT : Nat) (hnT : nT ≤ 4) (hn9 : n 9 = lN nT) (nP : Nat) (hnP : nP ≤ 6) (hn10 : n 10 = lN nP) (hr0 : Nat) (hh0 : hr0 < 2 ^ 31) (hn0 : n 0 = lN hr0) (mv : Nat) (hmv : mv ≤ nS) (hn2 : n 2 = lN mv) (hok : mok n re nS) (hrs : Nat) (hh1 : 1 ≤ hrs) (hh3 : hrs ≤ 48) (hh2 : hr0 + hrs < 2 ^ 31) : Met l yX10_pass wsX10_pass (zRm 5 111) (va_Pc [.ref m0, .int (nI hrs)] (zW g ct [zO m0 9 [.ref m1, .ref m2, .ref m3, .ref m4, .ref m5, .ref m6, .ref m7, .int (nI kp), .int fl, .int (nI tn), .ref m8, .int (nI pa), .int (nI rn), .ref m9], zL ct m1 108 n, zL ct m2 540 hy, zL ct m3 108 sl, zL ct m4 108 sp, zD ct m5 33 re, zD ct m6 165 rh, zD ct m7 33 rs, zC ct m8 60 tx, zI ct m9 17 rd] sz)) (zQi g [zO m0 9 [.ref m1, .ref m2, .ref m3, .ref m4, .ref m5, .ref m6, .ref m7, .int (nI (mkp kp)), .int fl, .int (nI tn), .ref m8, .int (nI pa), .int (nI rn), .ref m9], zL ct m1 108 (mpsN n re nS nT nP hr0 hrs), zL ct m2 540 (mhy hy n kp), zL ct m3 108 sl, zL ct m4 108 sp, zD ct m5 33 re, zD ct m6 165 (mrh rh re kp), zD ct m7 33 rs, zC ct m8 60 tx, zI ct m9 17 rd] (mpsJ n re nS nT nP hr0 hrs) (va_A [zO m0 9 [.ref m1, .ref m2, .ref m3, .ref m4, .ref m5, .ref m6, .ref m7, .int (nI kp), .int fl, .int (nI tn), .ref m8, .int (nI pa), .int (nI rn), .ref m9], zL ct m1 108 n, zL ct m2 540 hy, zL ct m3 108 sl, zL ct m4 108 sp, zD ct m5 33 re, zD ct m6 165 rh, zD ct m7 33 rs, zC ct m8 60 tx, zI ct m9 17 rd] sz)) 0 0 (va_A [zO m0 9 [.ref m1, .ref m2, .ref m3, .ref m4, .ref m5, .ref m6, .ref m7, .int (nI kp), .int fl, .int (nI tn), .ref m8, .int (nI pa), .int (nI rn), .ref m9], zL ct m1 108 n, zL ct m2 540 hy, zL ct m3 108 sl, zL ct m4 108 sp, zD ct m5 33 re, zD ct m6 165 rh, zD ct m7 33 rs, zC ct m8 60 tx, zI ct m9 17 rd] sz) := by
  refine z_write (QA := zQi g [zO m0 9 [.ref m1, .ref m2, .ref m3, .ref m4, .ref m5, .ref m6, .ref m7, .int (nI (mkp kp)), .int fl, .int (nI tn), .ref m8, .int (nI pa), .int (nI rn), .ref m9], zL ct m1 108 (mpsN n re nS nT nP hr0 hrs), zL ct m2 540 (mhy hy n kp), zL ct m3 108 sl, zL ct m4 108 sp, zD ct m5 33 re, zD ct m6 165 (mrh rh re kp), zD ct m7 33 rs, zC ct m8 60 tx, zI ct m9 17 rd] (mpsJ n re nS nT nP hr0 hrs)) (cc := cX10_pass) (maxL := 4) (ret := some .int) (by decide) rfl (Nat.le_of_ble_eq_true rfl) ?_
  intro p e s m below meth c ls A hx hb hr hml hts hown hlocks hin hP hK hD hNW hA hS hl
  have hown : s.vm.findClass RX10 = some m.cls := hown
  have hl : lv_has ls 4 [(0, .ref m0), (1, .int (nI hrs))] := hl
  refine lv_iload_n hx hb dX10_pass_0 rfl (lv_at hl 1 rfl) ?_
  refine lv_i2l (v := lN hrs) hx hb dX10_pass_1 (nI_l (by omega)) ?_
  refine lv_lconst (v := 1) hx hb dX10_pass_2 (by decide) ?_
  refine lv_ldc2 (v := 48) hx hb hown (hts (.constantLong RX10 175 (48)) (List.mem_of_getElem? (i := 1) rfl)) dX10_pass_3 ?_
  refine z_cSi (As := [.long (lN hrs), .long 1, .long 48]) (rest := []) ⟨hx, hb, hml, hown, hts⟩ (c_X10_in l (lN hrs) 1 48) (va_cwS 3 hts gX10_pass_X10_in rfl rfl rfl (by decide +kernel) ⟨Nat.le_of_ble_eq_true rfl, Nat.le_of_ble_eq_true rfl⟩) rfl hl.1 rfl (Nat.le_of_ble_eq_true rfl) dX10_pass_6 ⟨Nat.zero_le _, Nat.zero_le _⟩ ?_
  refine z_bif_ne (P := (inP (lN hrs) 1 48)) (tgt := 15) hx hb dX10_pass_9 (by decide) (fun c_1 => ?_) (fun c_1 => ?_)
  · refine lv_aload_n hx hb dX10_pass_15 rfl (lv_at hl 0 rfl) ?_
    refine z_wVv (wc := [zO m0 9 [.ref m1, .ref m2, .ref m3, .ref m4, .ref m5, .ref m6, .ref m7, .int (nI kp), .int fl, .int (nI tn), .ref m8, .int (nI pa), .int (nI rn), .ref m9], zL ct m1 108 n, zL ct m2 540 hy, zL ct m3 108 sl, zL ct m4 108 sp, zD ct m5 33 re, zD ct m6 165 rh, zD ct m7 33 rs, zC ct m8 60 tx, zI ct m9 17 rd]) (wr := []) (w2 := [zO m0 9 [.ref m1, .ref m2, .ref m3, .ref m4, .ref m5, .ref m6, .ref m7, .int (nI (mkp kp)), .int fl, .int (nI tn), .ref m8, .int (nI pa), .int (nI rn), .ref m9], zL ct m1 108 n, zL ct m2 540 (mhy hy n kp), zL ct m3 108 sl, zL ct m4 108 sp, zD ct m5 33 re, zD ct m6 165 (mrh rh re kp), zD ct m7 33 rs, zC ct m8 60 tx, zI ct m9 17 rd]) (As := []) (rest := []) ⟨hx, hb, hml, hown, hts⟩ hK hP hD hS hNW hA [0, 1, 2, 3, 4, 5, 6, 7, 8, 9] [] [0, 1, 2, 3, 4, 5, 6, 7, 8, 9] rfl rfl rfl rfl rfl rfl (by decide) (c_X10_record l g ct _ m0 m1 m2 m3 m4 m5 m6 m7 m8 m9 n hy sl sp re rh rs kp fl tn tx pa rn rd (by omega)) (cwV 0 hts gX10_pass_X10_record rfl rfl rfl (by decide +kernel) ⟨Nat.le_of_ble_eq_true rfl, Nat.le_of_ble_eq_true rfl⟩) 0 rfl rfl rfl hl.1 rfl (Nat.le_of_ble_eq_true rfl) dX10_pass_16 ⟨Nat.zero_le _, Nat.zero_le _⟩ (fun H locs hP hD hS => ?_)
    refine lv_iconst (v := 0) hx hb dX10_pass_19 (by decide) ?_
    refine lv_istore_n (lv' := [(2, .int 0), (0, .ref m0), (1, .int (nI hrs))]) hx hb dX10_pass_20 rfl hl (by decide) rfl (fun ls hl => ?_)
    refine lv_iconst (v := 0) hx hb dX10_pass_21 (by decide) ?_
    refine lv_istore_n (lv' := [(3, .int 0), (2, .int 0), (0, .ref m0), (1, .int (nI hrs))]) hx hb dX10_pass_22 rfl hl (by decide) rfl (fun ls hl => ?_)
    refine z_loop hrs (fun k1 H locs ls => va_P g vwCl [zO m0 9 [.ref m1, .ref m2, .ref m3, .ref m4, .ref m5, .ref m6, .ref m7, .int (nI (mkp kp)), .int fl, .int (nI tn), .ref m8, .int (nI pa), .int (nI rn), .ref m9], zL ct m1 108 (mpsN n re nS nT nP hr0 k1), zL ct m2 540 (mhy hy n kp), zL ct m3 108 sl, zL ct m4 108 sp, zD ct m5 33 re, zD ct m6 165 (mrh rh re kp), zD ct m7 33 rs, zC ct m8 60 tx, zI ct m9 17 rd] H ∧ va_D A [zO m0 9 [.ref m1, .ref m2, .ref m3, .ref m4, .ref m5, .ref m6, .ref m7, .int (nI (mkp kp)), .int fl, .int (nI tn), .ref m8, .int (nI pa), .int (nI rn), .ref m9], zL ct m1 108 (mpsN n re nS nT nP hr0 k1), zL ct m2 540 (mhy hy n kp), zL ct m3 108 sl, zL ct m4 108 sp, zD ct m5 33 re, zD ct m6 165 (mrh rh re kp), zD ct m7 33 rs, zC ct m8 60 tx, zI ct m9 17 rd] ∧ va_S A s.heap H locs ∧ lv_has ls 4 [(0, .ref m0), (1, .int (nI hrs)), (2, .int (mpsJ n re nS nT nP hr0 k1)), (3, .int (nI k1))]) ⟨hP, hD, hS, lv_sub hl [2, 3, 1, 0] rfl⟩ ?_
    intro k1 H locs ls hkk1 hI ihk1
    obtain ⟨hP, hD, hS, hl⟩ := hI
    have hkp1 := mps_keep (re := re) (nT := nT) (nP := nP) hnS hmv hn2 hn0 k1
    obtain ⟨mv1, hmv1, hn21⟩ := hkp1.2.2
    refine lv_iload_n hx hb dX10_pass_23 rfl (lv_at hl 3 rfl) ?_
    refine lv_iload_n hx hb dX10_pass_24 rfl (lv_at hl 1 rfl) ?_
    refine z_icN_ge (x := k1) (y := hrs) (tgt := 41) hx hb (by omega) (by omega) dX10_pass_25 (by decide) (fun c_2 => ?_) (fun c_2 => ?_)
    · have hkn : hrs = k1 := by omega
      subst hkn
      refine lv_iload_n hx hb dX10_pass_41 rfl (lv_at hl 2 rfl) ?_
      exact z_iretW hx hb hr hlocks hS hP hD rfl rfl (Nat.le_refl _) (Nat.le_refl _) dX10_pass_42
    · refine lv_iload_n hx hb dX10_pass_28 rfl (lv_at hl 2 rfl) ?_
      refine lv_aload_n hx hb dX10_pass_29 rfl (lv_at hl 0 rfl) ?_
      refine z_wVi (wc := [zO m0 9 [.ref m1, .ref m2, .ref m3, .ref m4, .ref m5, .ref m6, .ref m7, .int (nI (mkp kp)), .int fl, .int (nI tn), .ref m8, .int (nI pa), .int (nI rn), .ref m9], zL ct m1 108 (mpsN n re nS nT nP hr0 k1), zL ct m2 540 (mhy hy n kp), zL ct m3 108 sl, zL ct m4 108 sp, zD ct m5 33 re, zD ct m6 165 (mrh rh re kp), zD ct m7 33 rs, zC ct m8 60 tx, zI ct m9 17 rd]) (wr := []) (w2 := [zO m0 9 [.ref m1, .ref m2, .ref m3, .ref m4, .ref m5, .ref m6, .ref m7, .int (nI (mkp kp)), .int fl, .int (nI tn), .ref m8, .int (nI pa), .int (nI rn), .ref m9], zL ct m1 108 (mgoN (mpsN n re nS nT nP hr0 k1) re nS nT nP (hr0 + k1)), zL ct m2 540 (mhy hy n kp), zL ct m3 108 sl, zL ct m4 108 sp, zD ct m5 33 re, zD ct m6 165 (mrh rh re kp), zD ct m7 33 rs, zC ct m8 60 tx, zI ct m9 17 rd]) (As := []) (rest := [.int (mpsJ n re nS nT nP hr0 k1)]) ⟨hx, hb, hml, hown, hts⟩ hK hP hD hS hNW hA [0, 1, 2, 3, 4, 5, 6, 7, 8, 9] [] [0, 1, 2, 3, 4, 5, 6, 7, 8, 9] rfl rfl rfl rfl rfl rfl (by decide) (c_X10_goesOn l g ct _ m0 m1 m2 m3 m4 m5 m6 m7 m8 m9 (mpsN n re nS nT nP hr0 k1) (mhy hy n kp) sl sp re (mrh rh re kp) rs (mkp kp) fl tn tx pa rn rd nS (by omega) ((mkeep_c hkp1 (by decide) (by decide)).trans hn7) nT (by omega) ((mkeep_c hkp1 (by decide) (by decide)).trans hn9) nP (by omega) ((mkeep_c hkp1 (by decide) (by decide)).trans hn10) (hr0 + k1) (by omega) hkp1.2.1 mv1 hmv1 hn21 (mkeep_ok hkp1 hnS hok)) (cwV 0 hts gX10_pass_X10_goesOn rfl rfl rfl (by decide +kernel) ⟨Nat.le_of_ble_eq_true rfl, Nat.le_of_ble_eq_true rfl⟩) 0 rfl rfl rfl hl.1 rfl (Nat.le_of_ble_eq_true rfl) dX10_pass_30 ⟨Nat.zero_le _, Nat.zero_le _⟩ (fun H locs hP hD hS => ?_)
      refine lv_iadd hx hb dX10_pass_33 ?_
      refine lv_istore_n (lv' := [(2, .int ((mpsJ n re nS nT nP hr0 k1) + (if folJ (mpsN n re nS nT nP hr0 k1) nS then 1 else 0))), (0, .ref m0), (1, .int (nI hrs)), (3, .int (nI k1))]) hx hb dX10_pass_34 rfl hl (by decide) rfl (fun ls hl => ?_)
      refine lv_iinc (v := nI (k1 + 1)) (lv' := [(3, .int (nI (k1 + 1))), (2, .int ((mpsJ n re nS nT nP hr0 k1) + (if folJ (mpsN n re nS nT nP hr0 k1) nS then 1 else 0))), (0, .ref m0), (1, .int (nI hrs))]) hx hb dX10_pass_35 hl (k := 3) rfl (nI_add k1 1) (by decide) rfl (fun ls hl => ?_)
      refine lv_goto (tgt := 23) hx hb dX10_pass_38 (by decide) ?_
      exact ihk1 _ _ _ (by omega) ⟨(by first | exact hP | (simp only [lp_s, mpsN_s, mpsJ_s, if_pos c_2]; exact hP)), (by first | exact hD | (simp only [lp_s, mpsN_s, mpsJ_s, if_pos c_2]; exact hD)), hS, (by first | exact lv_sub hl [2, 3, 1, 0] rfl | (simp only [lp_s, mpsN_s, mpsJ_s, if_pos c_2]; exact lv_sub hl [2, 3, 1, 0] rfl))⟩
  · exact absurd (show inP (lN hrs) 1 48 from (inP_48 (a := 1) (by omega) hh1 hh3)) c_1

set_option maxHeartbeats 4000000 in
set_option maxRecDepth 100000 in
theorem c_X10_takeSpare (l : Launch) (g : va_G) (ct : Nat → ClassId) (sz : Nat) (m0 m1 m2 m3 m4 m5 m6 m7 m8 m9 : Nat) (n hy sl sp : Nat → Int64) (re rh rs : Nat → UInt64) (kp : Nat) (fl : Int32) (tn : Nat) (tx : Nat → Int32) (pa rn : Nat) (rd : Nat → Int32) : Met l yX10_takeSpare wsX10_takeSpare (zRm 0 0) (va_Pc [.ref m0] (zW g ct [zO m0 9 [.ref m1, .ref m2, .ref m3, .ref m4, .ref m5, .ref m6, .ref m7, .int (nI kp), .int fl, .int (nI tn), .ref m8, .int (nI pa), .int (nI rn), .ref m9], zL ct m1 108 n, zL ct m2 540 hy, zL ct m3 108 sl, zL ct m4 108 sp, zD ct m5 33 re, zD ct m6 165 rh, zD ct m7 33 rs, zC ct m8 60 tx, zI ct m9 17 rd] sz)) (zQv g [zO m0 9 [.ref m1, .ref m2, .ref m3, .ref m4, .ref m5, .ref m6, .ref m7, .int (nI kp), .int fl, .int (nI tn), .ref m8, .int (nI pa), .int (nI rn), .ref m9], zL ct m1 108 n, zL ct m2 540 hy, zL ct m3 108 sl, zL ct m4 108 (cp0 sp n 108), zD ct m5 33 re, zD ct m6 165 rh, zD ct m7 33 rs, zC ct m8 60 tx, zI ct m9 17 rd] (va_A [zO m0 9 [.ref m1, .ref m2, .ref m3, .ref m4, .ref m5, .ref m6, .ref m7, .int (nI kp), .int fl, .int (nI tn), .ref m8, .int (nI pa), .int (nI rn), .ref m9], zL ct m1 108 n, zL ct m2 540 hy, zL ct m3 108 sl, zL ct m4 108 sp, zD ct m5 33 re, zD ct m6 165 rh, zD ct m7 33 rs, zC ct m8 60 tx, zI ct m9 17 rd] sz)) 0 0 (va_A [zO m0 9 [.ref m1, .ref m2, .ref m3, .ref m4, .ref m5, .ref m6, .ref m7, .int (nI kp), .int fl, .int (nI tn), .ref m8, .int (nI pa), .int (nI rn), .ref m9], zL ct m1 108 n, zL ct m2 540 hy, zL ct m3 108 sl, zL ct m4 108 sp, zD ct m5 33 re, zD ct m6 165 rh, zD ct m7 33 rs, zC ct m8 60 tx, zI ct m9 17 rd] sz) := by
  refine z_write (QA := zQv g [zO m0 9 [.ref m1, .ref m2, .ref m3, .ref m4, .ref m5, .ref m6, .ref m7, .int (nI kp), .int fl, .int (nI tn), .ref m8, .int (nI pa), .int (nI rn), .ref m9], zL ct m1 108 n, zL ct m2 540 hy, zL ct m3 108 sl, zL ct m4 108 (cp0 sp n 108), zD ct m5 33 re, zD ct m6 165 rh, zD ct m7 33 rs, zC ct m8 60 tx, zI ct m9 17 rd]) (cc := cX10_takeSpare) (maxL := 2) (ret := none) (by decide) rfl (Nat.le_of_ble_eq_true rfl) ?_
  intro p e s m below meth c ls A hx hb hr hml hts hown hlocks hin hP hK hD hNW hA hS hl
  have hown : s.vm.findClass RX10 = some m.cls := hown
  have hl : lv_has ls 2 [(0, .ref m0)] := hl
  have hi_wsX100 : ∀ w ∈ wsX100, w ∈ wsX10_takeSpare := fun w h => List.mem_cons_of_mem _ (List.mem_append_right _ h)
  refine lv_iconst (v := 0) hx hb dX10_takeSpare_0 (by decide) ?_
  refine lv_istore_n (lv' := [(1, .int 0), (0, .ref m0)]) hx hb dX10_takeSpare_1 rfl hl (by decide) rfl (fun ls hl => ?_)
  refine z_loop 108 (fun k1 H locs ls => va_P g vwCl [zO m0 9 [.ref m1, .ref m2, .ref m3, .ref m4, .ref m5, .ref m6, .ref m7, .int (nI kp), .int fl, .int (nI tn), .ref m8, .int (nI pa), .int (nI rn), .ref m9], zL ct m1 108 n, zL ct m2 540 hy, zL ct m3 108 sl, zL ct m4 108 (cp0 sp n k1), zD ct m5 33 re, zD ct m6 165 rh, zD ct m7 33 rs, zC ct m8 60 tx, zI ct m9 17 rd] H ∧ va_D A [zO m0 9 [.ref m1, .ref m2, .ref m3, .ref m4, .ref m5, .ref m6, .ref m7, .int (nI kp), .int fl, .int (nI tn), .ref m8, .int (nI pa), .int (nI rn), .ref m9], zL ct m1 108 n, zL ct m2 540 hy, zL ct m3 108 sl, zL ct m4 108 (cp0 sp n k1), zD ct m5 33 re, zD ct m6 165 rh, zD ct m7 33 rs, zC ct m8 60 tx, zI ct m9 17 rd] ∧ va_S A s.heap H locs ∧ lv_has ls 2 [(0, .ref m0), (1, .int (nI k1))]) ⟨(by rw [cp0_0]; exact hP), (by rw [cp0_0]; exact hD), hS, lv_sub hl [1, 0] rfl⟩ ?_
  intro k1 H locs ls hkk1 hI ihk1
  obtain ⟨hP, hD, hS, hl⟩ := hI
  refine lv_iload_n hx hb dX10_takeSpare_2 rfl (lv_at hl 1 rfl) ?_
  refine lv_bipush (v := 108) hx hb dX10_takeSpare_3 (by decide) ?_
  refine z_icN_ge (x := k1) (y := 108) (tgt := 26) hx hb (by omega) (by omega) dX10_takeSpare_5 (by decide) (fun c_1 => ?_) (fun c_1 => ?_)
  · have hkn : 108 = k1 := by omega
    subst hkn
    exact z_vretW hx hb hr hlocks hS hP hD rfl (Nat.le_refl _) (Nat.le_refl _) dX10_takeSpare_26
  · refine lv_aload_n hx hb dX10_takeSpare_8 rfl (lv_at hl 0 rfl) ?_
    refine va_get (D := g) (ci := 9) (v := .ref m4) (C := RX10) (T := TX10) (N := 14) hx hb hts hi_wsX100 hown hK hP 0 rfl rfl 3 (by decide) (hts (.fieldLink RX10 19 "FloodBarrierModel" "spare" "[J") (List.mem_of_getElem? (i := 1) rfl)) (fun _ h9 => h9) rfl dX10_takeSpare_9 ?_
    refine lv_iload_n hx hb dX10_takeSpare_12 rfl (lv_at hl 1 rfl) ?_
    refine lv_aload_n hx hb dX10_takeSpare_13 rfl (lv_at hl 0 rfl) ?_
    refine va_get (D := g) (ci := 9) (v := .ref m1) (C := RX10) (T := TX10) (N := 14) hx hb hts hi_wsX100 hown hK hP 0 rfl rfl 0 (by decide) (hts (.fieldLink RX10 7 "FloodBarrierModel" "now" "[J") (List.mem_of_getElem? (i := 2) rfl)) (fun _ h9 => h9) rfl dX10_takeSpare_14 ?_
    refine lv_iload_n hx hb dX10_takeSpare_17 rfl (lv_at hl 1 rfl) ?_
    refine z_lald (ct := ct) (f := n) (k := k1) hx hb hK hP 1 rfl (by omega) (by decide) dX10_takeSpare_18 ?_
    refine z_last (ct := ct) (f := (cp0 sp n k1)) (k := k1) (x := (n k1)) hx hb hK hP hD hS 4 rfl (by omega) (by decide) dX10_takeSpare_19 (fun H locs hP hD hS => ?_)
    have hP : va_P g vwCl [zO m0 9 [.ref m1, .ref m2, .ref m3, .ref m4, .ref m5, .ref m6, .ref m7, .int (nI kp), .int fl, .int (nI tn), .ref m8, .int (nI pa), .int (nI rn), .ref m9], zL ct m1 108 n, zL ct m2 540 hy, zL ct m3 108 sl, zL ct m4 108 (vp_updL (cp0 sp n k1) k1 (n k1)), zD ct m5 33 re, zD ct m6 165 rh, zD ct m7 33 rs, zC ct m8 60 tx, zI ct m9 17 rd] H := hP
    have hD : va_D A [zO m0 9 [.ref m1, .ref m2, .ref m3, .ref m4, .ref m5, .ref m6, .ref m7, .int (nI kp), .int fl, .int (nI tn), .ref m8, .int (nI pa), .int (nI rn), .ref m9], zL ct m1 108 n, zL ct m2 540 hy, zL ct m3 108 sl, zL ct m4 108 (vp_updL (cp0 sp n k1) k1 (n k1)), zD ct m5 33 re, zD ct m6 165 rh, zD ct m7 33 rs, zC ct m8 60 tx, zI ct m9 17 rd] := hD
    refine lv_iinc (v := nI (k1 + 1)) (lv' := [(1, .int (nI (k1 + 1))), (0, .ref m0)]) hx hb dX10_takeSpare_20 hl (k := 1) rfl (nI_add k1 1) (by decide) rfl (fun ls hl => ?_)
    refine lv_goto (tgt := 2) hx hb dX10_takeSpare_23 (by decide) ?_
    exact ihk1 _ _ _ (by omega) ⟨(by first | exact hP | (simp only [lp_s, ← cp0_s, if_pos c_1]; exact hP)), (by first | exact hD | (simp only [lp_s, ← cp0_s, if_pos c_1]; exact hD)), hS, (by first | exact lv_sub hl [1, 0] rfl | (simp only [lp_s, ← cp0_s, if_pos c_1]; exact lv_sub hl [1, 0] rfl))⟩

set_option maxHeartbeats 4000000 in
set_option maxRecDepth 100000 in
theorem c_X10_putBack (l : Launch) (g : va_G) (ct : Nat → ClassId) (sz : Nat) (m0 m1 m2 m3 m4 m5 m6 m7 m8 m9 : Nat) (n hy sl sp : Nat → Int64) (re rh rs : Nat → UInt64) (kp : Nat) (fl : Int32) (tn : Nat) (tx : Nat → Int32) (pa rn : Nat) (rd : Nat → Int32) : Met l yX10_putBack wsX10_putBack (zRm 0 0) (va_Pc [.ref m0] (zW g ct [zO m0 9 [.ref m1, .ref m2, .ref m3, .ref m4, .ref m5, .ref m6, .ref m7, .int (nI kp), .int fl, .int (nI tn), .ref m8, .int (nI pa), .int (nI rn), .ref m9], zL ct m1 108 n, zL ct m2 540 hy, zL ct m3 108 sl, zL ct m4 108 sp, zD ct m5 33 re, zD ct m6 165 rh, zD ct m7 33 rs, zC ct m8 60 tx, zI ct m9 17 rd] sz)) (zQv g [zO m0 9 [.ref m1, .ref m2, .ref m3, .ref m4, .ref m5, .ref m6, .ref m7, .int (nI kp), .int fl, .int (nI tn), .ref m8, .int (nI pa), .int (nI rn), .ref m9], zL ct m1 108 (cp0 n sp 108), zL ct m2 540 hy, zL ct m3 108 sl, zL ct m4 108 sp, zD ct m5 33 re, zD ct m6 165 rh, zD ct m7 33 rs, zC ct m8 60 tx, zI ct m9 17 rd] (va_A [zO m0 9 [.ref m1, .ref m2, .ref m3, .ref m4, .ref m5, .ref m6, .ref m7, .int (nI kp), .int fl, .int (nI tn), .ref m8, .int (nI pa), .int (nI rn), .ref m9], zL ct m1 108 n, zL ct m2 540 hy, zL ct m3 108 sl, zL ct m4 108 sp, zD ct m5 33 re, zD ct m6 165 rh, zD ct m7 33 rs, zC ct m8 60 tx, zI ct m9 17 rd] sz)) 0 0 (va_A [zO m0 9 [.ref m1, .ref m2, .ref m3, .ref m4, .ref m5, .ref m6, .ref m7, .int (nI kp), .int fl, .int (nI tn), .ref m8, .int (nI pa), .int (nI rn), .ref m9], zL ct m1 108 n, zL ct m2 540 hy, zL ct m3 108 sl, zL ct m4 108 sp, zD ct m5 33 re, zD ct m6 165 rh, zD ct m7 33 rs, zC ct m8 60 tx, zI ct m9 17 rd] sz) := by
  refine z_write (QA := zQv g [zO m0 9 [.ref m1, .ref m2, .ref m3, .ref m4, .ref m5, .ref m6, .ref m7, .int (nI kp), .int fl, .int (nI tn), .ref m8, .int (nI pa), .int (nI rn), .ref m9], zL ct m1 108 (cp0 n sp 108), zL ct m2 540 hy, zL ct m3 108 sl, zL ct m4 108 sp, zD ct m5 33 re, zD ct m6 165 rh, zD ct m7 33 rs, zC ct m8 60 tx, zI ct m9 17 rd]) (cc := cX10_putBack) (maxL := 2) (ret := none) (by decide) rfl (Nat.le_of_ble_eq_true rfl) ?_
  intro p e s m below meth c ls A hx hb hr hml hts hown hlocks hin hP hK hD hNW hA hS hl
  have hown : s.vm.findClass RX10 = some m.cls := hown
  have hl : lv_has ls 2 [(0, .ref m0)] := hl
  have hi_wsX100 : ∀ w ∈ wsX100, w ∈ wsX10_putBack := fun w h => List.mem_cons_of_mem _ (List.mem_append_right _ h)
  refine lv_iconst (v := 0) hx hb dX10_putBack_0 (by decide) ?_
  refine lv_istore_n (lv' := [(1, .int 0), (0, .ref m0)]) hx hb dX10_putBack_1 rfl hl (by decide) rfl (fun ls hl => ?_)
  refine z_loop 108 (fun k1 H locs ls => va_P g vwCl [zO m0 9 [.ref m1, .ref m2, .ref m3, .ref m4, .ref m5, .ref m6, .ref m7, .int (nI kp), .int fl, .int (nI tn), .ref m8, .int (nI pa), .int (nI rn), .ref m9], zL ct m1 108 (cp0 n sp k1), zL ct m2 540 hy, zL ct m3 108 sl, zL ct m4 108 sp, zD ct m5 33 re, zD ct m6 165 rh, zD ct m7 33 rs, zC ct m8 60 tx, zI ct m9 17 rd] H ∧ va_D A [zO m0 9 [.ref m1, .ref m2, .ref m3, .ref m4, .ref m5, .ref m6, .ref m7, .int (nI kp), .int fl, .int (nI tn), .ref m8, .int (nI pa), .int (nI rn), .ref m9], zL ct m1 108 (cp0 n sp k1), zL ct m2 540 hy, zL ct m3 108 sl, zL ct m4 108 sp, zD ct m5 33 re, zD ct m6 165 rh, zD ct m7 33 rs, zC ct m8 60 tx, zI ct m9 17 rd] ∧ va_S A s.heap H locs ∧ lv_has ls 2 [(0, .ref m0), (1, .int (nI k1))]) ⟨(by rw [cp0_0]; exact hP), (by rw [cp0_0]; exact hD), hS, lv_sub hl [1, 0] rfl⟩ ?_
  intro k1 H locs ls hkk1 hI ihk1
  obtain ⟨hP, hD, hS, hl⟩ := hI
  refine lv_iload_n hx hb dX10_putBack_2 rfl (lv_at hl 1 rfl) ?_
  refine lv_bipush (v := 108) hx hb dX10_putBack_3 (by decide) ?_
  refine z_icN_ge (x := k1) (y := 108) (tgt := 26) hx hb (by omega) (by omega) dX10_putBack_5 (by decide) (fun c_1 => ?_) (fun c_1 => ?_)
  · have hkn : 108 = k1 := by omega
    subst hkn
    exact z_vretW hx hb hr hlocks hS hP hD rfl (Nat.le_refl _) (Nat.le_refl _) dX10_putBack_26
  · refine lv_aload_n hx hb dX10_putBack_8 rfl (lv_at hl 0 rfl) ?_
    refine va_get (D := g) (ci := 9) (v := .ref m1) (C := RX10) (T := TX10) (N := 14) hx hb hts hi_wsX100 hown hK hP 0 rfl rfl 0 (by decide) (hts (.fieldLink RX10 7 "FloodBarrierModel" "now" "[J") (List.mem_of_getElem? (i := 1) rfl)) (fun _ h9 => h9) rfl dX10_putBack_9 ?_
    refine lv_iload_n hx hb dX10_putBack_12 rfl (lv_at hl 1 rfl) ?_
    refine lv_aload_n hx hb dX10_putBack_13 rfl (lv_at hl 0 rfl) ?_
    refine va_get (D := g) (ci := 9) (v := .ref m4) (C := RX10) (T := TX10) (N := 14) hx hb hts hi_wsX100 hown hK hP 0 rfl rfl 3 (by decide) (hts (.fieldLink RX10 19 "FloodBarrierModel" "spare" "[J") (List.mem_of_getElem? (i := 2) rfl)) (fun _ h9 => h9) rfl dX10_putBack_14 ?_
    refine lv_iload_n hx hb dX10_putBack_17 rfl (lv_at hl 1 rfl) ?_
    refine z_lald (ct := ct) (f := sp) (k := k1) hx hb hK hP 4 rfl (by omega) (by decide) dX10_putBack_18 ?_
    refine z_last (ct := ct) (f := (cp0 n sp k1)) (k := k1) (x := (sp k1)) hx hb hK hP hD hS 1 rfl (by omega) (by decide) dX10_putBack_19 (fun H locs hP hD hS => ?_)
    have hP : va_P g vwCl [zO m0 9 [.ref m1, .ref m2, .ref m3, .ref m4, .ref m5, .ref m6, .ref m7, .int (nI kp), .int fl, .int (nI tn), .ref m8, .int (nI pa), .int (nI rn), .ref m9], zL ct m1 108 (vp_updL (cp0 n sp k1) k1 (sp k1)), zL ct m2 540 hy, zL ct m3 108 sl, zL ct m4 108 sp, zD ct m5 33 re, zD ct m6 165 rh, zD ct m7 33 rs, zC ct m8 60 tx, zI ct m9 17 rd] H := hP
    have hD : va_D A [zO m0 9 [.ref m1, .ref m2, .ref m3, .ref m4, .ref m5, .ref m6, .ref m7, .int (nI kp), .int fl, .int (nI tn), .ref m8, .int (nI pa), .int (nI rn), .ref m9], zL ct m1 108 (vp_updL (cp0 n sp k1) k1 (sp k1)), zL ct m2 540 hy, zL ct m3 108 sl, zL ct m4 108 sp, zD ct m5 33 re, zD ct m6 165 rh, zD ct m7 33 rs, zC ct m8 60 tx, zI ct m9 17 rd] := hD
    refine lv_iinc (v := nI (k1 + 1)) (lv' := [(1, .int (nI (k1 + 1))), (0, .ref m0)]) hx hb dX10_putBack_20 hl (k := 1) rfl (nI_add k1 1) (by decide) rfl (fun ls hl => ?_)
    refine lv_goto (tgt := 2) hx hb dX10_putBack_23 (by decide) ?_
    exact ihk1 _ _ _ (by omega) ⟨(by first | exact hP | (simp only [lp_s, ← cp0_s, if_pos c_1]; exact hP)), (by first | exact hD | (simp only [lp_s, ← cp0_s, if_pos c_1]; exact hD)), hS, (by first | exact lv_sub hl [1, 0] rfl | (simp only [lp_s, ← cp0_s, if_pos c_1]; exact lv_sub hl [1, 0] rfl))⟩
