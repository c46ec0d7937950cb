set_option maxHeartbeats 4000000 in
set_option maxRecDepth 100000 in
theorem c_X10_close_a (l : Launch) (g : va_G) (ct : Nat → ClassId) (m0 m1 m2 m3 m4 m5 m6 m7 m8 m9 : Nat) (n hy sl sp : Nat → Int64) (re rh rs : Nat → UInt64) (kp : Nat) (fl : Int32) (tn : Nat) (tx : Nat → Int32) (pa rn : Nat) (rd : Nat → Int32) (nS : Nat) (hnS : nS ≤ 8) (hn7 : n 7 = lN nS) (nD : Nat) (hnD : nD ≤ 6) (hn8 : n 8 = lN nD) (hno : ¬ (¬ 2 * mwcI n nD ≤ mwaI n nD ∧ ¬ mstI n 0 nS + mstI n 1 nS + mstI n 3 nS = 0 ∧ ¬ n 1 = 1)) : Met l yX10_close wsX10_close (zRm 4 86) (va_Pc [.ref m0] (zR g ct [zO m0 9 [.ref m1, .ref m2, .ref m3, .ref m4, .ref m5, .ref m6, .ref m7, .int (nI kp), .int fl, .int (nI tn), .ref m8, .int (nI pa), .int (nI rn), .ref m9], zL ct m1 108 n, zL ct m2 540 hy, zL ct m3 108 sl, zL ct m4 108 sp, zD ct m5 33 re, zD ct m6 165 rh, zD ct m7 33 rs, zC ct m8 60 tx, zI ct m9 17 rd])) (vp_Si (fun r => r = if 2 * mwcI n nD ≤ mwaI n nD ∨ mstI n 0 nS + mstI n 1 nS + mstI n 3 nS = 0 then -4 else -5)) 0 0 (fun _ => False) := by
  refine z_read (cc := cX10_close) (maxL := 2) (ret := some .int) (by decide) rfl (Nat.le_of_ble_eq_true rfl) ?_
  intro p e s m below meth c ls hx hb hr hml hts hown hlocks hP hK hl
  have hown : s.vm.findClass RX10 = some m.cls := hown
  have hl : lv_has ls 2 [(0, .ref m0)] := hl
  have hi_wsX100 : ∀ w ∈ wsX100, w ∈ wsX10_close := fun w h => List.mem_cons_of_mem _ (List.mem_append_right _ h)
  refine lv_iconst (v := 2) hx hb dX10_close_0 (by decide) ?_
  refine lv_aload_n hx hb dX10_close_1 rfl (lv_at hl 0 rfl) ?_
  refine lv_iconst (v := 1) hx hb dX10_close_2 (by decide) ?_
  refine z_cVi (wc := [zO m0 9 [.ref m1, .ref m2, .ref m3, .ref m4, .ref m5, .ref m6, .ref m7, .int (nI kp), .int fl, .int (nI tn), .ref m8, .int (nI pa), .int (nI rn), .ref m9], zL ct m1 108 n, zL ct m2 540 hy, zL ct m3 108 sl, zL ct m4 108 sp, zD ct m5 33 re, zD ct m6 165 rh, zD ct m7 33 rs, zC ct m8 60 tx, zI ct m9 17 rd]) (As := [.int 1]) (rest := [.int 2]) ⟨hx, hb, hml, hown, hts⟩ hK hP [0, 1, 2, 3, 4, 5, 6, 7, 8, 9] rfl (c_X10_weights1 l g ct m0 m1 m2 m3 m4 m5 m6 m7 m8 m9 n hy sl sp re rh rs kp fl tn tx pa rn rd nD (by omega) hn8) (cwV 1 hts gX10_close_X10_weights rfl rfl rfl (by decide +kernel) ⟨Nat.le_of_ble_eq_true rfl, Nat.le_of_ble_eq_true rfl⟩) 0 rfl rfl rfl hl.1 rfl (Nat.le_of_ble_eq_true rfl) dX10_close_3 ⟨Nat.zero_le _, Nat.zero_le _⟩ ?_
  refine lv_imul hx hb dX10_close_6 ?_
  refine lv_aload_n hx hb dX10_close_7 rfl (lv_at hl 0 rfl) ?_
  refine lv_iconst (v := 0) hx hb dX10_close_8 (by decide) ?_
  refine z_cVi (wc := [zO m0 9 [.ref m1, .ref m2, .ref m3, .ref m4, .ref m5, .ref m6, .ref m7, .int (nI kp), .int fl, .int (nI tn), .ref m8, .int (nI pa), .int (nI rn), .ref m9], zL ct m1 108 n, zL ct m2 540 hy, zL ct m3 108 sl, zL ct m4 108 sp, zD ct m5 33 re, zD ct m6 165 rh, zD ct m7 33 rs, zC ct m8 60 tx, zI ct m9 17 rd]) (As := [.int 0]) (rest := [.int (2 * (mwcI n nD))]) ⟨hx, hb, hml, hown, hts⟩ hK hP [0, 1, 2, 3, 4, 5, 6, 7, 8, 9] rfl (c_X10_weights0 l g ct m0 m1 m2 m3 m4 m5 m6 m7 m8 m9 n hy sl sp re rh rs kp fl tn tx pa rn rd nD (by omega) hn8) (cwV 1 hts gX10_close_X10_weights rfl rfl rfl (by decide +kernel) ⟨Nat.le_of_ble_eq_true rfl, Nat.le_of_ble_eq_true rfl⟩) 0 rfl rfl rfl hl.1 rfl (Nat.le_of_ble_eq_true rfl) dX10_close_9 ⟨Nat.zero_le _, Nat.zero_le _⟩ ?_
  refine lv_icmp_le (tgt := 22) hx hb dX10_close_12 (by decide) (fun c_1 => ?_) (fun c_1 => ?_)
  · refine lv_bipush (v := (-4)) hx hb dX10_close_22 (by decide) ?_
    exact z_iretR hx hb hr hlocks rfl (by simp [c_1]) dX10_close_24
  · refine lv_aload_n hx hb dX10_close_15 rfl (lv_at hl 0 rfl) ?_
    refine z_cVi (wc := [zO m0 9 [.ref m1, .ref m2, .ref m3, .ref m4, .ref m5, .ref m6, .ref m7, .int (nI kp), .int fl, .int (nI tn), .ref m8, .int (nI pa), .int (nI rn), .ref m9], zL ct m1 108 n, zL ct m2 540 hy, zL ct m3 108 sl, zL ct m4 108 sp, zD ct m5 33 re, zD ct m6 165 rh, zD ct m7 33 rs, zC ct m8 60 tx, zI ct m9 17 rd]) (As := []) (rest := []) ⟨hx, hb, hml, hown, hts⟩ hK hP [0, 1, 2, 3, 4, 5, 6, 7, 8, 9] rfl (c_X10_isShut l g ct m0 m1 m2 m3 m4 m5 m6 m7 m8 m9 n hy sl sp re rh rs kp fl tn tx pa rn rd nS (by omega) hn7) (cwV 0 hts gX10_close_X10_isShut rfl rfl rfl (by decide +kernel) ⟨Nat.le_of_ble_eq_true rfl, Nat.le_of_ble_eq_true rfl⟩) 0 rfl rfl rfl hl.1 rfl (Nat.le_of_ble_eq_true rfl) dX10_close_16 ⟨Nat.zero_le _, Nat.zero_le _⟩ ?_
    refine z_bif_eq (P := (mstI n 0 nS + mstI n 1 nS + mstI n 3 nS = 0)) (tgt := 25) hx hb dX10_close_19 (by decide) (fun c_2 => ?_) (fun c_2 => ?_)
    · refine lv_aload_n hx hb dX10_close_25 rfl (lv_at hl 0 rfl) ?_
      refine va_get (D := g) (ci := 9) (v := .ref m1) (C := RX10) (T := TX10) (N := 14) hx hb hts hi_wsX100 hown hK hP 0 rfl rfl 0 (by decide) (hts (.fieldLink RX10 7 "FloodBarrierModel" "now" "[J") (List.mem_of_getElem? (i := 1) rfl)) (fun _ h9 => h9) rfl dX10_close_26 ?_
      refine lv_iconst (v := 1) hx hb dX10_close_29 (by decide) ?_
      refine z_lald (ct := ct) (f := n) (k := 1) hx hb hK hP 1 rfl (by omega) (by decide) dX10_close_30 ?_
      refine lv_lconst (v := 1) hx hb dX10_close_31 (by decide) ?_
      refine z_lif_ne (tgt := 39) hx hb dX10_close_32 dX10_close_33 (by decide) (fun c_3 => ?_) (fun c_3 => ?_)
      · refine lv_aload_n hx hb dX10_close_39 rfl (lv_at hl 0 rfl) ?_
        exact absurd ⟨c_1, c_2, c_3⟩ hno
      · refine lv_bipush (v := (-5)) hx hb dX10_close_36 (by decide) ?_
        exact z_iretR hx hb hr hlocks rfl (by simp [c_1, c_2, c_3]) dX10_close_38
    · refine lv_bipush (v := (-4)) hx hb dX10_close_22 (by decide) ?_
      exact z_iretR hx hb hr hlocks rfl (by simp [c_1, c_2]) dX10_close_24

set_option maxHeartbeats 4000000 in
set_option maxRecDepth 100000 in
theorem c_X10_close_b (l : Launch) (g : va_G) (ct : Nat → ClassId) (sz : Nat) (m0 m1 m2 m3 m4 m5 m6 m7 m8 m9 : Nat) (n hy sl sp : Nat → Int64) (re rh rs : Nat → UInt64) (kp : Nat) (fl : Int32) (tn : Nat) (tx : Nat → Int32) (pa rn : Nat) (rd : Nat → Int32) (hkp : kp ≤ 5) (nS : Nat) (hnS : nS ≤ 8) (hn7 : n 7 = lN nS) (nD : Nat) (hnD : nD ≤ 6) (hn8 : n 8 = lN nD) (hr0 : Nat) (hh0 : hr0 < 2 ^ 31) (hn0 : n 0 = lN hr0) (hact : ¬ 2 * mwcI n nD ≤ mwaI n nD ∧ ¬ mstI n 0 nS + mstI n 1 nS + mstI n 3 nS = 0 ∧ ¬ n 1 = 1) : Met l yX10_close wsX10_close (zRm 4 86) (va_Pc [.ref m0] (zW g ct [zO m0 9 [.ref m1, .ref m2, .ref m3, .ref m4, .ref m5, .ref m6, .ref m7, .int (nI kp), .int fl, .int (nI tn), .ref m8, .int (nI pa), .int (nI rn), .ref m9], zL ct m1 108 n, zL ct m2 540 hy, zL ct m3 108 sl, zL ct m4 108 sp, zD ct m5 33 re, zD ct m6 165 rh, zD ct m7 33 rs, zC ct m8 60 tx, zI ct m9 17 rd] sz)) (zQi g [zO m0 9 [.ref m1, .ref m2, .ref m3, .ref m4, .ref m5, .ref m6, .ref m7, .int (nI (mkp kp)), .int fl, .int (nI tn), .ref m8, .int (nI pa), .int (nI rn), .ref m9], zL ct m1 108 (vp_updL (vp_updL (vp_updL n 1 1) 3 ((vp_updL n 1 1) 3 + 1)) 4 ((vp_updL (vp_updL n 1 1) 3 ((vp_updL n 1 1) 3 + 1)) 4 + if ¬ 0 ≤ Op.cmpValue (FP.dcmp (re (1 + hr0 % 24)) (re 0)) CmpOp.g then 1 else 0)), zL ct m2 540 (mhy hy n kp), zL ct m3 108 sl, zL ct m4 108 sp, zD ct m5 33 re, zD ct m6 165 (mrh rh re kp), zD ct m7 33 rs, zC ct m8 60 tx, zI ct m9 17 rd] (if ¬ 0 ≤ Op.cmpValue (FP.dcmp (re (1 + hr0 % 24)) (re 0)) CmpOp.g then 1 else 0) (va_A [zO m0 9 [.ref m1, .ref m2, .ref m3, .ref m4, .ref m5, .ref m6, .ref m7, .int (nI kp), .int fl, .int (nI tn), .ref m8, .int (nI pa), .int (nI rn), .ref m9], zL ct m1 108 n, zL ct m2 540 hy, zL ct m3 108 sl, zL ct m4 108 sp, zD ct m5 33 re, zD ct m6 165 rh, zD ct m7 33 rs, zC ct m8 60 tx, zI ct m9 17 rd] sz)) 0 0 (va_A [zO m0 9 [.ref m1, .ref m2, .ref m3, .ref m4, .ref m5, .ref m6, .ref m7, .int (nI kp), .int fl, .int (nI tn), .ref m8, .int (nI pa), .int (nI rn), .ref m9], zL ct m1 108 n, zL ct m2 540 hy, zL ct m3 108 sl, zL ct m4 108 sp, zD ct m5 33 re, zD ct m6 165 rh, zD ct m7 33 rs, zC ct m8 60 tx, zI ct m9 17 rd] sz) := by
  refine z_write (QA := zQi g [zO m0 9 [.ref m1, .ref m2, .ref m3, .ref m4, .ref m5, .ref m6, .ref m7, .int (nI (mkp kp)), .int fl, .int (nI tn), .ref m8, .int (nI pa), .int (nI rn), .ref m9], zL ct m1 108 (vp_updL (vp_updL (vp_updL n 1 1) 3 ((vp_updL n 1 1) 3 + 1)) 4 ((vp_updL (vp_updL n 1 1) 3 ((vp_updL n 1 1) 3 + 1)) 4 + if ¬ 0 ≤ Op.cmpValue (FP.dcmp (re (1 + hr0 % 24)) (re 0)) CmpOp.g then 1 else 0)), zL ct m2 540 (mhy hy n kp), zL ct m3 108 sl, zL ct m4 108 sp, zD ct m5 33 re, zD ct m6 165 (mrh rh re kp), zD ct m7 33 rs, zC ct m8 60 tx, zI ct m9 17 rd] (if ¬ 0 ≤ Op.cmpValue (FP.dcmp (re (1 + hr0 % 24)) (re 0)) CmpOp.g then 1 else 0)) (cc := cX10_close) (maxL := 2) (ret := some .int) (by decide) rfl (Nat.le_of_ble_eq_true rfl) ?_
  intro p e s m below meth c ls A hx hb hr hml hts hown hlocks hin hP hK hD hNW hA hS hl
  have hown : s.vm.findClass RX10 = some m.cls := hown
  have hl : lv_has ls 2 [(0, .ref m0)] := hl
  have hi_wsX100 : ∀ w ∈ wsX100, w ∈ wsX10_close := fun w h => List.mem_cons_of_mem _ (List.mem_append_right _ h)
  refine lv_iconst (v := 2) hx hb dX10_close_0 (by decide) ?_
  refine lv_aload_n hx hb dX10_close_1 rfl (lv_at hl 0 rfl) ?_
  refine lv_iconst (v := 1) hx hb dX10_close_2 (by decide) ?_
  refine z_cVi (wc := [zO m0 9 [.ref m1, .ref m2, .ref m3, .ref m4, .ref m5, .ref m6, .ref m7, .int (nI kp), .int fl, .int (nI tn), .ref m8, .int (nI pa), .int (nI rn), .ref m9], zL ct m1 108 n, zL ct m2 540 hy, zL ct m3 108 sl, zL ct m4 108 sp, zD ct m5 33 re, zD ct m6 165 rh, zD ct m7 33 rs, zC ct m8 60 tx, zI ct m9 17 rd]) (As := [.int 1]) (rest := [.int 2]) ⟨hx, hb, hml, hown, hts⟩ hK hP [0, 1, 2, 3, 4, 5, 6, 7, 8, 9] rfl (c_X10_weights1 l g ct m0 m1 m2 m3 m4 m5 m6 m7 m8 m9 n hy sl sp re rh rs kp fl tn tx pa rn rd nD (by omega) hn8) (cwV 1 hts gX10_close_X10_weights rfl rfl rfl (by decide +kernel) ⟨Nat.le_of_ble_eq_true rfl, Nat.le_of_ble_eq_true rfl⟩) 0 rfl rfl rfl hl.1 rfl (Nat.le_of_ble_eq_true rfl) dX10_close_3 ⟨Nat.zero_le _, Nat.zero_le _⟩ ?_
  refine lv_imul hx hb dX10_close_6 ?_
  refine lv_aload_n hx hb dX10_close_7 rfl (lv_at hl 0 rfl) ?_
  refine lv_iconst (v := 0) hx hb dX10_close_8 (by decide) ?_
  refine z_cVi (wc := [zO m0 9 [.ref m1, .ref m2, .ref m3, .ref m4, .ref m5, .ref m6, .ref m7, .int (nI kp), .int fl, .int (nI tn), .ref m8, .int (nI pa), .int (nI rn), .ref m9], zL ct m1 108 n, zL ct m2 540 hy, zL ct m3 108 sl, zL ct m4 108 sp, zD ct m5 33 re, zD ct m6 165 rh, zD ct m7 33 rs, zC ct m8 60 tx, zI ct m9 17 rd]) (As := [.int 0]) (rest := [.int (2 * (mwcI n nD))]) ⟨hx, hb, hml, hown, hts⟩ hK hP [0, 1, 2, 3, 4, 5, 6, 7, 8, 9] rfl (c_X10_weights0 l g ct m0 m1 m2 m3 m4 m5 m6 m7 m8 m9 n hy sl sp re rh rs kp fl tn tx pa rn rd nD (by omega) hn8) (cwV 1 hts gX10_close_X10_weights rfl rfl rfl (by decide +kernel) ⟨Nat.le_of_ble_eq_true rfl, Nat.le_of_ble_eq_true rfl⟩) 0 rfl rfl rfl hl.1 rfl (Nat.le_of_ble_eq_true rfl) dX10_close_9 ⟨Nat.zero_le _, Nat.zero_le _⟩ ?_
  refine lv_icmp_le (tgt := 22) hx hb dX10_close_12 (by decide) (fun c_1 => ?_) (fun c_1 => ?_)
  · exact absurd c_1 hact.1
  · refine lv_aload_n hx hb dX10_close_15 rfl (lv_at hl 0 rfl) ?_
    refine z_cVi (wc := [zO m0 9 [.ref m1, .ref m2, .ref m3, .ref m4, .ref m5, .ref m6, .ref m7, .int (nI kp), .int fl, .int (nI tn), .ref m8, .int (nI pa), .int (nI rn), .ref m9], zL ct m1 108 n, zL ct m2 540 hy, zL ct m3 108 sl, zL ct m4 108 sp, zD ct m5 33 re, zD ct m6 165 rh, zD ct m7 33 rs, zC ct m8 60 tx, zI ct m9 17 rd]) (As := []) (rest := []) ⟨hx, hb, hml, hown, hts⟩ hK hP [0, 1, 2, 3, 4, 5, 6, 7, 8, 9] rfl (c_X10_isShut l g ct m0 m1 m2 m3 m4 m5 m6 m7 m8 m9 n hy sl sp re rh rs kp fl tn tx pa rn rd nS (by omega) hn7) (cwV 0 hts gX10_close_X10_isShut rfl rfl rfl (by decide +kernel) ⟨Nat.le_of_ble_eq_true rfl, Nat.le_of_ble_eq_true rfl⟩) 0 rfl rfl rfl hl.1 rfl (Nat.le_of_ble_eq_true rfl) dX10_close_16 ⟨Nat.zero_le _, Nat.zero_le _⟩ ?_
    refine z_bif_eq (P := (mstI n 0 nS + mstI n 1 nS + mstI n 3 nS = 0)) (tgt := 25) hx hb dX10_close_19 (by decide) (fun c_2 => ?_) (fun c_2 => ?_)
    · refine lv_aload_n hx hb dX10_close_25 rfl (lv_at hl 0 rfl) ?_
      refine va_get (D := g) (ci := 9) (v := .ref m1) (C := RX10) (T := TX10) (N := 14) hx hb hts hi_wsX100 hown hK hP 0 rfl rfl 0 (by decide) (hts (.fieldLink RX10 7 "FloodBarrierModel" "now" "[J") (List.mem_of_getElem? (i := 1) rfl)) (fun _ h9 => h9) rfl dX10_close_26 ?_
      refine lv_iconst (v := 1) hx hb dX10_close_29 (by decide) ?_
      refine z_lald (ct := ct) (f := n) (k := 1) hx hb hK hP 1 rfl (by omega) (by decide) dX10_close_30 ?_
      refine lv_lconst (v := 1) hx hb dX10_close_31 (by decide) ?_
      refine z_lif_ne (tgt := 39) hx hb dX10_close_32 dX10_close_33 (by decide) (fun c_3 => ?_) (fun c_3 => ?_)
      · refine lv_aload_n hx hb dX10_close_39 rfl (lv_at hl 0 rfl) ?_
        refine z_wVv (wc := [zO m0 9 [.ref m1, .ref m2, .ref m3, .ref m4, .ref m5, .ref m6, .ref m7, .int (nI kp), .int fl, .int (nI tn), .ref m8, .int (nI pa), .int (nI rn), .ref m9], zL ct m1 108 n, zL ct m2 540 hy, zL ct m3 108 sl, zL ct m4 108 sp, zD ct m5 33 re, zD ct m6 165 rh, zD ct m7 33 rs, zC ct m8 60 tx, zI ct m9 17 rd]) (wr := []) (w2 := [zO m0 9 [.ref m1, .ref m2, .ref m3, .ref m4, .ref m5, .ref m6, .ref m7, .int (nI (mkp kp)), .int fl, .int (nI tn), .ref m8, .int (nI pa), .int (nI rn), .ref m9], zL ct m1 108 n, zL ct m2 540 (mhy hy n kp), zL ct m3 108 sl, zL ct m4 108 sp, zD ct m5 33 re, zD ct m6 165 (mrh rh re kp), zD ct m7 33 rs, zC ct m8 60 tx, zI ct m9 17 rd]) (As := []) (rest := []) ⟨hx, hb, hml, hown, hts⟩ hK hP hD hS hNW hA [0, 1, 2, 3, 4, 5, 6, 7, 8, 9] [] [0, 1, 2, 3, 4, 5, 6, 7, 8, 9] rfl rfl rfl rfl rfl rfl (by decide) (c_X10_record l g ct _ m0 m1 m2 m3 m4 m5 m6 m7 m8 m9 n hy sl sp re rh rs kp fl tn tx pa rn rd (by omega)) (cwV 0 hts gX10_close_X10_record rfl rfl rfl (by decide +kernel) ⟨Nat.le_of_ble_eq_true rfl, Nat.le_of_ble_eq_true rfl⟩) 0 rfl rfl rfl hl.1 rfl (Nat.le_of_ble_eq_true rfl) dX10_close_40 ⟨Nat.zero_le _, Nat.zero_le _⟩ (fun H locs hP hD hS => ?_)
        refine lv_aload_n hx hb dX10_close_43 rfl (lv_at hl 0 rfl) ?_
        refine va_get (D := g) (ci := 9) (v := .ref m1) (C := RX10) (T := TX10) (N := 14) hx hb hts hi_wsX100 hown hK hP 0 rfl rfl 0 (by decide) (hts (.fieldLink RX10 7 "FloodBarrierModel" "now" "[J") (List.mem_of_getElem? (i := 1) rfl)) (fun _ h9 => h9) rfl dX10_close_44 ?_
        refine lv_iconst (v := 1) hx hb dX10_close_47 (by decide) ?_
        refine lv_lconst (v := 1) hx hb dX10_close_48 (by decide) ?_
        refine z_last (ct := ct) (f := n) (k := 1) (x := 1) hx hb hK hP hD hS 1 rfl (by omega) (by decide) dX10_close_49 (fun H locs hP hD hS => ?_)
        have hP : va_P g vwCl [zO m0 9 [.ref m1, .ref m2, .ref m3, .ref m4, .ref m5, .ref m6, .ref m7, .int (nI (mkp kp)), .int fl, .int (nI tn), .ref m8, .int (nI pa), .int (nI rn), .ref m9], zL ct m1 108 (vp_updL n 1 1), zL ct m2 540 (mhy hy n kp), zL ct m3 108 sl, zL ct m4 108 sp, zD ct m5 33 re, zD ct m6 165 (mrh rh re kp), zD ct m7 33 rs, zC ct m8 60 tx, zI ct m9 17 rd] H := hP
        have hD : va_D A [zO m0 9 [.ref m1, .ref m2, .ref m3, .ref m4, .ref m5, .ref m6, .ref m7, .int (nI (mkp kp)), .int fl, .int (nI tn), .ref m8, .int (nI pa), .int (nI rn), .ref m9], zL ct m1 108 (vp_updL n 1 1), zL ct m2 540 (mhy hy n kp), zL ct m3 108 sl, zL ct m4 108 sp, zD ct m5 33 re, zD ct m6 165 (mrh rh re kp), zD ct m7 33 rs, zC ct m8 60 tx, zI ct m9 17 rd] := hD
        refine lv_aload_n hx hb dX10_close_50 rfl (lv_at hl 0 rfl) ?_
        refine va_get (D := g) (ci := 9) (v := .ref m1) (C := RX10) (T := TX10) (N := 14) hx hb hts hi_wsX100 hown hK hP 0 rfl rfl 0 (by decide) (hts (.fieldLink RX10 7 "FloodBarrierModel" "now" "[J") (List.mem_of_getElem? (i := 1) rfl)) (fun _ h9 => h9) rfl dX10_close_51 ?_
        refine lv_iconst (v := 3) hx hb dX10_close_54 (by decide) ?_
        refine lv_dup2_11 hx hb dX10_close_55 rfl rfl ?_
        refine z_lald (ct := ct) (f := (vp_updL n 1 1)) (k := 3) hx hb hK hP 1 rfl (by omega) (by decide) dX10_close_56 ?_
        refine lv_lconst (v := 1) hx hb dX10_close_57 (by decide) ?_
        refine lv_ladd hx hb dX10_close_58 ?_
        refine z_last (ct := ct) (f := (vp_updL n 1 1)) (k := 3) (x := (((vp_updL n 1 1) 3) + 1)) hx hb hK hP hD hS 1 rfl (by omega) (by decide) dX10_close_59 (fun H locs hP hD hS => ?_)
        have hP : va_P g vwCl [zO m0 9 [.ref m1, .ref m2, .ref m3, .ref m4, .ref m5, .ref m6, .ref m7, .int (nI (mkp kp)), .int fl, .int (nI tn), .ref m8, .int (nI pa), .int (nI rn), .ref m9], zL ct m1 108 (vp_updL (vp_updL n 1 1) 3 (((vp_updL n 1 1) 3) + 1)), zL ct m2 540 (mhy hy n kp), zL ct m3 108 sl, zL ct m4 108 sp, zD ct m5 33 re, zD ct m6 165 (mrh rh re kp), zD ct m7 33 rs, zC ct m8 60 tx, zI ct m9 17 rd] H := hP
        have hD : va_D A [zO m0 9 [.ref m1, .ref m2, .ref m3, .ref m4, .ref m5, .ref m6, .ref m7, .int (nI (mkp kp)), .int fl, .int (nI tn), .ref m8, .int (nI pa), .int (nI rn), .ref m9], zL ct m1 108 (vp_updL (vp_updL n 1 1) 3 (((vp_updL n 1 1) 3) + 1)), zL ct m2 540 (mhy hy n kp), zL ct m3 108 sl, zL ct m4 108 sp, zD ct m5 33 re, zD ct m6 165 (mrh rh re kp), zD ct m7 33 rs, zC ct m8 60 tx, zI ct m9 17 rd] := hD
        refine lv_aload_n hx hb dX10_close_60 rfl (lv_at hl 0 rfl) ?_
        refine z_cVd (wc := [zO m0 9 [.ref m1, .ref m2, .ref m3, .ref m4, .ref m5, .ref m6, .ref m7, .int (nI (mkp kp)), .int fl, .int (nI tn), .ref m8, .int (nI pa), .int (nI rn), .ref m9], zL ct m1 108 (vp_updL (vp_updL n 1 1) 3 (((vp_updL n 1 1) 3) + 1)), zL ct m2 540 (mhy hy n kp), zL ct m3 108 sl, zL ct m4 108 sp, zD ct m5 33 re, zD ct m6 165 (mrh rh re kp), zD ct m7 33 rs, zC ct m8 60 tx, zI ct m9 17 rd]) (As := []) (rest := []) ⟨hx, hb, hml, hown, hts⟩ hK hP [0, 1, 2, 3, 4, 5, 6, 7, 8, 9] rfl (c_X10_outer l g ct m0 m1 m2 m3 m4 m5 m6 m7 m8 m9 (vp_updL (vp_updL n 1 1) 3 (((vp_updL n 1 1) 3) + 1)) (mhy hy n kp) sl sp re (mrh rh re kp) rs (mkp kp) fl tn tx pa rn rd hr0 (by omega) (by rw [pk_uLn (by decide), pk_uLn (by decide)]; exact hn0)) (cwV 0 hts gX10_close_X10_outer rfl rfl rfl (by decide +kernel) ⟨Nat.le_of_ble_eq_true rfl, Nat.le_of_ble_eq_true rfl⟩) 0 rfl rfl rfl hl.1 rfl (Nat.le_of_ble_eq_true rfl) dX10_close_61 ⟨Nat.zero_le _, Nat.zero_le _⟩ ?_
        refine lv_aload_n hx hb dX10_close_64 rfl (lv_at hl 0 rfl) ?_
        refine va_get (D := g) (ci := 9) (v := .ref m5) (C := RX10) (T := TX10) (N := 14) hx hb hts hi_wsX100 hown hK hP 0 rfl rfl 4 (by decide) (hts (.fieldLink RX10 22 "FloodBarrierModel" "real" "[D") (List.mem_of_getElem? (i := 2) rfl)) (fun _ h9 => h9) rfl dX10_close_65 ?_
        refine lv_iconst (v := 0) hx hb dX10_close_68 (by decide) ?_
        refine z_dald (ct := ct) (f := re) (k := 0) hx hb hK hP 5 rfl (by omega) (by decide) dX10_close_69 ?_
        refine lv_dcmp hx hb dX10_close_70 ?_
        refine lv_if_ge (tgt := 78) hx hb dX10_close_71 (by decide) (fun c_4 => ?_) (fun c_4 => ?_)
        · refine lv_iconst (v := 0) hx hb dX10_close_78 (by decide) ?_
          refine lv_istore_n (lv' := [(1, .int 0), (0, .ref m0)]) hx hb dX10_close_79 rfl hl (by decide) rfl (fun ls hl => ?_)
          refine lv_aload_n hx hb dX10_close_80 rfl (lv_at hl 1 rfl) ?_
          refine va_get (D := g) (ci := 9) (v := .ref m1) (C := RX10) (T := TX10) (N := 14) hx hb hts hi_wsX100 hown hK hP 0 rfl rfl 0 (by decide) (hts (.fieldLink RX10 7 "FloodBarrierModel" "now" "[J") (List.mem_of_getElem? (i := 1) rfl)) (fun _ h9 => h9) rfl dX10_close_81 ?_
          refine lv_iconst (v := 4) hx hb dX10_close_84 (by decide) ?_
          refine lv_dup2_11 hx hb dX10_close_85 rfl rfl ?_
          refine z_lald (ct := ct) (f := (vp_updL (vp_updL n 1 1) 3 (((vp_updL n 1 1) 3) + 1))) (k := 4) hx hb hK hP 1 rfl (by omega) (by decide) dX10_close_86 ?_
          refine lv_iload_n hx hb dX10_close_87 rfl (lv_at hl 0 rfl) ?_
          refine lv_if_eq (tgt := 95) hx hb dX10_close_88 (by decide) (fun _ => ?_) (fun h => absurd h (by decide))
          refine lv_lconst (v := 0) hx hb dX10_close_95 (by decide) ?_
          refine lv_ladd hx hb dX10_close_96 ?_
          refine z_last (ct := ct) (f := (vp_updL (vp_updL n 1 1) 3 (((vp_updL n 1 1) 3) + 1))) (k := 4) (x := (((vp_updL (vp_updL n 1 1) 3 (((vp_updL n 1 1) 3) + 1)) 4) + 0)) hx hb hK hP hD hS 1 rfl (by omega) (by decide) dX10_close_97 (fun H locs hP hD hS => ?_)
          have hP : va_P g vwCl [zO m0 9 [.ref m1, .ref m2, .ref m3, .ref m4, .ref m5, .ref m6, .ref m7, .int (nI (mkp kp)), .int fl, .int (nI tn), .ref m8, .int (nI pa), .int (nI rn), .ref m9], zL ct m1 108 (vp_updL (vp_updL (vp_updL n 1 1) 3 (((vp_updL n 1 1) 3) + 1)) 4 (((vp_updL (vp_updL n 1 1) 3 (((vp_updL n 1 1) 3) + 1)) 4) + 0)), zL ct m2 540 (mhy hy n kp), zL ct m3 108 sl, zL ct m4 108 sp, zD ct m5 33 re, zD ct m6 165 (mrh rh re kp), zD ct m7 33 rs, zC ct m8 60 tx, zI ct m9 17 rd] H := hP
          have hD : va_D A [zO m0 9 [.ref m1, .ref m2, .ref m3, .ref m4, .ref m5, .ref m6, .ref m7, .int (nI (mkp kp)), .int fl, .int (nI tn), .ref m8, .int (nI pa), .int (nI rn), .ref m9], zL ct m1 108 (vp_updL (vp_updL (vp_updL n 1 1) 3 (((vp_updL n 1 1) 3) + 1)) 4 (((vp_updL (vp_updL n 1 1) 3 (((vp_updL n 1 1) 3) + 1)) 4) + 0)), zL ct m2 540 (mhy hy n kp), zL ct m3 108 sl, zL ct m4 108 sp, zD ct m5 33 re, zD ct m6 165 (mrh rh re kp), zD ct m7 33 rs, zC ct m8 60 tx, zI ct m9 17 rd] := hD
          refine lv_iload_n hx hb dX10_close_98 rfl (lv_at hl 0 rfl) ?_
          refine lv_if_eq (tgt := 106) hx hb dX10_close_99 (by decide) (fun _ => ?_) (fun h => absurd h (by decide))
          refine lv_iconst (v := 0) hx hb dX10_close_106 (by decide) ?_
          exact z_iretW hx hb hr hlocks hS hP hD (by simp [c_1, c_2, c_3, c_4]) (by simp [c_1, c_2, c_3, c_4]) (Nat.le_refl _) (Nat.le_refl _) dX10_close_107
        · refine lv_iconst (v := 1) hx hb dX10_close_74 (by decide) ?_
          refine lv_goto (tgt := 79) hx hb dX10_close_75 (by decide) ?_
          refine lv_istore_n (lv' := [(1, .int 1), (0, .ref m0)]) hx hb dX10_close_79 rfl hl (by decide) rfl (fun ls hl => ?_)
          refine lv_aload_n hx hb dX10_close_80 rfl (lv_at hl 1 rfl) ?_
          refine va_get (D := g) (ci := 9) (v := .ref m1) (C := RX10) (T := TX10) (N := 14) hx hb hts hi_wsX100 hown hK hP 0 rfl rfl 0 (by decide) (hts (.fieldLink RX10 7 "FloodBarrierModel" "now" "[J") (List.mem_of_getElem? (i := 1) rfl)) (fun _ h9 => h9) rfl dX10_close_81 ?_
          refine lv_iconst (v := 4) hx hb dX10_close_84 (by decide) ?_
          refine lv_dup2_11 hx hb dX10_close_85 rfl rfl ?_
          refine z_lald (ct := ct) (f := (vp_updL (vp_updL n 1 1) 3 (((vp_updL n 1 1) 3) + 1))) (k := 4) hx hb hK hP 1 rfl (by omega) (by decide) dX10_close_86 ?_
          refine lv_iload_n hx hb dX10_close_87 rfl (lv_at hl 0 rfl) ?_
          refine lv_if_eq (tgt := 95) hx hb dX10_close_88 (by decide) (fun h => absurd h (by decide)) (fun _ => ?_)
          refine lv_lconst (v := 1) hx hb dX10_close_91 (by decide) ?_
          refine lv_goto (tgt := 96) hx hb dX10_close_92 (by decide) ?_
          refine lv_ladd hx hb dX10_close_96 ?_
          refine z_last (ct := ct) (f := (vp_updL (vp_updL n 1 1) 3 (((vp_updL n 1 1) 3) + 1))) (k := 4) (x := (((vp_updL (vp_updL n 1 1) 3 (((vp_updL n 1 1) 3) + 1)) 4) + 1)) hx hb hK hP hD hS 1 rfl (by omega) (by decide) dX10_close_97 (fun H locs hP hD hS => ?_)
          have hP : va_P g vwCl [zO m0 9 [.ref m1, .ref m2, .ref m3, .ref m4, .ref m5, .ref m6, .ref m7, .int (nI (mkp kp)), .int fl, .int (nI tn), .ref m8, .int (nI pa), .int (nI rn), .ref m9], zL ct m1 108 (vp_updL (vp_updL (vp_updL n 1 1) 3 (((vp_updL n 1 1) 3) + 1)) 4 (((vp_updL (vp_updL n 1 1) 3 (((vp_updL n 1 1) 3) + 1)) 4) + 1)), zL ct m2 540 (mhy hy n kp), zL ct m3 108 sl, zL ct m4 108 sp, zD ct m5 33 re, zD ct m6 165 (mrh rh re kp), zD ct m7 33 rs, zC ct m8 60 tx, zI ct m9 17 rd] H := hP
          have hD : va_D A [zO m0 9 [.ref m1, .ref m2, .ref m3, .ref m4, .ref m5, .ref m6, .ref m7, .int (nI (mkp kp)), .int fl, .int (nI tn), .ref m8, .int (nI pa), .int (nI rn), .ref m9], zL ct m1 108 (vp_updL (vp_updL (vp_updL n 1 1) 3 (((vp_updL n 1 1) 3) + 1)) 4 (((vp_updL (vp_updL n 1 1) 3 (((vp_updL n 1 1) 3) + 1)) 4) + 1)), zL ct m2 540 (mhy hy n kp), zL ct m3 108 sl, zL ct m4 108 sp, zD ct m5 33 re, zD ct m6 165 (mrh rh re kp), zD ct m7 33 rs, zC ct m8 60 tx, zI ct m9 17 rd] := hD
          refine lv_iload_n hx hb dX10_close_98 rfl (lv_at hl 0 rfl) ?_
          refine lv_if_eq (tgt := 106) hx hb dX10_close_99 (by decide) (fun h => absurd h (by decide)) (fun _ => ?_)
          refine lv_iconst (v := 1) hx hb dX10_close_102 (by decide) ?_
          refine lv_goto (tgt := 107) hx hb dX10_close_103 (by decide) ?_
          exact z_iretW hx hb hr hlocks hS hP hD (by simp [c_1, c_2, c_3, c_4]) (by simp [c_1, c_2, c_3, c_4]) (Nat.le_refl _) (Nat.le_refl _) dX10_close_107
      · exact absurd c_3 hact.2.2
    · exact absurd c_2 hact.2.1

set_option maxHeartbeats 4000000 in
set_option maxRecDepth 100000 in
theorem c_X10_open_a (l : Launch) (g : va_G) (ct : Nat → ClassId) (m0 m1 m2 m3 m4 m5 m6 m7 m8 m9 : Nat) (n hy sl sp : Nat → Int64) (re rh rs : Nat → UInt64) (kp : Nat) (fl : Int32) (tn : Nat) (tx : Nat → Int32) (pa rn : Nat) (rd : Nat → Int32) (nS : Nat) (hnS : nS ≤ 8) (hn7 : n 7 = lN nS) (hno : ¬ (¬ mstI n 2 nS + mstI n 1 nS + mstI n 3 nS = 0 ∧ ¬ n 1 = 2)) : Met l yX10_open wsX10_open (zRm 3 66) (va_Pc [.ref m0] (zR g ct [zO m0 9 [.ref m1, .ref m2, .ref m3, .ref m4, .ref m5, .ref m6, .ref m7, .int (nI kp), .int fl, .int (nI tn), .ref m8, .int (nI pa), .int (nI rn), .ref m9], zL ct m1 108 n, zL ct m2 540 hy, zL ct m3 108 sl, zL ct m4 108 sp, zD ct m5 33 re, zD ct m6 165 rh, zD ct m7 33 rs, zC ct m8 60 tx, zI ct m9 17 rd])) (vp_Si (fun r => r = if mstI n 2 nS + mstI n 1 nS + mstI n 3 nS = 0 then -4 else -5)) 0 0 (fun _ => False) := by
  refine z_read (cc := cX10_open) (maxL := 1) (ret := some .int) (by decide) rfl (Nat.le_of_ble_eq_true rfl) ?_
  intro p e s m below meth c ls hx hb hr hml hts hown hlocks hP hK hl
  have hown : s.vm.findClass RX10 = some m.cls := hown
  have hl : lv_has ls 1 [(0, .ref m0)] := hl
  have hi_wsX100 : ∀ w ∈ wsX100, w ∈ wsX10_open := fun w h => List.mem_cons_of_mem _ (List.mem_append_right _ h)
  refine lv_aload_n hx hb dX10_open_0 rfl (lv_at hl 0 rfl) ?_
  refine lv_iconst (v := 2) hx hb dX10_open_1 (by decide) ?_
  refine z_cVi (wc := [zO m0 9 [.ref m1, .ref m2, .ref m3, .ref m4, .ref m5, .ref m6, .ref m7, .int (nI kp), .int fl, .int (nI tn), .ref m8, .int (nI pa), .int (nI rn), .ref m9], zL ct m1 108 n, zL ct m2 540 hy, zL ct m3 108 sl, zL ct m4 108 sp, zD ct m5 33 re, zD ct m6 165 rh, zD ct m7 33 rs, zC ct m8 60 tx, zI ct m9 17 rd]) (As := [.int 2]) (rest := []) ⟨hx, hb, hml, hown, hts⟩ hK hP [0, 1, 2, 3, 4, 5, 6, 7, 8, 9] rfl (c_X10_inState l g ct m0 m1 m2 m3 m4 m5 m6 m7 m8 m9 n hy sl sp re rh rs kp fl tn tx pa rn rd 2 nS (by omega) hn7) (cwV 1 hts gX10_open_X10_inState rfl rfl rfl (by decide +kernel) ⟨Nat.le_of_ble_eq_true rfl, Nat.le_of_ble_eq_true rfl⟩) 0 rfl rfl rfl hl.1 rfl (Nat.le_of_ble_eq_true rfl) dX10_open_2 ⟨Nat.zero_le _, Nat.zero_le _⟩ ?_
  refine lv_aload_n hx hb dX10_open_5 rfl (lv_at hl 0 rfl) ?_
  refine lv_iconst (v := 1) hx hb dX10_open_6 (by decide) ?_
  refine z_cVi (wc := [zO m0 9 [.ref m1, .ref m2, .ref m3, .ref m4, .ref m5, .ref m6, .ref m7, .int (nI kp), .int fl, .int (nI tn), .ref m8, .int (nI pa), .int (nI rn), .ref m9], zL ct m1 108 n, zL ct m2 540 hy, zL ct m3 108 sl, zL ct m4 108 sp, zD ct m5 33 re, zD ct m6 165 rh, zD ct m7 33 rs, zC ct m8 60 tx, zI ct m9 17 rd]) (As := [.int 1]) (rest := [.int (mstI n 2 nS)]) ⟨hx, hb, hml, hown, hts⟩ hK hP [0, 1, 2, 3, 4, 5, 6, 7, 8, 9] rfl (c_X10_inState l g ct m0 m1 m2 m3 m4 m5 m6 m7 m8 m9 n hy sl sp re rh rs kp fl tn tx pa rn rd 1 nS (by omega) hn7) (cwV 1 hts gX10_open_X10_inState rfl rfl rfl (by decide +kernel) ⟨Nat.le_of_ble_eq_true rfl, Nat.le_of_ble_eq_true rfl⟩) 0 rfl rfl rfl hl.1 rfl (Nat.le_of_ble_eq_true rfl) dX10_open_7 ⟨Nat.zero_le _, Nat.zero_le _⟩ ?_
  refine lv_iadd hx hb dX10_open_10 ?_
  refine lv_aload_n hx hb dX10_open_11 rfl (lv_at hl 0 rfl) ?_
  refine lv_iconst (v := 3) hx hb dX10_open_12 (by decide) ?_
  refine z_cVi (wc := [zO m0 9 [.ref m1, .ref m2, .ref m3, .ref m4, .ref m5, .ref m6, .ref m7, .int (nI kp), .int fl, .int (nI tn), .ref m8, .int (nI pa), .int (nI rn), .ref m9], zL ct m1 108 n, zL ct m2 540 hy, zL ct m3 108 sl, zL ct m4 108 sp, zD ct m5 33 re, zD ct m6 165 rh, zD ct m7 33 rs, zC ct m8 60 tx, zI ct m9 17 rd]) (As := [.int 3]) (rest := [.int ((mstI n 2 nS) + (mstI n 1 nS))]) ⟨hx, hb, hml, hown, hts⟩ hK hP [0, 1, 2, 3, 4, 5, 6, 7, 8, 9] rfl (c_X10_inState l g ct m0 m1 m2 m3 m4 m5 m6 m7 m8 m9 n hy sl sp re rh rs kp fl tn tx pa rn rd 3 nS (by omega) hn7) (cwV 1 hts gX10_open_X10_inState rfl rfl rfl (by decide +kernel) ⟨Nat.le_of_ble_eq_true rfl, Nat.le_of_ble_eq_true rfl⟩) 0 rfl rfl rfl hl.1 rfl (Nat.le_of_ble_eq_true rfl) dX10_open_13 ⟨Nat.zero_le _, Nat.zero_le _⟩ ?_
  refine lv_iadd hx hb dX10_open_16 ?_
  refine lv_if_ne (tgt := 23) hx hb dX10_open_17 (by decide) (fun c_1 => ?_) (fun c_1 => ?_)
  · refine lv_aload_n hx hb dX10_open_23 rfl (lv_at hl 0 rfl) ?_
    refine va_get (D := g) (ci := 9) (v := .ref m1) (C := RX10) (T := TX10) (N := 14) hx hb hts hi_wsX100 hown hK hP 0 rfl rfl 0 (by decide) (hts (.fieldLink RX10 7 "FloodBarrierModel" "now" "[J") (List.mem_of_getElem? (i := 1) rfl)) (fun _ h9 => h9) rfl dX10_open_24 ?_
    refine lv_iconst (v := 1) hx hb dX10_open_27 (by decide) ?_
    refine z_lald (ct := ct) (f := n) (k := 1) hx hb hK hP 1 rfl (by omega) (by decide) dX10_open_28 ?_
    refine lv_ldc2 (v := 2) hx hb hown (hts (.constantLong RX10 142 (2)) (List.mem_of_getElem? (i := 2) rfl)) dX10_open_29 ?_
    refine z_lif_ne (tgt := 39) hx hb dX10_open_32 dX10_open_33 (by decide) (fun c_2 => ?_) (fun c_2 => ?_)
    · refine lv_aload_n hx hb dX10_open_39 rfl (lv_at hl 0 rfl) ?_
      exact absurd ⟨c_1, c_2⟩ hno
    · refine lv_bipush (v := (-5)) hx hb dX10_open_36 (by decide) ?_
      exact z_iretR hx hb hr hlocks rfl (by simp [c_1, c_2]) dX10_open_38
  · refine lv_bipush (v := (-4)) hx hb dX10_open_20 (by decide) ?_
    exact z_iretR hx hb hr hlocks rfl (by simp [c_1]) dX10_open_22

set_option maxHeartbeats 4000000 in
set_option maxRecDepth 100000 in
theorem c_X10_open_b (l : Launch) (g : va_G) (ct : Nat → ClassId) (sz : Nat) (m0 m1 m2 m3 m4 m5 m6 m7 m8 m9 : Nat) (n hy sl sp : Nat → Int64) (re rh rs : Nat → UInt64) (kp : Nat) (fl : Int32) (tn : Nat) (tx : Nat → Int32) (pa rn : Nat) (rd : Nat → Int32) (hkp : kp ≤ 5) (nS : Nat) (hnS : nS ≤ 8) (hn7 : n 7 = lN nS) (hact : ¬ mstI n 2 nS + mstI n 1 nS + mstI n 3 nS = 0 ∧ ¬ n 1 = 2) : Met l yX10_open wsX10_open (zRm 3 66) (va_Pc [.ref m0] (zW g ct [zO m0 9 [.ref m1, .ref m2, .ref m3, .ref m4, .ref m5, .ref m6, .ref m7, .int (nI kp), .int fl, .int (nI tn), .ref m8, .int (nI pa), .int (nI rn), .ref m9], zL ct m1 108 n, zL ct m2 540 hy, zL ct m3 108 sl, zL ct m4 108 sp, zD ct m5 33 re, zD ct m6 165 rh, zD ct m7 33 rs, zC ct m8 60 tx, zI ct m9 17 rd] sz)) (zQi g [zO m0 9 [.ref m1, .ref m2, .ref m3, .ref m4, .ref m5, .ref m6, .ref m7, .int (nI (mkp kp)), .int fl, .int (nI tn), .ref m8, .int (nI pa), .int (nI rn), .ref m9], zL ct m1 108 (vp_updL n 1 2), zL ct m2 540 (mhy hy n kp), zL ct m3 108 sl, zL ct m4 108 sp, zD ct m5 33 re, zD ct m6 165 (mrh rh re kp), zD ct m7 33 rs, zC ct m8 60 tx, zI ct m9 17 rd] (mstI (vp_updL n 1 2) 2 nS) (va_A [zO m0 9 [.ref m1, .ref m2, .ref m3, .ref m4, .ref m5, .ref m6, .ref m7, .int (nI kp), .int fl, .int (nI tn), .ref m8, .int (nI pa), .int (nI rn), .ref m9], zL ct m1 108 n, zL ct m2 540 hy, zL ct m3 108 sl, zL ct m4 108 sp, zD ct m5 33 re, zD ct m6 165 rh, zD ct m7 33 rs, zC ct m8 60 tx, zI ct m9 17 rd] sz)) 0 0 (va_A [zO m0 9 [.ref m1, .ref m2, .ref m3, .ref m4, .ref m5, .ref m6, .ref m7, .int (nI kp), .int fl, .int (nI tn), .ref m8, .int (nI pa), .int (nI rn), .ref m9], zL ct m1 108 n, zL ct m2 540 hy, zL ct m3 108 sl, zL ct m4 108 sp, zD ct m5 33 re, zD ct m6 165 rh, zD ct m7 33 rs, zC ct m8 60 tx, zI ct m9 17 rd] sz) := by
  refine z_write (QA := zQi g [zO m0 9 [.ref m1, .ref m2, .ref m3, .ref m4, .ref m5, .ref m6, .ref m7, .int (nI (mkp kp)), .int fl, .int (nI tn), .ref m8, .int (nI pa), .int (nI rn), .ref m9], zL ct m1 108 (vp_updL n 1 2), zL ct m2 540 (mhy hy n kp), zL ct m3 108 sl, zL ct m4 108 sp, zD ct m5 33 re, zD ct m6 165 (mrh rh re kp), zD ct m7 33 rs, zC ct m8 60 tx, zI ct m9 17 rd] (mstI (vp_updL n 1 2) 2 nS)) (cc := cX10_open) (maxL := 1) (ret := some .int) (by decide) rfl (Nat.le_of_ble_eq_true rfl) ?_
  intro p e s m below meth c ls A hx hb hr hml hts hown hlocks hin hP hK hD hNW hA hS hl
  have hown : s.vm.findClass RX10 = some m.cls := hown
  have hl : lv_has ls 1 [(0, .ref m0)] := hl
  have hi_wsX100 : ∀ w ∈ wsX100, w ∈ wsX10_open := fun w h => List.mem_cons_of_mem _ (List.mem_append_right _ h)
  refine lv_aload_n hx hb dX10_open_0 rfl (lv_at hl 0 rfl) ?_
  refine lv_iconst (v := 2) hx hb dX10_open_1 (by decide) ?_
  refine z_cVi (wc := [zO m0 9 [.ref m1, .ref m2, .ref m3, .ref m4, .ref m5, .ref m6, .ref m7, .int (nI kp), .int fl, .int (nI tn), .ref m8, .int (nI pa), .int (nI rn), .ref m9], zL ct m1 108 n, zL ct m2 540 hy, zL ct m3 108 sl, zL ct m4 108 sp, zD ct m5 33 re, zD ct m6 165 rh, zD ct m7 33 rs, zC ct m8 60 tx, zI ct m9 17 rd]) (As := [.int 2]) (rest := []) ⟨hx, hb, hml, hown, hts⟩ hK hP [0, 1, 2, 3, 4, 5, 6, 7, 8, 9] rfl (c_X10_inState l g ct m0 m1 m2 m3 m4 m5 m6 m7 m8 m9 n hy sl sp re rh rs kp fl tn tx pa rn rd 2 nS (by omega) hn7) (cwV 1 hts gX10_open_X10_inState rfl rfl rfl (by decide +kernel) ⟨Nat.le_of_ble_eq_true rfl, Nat.le_of_ble_eq_true rfl⟩) 0 rfl rfl rfl hl.1 rfl (Nat.le_of_ble_eq_true rfl) dX10_open_2 ⟨Nat.zero_le _, Nat.zero_le _⟩ ?_
  refine lv_aload_n hx hb dX10_open_5 rfl (lv_at hl 0 rfl) ?_
  refine lv_iconst (v := 1) hx hb dX10_open_6 (by decide) ?_
  refine z_cVi (wc := [zO m0 9 [.ref m1, .ref m2, .ref m3, .ref m4, .ref m5, .ref m6, .ref m7, .int (nI kp), .int fl, .int (nI tn), .ref m8, .int (nI pa), .int (nI rn), .ref m9], zL ct m1 108 n, zL ct m2 540 hy, zL ct m3 108 sl, zL ct m4 108 sp, zD ct m5 33 re, zD ct m6 165 rh, zD ct m7 33 rs, zC ct m8 60 tx, zI ct m9 17 rd]) (As := [.int 1]) (rest := [.int (mstI n 2 nS)]) ⟨hx, hb, hml, hown, hts⟩ hK hP [0, 1, 2, 3, 4, 5, 6, 7, 8, 9] rfl (c_X10_inState l g ct m0 m1 m2 m3 m4 m5 m6 m7 m8 m9 n hy sl sp re rh rs kp fl tn tx pa rn rd 1 nS (by omega) hn7) (cwV 1 hts gX10_open_X10_inState rfl rfl rfl (by decide +kernel) ⟨Nat.le_of_ble_eq_true rfl, Nat.le_of_ble_eq_true rfl⟩) 0 rfl rfl rfl hl.1 rfl (Nat.le_of_ble_eq_true rfl) dX10_open_7 ⟨Nat.zero_le _, Nat.zero_le _⟩ ?_
  refine lv_iadd hx hb dX10_open_10 ?_
  refine lv_aload_n hx hb dX10_open_11 rfl (lv_at hl 0 rfl) ?_
  refine lv_iconst (v := 3) hx hb dX10_open_12 (by decide) ?_
  refine z_cVi (wc := [zO m0 9 [.ref m1, .ref m2, .ref m3, .ref m4, .ref m5, .ref m6, .ref m7, .int (nI kp), .int fl, .int (nI tn), .ref m8, .int (nI pa), .int (nI rn), .ref m9], zL ct m1 108 n, zL ct m2 540 hy, zL ct m3 108 sl, zL ct m4 108 sp, zD ct m5 33 re, zD ct m6 165 rh, zD ct m7 33 rs, zC ct m8 60 tx, zI ct m9 17 rd]) (As := [.int 3]) (rest := [.int ((mstI n 2 nS) + (mstI n 1 nS))]) ⟨hx, hb, hml, hown, hts⟩ hK hP [0, 1, 2, 3, 4, 5, 6, 7, 8, 9] rfl (c_X10_inState l g ct m0 m1 m2 m3 m4 m5 m6 m7 m8 m9 n hy sl sp re rh rs kp fl tn tx pa rn rd 3 nS (by omega) hn7) (cwV 1 hts gX10_open_X10_inState rfl rfl rfl (by decide +kernel) ⟨Nat.le_of_ble_eq_true rfl, Nat.le_of_ble_eq_true rfl⟩) 0 rfl rfl rfl hl.1 rfl (Nat.le_of_ble_eq_true rfl) dX10_open_13 ⟨Nat.zero_le _, Nat.zero_le _⟩ ?_
  refine lv_iadd hx hb dX10_open_16 ?_
  refine lv_if_ne (tgt := 23) hx hb dX10_open_17 (by decide) (fun c_1 => ?_) (fun c_1 => ?_)
  · refine lv_aload_n hx hb dX10_open_23 rfl (lv_at hl 0 rfl) ?_
    refine va_get (D := g) (ci := 9) (v := .ref m1) (C := RX10) (T := TX10) (N := 14) hx hb hts hi_wsX100 hown hK hP 0 rfl rfl 0 (by decide) (hts (.fieldLink RX10 7 "FloodBarrierModel" "now" "[J") (List.mem_of_getElem? (i := 1) rfl)) (fun _ h9 => h9) rfl dX10_open_24 ?_
    refine lv_iconst (v := 1) hx hb dX10_open_27 (by decide) ?_
    refine z_lald (ct := ct) (f := n) (k := 1) hx hb hK hP 1 rfl (by omega) (by decide) dX10_open_28 ?_
    refine lv_ldc2 (v := 2) hx hb hown (hts (.constantLong RX10 142 (2)) (List.mem_of_getElem? (i := 2) rfl)) dX10_open_29 ?_
    refine z_lif_ne (tgt := 39) hx hb dX10_open_32 dX10_open_33 (by decide) (fun c_2 => ?_) (fun c_2 => ?_)
    · refine lv_aload_n hx hb dX10_open_39 rfl (lv_at hl 0 rfl) ?_
      refine z_wVv (wc := [zO m0 9 [.ref m1, .ref m2, .ref m3, .ref m4, .ref m5, .ref m6, .ref m7, .int (nI kp), .int fl, .int (nI tn), .ref m8, .int (nI pa), .int (nI rn), .ref m9], zL ct m1 108 n, zL ct m2 540 hy, zL ct m3 108 sl, zL ct m4 108 sp, zD ct m5 33 re, zD ct m6 165 rh, zD ct m7 33 rs, zC ct m8 60 tx, zI ct m9 17 rd]) (wr := []) (w2 := [zO m0 9 [.ref m1, .ref m2, .ref m3, .ref m4, .ref m5, .ref m6, .ref m7, .int (nI (mkp kp)), .int fl, .int (nI tn), .ref m8, .int (nI pa), .int (nI rn), .ref m9], zL ct m1 108 n, zL ct m2 540 (mhy hy n kp), zL ct m3 108 sl, zL ct m4 108 sp, zD ct m5 33 re, zD ct m6 165 (mrh rh re kp), zD ct m7 33 rs, zC ct m8 60 tx, zI ct m9 17 rd]) (As := []) (rest := []) ⟨hx, hb, hml, hown, hts⟩ hK hP hD hS hNW hA [0, 1, 2, 3, 4, 5, 6, 7, 8, 9] [] [0, 1, 2, 3, 4, 5, 6, 7, 8, 9] rfl rfl rfl rfl rfl rfl (by decide) (c_X10_record l g ct _ m0 m1 m2 m3 m4 m5 m6 m7 m8 m9 n hy sl sp re rh rs kp fl tn tx pa rn rd (by omega)) (cwV 0 hts gX10_open_X10_record rfl rfl rfl (by decide +kernel) ⟨Nat.le_of_ble_eq_true rfl, Nat.le_of_ble_eq_true rfl⟩) 0 rfl rfl rfl hl.1 rfl (Nat.le_of_ble_eq_true rfl) dX10_open_40 ⟨Nat.zero_le _, Nat.zero_le _⟩ (fun H locs hP hD hS => ?_)
      refine lv_aload_n hx hb dX10_open_43 rfl (lv_at hl 0 rfl) ?_
      refine va_get (D := g) (ci := 9) (v := .ref m1) (C := RX10) (T := TX10) (N := 14) hx hb hts hi_wsX100 hown hK hP 0 rfl rfl 0 (by decide) (hts (.fieldLink RX10 7 "FloodBarrierModel" "now" "[J") (List.mem_of_getElem? (i := 1) rfl)) (fun _ h9 => h9) rfl dX10_open_44 ?_
      refine lv_iconst (v := 1) hx hb dX10_open_47 (by decide) ?_
      refine lv_ldc2 (v := 2) hx hb hown (hts (.constantLong RX10 142 (2)) (List.mem_of_getElem? (i := 2) rfl)) dX10_open_48 ?_
      refine z_last (ct := ct) (f := n) (k := 1) (x := 2) hx hb hK hP hD hS 1 rfl (by omega) (by decide) dX10_open_51 (fun H locs hP hD hS => ?_)
      have hP : va_P g vwCl [zO m0 9 [.ref m1, .ref m2, .ref m3, .ref m4, .ref m5, .ref m6, .ref m7, .int (nI (mkp kp)), .int fl, .int (nI tn), .ref m8, .int (nI pa), .int (nI rn), .ref m9], zL ct m1 108 (vp_updL n 1 2), zL ct m2 540 (mhy hy n kp), zL ct m3 108 sl, zL ct m4 108 sp, zD ct m5 33 re, zD ct m6 165 (mrh rh re kp), zD ct m7 33 rs, zC ct m8 60 tx, zI ct m9 17 rd] H := hP
      have hD : va_D A [zO m0 9 [.ref m1, .ref m2, .ref m3, .ref m4, .ref m5, .ref m6, .ref m7, .int (nI (mkp kp)), .int fl, .int (nI tn), .ref m8, .int (nI pa), .int (nI rn), .ref m9], zL ct m1 108 (vp_updL n 1 2), zL ct m2 540 (mhy hy n kp), zL ct m3 108 sl, zL ct m4 108 sp, zD ct m5 33 re, zD ct m6 165 (mrh rh re kp), zD ct m7 33 rs, zC ct m8 60 tx, zI ct m9 17 rd] := hD
      refine lv_aload_n hx hb dX10_open_52 rfl (lv_at hl 0 rfl) ?_
      refine lv_iconst (v := 2) hx hb dX10_open_53 (by decide) ?_
      refine z_cVi (wc := [zO m0 9 [.ref m1, .ref m2, .ref m3, .ref m4, .ref m5, .ref m6, .ref m7, .int (nI (mkp kp)), .int fl, .int (nI tn), .ref m8, .int (nI pa), .int (nI rn), .ref m9], zL ct m1 108 (vp_updL n 1 2), zL ct m2 540 (mhy hy n kp), zL ct m3 108 sl, zL ct m4 108 sp, zD ct m5 33 re, zD ct m6 165 (mrh rh re kp), zD ct m7 33 rs, zC ct m8 60 tx, zI ct m9 17 rd]) (As := [.int 2]) (rest := []) ⟨hx, hb, hml, hown, hts⟩ hK hP [0, 1, 2, 3, 4, 5, 6, 7, 8, 9] rfl (c_X10_inState l g ct m0 m1 m2 m3 m4 m5 m6 m7 m8 m9 (vp_updL n 1 2) (mhy hy n kp) sl sp re (mrh rh re kp) rs (mkp kp) fl tn tx pa rn rd 2 nS (by omega) (by rw [pk_uLn (by omega)]; exact hn7)) (cwV 1 hts gX10_open_X10_inState rfl rfl rfl (by decide +kernel) ⟨Nat.le_of_ble_eq_true rfl, Nat.le_of_ble_eq_true rfl⟩) 0 rfl rfl rfl hl.1 rfl (Nat.le_of_ble_eq_true rfl) dX10_open_54 ⟨Nat.zero_le _, Nat.zero_le _⟩ ?_
      exact z_iretW hx hb hr hlocks hS hP hD rfl rfl (Nat.le_refl _) (Nat.le_refl _) dX10_open_57
    · exact absurd c_2 hact.2
  · exact absurd c_1 hact.1
