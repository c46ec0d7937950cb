def mstI (n : Nat → Int64) (w : Int32) (k : Nat) : Int32 := lp (fun j r => if (n (20 + 6 * j + 3)).toInt32 = w then r + 1 else r + 0) k 0

set_option maxHeartbeats 4000000 in
set_option maxRecDepth 100000 in
theorem c_X10_inState (l : Launch) (g : va_G) (ct : Nat → ClassId) (m0 m1 m2 m3 m4 m5 m6 m7 m8 m9 : Nat) (n hy sl sp : Nat → Int64) (re rh rs : Nat → UInt64) (kp : Nat) (fl : Int32) (tn : Nat) (tx : Nat → Int32) (pa rn : Nat) (rd : Nat → Int32) (w : Int32) (nS : Nat) (hnS : nS ≤ 8) (hn7 : n 7 = lN nS) : Met l yX10_inState wsX10_inState (zRm 2 43) (va_Pc [.ref m0, .int w] (zR g ct [zO m0 9 [.ref m1, .ref m2, .ref m3, .ref m4, .ref m5, .ref m6, .ref m7, .int (nI kp), .int fl, .int (nI tn), .ref m8, .int (nI pa), .int (nI rn), .ref m9], zL ct m1 108 n, zL ct m2 540 hy, zL ct m3 108 sl, zL ct m4 108 sp, zD ct m5 33 re, zD ct m6 165 rh, zD ct m7 33 rs, zC ct m8 60 tx, zI ct m9 17 rd])) (vp_Si (fun r => r = mstI n w nS)) 0 0 (fun _ => False) := by
  refine z_read (cc := cX10_inState) (maxL := 4) (ret := some .int) (by decide) rfl (Nat.le_of_ble_eq_true rfl) ?_
  intro p e s m below meth c ls hx hb hr hml hts hown hlocks hP hK hl
  have hown : s.vm.findClass RX10 = some m.cls := hown
  have hl : lv_has ls 4 [(0, .ref m0), (1, .int w)] := hl
  have hi_wsX100 : ∀ w ∈ wsX100, w ∈ wsX10_inState := fun w h => List.mem_cons_of_mem _ (List.mem_append_right _ h)
  refine lv_iconst (v := 0) hx hb dX10_inState_0 (by decide) ?_
  refine lv_istore_n (lv' := [(2, .int 0), (0, .ref m0), (1, .int w)]) hx hb dX10_inState_1 rfl hl (by decide) rfl (fun ls hl => ?_)
  refine lv_iconst (v := 0) hx hb dX10_inState_2 (by decide) ?_
  refine lv_istore_n (lv' := [(3, .int 0), (2, .int 0), (0, .ref m0), (1, .int w)]) hx hb dX10_inState_3 rfl hl (by decide) rfl (fun ls hl => ?_)
  refine z_loop nS (fun k1 H2 locs2 ls => H2 = s.heap ∧ locs2 = [] ∧ lv_has ls 4 [(0, .ref m0), (1, .int w), (2, .int (mstI n w k1)), (3, .int (nI k1))]) ⟨rfl, rfl, lv_sub hl [2, 3, 1, 0] rfl⟩ ?_
  intro k1 H2 locs2 ls hkk1 hI ihk1
  obtain ⟨rfl, rfl, hl⟩ := hI
  refine lv_iload_n hx hb dX10_inState_4 rfl (lv_at hl 3 rfl) ?_
  refine lv_i2l (v := lN k1) hx hb dX10_inState_5 (nI_l (by omega)) ?_
  refine lv_aload_n hx hb dX10_inState_6 rfl (lv_at hl 0 rfl) ?_
  refine va_get (D := g) (ci := 9) (v := .ref m1) (C := RX10) (T := TX10) (N := 14) hx hb hts hi_wsX100 hown hK hP 0 rfl rfl 0 (by decide) (hts (.fieldLink RX10 7 "FloodBarrierModel" "now" "[J") (List.mem_of_getElem? (i := 1) rfl)) (fun _ h9 => h9) rfl dX10_inState_7 ?_
  refine lv_bipush (v := 7) hx hb dX10_inState_10 (by decide) ?_
  refine z_lald (ct := ct) (f := n) (k := 7) hx hb hK hP 1 rfl (by omega) (by decide) dX10_inState_12 ?_
  rw [hn7]
  refine z_lcN_ge (x := k1) (y := nS) (tgt := 41) hx hb (by omega) (by omega) dX10_inState_13 dX10_inState_14 (by decide) (fun c_1 => ?_) (fun c_1 => ?_)
  · have hkn : nS = k1 := by omega
    subst hkn
    refine lv_iload_n hx hb dX10_inState_41 rfl (lv_at hl 2 rfl) ?_
    exact z_iretR hx hb hr hlocks rfl rfl dX10_inState_42
  · refine lv_iload_n hx hb dX10_inState_17 rfl (lv_at hl 2 rfl) ?_
    refine lv_aload_n hx hb dX10_inState_18 rfl (lv_at hl 0 rfl) ?_
    refine lv_iload_n hx hb dX10_inState_19 rfl (lv_at hl 3 rfl) ?_
    refine lv_iconst (v := 3) hx hb dX10_inState_20 (by decide) ?_
    refine z_cVi (wc := [zO m0 9 [.ref m1, .ref m2, .ref m3, .ref m4, .ref m5, .ref m6, .ref m7, .int (nI kp), .int fl, .int (nI tn), .ref m8, .int (nI pa), .int (nI rn), .ref m9], zL ct m1 108 n, zL ct m2 540 hy, zL ct m3 108 sl, zL ct m4 108 sp, zD ct m5 33 re, zD ct m6 165 rh, zD ct m7 33 rs, zC ct m8 60 tx, zI ct m9 17 rd]) (As := [.int (nI k1), .int 3]) (rest := [.int (mstI n w k1)]) ⟨hx, hb, hml, hown, hts⟩ hK hP [0, 1, 2, 3, 4, 5, 6, 7, 8, 9] rfl (c_X10_of l g ct m0 m1 m2 m3 m4 m5 m6 m7 m8 m9 n hy sl sp re rh rs kp fl tn tx pa rn rd k1 3 (by omega) (by omega)) (cwV 2 hts gX10_inState_X10_of rfl rfl rfl (by decide +kernel) ⟨Nat.le_of_ble_eq_true rfl, Nat.le_of_ble_eq_true rfl⟩) 0 rfl rfl rfl hl.1 rfl (Nat.le_of_ble_eq_true rfl) dX10_inState_21 ⟨Nat.zero_le _, Nat.zero_le _⟩ ?_
    refine lv_iload_n hx hb dX10_inState_24 rfl (lv_at hl 1 rfl) ?_
    refine lv_icmp_ne (tgt := 32) hx hb dX10_inState_25 (by decide) (fun c_2 => ?_) (fun c_2 => ?_)
    · refine lv_iconst (v := 0) hx hb dX10_inState_32 (by decide) ?_
      refine lv_iadd hx hb dX10_inState_33 ?_
      refine lv_istore_n (lv' := [(2, .int ((mstI n w k1) + 0)), (0, .ref m0), (1, .int w), (3, .int (nI k1))]) hx hb dX10_inState_34 rfl hl (by decide) rfl (fun ls hl => ?_)
      refine lv_iinc (v := nI (k1 + 1)) (lv' := [(3, .int (nI (k1 + 1))), (2, .int ((mstI n w k1) + 0)), (0, .ref m0), (1, .int w)]) hx hb dX10_inState_35 hl (k := 3) rfl (nI_add k1 1) (by decide) rfl (fun ls hl => ?_)
      refine lv_goto (tgt := 4) hx hb dX10_inState_38 (by decide) ?_
      exact ihk1 _ _ _ (by omega) ⟨rfl, rfl, (by first | exact lv_sub hl [2, 3, 1, 0] rfl | (simp only [lp_s, mstI, if_pos c_1, if_neg c_2]; exact lv_sub hl [2, 3, 1, 0] rfl))⟩
    · refine lv_iconst (v := 1) hx hb dX10_inState_28 (by decide) ?_
      refine lv_goto (tgt := 33) hx hb dX10_inState_29 (by decide) ?_
      refine lv_iadd hx hb dX10_inState_33 ?_
      refine lv_istore_n (lv' := [(2, .int ((mstI n w k1) + 1)), (0, .ref m0), (1, .int w), (3, .int (nI k1))]) hx hb dX10_inState_34 rfl hl (by decide) rfl (fun ls hl => ?_)
      refine lv_iinc (v := nI (k1 + 1)) (lv' := [(3, .int (nI (k1 + 1))), (2, .int ((mstI n w k1) + 1)), (0, .ref m0), (1, .int w)]) hx hb dX10_inState_35 hl (k := 3) rfl (nI_add k1 1) (by decide) rfl (fun ls hl => ?_)
      refine lv_goto (tgt := 4) hx hb dX10_inState_38 (by decide) ?_
      exact ihk1 _ _ _ (by omega) ⟨rfl, rfl, (by first | exact lv_sub hl [2, 3, 1, 0] rfl | (simp only [lp_s, mstI, if_pos c_1, if_pos c_2]; exact lv_sub hl [2, 3, 1, 0] rfl))⟩

set_option maxHeartbeats 4000000 in
set_option maxRecDepth 100000 in
theorem c_X10_outer (l : Launch) (g : va_G) (ct : Nat → ClassId) (m0 m1 m2 m3 m4 m5 m6 m7 m8 m9 : Nat) (n hy sl sp : Nat → Int64) (re rh rs : Nat → UInt64) (kp : Nat) (fl : Int32) (tn : Nat) (tx : Nat → Int32) (pa rn : Nat) (rd : Nat → Int32) (hr0 : Nat) (hh0 : hr0 < 2 ^ 31) (hn0 : n 0 = lN hr0) : Met l yX10_outer wsX10_outer (zRm 1 21) (va_Pc [.ref m0] (zR g ct [zO m0 9 [.ref m1, .ref m2, .ref m3, .ref m4, .ref m5, .ref m6, .ref m7, .int (nI kp), .int fl, .int (nI tn), .ref m8, .int (nI pa), .int (nI rn), .ref m9], zL ct m1 108 n, zL ct m2 540 hy, zL ct m3 108 sl, zL ct m4 108 sp, zD ct m5 33 re, zD ct m6 165 rh, zD ct m7 33 rs, zC ct m8 60 tx, zI ct m9 17 rd])) (vp_Sd (fun r => r = re (1 + hr0 % 24))) 0 0 (fun _ => False) := by
  refine z_read (cc := cX10_outer) (maxL := 1) (ret := some .double) (by decide) rfl (Nat.le_of_ble_eq_true rfl) ?_
  intro p e s m below meth c ls hx hb hr hml hts hown hlocks hP hK hl
  have hown : s.vm.findClass RX10 = some m.cls := hown
  have hl : lv_has ls 1 [(0, .ref m0)] := hl
  have hi_wsX100 : ∀ w ∈ wsX100, w ∈ wsX10_outer := fun w h => List.mem_cons_of_mem _ (List.mem_append_right _ h)
  refine lv_aload_n hx hb dX10_outer_0 rfl (lv_at hl 0 rfl) ?_
  refine va_get (D := g) (ci := 9) (v := .ref m5) (C := RX10) (T := TX10) (N := 14) hx hb hts hi_wsX100 hown hK hP 0 rfl rfl 4 (by decide) (hts (.fieldLink RX10 22 "FloodBarrierModel" "real" "[D") (List.mem_of_getElem? (i := 1) rfl)) (fun _ h9 => h9) rfl dX10_outer_1 ?_
  refine lv_iconst (v := 1) hx hb dX10_outer_4 (by decide) ?_
  refine lv_aload_n hx hb dX10_outer_5 rfl (lv_at hl 0 rfl) ?_
  refine lv_iconst (v := 0) hx hb dX10_outer_6 (by decide) ?_
  refine z_cVi (wc := [zO m0 9 [.ref m1, .ref m2, .ref m3, .ref m4, .ref m5, .ref m6, .ref m7, .int (nI kp), .int fl, .int (nI tn), .ref m8, .int (nI pa), .int (nI rn), .ref m9], zL ct m1 108 n, zL ct m2 540 hy, zL ct m3 108 sl, zL ct m4 108 sp, zD ct m5 33 re, zD ct m6 165 rh, zD ct m7 33 rs, zC ct m8 60 tx, zI ct m9 17 rd]) (As := [.int 0]) (rest := [.int 1, .ref m5]) ⟨hx, hb, hml, hown, hts⟩ hK hP [0, 1, 2, 3, 4, 5, 6, 7, 8, 9] rfl (c_X10_cell l g ct m0 m1 m2 m3 m4 m5 m6 m7 m8 m9 n hy sl sp re rh rs kp fl tn tx pa rn rd 0 (by omega)) (cwV 1 hts gX10_outer_X10_cell rfl rfl rfl (by decide +kernel) ⟨Nat.le_of_ble_eq_true rfl, Nat.le_of_ble_eq_true rfl⟩) 0 rfl rfl rfl hl.1 rfl (Nat.le_of_ble_eq_true rfl) dX10_outer_7 ⟨Nat.zero_le _, Nat.zero_le _⟩ ?_
  rw [hn0, lN_i]
  refine lv_bipush (v := 24) hx hb dX10_outer_10 (by decide) ?_
  refine lv_irem hx hb dX10_outer_12 (by decide) ?_
  rw [show (nI hr0 - nI hr0 / 24 * 24 : Int32) = nI (hr0 % 24) from pk_rem hh0 (by decide) (by decide)]
  refine z_iaddN (x := 1) (y := (hr0 % 24)) hx hb dX10_outer_13 ?_
  refine z_dald (ct := ct) (f := re) (k := (1 + (hr0 % 24))) hx hb hK hP 5 rfl (by omega) (by decide) dX10_outer_14 ?_
  exact z_dretR hx hb hr hlocks rfl rfl dX10_outer_15

set_option maxHeartbeats 4000000 in
set_option maxRecDepth 100000 in
theorem c_X10_isShut (l : Launch) (g : va_G) (ct : Nat → ClassId) (m0 m1 m2 m3 m4 m5 m6 m7 m8 m9 : Nat) (n hy sl sp : Nat → Int64) (re rh rs : Nat → UInt64) (kp : Nat) (fl : Int32) (tn : Nat) (tx : Nat → Int32) (pa rn : Nat) (rd : Nat → Int32) (nS : Nat) (hnS : nS ≤ 8) (hn7 : n 7 = lN nS) : Met l yX10_isShut wsX10_isShut (zRm 3 66) (va_Pc [.ref m0] (zR g ct [zO m0 9 [.ref m1, .ref m2, .ref m3, .ref m4, .ref m5, .ref m6, .ref m7, .int (nI kp), .int fl, .int (nI tn), .ref m8, .int (nI pa), .int (nI rn), .ref m9], zL ct m1 108 n, zL ct m2 540 hy, zL ct m3 108 sl, zL ct m4 108 sp, zD ct m5 33 re, zD ct m6 165 rh, zD ct m7 33 rs, zC ct m8 60 tx, zI ct m9 17 rd])) (vp_Si (fun r => r = if mstI n 0 nS + mstI n 1 nS + mstI n 3 nS = 0 then 1 else 0)) 0 0 (fun _ => False) := by
  refine z_read (cc := cX10_isShut) (maxL := 1) (ret := some .boolean) (by decide) rfl (Nat.le_of_ble_eq_true rfl) ?_
  intro p e s m below meth c ls hx hb hr hml hts hown hlocks hP hK hl
  have hown : s.vm.findClass RX10 = some m.cls := hown
  have hl : lv_has ls 1 [(0, .ref m0)] := hl
  refine lv_aload_n hx hb dX10_isShut_0 rfl (lv_at hl 0 rfl) ?_
  refine lv_iconst (v := 0) hx hb dX10_isShut_1 (by decide) ?_
  refine z_cVi (wc := [zO m0 9 [.ref m1, .ref m2, .ref m3, .ref m4, .ref m5, .ref m6, .ref m7, .int (nI kp), .int fl, .int (nI tn), .ref m8, .int (nI pa), .int (nI rn), .ref m9], zL ct m1 108 n, zL ct m2 540 hy, zL ct m3 108 sl, zL ct m4 108 sp, zD ct m5 33 re, zD ct m6 165 rh, zD ct m7 33 rs, zC ct m8 60 tx, zI ct m9 17 rd]) (As := [.int 0]) (rest := []) ⟨hx, hb, hml, hown, hts⟩ hK hP [0, 1, 2, 3, 4, 5, 6, 7, 8, 9] rfl (c_X10_inState l g ct m0 m1 m2 m3 m4 m5 m6 m7 m8 m9 n hy sl sp re rh rs kp fl tn tx pa rn rd 0 nS (by omega) hn7) (cwV 1 hts gX10_isShut_X10_inState rfl rfl rfl (by decide +kernel) ⟨Nat.le_of_ble_eq_true rfl, Nat.le_of_ble_eq_true rfl⟩) 0 rfl rfl rfl hl.1 rfl (Nat.le_of_ble_eq_true rfl) dX10_isShut_2 ⟨Nat.zero_le _, Nat.zero_le _⟩ ?_
  refine lv_aload_n hx hb dX10_isShut_5 rfl (lv_at hl 0 rfl) ?_
  refine lv_iconst (v := 1) hx hb dX10_isShut_6 (by decide) ?_
  refine z_cVi (wc := [zO m0 9 [.ref m1, .ref m2, .ref m3, .ref m4, .ref m5, .ref m6, .ref m7, .int (nI kp), .int fl, .int (nI tn), .ref m8, .int (nI pa), .int (nI rn), .ref m9], zL ct m1 108 n, zL ct m2 540 hy, zL ct m3 108 sl, zL ct m4 108 sp, zD ct m5 33 re, zD ct m6 165 rh, zD ct m7 33 rs, zC ct m8 60 tx, zI ct m9 17 rd]) (As := [.int 1]) (rest := [.int (mstI n 0 nS)]) ⟨hx, hb, hml, hown, hts⟩ hK hP [0, 1, 2, 3, 4, 5, 6, 7, 8, 9] rfl (c_X10_inState l g ct m0 m1 m2 m3 m4 m5 m6 m7 m8 m9 n hy sl sp re rh rs kp fl tn tx pa rn rd 1 nS (by omega) hn7) (cwV 1 hts gX10_isShut_X10_inState rfl rfl rfl (by decide +kernel) ⟨Nat.le_of_ble_eq_true rfl, Nat.le_of_ble_eq_true rfl⟩) 0 rfl rfl rfl hl.1 rfl (Nat.le_of_ble_eq_true rfl) dX10_isShut_7 ⟨Nat.zero_le _, Nat.zero_le _⟩ ?_
  refine lv_iadd hx hb dX10_isShut_10 ?_
  refine lv_aload_n hx hb dX10_isShut_11 rfl (lv_at hl 0 rfl) ?_
  refine lv_iconst (v := 3) hx hb dX10_isShut_12 (by decide) ?_
  refine z_cVi (wc := [zO m0 9 [.ref m1, .ref m2, .ref m3, .ref m4, .ref m5, .ref m6, .ref m7, .int (nI kp), .int fl, .int (nI tn), .ref m8, .int (nI pa), .int (nI rn), .ref m9], zL ct m1 108 n, zL ct m2 540 hy, zL ct m3 108 sl, zL ct m4 108 sp, zD ct m5 33 re, zD ct m6 165 rh, zD ct m7 33 rs, zC ct m8 60 tx, zI ct m9 17 rd]) (As := [.int 3]) (rest := [.int ((mstI n 0 nS) + (mstI n 1 nS))]) ⟨hx, hb, hml, hown, hts⟩ hK hP [0, 1, 2, 3, 4, 5, 6, 7, 8, 9] rfl (c_X10_inState l g ct m0 m1 m2 m3 m4 m5 m6 m7 m8 m9 n hy sl sp re rh rs kp fl tn tx pa rn rd 3 nS (by omega) hn7) (cwV 1 hts gX10_isShut_X10_inState rfl rfl rfl (by decide +kernel) ⟨Nat.le_of_ble_eq_true rfl, Nat.le_of_ble_eq_true rfl⟩) 0 rfl rfl rfl hl.1 rfl (Nat.le_of_ble_eq_true rfl) dX10_isShut_13 ⟨Nat.zero_le _, Nat.zero_le _⟩ ?_
  refine lv_iadd hx hb dX10_isShut_16 ?_
  refine lv_if_ne (tgt := 24) hx hb dX10_isShut_17 (by decide) (fun c_1 => ?_) (fun c_1 => ?_)
  · refine lv_iconst (v := 0) hx hb dX10_isShut_24 (by decide) ?_
    exact z_zretR hx hb hr hlocks rfl rfl (by simp [c_1]) dX10_isShut_25
  · refine lv_iconst (v := 1) hx hb dX10_isShut_20 (by decide) ?_
    refine lv_goto (tgt := 25) hx hb dX10_isShut_21 (by decide) ?_
    exact z_zretR hx hb hr hlocks rfl rfl (by simp [c_1]) dX10_isShut_25
