set_option maxHeartbeats 4000000 in
set_option maxRecDepth 100000 in
theorem c_X10_level_a (l : Launch) (g : va_G) (ct : Nat → ClassId) (m0 m1 m2 m3 m4 m5 m6 m7 m8 m9 : Nat) (n hy sl sp : Nat → Int64) (re rh rs : Nat → UInt64) (kp : Nat) (fl : Int32) (tn : Nat) (tx : Nat → Int32) (pa rn : Nat) (rd : Nat → Int32) (hr0 : Nat) (hh0 : hr0 < 2 ^ 31) (hn0 : n 0 = lN hr0) (hq : vf_n64 (miD n (n 12))) (x : Int32) : Met l yX10_level wsX10_level (zRm 2 41) (va_Pc [.ref m0, .int x] (zR g ct [zO m0 9 [.ref m1, .ref m2, .ref m3, .ref m4, .ref m5, .ref m6, .ref m7, .int (nI kp), .int fl, .int (nI tn), .ref m8, .int (nI pa), .int (nI rn), .ref m9], zL ct m1 108 n, zL ct m2 540 hy, zL ct m3 108 sl, zL ct m4 108 sp, zD ct m5 33 re, zD ct m6 165 rh, zD ct m7 33 rs, zC ct m8 60 tx, zI ct m9 17 rd])) (vp_Sd (fun r => r = if x = 0 then re (1 + hr0 % 24) else if x = 1 then miD n (n 12) else if x = 2 then re 0 else 9221120237041090560)) 0 0 (fun _ => False) := by
  refine z_read (cc := cX10_level) (maxL := 2) (ret := some .double) (by decide) rfl (Nat.le_of_ble_eq_true rfl) ?_
  intro p e s m below meth c ls hx hb hr hml hts hown hlocks hP hK hl
  have hown : s.vm.findClass RX10 = some m.cls := hown
  have hl : lv_has ls 2 [(0, .ref m0), (1, .int x)] := hl
  have hi_wsX100 : ∀ w ∈ wsX100, w ∈ wsX10_level := fun w h => List.mem_cons_of_mem _ (List.mem_append_right _ h)
  refine lv_iload_n hx hb dX10_level_0 rfl (lv_at hl 1 rfl) ?_
  refine lv_if_ne (tgt := 11) hx hb dX10_level_1 (by decide) (fun c_1 => ?_) (fun c_1 => ?_)
  · refine lv_iload_n hx hb dX10_level_11 rfl (lv_at hl 1 rfl) ?_
    refine lv_iconst (v := 1) hx hb dX10_level_12 (by decide) ?_
    refine lv_icmp_ne (tgt := 23) hx hb dX10_level_13 (by decide) (fun c_2 => ?_) (fun c_2 => ?_)
    · refine lv_iload_n hx hb dX10_level_23 rfl (lv_at hl 1 rfl) ?_
      refine lv_iconst (v := 2) hx hb dX10_level_24 (by decide) ?_
      refine lv_icmp_ne (tgt := 37) hx hb dX10_level_25 (by decide) (fun c_3 => ?_) (fun c_3 => ?_)
      · refine z_cSd (As := []) (rest := []) ⟨hx, hb, hml, hown, hts⟩ (c_X10_nothing l 0) (va_cwS 0 hts gX10_level_X10_nothing rfl rfl rfl (by decide +kernel) ⟨Nat.le_of_ble_eq_true rfl, Nat.le_of_ble_eq_true rfl⟩) rfl hl.1 rfl (Nat.le_of_ble_eq_true rfl) dX10_level_37 ⟨Nat.zero_le _, Nat.zero_le _⟩ ?_
        exact z_dretR hx hb hr hlocks rfl (by first | rfl | (simp [c_1, c_2, c_3])) dX10_level_40
      · refine lv_aload_n hx hb dX10_level_28 rfl (lv_at hl 0 rfl) ?_
        refine va_get (D := g) (ci := 9) (v := .ref m5) (C := RX10) (T := TX10) (N := 14) hx hb hts hi_wsX100 hown hK hP 0 rfl rfl 4 (by decide) (hts (.fieldLink RX10 22 "FloodBarrierModel" "real" "[D") (List.mem_of_getElem? (i := 1) rfl)) (fun _ h9 => h9) rfl dX10_level_29 ?_
        refine lv_iconst (v := 0) hx hb dX10_level_32 (by decide) ?_
        refine z_dald (ct := ct) (f := re) (k := 0) hx hb hK hP 5 rfl (by omega) (by decide) dX10_level_33 ?_
        refine lv_goto (tgt := 40) hx hb dX10_level_34 (by decide) ?_
        exact z_dretR hx hb hr hlocks rfl (by first | rfl | (simp [c_1, c_2, c_3])) dX10_level_40
    · refine lv_aload_n hx hb dX10_level_16 rfl (lv_at hl 0 rfl) ?_
      refine z_cVd (wc := [zO m0 9 [.ref m1, .ref m2, .ref m3, .ref m4, .ref m5, .ref m6, .ref m7, .int (nI kp), .int fl, .int (nI tn), .ref m8, .int (nI pa), .int (nI rn), .ref m9], zL ct m1 108 n, zL ct m2 540 hy, zL ct m3 108 sl, zL ct m4 108 sp, zD ct m5 33 re, zD ct m6 165 rh, zD ct m7 33 rs, zC ct m8 60 tx, zI ct m9 17 rd]) (As := []) (rest := []) ⟨hx, hb, hml, hown, hts⟩ hK hP [0, 1, 2, 3, 4, 5, 6, 7, 8, 9] rfl (c_X10_inner l g ct m0 m1 m2 m3 m4 m5 m6 m7 m8 m9 n hy sl sp re rh rs kp fl tn tx pa rn rd hq) (cwV 0 hts gX10_level_X10_inner rfl rfl rfl (by decide +kernel) ⟨Nat.le_of_ble_eq_true rfl, Nat.le_of_ble_eq_true rfl⟩) 0 rfl rfl rfl hl.1 rfl (Nat.le_of_ble_eq_true rfl) dX10_level_17 ⟨Nat.zero_le _, Nat.zero_le _⟩ ?_
      rw [show FP.ddiv (FP.l2d (n 12)) (FP.l2d (n 5)) = miD n (n 12) from rfl]
      refine lv_goto (tgt := 40) hx hb dX10_level_20 (by decide) ?_
      exact z_dretR hx hb hr hlocks rfl (by first | rfl | (simp [c_1, c_2])) dX10_level_40
  · refine lv_aload_n hx hb dX10_level_4 rfl (lv_at hl 0 rfl) ?_
    refine z_cVd (wc := [zO m0 9 [.ref m1, .ref m2, .ref m3, .ref m4, .ref m5, .ref m6, .ref m7, .int (nI kp), .int fl, .int (nI tn), .ref m8, .int (nI pa), .int (nI rn), .ref m9], zL ct m1 108 n, zL ct m2 540 hy, zL ct m3 108 sl, zL ct m4 108 sp, zD ct m5 33 re, zD ct m6 165 rh, zD ct m7 33 rs, zC ct m8 60 tx, zI ct m9 17 rd]) (As := []) (rest := []) ⟨hx, hb, hml, hown, hts⟩ hK hP [0, 1, 2, 3, 4, 5, 6, 7, 8, 9] rfl (c_X10_outer l g ct m0 m1 m2 m3 m4 m5 m6 m7 m8 m9 n hy sl sp re rh rs kp fl tn tx pa rn rd hr0 (by omega) hn0) (cwV 0 hts gX10_level_X10_outer rfl rfl rfl (by decide +kernel) ⟨Nat.le_of_ble_eq_true rfl, Nat.le_of_ble_eq_true rfl⟩) 0 rfl rfl rfl hl.1 rfl (Nat.le_of_ble_eq_true rfl) dX10_level_5 ⟨Nat.zero_le _, Nat.zero_le _⟩ ?_
    refine lv_goto (tgt := 40) hx hb dX10_level_8 (by decide) ?_
    exact z_dretR hx hb hr hlocks rfl (by first | rfl | (simp [c_1])) dX10_level_40

theorem inP_N {k c : Nat} (h : k ≤ c) (hc : c < 2 ^ 31) : inP (lN k) 0 (lN c) := ⟨fun q => Nat.not_lt_zero k ((lN_lt (b := 0) (by omega) (by decide)).mp q), fun q => absurd ((lN_lt (by omega) (by omega)).mp q) (by omega)⟩

set_option maxHeartbeats 4000000 in
set_option maxRecDepth 100000 in
theorem c_X10_water_u (l : Launch) (g : va_G) (ct : Nat → ClassId) (m0 m1 m2 m3 m4 m5 m6 m7 m8 m9 : Nat) (n hy sl sp : Nat → Int64) (re rh rs : Nat → UInt64) (kp : Nat) (fl : Int32) (tn : Nat) (tx : Nat → Int32) (pa rn : Nat) (rd : Nat → Int32) (x : Int32) (hact : ¬ inP x.toInt64 0 5) : Met l yX10_water wsX10_water (zRm 1 25) (va_Pc [.ref m0, .int x] (zR g ct [zO m0 9 [.ref m1, .ref m2, .ref m3, .ref m4, .ref m5, .ref m6, .ref m7, .int (nI kp), .int fl, .int (nI tn), .ref m8, .int (nI pa), .int (nI rn), .ref m9], zL ct m1 108 n, zL ct m2 540 hy, zL ct m3 108 sl, zL ct m4 108 sp, zD ct m5 33 re, zD ct m6 165 rh, zD ct m7 33 rs, zC ct m8 60 tx, zI ct m9 17 rd])) (vp_Sl (fun r => r = -2)) 0 0 (fun _ => False) := by
  refine z_read (cc := cX10_water) (maxL := 2) (ret := some .long) (by decide) rfl (Nat.le_of_ble_eq_true rfl) ?_
  intro p e s m below meth c ls hx hb hr hml hts hown hlocks hP hK hl
  have hown : s.vm.findClass RX10 = some m.cls := hown
  have hl : lv_has ls 2 [(0, .ref m0), (1, .int x)] := hl
  refine lv_iload_n hx hb dX10_water_0 rfl (lv_at hl 1 rfl) ?_
  refine lv_i2l (v := x.toInt64) hx hb dX10_water_1 rfl ?_
  refine lv_lconst (v := 0) hx hb dX10_water_2 (by decide) ?_
  refine lv_ldc2 (v := 5) hx hb hown (hts (.constantLong RX10 210 (5)) (List.mem_of_getElem? (i := 1) rfl)) dX10_water_3 ?_
  refine z_cSi (As := [.long x.toInt64, .long 0, .long 5]) (rest := []) ⟨hx, hb, hml, hown, hts⟩ (c_X10_in l x.toInt64 0 5) (va_cwS 3 hts gX10_water_X10_in rfl rfl rfl (by decide +kernel) ⟨Nat.le_of_ble_eq_true rfl, Nat.le_of_ble_eq_true rfl⟩) rfl hl.1 rfl (Nat.le_of_ble_eq_true rfl) dX10_water_6 ⟨Nat.zero_le _, Nat.zero_le _⟩ ?_
  refine z_bif_eq (P := (inP x.toInt64 0 5)) (tgt := 24) hx hb dX10_water_9 (by decide) (fun c_1 => ?_) (fun c_1 => ?_)
  · refine lv_ldc2 (v := (-2)) hx hb hown (hts (.constantLong RX10 212 (-2)) (List.mem_of_getElem? (i := 3) rfl)) dX10_water_24 ?_
    exact z_lretR hx hb hr hlocks rfl rfl dX10_water_27
  · exact absurd c_1 hact

set_option maxHeartbeats 4000000 in
set_option maxRecDepth 100000 in
theorem c_X10_water_a (l : Launch) (g : va_G) (ct : Nat → ClassId) (m0 m1 m2 m3 m4 m5 m6 m7 m8 m9 : Nat) (n hy sl sp : Nat → Int64) (re rh rs : Nat → UInt64) (kp : Nat) (fl : Int32) (tn : Nat) (tx : Nat → Int32) (pa rn : Nat) (rd : Nat → Int32) (k : Nat) (hk : k ≤ 5) : Met l yX10_water wsX10_water (zRm 1 25) (va_Pc [.ref m0, .int (nI k)] (zR g ct [zO m0 9 [.ref m1, .ref m2, .ref m3, .ref m4, .ref m5, .ref m6, .ref m7, .int (nI kp), .int fl, .int (nI tn), .ref m8, .int (nI pa), .int (nI rn), .ref m9], zL ct m1 108 n, zL ct m2 540 hy, zL ct m3 108 sl, zL ct m4 108 sp, zD ct m5 33 re, zD ct m6 165 rh, zD ct m7 33 rs, zC ct m8 60 tx, zI ct m9 17 rd])) (vp_Sl (fun r => r = n (12 + k))) 0 0 (fun _ => False) := by
  refine z_read (cc := cX10_water) (maxL := 2) (ret := some .long) (by decide) rfl (Nat.le_of_ble_eq_true rfl) ?_
  intro p e s m below meth c ls hx hb hr hml hts hown hlocks hP hK hl
  have hown : s.vm.findClass RX10 = some m.cls := hown
  have hl : lv_has ls 2 [(0, .ref m0), (1, .int (nI k))] := hl
  have hi_wsX100 : ∀ w ∈ wsX100, w ∈ wsX10_water := fun w h => List.mem_cons_of_mem _ (List.mem_append_right _ h)
  refine lv_iload_n hx hb dX10_water_0 rfl (lv_at hl 1 rfl) ?_
  refine lv_i2l (v := lN k) hx hb dX10_water_1 (nI_l (by omega)) ?_
  refine lv_lconst (v := 0) hx hb dX10_water_2 (by decide) ?_
  refine lv_ldc2 (v := 5) hx hb hown (hts (.constantLong RX10 210 (5)) (List.mem_of_getElem? (i := 1) rfl)) dX10_water_3 ?_
  refine z_cSi (As := [.long (lN k), .long 0, .long 5]) (rest := []) ⟨hx, hb, hml, hown, hts⟩ (c_X10_in l (lN k) 0 5) (va_cwS 3 hts gX10_water_X10_in rfl rfl rfl (by decide +kernel) ⟨Nat.le_of_ble_eq_true rfl, Nat.le_of_ble_eq_true rfl⟩) rfl hl.1 rfl (Nat.le_of_ble_eq_true rfl) dX10_water_6 ⟨Nat.zero_le _, Nat.zero_le _⟩ ?_
  refine z_bif_eq (P := (inP (lN k) 0 5)) (tgt := 24) hx hb dX10_water_9 (by decide) (fun c_1 => ?_) (fun c_1 => ?_)
  · exact absurd (show inP (lN k) 0 5 from (inP_N (c := 5) hk (by decide))) c_1
  · refine lv_aload_n hx hb dX10_water_12 rfl (lv_at hl 0 rfl) ?_
    refine va_get (D := g) (ci := 9) (v := .ref m1) (C := RX10) (T := TX10) (N := 14) hx hb hts hi_wsX100 hown hK hP 0 rfl rfl 0 (by decide) (hts (.fieldLink RX10 7 "FloodBarrierModel" "now" "[J") (List.mem_of_getElem? (i := 2) rfl)) (fun _ h9 => h9) rfl dX10_water_13 ?_
    refine lv_bipush (v := 12) hx hb dX10_water_16 (by decide) ?_
    refine lv_iload_n hx hb dX10_water_18 rfl (lv_at hl 1 rfl) ?_
    refine z_iaddN (x := 12) (y := k) hx hb dX10_water_19 ?_
    refine z_lald (ct := ct) (f := n) (k := (12 + k)) hx hb hK hP 1 rfl (by omega) (by decide) dX10_water_20 ?_
    refine lv_goto (tgt := 27) hx hb dX10_water_21 (by decide) ?_
    exact z_lretR hx hb hr hlocks rfl rfl dX10_water_27

set_option maxHeartbeats 4000000 in
set_option maxRecDepth 100000 in
theorem c_X10_tide_u (l : Launch) (g : va_G) (ct : Nat → ClassId) (m0 m1 m2 m3 m4 m5 m6 m7 m8 m9 : Nat) (n hy sl sp : Nat → Int64) (re rh rs : Nat → UInt64) (kp : Nat) (fl : Int32) (tn : Nat) (tx : Nat → Int32) (pa rn : Nat) (rd : Nat → Int32) (x : Int32) (hact : ¬ inP x.toInt64 0 23) : Met l yX10_tide wsX10_tide (zRm 1 25) (va_Pc [.ref m0, .int x] (zR g ct [zO m0 9 [.ref m1, .ref m2, .ref m3, .ref m4, .ref m5, .ref m6, .ref m7, .int (nI kp), .int fl, .int (nI tn), .ref m8, .int (nI pa), .int (nI rn), .ref m9], zL ct m1 108 n, zL ct m2 540 hy, zL ct m3 108 sl, zL ct m4 108 sp, zD ct m5 33 re, zD ct m6 165 rh, zD ct m7 33 rs, zC ct m8 60 tx, zI ct m9 17 rd])) (vp_Sl (fun r => r = -2)) 0 0 (fun _ => False) := by
  refine z_read (cc := cX10_tide) (maxL := 2) (ret := some .long) (by decide) rfl (Nat.le_of_ble_eq_true rfl) ?_
  intro p e s m below meth c ls hx hb hr hml hts hown hlocks hP hK hl
  have hown : s.vm.findClass RX10 = some m.cls := hown
  have hl : lv_has ls 2 [(0, .ref m0), (1, .int x)] := hl
  refine lv_iload_n hx hb dX10_tide_0 rfl (lv_at hl 1 rfl) ?_
  refine lv_i2l (v := x.toInt64) hx hb dX10_tide_1 rfl ?_
  refine lv_lconst (v := 0) hx hb dX10_tide_2 (by decide) ?_
  refine lv_ldc2 (v := 23) hx hb hown (hts (.constantLong RX10 122 (23)) (List.mem_of_getElem? (i := 1) rfl)) dX10_tide_3 ?_
  refine z_cSi (As := [.long x.toInt64, .long 0, .long 23]) (rest := []) ⟨hx, hb, hml, hown, hts⟩ (c_X10_in l x.toInt64 0 23) (va_cwS 3 hts gX10_tide_X10_in rfl rfl rfl (by decide +kernel) ⟨Nat.le_of_ble_eq_true rfl, Nat.le_of_ble_eq_true rfl⟩) rfl hl.1 rfl (Nat.le_of_ble_eq_true rfl) dX10_tide_6 ⟨Nat.zero_le _, Nat.zero_le _⟩ ?_
  refine z_bif_eq (P := (inP x.toInt64 0 23)) (tgt := 26) hx hb dX10_tide_9 (by decide) (fun c_1 => ?_) (fun c_1 => ?_)
  · refine lv_ldc2 (v := (-2)) hx hb hown (hts (.constantLong RX10 212 (-2)) (List.mem_of_getElem? (i := 3) rfl)) dX10_tide_26 ?_
    exact z_lretR hx hb hr hlocks rfl rfl dX10_tide_29
  · exact absurd c_1 hact

set_option maxHeartbeats 4000000 in
set_option maxRecDepth 100000 in
theorem c_X10_tide_a (l : Launch) (g : va_G) (ct : Nat → ClassId) (m0 m1 m2 m3 m4 m5 m6 m7 m8 m9 : Nat) (n hy sl sp : Nat → Int64) (re rh rs : Nat → UInt64) (kp : Nat) (fl : Int32) (tn : Nat) (tx : Nat → Int32) (pa rn : Nat) (rd : Nat → Int32) (k : Nat) (hk : k < 24) (hnn : Op.cmpValue (FP.dcmp (re (1 + k)) (re (1 + k))) CmpOp.l = 0) : Met l yX10_tide wsX10_tide (zRm 2 46) (va_Pc [.ref m0, .int (nI k)] (zR g ct [zO m0 9 [.ref m1, .ref m2, .ref m3, .ref m4, .ref m5, .ref m6, .ref m7, .int (nI kp), .int fl, .int (nI tn), .ref m8, .int (nI pa), .int (nI rn), .ref m9], zL ct m1 108 n, zL ct m2 540 hy, zL ct m3 108 sl, zL ct m4 108 sp, zD ct m5 33 re, zD ct m6 165 rh, zD ct m7 33 rs, zC ct m8 60 tx, zI ct m9 17 rd])) (vp_Sl (fun r => r = (re (1 + k)).toInt64)) 0 0 (fun _ => False) := by
  refine z_read (cc := cX10_tide) (maxL := 2) (ret := some .long) (by decide) rfl (Nat.le_of_ble_eq_true rfl) ?_
  intro p e s m below meth c ls hx hb hr hml hts hown hlocks hP hK hl
  have hown : s.vm.findClass RX10 = some m.cls := hown
  have hl : lv_has ls 2 [(0, .ref m0), (1, .int (nI k))] := hl
  have hi_wsX100 : ∀ w ∈ wsX100, w ∈ wsX10_tide := fun w h => List.mem_cons_of_mem _ (List.mem_append_right _ h)
  refine lv_iload_n hx hb dX10_tide_0 rfl (lv_at hl 1 rfl) ?_
  refine lv_i2l (v := lN k) hx hb dX10_tide_1 (nI_l (by omega)) ?_
  refine lv_lconst (v := 0) hx hb dX10_tide_2 (by decide) ?_
  refine lv_ldc2 (v := 23) hx hb hown (hts (.constantLong RX10 122 (23)) (List.mem_of_getElem? (i := 1) rfl)) dX10_tide_3 ?_
  refine z_cSi (As := [.long (lN k), .long 0, .long 23]) (rest := []) ⟨hx, hb, hml, hown, hts⟩ (c_X10_in l (lN k) 0 23) (va_cwS 3 hts gX10_tide_X10_in rfl rfl rfl (by decide +kernel) ⟨Nat.le_of_ble_eq_true rfl, Nat.le_of_ble_eq_true rfl⟩) rfl hl.1 rfl (Nat.le_of_ble_eq_true rfl) dX10_tide_6 ⟨Nat.zero_le _, Nat.zero_le _⟩ ?_
  refine z_bif_eq (P := (inP (lN k) 0 23)) (tgt := 26) hx hb dX10_tide_9 (by decide) (fun c_1 => ?_) (fun c_1 => ?_)
  · exact absurd (show inP (lN k) 0 23 from inP_k hk) c_1
  · refine lv_aload_n hx hb dX10_tide_12 rfl (lv_at hl 0 rfl) ?_
    refine va_get (D := g) (ci := 9) (v := .ref m5) (C := RX10) (T := TX10) (N := 14) hx hb hts hi_wsX100 hown hK hP 0 rfl rfl 4 (by decide) (hts (.fieldLink RX10 22 "FloodBarrierModel" "real" "[D") (List.mem_of_getElem? (i := 2) rfl)) (fun _ h9 => h9) rfl dX10_tide_13 ?_
    refine lv_iconst (v := 1) hx hb dX10_tide_16 (by decide) ?_
    refine lv_iload_n hx hb dX10_tide_17 rfl (lv_at hl 1 rfl) ?_
    refine z_iaddN (x := 1) (y := k) hx hb dX10_tide_18 ?_
    refine z_dald (ct := ct) (f := re) (k := (1 + k)) hx hb hK hP 5 rfl (by omega) (by decide) dX10_tide_19 ?_
    refine z_cSl (As := [.double (re (1 + k))]) (rest := []) ⟨hx, hb, hml, hown, hts⟩ (c_d2lb l (re (1 + k)) hnn) (va_cwS 1 hts gX10_tide_Jxe99ae_doubleToLongBits_ccdee rfl rfl rfl (by decide +kernel) ⟨Nat.le_of_ble_eq_true rfl, Nat.le_of_ble_eq_true rfl⟩) rfl hl.1 rfl (Nat.le_of_ble_eq_true rfl) dX10_tide_20 ⟨Nat.zero_le _, Nat.zero_le _⟩ ?_
    refine lv_goto (tgt := 29) hx hb dX10_tide_23 (by decide) ?_
    exact z_lretR hx hb hr hlocks rfl rfl dX10_tide_29
