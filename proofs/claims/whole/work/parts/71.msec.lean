set_option maxHeartbeats 4000000 in
set_option maxRecDepth 100000 in
theorem c_X10_section_u (l : Launch) (g : va_G) (ct : Nat → ClassId) (m0 m1 m2 m3 m4 m5 m6 m7 m8 m9 : Nat) (n hy sl sp : Nat → Int64) (re rh rs : Nat → UInt64) (kp : Nat) (fl : Int32) (tn : Nat) (tx : Nat → Int32) (pa rn : Nat) (rd : Nat → Int32) (x : Int32) (y : Int32) (hact : ¬ inP x.toInt64 0 (n 7 - 1)) : Met l yX10_section wsX10_section (zRm 2 47) (va_Pc [.ref m0, .int x, .int y] (zR g ct [zO m0 9 [.ref m1, .ref m2, .ref m3, .ref m4, .ref m5, .ref m6, .ref m7, .int (nI kp), .int fl, .int (nI tn), .ref m8, .int (nI pa), .int (nI rn), .ref m9], zL ct m1 108 n, zL ct m2 540 hy, zL ct m3 108 sl, zL ct m4 108 sp, zD ct m5 33 re, zD ct m6 165 rh, zD ct m7 33 rs, zC ct m8 60 tx, zI ct m9 17 rd])) (vp_Si (fun r => r = -1)) 0 0 (fun _ => False) := by
  refine z_read (cc := cX10_section) (maxL := 3) (ret := some .int) (by decide) rfl (Nat.le_of_ble_eq_true rfl) ?_
  intro p e s m below meth c ls hx hb hr hml hts hown hlocks hP hK hl
  have hown : s.vm.findClass RX10 = some m.cls := hown
  have hl : lv_has ls 3 [(0, .ref m0), (1, .int x), (2, .int y)] := hl
  refine lv_aload_n hx hb dX10_section_0 rfl (lv_at hl 0 rfl) ?_
  refine lv_iload_n hx hb dX10_section_1 rfl (lv_at hl 1 rfl) ?_
  refine lv_bipush (v := 7) hx hb dX10_section_2 (by decide) ?_
  refine z_cVi (wc := [zO m0 9 [.ref m1, .ref m2, .ref m3, .ref m4, .ref m5, .ref m6, .ref m7, .int (nI kp), .int fl, .int (nI tn), .ref m8, .int (nI pa), .int (nI rn), .ref m9], zL ct m1 108 n, zL ct m2 540 hy, zL ct m3 108 sl, zL ct m4 108 sp, zD ct m5 33 re, zD ct m6 165 rh, zD ct m7 33 rs, zC ct m8 60 tx, zI ct m9 17 rd]) (As := [.int x, .int 7]) (rest := []) ⟨hx, hb, hml, hown, hts⟩ hK hP [0, 1, 2, 3, 4, 5, 6, 7, 8, 9] rfl (c_X10_isNone l g ct m0 m1 m2 m3 m4 m5 m6 m7 m8 m9 n hy sl sp re rh rs kp fl tn tx pa rn rd x 7 (by omega)) (cwV 2 hts gX10_section_X10_isNone rfl rfl rfl (by decide +kernel) ⟨Nat.le_of_ble_eq_true rfl, Nat.le_of_ble_eq_true rfl⟩) 0 rfl rfl rfl hl.1 rfl (Nat.le_of_ble_eq_true rfl) dX10_section_4 ⟨Nat.zero_le _, Nat.zero_le _⟩ ?_
  refine z_bif_eq (P := (¬ inP x.toInt64 0 (n 7 - 1))) (tgt := 12) hx hb dX10_section_7 (by decide) (fun c_1 => ?_) (fun c_1 => ?_)
  · exact absurd hact c_1
  · refine lv_iconst (v := (-1)) hx hb dX10_section_10 (by decide) ?_
    exact z_iretR hx hb hr hlocks rfl rfl dX10_section_11

set_option maxHeartbeats 4000000 in
set_option maxRecDepth 100000 in
theorem c_X10_section_a (l : Launch) (g : va_G) (ct : Nat → ClassId) (m0 m1 m2 m3 m4 m5 m6 m7 m8 m9 : Nat) (n hy sl sp : Nat → Int64) (re rh rs : Nat → UInt64) (kp : Nat) (fl : Int32) (tn : Nat) (tx : Nat → Int32) (pa rn : Nat) (rd : Nat → Int32) (k : Nat) (hk : k < 8) (hinP : inP (nI k).toInt64 0 (n 7 - 1)) (x : Int32) : Met l yX10_section wsX10_section (zRm 2 47) (va_Pc [.ref m0, .int (nI k), .int x] (zR g ct [zO m0 9 [.ref m1, .ref m2, .ref m3, .ref m4, .ref m5, .ref m6, .ref m7, .int (nI kp), .int fl, .int (nI tn), .ref m8, .int (nI pa), .int (nI rn), .ref m9], zL ct m1 108 n, zL ct m2 540 hy, zL ct m3 108 sl, zL ct m4 108 sp, zD ct m5 33 re, zD ct m6 165 rh, zD ct m7 33 rs, zC ct m8 60 tx, zI ct m9 17 rd])) (vp_Si (fun r => r = if x = 0 then (n (20 + 6 * k + 0)).toInt32 else if x = 1 then (n (20 + 6 * k + 1)).toInt32 else if x = 2 then (n (20 + 6 * k + 2)).toInt32 else if x = 3 then (n (20 + 6 * k + 3)).toInt32 else if x = 4 then if n 2 = lN k + 1 then (n (20 + 6 * k + 4)).toInt32 else -5 else if x = 5 then (n (20 + 6 * k + 5)).toInt32 else -2)) 0 0 (fun _ => False) := by
  refine z_read (cc := cX10_section) (maxL := 3) (ret := some .int) (by decide) rfl (Nat.le_of_ble_eq_true rfl) ?_
  intro p e s m below meth c ls hx hb hr hml hts hown hlocks hP hK hl
  have hown : s.vm.findClass RX10 = some m.cls := hown
  have hl : lv_has ls 3 [(0, .ref m0), (1, .int (nI k)), (2, .int x)] := hl
  have hi_wsX100 : ∀ w ∈ wsX100, w ∈ wsX10_section := fun w h => List.mem_cons_of_mem _ (List.mem_append_right _ h)
  refine lv_aload_n hx hb dX10_section_0 rfl (lv_at hl 0 rfl) ?_
  refine lv_iload_n hx hb dX10_section_1 rfl (lv_at hl 1 rfl) ?_
  refine lv_bipush (v := 7) hx hb dX10_section_2 (by decide) ?_
  refine z_cVi (wc := [zO m0 9 [.ref m1, .ref m2, .ref m3, .ref m4, .ref m5, .ref m6, .ref m7, .int (nI kp), .int fl, .int (nI tn), .ref m8, .int (nI pa), .int (nI rn), .ref m9], zL ct m1 108 n, zL ct m2 540 hy, zL ct m3 108 sl, zL ct m4 108 sp, zD ct m5 33 re, zD ct m6 165 rh, zD ct m7 33 rs, zC ct m8 60 tx, zI ct m9 17 rd]) (As := [.int (nI k), .int 7]) (rest := []) ⟨hx, hb, hml, hown, hts⟩ hK hP [0, 1, 2, 3, 4, 5, 6, 7, 8, 9] rfl (c_X10_isNone l g ct m0 m1 m2 m3 m4 m5 m6 m7 m8 m9 n hy sl sp re rh rs kp fl tn tx pa rn rd (nI k) 7 (by omega)) (cwV 2 hts gX10_section_X10_isNone rfl rfl rfl (by decide +kernel) ⟨Nat.le_of_ble_eq_true rfl, Nat.le_of_ble_eq_true rfl⟩) 0 rfl rfl rfl hl.1 rfl (Nat.le_of_ble_eq_true rfl) dX10_section_4 ⟨Nat.zero_le _, Nat.zero_le _⟩ ?_
  refine z_bif_eq (P := (¬ inP (nI k).toInt64 0 (n 7 - 1))) (tgt := 12) hx hb dX10_section_7 (by decide) (fun c_1 => ?_) (fun c_1 => ?_)
  · refine lv_iload_n hx hb dX10_section_12 rfl (lv_at hl 2 rfl) ?_
    by_cases e_2 : x = 0
    · subst e_2
      refine lv_tableIn (off := 39) (tgt := 52) hx hb dX10_section_13 (by decide) (by decide) rfl (by decide) ?_
      refine lv_aload_n hx hb dX10_section_52 rfl (lv_at hl 0 rfl) ?_
      refine lv_iload_n hx hb dX10_section_53 rfl (lv_at hl 1 rfl) ?_
      refine lv_iload_n hx hb dX10_section_54 rfl (lv_at hl 2 rfl) ?_
      refine z_cVi (wc := [zO m0 9 [.ref m1, .ref m2, .ref m3, .ref m4, .ref m5, .ref m6, .ref m7, .int (nI kp), .int fl, .int (nI tn), .ref m8, .int (nI pa), .int (nI rn), .ref m9], zL ct m1 108 n, zL ct m2 540 hy, zL ct m3 108 sl, zL ct m4 108 sp, zD ct m5 33 re, zD ct m6 165 rh, zD ct m7 33 rs, zC ct m8 60 tx, zI ct m9 17 rd]) (As := [.int (nI k), .int 0]) (rest := []) ⟨hx, hb, hml, hown, hts⟩ hK hP [0, 1, 2, 3, 4, 5, 6, 7, 8, 9] rfl (c_X10_of l g ct m0 m1 m2 m3 m4 m5 m6 m7 m8 m9 n hy sl sp re rh rs kp fl tn tx pa rn rd k 0 (by omega) (by omega)) (cwV 2 hts gX10_section_X10_of rfl rfl rfl (by decide +kernel) ⟨Nat.le_of_ble_eq_true rfl, Nat.le_of_ble_eq_true rfl⟩) 0 rfl rfl rfl hl.1 rfl (Nat.le_of_ble_eq_true rfl) dX10_section_55 ⟨Nat.zero_le _, Nat.zero_le _⟩ ?_
      exact z_iretR hx hb hr hlocks rfl rfl dX10_section_58
    by_cases e_3 : x = 1
    · subst e_3
      refine lv_tableIn (off := 39) (tgt := 52) hx hb dX10_section_13 (by decide) (by decide) rfl (by decide) ?_
      refine lv_aload_n hx hb dX10_section_52 rfl (lv_at hl 0 rfl) ?_
      refine lv_iload_n hx hb dX10_section_53 rfl (lv_at hl 1 rfl) ?_
      refine lv_iload_n hx hb dX10_section_54 rfl (lv_at hl 2 rfl) ?_
      refine z_cVi (wc := [zO m0 9 [.ref m1, .ref m2, .ref m3, .ref m4, .ref m5, .ref m6, .ref m7, .int (nI kp), .int fl, .int (nI tn), .ref m8, .int (nI pa), .int (nI rn), .ref m9], zL ct m1 108 n, zL ct m2 540 hy, zL ct m3 108 sl, zL ct m4 108 sp, zD ct m5 33 re, zD ct m6 165 rh, zD ct m7 33 rs, zC ct m8 60 tx, zI ct m9 17 rd]) (As := [.int (nI k), .int 1]) (rest := []) ⟨hx, hb, hml, hown, hts⟩ hK hP [0, 1, 2, 3, 4, 5, 6, 7, 8, 9] rfl (c_X10_of l g ct m0 m1 m2 m3 m4 m5 m6 m7 m8 m9 n hy sl sp re rh rs kp fl tn tx pa rn rd k 1 (by omega) (by omega)) (cwV 2 hts gX10_section_X10_of rfl rfl rfl (by decide +kernel) ⟨Nat.le_of_ble_eq_true rfl, Nat.le_of_ble_eq_true rfl⟩) 0 rfl rfl rfl hl.1 rfl (Nat.le_of_ble_eq_true rfl) dX10_section_55 ⟨Nat.zero_le _, Nat.zero_le _⟩ ?_
      exact z_iretR hx hb hr hlocks rfl (by first | rfl | (simp [e_2])) dX10_section_58
    by_cases e_4 : x = 2
    · subst e_4
      refine lv_tableIn (off := 39) (tgt := 52) hx hb dX10_section_13 (by decide) (by decide) rfl (by decide) ?_
      refine lv_aload_n hx hb dX10_section_52 rfl (lv_at hl 0 rfl) ?_
      refine lv_iload_n hx hb dX10_section_53 rfl (lv_at hl 1 rfl) ?_
      refine lv_iload_n hx hb dX10_section_54 rfl (lv_at hl 2 rfl) ?_
      refine z_cVi (wc := [zO m0 9 [.ref m1, .ref m2, .ref m3, .ref m4, .ref m5, .ref m6, .ref m7, .int (nI kp), .int fl, .int (nI tn), .ref m8, .int (nI pa), .int (nI rn), .ref m9], zL ct m1 108 n, zL ct m2 540 hy, zL ct m3 108 sl, zL ct m4 108 sp, zD ct m5 33 re, zD ct m6 165 rh, zD ct m7 33 rs, zC ct m8 60 tx, zI ct m9 17 rd]) (As := [.int (nI k), .int 2]) (rest := []) ⟨hx, hb, hml, hown, hts⟩ hK hP [0, 1, 2, 3, 4, 5, 6, 7, 8, 9] rfl (c_X10_of l g ct m0 m1 m2 m3 m4 m5 m6 m7 m8 m9 n hy sl sp re rh rs kp fl tn tx pa rn rd k 2 (by omega) (by omega)) (cwV 2 hts gX10_section_X10_of rfl rfl rfl (by decide +kernel) ⟨Nat.le_of_ble_eq_true rfl, Nat.le_of_ble_eq_true rfl⟩) 0 rfl rfl rfl hl.1 rfl (Nat.le_of_ble_eq_true rfl) dX10_section_55 ⟨Nat.zero_le _, Nat.zero_le _⟩ ?_
      exact z_iretR hx hb hr hlocks rfl (by first | rfl | (simp [e_2, e_3])) dX10_section_58
    by_cases e_5 : x = 3
    · subst e_5
      refine lv_tableIn (off := 39) (tgt := 52) hx hb dX10_section_13 (by decide) (by decide) rfl (by decide) ?_
      refine lv_aload_n hx hb dX10_section_52 rfl (lv_at hl 0 rfl) ?_
      refine lv_iload_n hx hb dX10_section_53 rfl (lv_at hl 1 rfl) ?_
      refine lv_iload_n hx hb dX10_section_54 rfl (lv_at hl 2 rfl) ?_
      refine z_cVi (wc := [zO m0 9 [.ref m1, .ref m2, .ref m3, .ref m4, .ref m5, .ref m6, .ref m7, .int (nI kp), .int fl, .int (nI tn), .ref m8, .int (nI pa), .int (nI rn), .ref m9], zL ct m1 108 n, zL ct m2 540 hy, zL ct m3 108 sl, zL ct m4 108 sp, zD ct m5 33 re, zD ct m6 165 rh, zD ct m7 33 rs, zC ct m8 60 tx, zI ct m9 17 rd]) (As := [.int (nI k), .int 3]) (rest := []) ⟨hx, hb, hml, hown, hts⟩ hK hP [0, 1, 2, 3, 4, 5, 6, 7, 8, 9] rfl (c_X10_of l g ct m0 m1 m2 m3 m4 m5 m6 m7 m8 m9 n hy sl sp re rh rs kp fl tn tx pa rn rd k 3 (by omega) (by omega)) (cwV 2 hts gX10_section_X10_of rfl rfl rfl (by decide +kernel) ⟨Nat.le_of_ble_eq_true rfl, Nat.le_of_ble_eq_true rfl⟩) 0 rfl rfl rfl hl.1 rfl (Nat.le_of_ble_eq_true rfl) dX10_section_55 ⟨Nat.zero_le _, Nat.zero_le _⟩ ?_
      exact z_iretR hx hb hr hlocks rfl (by first | rfl | (simp [e_2, e_3, e_4])) dX10_section_58
    by_cases e_6 : x = 4
    · subst e_6
      refine lv_tableIn (off := 46) (tgt := 59) hx hb dX10_section_13 (by decide) (by decide) rfl (by decide) ?_
      refine lv_aload_n hx hb dX10_section_59 rfl (lv_at hl 0 rfl) ?_
      refine va_get (D := g) (ci := 9) (v := .ref m1) (C := RX10) (T := TX10) (N := 14) hx hb hts hi_wsX100 hown hK hP 0 rfl rfl 0 (by decide) (hts (.fieldLink RX10 7 "FloodBarrierModel" "now" "[J") (List.mem_of_getElem? (i := 1) rfl)) (fun _ h9 => h9) rfl dX10_section_60 ?_
      refine lv_iconst (v := 2) hx hb dX10_section_63 (by decide) ?_
      refine z_lald (ct := ct) (f := n) (k := 2) hx hb hK hP 1 rfl (by omega) (by decide) dX10_section_64 ?_
      refine lv_iload_n hx hb dX10_section_65 rfl (lv_at hl 1 rfl) ?_
      refine lv_i2l (v := lN k) hx hb dX10_section_66 (nI_l (by omega)) ?_
      refine lv_lconst (v := 1) hx hb dX10_section_67 (by decide) ?_
      refine lv_ladd hx hb dX10_section_68 ?_
      refine z_lif_ne (tgt := 82) hx hb dX10_section_69 dX10_section_70 (by decide) (fun c_7 => ?_) (fun c_7 => ?_)
      · refine lv_bipush (v := (-5)) hx hb dX10_section_82 (by decide) ?_
        exact z_iretR hx hb hr hlocks rfl (by first | rfl | (simp [e_2, e_3, e_4, e_5, c_7])) dX10_section_84
      · refine lv_aload_n hx hb dX10_section_73 rfl (lv_at hl 0 rfl) ?_
        refine lv_iload_n hx hb dX10_section_74 rfl (lv_at hl 1 rfl) ?_
        refine lv_iconst (v := 4) hx hb dX10_section_75 (by decide) ?_
        refine z_cVi (wc := [zO m0 9 [.ref m1, .ref m2, .ref m3, .ref m4, .ref m5, .ref m6, .ref m7, .int (nI kp), .int fl, .int (nI tn), .ref m8, .int (nI pa), .int (nI rn), .ref m9], zL ct m1 108 n, zL ct m2 540 hy, zL ct m3 108 sl, zL ct m4 108 sp, zD ct m5 33 re, zD ct m6 165 rh, zD ct m7 33 rs, zC ct m8 60 tx, zI ct m9 17 rd]) (As := [.int (nI k), .int 4]) (rest := []) ⟨hx, hb, hml, hown, hts⟩ hK hP [0, 1, 2, 3, 4, 5, 6, 7, 8, 9] rfl (c_X10_of l g ct m0 m1 m2 m3 m4 m5 m6 m7 m8 m9 n hy sl sp re rh rs kp fl tn tx pa rn rd k 4 (by omega) (by omega)) (cwV 2 hts gX10_section_X10_of rfl rfl rfl (by decide +kernel) ⟨Nat.le_of_ble_eq_true rfl, Nat.le_of_ble_eq_true rfl⟩) 0 rfl rfl rfl hl.1 rfl (Nat.le_of_ble_eq_true rfl) dX10_section_76 ⟨Nat.zero_le _, Nat.zero_le _⟩ ?_
        refine lv_goto (tgt := 84) hx hb dX10_section_79 (by decide) ?_
        exact z_iretR hx hb hr hlocks rfl (by first | rfl | (simp [e_2, e_3, e_4, e_5, c_7])) dX10_section_84
    by_cases e_8 : x = 5
    · subst e_8
      refine lv_tableIn (off := 39) (tgt := 52) hx hb dX10_section_13 (by decide) (by decide) rfl (by decide) ?_
      refine lv_aload_n hx hb dX10_section_52 rfl (lv_at hl 0 rfl) ?_
      refine lv_iload_n hx hb dX10_section_53 rfl (lv_at hl 1 rfl) ?_
      refine lv_iload_n hx hb dX10_section_54 rfl (lv_at hl 2 rfl) ?_
      refine z_cVi (wc := [zO m0 9 [.ref m1, .ref m2, .ref m3, .ref m4, .ref m5, .ref m6, .ref m7, .int (nI kp), .int fl, .int (nI tn), .ref m8, .int (nI pa), .int (nI rn), .ref m9], zL ct m1 108 n, zL ct m2 540 hy, zL ct m3 108 sl, zL ct m4 108 sp, zD ct m5 33 re, zD ct m6 165 rh, zD ct m7 33 rs, zC ct m8 60 tx, zI ct m9 17 rd]) (As := [.int (nI k), .int 5]) (rest := []) ⟨hx, hb, hml, hown, hts⟩ hK hP [0, 1, 2, 3, 4, 5, 6, 7, 8, 9] rfl (c_X10_of l g ct m0 m1 m2 m3 m4 m5 m6 m7 m8 m9 n hy sl sp re rh rs kp fl tn tx pa rn rd k 5 (by omega) (by omega)) (cwV 2 hts gX10_section_X10_of rfl rfl rfl (by decide +kernel) ⟨Nat.le_of_ble_eq_true rfl, Nat.le_of_ble_eq_true rfl⟩) 0 rfl rfl rfl hl.1 rfl (Nat.le_of_ble_eq_true rfl) dX10_section_55 ⟨Nat.zero_le _, Nat.zero_le _⟩ ?_
      exact z_iretR hx hb hr hlocks rfl (by first | rfl | (simp [e_2, e_3, e_4, e_5, e_6])) dX10_section_58
    refine lv_tableOut (tgt := 85) hx hb dX10_section_13 (by have q0 : x.toInt ≠ 0 := fun q => e_2 (Int32.toInt_inj.mp (q.trans (by decide))); have q1 : x.toInt ≠ 1 := fun q => e_3 (Int32.toInt_inj.mp (q.trans (by decide))); have q2 : x.toInt ≠ 2 := fun q => e_4 (Int32.toInt_inj.mp (q.trans (by decide))); have q3 : x.toInt ≠ 3 := fun q => e_5 (Int32.toInt_inj.mp (q.trans (by decide))); have q4 : x.toInt ≠ 4 := fun q => e_6 (Int32.toInt_inj.mp (q.trans (by decide))); have q5 : x.toInt ≠ 5 := fun q => e_8 (Int32.toInt_inj.mp (q.trans (by decide))); omega) (by decide) ?_
    refine lv_bipush (v := (-2)) hx hb dX10_section_85 (by decide) ?_
    exact z_iretR hx hb hr hlocks rfl (by first | rfl | (simp [e_2, e_3, e_4, e_5, e_6, e_8])) dX10_section_87
  · exact absurd (show inP (nI k).toInt64 0 (n 7 - 1) from hinP) c_1

set_option maxHeartbeats 4000000 in
set_option maxRecDepth 100000 in
theorem c_X10_pump_u (l : Launch) (g : va_G) (ct : Nat → ClassId) (m0 m1 m2 m3 m4 m5 m6 m7 m8 m9 : Nat) (n hy sl sp : Nat → Int64) (re rh rs : Nat → UInt64) (kp : Nat) (fl : Int32) (tn : Nat) (tx : Nat → Int32) (pa rn : Nat) (rd : Nat → Int32) (x : Int32) (y : Int32) (hact : ¬ inP x.toInt64 0 (n 10 - 1)) : Met l yX10_pump wsX10_pump (zRm 2 47) (va_Pc [.ref m0, .int x, .int y] (zR g ct [zO m0 9 [.ref m1, .ref m2, .ref m3, .ref m4, .ref m5, .ref m6, .ref m7, .int (nI kp), .int fl, .int (nI tn), .ref m8, .int (nI pa), .int (nI rn), .ref m9], zL ct m1 108 n, zL ct m2 540 hy, zL ct m3 108 sl, zL ct m4 108 sp, zD ct m5 33 re, zD ct m6 165 rh, zD ct m7 33 rs, zC ct m8 60 tx, zI ct m9 17 rd])) (vp_Si (fun r => r = -1)) 0 0 (fun _ => False) := by
  refine z_read (cc := cX10_pump) (maxL := 3) (ret := some .int) (by decide) rfl (Nat.le_of_ble_eq_true rfl) ?_
  intro p e s m below meth c ls hx hb hr hml hts hown hlocks hP hK hl
  have hown : s.vm.findClass RX10 = some m.cls := hown
  have hl : lv_has ls 3 [(0, .ref m0), (1, .int x), (2, .int y)] := hl
  refine lv_aload_n hx hb dX10_pump_0 rfl (lv_at hl 0 rfl) ?_
  refine lv_iload_n hx hb dX10_pump_1 rfl (lv_at hl 1 rfl) ?_
  refine lv_bipush (v := 10) hx hb dX10_pump_2 (by decide) ?_
  refine z_cVi (wc := [zO m0 9 [.ref m1, .ref m2, .ref m3, .ref m4, .ref m5, .ref m6, .ref m7, .int (nI kp), .int fl, .int (nI tn), .ref m8, .int (nI pa), .int (nI rn), .ref m9], zL ct m1 108 n, zL ct m2 540 hy, zL ct m3 108 sl, zL ct m4 108 sp, zD ct m5 33 re, zD ct m6 165 rh, zD ct m7 33 rs, zC ct m8 60 tx, zI ct m9 17 rd]) (As := [.int x, .int 10]) (rest := []) ⟨hx, hb, hml, hown, hts⟩ hK hP [0, 1, 2, 3, 4, 5, 6, 7, 8, 9] rfl (c_X10_isNone l g ct m0 m1 m2 m3 m4 m5 m6 m7 m8 m9 n hy sl sp re rh rs kp fl tn tx pa rn rd x 10 (by omega)) (cwV 2 hts gX10_pump_X10_isNone rfl rfl rfl (by decide +kernel) ⟨Nat.le_of_ble_eq_true rfl, Nat.le_of_ble_eq_true rfl⟩) 0 rfl rfl rfl hl.1 rfl (Nat.le_of_ble_eq_true rfl) dX10_pump_4 ⟨Nat.zero_le _, Nat.zero_le _⟩ ?_
  refine z_bif_eq (P := (¬ inP x.toInt64 0 (n 10 - 1))) (tgt := 12) hx hb dX10_pump_7 (by decide) (fun c_1 => ?_) (fun c_1 => ?_)
  · exact absurd hact c_1
  · refine lv_iconst (v := (-1)) hx hb dX10_pump_10 (by decide) ?_
    exact z_iretR hx hb hr hlocks rfl rfl dX10_pump_11

set_option maxHeartbeats 4000000 in
set_option maxRecDepth 100000 in
theorem c_X10_pump_a (l : Launch) (g : va_G) (ct : Nat → ClassId) (m0 m1 m2 m3 m4 m5 m6 m7 m8 m9 : Nat) (n hy sl sp : Nat → Int64) (re rh rs : Nat → UInt64) (kp : Nat) (fl : Int32) (tn : Nat) (tx : Nat → Int32) (pa rn : Nat) (rd : Nat → Int32) (k : Nat) (hk : k < 6) (hinP : inP (nI k).toInt64 0 (n 10 - 1)) (x : Int32) : Met l yX10_pump wsX10_pump (zRm 3 67) (va_Pc [.ref m0, .int (nI k), .int x] (zR g ct [zO m0 9 [.ref m1, .ref m2, .ref m3, .ref m4, .ref m5, .ref m6, .ref m7, .int (nI kp), .int fl, .int (nI tn), .ref m8, .int (nI pa), .int (nI rn), .ref m9], zL ct m1 108 n, zL ct m2 540 hy, zL ct m3 108 sl, zL ct m4 108 sp, zD ct m5 33 re, zD ct m6 165 rh, zD ct m7 33 rs, zC ct m8 60 tx, zI ct m9 17 rd])) (vp_Si (fun r => r = if x = 0 then (n (84 + 4 * k + 0)).toInt32 else if x = 1 then (n (84 + 4 * k + 1)).toInt32 else if x = 2 then (n (84 + 4 * k + 2)).toInt32 else if x = 3 then if mrP n (mdr n k) k then 1 else 0 else if x = 4 then (n (84 + 4 * k + 3)).toInt32 else -2)) 0 0 (fun _ => False) := by
  refine z_read (cc := cX10_pump) (maxL := 3) (ret := some .int) (by decide) rfl (Nat.le_of_ble_eq_true rfl) ?_
  intro p e s m below meth c ls hx hb hr hml hts hown hlocks hP hK hl
  have hown : s.vm.findClass RX10 = some m.cls := hown
  have hl : lv_has ls 3 [(0, .ref m0), (1, .int (nI k)), (2, .int x)] := hl
  refine lv_aload_n hx hb dX10_pump_0 rfl (lv_at hl 0 rfl) ?_
  refine lv_iload_n hx hb dX10_pump_1 rfl (lv_at hl 1 rfl) ?_
  refine lv_bipush (v := 10) hx hb dX10_pump_2 (by decide) ?_
  refine z_cVi (wc := [zO m0 9 [.ref m1, .ref m2, .ref m3, .ref m4, .ref m5, .ref m6, .ref m7, .int (nI kp), .int fl, .int (nI tn), .ref m8, .int (nI pa), .int (nI rn), .ref m9], zL ct m1 108 n, zL ct m2 540 hy, zL ct m3 108 sl, zL ct m4 108 sp, zD ct m5 33 re, zD ct m6 165 rh, zD ct m7 33 rs, zC ct m8 60 tx, zI ct m9 17 rd]) (As := [.int (nI k), .int 10]) (rest := []) ⟨hx, hb, hml, hown, hts⟩ hK hP [0, 1, 2, 3, 4, 5, 6, 7, 8, 9] rfl (c_X10_isNone l g ct m0 m1 m2 m3 m4 m5 m6 m7 m8 m9 n hy sl sp re rh rs kp fl tn tx pa rn rd (nI k) 10 (by omega)) (cwV 2 hts gX10_pump_X10_isNone rfl rfl rfl (by decide +kernel) ⟨Nat.le_of_ble_eq_true rfl, Nat.le_of_ble_eq_true rfl⟩) 0 rfl rfl rfl hl.1 rfl (Nat.le_of_ble_eq_true rfl) dX10_pump_4 ⟨Nat.zero_le _, Nat.zero_le _⟩ ?_
  refine z_bif_eq (P := (¬ inP (nI k).toInt64 0 (n 10 - 1))) (tgt := 12) hx hb dX10_pump_7 (by decide) (fun c_1 => ?_) (fun c_1 => ?_)
  · refine lv_iload_n hx hb dX10_pump_12 rfl (lv_at hl 2 rfl) ?_
    by_cases e_2 : x = 0
    · subst e_2
      refine lv_tableIn (off := 35) (tgt := 48) hx hb dX10_pump_13 (by decide) (by decide) rfl (by decide) ?_
      refine lv_aload_n hx hb dX10_pump_48 rfl (lv_at hl 0 rfl) ?_
      refine lv_iload_n hx hb dX10_pump_49 rfl (lv_at hl 1 rfl) ?_
      refine lv_iload_n hx hb dX10_pump_50 rfl (lv_at hl 2 rfl) ?_
      refine z_cVi (wc := [zO m0 9 [.ref m1, .ref m2, .ref m3, .ref m4, .ref m5, .ref m6, .ref m7, .int (nI kp), .int fl, .int (nI tn), .ref m8, .int (nI pa), .int (nI rn), .ref m9], zL ct m1 108 n, zL ct m2 540 hy, zL ct m3 108 sl, zL ct m4 108 sp, zD ct m5 33 re, zD ct m6 165 rh, zD ct m7 33 rs, zC ct m8 60 tx, zI ct m9 17 rd]) (As := [.int (nI k), .int 0]) (rest := []) ⟨hx, hb, hml, hown, hts⟩ hK hP [0, 1, 2, 3, 4, 5, 6, 7, 8, 9] rfl (c_X10_ofPump l g ct m0 m1 m2 m3 m4 m5 m6 m7 m8 m9 n hy sl sp re rh rs kp fl tn tx pa rn rd k 0 (by omega) (by omega)) (cwV 2 hts gX10_pump_X10_ofPump rfl rfl rfl (by decide +kernel) ⟨Nat.le_of_ble_eq_true rfl, Nat.le_of_ble_eq_true rfl⟩) 0 rfl rfl rfl hl.1 rfl (Nat.le_of_ble_eq_true rfl) dX10_pump_51 ⟨Nat.zero_le _, Nat.zero_le _⟩ ?_
      exact z_iretR hx hb hr hlocks rfl rfl dX10_pump_54
    by_cases e_3 : x = 1
    · subst e_3
      refine lv_tableIn (off := 35) (tgt := 48) hx hb dX10_pump_13 (by decide) (by decide) rfl (by decide) ?_
      refine lv_aload_n hx hb dX10_pump_48 rfl (lv_at hl 0 rfl) ?_
      refine lv_iload_n hx hb dX10_pump_49 rfl (lv_at hl 1 rfl) ?_
      refine lv_iload_n hx hb dX10_pump_50 rfl (lv_at hl 2 rfl) ?_
      refine z_cVi (wc := [zO m0 9 [.ref m1, .ref m2, .ref m3, .ref m4, .ref m5, .ref m6, .ref m7, .int (nI kp), .int fl, .int (nI tn), .ref m8, .int (nI pa), .int (nI rn), .ref m9], zL ct m1 108 n, zL ct m2 540 hy, zL ct m3 108 sl, zL ct m4 108 sp, zD ct m5 33 re, zD ct m6 165 rh, zD ct m7 33 rs, zC ct m8 60 tx, zI ct m9 17 rd]) (As := [.int (nI k), .int 1]) (rest := []) ⟨hx, hb, hml, hown, hts⟩ hK hP [0, 1, 2, 3, 4, 5, 6, 7, 8, 9] rfl (c_X10_ofPump l g ct m0 m1 m2 m3 m4 m5 m6 m7 m8 m9 n hy sl sp re rh rs kp fl tn tx pa rn rd k 1 (by omega) (by omega)) (cwV 2 hts gX10_pump_X10_ofPump rfl rfl rfl (by decide +kernel) ⟨Nat.le_of_ble_eq_true rfl, Nat.le_of_ble_eq_true rfl⟩) 0 rfl rfl rfl hl.1 rfl (Nat.le_of_ble_eq_true rfl) dX10_pump_51 ⟨Nat.zero_le _, Nat.zero_le _⟩ ?_
      exact z_iretR hx hb hr hlocks rfl (by first | rfl | exact (if_pos e_2).symm | exact (if_neg e_2).symm | exact if_pos e_2 | exact if_neg e_2 | (simp [e_2])) dX10_pump_54
    by_cases e_4 : x = 2
    · subst e_4
      refine lv_tableIn (off := 35) (tgt := 48) hx hb dX10_pump_13 (by decide) (by decide) rfl (by decide) ?_
      refine lv_aload_n hx hb dX10_pump_48 rfl (lv_at hl 0 rfl) ?_
      refine lv_iload_n hx hb dX10_pump_49 rfl (lv_at hl 1 rfl) ?_
      refine lv_iload_n hx hb dX10_pump_50 rfl (lv_at hl 2 rfl) ?_
      refine z_cVi (wc := [zO m0 9 [.ref m1, .ref m2, .ref m3, .ref m4, .ref m5, .ref m6, .ref m7, .int (nI kp), .int fl, .int (nI tn), .ref m8, .int (nI pa), .int (nI rn), .ref m9], zL ct m1 108 n, zL ct m2 540 hy, zL ct m3 108 sl, zL ct m4 108 sp, zD ct m5 33 re, zD ct m6 165 rh, zD ct m7 33 rs, zC ct m8 60 tx, zI ct m9 17 rd]) (As := [.int (nI k), .int 2]) (rest := []) ⟨hx, hb, hml, hown, hts⟩ hK hP [0, 1, 2, 3, 4, 5, 6, 7, 8, 9] rfl (c_X10_ofPump l g ct m0 m1 m2 m3 m4 m5 m6 m7 m8 m9 n hy sl sp re rh rs kp fl tn tx pa rn rd k 2 (by omega) (by omega)) (cwV 2 hts gX10_pump_X10_ofPump rfl rfl rfl (by decide +kernel) ⟨Nat.le_of_ble_eq_true rfl, Nat.le_of_ble_eq_true rfl⟩) 0 rfl rfl rfl hl.1 rfl (Nat.le_of_ble_eq_true rfl) dX10_pump_51 ⟨Nat.zero_le _, Nat.zero_le _⟩ ?_
      exact z_iretR hx hb hr hlocks rfl (by first | rfl | exact (if_pos e_3).symm | exact (if_neg e_3).symm | exact if_pos e_3 | exact if_neg e_3 | (simp [e_2, e_3])) dX10_pump_54
    by_cases e_5 : x = 3
    · subst e_5
      refine lv_tableIn (off := 42) (tgt := 55) hx hb dX10_pump_13 (by decide) (by decide) rfl (by decide) ?_
      refine lv_aload_n hx hb dX10_pump_55 rfl (lv_at hl 0 rfl) ?_
      refine lv_iload_n hx hb dX10_pump_56 rfl (lv_at hl 1 rfl) ?_
      refine z_cVi (wc := [zO m0 9 [.ref m1, .ref m2, .ref m3, .ref m4, .ref m5, .ref m6, .ref m7, .int (nI kp), .int fl, .int (nI tn), .ref m8, .int (nI pa), .int (nI rn), .ref m9], zL ct m1 108 n, zL ct m2 540 hy, zL ct m3 108 sl, zL ct m4 108 sp, zD ct m5 33 re, zD ct m6 165 rh, zD ct m7 33 rs, zC ct m8 60 tx, zI ct m9 17 rd]) (As := [.int (nI k)]) (rest := []) ⟨hx, hb, hml, hown, hts⟩ hK hP [0, 1, 2, 3, 4, 5, 6, 7, 8, 9] rfl (c_X10_runs l g ct m0 m1 m2 m3 m4 m5 m6 m7 m8 m9 n hy sl sp re rh rs kp fl tn tx pa rn rd k (by omega)) (cwV 1 hts gX10_pump_X10_runs rfl rfl rfl (by decide +kernel) ⟨Nat.le_of_ble_eq_true rfl, Nat.le_of_ble_eq_true rfl⟩) 0 rfl rfl rfl hl.1 rfl (Nat.le_of_ble_eq_true rfl) dX10_pump_57 ⟨Nat.zero_le _, Nat.zero_le _⟩ ?_
      refine z_bif_eq (P := (mrP n (mdr n k) k)) (tgt := 67) hx hb dX10_pump_60 (by decide) (fun c_6 => ?_) (fun c_6 => ?_)
      · refine lv_iconst (v := 0) hx hb dX10_pump_67 (by decide) ?_
        exact z_iretR hx hb hr hlocks rfl (by first | rfl | exact (if_pos c_6).symm | exact (if_neg c_6).symm | exact if_pos c_6 | exact if_neg c_6 | (simp [e_2, e_3, e_4, c_6])) dX10_pump_68
      · refine lv_iconst (v := 1) hx hb dX10_pump_63 (by decide) ?_
        refine lv_goto (tgt := 68) hx hb dX10_pump_64 (by decide) ?_
        exact z_iretR hx hb hr hlocks rfl (by first | rfl | exact (if_pos c_6).symm | exact (if_neg c_6).symm | exact if_pos c_6 | exact if_neg c_6 | (simp [e_2, e_3, e_4, c_6])) dX10_pump_68
    by_cases e_7 : x = 4
    · subst e_7
      refine lv_tableIn (off := 56) (tgt := 69) hx hb dX10_pump_13 (by decide) (by decide) rfl (by decide) ?_
      refine lv_aload_n hx hb dX10_pump_69 rfl (lv_at hl 0 rfl) ?_
      refine lv_iload_n hx hb dX10_pump_70 rfl (lv_at hl 1 rfl) ?_
      refine lv_iconst (v := 3) hx hb dX10_pump_71 (by decide) ?_
      refine z_cVi (wc := [zO m0 9 [.ref m1, .ref m2, .ref m3, .ref m4, .ref m5, .ref m6, .ref m7, .int (nI kp), .int fl, .int (nI tn), .ref m8, .int (nI pa), .int (nI rn), .ref m9], zL ct m1 108 n, zL ct m2 540 hy, zL ct m3 108 sl, zL ct m4 108 sp, zD ct m5 33 re, zD ct m6 165 rh, zD ct m7 33 rs, zC ct m8 60 tx, zI ct m9 17 rd]) (As := [.int (nI k), .int 3]) (rest := []) ⟨hx, hb, hml, hown, hts⟩ hK hP [0, 1, 2, 3, 4, 5, 6, 7, 8, 9] rfl (c_X10_ofPump l g ct m0 m1 m2 m3 m4 m5 m6 m7 m8 m9 n hy sl sp re rh rs kp fl tn tx pa rn rd k 3 (by omega) (by omega)) (cwV 2 hts gX10_pump_X10_ofPump rfl rfl rfl (by decide +kernel) ⟨Nat.le_of_ble_eq_true rfl, Nat.le_of_ble_eq_true rfl⟩) 0 rfl rfl rfl hl.1 rfl (Nat.le_of_ble_eq_true rfl) dX10_pump_72 ⟨Nat.zero_le _, Nat.zero_le _⟩ ?_
      exact z_iretR hx hb hr hlocks rfl (by first | rfl | exact (if_pos e_5).symm | exact (if_neg e_5).symm | exact if_pos e_5 | exact if_neg e_5 | (simp [e_2, e_3, e_4, e_5])) dX10_pump_75
    refine lv_tableOut (tgt := 76) hx hb dX10_pump_13 (by have q0 : x.toInt ≠ 0 := fun q => e_2 (Int32.toInt_inj.mp (q.trans (by decide))); have q1 : x.toInt ≠ 1 := fun q => e_3 (Int32.toInt_inj.mp (q.trans (by decide))); have q2 : x.toInt ≠ 2 := fun q => e_4 (Int32.toInt_inj.mp (q.trans (by decide))); have q3 : x.toInt ≠ 3 := fun q => e_5 (Int32.toInt_inj.mp (q.trans (by decide))); have q4 : x.toInt ≠ 4 := fun q => e_7 (Int32.toInt_inj.mp (q.trans (by decide))); omega) (by decide) ?_
    refine lv_bipush (v := (-2)) hx hb dX10_pump_76 (by decide) ?_
    exact z_iretR hx hb hr hlocks rfl (by first | rfl | exact (if_pos e_7).symm | exact (if_neg e_7).symm | exact if_pos e_7 | exact if_neg e_7 | (simp [e_2, e_3, e_4, e_5, e_7])) dX10_pump_78
  · exact absurd (show inP (nI k).toInt64 0 (n 10 - 1) from hinP) c_1
