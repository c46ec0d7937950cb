set_option maxHeartbeats 4000000 in
set_option maxRecDepth 100000 in
theorem c_X10_count_a (l : Launch) (g : va_G) (ct : Nat → ClassId) (m0 m1 m2 m3 m4 m5 m6 m7 m8 m9 : Nat) (n hy sl sp : Nat → Int64) (re rh rs : Nat → UInt64) (kp : Nat) (fl : Int32) (tn : Nat) (tx : Nat → Int32) (pa rn : Nat) (rd : Nat → Int32) (nS : Nat) (hnS : nS ≤ 8) (hn7 : n 7 = lN nS) (nD : Nat) (hnD : nD ≤ 6) (hn8 : n 8 = lN nD) (x : Int32) : Met l yX10_count wsX10_count (zRm 3 66) (va_Pc [.ref m0, .int x] (zR g ct [zO m0 9 [.ref m1, .ref m2, .ref m3, .ref m4, .ref m5, .ref m6, .ref m7, .int (nI kp), .int fl, .int (nI tn), .ref m8, .int (nI pa), .int (nI rn), .ref m9], zL ct m1 108 n, zL ct m2 540 hy, zL ct m3 108 sl, zL ct m4 108 sp, zD ct m5 33 re, zD ct m6 165 rh, zD ct m7 33 rs, zC ct m8 60 tx, zI ct m9 17 rd])) (vp_Si (fun r => r = if x = 0 then (n 0).toInt32 else if x = 1 then (n 1).toInt32 else if x = 2 then if n 2 = 0 then -5 else (n 2).toInt32 - 1 else if x = 3 then mstI n 2 nS else if x = 4 then mstI n 4 nS else if x = 5 then mwcI n nD else if x = 6 then mwaI n nD else if x = 7 then (n 3).toInt32 else if x = 8 then (n 4).toInt32 else if x = 9 then (n 5).toInt32 else if x = 10 then (n 6).toInt32 else if x = 11 then (n 7).toInt32 else if x = 12 then (n 8).toInt32 else if x = 13 then (n 9).toInt32 else if x = 14 then (n 10).toInt32 else if x = 15 then nI kp else if x = 16 then nI tn else if x = 17 then (n 11).toInt32 else -2)) 0 0 (fun _ => False) := by
  refine z_read (cc := cX10_count) (maxL := 2) (ret := some .int) (by decide) rfl (Nat.le_of_ble_eq_true rfl) ?_
  intro p e s m below meth c ls hx hb hr hml hts hown hlocks hP hK hl
  have hown : s.vm.findClass RX10 = some m.cls := hown
  have hl : lv_has ls 2 [(0, .ref m0), (1, .int x)] := hl
  have hi_wsX100 : ∀ w ∈ wsX100, w ∈ wsX10_count := fun w h => List.mem_cons_of_mem _ (List.mem_append_right _ h)
  refine lv_iload_n hx hb dX10_count_0 rfl (lv_at hl 1 rfl) ?_
  by_cases e_1 : x = 0
  · subst e_1
    refine lv_tableIn (off := 87) (tgt := 88) hx hb dX10_count_1 (by decide) (by decide) rfl (by decide) ?_
    refine lv_aload_n hx hb dX10_count_88 rfl (lv_at hl 0 rfl) ?_
    refine lv_iload_n hx hb dX10_count_89 rfl (lv_at hl 1 rfl) ?_
    refine z_cVi (wc := [zO m0 9 [.ref m1, .ref m2, .ref m3, .ref m4, .ref m5, .ref m6, .ref m7, .int (nI kp), .int fl, .int (nI tn), .ref m8, .int (nI pa), .int (nI rn), .ref m9], zL ct m1 108 n, zL ct m2 540 hy, zL ct m3 108 sl, zL ct m4 108 sp, zD ct m5 33 re, zD ct m6 165 rh, zD ct m7 33 rs, zC ct m8 60 tx, zI ct m9 17 rd]) (As := [.int 0]) (rest := []) ⟨hx, hb, hml, hown, hts⟩ hK hP [0, 1, 2, 3, 4, 5, 6, 7, 8, 9] rfl (c_X10_cell l g ct m0 m1 m2 m3 m4 m5 m6 m7 m8 m9 n hy sl sp re rh rs kp fl tn tx pa rn rd 0 (by omega)) (cwV 1 hts gX10_count_X10_cell rfl rfl rfl (by decide +kernel) ⟨Nat.le_of_ble_eq_true rfl, Nat.le_of_ble_eq_true rfl⟩) 0 rfl rfl rfl hl.1 rfl (Nat.le_of_ble_eq_true rfl) dX10_count_90 ⟨Nat.zero_le _, Nat.zero_le _⟩ ?_
    exact z_iretR hx hb hr hlocks rfl rfl dX10_count_93
  by_cases e_2 : x = 1
  · subst e_2
    refine lv_tableIn (off := 87) (tgt := 88) hx hb dX10_count_1 (by decide) (by decide) rfl (by decide) ?_
    refine lv_aload_n hx hb dX10_count_88 rfl (lv_at hl 0 rfl) ?_
    refine lv_iload_n hx hb dX10_count_89 rfl (lv_at hl 1 rfl) ?_
    refine z_cVi (wc := [zO m0 9 [.ref m1, .ref m2, .ref m3, .ref m4, .ref m5, .ref m6, .ref m7, .int (nI kp), .int fl, .int (nI tn), .ref m8, .int (nI pa), .int (nI rn), .ref m9], zL ct m1 108 n, zL ct m2 540 hy, zL ct m3 108 sl, zL ct m4 108 sp, zD ct m5 33 re, zD ct m6 165 rh, zD ct m7 33 rs, zC ct m8 60 tx, zI ct m9 17 rd]) (As := [.int 1]) (rest := []) ⟨hx, hb, hml, hown, hts⟩ hK hP [0, 1, 2, 3, 4, 5, 6, 7, 8, 9] rfl (c_X10_cell l g ct m0 m1 m2 m3 m4 m5 m6 m7 m8 m9 n hy sl sp re rh rs kp fl tn tx pa rn rd 1 (by omega)) (cwV 1 hts gX10_count_X10_cell rfl rfl rfl (by decide +kernel) ⟨Nat.le_of_ble_eq_true rfl, Nat.le_of_ble_eq_true rfl⟩) 0 rfl rfl rfl hl.1 rfl (Nat.le_of_ble_eq_true rfl) dX10_count_90 ⟨Nat.zero_le _, Nat.zero_le _⟩ ?_
    exact z_iretR hx hb hr hlocks rfl (by first | rfl | exact (if_pos e_1).symm | exact (if_neg e_1).symm | (simp only [if_neg e_1])) dX10_count_93
  by_cases e_3 : x = 2
  · subst e_3
    refine lv_tableIn (off := 93) (tgt := 94) hx hb dX10_count_1 (by decide) (by decide) rfl (by decide) ?_
    refine lv_aload_n hx hb dX10_count_94 rfl (lv_at hl 0 rfl) ?_
    refine va_get (D := g) (ci := 9) (v := .ref m1) (C := RX10) (T := TX10) (N := 14) hx hb hts hi_wsX100 hown hK hP 0 rfl rfl 0 (by decide) (hts (.fieldLink RX10 7 "FloodBarrierModel" "now" "[J") (List.mem_of_getElem? (i := 1) rfl)) (fun _ h9 => h9) rfl dX10_count_95 ?_
    refine lv_iconst (v := 2) hx hb dX10_count_98 (by decide) ?_
    refine z_lald (ct := ct) (f := n) (k := 2) hx hb hK hP 1 rfl (by omega) (by decide) dX10_count_99 ?_
    refine lv_lconst (v := 0) hx hb dX10_count_100 (by decide) ?_
    refine z_lif_ne (tgt := 110) hx hb dX10_count_101 dX10_count_102 (by decide) (fun c_4 => ?_) (fun c_4 => ?_)
    · refine lv_aload_n hx hb dX10_count_110 rfl (lv_at hl 0 rfl) ?_
      refine lv_iconst (v := 2) hx hb dX10_count_111 (by decide) ?_
      refine z_cVi (wc := [zO m0 9 [.ref m1, .ref m2, .ref m3, .ref m4, .ref m5, .ref m6, .ref m7, .int (nI kp), .int fl, .int (nI tn), .ref m8, .int (nI pa), .int (nI rn), .ref m9], zL ct m1 108 n, zL ct m2 540 hy, zL ct m3 108 sl, zL ct m4 108 sp, zD ct m5 33 re, zD ct m6 165 rh, zD ct m7 33 rs, zC ct m8 60 tx, zI ct m9 17 rd]) (As := [.int 2]) (rest := []) ⟨hx, hb, hml, hown, hts⟩ hK hP [0, 1, 2, 3, 4, 5, 6, 7, 8, 9] rfl (c_X10_cell l g ct m0 m1 m2 m3 m4 m5 m6 m7 m8 m9 n hy sl sp re rh rs kp fl tn tx pa rn rd 2 (by omega)) (cwV 1 hts gX10_count_X10_cell rfl rfl rfl (by decide +kernel) ⟨Nat.le_of_ble_eq_true rfl, Nat.le_of_ble_eq_true rfl⟩) 0 rfl rfl rfl hl.1 rfl (Nat.le_of_ble_eq_true rfl) dX10_count_112 ⟨Nat.zero_le _, Nat.zero_le _⟩ ?_
      refine lv_iconst (v := 1) hx hb dX10_count_115 (by decide) ?_
      refine lv_isub hx hb dX10_count_116 ?_
      exact z_iretR hx hb hr hlocks rfl (by first | rfl | exact (if_pos c_4).symm | exact (if_neg c_4).symm | (simp only [if_neg e_1, if_neg e_2, if_neg c_4])) dX10_count_117
    · refine lv_bipush (v := (-5)) hx hb dX10_count_105 (by decide) ?_
      refine lv_goto (tgt := 117) hx hb dX10_count_107 (by decide) ?_
      exact z_iretR hx hb hr hlocks rfl (by first | rfl | exact (if_pos c_4).symm | exact (if_neg c_4).symm | (simp only [if_neg e_1, if_neg e_2, if_neg c_4])) dX10_count_117
  by_cases e_5 : x = 3
  · subst e_5
    refine lv_tableIn (off := 117) (tgt := 118) hx hb dX10_count_1 (by decide) (by decide) rfl (by decide) ?_
    refine lv_aload_n hx hb dX10_count_118 rfl (lv_at hl 0 rfl) ?_
    refine lv_iconst (v := 2) hx hb dX10_count_119 (by decide) ?_
    refine z_cVi (wc := [zO m0 9 [.ref m1, .ref m2, .ref m3, .ref m4, .ref m5, .ref m6, .ref m7, .int (nI kp), .int fl, .int (nI tn), .ref m8, .int (nI pa), .int (nI rn), .ref m9], zL ct m1 108 n, zL ct m2 540 hy, zL ct m3 108 sl, zL ct m4 108 sp, zD ct m5 33 re, zD ct m6 165 rh, zD ct m7 33 rs, zC ct m8 60 tx, zI ct m9 17 rd]) (As := [.int 2]) (rest := []) ⟨hx, hb, hml, hown, hts⟩ hK hP [0, 1, 2, 3, 4, 5, 6, 7, 8, 9] rfl (c_X10_inState l g ct m0 m1 m2 m3 m4 m5 m6 m7 m8 m9 n hy sl sp re rh rs kp fl tn tx pa rn rd 2 nS (by omega) hn7) (cwV 1 hts gX10_count_X10_inState rfl rfl rfl (by decide +kernel) ⟨Nat.le_of_ble_eq_true rfl, Nat.le_of_ble_eq_true rfl⟩) 0 rfl rfl rfl hl.1 rfl (Nat.le_of_ble_eq_true rfl) dX10_count_120 ⟨Nat.zero_le _, Nat.zero_le _⟩ ?_
    exact z_iretR hx hb hr hlocks rfl (by first | rfl | exact (if_pos e_3).symm | exact (if_neg e_3).symm | (simp only [if_neg e_1, if_neg e_2, if_neg e_3])) dX10_count_123
  by_cases e_6 : x = 4
  · subst e_6
    refine lv_tableIn (off := 123) (tgt := 124) hx hb dX10_count_1 (by decide) (by decide) rfl (by decide) ?_
    refine lv_aload_n hx hb dX10_count_124 rfl (lv_at hl 0 rfl) ?_
    refine lv_iconst (v := 4) hx hb dX10_count_125 (by decide) ?_
    refine z_cVi (wc := [zO m0 9 [.ref m1, .ref m2, .ref m3, .ref m4, .ref m5, .ref m6, .ref m7, .int (nI kp), .int fl, .int (nI tn), .ref m8, .int (nI pa), .int (nI rn), .ref m9], zL ct m1 108 n, zL ct m2 540 hy, zL ct m3 108 sl, zL ct m4 108 sp, zD ct m5 33 re, zD ct m6 165 rh, zD ct m7 33 rs, zC ct m8 60 tx, zI ct m9 17 rd]) (As := [.int 4]) (rest := []) ⟨hx, hb, hml, hown, hts⟩ hK hP [0, 1, 2, 3, 4, 5, 6, 7, 8, 9] rfl (c_X10_inState l g ct m0 m1 m2 m3 m4 m5 m6 m7 m8 m9 n hy sl sp re rh rs kp fl tn tx pa rn rd 4 nS (by omega) hn7) (cwV 1 hts gX10_count_X10_inState rfl rfl rfl (by decide +kernel) ⟨Nat.le_of_ble_eq_true rfl, Nat.le_of_ble_eq_true rfl⟩) 0 rfl rfl rfl hl.1 rfl (Nat.le_of_ble_eq_true rfl) dX10_count_126 ⟨Nat.zero_le _, Nat.zero_le _⟩ ?_
    exact z_iretR hx hb hr hlocks rfl (by first | rfl | exact (if_pos e_5).symm | exact (if_neg e_5).symm | (simp only [if_neg e_1, if_neg e_2, if_neg e_3, if_neg e_5])) dX10_count_129
  by_cases e_7 : x = 5
  · subst e_7
    refine lv_tableIn (off := 129) (tgt := 130) hx hb dX10_count_1 (by decide) (by decide) rfl (by decide) ?_
    refine lv_aload_n hx hb dX10_count_130 rfl (lv_at hl 0 rfl) ?_
    refine lv_iconst (v := 1) hx hb dX10_count_131 (by decide) ?_
    refine z_cVi (wc := [zO m0 9 [.ref m1, .ref m2, .ref m3, .ref m4, .ref m5, .ref m6, .ref m7, .int (nI kp), .int fl, .int (nI tn), .ref m8, .int (nI pa), .int (nI rn), .ref m9], zL ct m1 108 n, zL ct m2 540 hy, zL ct m3 108 sl, zL ct m4 108 sp, zD ct m5 33 re, zD ct m6 165 rh, zD ct m7 33 rs, zC ct m8 60 tx, zI ct m9 17 rd]) (As := [.int 1]) (rest := []) ⟨hx, hb, hml, hown, hts⟩ hK hP [0, 1, 2, 3, 4, 5, 6, 7, 8, 9] rfl (c_X10_weights1 l g ct m0 m1 m2 m3 m4 m5 m6 m7 m8 m9 n hy sl sp re rh rs kp fl tn tx pa rn rd nD (by omega) hn8) (cwV 1 hts gX10_count_X10_weights rfl rfl rfl (by decide +kernel) ⟨Nat.le_of_ble_eq_true rfl, Nat.le_of_ble_eq_true rfl⟩) 0 rfl rfl rfl hl.1 rfl (Nat.le_of_ble_eq_true rfl) dX10_count_132 ⟨Nat.zero_le _, Nat.zero_le _⟩ ?_
    exact z_iretR hx hb hr hlocks rfl (by first | rfl | exact (if_pos e_6).symm | exact (if_neg e_6).symm | (simp only [if_neg e_1, if_neg e_2, if_neg e_3, if_neg e_5, if_neg e_6])) dX10_count_135
  by_cases e_8 : x = 6
  · subst e_8
    refine lv_tableIn (off := 135) (tgt := 136) hx hb dX10_count_1 (by decide) (by decide) rfl (by decide) ?_
    refine lv_aload_n hx hb dX10_count_136 rfl (lv_at hl 0 rfl) ?_
    refine lv_iconst (v := 0) hx hb dX10_count_137 (by decide) ?_
    refine z_cVi (wc := [zO m0 9 [.ref m1, .ref m2, .ref m3, .ref m4, .ref m5, .ref m6, .ref m7, .int (nI kp), .int fl, .int (nI tn), .ref m8, .int (nI pa), .int (nI rn), .ref m9], zL ct m1 108 n, zL ct m2 540 hy, zL ct m3 108 sl, zL ct m4 108 sp, zD ct m5 33 re, zD ct m6 165 rh, zD ct m7 33 rs, zC ct m8 60 tx, zI ct m9 17 rd]) (As := [.int 0]) (rest := []) ⟨hx, hb, hml, hown, hts⟩ hK hP [0, 1, 2, 3, 4, 5, 6, 7, 8, 9] rfl (c_X10_weights0 l g ct m0 m1 m2 m3 m4 m5 m6 m7 m8 m9 n hy sl sp re rh rs kp fl tn tx pa rn rd nD (by omega) hn8) (cwV 1 hts gX10_count_X10_weights rfl rfl rfl (by decide +kernel) ⟨Nat.le_of_ble_eq_true rfl, Nat.le_of_ble_eq_true rfl⟩) 0 rfl rfl rfl hl.1 rfl (Nat.le_of_ble_eq_true rfl) dX10_count_138 ⟨Nat.zero_le _, Nat.zero_le _⟩ ?_
    exact z_iretR hx hb hr hlocks rfl (by first | rfl | exact (if_pos e_7).symm | exact (if_neg e_7).symm | (simp only [if_neg e_1, if_neg e_2, if_neg e_3, if_neg e_5, if_neg e_6, if_neg e_7])) dX10_count_141
  by_cases e_9 : x = 7
  · subst e_9
    refine lv_tableIn (off := 141) (tgt := 142) hx hb dX10_count_1 (by decide) (by decide) rfl (by decide) ?_
    refine lv_aload_n hx hb dX10_count_142 rfl (lv_at hl 0 rfl) ?_
    refine lv_iload_n hx hb dX10_count_143 rfl (lv_at hl 1 rfl) ?_
    refine lv_iconst (v := 4) hx hb dX10_count_144 (by decide) ?_
    refine lv_isub hx hb dX10_count_145 ?_
    rw [show (7 - 4 : Int32) = 3 from by decide]
    refine z_cVi (wc := [zO m0 9 [.ref m1, .ref m2, .ref m3, .ref m4, .ref m5, .ref m6, .ref m7, .int (nI kp), .int fl, .int (nI tn), .ref m8, .int (nI pa), .int (nI rn), .ref m9], zL ct m1 108 n, zL ct m2 540 hy, zL ct m3 108 sl, zL ct m4 108 sp, zD ct m5 33 re, zD ct m6 165 rh, zD ct m7 33 rs, zC ct m8 60 tx, zI ct m9 17 rd]) (As := [.int 3]) (rest := []) ⟨hx, hb, hml, hown, hts⟩ hK hP [0, 1, 2, 3, 4, 5, 6, 7, 8, 9] rfl (c_X10_cell l g ct m0 m1 m2 m3 m4 m5 m6 m7 m8 m9 n hy sl sp re rh rs kp fl tn tx pa rn rd 3 (by omega)) (cwV 1 hts gX10_count_X10_cell rfl rfl rfl (by decide +kernel) ⟨Nat.le_of_ble_eq_true rfl, Nat.le_of_ble_eq_true rfl⟩) 0 rfl rfl rfl hl.1 rfl (Nat.le_of_ble_eq_true rfl) dX10_count_146 ⟨Nat.zero_le _, Nat.zero_le _⟩ ?_
    exact z_iretR hx hb hr hlocks rfl (by first | rfl | exact (if_pos e_8).symm | exact (if_neg e_8).symm | (simp only [if_neg e_1, if_neg e_2, if_neg e_3, if_neg e_5, if_neg e_6, if_neg e_7, if_neg e_8])) dX10_count_149
  by_cases e_10 : x = 8
  · subst e_10
    refine lv_tableIn (off := 141) (tgt := 142) hx hb dX10_count_1 (by decide) (by decide) rfl (by decide) ?_
    refine lv_aload_n hx hb dX10_count_142 rfl (lv_at hl 0 rfl) ?_
    refine lv_iload_n hx hb dX10_count_143 rfl (lv_at hl 1 rfl) ?_
    refine lv_iconst (v := 4) hx hb dX10_count_144 (by decide) ?_
    refine lv_isub hx hb dX10_count_145 ?_
    rw [show (8 - 4 : Int32) = 4 from by decide]
    refine z_cVi (wc := [zO m0 9 [.ref m1, .ref m2, .ref m3, .ref m4, .ref m5, .ref m6, .ref m7, .int (nI kp), .int fl, .int (nI tn), .ref m8, .int (nI pa), .int (nI rn), .ref m9], zL ct m1 108 n, zL ct m2 540 hy, zL ct m3 108 sl, zL ct m4 108 sp, zD ct m5 33 re, zD ct m6 165 rh, zD ct m7 33 rs, zC ct m8 60 tx, zI ct m9 17 rd]) (As := [.int 4]) (rest := []) ⟨hx, hb, hml, hown, hts⟩ hK hP [0, 1, 2, 3, 4, 5, 6, 7, 8, 9] rfl (c_X10_cell l g ct m0 m1 m2 m3 m4 m5 m6 m7 m8 m9 n hy sl sp re rh rs kp fl tn tx pa rn rd 4 (by omega)) (cwV 1 hts gX10_count_X10_cell rfl rfl rfl (by decide +kernel) ⟨Nat.le_of_ble_eq_true rfl, Nat.le_of_ble_eq_true rfl⟩) 0 rfl rfl rfl hl.1 rfl (Nat.le_of_ble_eq_true rfl) dX10_count_146 ⟨Nat.zero_le _, Nat.zero_le _⟩ ?_
    exact z_iretR hx hb hr hlocks rfl (by first | rfl | exact (if_pos e_9).symm | exact (if_neg e_9).symm | (simp only [if_neg e_1, if_neg e_2, if_neg e_3, if_neg e_5, if_neg e_6, if_neg e_7, if_neg e_8, if_neg e_9])) dX10_count_149
  by_cases e_11 : x = 9
  · subst e_11
    refine lv_tableIn (off := 141) (tgt := 142) hx hb dX10_count_1 (by decide) (by decide) rfl (by decide) ?_
    refine lv_aload_n hx hb dX10_count_142 rfl (lv_at hl 0 rfl) ?_
    refine lv_iload_n hx hb dX10_count_143 rfl (lv_at hl 1 rfl) ?_
    refine lv_iconst (v := 4) hx hb dX10_count_144 (by decide) ?_
    refine lv_isub hx hb dX10_count_145 ?_
    rw [show (9 - 4 : Int32) = 5 from by decide]
    refine z_cVi (wc := [zO m0 9 [.ref m1, .ref m2, .ref m3, .ref m4, .ref m5, .ref m6, .ref m7, .int (nI kp), .int fl, .int (nI tn), .ref m8, .int (nI pa), .int (nI rn), .ref m9], zL ct m1 108 n, zL ct m2 540 hy, zL ct m3 108 sl, zL ct m4 108 sp, zD ct m5 33 re, zD ct m6 165 rh, zD ct m7 33 rs, zC ct m8 60 tx, zI ct m9 17 rd]) (As := [.int 5]) (rest := []) ⟨hx, hb, hml, hown, hts⟩ hK hP [0, 1, 2, 3, 4, 5, 6, 7, 8, 9] rfl (c_X10_cell l g ct m0 m1 m2 m3 m4 m5 m6 m7 m8 m9 n hy sl sp re rh rs kp fl tn tx pa rn rd 5 (by omega)) (cwV 1 hts gX10_count_X10_cell rfl rfl rfl (by decide +kernel) ⟨Nat.le_of_ble_eq_true rfl, Nat.le_of_ble_eq_true rfl⟩) 0 rfl rfl rfl hl.1 rfl (Nat.le_of_ble_eq_true rfl) dX10_count_146 ⟨Nat.zero_le _, Nat.zero_le _⟩ ?_
    exact z_iretR hx hb hr hlocks rfl (by first | rfl | exact (if_pos e_10).symm | exact (if_neg e_10).symm | (simp only [if_neg e_1, if_neg e_2, if_neg e_3, if_neg e_5, if_neg e_6, if_neg e_7, if_neg e_8, if_neg e_9, if_neg e_10])) dX10_count_149
  by_cases e_12 : x = 10
  · subst e_12
    refine lv_tableIn (off := 141) (tgt := 142) hx hb dX10_count_1 (by decide) (by decide) rfl (by decide) ?_
    refine lv_aload_n hx hb dX10_count_142 rfl (lv_at hl 0 rfl) ?_
    refine lv_iload_n hx hb dX10_count_143 rfl (lv_at hl 1 rfl) ?_
    refine lv_iconst (v := 4) hx hb dX10_count_144 (by decide) ?_
    refine lv_isub hx hb dX10_count_145 ?_
    rw [show (10 - 4 : Int32) = 6 from by decide]
    refine z_cVi (wc := [zO m0 9 [.ref m1, .ref m2, .ref m3, .ref m4, .ref m5, .ref m6, .ref m7, .int (nI kp), .int fl, .int (nI tn), .ref m8, .int (nI pa), .int (nI rn), .ref m9], zL ct m1 108 n, zL ct m2 540 hy, zL ct m3 108 sl, zL ct m4 108 sp, zD ct m5 33 re, zD ct m6 165 rh, zD ct m7 33 rs, zC ct m8 60 tx, zI ct m9 17 rd]) (As := [.int 6]) (rest := []) ⟨hx, hb, hml, hown, hts⟩ hK hP [0, 1, 2, 3, 4, 5, 6, 7, 8, 9] rfl (c_X10_cell l g ct m0 m1 m2 m3 m4 m5 m6 m7 m8 m9 n hy sl sp re rh rs kp fl tn tx pa rn rd 6 (by omega)) (cwV 1 hts gX10_count_X10_cell rfl rfl rfl (by decide +kernel) ⟨Nat.le_of_ble_eq_true rfl, Nat.le_of_ble_eq_true rfl⟩) 0 rfl rfl rfl hl.1 rfl (Nat.le_of_ble_eq_true rfl) dX10_count_146 ⟨Nat.zero_le _, Nat.zero_le _⟩ ?_
    exact z_iretR hx hb hr hlocks rfl (by first | rfl | exact (if_pos e_11).symm | exact (if_neg e_11).symm | (simp only [if_neg e_1, if_neg e_2, if_neg e_3, if_neg e_5, if_neg e_6, if_neg e_7, if_neg e_8, if_neg e_9, if_neg e_10, if_neg e_11])) dX10_count_149
  by_cases e_13 : x = 11
  · subst e_13
    refine lv_tableIn (off := 141) (tgt := 142) hx hb dX10_count_1 (by decide) (by decide) rfl (by decide) ?_
    refine lv_aload_n hx hb dX10_count_142 rfl (lv_at hl 0 rfl) ?_
    refine lv_iload_n hx hb dX10_count_143 rfl (lv_at hl 1 rfl) ?_
    refine lv_iconst (v := 4) hx hb dX10_count_144 (by decide) ?_
    refine lv_isub hx hb dX10_count_145 ?_
    rw [show (11 - 4 : Int32) = 7 from by decide]
    refine z_cVi (wc := [zO m0 9 [.ref m1, .ref m2, .ref m3, .ref m4, .ref m5, .ref m6, .ref m7, .int (nI kp), .int fl, .int (nI tn), .ref m8, .int (nI pa), .int (nI rn), .ref m9], zL ct m1 108 n, zL ct m2 540 hy, zL ct m3 108 sl, zL ct m4 108 sp, zD ct m5 33 re, zD ct m6 165 rh, zD ct m7 33 rs, zC ct m8 60 tx, zI ct m9 17 rd]) (As := [.int 7]) (rest := []) ⟨hx, hb, hml, hown, hts⟩ hK hP [0, 1, 2, 3, 4, 5, 6, 7, 8, 9] rfl (c_X10_cell l g ct m0 m1 m2 m3 m4 m5 m6 m7 m8 m9 n hy sl sp re rh rs kp fl tn tx pa rn rd 7 (by omega)) (cwV 1 hts gX10_count_X10_cell rfl rfl rfl (by decide +kernel) ⟨Nat.le_of_ble_eq_true rfl, Nat.le_of_ble_eq_true rfl⟩) 0 rfl rfl rfl hl.1 rfl (Nat.le_of_ble_eq_true rfl) dX10_count_146 ⟨Nat.zero_le _, Nat.zero_le _⟩ ?_
    exact z_iretR hx hb hr hlocks rfl (by first | rfl | exact (if_pos e_12).symm | exact (if_neg e_12).symm | (simp only [if_neg e_1, if_neg e_2, if_neg e_3, if_neg e_5, if_neg e_6, if_neg e_7, if_neg e_8, if_neg e_9, if_neg e_10, if_neg e_11, if_neg e_12])) dX10_count_149
  by_cases e_14 : x = 12
  · subst e_14
    refine lv_tableIn (off := 141) (tgt := 142) hx hb dX10_count_1 (by decide) (by decide) rfl (by decide) ?_
    refine lv_aload_n hx hb dX10_count_142 rfl (lv_at hl 0 rfl) ?_
    refine lv_iload_n hx hb dX10_count_143 rfl (lv_at hl 1 rfl) ?_
    refine lv_iconst (v := 4) hx hb dX10_count_144 (by decide) ?_
    refine lv_isub hx hb dX10_count_145 ?_
    rw [show (12 - 4 : Int32) = 8 from by decide]
    refine z_cVi (wc := [zO m0 9 [.ref m1, .ref m2, .ref m3, .ref m4, .ref m5, .ref m6, .ref m7, .int (nI kp), .int fl, .int (nI tn), .ref m8, .int (nI pa), .int (nI rn), .ref m9], zL ct m1 108 n, zL ct m2 540 hy, zL ct m3 108 sl, zL ct m4 108 sp, zD ct m5 33 re, zD ct m6 165 rh, zD ct m7 33 rs, zC ct m8 60 tx, zI ct m9 17 rd]) (As := [.int 8]) (rest := []) ⟨hx, hb, hml, hown, hts⟩ hK hP [0, 1, 2, 3, 4, 5, 6, 7, 8, 9] rfl (c_X10_cell l g ct m0 m1 m2 m3 m4 m5 m6 m7 m8 m9 n hy sl sp re rh rs kp fl tn tx pa rn rd 8 (by omega)) (cwV 1 hts gX10_count_X10_cell rfl rfl rfl (by decide +kernel) ⟨Nat.le_of_ble_eq_true rfl, Nat.le_of_ble_eq_true rfl⟩) 0 rfl rfl rfl hl.1 rfl (Nat.le_of_ble_eq_true rfl) dX10_count_146 ⟨Nat.zero_le _, Nat.zero_le _⟩ ?_
    exact z_iretR hx hb hr hlocks rfl (by first | rfl | exact (if_pos e_13).symm | exact (if_neg e_13).symm | (simp only [if_neg e_1, if_neg e_2, if_neg e_3, if_neg e_5, if_neg e_6, if_neg e_7, if_neg e_8, if_neg e_9, if_neg e_10, if_neg e_11, if_neg e_12, if_neg e_13])) dX10_count_149
  by_cases e_15 : x = 13
  · subst e_15
    refine lv_tableIn (off := 141) (tgt := 142) hx hb dX10_count_1 (by decide) (by decide) rfl (by decide) ?_
    refine lv_aload_n hx hb dX10_count_142 rfl (lv_at hl 0 rfl) ?_
    refine lv_iload_n hx hb dX10_count_143 rfl (lv_at hl 1 rfl) ?_
    refine lv_iconst (v := 4) hx hb dX10_count_144 (by decide) ?_
    refine lv_isub hx hb dX10_count_145 ?_
    rw [show (13 - 4 : Int32) = 9 from by decide]
    refine z_cVi (wc := [zO m0 9 [.ref m1, .ref m2, .ref m3, .ref m4, .ref m5, .ref m6, .ref m7, .int (nI kp), .int fl, .int (nI tn), .ref m8, .int (nI pa), .int (nI rn), .ref m9], zL ct m1 108 n, zL ct m2 540 hy, zL ct m3 108 sl, zL ct m4 108 sp, zD ct m5 33 re, zD ct m6 165 rh, zD ct m7 33 rs, zC ct m8 60 tx, zI ct m9 17 rd]) (As := [.int 9]) (rest := []) ⟨hx, hb, hml, hown, hts⟩ hK hP [0, 1, 2, 3, 4, 5, 6, 7, 8, 9] rfl (c_X10_cell l g ct m0 m1 m2 m3 m4 m5 m6 m7 m8 m9 n hy sl sp re rh rs kp fl tn tx pa rn rd 9 (by omega)) (cwV 1 hts gX10_count_X10_cell rfl rfl rfl (by decide +kernel) ⟨Nat.le_of_ble_eq_true rfl, Nat.le_of_ble_eq_true rfl⟩) 0 rfl rfl rfl hl.1 rfl (Nat.le_of_ble_eq_true rfl) dX10_count_146 ⟨Nat.zero_le _, Nat.zero_le _⟩ ?_
    exact z_iretR hx hb hr hlocks rfl (by first | rfl | exact (if_pos e_14).symm | exact (if_neg e_14).symm | (simp only [if_neg e_1, if_neg e_2, if_neg e_3, if_neg e_5, if_neg e_6, if_neg e_7, if_neg e_8, if_neg e_9, if_neg e_10, if_neg e_11, if_neg e_12, if_neg e_13, if_neg e_14])) dX10_count_149
  by_cases e_16 : x = 14
  · subst e_16
    refine lv_tableIn (off := 141) (tgt := 142) hx hb dX10_count_1 (by decide) (by decide) rfl (by decide) ?_
    refine lv_aload_n hx hb dX10_count_142 rfl (lv_at hl 0 rfl) ?_
    refine lv_iload_n hx hb dX10_count_143 rfl (lv_at hl 1 rfl) ?_
    refine lv_iconst (v := 4) hx hb dX10_count_144 (by decide) ?_
    refine lv_isub hx hb dX10_count_145 ?_
    rw [show (14 - 4 : Int32) = 10 from by decide]
    refine z_cVi (wc := [zO m0 9 [.ref m1, .ref m2, .ref m3, .ref m4, .ref m5, .ref m6, .ref m7, .int (nI kp), .int fl, .int (nI tn), .ref m8, .int (nI pa), .int (nI rn), .ref m9], zL ct m1 108 n, zL ct m2 540 hy, zL ct m3 108 sl, zL ct m4 108 sp, zD ct m5 33 re, zD ct m6 165 rh, zD ct m7 33 rs, zC ct m8 60 tx, zI ct m9 17 rd]) (As := [.int 10]) (rest := []) ⟨hx, hb, hml, hown, hts⟩ hK hP [0, 1, 2, 3, 4, 5, 6, 7, 8, 9] rfl (c_X10_cell l g ct m0 m1 m2 m3 m4 m5 m6 m7 m8 m9 n hy sl sp re rh rs kp fl tn tx pa rn rd 10 (by omega)) (cwV 1 hts gX10_count_X10_cell rfl rfl rfl (by decide +kernel) ⟨Nat.le_of_ble_eq_true rfl, Nat.le_of_ble_eq_true rfl⟩) 0 rfl rfl rfl hl.1 rfl (Nat.le_of_ble_eq_true rfl) dX10_count_146 ⟨Nat.zero_le _, Nat.zero_le _⟩ ?_
    exact z_iretR hx hb hr hlocks rfl (by first | rfl | exact (if_pos e_15).symm | exact (if_neg e_15).symm | (simp only [if_neg e_1, if_neg e_2, if_neg e_3, if_neg e_5, if_neg e_6, if_neg e_7, if_neg e_8, if_neg e_9, if_neg e_10, if_neg e_11, if_neg e_12, if_neg e_13, if_neg e_14, if_neg e_15])) dX10_count_149
  by_cases e_17 : x = 15
  · subst e_17
    refine lv_tableIn (off := 149) (tgt := 150) hx hb dX10_count_1 (by decide) (by decide) rfl (by decide) ?_
    refine lv_aload_n hx hb dX10_count_150 rfl (lv_at hl 0 rfl) ?_
    refine va_get (D := g) (ci := 9) (v := .int (nI kp)) (C := RX10) (T := TX10) (N := 14) hx hb hts hi_wsX100 hown hK hP 0 rfl rfl 7 (by decide) (hts (.fieldLink RX10 46 "FloodBarrierModel" "kept" "I") (List.mem_of_getElem? (i := 2) rfl)) (fun _ h9 => h9) rfl dX10_count_151 ?_
    exact z_iretR hx hb hr hlocks rfl (by first | rfl | exact (if_pos e_16).symm | exact (if_neg e_16).symm | (simp only [if_neg e_1, if_neg e_2, if_neg e_3, if_neg e_5, if_neg e_6, if_neg e_7, if_neg e_8, if_neg e_9, if_neg e_10, if_neg e_11, if_neg e_12, if_neg e_13, if_neg e_14, if_neg e_15, if_neg e_16])) dX10_count_154
  by_cases e_18 : x = 16
  · subst e_18
    refine lv_tableIn (off := 154) (tgt := 155) hx hb dX10_count_1 (by decide) (by decide) rfl (by decide) ?_
    refine lv_aload_n hx hb dX10_count_155 rfl (lv_at hl 0 rfl) ?_
    refine va_get (D := g) (ci := 9) (v := .int (nI tn)) (C := RX10) (T := TX10) (N := 14) hx hb hts hi_wsX100 hown hK hP 0 rfl rfl 9 (by decide) (hts (.fieldLink RX10 180 "FloodBarrierModel" "typed" "I") (List.mem_of_getElem? (i := 3) rfl)) (fun _ h9 => h9) rfl dX10_count_156 ?_
    exact z_iretR hx hb hr hlocks rfl (by first | rfl | exact (if_pos e_17).symm | exact (if_neg e_17).symm | (simp only [if_neg e_1, if_neg e_2, if_neg e_3, if_neg e_5, if_neg e_6, if_neg e_7, if_neg e_8, if_neg e_9, if_neg e_10, if_neg e_11, if_neg e_12, if_neg e_13, if_neg e_14, if_neg e_15, if_neg e_16, if_neg e_17])) dX10_count_159
  by_cases e_19 : x = 17
  · subst e_19
    refine lv_tableIn (off := 159) (tgt := 160) hx hb dX10_count_1 (by decide) (by decide) rfl (by decide) ?_
    refine lv_aload_n hx hb dX10_count_160 rfl (lv_at hl 0 rfl) ?_
    refine lv_bipush (v := 11) hx hb dX10_count_161 (by decide) ?_
    refine z_cVi (wc := [zO m0 9 [.ref m1, .ref m2, .ref m3, .ref m4, .ref m5, .ref m6, .ref m7, .int (nI kp), .int fl, .int (nI tn), .ref m8, .int (nI pa), .int (nI rn), .ref m9], zL ct m1 108 n, zL ct m2 540 hy, zL ct m3 108 sl, zL ct m4 108 sp, zD ct m5 33 re, zD ct m6 165 rh, zD ct m7 33 rs, zC ct m8 60 tx, zI ct m9 17 rd]) (As := [.int 11]) (rest := []) ⟨hx, hb, hml, hown, hts⟩ hK hP [0, 1, 2, 3, 4, 5, 6, 7, 8, 9] rfl (c_X10_cell l g ct m0 m1 m2 m3 m4 m5 m6 m7 m8 m9 n hy sl sp re rh rs kp fl tn tx pa rn rd 11 (by omega)) (cwV 1 hts gX10_count_X10_cell rfl rfl rfl (by decide +kernel) ⟨Nat.le_of_ble_eq_true rfl, Nat.le_of_ble_eq_true rfl⟩) 0 rfl rfl rfl hl.1 rfl (Nat.le_of_ble_eq_true rfl) dX10_count_163 ⟨Nat.zero_le _, Nat.zero_le _⟩ ?_
    exact z_iretR hx hb hr hlocks rfl (by first | rfl | exact (if_pos e_18).symm | exact (if_neg e_18).symm | (simp only [if_neg e_1, if_neg e_2, if_neg e_3, if_neg e_5, if_neg e_6, if_neg e_7, if_neg e_8, if_neg e_9, if_neg e_10, if_neg e_11, if_neg e_12, if_neg e_13, if_neg e_14, if_neg e_15, if_neg e_16, if_neg e_17, if_neg e_18])) dX10_count_166
  refine lv_tableOut (tgt := 167) hx hb dX10_count_1 (by have q0 : x.toInt ≠ 0 := fun q => e_1 (Int32.toInt_inj.mp (q.trans (by decide))); have q1 : x.toInt ≠ 1 := fun q => e_2 (Int32.toInt_inj.mp (q.trans (by decide))); have q2 : x.toInt ≠ 2 := fun q => e_3 (Int32.toInt_inj.mp (q.trans (by decide))); have q3 : x.toInt ≠ 3 := fun q => e_5 (Int32.toInt_inj.mp (q.trans (by decide))); have q4 : x.toInt ≠ 4 := fun q => e_6 (Int32.toInt_inj.mp (q.trans (by decide))); have q5 : x.toInt ≠ 5 := fun q => e_7 (Int32.toInt_inj.mp (q.trans (by decide))); have q6 : x.toInt ≠ 6 := fun q => e_8 (Int32.toInt_inj.mp (q.trans (by decide))); have q7 : x.toInt ≠ 7 := fun q => e_9 (Int32.toInt_inj.mp (q.trans (by decide))); have q8 : x.toInt ≠ 8 := fun q => e_10 (Int32.toInt_inj.mp (q.trans (by decide))); have q9 : x.toInt ≠ 9 := fun q => e_11 (Int32.toInt_inj.mp (q.trans (by decide))); have q10 : x.toInt ≠ 10 := fun q => e_12 (Int32.toInt_inj.mp (q.trans (by decide))); have q11 : x.toInt ≠ 11 := fun q => e_13 (Int32.toInt_inj.mp (q.trans (by decide))); have q12 : x.toInt ≠ 12 := fun q => e_14 (Int32.toInt_inj.mp (q.trans (by decide))); have q13 : x.toInt ≠ 13 := fun q => e_15 (Int32.toInt_inj.mp (q.trans (by decide))); have q14 : x.toInt ≠ 14 := fun q => e_16 (Int32.toInt_inj.mp (q.trans (by decide))); have q15 : x.toInt ≠ 15 := fun q => e_17 (Int32.toInt_inj.mp (q.trans (by decide))); have q16 : x.toInt ≠ 16 := fun q => e_18 (Int32.toInt_inj.mp (q.trans (by decide))); have q17 : x.toInt ≠ 17 := fun q => e_19 (Int32.toInt_inj.mp (q.trans (by decide))); omega) (by decide) ?_
  refine lv_bipush (v := (-2)) hx hb dX10_count_167 (by decide) ?_
  exact z_iretR hx hb hr hlocks rfl (by first | rfl | exact (if_pos e_19).symm | exact (if_neg e_19).symm | (simp only [if_neg e_1, if_neg e_2, if_neg e_3, if_neg e_5, if_neg e_6, if_neg e_7, if_neg e_8, if_neg e_9, if_neg e_10, if_neg e_11, if_neg e_12, if_neg e_13, if_neg e_14, if_neg e_15, if_neg e_16, if_neg e_17, if_neg e_18, if_neg e_19])) dX10_count_169

set_option maxHeartbeats 4000000 in
set_option maxRecDepth 100000 in
theorem c_X10_type_a (l : Launch) (g : va_G) (ct : Nat → ClassId) (m0 m1 m2 m3 m4 m5 m6 m7 m8 m9 : Nat) (n hy sl sp : Nat → Int64) (re rh rs : Nat → UInt64) (kp : Nat) (fl : Int32) (tn : Nat) (tx : Nat → Int32) (pa rn : Nat) (rd : Nat → Int32) (htn : tn ≤ 60) (hact : tn = 60) (y : Int32) : Met l yX10_type wsX10_type (zRm 0 0) (va_Pc [.ref m0, .int y] (zR g ct [zO m0 9 [.ref m1, .ref m2, .ref m3, .ref m4, .ref m5, .ref m6, .ref m7, .int (nI kp), .int fl, .int (nI tn), .ref m8, .int (nI pa), .int (nI rn), .ref m9], zL ct m1 108 n, zL ct m2 540 hy, zL ct m3 108 sl, zL ct m4 108 sp, zD ct m5 33 re, zD ct m6 165 rh, zD ct m7 33 rs, zC ct m8 60 tx, zI ct m9 17 rd])) (vp_Si (fun r => r = -3)) 0 0 (fun _ => False) := by
  refine z_read (cc := cX10_type) (maxL := 2) (ret := some .int) (by decide) rfl (Nat.le_of_ble_eq_true rfl) ?_
  intro p e s m below meth c ls hx hb hr hml hts hown hlocks hP hK hl
  have hown : s.vm.findClass RX10 = some m.cls := hown
  have hl : lv_has ls 2 [(0, .ref m0), (1, .int y)] := hl
  have hi_wsX100 : ∀ w ∈ wsX100, w ∈ wsX10_type := fun w h => List.mem_cons_of_mem _ (List.mem_append_right _ h)
  refine lv_aload_n hx hb dX10_type_0 rfl (lv_at hl 0 rfl) ?_
  refine va_get (D := g) (ci := 9) (v := .int (nI tn)) (C := RX10) (T := TX10) (N := 14) hx hb hts hi_wsX100 hown hK hP 0 rfl rfl 9 (by decide) (hts (.fieldLink RX10 180 "FloodBarrierModel" "typed" "I") (List.mem_of_getElem? (i := 1) rfl)) (fun _ h9 => h9) rfl dX10_type_1 ?_
  refine lv_bipush (v := 60) hx hb dX10_type_4 (by decide) ?_
  refine z_icN_ne (x := tn) (y := 60) (tgt := 12) hx hb (by omega) (by omega) dX10_type_6 (by decide) (fun c_1 => ?_) (fun c_1 => ?_)
  · exact absurd hact c_1
  · refine lv_bipush (v := (-3)) hx hb dX10_type_9 (by decide) ?_
    exact z_iretR hx hb hr hlocks rfl rfl dX10_type_11

set_option maxHeartbeats 4000000 in
set_option maxRecDepth 100000 in
theorem c_X10_type_b (l : Launch) (g : va_G) (ct : Nat → ClassId) (sz : Nat) (m0 m1 m2 m3 m4 m5 m6 m7 m8 m9 : Nat) (n hy sl sp : Nat → Int64) (re rh rs : Nat → UInt64) (kp : Nat) (fl : Int32) (tn : Nat) (tx : Nat → Int32) (pa rn : Nat) (rd : Nat → Int32) (htn : tn ≤ 60) (hact : ¬ tn = 60) (y : Int32) (hvy : vp_nar .char y = y) : Met l yX10_type wsX10_type (zRm 0 0) (va_Pc [.ref m0, .int y] (zW g ct [zO m0 9 [.ref m1, .ref m2, .ref m3, .ref m4, .ref m5, .ref m6, .ref m7, .int (nI kp), .int fl, .int (nI tn), .ref m8, .int (nI pa), .int (nI rn), .ref m9], zL ct m1 108 n, zL ct m2 540 hy, zL ct m3 108 sl, zL ct m4 108 sp, zD ct m5 33 re, zD ct m6 165 rh, zD ct m7 33 rs, zC ct m8 60 tx, zI ct m9 17 rd] sz)) (zQi g [zO m0 9 [.ref m1, .ref m2, .ref m3, .ref m4, .ref m5, .ref m6, .ref m7, .int (nI kp), .int fl, .int (nI (tn + 1)), .ref m8, .int (nI pa), .int (nI rn), .ref m9], zL ct m1 108 n, zL ct m2 540 hy, zL ct m3 108 sl, zL ct m4 108 sp, zD ct m5 33 re, zD ct m6 165 rh, zD ct m7 33 rs, zC ct m8 60 (upd tx tn y), zI ct m9 17 rd] (nI (tn + 1)) (va_A [zO m0 9 [.ref m1, .ref m2, .ref m3, .ref m4, .ref m5, .ref m6, .ref m7, .int (nI kp), .int fl, .int (nI tn), .ref m8, .int (nI pa), .int (nI rn), .ref m9], zL ct m1 108 n, zL ct m2 540 hy, zL ct m3 108 sl, zL ct m4 108 sp, zD ct m5 33 re, zD ct m6 165 rh, zD ct m7 33 rs, zC ct m8 60 tx, zI ct m9 17 rd] sz)) 0 0 (va_A [zO m0 9 [.ref m1, .ref m2, .ref m3, .ref m4, .ref m5, .ref m6, .ref m7, .int (nI kp), .int fl, .int (nI tn), .ref m8, .int (nI pa), .int (nI rn), .ref m9], zL ct m1 108 n, zL ct m2 540 hy, zL ct m3 108 sl, zL ct m4 108 sp, zD ct m5 33 re, zD ct m6 165 rh, zD ct m7 33 rs, zC ct m8 60 tx, zI ct m9 17 rd] sz) := by
  refine z_write (QA := zQi g [zO m0 9 [.ref m1, .ref m2, .ref m3, .ref m4, .ref m5, .ref m6, .ref m7, .int (nI kp), .int fl, .int (nI (tn + 1)), .ref m8, .int (nI pa), .int (nI rn), .ref m9], zL ct m1 108 n, zL ct m2 540 hy, zL ct m3 108 sl, zL ct m4 108 sp, zD ct m5 33 re, zD ct m6 165 rh, zD ct m7 33 rs, zC ct m8 60 (upd tx tn y), zI ct m9 17 rd] (nI (tn + 1))) (cc := cX10_type) (maxL := 2) (ret := some .int) (by decide) rfl (Nat.le_of_ble_eq_true rfl) ?_
  intro p e s m below meth c ls A hx hb hr hml hts hown hlocks hin hP hK hD hNW hA hS hl
  have hown : s.vm.findClass RX10 = some m.cls := hown
  have hl : lv_has ls 2 [(0, .ref m0), (1, .int y)] := hl
  have hi_wsX100 : ∀ w ∈ wsX100, w ∈ wsX10_type := fun w h => List.mem_cons_of_mem _ (List.mem_append_right _ h)
  refine lv_aload_n hx hb dX10_type_0 rfl (lv_at hl 0 rfl) ?_
  refine va_get (D := g) (ci := 9) (v := .int (nI tn)) (C := RX10) (T := TX10) (N := 14) hx hb hts hi_wsX100 hown hK hP 0 rfl rfl 9 (by decide) (hts (.fieldLink RX10 180 "FloodBarrierModel" "typed" "I") (List.mem_of_getElem? (i := 1) rfl)) (fun _ h9 => h9) rfl dX10_type_1 ?_
  refine lv_bipush (v := 60) hx hb dX10_type_4 (by decide) ?_
  refine z_icN_ne (x := tn) (y := 60) (tgt := 12) hx hb (by omega) (by omega) dX10_type_6 (by decide) (fun c_1 => ?_) (fun c_1 => ?_)
  · refine lv_aload_n hx hb dX10_type_12 rfl (lv_at hl 0 rfl) ?_
    refine va_get (D := g) (ci := 9) (v := .ref m8) (C := RX10) (T := TX10) (N := 14) hx hb hts hi_wsX100 hown hK hP 0 rfl rfl 10 (by decide) (hts (.fieldLink RX10 32 "FloodBarrierModel" "text" "[C") (List.mem_of_getElem? (i := 2) rfl)) (fun _ h9 => h9) rfl dX10_type_13 ?_
    refine lv_aload_n hx hb dX10_type_16 rfl (lv_at hl 0 rfl) ?_
    refine va_get (D := g) (ci := 9) (v := .int (nI tn)) (C := RX10) (T := TX10) (N := 14) hx hb hts hi_wsX100 hown hK hP 0 rfl rfl 9 (by decide) (hts (.fieldLink RX10 180 "FloodBarrierModel" "typed" "I") (List.mem_of_getElem? (i := 1) rfl)) (fun _ h9 => h9) rfl dX10_type_17 ?_
    refine lv_iload_n hx hb dX10_type_20 rfl (lv_at hl 1 rfl) ?_
    refine z_cast (ct := ct) (f := tx) (k := tn) (x := y) hx hb hK hP hD hS 8 rfl hvy (by omega) (by decide) dX10_type_21 (fun H locs hP hD hS => ?_)
    have hP : va_P g vwCl [zO m0 9 [.ref m1, .ref m2, .ref m3, .ref m4, .ref m5, .ref m6, .ref m7, .int (nI kp), .int fl, .int (nI tn), .ref m8, .int (nI pa), .int (nI rn), .ref m9], zL ct m1 108 n, zL ct m2 540 hy, zL ct m3 108 sl, zL ct m4 108 sp, zD ct m5 33 re, zD ct m6 165 rh, zD ct m7 33 rs, zC ct m8 60 (upd tx tn y), zI ct m9 17 rd] H := hP
    have hD : va_D A [zO m0 9 [.ref m1, .ref m2, .ref m3, .ref m4, .ref m5, .ref m6, .ref m7, .int (nI kp), .int fl, .int (nI tn), .ref m8, .int (nI pa), .int (nI rn), .ref m9], zL ct m1 108 n, zL ct m2 540 hy, zL ct m3 108 sl, zL ct m4 108 sp, zD ct m5 33 re, zD ct m6 165 rh, zD ct m7 33 rs, zC ct m8 60 (upd tx tn y), zI ct m9 17 rd] := hD
    refine lv_aload_n hx hb dX10_type_22 rfl (lv_at hl 0 rfl) ?_
    refine lv_dup hx hb dX10_type_23 rfl ?_
    refine va_get (D := g) (ci := 9) (v := .int (nI tn)) (C := RX10) (T := TX10) (N := 14) hx hb hts hi_wsX100 hown hK hP 0 rfl rfl 9 (by decide) (hts (.fieldLink RX10 180 "FloodBarrierModel" "typed" "I") (List.mem_of_getElem? (i := 1) rfl)) (fun _ h9 => h9) rfl dX10_type_24 ?_
    refine lv_iconst (v := 1) hx hb dX10_type_27 (by decide) ?_
    refine z_iaddN (x := tn) (y := 1) hx hb dX10_type_28 ?_
    refine va_put (D := g) (ci := 9) (v := .int (nI (tn + 1))) (C := RX10) (T := TX10) (N := 14) hx hb hts hi_wsX100 tyX10 tyX10_ok nmX10 hown hK hP hD hS 0 rfl rfl 9 (by decide) (hts (.fieldLink RX10 180 "FloodBarrierModel" "typed" "I") (List.mem_of_getElem? (i := 1) rfl)) (fun _ h9 => h9) rfl (tyX10_ok 9 (by decide)) rfl rfl (Nat.le_of_ble_eq_true rfl) dX10_type_29 (fun H locs hP hD hS => ?_)
    have hP : va_P g vwCl [zO m0 9 [.ref m1, .ref m2, .ref m3, .ref m4, .ref m5, .ref m6, .ref m7, .int (nI kp), .int fl, .int (nI (tn + 1)), .ref m8, .int (nI pa), .int (nI rn), .ref m9], zL ct m1 108 n, zL ct m2 540 hy, zL ct m3 108 sl, zL ct m4 108 sp, zD ct m5 33 re, zD ct m6 165 rh, zD ct m7 33 rs, zC ct m8 60 (upd tx tn y), zI ct m9 17 rd] H := hP
    have hD : va_D A [zO m0 9 [.ref m1, .ref m2, .ref m3, .ref m4, .ref m5, .ref m6, .ref m7, .int (nI kp), .int fl, .int (nI (tn + 1)), .ref m8, .int (nI pa), .int (nI rn), .ref m9], zL ct m1 108 n, zL ct m2 540 hy, zL ct m3 108 sl, zL ct m4 108 sp, zD ct m5 33 re, zD ct m6 165 rh, zD ct m7 33 rs, zC ct m8 60 (upd tx tn y), zI ct m9 17 rd] := hD
    refine lv_aload_n hx hb dX10_type_32 rfl (lv_at hl 0 rfl) ?_
    refine va_get (D := g) (ci := 9) (v := .int (nI (tn + 1))) (C := RX10) (T := TX10) (N := 14) hx hb hts hi_wsX100 hown hK hP 0 rfl rfl 9 (by decide) (hts (.fieldLink RX10 180 "FloodBarrierModel" "typed" "I") (List.mem_of_getElem? (i := 1) rfl)) (fun _ h9 => h9) rfl dX10_type_33 ?_
    exact z_iretW hx hb hr hlocks hS hP hD rfl rfl (Nat.le_refl _) (Nat.le_refl _) dX10_type_36
  · exact absurd c_1 hact

set_option maxHeartbeats 4000000 in
set_option maxRecDepth 100000 in
theorem c_X10_clearText_b (l : Launch) (g : va_G) (ct : Nat → ClassId) (sz : Nat) (m0 m1 m2 m3 m4 m5 m6 m7 m8 m9 : Nat) (n hy sl sp : Nat → Int64) (re rh rs : Nat → UInt64) (kp : Nat) (fl : Int32) (tn : Nat) (tx : Nat → Int32) (pa rn : Nat) (rd : Nat → Int32) : Met l yX10_clearText wsX10_clearText (zRm 0 0) (va_Pc [.ref m0] (zW g ct [zO m0 9 [.ref m1, .ref m2, .ref m3, .ref m4, .ref m5, .ref m6, .ref m7, .int (nI kp), .int fl, .int (nI tn), .ref m8, .int (nI pa), .int (nI rn), .ref m9], zL ct m1 108 n, zL ct m2 540 hy, zL ct m3 108 sl, zL ct m4 108 sp, zD ct m5 33 re, zD ct m6 165 rh, zD ct m7 33 rs, zC ct m8 60 tx, zI ct m9 17 rd] sz)) (zQi g [zO m0 9 [.ref m1, .ref m2, .ref m3, .ref m4, .ref m5, .ref m6, .ref m7, .int (nI kp), .int fl, .int 0, .ref m8, .int (nI pa), .int (nI rn), .ref m9], zL ct m1 108 n, zL ct m2 540 hy, zL ct m3 108 sl, zL ct m4 108 sp, zD ct m5 33 re, zD ct m6 165 rh, zD ct m7 33 rs, zC ct m8 60 tx, zI ct m9 17 rd] (nI tn) (va_A [zO m0 9 [.ref m1, .ref m2, .ref m3, .ref m4, .ref m5, .ref m6, .ref m7, .int (nI kp), .int fl, .int (nI tn), .ref m8, .int (nI pa), .int (nI rn), .ref m9], zL ct m1 108 n, zL ct m2 540 hy, zL ct m3 108 sl, zL ct m4 108 sp, zD ct m5 33 re, zD ct m6 165 rh, zD ct m7 33 rs, zC ct m8 60 tx, zI ct m9 17 rd] sz)) 0 0 (va_A [zO m0 9 [.ref m1, .ref m2, .ref m3, .ref m4, .ref m5, .ref m6, .ref m7, .int (nI kp), .int fl, .int (nI tn), .ref m8, .int (nI pa), .int (nI rn), .ref m9], zL ct m1 108 n, zL ct m2 540 hy, zL ct m3 108 sl, zL ct m4 108 sp, zD ct m5 33 re, zD ct m6 165 rh, zD ct m7 33 rs, zC ct m8 60 tx, zI ct m9 17 rd] sz) := by
  refine z_write (QA := zQi g [zO m0 9 [.ref m1, .ref m2, .ref m3, .ref m4, .ref m5, .ref m6, .ref m7, .int (nI kp), .int fl, .int 0, .ref m8, .int (nI pa), .int (nI rn), .ref m9], zL ct m1 108 n, zL ct m2 540 hy, zL ct m3 108 sl, zL ct m4 108 sp, zD ct m5 33 re, zD ct m6 165 rh, zD ct m7 33 rs, zC ct m8 60 tx, zI ct m9 17 rd] (nI tn)) (cc := cX10_clearText) (maxL := 2) (ret := some .int) (by decide) rfl (Nat.le_of_ble_eq_true rfl) ?_
  intro p e s m below meth c ls A hx hb hr hml hts hown hlocks hin hP hK hD hNW hA hS hl
  have hown : s.vm.findClass RX10 = some m.cls := hown
  have hl : lv_has ls 2 [(0, .ref m0)] := hl
  have hi_wsX100 : ∀ w ∈ wsX100, w ∈ wsX10_clearText := fun w h => List.mem_cons_of_mem _ (List.mem_append_right _ h)
  refine lv_aload_n hx hb dX10_clearText_0 rfl (lv_at hl 0 rfl) ?_
  refine va_get (D := g) (ci := 9) (v := .int (nI tn)) (C := RX10) (T := TX10) (N := 14) hx hb hts hi_wsX100 hown hK hP 0 rfl rfl 9 (by decide) (hts (.fieldLink RX10 180 "FloodBarrierModel" "typed" "I") (List.mem_of_getElem? (i := 1) rfl)) (fun _ h9 => h9) rfl dX10_clearText_1 ?_
  refine lv_istore_n (lv' := [(1, .int (nI tn)), (0, .ref m0)]) hx hb dX10_clearText_4 rfl hl (by decide) rfl (fun ls hl => ?_)
  refine lv_aload_n hx hb dX10_clearText_5 rfl (lv_at hl 1 rfl) ?_
  refine lv_iconst (v := 0) hx hb dX10_clearText_6 (by decide) ?_
  refine va_put (D := g) (ci := 9) (v := .int 0) (C := RX10) (T := TX10) (N := 14) hx hb hts hi_wsX100 tyX10 tyX10_ok nmX10 hown hK hP hD hS 0 rfl rfl 9 (by decide) (hts (.fieldLink RX10 180 "FloodBarrierModel" "typed" "I") (List.mem_of_getElem? (i := 1) rfl)) (fun _ h9 => h9) rfl (tyX10_ok 9 (by decide)) rfl rfl (Nat.le_of_ble_eq_true rfl) dX10_clearText_7 (fun H locs hP hD hS => ?_)
  have hP : va_P g vwCl [zO m0 9 [.ref m1, .ref m2, .ref m3, .ref m4, .ref m5, .ref m6, .ref m7, .int (nI kp), .int fl, .int 0, .ref m8, .int (nI pa), .int (nI rn), .ref m9], zL ct m1 108 n, zL ct m2 540 hy, zL ct m3 108 sl, zL ct m4 108 sp, zD ct m5 33 re, zD ct m6 165 rh, zD ct m7 33 rs, zC ct m8 60 tx, zI ct m9 17 rd] H := hP
  have hD : va_D A [zO m0 9 [.ref m1, .ref m2, .ref m3, .ref m4, .ref m5, .ref m6, .ref m7, .int (nI kp), .int fl, .int 0, .ref m8, .int (nI pa), .int (nI rn), .ref m9], zL ct m1 108 n, zL ct m2 540 hy, zL ct m3 108 sl, zL ct m4 108 sp, zD ct m5 33 re, zD ct m6 165 rh, zD ct m7 33 rs, zC ct m8 60 tx, zI ct m9 17 rd] := hD
  refine lv_iload_n hx hb dX10_clearText_10 rfl (lv_at hl 0 rfl) ?_
  exact z_iretW hx hb hr hlocks hS hP hD rfl rfl (Nat.le_refl _) (Nat.le_refl _) dX10_clearText_11
