set_option maxHeartbeats 4000000 in
set_option maxRecDepth 100000 in
theorem c_X8_isDigit (l : Launch) (v : Int32) : Met l yX8_isDigit wsX8_isDigit (zRm 0 0) (va_Pc [.int v] (fun _ => True)) (vp_Si (fun r => r = if dgP v then 1 else 0)) 0 0 (fun _ => False) := by
  refine z_stat (cc := cX8_isDigit) (maxL := 1) (ret := some .boolean) (by decide) rfl (Nat.le_of_ble_eq_true rfl) ?_
  intro p e s m below meth c ls hx hb hr hml hts hown hlocks hl
  have hown : s.vm.findClass RX8 = some m.cls := hown
  have hl : lv_has ls 1 [(0, .int v)] := hl
  refine lv_iload_n hx hb dX8_isDigit_0 rfl (lv_at hl 0 rfl) ?_
  refine lv_bipush (v := 48) hx hb dX8_isDigit_1 (by decide) ?_
  refine lv_icmp_lt (tgt := 16) hx hb dX8_isDigit_3 (by decide) (fun c_1 => ?_) (fun c_1 => ?_)
  · refine lv_iconst (v := 0) hx hb dX8_isDigit_16 (by decide) ?_
    exact z_zretR hx hb hr hlocks rfl rfl (by simp [c_1]) dX8_isDigit_17
  · refine lv_iload_n hx hb dX8_isDigit_6 rfl (lv_at hl 0 rfl) ?_
    refine lv_bipush (v := 57) hx hb dX8_isDigit_7 (by decide) ?_
    refine lv_icmp_gt (tgt := 16) hx hb dX8_isDigit_9 (by decide) (fun c_2 => ?_) (fun c_2 => ?_)
    · refine lv_iconst (v := 0) hx hb dX8_isDigit_16 (by decide) ?_
      exact z_zretR hx hb hr hlocks rfl rfl (by simp [c_1, c_2]) dX8_isDigit_17
    · refine lv_iconst (v := 1) hx hb dX8_isDigit_12 (by decide) ?_
      refine lv_goto (tgt := 17) hx hb dX8_isDigit_13 (by decide) ?_
      exact z_zretR hx hb hr hlocks rfl rfl (by simp [c_1, c_2]) dX8_isDigit_17

set_option maxHeartbeats 4000000 in
set_option maxRecDepth 100000 in
theorem c_X8_placeBehind (l : Launch) (q v : Int32) : Met l yX8_placeBehind wsX8_placeBehind (zRm 1 20) (va_Pc [.int q, .int v] (fun _ => True)) (vp_Si (fun r => r = plB q v)) 0 0 (fun _ => False) := by
  refine z_stat (cc := cX8_placeBehind) (maxL := 2) (ret := some .int) (by decide) rfl (Nat.le_of_ble_eq_true rfl) ?_
  intro p e s m below meth c ls hx hb hr hml hts hown hlocks hl
  have hown : s.vm.findClass RX8 = some m.cls := hown
  have hl : lv_has ls 2 [(0, .int q), (1, .int v)] := hl
  refine lv_iload_n hx hb dX8_placeBehind_0 rfl (lv_at hl 0 rfl) ?_
  by_cases e_1 : q = 0
  · subst e_1
    refine lv_tableIn (off := 31) (tgt := 32) hx hb dX8_placeBehind_1 (by decide) (by decide) rfl (by decide) ?_
    refine lv_iload_n hx hb dX8_placeBehind_32 rfl (lv_at hl 1 rfl) ?_
    refine lv_bipush (v := 45) hx hb dX8_placeBehind_33 (by decide) ?_
    refine lv_icmp_ne (tgt := 40) hx hb dX8_placeBehind_35 (by decide) (fun c_2 => ?_) (fun c_2 => ?_)
    · refine lv_iload_n hx hb dX8_placeBehind_40 rfl (lv_at hl 1 rfl) ?_
      refine z_cSi (As := [.int v]) (rest := []) ⟨hx, hb, hml, hown, hts⟩ (c_X8_isDigit l v) (va_cwS 1 hts gX8_placeBehind_X8_isDigit rfl rfl rfl (by decide +kernel) ⟨Nat.le_of_ble_eq_true rfl, Nat.le_of_ble_eq_true rfl⟩) rfl hl.1 rfl (Nat.le_of_ble_eq_true rfl) dX8_placeBehind_41 ⟨Nat.zero_le _, Nat.zero_le _⟩ ?_
      refine z_bif_eq (P := (dgP v)) (tgt := 51) hx hb dX8_placeBehind_44 (by decide) (fun c_3 => ?_) (fun c_3 => ?_)
      · refine lv_bipush (v := (-5)) hx hb dX8_placeBehind_51 (by decide) ?_
        exact z_iretR hx hb hr hlocks rfl (by simp [plB, c_2, c_3]) dX8_placeBehind_53
      · refine lv_iconst (v := 2) hx hb dX8_placeBehind_47 (by decide) ?_
        refine lv_goto (tgt := 53) hx hb dX8_placeBehind_48 (by decide) ?_
        exact z_iretR hx hb hr hlocks rfl (by simp [plB, c_2, c_3]) dX8_placeBehind_53
    · refine lv_iconst (v := 1) hx hb dX8_placeBehind_38 (by decide) ?_
      exact z_iretR hx hb hr hlocks rfl (by simp [plB, c_2]) dX8_placeBehind_39
  by_cases e_4 : q = 1
  · subst e_4
    refine lv_tableIn (off := 53) (tgt := 54) hx hb dX8_placeBehind_1 (by decide) (by decide) rfl (by decide) ?_
    refine lv_iload_n hx hb dX8_placeBehind_54 rfl (lv_at hl 1 rfl) ?_
    refine z_cSi (As := [.int v]) (rest := []) ⟨hx, hb, hml, hown, hts⟩ (c_X8_isDigit l v) (va_cwS 1 hts gX8_placeBehind_X8_isDigit rfl rfl rfl (by decide +kernel) ⟨Nat.le_of_ble_eq_true rfl, Nat.le_of_ble_eq_true rfl⟩) rfl hl.1 rfl (Nat.le_of_ble_eq_true rfl) dX8_placeBehind_55 ⟨Nat.zero_le _, Nat.zero_le _⟩ ?_
    refine z_bif_eq (P := (dgP v)) (tgt := 65) hx hb dX8_placeBehind_58 (by decide) (fun c_5 => ?_) (fun c_5 => ?_)
    · refine lv_bipush (v := (-5)) hx hb dX8_placeBehind_65 (by decide) ?_
      exact z_iretR hx hb hr hlocks rfl (by simp [plB, e_1, c_5]) dX8_placeBehind_67
    · refine lv_iconst (v := 2) hx hb dX8_placeBehind_61 (by decide) ?_
      refine lv_goto (tgt := 67) hx hb dX8_placeBehind_62 (by decide) ?_
      exact z_iretR hx hb hr hlocks rfl (by simp [plB, e_1, c_5]) dX8_placeBehind_67
  by_cases e_6 : q = 2
  · subst e_6
    refine lv_tableIn (off := 67) (tgt := 68) hx hb dX8_placeBehind_1 (by decide) (by decide) rfl (by decide) ?_
    refine lv_iload_n hx hb dX8_placeBehind_68 rfl (lv_at hl 1 rfl) ?_
    refine lv_bipush (v := 46) hx hb dX8_placeBehind_69 (by decide) ?_
    refine lv_icmp_ne (tgt := 78) hx hb dX8_placeBehind_71 (by decide) (fun c_7 => ?_) (fun c_7 => ?_)
    · refine lv_bipush (v := (-5)) hx hb dX8_placeBehind_78 (by decide) ?_
      exact z_iretR hx hb hr hlocks rfl (by simp [plB, e_1, e_4, c_7]) dX8_placeBehind_80
    · refine lv_iconst (v := 3) hx hb dX8_placeBehind_74 (by decide) ?_
      refine lv_goto (tgt := 80) hx hb dX8_placeBehind_75 (by decide) ?_
      exact z_iretR hx hb hr hlocks rfl (by simp [plB, e_1, e_4, c_7]) dX8_placeBehind_80
  by_cases e_8 : q = 3
  · subst e_8
    refine lv_tableIn (off := 80) (tgt := 81) hx hb dX8_placeBehind_1 (by decide) (by decide) rfl (by decide) ?_
    refine lv_iload_n hx hb dX8_placeBehind_81 rfl (lv_at hl 1 rfl) ?_
    refine z_cSi (As := [.int v]) (rest := []) ⟨hx, hb, hml, hown, hts⟩ (c_X8_isDigit l v) (va_cwS 1 hts gX8_placeBehind_X8_isDigit rfl rfl rfl (by decide +kernel) ⟨Nat.le_of_ble_eq_true rfl, Nat.le_of_ble_eq_true rfl⟩) rfl hl.1 rfl (Nat.le_of_ble_eq_true rfl) dX8_placeBehind_82 ⟨Nat.zero_le _, Nat.zero_le _⟩ ?_
    refine z_bif_eq (P := (dgP v)) (tgt := 92) hx hb dX8_placeBehind_85 (by decide) (fun c_9 => ?_) (fun c_9 => ?_)
    · refine lv_bipush (v := (-5)) hx hb dX8_placeBehind_92 (by decide) ?_
      exact z_iretR hx hb hr hlocks rfl (by simp [plB, e_1, e_4, e_6, c_9]) dX8_placeBehind_94
    · refine lv_iconst (v := 4) hx hb dX8_placeBehind_88 (by decide) ?_
      refine lv_goto (tgt := 94) hx hb dX8_placeBehind_89 (by decide) ?_
      exact z_iretR hx hb hr hlocks rfl (by simp [plB, e_1, e_4, e_6, c_9]) dX8_placeBehind_94
  refine lv_tableOut (tgt := 95) hx hb dX8_placeBehind_1 (by have q0 : q.toInt ≠ 0 := fun q => e_1 (Int32.toInt_inj.mp (q.trans (by decide))); have q1 : q.toInt ≠ 1 := fun q => e_4 (Int32.toInt_inj.mp (q.trans (by decide))); have q2 : q.toInt ≠ 2 := fun q => e_6 (Int32.toInt_inj.mp (q.trans (by decide))); have q3 : q.toInt ≠ 3 := fun q => e_8 (Int32.toInt_inj.mp (q.trans (by decide))); omega) (by decide) ?_
  refine lv_iload_n hx hb dX8_placeBehind_95 rfl (lv_at hl 1 rfl) ?_
  refine lv_bipush (v := 44) hx hb dX8_placeBehind_96 (by decide) ?_
  refine lv_icmp_ne (tgt := 105) hx hb dX8_placeBehind_98 (by decide) (fun c_10 => ?_) (fun c_10 => ?_)
  · refine lv_bipush (v := (-5)) hx hb dX8_placeBehind_105 (by decide) ?_
    exact z_iretR hx hb hr hlocks rfl (by simp [plB, e_1, e_4, e_6, e_8, c_10]) dX8_placeBehind_107
  · refine lv_iconst (v := 0) hx hb dX8_placeBehind_101 (by decide) ?_
    refine lv_goto (tgt := 107) hx hb dX8_placeBehind_102 (by decide) ?_
    exact z_iretR hx hb hr hlocks rfl (by simp [plB, e_1, e_4, e_6, e_8, c_10]) dX8_placeBehind_107

set_option maxHeartbeats 4000000 in
set_option maxRecDepth 100000 in
theorem c_X8_fault (l : Launch) (g : va_G) (ct : Nat → ClassId) (x0 x1 x2 : Nat) (len : Nat) (ch te : Nat → Int32) (lv : Nat) (hn : len ≤ 60) : Met l yX8_fault wsX8_fault (zRm 2 41) (va_Pc [.ref x0] (zR g ct [zO x0 7 [.int (nI len), .ref x1, .ref x2, .int (nI lv)], zC ct x1 60 ch, zI ct x2 15 te])) (vp_Si (fun r => r = ftI ch len)) 0 0 (fun _ => False) := by
  refine z_read (cc := cX8_fault) (maxL := 3) (ret := some .int) (by decide) rfl (Nat.le_of_ble_eq_true rfl) ?_
  intro p e s m below meth c ls hx hb hr hml hts hown hlocks hP hK hl
  have hown : s.vm.findClass RX8 = some m.cls := hown
  have hl : lv_has ls 3 [(0, .ref x0)] := hl
  have hi_wsX80 : ∀ w ∈ wsX80, w ∈ wsX8_fault := fun w h => List.mem_cons_of_mem _ (List.mem_append_right _ h)
  refine lv_iconst (v := 0) hx hb dX8_fault_0 (by decide) ?_
  refine lv_istore_n (lv' := [(1, .int 0), (0, .ref x0)]) hx hb dX8_fault_1 rfl hl (by decide) rfl (fun ls hl => ?_)
  refine lv_iconst (v := 0) hx hb dX8_fault_2 (by decide) ?_
  refine lv_istore_n (lv' := [(2, .int 0), (1, .int 0), (0, .ref x0)]) hx hb dX8_fault_3 rfl hl (by decide) rfl (fun ls hl => ?_)
  refine z_loop len (fun k1 H2 locs2 ls => H2 = s.heap ∧ locs2 = [] ∧ (∀ j, j < k1 → ¬ (plK ch (j + 1) = -5)) ∧ lv_has ls 3 [(0, .ref x0), (1, .int (plK ch k1)), (2, .int (nI k1))]) ⟨rfl, rfl, (fun j hj => absurd hj (Nat.not_lt_zero j)), lv_sub hl [2, 1, 0] rfl⟩ ?_
  intro k1 H2 locs2 ls hkk1 hI ihk1
  obtain ⟨rfl, rfl, hN, hl⟩ := hI
  refine lv_iload_n hx hb dX8_fault_4 rfl (lv_at hl 2 rfl) ?_
  refine lv_aload_n hx hb dX8_fault_5 rfl (lv_at hl 0 rfl) ?_
  refine va_get (D := g) (ci := 7) (v := .int (nI len)) (C := RX8) (T := TX8) (N := 4) hx hb hts hi_wsX80 hown hK hP 0 rfl rfl 0 (by decide) (hts (.fieldLink RX8 19 "FloodBarrier$TideText" "length" "I") (List.mem_of_getElem? (i := 1) rfl)) (fun _ h9 => h9) rfl dX8_fault_6 ?_
  refine z_icN_ge (x := k1) (y := len) (tgt := 37) hx hb (by omega) (by omega) dX8_fault_9 (by decide) (fun c_1 => ?_) (fun c_1 => ?_)
  · have hkn : len = k1 := by omega
    subst hkn
    refine lv_iload_n hx hb dX8_fault_37 rfl (lv_at hl 1 rfl) ?_
    refine lv_iconst (v := 4) hx hb dX8_fault_38 (by decide) ?_
    refine lv_icmp_ne (tgt := 47) hx hb dX8_fault_39 (by decide) (fun c_2 => ?_) (fun c_2 => ?_)
    · refine lv_aload_n hx hb dX8_fault_47 rfl (lv_at hl 0 rfl) ?_
      refine va_get (D := g) (ci := 7) (v := .int (nI len)) (C := RX8) (T := TX8) (N := 4) hx hb hts hi_wsX80 hown hK hP 0 rfl rfl 0 (by decide) (hts (.fieldLink RX8 19 "FloodBarrier$TideText" "length" "I") (List.mem_of_getElem? (i := 1) rfl)) (fun _ h9 => h9) rfl dX8_fault_48 ?_
      exact z_iretR hx hb hr hlocks rfl (ftI_n hN c_2) dX8_fault_51
    · refine lv_bipush (v := (-5)) hx hb dX8_fault_42 (by decide) ?_
      refine lv_goto (tgt := 51) hx hb dX8_fault_44 (by decide) ?_
      exact z_iretR hx hb hr hlocks rfl (ftI_4 hN c_2) dX8_fault_51
  · refine lv_iload_n hx hb dX8_fault_12 rfl (lv_at hl 1 rfl) ?_
    refine lv_aload_n hx hb dX8_fault_13 rfl (lv_at hl 0 rfl) ?_
    refine va_get (D := g) (ci := 7) (v := .ref x1) (C := RX8) (T := TX8) (N := 4) hx hb hts hi_wsX80 hown hK hP 0 rfl rfl 1 (by decide) (hts (.fieldLink RX8 11 "FloodBarrier$TideText" "characters" "[C") (List.mem_of_getElem? (i := 2) rfl)) (fun _ h9 => h9) rfl dX8_fault_14 ?_
    refine lv_iload_n hx hb dX8_fault_17 rfl (lv_at hl 2 rfl) ?_
    refine z_cald (ct := ct) (f := ch) (k := k1) hx hb hK hP 1 rfl (by omega) (by decide) dX8_fault_18 ?_
    refine z_cSi (As := [.int (plK ch k1), .int (ch k1)]) (rest := []) ⟨hx, hb, hml, hown, hts⟩ (c_X8_placeBehind l (plK ch k1) (ch k1)) (va_cwS 2 hts gX8_fault_X8_placeBehind rfl rfl rfl (by decide +kernel) ⟨Nat.le_of_ble_eq_true rfl, Nat.le_of_ble_eq_true rfl⟩) rfl hl.1 rfl (Nat.le_of_ble_eq_true rfl) dX8_fault_19 ⟨Nat.zero_le _, Nat.zero_le _⟩ ?_
    refine lv_istore_n (lv' := [(1, .int (plB (plK ch k1) (ch k1))), (0, .ref x0), (2, .int (nI k1))]) hx hb dX8_fault_22 rfl hl (by decide) rfl (fun ls hl => ?_)
    refine lv_iload_n hx hb dX8_fault_23 rfl (lv_at hl 0 rfl) ?_
    refine lv_bipush (v := (-5)) hx hb dX8_fault_24 (by decide) ?_
    refine lv_icmp_ne (tgt := 31) hx hb dX8_fault_26 (by decide) (fun c_3 => ?_) (fun c_3 => ?_)
    · refine lv_iinc (v := nI (k1 + 1)) (lv' := [(2, .int (nI (k1 + 1))), (1, .int (plB (plK ch k1) (ch k1))), (0, .ref x0)]) hx hb dX8_fault_31 hl (k := 2) rfl (nI_add k1 1) (by decide) rfl (fun ls hl => ?_)
      refine lv_goto (tgt := 4) hx hb dX8_fault_34 (by decide) ?_
      exact ihk1 _ _ _ (by omega) ⟨rfl, rfl, (lt_s hN (show ¬ plK ch (k1 + 1) = -5 from c_3)), (by first | exact lv_sub hl [2, 1, 0] rfl | (simp only [lp_s, plK_s, if_pos c_1, if_neg c_3]; exact lv_sub hl [2, 1, 0] rfl))⟩
    · refine lv_iload_n hx hb dX8_fault_29 rfl (lv_at hl 2 rfl) ?_
      exact z_iretR hx hb hr hlocks rfl (ftI_some c_1 hN c_3) dX8_fault_30

set_option maxHeartbeats 4000000 in
set_option maxRecDepth 100000 in
theorem c_X8_addLevel (l : Launch) (g : va_G) (ct : Nat → ClassId) (sz : Nat) (x0 x1 x2 : Nat) (len : Nat) (ch te : Nat → Int32) (lv : Nat) (hlv : lv ≤ 15) (v : Int32) : Met l yX8_addLevel wsX8_addLevel (zRm 0 0) (va_Pc [.ref x0, .int v] (zW g ct [zO x0 7 [.int (nI len), .ref x1, .ref x2, .int (nI lv)], zC ct x1 60 ch, zI ct x2 15 te] sz)) (zQv g [zO x0 7 [.int (nI len), .ref x1, .ref x2, .int (nI ((adL v (te, lv)).2))], zC ct x1 60 ch, zI ct x2 15 ((adL v (te, lv)).1)] (va_A [zO x0 7 [.int (nI len), .ref x1, .ref x2, .int (nI lv)], zC ct x1 60 ch, zI ct x2 15 te] sz)) 0 0 (va_A [zO x0 7 [.int (nI len), .ref x1, .ref x2, .int (nI lv)], zC ct x1 60 ch, zI ct x2 15 te] sz) := by
  refine z_write (QA := zQv g [zO x0 7 [.int (nI len), .ref x1, .ref x2, .int (nI ((adL v (te, lv)).2))], zC ct x1 60 ch, zI ct x2 15 ((adL v (te, lv)).1)]) (cc := cX8_addLevel) (maxL := 2) (ret := none) (by decide) rfl (Nat.le_of_ble_eq_true rfl) ?_
  intro p e s m below meth c ls A hx hb hr hml hts hown hlocks hin hP hK hD hNW hA hS hl
  have hown : s.vm.findClass RX8 = some m.cls := hown
  have hl : lv_has ls 2 [(0, .ref x0), (1, .int v)] := hl
  have hi_wsX80 : ∀ w ∈ wsX80, w ∈ wsX8_addLevel := fun w h => List.mem_cons_of_mem _ (List.mem_append_right _ h)
  refine lv_aload_n hx hb dX8_addLevel_0 rfl (lv_at hl 0 rfl) ?_
  refine va_get (D := g) (ci := 7) (v := .int (nI lv)) (C := RX8) (T := TX8) (N := 4) hx hb hts hi_wsX80 hown hK hP 0 rfl rfl 3 (by decide) (hts (.fieldLink RX8 31 "FloodBarrier$TideText" "levels" "I") (List.mem_of_getElem? (i := 1) rfl)) (fun _ h9 => h9) rfl dX8_addLevel_1 ?_
  refine lv_bipush (v := 15) hx hb dX8_addLevel_4 (by decide) ?_
  refine z_icN_ge (x := lv) (y := 15) (tgt := 29) hx hb (by omega) (by omega) dX8_addLevel_6 (by decide) (fun c_1 => ?_) (fun c_1 => ?_)
  · exact z_vretW hx hb hr hlocks hS hP hD (by simp only [adL, if_neg c_1]) (Nat.le_refl _) (Nat.le_refl _) dX8_addLevel_29
  · refine lv_aload_n hx hb dX8_addLevel_9 rfl (lv_at hl 0 rfl) ?_
    refine va_get (D := g) (ci := 7) (v := .ref x2) (C := RX8) (T := TX8) (N := 4) hx hb hts hi_wsX80 hown hK hP 0 rfl rfl 2 (by decide) (hts (.fieldLink RX8 15 "FloodBarrier$TideText" "tenths" "[I") (List.mem_of_getElem? (i := 2) rfl)) (fun _ h9 => h9) rfl dX8_addLevel_10 ?_
    refine lv_aload_n hx hb dX8_addLevel_13 rfl (lv_at hl 0 rfl) ?_
    refine va_get (D := g) (ci := 7) (v := .int (nI lv)) (C := RX8) (T := TX8) (N := 4) hx hb hts hi_wsX80 hown hK hP 0 rfl rfl 3 (by decide) (hts (.fieldLink RX8 31 "FloodBarrier$TideText" "levels" "I") (List.mem_of_getElem? (i := 1) rfl)) (fun _ h9 => h9) rfl dX8_addLevel_14 ?_
    refine lv_iload_n hx hb dX8_addLevel_17 rfl (lv_at hl 1 rfl) ?_
    refine z_iast (ct := ct) (f := te) (k := lv) (x := v) hx hb hK hP hD hS 2 rfl (by omega) (by decide) dX8_addLevel_18 (fun H locs hP hD hS => ?_)
    have hP : va_P g vwCl [zO x0 7 [.int (nI len), .ref x1, .ref x2, .int (nI lv)], zC ct x1 60 ch, zI ct x2 15 (upd te lv v)] H := hP
    have hD : va_D A [zO x0 7 [.int (nI len), .ref x1, .ref x2, .int (nI lv)], zC ct x1 60 ch, zI ct x2 15 (upd te lv v)] := hD
    refine lv_aload_n hx hb dX8_addLevel_19 rfl (lv_at hl 0 rfl) ?_
    refine lv_dup hx hb dX8_addLevel_20 rfl ?_
    refine va_get (D := g) (ci := 7) (v := .int (nI lv)) (C := RX8) (T := TX8) (N := 4) hx hb hts hi_wsX80 hown hK hP 0 rfl rfl 3 (by decide) (hts (.fieldLink RX8 31 "FloodBarrier$TideText" "levels" "I") (List.mem_of_getElem? (i := 1) rfl)) (fun _ h9 => h9) rfl dX8_addLevel_21 ?_
    refine lv_iconst (v := 1) hx hb dX8_addLevel_24 (by decide) ?_
    refine z_iaddN (x := lv) (y := 1) hx hb dX8_addLevel_25 ?_
    refine va_put (D := g) (ci := 7) (v := .int (nI (lv + 1))) (C := RX8) (T := TX8) (N := 4) hx hb hts hi_wsX80 tyX8 tyX8_ok nmX8 hown hK hP hD hS 0 rfl rfl 3 (by decide) (hts (.fieldLink RX8 31 "FloodBarrier$TideText" "levels" "I") (List.mem_of_getElem? (i := 1) rfl)) (fun _ h9 => h9) rfl (tyX8_ok 3 (by decide)) rfl rfl (Nat.le_of_ble_eq_true rfl) dX8_addLevel_26 (fun H locs hP hD hS => ?_)
    have hP : va_P g vwCl [zO x0 7 [.int (nI len), .ref x1, .ref x2, .int (nI (lv + 1))], zC ct x1 60 ch, zI ct x2 15 (upd te lv v)] H := hP
    have hD : va_D A [zO x0 7 [.int (nI len), .ref x1, .ref x2, .int (nI (lv + 1))], zC ct x1 60 ch, zI ct x2 15 (upd te lv v)] := hD
    exact z_vretW hx hb hr hlocks hS hP hD (by simp only [adL, if_pos c_1]) (Nat.le_refl _) (Nat.le_refl _) dX8_addLevel_29

set_option maxHeartbeats 4000000 in
set_option maxRecDepth 100000 in
theorem c_X8_readTenths (l : Launch) (g : va_G) (ct : Nat → ClassId) (sz : Nat) (x0 x1 x2 : Nat) (len : Nat) (ch te : Nat → Int32) (lv : Nat) (hn : len ≤ 60) : Met l yX8_readTenths wsX8_readTenths (zRm 1 21) (va_Pc [.ref x0] (zW g ct [zO x0 7 [.int (nI len), .ref x1, .ref x2, .int (nI lv)], zC ct x1 60 ch, zI ct x2 15 te] sz)) (zQi g [zO x0 7 [.int (nI len), .ref x1, .ref x2, .int (nI ((rtE ch te len).2))], zC ct x1 60 ch, zI ct x2 15 ((rtE ch te len).1)] (nI (rtE ch te len).2) (va_A [zO x0 7 [.int (nI len), .ref x1, .ref x2, .int (nI lv)], zC ct x1 60 ch, zI ct x2 15 te] sz)) 0 0 (va_A [zO x0 7 [.int (nI len), .ref x1, .ref x2, .int (nI lv)], zC ct x1 60 ch, zI ct x2 15 te] sz) := by
  refine z_write (QA := zQi g [zO x0 7 [.int (nI len), .ref x1, .ref x2, .int (nI ((rtE ch te len).2))], zC ct x1 60 ch, zI ct x2 15 ((rtE ch te len).1)] (nI (rtE ch te len).2)) (cc := cX8_readTenths) (maxL := 5) (ret := some .int) (by decide) rfl (Nat.le_of_ble_eq_true rfl) ?_
  intro p e s m below meth c ls A hx hb hr hml hts hown hlocks hin hP hK hD hNW hA hS hl
  have hown : s.vm.findClass RX8 = some m.cls := hown
  have hl : lv_has ls 5 [(0, .ref x0)] := hl
  have hi_wsX80 : ∀ w ∈ wsX80, w ∈ wsX8_readTenths := fun w h => List.mem_cons_of_mem _ (List.mem_append_right _ h)
  refine lv_aload_n hx hb dX8_readTenths_0 rfl (lv_at hl 0 rfl) ?_
  refine lv_iconst (v := 0) hx hb dX8_readTenths_1 (by decide) ?_
  refine va_put (D := g) (ci := 7) (v := .int 0) (C := RX8) (T := TX8) (N := 4) hx hb hts hi_wsX80 tyX8 tyX8_ok nmX8 hown hK hP hD hS 0 rfl rfl 3 (by decide) (hts (.fieldLink RX8 31 "FloodBarrier$TideText" "levels" "I") (List.mem_of_getElem? (i := 1) rfl)) (fun _ h9 => h9) rfl (tyX8_ok 3 (by decide)) rfl rfl (Nat.le_of_ble_eq_true rfl) dX8_readTenths_2 (fun H locs hP hD hS => ?_)
  have hP : va_P g vwCl [zO x0 7 [.int (nI len), .ref x1, .ref x2, .int 0], zC ct x1 60 ch, zI ct x2 15 te] H := hP
  have hD : va_D A [zO x0 7 [.int (nI len), .ref x1, .ref x2, .int 0], zC ct x1 60 ch, zI ct x2 15 te] := hD
  refine lv_iconst (v := 0) hx hb dX8_readTenths_5 (by decide) ?_
  refine lv_istore_n (lv' := [(1, .int 0), (0, .ref x0)]) hx hb dX8_readTenths_6 rfl hl (by decide) rfl (fun ls hl => ?_)
  refine lv_iconst (v := 0) hx hb dX8_readTenths_7 (by decide) ?_
  refine lv_istore_n (lv' := [(2, .int 0), (1, .int 0), (0, .ref x0)]) hx hb dX8_readTenths_8 rfl hl (by decide) rfl (fun ls hl => ?_)
  refine lv_iconst (v := 0) hx hb dX8_readTenths_9 (by decide) ?_
  refine lv_istore_n (lv' := [(3, .int 0), (2, .int 0), (1, .int 0), (0, .ref x0)]) hx hb dX8_readTenths_10 rfl hl (by decide) rfl (fun ls hl => ?_)
  refine z_loop len (fun k1 H locs ls => va_P g vwCl [zO x0 7 [.int (nI len), .ref x1, .ref x2, .int (nI ((lp (rtS ch) k1 (0, 0, te, 0)).2.2.2))], zC ct x1 60 ch, zI ct x2 15 ((lp (rtS ch) k1 (0, 0, te, 0)).2.2.1)] H ∧ va_D A [zO x0 7 [.int (nI len), .ref x1, .ref x2, .int (nI ((lp (rtS ch) k1 (0, 0, te, 0)).2.2.2))], zC ct x1 60 ch, zI ct x2 15 ((lp (rtS ch) k1 (0, 0, te, 0)).2.2.1)] ∧ va_S A s.heap H locs ∧ lv_has ls 5 [(0, .ref x0), (1, .int ((lp (rtS ch) k1 (0, 0, te, 0)).1)), (2, .int ((lp (rtS ch) k1 (0, 0, te, 0)).2.1)), (3, .int (nI k1))]) ⟨hP, hD, hS, lv_sub hl [3, 2, 1, 0] rfl⟩ ?_
  intro k1 H locs ls hkk1 hI ihk1
  obtain ⟨hP, hD, hS, hl⟩ := hI
  have hB := rt_le ch te k1
  refine lv_iload_n hx hb dX8_readTenths_11 rfl (lv_at hl 3 rfl) ?_
  refine lv_aload_n hx hb dX8_readTenths_12 rfl (lv_at hl 0 rfl) ?_
  refine va_get (D := g) (ci := 7) (v := .int (nI len)) (C := RX8) (T := TX8) (N := 4) hx hb hts hi_wsX80 hown hK hP 0 rfl rfl 0 (by decide) (hts (.fieldLink RX8 19 "FloodBarrier$TideText" "length" "I") (List.mem_of_getElem? (i := 2) rfl)) (fun _ h9 => h9) rfl dX8_readTenths_13 ?_
  refine z_icN_ge (x := k1) (y := len) (tgt := 92) hx hb (by omega) (by omega) dX8_readTenths_16 (by decide) (fun c_1 => ?_) (fun c_1 => ?_)
  · have hkn : len = k1 := by omega
    subst hkn
    refine lv_aload_n hx hb dX8_readTenths_92 rfl (lv_at hl 0 rfl) ?_
    refine lv_iload_n hx hb dX8_readTenths_93 rfl (lv_at hl 2 rfl) ?_
    refine lv_if_eq (tgt := 102) hx hb dX8_readTenths_94 (by decide) (fun c_2 => ?_) (fun c_2 => ?_)
    · refine lv_iload_n hx hb dX8_readTenths_102 rfl (lv_at hl 1 rfl) ?_
      refine z_wVv (wc := [zO x0 7 [.int (nI len), .ref x1, .ref x2, .int (nI ((lp (rtS ch) len (0, 0, te, 0)).2.2.2))], zC ct x1 60 ch, zI ct x2 15 ((lp (rtS ch) len (0, 0, te, 0)).2.2.1)]) (wr := []) (w2 := [zO x0 7 [.int (nI len), .ref x1, .ref x2, .int (nI ((adL ((lp (rtS ch) len (0, 0, te, 0)).1) (((lp (rtS ch) len (0, 0, te, 0)).2.2.1), ((lp (rtS ch) len (0, 0, te, 0)).2.2.2))).2))], zC ct x1 60 ch, zI ct x2 15 ((adL ((lp (rtS ch) len (0, 0, te, 0)).1) (((lp (rtS ch) len (0, 0, te, 0)).2.2.1), ((lp (rtS ch) len (0, 0, te, 0)).2.2.2))).1)]) (As := [.int ((lp (rtS ch) len (0, 0, te, 0)).1)]) (rest := []) ⟨hx, hb, hml, hown, hts⟩ hK hP hD hS hNW hA [0, 1, 2] [] [0, 1, 2] rfl rfl rfl rfl rfl rfl (by decide) (c_X8_addLevel l g ct _ x0 x1 x2 len ch ((lp (rtS ch) len (0, 0, te, 0)).2.2.1) ((lp (rtS ch) len (0, 0, te, 0)).2.2.2) (by omega) ((lp (rtS ch) len (0, 0, te, 0)).1)) (cwV 1 hts gX8_readTenths_X8_addLevel rfl rfl rfl (by decide +kernel) ⟨Nat.le_of_ble_eq_true rfl, Nat.le_of_ble_eq_true rfl⟩) 0 rfl rfl rfl hl.1 rfl (Nat.le_of_ble_eq_true rfl) dX8_readTenths_103 ⟨Nat.zero_le _, Nat.zero_le _⟩ (fun H locs hP hD hS => ?_)
      refine lv_aload_n hx hb dX8_readTenths_106 rfl (lv_at hl 0 rfl) ?_
      refine va_get (D := g) (ci := 7) (v := .int (nI ((adL ((lp (rtS ch) len (0, 0, te, 0)).1) (((lp (rtS ch) len (0, 0, te, 0)).2.2.1), ((lp (rtS ch) len (0, 0, te, 0)).2.2.2))).2))) (C := RX8) (T := TX8) (N := 4) hx hb hts hi_wsX80 hown hK hP 0 rfl rfl 3 (by decide) (hts (.fieldLink RX8 31 "FloodBarrier$TideText" "levels" "I") (List.mem_of_getElem? (i := 1) rfl)) (fun _ h9 => h9) rfl dX8_readTenths_107 ?_
      exact z_iretW hx hb hr hlocks hS hP hD (by simp only [rtE, if_neg c_1, if_pos c_2]) (by simp only [rtE, if_neg c_1, if_pos c_2]) (Nat.le_refl _) (Nat.le_refl _) dX8_readTenths_110
    · refine lv_iload_n hx hb dX8_readTenths_97 rfl (lv_at hl 1 rfl) ?_
      refine lv_ineg hx hb dX8_readTenths_98 ?_
      refine lv_goto (tgt := 103) hx hb dX8_readTenths_99 (by decide) ?_
      refine z_wVv (wc := [zO x0 7 [.int (nI len), .ref x1, .ref x2, .int (nI ((lp (rtS ch) len (0, 0, te, 0)).2.2.2))], zC ct x1 60 ch, zI ct x2 15 ((lp (rtS ch) len (0, 0, te, 0)).2.2.1)]) (wr := []) (w2 := [zO x0 7 [.int (nI len), .ref x1, .ref x2, .int (nI ((adL (-((lp (rtS ch) len (0, 0, te, 0)).1)) (((lp (rtS ch) len (0, 0, te, 0)).2.2.1), ((lp (rtS ch) len (0, 0, te, 0)).2.2.2))).2))], zC ct x1 60 ch, zI ct x2 15 ((adL (-((lp (rtS ch) len (0, 0, te, 0)).1)) (((lp (rtS ch) len (0, 0, te, 0)).2.2.1), ((lp (rtS ch) len (0, 0, te, 0)).2.2.2))).1)]) (As := [.int (-((lp (rtS ch) len (0, 0, te, 0)).1))]) (rest := []) ⟨hx, hb, hml, hown, hts⟩ hK hP hD hS hNW hA [0, 1, 2] [] [0, 1, 2] rfl rfl rfl rfl rfl rfl (by decide) (c_X8_addLevel l g ct _ x0 x1 x2 len ch ((lp (rtS ch) len (0, 0, te, 0)).2.2.1) ((lp (rtS ch) len (0, 0, te, 0)).2.2.2) (by omega) (-((lp (rtS ch) len (0, 0, te, 0)).1))) (cwV 1 hts gX8_readTenths_X8_addLevel rfl rfl rfl (by decide +kernel) ⟨Nat.le_of_ble_eq_true rfl, Nat.le_of_ble_eq_true rfl⟩) 0 rfl rfl rfl hl.1 rfl (Nat.le_of_ble_eq_true rfl) dX8_readTenths_103 ⟨Nat.zero_le _, Nat.zero_le _⟩ (fun H locs hP hD hS => ?_)
      refine lv_aload_n hx hb dX8_readTenths_106 rfl (lv_at hl 0 rfl) ?_
      refine va_get (D := g) (ci := 7) (v := .int (nI ((adL (-((lp (rtS ch) len (0, 0, te, 0)).1)) (((lp (rtS ch) len (0, 0, te, 0)).2.2.1), ((lp (rtS ch) len (0, 0, te, 0)).2.2.2))).2))) (C := RX8) (T := TX8) (N := 4) hx hb hts hi_wsX80 hown hK hP 0 rfl rfl 3 (by decide) (hts (.fieldLink RX8 31 "FloodBarrier$TideText" "levels" "I") (List.mem_of_getElem? (i := 1) rfl)) (fun _ h9 => h9) rfl dX8_readTenths_107 ?_
      exact z_iretW hx hb hr hlocks hS hP hD (by simp only [rtE, if_neg c_1, if_neg c_2]) (by simp only [rtE, if_neg c_1, if_neg c_2]) (Nat.le_refl _) (Nat.le_refl _) dX8_readTenths_110
  · refine lv_aload_n hx hb dX8_readTenths_19 rfl (lv_at hl 0 rfl) ?_
    refine va_get (D := g) (ci := 7) (v := .ref x1) (C := RX8) (T := TX8) (N := 4) hx hb hts hi_wsX80 hown hK hP 0 rfl rfl 1 (by decide) (hts (.fieldLink RX8 11 "FloodBarrier$TideText" "characters" "[C") (List.mem_of_getElem? (i := 3) rfl)) (fun _ h9 => h9) rfl dX8_readTenths_20 ?_
    refine lv_iload_n hx hb dX8_readTenths_23 rfl (lv_at hl 3 rfl) ?_
    refine z_cald (ct := ct) (f := ch) (k := k1) hx hb hK hP 1 rfl (by omega) (by decide) dX8_readTenths_24 ?_
    refine lv_istore (lv' := [(4, .int (ch k1)), (0, .ref x0), (1, .int ((lp (rtS ch) k1 (0, 0, te, 0)).1)), (2, .int ((lp (rtS ch) k1 (0, 0, te, 0)).2.1)), (3, .int (nI k1))]) hx hb dX8_readTenths_25 hl (by decide) rfl (fun ls hl => ?_)
    refine lv_iload hx hb dX8_readTenths_27 (lv_at hl 0 rfl) ?_
    refine lv_bipush (v := 45) hx hb dX8_readTenths_29 (by decide) ?_
    refine lv_icmp_ne (tgt := 39) hx hb dX8_readTenths_31 (by decide) (fun c_3 => ?_) (fun c_3 => ?_)
    · refine lv_iload hx hb dX8_readTenths_39 (lv_at hl 0 rfl) ?_
      refine z_cSi (As := [.int (ch k1)]) (rest := []) ⟨hx, hb, hml, hown, hts⟩ (c_X8_isDigit l (ch k1)) (va_cwS 1 hts gX8_readTenths_X8_isDigit rfl rfl rfl (by decide +kernel) ⟨Nat.le_of_ble_eq_true rfl, Nat.le_of_ble_eq_true rfl⟩) rfl hl.1 rfl (Nat.le_of_ble_eq_true rfl) dX8_readTenths_41 ⟨Nat.zero_le _, Nat.zero_le _⟩ ?_
      refine z_bif_eq (P := (dgP (ch k1))) (tgt := 61) hx hb dX8_readTenths_44 (by decide) (fun c_4 => ?_) (fun c_4 => ?_)
      · refine lv_iload hx hb dX8_readTenths_61 (lv_at hl 0 rfl) ?_
        refine lv_bipush (v := 44) hx hb dX8_readTenths_63 (by decide) ?_
        refine lv_icmp_ne (tgt := 86) hx hb dX8_readTenths_65 (by decide) (fun c_5 => ?_) (fun c_5 => ?_)
        · refine lv_iinc (v := nI (k1 + 1)) (lv' := [(3, .int (nI (k1 + 1))), (4, .int (ch k1)), (0, .ref x0), (1, .int ((lp (rtS ch) k1 (0, 0, te, 0)).1)), (2, .int ((lp (rtS ch) k1 (0, 0, te, 0)).2.1))]) hx hb dX8_readTenths_86 hl (k := 4) rfl (nI_add k1 1) (by decide) rfl (fun ls hl => ?_)
          refine lv_goto (tgt := 11) hx hb dX8_readTenths_89 (by decide) ?_
          exact ihk1 _ _ _ (by omega) ⟨(by first | exact hP | (simp only [lp_s, rtS, if_pos c_1, if_neg c_3, if_neg c_4, if_neg c_5]; exact hP)), (by first | exact hD | (simp only [lp_s, rtS, if_pos c_1, if_neg c_3, if_neg c_4, if_neg c_5]; exact hD)), hS, (by first | exact lv_sub hl [2, 3, 4, 0] rfl | (simp only [lp_s, rtS, if_pos c_1, if_neg c_3, if_neg c_4, if_neg c_5]; exact lv_sub hl [2, 3, 4, 0] rfl))⟩
        · refine lv_aload_n hx hb dX8_readTenths_68 rfl (lv_at hl 1 rfl) ?_
          refine lv_iload_n hx hb dX8_readTenths_69 rfl (lv_at hl 3 rfl) ?_
          refine lv_if_eq (tgt := 78) hx hb dX8_readTenths_70 (by decide) (fun c_6 => ?_) (fun c_6 => ?_)
          · refine lv_iload_n hx hb dX8_readTenths_78 rfl (lv_at hl 2 rfl) ?_
            refine z_wVv (wc := [zO x0 7 [.int (nI len), .ref x1, .ref x2, .int (nI ((lp (rtS ch) k1 (0, 0, te, 0)).2.2.2))], zC ct x1 60 ch, zI ct x2 15 ((lp (rtS ch) k1 (0, 0, te, 0)).2.2.1)]) (wr := []) (w2 := [zO x0 7 [.int (nI len), .ref x1, .ref x2, .int (nI ((adL ((lp (rtS ch) k1 (0, 0, te, 0)).1) (((lp (rtS ch) k1 (0, 0, te, 0)).2.2.1), ((lp (rtS ch) k1 (0, 0, te, 0)).2.2.2))).2))], zC ct x1 60 ch, zI ct x2 15 ((adL ((lp (rtS ch) k1 (0, 0, te, 0)).1) (((lp (rtS ch) k1 (0, 0, te, 0)).2.2.1), ((lp (rtS ch) k1 (0, 0, te, 0)).2.2.2))).1)]) (As := [.int ((lp (rtS ch) k1 (0, 0, te, 0)).1)]) (rest := []) ⟨hx, hb, hml, hown, hts⟩ hK hP hD hS hNW hA [0, 1, 2] [] [0, 1, 2] rfl rfl rfl rfl rfl rfl (by decide) (c_X8_addLevel l g ct _ x0 x1 x2 len ch ((lp (rtS ch) k1 (0, 0, te, 0)).2.2.1) ((lp (rtS ch) k1 (0, 0, te, 0)).2.2.2) (by omega) ((lp (rtS ch) k1 (0, 0, te, 0)).1)) (cwV 1 hts gX8_readTenths_X8_addLevel rfl rfl rfl (by decide +kernel) ⟨Nat.le_of_ble_eq_true rfl, Nat.le_of_ble_eq_true rfl⟩) 0 rfl rfl rfl hl.1 rfl (Nat.le_of_ble_eq_true rfl) dX8_readTenths_79 ⟨Nat.zero_le _, Nat.zero_le _⟩ (fun H locs hP hD hS => ?_)
            refine lv_iconst (v := 0) hx hb dX8_readTenths_82 (by decide) ?_
            refine lv_istore_n (lv' := [(1, .int 0), (4, .int (ch k1)), (0, .ref x0), (2, .int ((lp (rtS ch) k1 (0, 0, te, 0)).2.1)), (3, .int (nI k1))]) hx hb dX8_readTenths_83 rfl hl (by decide) rfl (fun ls hl => ?_)
            refine lv_iconst (v := 0) hx hb dX8_readTenths_84 (by decide) ?_
            refine lv_istore_n (lv' := [(2, .int 0), (1, .int 0), (4, .int (ch k1)), (0, .ref x0), (3, .int (nI k1))]) hx hb dX8_readTenths_85 rfl hl (by decide) rfl (fun ls hl => ?_)
            refine lv_iinc (v := nI (k1 + 1)) (lv' := [(3, .int (nI (k1 + 1))), (2, .int 0), (1, .int 0), (4, .int (ch k1)), (0, .ref x0)]) hx hb dX8_readTenths_86 hl (k := 4) rfl (nI_add k1 1) (by decide) rfl (fun ls hl => ?_)
            refine lv_goto (tgt := 11) hx hb dX8_readTenths_89 (by decide) ?_
            exact ihk1 _ _ _ (by omega) ⟨(by first | exact hP | (simp only [lp_s, rtS, if_pos c_1, if_neg c_3, if_neg c_4, if_pos c_5, if_pos c_6]; exact hP)), (by first | exact hD | (simp only [lp_s, rtS, if_pos c_1, if_neg c_3, if_neg c_4, if_pos c_5, if_pos c_6]; exact hD)), hS, (by first | exact lv_sub hl [4, 2, 1, 0] rfl | (simp only [lp_s, rtS, if_pos c_1, if_neg c_3, if_neg c_4, if_pos c_5, if_pos c_6]; exact lv_sub hl [4, 2, 1, 0] rfl))⟩
          · refine lv_iload_n hx hb dX8_readTenths_73 rfl (lv_at hl 2 rfl) ?_
            refine lv_ineg hx hb dX8_readTenths_74 ?_
            refine lv_goto (tgt := 79) hx hb dX8_readTenths_75 (by decide) ?_
            refine z_wVv (wc := [zO x0 7 [.int (nI len), .ref x1, .ref x2, .int (nI ((lp (rtS ch) k1 (0, 0, te, 0)).2.2.2))], zC ct x1 60 ch, zI ct x2 15 ((lp (rtS ch) k1 (0, 0, te, 0)).2.2.1)]) (wr := []) (w2 := [zO x0 7 [.int (nI len), .ref x1, .ref x2, .int (nI ((adL (-((lp (rtS ch) k1 (0, 0, te, 0)).1)) (((lp (rtS ch) k1 (0, 0, te, 0)).2.2.1), ((lp (rtS ch) k1 (0, 0, te, 0)).2.2.2))).2))], zC ct x1 60 ch, zI ct x2 15 ((adL (-((lp (rtS ch) k1 (0, 0, te, 0)).1)) (((lp (rtS ch) k1 (0, 0, te, 0)).2.2.1), ((lp (rtS ch) k1 (0, 0, te, 0)).2.2.2))).1)]) (As := [.int (-((lp (rtS ch) k1 (0, 0, te, 0)).1))]) (rest := []) ⟨hx, hb, hml, hown, hts⟩ hK hP hD hS hNW hA [0, 1, 2] [] [0, 1, 2] rfl rfl rfl rfl rfl rfl (by decide) (c_X8_addLevel l g ct _ x0 x1 x2 len ch ((lp (rtS ch) k1 (0, 0, te, 0)).2.2.1) ((lp (rtS ch) k1 (0, 0, te, 0)).2.2.2) (by omega) (-((lp (rtS ch) k1 (0, 0, te, 0)).1))) (cwV 1 hts gX8_readTenths_X8_addLevel rfl rfl rfl (by decide +kernel) ⟨Nat.le_of_ble_eq_true rfl, Nat.le_of_ble_eq_true rfl⟩) 0 rfl rfl rfl hl.1 rfl (Nat.le_of_ble_eq_true rfl) dX8_readTenths_79 ⟨Nat.zero_le _, Nat.zero_le _⟩ (fun H locs hP hD hS => ?_)
            refine lv_iconst (v := 0) hx hb dX8_readTenths_82 (by decide) ?_
            refine lv_istore_n (lv' := [(1, .int 0), (4, .int (ch k1)), (0, .ref x0), (2, .int ((lp (rtS ch) k1 (0, 0, te, 0)).2.1)), (3, .int (nI k1))]) hx hb dX8_readTenths_83 rfl hl (by decide) rfl (fun ls hl => ?_)
            refine lv_iconst (v := 0) hx hb dX8_readTenths_84 (by decide) ?_
            refine lv_istore_n (lv' := [(2, .int 0), (1, .int 0), (4, .int (ch k1)), (0, .ref x0), (3, .int (nI k1))]) hx hb dX8_readTenths_85 rfl hl (by decide) rfl (fun ls hl => ?_)
            refine lv_iinc (v := nI (k1 + 1)) (lv' := [(3, .int (nI (k1 + 1))), (2, .int 0), (1, .int 0), (4, .int (ch k1)), (0, .ref x0)]) hx hb dX8_readTenths_86 hl (k := 4) rfl (nI_add k1 1) (by decide) rfl (fun ls hl => ?_)
            refine lv_goto (tgt := 11) hx hb dX8_readTenths_89 (by decide) ?_
            exact ihk1 _ _ _ (by omega) ⟨(by first | exact hP | (simp only [lp_s, rtS, if_pos c_1, if_neg c_3, if_neg c_4, if_pos c_5, if_neg c_6]; exact hP)), (by first | exact hD | (simp only [lp_s, rtS, if_pos c_1, if_neg c_3, if_neg c_4, if_pos c_5, if_neg c_6]; exact hD)), hS, (by first | exact lv_sub hl [4, 2, 1, 0] rfl | (simp only [lp_s, rtS, if_pos c_1, if_neg c_3, if_neg c_4, if_pos c_5, if_neg c_6]; exact lv_sub hl [4, 2, 1, 0] rfl))⟩
      · refine lv_iload_n hx hb dX8_readTenths_47 rfl (lv_at hl 2 rfl) ?_
        refine lv_bipush (v := 10) hx hb dX8_readTenths_48 (by decide) ?_
        refine lv_imul hx hb dX8_readTenths_50 ?_
        refine lv_iload hx hb dX8_readTenths_51 (lv_at hl 0 rfl) ?_
        refine lv_bipush (v := 48) hx hb dX8_readTenths_53 (by decide) ?_
        refine lv_isub hx hb dX8_readTenths_55 ?_
        refine lv_iadd hx hb dX8_readTenths_56 ?_
        refine lv_istore_n (lv' := [(1, .int ((((lp (rtS ch) k1 (0, 0, te, 0)).1) * 10) + ((ch k1) - 48))), (4, .int (ch k1)), (0, .ref x0), (2, .int ((lp (rtS ch) k1 (0, 0, te, 0)).2.1)), (3, .int (nI k1))]) hx hb dX8_readTenths_57 rfl hl (by decide) rfl (fun ls hl => ?_)
        refine lv_goto (tgt := 86) hx hb dX8_readTenths_58 (by decide) ?_
        refine lv_iinc (v := nI (k1 + 1)) (lv' := [(3, .int (nI (k1 + 1))), (1, .int ((((lp (rtS ch) k1 (0, 0, te, 0)).1) * 10) + ((ch k1) - 48))), (4, .int (ch k1)), (0, .ref x0), (2, .int ((lp (rtS ch) k1 (0, 0, te, 0)).2.1))]) hx hb dX8_readTenths_86 hl (k := 4) rfl (nI_add k1 1) (by decide) rfl (fun ls hl => ?_)
        refine lv_goto (tgt := 11) hx hb dX8_readTenths_89 (by decide) ?_
        exact ihk1 _ _ _ (by omega) ⟨(by first | exact hP | (simp only [lp_s, rtS, if_pos c_1, if_neg c_3, if_pos c_4]; exact hP)), (by first | exact hD | (simp only [lp_s, rtS, if_pos c_1, if_neg c_3, if_pos c_4]; exact hD)), hS, (by first | exact lv_sub hl [3, 1, 4, 0] rfl | (simp only [lp_s, rtS, if_pos c_1, if_neg c_3, if_pos c_4]; exact lv_sub hl [3, 1, 4, 0] rfl))⟩
    · refine lv_iconst (v := 1) hx hb dX8_readTenths_34 (by decide) ?_
      refine lv_istore_n (lv' := [(2, .int 1), (4, .int (ch k1)), (0, .ref x0), (1, .int ((lp (rtS ch) k1 (0, 0, te, 0)).1)), (3, .int (nI k1))]) hx hb dX8_readTenths_35 rfl hl (by decide) rfl (fun ls hl => ?_)
      refine lv_goto (tgt := 86) hx hb dX8_readTenths_36 (by decide) ?_
      refine lv_iinc (v := nI (k1 + 1)) (lv' := [(3, .int (nI (k1 + 1))), (2, .int 1), (4, .int (ch k1)), (0, .ref x0), (1, .int ((lp (rtS ch) k1 (0, 0, te, 0)).1))]) hx hb dX8_readTenths_86 hl (k := 4) rfl (nI_add k1 1) (by decide) rfl (fun ls hl => ?_)
      refine lv_goto (tgt := 11) hx hb dX8_readTenths_89 (by decide) ?_
      exact ihk1 _ _ _ (by omega) ⟨(by first | exact hP | (simp only [lp_s, rtS, if_pos c_1, if_pos c_3]; exact hP)), (by first | exact hD | (simp only [lp_s, rtS, if_pos c_1, if_pos c_3]; exact hD)), hS, (by first | exact lv_sub hl [3, 4, 1, 0] rfl | (simp only [lp_s, rtS, if_pos c_1, if_pos c_3]; exact lv_sub hl [3, 4, 1, 0] rfl))⟩

set_option maxHeartbeats 4000000 in
set_option maxRecDepth 100000 in
theorem c_X8_lowestTenths (l : Launch) (g : va_G) (ct : Nat → ClassId) (x0 x1 x2 : Nat) (len : Nat) (ch te : Nat → Int32) (lv : Nat) (hlv : lv ≤ 15) : Met l yX8_lowestTenths wsX8_lowestTenths (zRm 1 25) (va_Pc [.ref x0] (zR g ct [zO x0 7 [.int (nI len), .ref x1, .ref x2, .int (nI lv)], zC ct x1 60 ch, zI ct x2 15 te])) (vp_Si (fun r => r = lwI te lv)) 0 0 (fun _ => False) := by
  refine z_read (cc := cX8_lowestTenths) (maxL := 3) (ret := some .int) (by decide) rfl (Nat.le_of_ble_eq_true rfl) ?_
  intro p e s m below meth c ls hx hb hr hml hts hown hlocks hP hK hl
  have hown : s.vm.findClass RX8 = some m.cls := hown
  have hl : lv_has ls 3 [(0, .ref x0)] := hl
  have hi_wsX80 : ∀ w ∈ wsX80, w ∈ wsX8_lowestTenths := fun w h => List.mem_cons_of_mem _ (List.mem_append_right _ h)
  refine lv_iconst (v := 0) hx hb dX8_lowestTenths_0 (by decide) ?_
  refine lv_istore_n (lv' := [(1, .int 0), (0, .ref x0)]) hx hb dX8_lowestTenths_1 rfl hl (by decide) rfl (fun ls hl => ?_)
  refine lv_iconst (v := 0) hx hb dX8_lowestTenths_2 (by decide) ?_
  refine lv_istore_n (lv' := [(2, .int 0), (1, .int 0), (0, .ref x0)]) hx hb dX8_lowestTenths_3 rfl hl (by decide) rfl (fun ls hl => ?_)
  refine z_loop lv (fun k1 H2 locs2 ls => H2 = s.heap ∧ locs2 = [] ∧ lv_has ls 3 [(0, .ref x0), (1, .int (lwI te k1)), (2, .int (nI k1))]) ⟨rfl, rfl, lv_sub hl [2, 1, 0] rfl⟩ ?_
  intro k1 H2 locs2 ls hkk1 hI ihk1
  obtain ⟨rfl, rfl, hl⟩ := hI
  refine lv_iload_n hx hb dX8_lowestTenths_4 rfl (lv_at hl 2 rfl) ?_
  refine lv_aload_n hx hb dX8_lowestTenths_5 rfl (lv_at hl 0 rfl) ?_
  refine va_get (D := g) (ci := 7) (v := .int (nI lv)) (C := RX8) (T := TX8) (N := 4) hx hb hts hi_wsX80 hown hK hP 0 rfl rfl 3 (by decide) (hts (.fieldLink RX8 31 "FloodBarrier$TideText" "levels" "I") (List.mem_of_getElem? (i := 1) rfl)) (fun _ h9 => h9) rfl dX8_lowestTenths_6 ?_
  refine z_icN_ge (x := k1) (y := lv) (tgt := 29) hx hb (by omega) (by omega) dX8_lowestTenths_9 (by decide) (fun c_1 => ?_) (fun c_1 => ?_)
  · have hkn : lv = k1 := by omega
    subst hkn
    refine lv_iload_n hx hb dX8_lowestTenths_29 rfl (lv_at hl 1 rfl) ?_
    exact z_iretR hx hb hr hlocks rfl rfl dX8_lowestTenths_30
  · refine lv_iload_n hx hb dX8_lowestTenths_12 rfl (lv_at hl 1 rfl) ?_
    refine lv_aload_n hx hb dX8_lowestTenths_13 rfl (lv_at hl 0 rfl) ?_
    refine va_get (D := g) (ci := 7) (v := .ref x2) (C := RX8) (T := TX8) (N := 4) hx hb hts hi_wsX80 hown hK hP 0 rfl rfl 2 (by decide) (hts (.fieldLink RX8 15 "FloodBarrier$TideText" "tenths" "[I") (List.mem_of_getElem? (i := 2) rfl)) (fun _ h9 => h9) rfl dX8_lowestTenths_14 ?_
    refine lv_iload_n hx hb dX8_lowestTenths_17 rfl (lv_at hl 2 rfl) ?_
    refine z_iald (ct := ct) (f := te) (k := k1) hx hb hK hP 2 rfl (by omega) (by decide) dX8_lowestTenths_18 ?_
    refine va_mmin hx hb (hml.trans hl.1.symm) hown (hts (.methodLink RX8 38 Lib.Math.min.name) (List.mem_of_getElem? (i := 3) rfl)) (hts (.static Lib.Math.min.name) (List.mem_of_getElem? (i := 4) rfl)) (hts (.initialized "java/lang/Math") (List.mem_of_getElem? (i := 5) rfl)) (hts (.code Lib.Math.min.name Lib.Math.min.code 2 (some .int)) (List.mem_of_getElem? (i := 6) rfl)) (Nat.le_of_ble_eq_true rfl) (Nat.le_of_ble_eq_true rfl) (Nat.zero_le _) (Nat.zero_le _) dX8_lowestTenths_19 ?_
    refine lv_istore_n (lv' := [(1, .int (if (te k1) < (lwI te k1) then (te k1) else (lwI te k1))), (0, .ref x0), (2, .int (nI k1))]) hx hb dX8_lowestTenths_22 rfl hl (by decide) rfl (fun ls hl => ?_)
    refine lv_iinc (v := nI (k1 + 1)) (lv' := [(2, .int (nI (k1 + 1))), (1, .int (if (te k1) < (lwI te k1) then (te k1) else (lwI te k1))), (0, .ref x0)]) hx hb dX8_lowestTenths_23 hl (k := 2) rfl (nI_add k1 1) (by decide) rfl (fun ls hl => ?_)
    refine lv_goto (tgt := 4) hx hb dX8_lowestTenths_26 (by decide) ?_
    exact ihk1 _ _ _ (by omega) ⟨rfl, rfl, (by first | exact lv_sub hl [2, 1, 0] rfl | (simp only [lp_s, lwI, if_pos c_1]; exact lv_sub hl [2, 1, 0] rfl))⟩
