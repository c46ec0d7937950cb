set_option maxHeartbeats 4000000 in
set_option maxRecDepth 100000 in
theorem c_X10_record_l (l : Launch) (g : va_G) (ct : Nat → ClassId) (sz : Nat) (m0 m1 m2 m3 m4 m5 m6 m7 m8 m9 : Nat) (n hy sl sp : Nat → Int64) (re rh rs : Nat → UInt64) (kp : Nat) (fl : Int32) (tn : Nat) (tx : Nat → Int32) (pa rn : Nat) (rd : Nat → Int32) (hkp : kp < 5) : Met l yX10_record wsX10_record (zRm 0 0) (va_Pc [.ref m0] (zW g ct [zO m0 9 [.ref m1, .ref m2, .ref m3, .ref m4, .ref m5, .ref m6, .ref m7, .int (nI kp), .int fl, .int (nI tn), .ref m8, .int (nI pa), .int (nI rn), .ref m9], zL ct m1 108 n, zL ct m2 540 hy, zL ct m3 108 sl, zL ct m4 108 sp, zD ct m5 33 re, zD ct m6 165 rh, zD ct m7 33 rs, zC ct m8 60 tx, zI ct m9 17 rd] sz)) (zQv g [zO m0 9 [.ref m1, .ref m2, .ref m3, .ref m4, .ref m5, .ref m6, .ref m7, .int (nI (kp + 1)), .int fl, .int (nI tn), .ref m8, .int (nI pa), .int (nI rn), .ref m9], zL ct m1 108 n, zL ct m2 540 (cpb hy n (108 * kp) 108), zL ct m3 108 sl, zL ct m4 108 sp, zD ct m5 33 re, zD ct m6 165 (cpb rh re (33 * kp) 33), zD ct m7 33 rs, zC ct m8 60 tx, zI ct m9 17 rd] (va_A [zO m0 9 [.ref m1, .ref m2, .ref m3, .ref m4, .ref m5, .ref m6, .ref m7, .int (nI kp), .int fl, .int (nI tn), .ref m8, .int (nI pa), .int (nI rn), .ref m9], zL ct m1 108 n, zL ct m2 540 hy, zL ct m3 108 sl, zL ct m4 108 sp, zD ct m5 33 re, zD ct m6 165 rh, zD ct m7 33 rs, zC ct m8 60 tx, zI ct m9 17 rd] sz)) 0 0 (va_A [zO m0 9 [.ref m1, .ref m2, .ref m3, .ref m4, .ref m5, .ref m6, .ref m7, .int (nI kp), .int fl, .int (nI tn), .ref m8, .int (nI pa), .int (nI rn), .ref m9], zL ct m1 108 n, zL ct m2 540 hy, zL ct m3 108 sl, zL ct m4 108 sp, zD ct m5 33 re, zD ct m6 165 rh, zD ct m7 33 rs, zC ct m8 60 tx, zI ct m9 17 rd] sz) := by
  refine z_write (QA := zQv g [zO m0 9 [.ref m1, .ref m2, .ref m3, .ref m4, .ref m5, .ref m6, .ref m7, .int (nI (kp + 1)), .int fl, .int (nI tn), .ref m8, .int (nI pa), .int (nI rn), .ref m9], zL ct m1 108 n, zL ct m2 540 (cpb hy n (108 * kp) 108), zL ct m3 108 sl, zL ct m4 108 sp, zD ct m5 33 re, zD ct m6 165 (cpb rh re (33 * kp) 33), zD ct m7 33 rs, zC ct m8 60 tx, zI ct m9 17 rd]) (cc := cX10_record) (maxL := 2) (ret := none) (by decide) rfl (Nat.le_of_ble_eq_true rfl) ?_
  intro p e s m below meth c ls A hx hb hr hml hts hown hlocks hin hP hK hD hNW hA hS hl
  have hown : s.vm.findClass RX10 = some m.cls := hown
  have hl : lv_has ls 2 [(0, .ref m0)] := hl
  have hi_wsX100 : ∀ w ∈ wsX100, w ∈ wsX10_record := fun w h => List.mem_cons_of_mem _ (List.mem_append_right _ h)
  refine lv_aload_n hx hb dX10_record_0 rfl (lv_at hl 0 rfl) ?_
  refine va_get (D := g) (ci := 9) (v := .int (nI kp)) (C := RX10) (T := TX10) (N := 14) hx hb hts hi_wsX100 hown hK hP 0 rfl rfl 7 (by decide) (hts (.fieldLink RX10 46 "FloodBarrierModel" "kept" "I") (List.mem_of_getElem? (i := 1) rfl)) (fun _ h9 => h9) rfl dX10_record_1 ?_
  refine lv_iconst (v := 5) hx hb dX10_record_4 (by decide) ?_
  refine z_icN_ne (x := kp) (y := 5) (tgt := 78) hx hb (by omega) (by omega) dX10_record_5 (by decide) (fun c_1 => ?_) (fun c_1 => ?_)
  · refine lv_iconst (v := 0) hx hb dX10_record_78 (by decide) ?_
    refine lv_istore_n (lv' := [(1, .int 0), (0, .ref m0)]) hx hb dX10_record_79 rfl hl (by decide) rfl (fun ls hl => ?_)
    refine z_loop 108 (fun k3 H locs ls => va_P g vwCl [zO m0 9 [.ref m1, .ref m2, .ref m3, .ref m4, .ref m5, .ref m6, .ref m7, .int (nI kp), .int fl, .int (nI tn), .ref m8, .int (nI pa), .int (nI rn), .ref m9], zL ct m1 108 n, zL ct m2 540 (cpb (hy) n (108 * kp) k3), zL ct m3 108 sl, zL ct m4 108 sp, zD ct m5 33 re, zD ct m6 165 rh, zD ct m7 33 rs, zC ct m8 60 tx, zI ct m9 17 rd] H ∧ va_D A [zO m0 9 [.ref m1, .ref m2, .ref m3, .ref m4, .ref m5, .ref m6, .ref m7, .int (nI kp), .int fl, .int (nI tn), .ref m8, .int (nI pa), .int (nI rn), .ref m9], zL ct m1 108 n, zL ct m2 540 (cpb (hy) n (108 * kp) k3), zL ct m3 108 sl, zL ct m4 108 sp, zD ct m5 33 re, zD ct m6 165 rh, zD ct m7 33 rs, zC ct m8 60 tx, zI ct m9 17 rd] ∧ va_S A s.heap H locs ∧ lv_has ls 2 [(0, .ref m0), (1, .int (nI k3))]) ⟨(by rw [cpb_0]; exact hP), (by rw [cpb_0]; exact hD), hS, lv_sub hl [1, 0] rfl⟩ ?_
    intro k3 H locs ls hkk3 hI ihk3
    obtain ⟨hP, hD, hS, hl⟩ := hI
    refine lv_iload_n hx hb dX10_record_80 rfl (lv_at hl 1 rfl) ?_
    refine lv_bipush (v := 108) hx hb dX10_record_81 (by decide) ?_
    refine z_icN_ge (x := k3) (y := 108) (tgt := 112) hx hb (by omega) (by omega) dX10_record_83 (by decide) (fun c_2 => ?_) (fun c_2 => ?_)
    · have hkn : 108 = k3 := by omega
      subst hkn
      refine lv_iconst (v := 0) hx hb dX10_record_112 (by decide) ?_
      refine lv_istore_n (lv' := [(1, .int 0), (0, .ref m0)]) hx hb dX10_record_113 rfl hl (by decide) rfl (fun ls hl => ?_)
      refine z_loop 33 (fun k4 H locs ls => va_P g vwCl [zO m0 9 [.ref m1, .ref m2, .ref m3, .ref m4, .ref m5, .ref m6, .ref m7, .int (nI kp), .int fl, .int (nI tn), .ref m8, .int (nI pa), .int (nI rn), .ref m9], zL ct m1 108 n, zL ct m2 540 (cpb (hy) n (108 * kp) 108), zL ct m3 108 sl, zL ct m4 108 sp, zD ct m5 33 re, zD ct m6 165 (cpb (rh) re (33 * kp) k4), zD ct m7 33 rs, zC ct m8 60 tx, zI ct m9 17 rd] H ∧ va_D A [zO m0 9 [.ref m1, .ref m2, .ref m3, .ref m4, .ref m5, .ref m6, .ref m7, .int (nI kp), .int fl, .int (nI tn), .ref m8, .int (nI pa), .int (nI rn), .ref m9], zL ct m1 108 n, zL ct m2 540 (cpb (hy) n (108 * kp) 108), zL ct m3 108 sl, zL ct m4 108 sp, zD ct m5 33 re, zD ct m6 165 (cpb (rh) re (33 * kp) k4), zD ct m7 33 rs, zC ct m8 60 tx, zI ct m9 17 rd] ∧ va_S A s.heap H locs ∧ lv_has ls 2 [(0, .ref m0), (1, .int (nI k4))]) ⟨(by rw [cpb_0 (rh) re]; exact hP), (by rw [cpb_0 (rh) re]; exact hD), hS, lv_sub hl [1, 0] rfl⟩ ?_
      intro k4 H locs ls hkk4 hI ihk4
      obtain ⟨hP, hD, hS, hl⟩ := hI
      refine lv_iload_n hx hb dX10_record_114 rfl (lv_at hl 1 rfl) ?_
      refine lv_bipush (v := 33) hx hb dX10_record_115 (by decide) ?_
      refine z_icN_ge (x := k4) (y := 33) (tgt := 146) hx hb (by omega) (by omega) dX10_record_117 (by decide) (fun c_3 => ?_) (fun c_3 => ?_)
      · have hkn : 33 = k4 := by omega
        subst hkn
        refine lv_aload_n hx hb dX10_record_146 rfl (lv_at hl 0 rfl) ?_
        refine lv_dup hx hb dX10_record_147 rfl ?_
        refine va_get (D := g) (ci := 9) (v := .int (nI kp)) (C := RX10) (T := TX10) (N := 14) hx hb hts hi_wsX100 hown hK hP 0 rfl rfl 7 (by decide) (hts (.fieldLink RX10 46 "FloodBarrierModel" "kept" "I") (List.mem_of_getElem? (i := 1) rfl)) (fun _ h9 => h9) rfl dX10_record_148 ?_
        refine lv_iconst (v := 1) hx hb dX10_record_151 (by decide) ?_
        refine z_iaddN (x := kp) (y := 1) hx hb dX10_record_152 ?_
        refine va_put (D := g) (ci := 9) (v := .int (nI (kp + 1))) (C := RX10) (T := TX10) (N := 14) hx hb hts hi_wsX100 tyX10 tyX10_ok nmX10 hown hK hP hD hS 0 rfl rfl 7 (by decide) (hts (.fieldLink RX10 46 "FloodBarrierModel" "kept" "I") (List.mem_of_getElem? (i := 1) rfl)) (fun _ h9 => h9) rfl (tyX10_ok 7 (by decide)) rfl rfl (Nat.le_of_ble_eq_true rfl) dX10_record_153 (fun H locs hP hD hS => ?_)
        have hP : va_P g vwCl [zO m0 9 [.ref m1, .ref m2, .ref m3, .ref m4, .ref m5, .ref m6, .ref m7, .int (nI (kp + 1)), .int fl, .int (nI tn), .ref m8, .int (nI pa), .int (nI rn), .ref m9], zL ct m1 108 n, zL ct m2 540 (cpb (hy) n (108 * kp) 108), zL ct m3 108 sl, zL ct m4 108 sp, zD ct m5 33 re, zD ct m6 165 (cpb (rh) re (33 * kp) 33), zD ct m7 33 rs, zC ct m8 60 tx, zI ct m9 17 rd] H := hP
        have hD : va_D A [zO m0 9 [.ref m1, .ref m2, .ref m3, .ref m4, .ref m5, .ref m6, .ref m7, .int (nI (kp + 1)), .int fl, .int (nI tn), .ref m8, .int (nI pa), .int (nI rn), .ref m9], zL ct m1 108 n, zL ct m2 540 (cpb (hy) n (108 * kp) 108), zL ct m3 108 sl, zL ct m4 108 sp, zD ct m5 33 re, zD ct m6 165 (cpb (rh) re (33 * kp) 33), zD ct m7 33 rs, zC ct m8 60 tx, zI ct m9 17 rd] := hD
        exact z_vretW hx hb hr hlocks hS hP hD rfl (Nat.le_refl _) (Nat.le_refl _) dX10_record_156
      · refine lv_aload_n hx hb dX10_record_120 rfl (lv_at hl 0 rfl) ?_
        refine va_get (D := g) (ci := 9) (v := .ref m6) (C := RX10) (T := TX10) (N := 14) hx hb hts hi_wsX100 hown hK hP 0 rfl rfl 5 (by decide) (hts (.fieldLink RX10 26 "FloodBarrierModel" "realHistory" "[D") (List.mem_of_getElem? (i := 3) rfl)) (fun _ h9 => h9) rfl dX10_record_121 ?_
        refine lv_bipush (v := 33) hx hb dX10_record_124 (by decide) ?_
        refine lv_aload_n hx hb dX10_record_126 rfl (lv_at hl 0 rfl) ?_
        refine va_get (D := g) (ci := 9) (v := .int (nI kp)) (C := RX10) (T := TX10) (N := 14) hx hb hts hi_wsX100 hown hK hP 0 rfl rfl 7 (by decide) (hts (.fieldLink RX10 46 "FloodBarrierModel" "kept" "I") (List.mem_of_getElem? (i := 1) rfl)) (fun _ h9 => h9) rfl dX10_record_127 ?_
        refine z_imulN (x := 33) (y := kp) hx hb dX10_record_130 ?_
        refine lv_iload_n hx hb dX10_record_131 rfl (lv_at hl 1 rfl) ?_
        refine z_iaddN (x := (33 * kp)) (y := k4) hx hb dX10_record_132 ?_
        refine lv_aload_n hx hb dX10_record_133 rfl (lv_at hl 0 rfl) ?_
        refine va_get (D := g) (ci := 9) (v := .ref m5) (C := RX10) (T := TX10) (N := 14) hx hb hts hi_wsX100 hown hK hP 0 rfl rfl 4 (by decide) (hts (.fieldLink RX10 22 "FloodBarrierModel" "real" "[D") (List.mem_of_getElem? (i := 5) rfl)) (fun _ h9 => h9) rfl dX10_record_134 ?_
        refine lv_iload_n hx hb dX10_record_137 rfl (lv_at hl 1 rfl) ?_
        refine z_dald (ct := ct) (f := re) (k := k4) hx hb hK hP 5 rfl (by omega) (by decide) dX10_record_138 ?_
        refine z_dast (ct := ct) (f := (cpb (rh) re (33 * kp) k4)) (k := ((33 * kp) + k4)) (x := (re k4)) hx hb hK hP hD hS 6 rfl (by omega) (by decide) dX10_record_139 (fun H locs hP hD hS => ?_)
        have hP : va_P g vwCl [zO m0 9 [.ref m1, .ref m2, .ref m3, .ref m4, .ref m5, .ref m6, .ref m7, .int (nI kp), .int fl, .int (nI tn), .ref m8, .int (nI pa), .int (nI rn), .ref m9], zL ct m1 108 n, zL ct m2 540 (cpb (hy) n (108 * kp) 108), zL ct m3 108 sl, zL ct m4 108 sp, zD ct m5 33 re, zD ct m6 165 (vf_upd (cpb (rh) re (33 * kp) k4) ((33 * kp) + k4) (re k4)), zD ct m7 33 rs, zC ct m8 60 tx, zI ct m9 17 rd] H := hP
        have hD : va_D A [zO m0 9 [.ref m1, .ref m2, .ref m3, .ref m4, .ref m5, .ref m6, .ref m7, .int (nI kp), .int fl, .int (nI tn), .ref m8, .int (nI pa), .int (nI rn), .ref m9], zL ct m1 108 n, zL ct m2 540 (cpb (hy) n (108 * kp) 108), zL ct m3 108 sl, zL ct m4 108 sp, zD ct m5 33 re, zD ct m6 165 (vf_upd (cpb (rh) re (33 * kp) k4) ((33 * kp) + k4) (re k4)), zD ct m7 33 rs, zC ct m8 60 tx, zI ct m9 17 rd] := hD
        refine lv_iinc (v := nI (k4 + 1)) (lv' := [(1, .int (nI (k4 + 1))), (0, .ref m0)]) hx hb dX10_record_140 hl (k := 1) rfl (nI_add k4 1) (by decide) rfl (fun ls hl => ?_)
        refine lv_goto (tgt := 114) hx hb dX10_record_143 (by decide) ?_
        exact ihk4 _ _ _ (by omega) ⟨(by first | exact hP | (simp only [lp_s, ← cpb_sD, if_neg c_1, if_neg c_2, if_pos c_3]; exact hP)), (by first | exact hD | (simp only [lp_s, ← cpb_sD, if_neg c_1, if_neg c_2, if_pos c_3]; exact hD)), hS, (by first | exact lv_sub hl [1, 0] rfl | (simp only [lp_s, ← cpb_sD, if_neg c_1, if_neg c_2, if_pos c_3]; exact lv_sub hl [1, 0] rfl))⟩
    · refine lv_aload_n hx hb dX10_record_86 rfl (lv_at hl 0 rfl) ?_
      refine va_get (D := g) (ci := 9) (v := .ref m2) (C := RX10) (T := TX10) (N := 14) hx hb hts hi_wsX100 hown hK hP 0 rfl rfl 1 (by decide) (hts (.fieldLink RX10 13 "FloodBarrierModel" "history" "[J") (List.mem_of_getElem? (i := 2) rfl)) (fun _ h9 => h9) rfl dX10_record_87 ?_
      refine lv_bipush (v := 108) hx hb dX10_record_90 (by decide) ?_
      refine lv_aload_n hx hb dX10_record_92 rfl (lv_at hl 0 rfl) ?_
      refine va_get (D := g) (ci := 9) (v := .int (nI kp)) (C := RX10) (T := TX10) (N := 14) hx hb hts hi_wsX100 hown hK hP 0 rfl rfl 7 (by decide) (hts (.fieldLink RX10 46 "FloodBarrierModel" "kept" "I") (List.mem_of_getElem? (i := 1) rfl)) (fun _ h9 => h9) rfl dX10_record_93 ?_
      refine z_imulN (x := 108) (y := kp) hx hb dX10_record_96 ?_
      refine lv_iload_n hx hb dX10_record_97 rfl (lv_at hl 1 rfl) ?_
      refine z_iaddN (x := (108 * kp)) (y := k3) hx hb dX10_record_98 ?_
      refine lv_aload_n hx hb dX10_record_99 rfl (lv_at hl 0 rfl) ?_
      refine va_get (D := g) (ci := 9) (v := .ref m1) (C := RX10) (T := TX10) (N := 14) hx hb hts hi_wsX100 hown hK hP 0 rfl rfl 0 (by decide) (hts (.fieldLink RX10 7 "FloodBarrierModel" "now" "[J") (List.mem_of_getElem? (i := 4) rfl)) (fun _ h9 => h9) rfl dX10_record_100 ?_
      refine lv_iload_n hx hb dX10_record_103 rfl (lv_at hl 1 rfl) ?_
      refine z_lald (ct := ct) (f := n) (k := k3) hx hb hK hP 1 rfl (by omega) (by decide) dX10_record_104 ?_
      refine z_last (ct := ct) (f := (cpb (hy) n (108 * kp) k3)) (k := ((108 * kp) + k3)) (x := (n k3)) hx hb hK hP hD hS 2 rfl (by omega) (by decide) dX10_record_105 (fun H locs hP hD hS => ?_)
      have hP : va_P g vwCl [zO m0 9 [.ref m1, .ref m2, .ref m3, .ref m4, .ref m5, .ref m6, .ref m7, .int (nI kp), .int fl, .int (nI tn), .ref m8, .int (nI pa), .int (nI rn), .ref m9], zL ct m1 108 n, zL ct m2 540 (vp_updL (cpb (hy) n (108 * kp) k3) ((108 * kp) + k3) (n k3)), zL ct m3 108 sl, zL ct m4 108 sp, zD ct m5 33 re, zD ct m6 165 rh, zD ct m7 33 rs, zC ct m8 60 tx, zI ct m9 17 rd] H := hP
      have hD : va_D A [zO m0 9 [.ref m1, .ref m2, .ref m3, .ref m4, .ref m5, .ref m6, .ref m7, .int (nI kp), .int fl, .int (nI tn), .ref m8, .int (nI pa), .int (nI rn), .ref m9], zL ct m1 108 n, zL ct m2 540 (vp_updL (cpb (hy) n (108 * kp) k3) ((108 * kp) + k3) (n k3)), zL ct m3 108 sl, zL ct m4 108 sp, zD ct m5 33 re, zD ct m6 165 rh, zD ct m7 33 rs, zC ct m8 60 tx, zI ct m9 17 rd] := hD
      refine lv_iinc (v := nI (k3 + 1)) (lv' := [(1, .int (nI (k3 + 1))), (0, .ref m0)]) hx hb dX10_record_106 hl (k := 1) rfl (nI_add k3 1) (by decide) rfl (fun ls hl => ?_)
      refine lv_goto (tgt := 80) hx hb dX10_record_109 (by decide) ?_
      exact ihk3 _ _ _ (by omega) ⟨(by first | exact hP | (simp only [lp_s, ← cpb_s, if_neg c_1, if_pos c_2]; exact hP)), (by first | exact hD | (simp only [lp_s, ← cpb_s, if_neg c_1, if_pos c_2]; exact hD)), hS, (by first | exact lv_sub hl [1, 0] rfl | (simp only [lp_s, ← cpb_s, if_neg c_1, if_pos c_2]; exact lv_sub hl [1, 0] rfl))⟩
  · exact absurd c_1 (by omega)

set_option maxHeartbeats 4000000 in
set_option maxRecDepth 100000 in
theorem c_X10_record_5 (l : Launch) (g : va_G) (ct : Nat → ClassId) (sz : Nat) (m0 m1 m2 m3 m4 m5 m6 m7 m8 m9 : Nat) (n hy sl sp : Nat → Int64) (re rh rs : Nat → UInt64) (fl : Int32) (tn : Nat) (tx : Nat → Int32) (pa rn : Nat) (rd : Nat → Int32) : Met l yX10_record wsX10_record (zRm 0 0) (va_Pc [.ref m0] (zW g ct [zO m0 9 [.ref m1, .ref m2, .ref m3, .ref m4, .ref m5, .ref m6, .ref m7, .int (nI 5), .int fl, .int (nI tn), .ref m8, .int (nI pa), .int (nI rn), .ref m9], zL ct m1 108 n, zL ct m2 540 hy, zL ct m3 108 sl, zL ct m4 108 sp, zD ct m5 33 re, zD ct m6 165 rh, zD ct m7 33 rs, zC ct m8 60 tx, zI ct m9 17 rd] sz)) (zQv g [zO m0 9 [.ref m1, .ref m2, .ref m3, .ref m4, .ref m5, .ref m6, .ref m7, .int (nI (4 + 1)), .int fl, .int (nI tn), .ref m8, .int (nI pa), .int (nI rn), .ref m9], zL ct m1 108 n, zL ct m2 540 (cpb (shb hy 108 432) n (108 * 4) 108), zL ct m3 108 sl, zL ct m4 108 sp, zD ct m5 33 re, zD ct m6 165 (cpb (shb rh 33 132) re (33 * 4) 33), zD ct m7 33 rs, zC ct m8 60 tx, zI ct m9 17 rd] (va_A [zO m0 9 [.ref m1, .ref m2, .ref m3, .ref m4, .ref m5, .ref m6, .ref m7, .int (nI 5), .int fl, .int (nI tn), .ref m8, .int (nI pa), .int (nI rn), .ref m9], zL ct m1 108 n, zL ct m2 540 hy, zL ct m3 108 sl, zL ct m4 108 sp, zD ct m5 33 re, zD ct m6 165 rh, zD ct m7 33 rs, zC ct m8 60 tx, zI ct m9 17 rd] sz)) 0 0 (va_A [zO m0 9 [.ref m1, .ref m2, .ref m3, .ref m4, .ref m5, .ref m6, .ref m7, .int (nI 5), .int fl, .int (nI tn), .ref m8, .int (nI pa), .int (nI rn), .ref m9], zL ct m1 108 n, zL ct m2 540 hy, zL ct m3 108 sl, zL ct m4 108 sp, zD ct m5 33 re, zD ct m6 165 rh, zD ct m7 33 rs, zC ct m8 60 tx, zI ct m9 17 rd] sz) := by
  refine z_write (QA := zQv g [zO m0 9 [.ref m1, .ref m2, .ref m3, .ref m4, .ref m5, .ref m6, .ref m7, .int (nI (4 + 1)), .int fl, .int (nI tn), .ref m8, .int (nI pa), .int (nI rn), .ref m9], zL ct m1 108 n, zL ct m2 540 (cpb (shb hy 108 432) n (108 * 4) 108), zL ct m3 108 sl, zL ct m4 108 sp, zD ct m5 33 re, zD ct m6 165 (cpb (shb rh 33 132) re (33 * 4) 33), zD ct m7 33 rs, zC ct m8 60 tx, zI ct m9 17 rd]) (cc := cX10_record) (maxL := 2) (ret := none) (by decide) rfl (Nat.le_of_ble_eq_true rfl) ?_
  intro p e s m below meth c ls A hx hb hr hml hts hown hlocks hin hP hK hD hNW hA hS hl
  have hown : s.vm.findClass RX10 = some m.cls := hown
  have hl : lv_has ls 2 [(0, .ref m0)] := hl
  have hi_wsX100 : ∀ w ∈ wsX100, w ∈ wsX10_record := fun w h => List.mem_cons_of_mem _ (List.mem_append_right _ h)
  refine lv_aload_n hx hb dX10_record_0 rfl (lv_at hl 0 rfl) ?_
  refine va_get (D := g) (ci := 9) (v := .int (nI 5)) (C := RX10) (T := TX10) (N := 14) hx hb hts hi_wsX100 hown hK hP 0 rfl rfl 7 (by decide) (hts (.fieldLink RX10 46 "FloodBarrierModel" "kept" "I") (List.mem_of_getElem? (i := 1) rfl)) (fun _ h9 => h9) rfl dX10_record_1 ?_
  refine lv_iconst (v := 5) hx hb dX10_record_4 (by decide) ?_
  refine z_icN_ne (x := 5) (y := 5) (tgt := 78) hx hb (by omega) (by omega) dX10_record_5 (by decide) (fun c_1 => ?_) (fun c_1 => ?_)
  · exact absurd rfl c_1
  · refine lv_iconst (v := 0) hx hb dX10_record_8 (by decide) ?_
    refine lv_istore_n (lv' := [(1, .int 0), (0, .ref m0)]) hx hb dX10_record_9 rfl hl (by decide) rfl (fun ls hl => ?_)
    refine z_loop 432 (fun k1 H locs ls => va_P g vwCl [zO m0 9 [.ref m1, .ref m2, .ref m3, .ref m4, .ref m5, .ref m6, .ref m7, .int (nI 5), .int fl, .int (nI tn), .ref m8, .int (nI pa), .int (nI rn), .ref m9], zL ct m1 108 n, zL ct m2 540 (shb hy 108 k1), zL ct m3 108 sl, zL ct m4 108 sp, zD ct m5 33 re, zD ct m6 165 rh, zD ct m7 33 rs, zC ct m8 60 tx, zI ct m9 17 rd] H ∧ va_D A [zO m0 9 [.ref m1, .ref m2, .ref m3, .ref m4, .ref m5, .ref m6, .ref m7, .int (nI 5), .int fl, .int (nI tn), .ref m8, .int (nI pa), .int (nI rn), .ref m9], zL ct m1 108 n, zL ct m2 540 (shb hy 108 k1), zL ct m3 108 sl, zL ct m4 108 sp, zD ct m5 33 re, zD ct m6 165 rh, zD ct m7 33 rs, zC ct m8 60 tx, zI ct m9 17 rd] ∧ va_S A s.heap H locs ∧ lv_has ls 2 [(0, .ref m0), (1, .int (nI k1))]) ⟨(by rw [shb_0]; exact hP), (by rw [shb_0]; exact hD), hS, lv_sub hl [1, 0] rfl⟩ ?_
    intro k1 H locs ls hkk1 hI ihk1
    obtain ⟨hP, hD, hS, hl⟩ := hI
    refine lv_iload_n hx hb dX10_record_10 rfl (lv_at hl 1 rfl) ?_
    refine lv_sipush (v := 432) hx hb dX10_record_11 (by decide) ?_
    refine z_icN_ge (x := k1) (y := 432) (tgt := 38) hx hb (by omega) (by omega) dX10_record_14 (by decide) (fun c_2 => ?_) (fun c_2 => ?_)
    · have hkn : 432 = k1 := by omega
      subst hkn
      refine lv_iconst (v := 0) hx hb dX10_record_38 (by decide) ?_
      refine lv_istore_n (lv' := [(1, .int 0), (0, .ref m0)]) hx hb dX10_record_39 rfl hl (by decide) rfl (fun ls hl => ?_)
      refine z_loop 132 (fun k2 H locs ls => va_P g vwCl [zO m0 9 [.ref m1, .ref m2, .ref m3, .ref m4, .ref m5, .ref m6, .ref m7, .int (nI 5), .int fl, .int (nI tn), .ref m8, .int (nI pa), .int (nI rn), .ref m9], zL ct m1 108 n, zL ct m2 540 (shb hy 108 432), zL ct m3 108 sl, zL ct m4 108 sp, zD ct m5 33 re, zD ct m6 165 (shb rh 33 k2), zD ct m7 33 rs, zC ct m8 60 tx, zI ct m9 17 rd] H ∧ va_D A [zO m0 9 [.ref m1, .ref m2, .ref m3, .ref m4, .ref m5, .ref m6, .ref m7, .int (nI 5), .int fl, .int (nI tn), .ref m8, .int (nI pa), .int (nI rn), .ref m9], zL ct m1 108 n, zL ct m2 540 (shb hy 108 432), zL ct m3 108 sl, zL ct m4 108 sp, zD ct m5 33 re, zD ct m6 165 (shb rh 33 k2), zD ct m7 33 rs, zC ct m8 60 tx, zI ct m9 17 rd] ∧ va_S A s.heap H locs ∧ lv_has ls 2 [(0, .ref m0), (1, .int (nI k2))]) ⟨(by rw [shb_0 rh]; exact hP), (by rw [shb_0 rh]; exact hD), hS, lv_sub hl [1, 0] rfl⟩ ?_
      intro k2 H locs ls hkk2 hI ihk2
      obtain ⟨hP, hD, hS, hl⟩ := hI
      refine lv_iload_n hx hb dX10_record_40 rfl (lv_at hl 1 rfl) ?_
      refine lv_sipush (v := 132) hx hb dX10_record_41 (by decide) ?_
      refine z_icN_ge (x := k2) (y := 132) (tgt := 68) hx hb (by omega) (by omega) dX10_record_44 (by decide) (fun c_3 => ?_) (fun c_3 => ?_)
      · have hkn : 132 = k2 := by omega
        subst hkn
        refine lv_aload_n hx hb dX10_record_68 rfl (lv_at hl 0 rfl) ?_
        refine lv_dup hx hb dX10_record_69 rfl ?_
        refine va_get (D := g) (ci := 9) (v := .int (nI 5)) (C := RX10) (T := TX10) (N := 14) hx hb hts hi_wsX100 hown hK hP 0 rfl rfl 7 (by decide) (hts (.fieldLink RX10 46 "FloodBarrierModel" "kept" "I") (List.mem_of_getElem? (i := 1) rfl)) (fun _ h9 => h9) rfl dX10_record_70 ?_
        refine lv_iconst (v := 1) hx hb dX10_record_73 (by decide) ?_
        refine z_isubN (x := 5) (y := 1) hx hb (by omega) dX10_record_74 ?_
        refine va_put (D := g) (ci := 9) (v := .int (nI 4)) (C := RX10) (T := TX10) (N := 14) hx hb hts hi_wsX100 tyX10 tyX10_ok nmX10 hown hK hP hD hS 0 rfl rfl 7 (by decide) (hts (.fieldLink RX10 46 "FloodBarrierModel" "kept" "I") (List.mem_of_getElem? (i := 1) rfl)) (fun _ h9 => h9) rfl (tyX10_ok 7 (by decide)) rfl rfl (Nat.le_of_ble_eq_true rfl) dX10_record_75 (fun H locs hP hD hS => ?_)
        have hP : va_P g vwCl [zO m0 9 [.ref m1, .ref m2, .ref m3, .ref m4, .ref m5, .ref m6, .ref m7, .int (nI 4), .int fl, .int (nI tn), .ref m8, .int (nI pa), .int (nI rn), .ref m9], zL ct m1 108 n, zL ct m2 540 (shb hy 108 432), zL ct m3 108 sl, zL ct m4 108 sp, zD ct m5 33 re, zD ct m6 165 (shb rh 33 132), zD ct m7 33 rs, zC ct m8 60 tx, zI ct m9 17 rd] H := hP
        have hD : va_D A [zO m0 9 [.ref m1, .ref m2, .ref m3, .ref m4, .ref m5, .ref m6, .ref m7, .int (nI 4), .int fl, .int (nI tn), .ref m8, .int (nI pa), .int (nI rn), .ref m9], zL ct m1 108 n, zL ct m2 540 (shb hy 108 432), zL ct m3 108 sl, zL ct m4 108 sp, zD ct m5 33 re, zD ct m6 165 (shb rh 33 132), zD ct m7 33 rs, zC ct m8 60 tx, zI ct m9 17 rd] := hD
        refine lv_iconst (v := 0) hx hb dX10_record_78 (by decide) ?_
        refine lv_istore_n (lv' := [(1, .int 0), (0, .ref m0)]) hx hb dX10_record_79 rfl hl (by decide) rfl (fun ls hl => ?_)
        refine z_loop 108 (fun k3 H locs ls => va_P g vwCl [zO m0 9 [.ref m1, .ref m2, .ref m3, .ref m4, .ref m5, .ref m6, .ref m7, .int (nI 4), .int fl, .int (nI tn), .ref m8, .int (nI pa), .int (nI rn), .ref m9], zL ct m1 108 n, zL ct m2 540 (cpb (shb hy 108 432) n (108 * 4) k3), zL ct m3 108 sl, zL ct m4 108 sp, zD ct m5 33 re, zD ct m6 165 (shb rh 33 132), zD ct m7 33 rs, zC ct m8 60 tx, zI ct m9 17 rd] H ∧ va_D A [zO m0 9 [.ref m1, .ref m2, .ref m3, .ref m4, .ref m5, .ref m6, .ref m7, .int (nI 4), .int fl, .int (nI tn), .ref m8, .int (nI pa), .int (nI rn), .ref m9], zL ct m1 108 n, zL ct m2 540 (cpb (shb hy 108 432) n (108 * 4) k3), zL ct m3 108 sl, zL ct m4 108 sp, zD ct m5 33 re, zD ct m6 165 (shb rh 33 132), zD ct m7 33 rs, zC ct m8 60 tx, zI ct m9 17 rd] ∧ va_S A s.heap H locs ∧ lv_has ls 2 [(0, .ref m0), (1, .int (nI k3))]) ⟨(by rw [cpb_0]; exact hP), (by rw [cpb_0]; exact hD), hS, lv_sub hl [1, 0] rfl⟩ ?_
        intro k3 H locs ls hkk3 hI ihk3
        obtain ⟨hP, hD, hS, hl⟩ := hI
        refine lv_iload_n hx hb dX10_record_80 rfl (lv_at hl 1 rfl) ?_
        refine lv_bipush (v := 108) hx hb dX10_record_81 (by decide) ?_
        refine z_icN_ge (x := k3) (y := 108) (tgt := 112) hx hb (by omega) (by omega) dX10_record_83 (by decide) (fun c_4 => ?_) (fun c_4 => ?_)
        · have hkn : 108 = k3 := by omega
          subst hkn
          refine lv_iconst (v := 0) hx hb dX10_record_112 (by decide) ?_
          refine lv_istore_n (lv' := [(1, .int 0), (0, .ref m0)]) hx hb dX10_record_113 rfl hl (by decide) rfl (fun ls hl => ?_)
          refine z_loop 33 (fun k4 H locs ls => va_P g vwCl [zO m0 9 [.ref m1, .ref m2, .ref m3, .ref m4, .ref m5, .ref m6, .ref m7, .int (nI 4), .int fl, .int (nI tn), .ref m8, .int (nI pa), .int (nI rn), .ref m9], zL ct m1 108 n, zL ct m2 540 (cpb (shb hy 108 432) n (108 * 4) 108), zL ct m3 108 sl, zL ct m4 108 sp, zD ct m5 33 re, zD ct m6 165 (cpb (shb rh 33 132) re (33 * 4) k4), zD ct m7 33 rs, zC ct m8 60 tx, zI ct m9 17 rd] H ∧ va_D A [zO m0 9 [.ref m1, .ref m2, .ref m3, .ref m4, .ref m5, .ref m6, .ref m7, .int (nI 4), .int fl, .int (nI tn), .ref m8, .int (nI pa), .int (nI rn), .ref m9], zL ct m1 108 n, zL ct m2 540 (cpb (shb hy 108 432) n (108 * 4) 108), zL ct m3 108 sl, zL ct m4 108 sp, zD ct m5 33 re, zD ct m6 165 (cpb (shb rh 33 132) re (33 * 4) k4), zD ct m7 33 rs, zC ct m8 60 tx, zI ct m9 17 rd] ∧ va_S A s.heap H locs ∧ lv_has ls 2 [(0, .ref m0), (1, .int (nI k4))]) ⟨(by rw [cpb_0 (shb rh 33 132) re]; exact hP), (by rw [cpb_0 (shb rh 33 132) re]; exact hD), hS, lv_sub hl [1, 0] rfl⟩ ?_
          intro k4 H locs ls hkk4 hI ihk4
          obtain ⟨hP, hD, hS, hl⟩ := hI
          refine lv_iload_n hx hb dX10_record_114 rfl (lv_at hl 1 rfl) ?_
          refine lv_bipush (v := 33) hx hb dX10_record_115 (by decide) ?_
          refine z_icN_ge (x := k4) (y := 33) (tgt := 146) hx hb (by omega) (by omega) dX10_record_117 (by decide) (fun c_5 => ?_) (fun c_5 => ?_)
          · have hkn : 33 = k4 := by omega
            subst hkn
            refine lv_aload_n hx hb dX10_record_146 rfl (lv_at hl 0 rfl) ?_
            refine lv_dup hx hb dX10_record_147 rfl ?_
            refine va_get (D := g) (ci := 9) (v := .int (nI 4)) (C := RX10) (T := TX10) (N := 14) hx hb hts hi_wsX100 hown hK hP 0 rfl rfl 7 (by decide) (hts (.fieldLink RX10 46 "FloodBarrierModel" "kept" "I") (List.mem_of_getElem? (i := 1) rfl)) (fun _ h9 => h9) rfl dX10_record_148 ?_
            refine lv_iconst (v := 1) hx hb dX10_record_151 (by decide) ?_
            refine z_iaddN (x := 4) (y := 1) hx hb dX10_record_152 ?_
            refine va_put (D := g) (ci := 9) (v := .int (nI 5)) (C := RX10) (T := TX10) (N := 14) hx hb hts hi_wsX100 tyX10 tyX10_ok nmX10 hown hK hP hD hS 0 rfl rfl 7 (by decide) (hts (.fieldLink RX10 46 "FloodBarrierModel" "kept" "I") (List.mem_of_getElem? (i := 1) rfl)) (fun _ h9 => h9) rfl (tyX10_ok 7 (by decide)) rfl rfl (Nat.le_of_ble_eq_true rfl) dX10_record_153 (fun H locs hP hD hS => ?_)
            have hP : va_P g vwCl [zO m0 9 [.ref m1, .ref m2, .ref m3, .ref m4, .ref m5, .ref m6, .ref m7, .int (nI 5), .int fl, .int (nI tn), .ref m8, .int (nI pa), .int (nI rn), .ref m9], zL ct m1 108 n, zL ct m2 540 (cpb (shb hy 108 432) n (108 * 4) 108), zL ct m3 108 sl, zL ct m4 108 sp, zD ct m5 33 re, zD ct m6 165 (cpb (shb rh 33 132) re (33 * 4) 33), zD ct m7 33 rs, zC ct m8 60 tx, zI ct m9 17 rd] H := hP
            have hD : va_D A [zO m0 9 [.ref m1, .ref m2, .ref m3, .ref m4, .ref m5, .ref m6, .ref m7, .int (nI 5), .int fl, .int (nI tn), .ref m8, .int (nI pa), .int (nI rn), .ref m9], zL ct m1 108 n, zL ct m2 540 (cpb (shb hy 108 432) n (108 * 4) 108), zL ct m3 108 sl, zL ct m4 108 sp, zD ct m5 33 re, zD ct m6 165 (cpb (shb rh 33 132) re (33 * 4) 33), zD ct m7 33 rs, zC ct m8 60 tx, zI ct m9 17 rd] := hD
            exact z_vretW hx hb hr hlocks hS hP hD rfl (Nat.le_refl _) (Nat.le_refl _) dX10_record_156
          · refine lv_aload_n hx hb dX10_record_120 rfl (lv_at hl 0 rfl) ?_
            refine va_get (D := g) (ci := 9) (v := .ref m6) (C := RX10) (T := TX10) (N := 14) hx hb hts hi_wsX100 hown hK hP 0 rfl rfl 5 (by decide) (hts (.fieldLink RX10 26 "FloodBarrierModel" "realHistory" "[D") (List.mem_of_getElem? (i := 3) rfl)) (fun _ h9 => h9) rfl dX10_record_121 ?_
            refine lv_bipush (v := 33) hx hb dX10_record_124 (by decide) ?_
            refine lv_aload_n hx hb dX10_record_126 rfl (lv_at hl 0 rfl) ?_
            refine va_get (D := g) (ci := 9) (v := .int (nI 4)) (C := RX10) (T := TX10) (N := 14) hx hb hts hi_wsX100 hown hK hP 0 rfl rfl 7 (by decide) (hts (.fieldLink RX10 46 "FloodBarrierModel" "kept" "I") (List.mem_of_getElem? (i := 1) rfl)) (fun _ h9 => h9) rfl dX10_record_127 ?_
            refine z_imulN (x := 33) (y := 4) hx hb dX10_record_130 ?_
            refine lv_iload_n hx hb dX10_record_131 rfl (lv_at hl 1 rfl) ?_
            refine z_iaddN (x := 132) (y := k4) hx hb dX10_record_132 ?_
            refine lv_aload_n hx hb dX10_record_133 rfl (lv_at hl 0 rfl) ?_
            refine va_get (D := g) (ci := 9) (v := .ref m5) (C := RX10) (T := TX10) (N := 14) hx hb hts hi_wsX100 hown hK hP 0 rfl rfl 4 (by decide) (hts (.fieldLink RX10 22 "FloodBarrierModel" "real" "[D") (List.mem_of_getElem? (i := 5) rfl)) (fun _ h9 => h9) rfl dX10_record_134 ?_
            refine lv_iload_n hx hb dX10_record_137 rfl (lv_at hl 1 rfl) ?_
            refine z_dald (ct := ct) (f := re) (k := k4) hx hb hK hP 5 rfl (by omega) (by decide) dX10_record_138 ?_
            refine z_dast (ct := ct) (f := (cpb (shb rh 33 132) re (33 * 4) k4)) (k := (132 + k4)) (x := (re k4)) hx hb hK hP hD hS 6 rfl (by omega) (by decide) dX10_record_139 (fun H locs hP hD hS => ?_)
            have hP : va_P g vwCl [zO m0 9 [.ref m1, .ref m2, .ref m3, .ref m4, .ref m5, .ref m6, .ref m7, .int (nI 4), .int fl, .int (nI tn), .ref m8, .int (nI pa), .int (nI rn), .ref m9], zL ct m1 108 n, zL ct m2 540 (cpb (shb hy 108 432) n (108 * 4) 108), zL ct m3 108 sl, zL ct m4 108 sp, zD ct m5 33 re, zD ct m6 165 (vf_upd (cpb (shb rh 33 132) re (33 * 4) k4) (132 + k4) (re k4)), zD ct m7 33 rs, zC ct m8 60 tx, zI ct m9 17 rd] H := hP
            have hD : va_D A [zO m0 9 [.ref m1, .ref m2, .ref m3, .ref m4, .ref m5, .ref m6, .ref m7, .int (nI 4), .int fl, .int (nI tn), .ref m8, .int (nI pa), .int (nI rn), .ref m9], zL ct m1 108 n, zL ct m2 540 (cpb (shb hy 108 432) n (108 * 4) 108), zL ct m3 108 sl, zL ct m4 108 sp, zD ct m5 33 re, zD ct m6 165 (vf_upd (cpb (shb rh 33 132) re (33 * 4) k4) (132 + k4) (re k4)), zD ct m7 33 rs, zC ct m8 60 tx, zI ct m9 17 rd] := hD
            refine lv_iinc (v := nI (k4 + 1)) (lv' := [(1, .int (nI (k4 + 1))), (0, .ref m0)]) hx hb dX10_record_140 hl (k := 1) rfl (nI_add k4 1) (by decide) rfl (fun ls hl => ?_)
            refine lv_goto (tgt := 114) hx hb dX10_record_143 (by decide) ?_
            exact ihk4 _ _ _ (by omega) ⟨(by first | exact hP | (simp only [lp_s, ← cpb_sD, if_pos c_1, if_neg c_2, if_neg c_3, if_neg c_4, if_pos c_5]; exact hP)), (by first | exact hD | (simp only [lp_s, ← cpb_sD, if_pos c_1, if_neg c_2, if_neg c_3, if_neg c_4, if_pos c_5]; exact hD)), hS, (by first | exact lv_sub hl [1, 0] rfl | (simp only [lp_s, ← cpb_sD, if_pos c_1, if_neg c_2, if_neg c_3, if_neg c_4, if_pos c_5]; exact lv_sub hl [1, 0] rfl))⟩
        · refine lv_aload_n hx hb dX10_record_86 rfl (lv_at hl 0 rfl) ?_
          refine va_get (D := g) (ci := 9) (v := .ref m2) (C := RX10) (T := TX10) (N := 14) hx hb hts hi_wsX100 hown hK hP 0 rfl rfl 1 (by decide) (hts (.fieldLink RX10 13 "FloodBarrierModel" "history" "[J") (List.mem_of_getElem? (i := 2) rfl)) (fun _ h9 => h9) rfl dX10_record_87 ?_
          refine lv_bipush (v := 108) hx hb dX10_record_90 (by decide) ?_
          refine lv_aload_n hx hb dX10_record_92 rfl (lv_at hl 0 rfl) ?_
          refine va_get (D := g) (ci := 9) (v := .int (nI 4)) (C := RX10) (T := TX10) (N := 14) hx hb hts hi_wsX100 hown hK hP 0 rfl rfl 7 (by decide) (hts (.fieldLink RX10 46 "FloodBarrierModel" "kept" "I") (List.mem_of_getElem? (i := 1) rfl)) (fun _ h9 => h9) rfl dX10_record_93 ?_
          refine z_imulN (x := 108) (y := 4) hx hb dX10_record_96 ?_
          refine lv_iload_n hx hb dX10_record_97 rfl (lv_at hl 1 rfl) ?_
          refine z_iaddN (x := 432) (y := k3) hx hb dX10_record_98 ?_
          refine lv_aload_n hx hb dX10_record_99 rfl (lv_at hl 0 rfl) ?_
          refine va_get (D := g) (ci := 9) (v := .ref m1) (C := RX10) (T := TX10) (N := 14) hx hb hts hi_wsX100 hown hK hP 0 rfl rfl 0 (by decide) (hts (.fieldLink RX10 7 "FloodBarrierModel" "now" "[J") (List.mem_of_getElem? (i := 4) rfl)) (fun _ h9 => h9) rfl dX10_record_100 ?_
          refine lv_iload_n hx hb dX10_record_103 rfl (lv_at hl 1 rfl) ?_
          refine z_lald (ct := ct) (f := n) (k := k3) hx hb hK hP 1 rfl (by omega) (by decide) dX10_record_104 ?_
          refine z_last (ct := ct) (f := (cpb (shb hy 108 432) n (108 * 4) k3)) (k := (432 + k3)) (x := (n k3)) hx hb hK hP hD hS 2 rfl (by omega) (by decide) dX10_record_105 (fun H locs hP hD hS => ?_)
          have hP : va_P g vwCl [zO m0 9 [.ref m1, .ref m2, .ref m3, .ref m4, .ref m5, .ref m6, .ref m7, .int (nI 4), .int fl, .int (nI tn), .ref m8, .int (nI pa), .int (nI rn), .ref m9], zL ct m1 108 n, zL ct m2 540 (vp_updL (cpb (shb hy 108 432) n (108 * 4) k3) (432 + k3) (n k3)), zL ct m3 108 sl, zL ct m4 108 sp, zD ct m5 33 re, zD ct m6 165 (shb rh 33 132), zD ct m7 33 rs, zC ct m8 60 tx, zI ct m9 17 rd] H := hP
          have hD : va_D A [zO m0 9 [.ref m1, .ref m2, .ref m3, .ref m4, .ref m5, .ref m6, .ref m7, .int (nI 4), .int fl, .int (nI tn), .ref m8, .int (nI pa), .int (nI rn), .ref m9], zL ct m1 108 n, zL ct m2 540 (vp_updL (cpb (shb hy 108 432) n (108 * 4) k3) (432 + k3) (n k3)), zL ct m3 108 sl, zL ct m4 108 sp, zD ct m5 33 re, zD ct m6 165 (shb rh 33 132), zD ct m7 33 rs, zC ct m8 60 tx, zI ct m9 17 rd] := hD
          refine lv_iinc (v := nI (k3 + 1)) (lv' := [(1, .int (nI (k3 + 1))), (0, .ref m0)]) hx hb dX10_record_106 hl (k := 1) rfl (nI_add k3 1) (by decide) rfl (fun ls hl => ?_)
          refine lv_goto (tgt := 80) hx hb dX10_record_109 (by decide) ?_
          exact ihk3 _ _ _ (by omega) ⟨(by first | exact hP | (simp only [lp_s, ← cpb_s, if_pos c_1, if_neg c_2, if_neg c_3, if_pos c_4]; exact hP)), (by first | exact hD | (simp only [lp_s, ← cpb_s, if_pos c_1, if_neg c_2, if_neg c_3, if_pos c_4]; exact hD)), hS, (by first | exact lv_sub hl [1, 0] rfl | (simp only [lp_s, ← cpb_s, if_pos c_1, if_neg c_2, if_neg c_3, if_pos c_4]; exact lv_sub hl [1, 0] rfl))⟩
      · refine lv_aload_n hx hb dX10_record_47 rfl (lv_at hl 0 rfl) ?_
        refine va_get (D := g) (ci := 9) (v := .ref m6) (C := RX10) (T := TX10) (N := 14) hx hb hts hi_wsX100 hown hK hP 0 rfl rfl 5 (by decide) (hts (.fieldLink RX10 26 "FloodBarrierModel" "realHistory" "[D") (List.mem_of_getElem? (i := 3) rfl)) (fun _ h9 => h9) rfl dX10_record_48 ?_
        refine lv_iload_n hx hb dX10_record_51 rfl (lv_at hl 1 rfl) ?_
        refine lv_aload_n hx hb dX10_record_52 rfl (lv_at hl 0 rfl) ?_
        refine va_get (D := g) (ci := 9) (v := .ref m6) (C := RX10) (T := TX10) (N := 14) hx hb hts hi_wsX100 hown hK hP 0 rfl rfl 5 (by decide) (hts (.fieldLink RX10 26 "FloodBarrierModel" "realHistory" "[D") (List.mem_of_getElem? (i := 3) rfl)) (fun _ h9 => h9) rfl dX10_record_53 ?_
        refine lv_iload_n hx hb dX10_record_56 rfl (lv_at hl 1 rfl) ?_
        refine lv_bipush (v := 33) hx hb dX10_record_57 (by decide) ?_
        refine z_iaddN (x := k2) (y := 33) hx hb dX10_record_59 ?_
        refine z_dald (ct := ct) (f := (shb rh 33 k2)) (k := (k2 + 33)) hx hb hK hP 6 rfl (by omega) (by decide) dX10_record_60 ?_
        refine z_dast (ct := ct) (f := (shb rh 33 k2)) (k := k2) (x := ((shb rh 33 k2) (k2 + 33))) hx hb hK hP hD hS 6 rfl (by omega) (by decide) dX10_record_61 (fun H locs hP hD hS => ?_)
        have hP : va_P g vwCl [zO m0 9 [.ref m1, .ref m2, .ref m3, .ref m4, .ref m5, .ref m6, .ref m7, .int (nI 5), .int fl, .int (nI tn), .ref m8, .int (nI pa), .int (nI rn), .ref m9], zL ct m1 108 n, zL ct m2 540 (shb hy 108 432), zL ct m3 108 sl, zL ct m4 108 sp, zD ct m5 33 re, zD ct m6 165 (vf_upd (shb rh 33 k2) k2 ((shb rh 33 k2) (k2 + 33))), zD ct m7 33 rs, zC ct m8 60 tx, zI ct m9 17 rd] H := hP
        have hD : va_D A [zO m0 9 [.ref m1, .ref m2, .ref m3, .ref m4, .ref m5, .ref m6, .ref m7, .int (nI 5), .int fl, .int (nI tn), .ref m8, .int (nI pa), .int (nI rn), .ref m9], zL ct m1 108 n, zL ct m2 540 (shb hy 108 432), zL ct m3 108 sl, zL ct m4 108 sp, zD ct m5 33 re, zD ct m6 165 (vf_upd (shb rh 33 k2) k2 ((shb rh 33 k2) (k2 + 33))), zD ct m7 33 rs, zC ct m8 60 tx, zI ct m9 17 rd] := hD
        refine lv_iinc (v := nI (k2 + 1)) (lv' := [(1, .int (nI (k2 + 1))), (0, .ref m0)]) hx hb dX10_record_62 hl (k := 1) rfl (nI_add k2 1) (by decide) rfl (fun ls hl => ?_)
        refine lv_goto (tgt := 40) hx hb dX10_record_65 (by decide) ?_
        exact ihk2 _ _ _ (by omega) ⟨(by first | exact hP | (simp only [lp_s, ← shb_sD, if_pos c_1, if_neg c_2, if_pos c_3]; exact hP)), (by first | exact hD | (simp only [lp_s, ← shb_sD, if_pos c_1, if_neg c_2, if_pos c_3]; exact hD)), hS, (by first | exact lv_sub hl [1, 0] rfl | (simp only [lp_s, ← shb_sD, if_pos c_1, if_neg c_2, if_pos c_3]; exact lv_sub hl [1, 0] rfl))⟩
    · refine lv_aload_n hx hb dX10_record_17 rfl (lv_at hl 0 rfl) ?_
      refine va_get (D := g) (ci := 9) (v := .ref m2) (C := RX10) (T := TX10) (N := 14) hx hb hts hi_wsX100 hown hK hP 0 rfl rfl 1 (by decide) (hts (.fieldLink RX10 13 "FloodBarrierModel" "history" "[J") (List.mem_of_getElem? (i := 2) rfl)) (fun _ h9 => h9) rfl dX10_record_18 ?_
      refine lv_iload_n hx hb dX10_record_21 rfl (lv_at hl 1 rfl) ?_
      refine lv_aload_n hx hb dX10_record_22 rfl (lv_at hl 0 rfl) ?_
      refine va_get (D := g) (ci := 9) (v := .ref m2) (C := RX10) (T := TX10) (N := 14) hx hb hts hi_wsX100 hown hK hP 0 rfl rfl 1 (by decide) (hts (.fieldLink RX10 13 "FloodBarrierModel" "history" "[J") (List.mem_of_getElem? (i := 2) rfl)) (fun _ h9 => h9) rfl dX10_record_23 ?_
      refine lv_iload_n hx hb dX10_record_26 rfl (lv_at hl 1 rfl) ?_
      refine lv_bipush (v := 108) hx hb dX10_record_27 (by decide) ?_
      refine z_iaddN (x := k1) (y := 108) hx hb dX10_record_29 ?_
      refine z_lald (ct := ct) (f := (shb hy 108 k1)) (k := (k1 + 108)) hx hb hK hP 2 rfl (by omega) (by decide) dX10_record_30 ?_
      refine z_last (ct := ct) (f := (shb hy 108 k1)) (k := k1) (x := ((shb hy 108 k1) (k1 + 108))) hx hb hK hP hD hS 2 rfl (by omega) (by decide) dX10_record_31 (fun H locs hP hD hS => ?_)
      have hP : va_P g vwCl [zO m0 9 [.ref m1, .ref m2, .ref m3, .ref m4, .ref m5, .ref m6, .ref m7, .int (nI 5), .int fl, .int (nI tn), .ref m8, .int (nI pa), .int (nI rn), .ref m9], zL ct m1 108 n, zL ct m2 540 (vp_updL (shb hy 108 k1) k1 ((shb hy 108 k1) (k1 + 108))), zL ct m3 108 sl, zL ct m4 108 sp, zD ct m5 33 re, zD ct m6 165 rh, zD ct m7 33 rs, zC ct m8 60 tx, zI ct m9 17 rd] H := hP
      have hD : va_D A [zO m0 9 [.ref m1, .ref m2, .ref m3, .ref m4, .ref m5, .ref m6, .ref m7, .int (nI 5), .int fl, .int (nI tn), .ref m8, .int (nI pa), .int (nI rn), .ref m9], zL ct m1 108 n, zL ct m2 540 (vp_updL (shb hy 108 k1) k1 ((shb hy 108 k1) (k1 + 108))), zL ct m3 108 sl, zL ct m4 108 sp, zD ct m5 33 re, zD ct m6 165 rh, zD ct m7 33 rs, zC ct m8 60 tx, zI ct m9 17 rd] := hD
      refine lv_iinc (v := nI (k1 + 1)) (lv' := [(1, .int (nI (k1 + 1))), (0, .ref m0)]) hx hb dX10_record_32 hl (k := 1) rfl (nI_add k1 1) (by decide) rfl (fun ls hl => ?_)
      refine lv_goto (tgt := 10) hx hb dX10_record_35 (by decide) ?_
      exact ihk1 _ _ _ (by omega) ⟨(by first | exact hP | (simp only [lp_s, ← shb_s, if_pos c_1, if_pos c_2]; exact hP)), (by first | exact hD | (simp only [lp_s, ← shb_s, if_pos c_1, if_pos c_2]; exact hD)), hS, (by first | exact lv_sub hl [1, 0] rfl | (simp only [lp_s, ← shb_s, if_pos c_1, if_pos c_2]; exact lv_sub hl [1, 0] rfl))⟩
