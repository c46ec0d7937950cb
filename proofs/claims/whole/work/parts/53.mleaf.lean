set_option maxHeartbeats 4000000 in
set_option maxRecDepth 100000 in
theorem c_X10_in (l : Launch) (v lo hi : Int64) : Met l yX10_in wsX10_in (zRm 0 0) (va_Pc [.long v, .long lo, .long hi] (fun _ => True)) (vp_Si (fun r => r = if inP v lo hi then 1 else 0)) 0 0 (fun _ => False) := by
  refine z_stat (cc := cX10_in) (maxL := 6) (ret := some .boolean) (by decide) rfl (Nat.le_of_ble_eq_true rfl) ?_
  intro p e s m below meth c ls hx hb hr hml hts hown hlocks hl
  have hown : s.vm.findClass RX10 = some m.cls := hown
  have hl : lv_has ls 6 [(0, .long v), (2, .long lo), (4, .long hi)] := hl
  refine lv_lload_n hx hb dX10_in_0 rfl (lv_at hl 0 rfl) ?_
  refine lv_lload_n hx hb dX10_in_1 rfl (lv_at hl 1 rfl) ?_
  refine z_lif_lt (tgt := 17) hx hb dX10_in_2 dX10_in_3 (by decide) (fun c_1 => ?_) (fun c_1 => ?_)
  · refine lv_iconst (v := 0) hx hb dX10_in_17 (by decide) ?_
    exact z_zretR hx hb hr hlocks rfl rfl (by simp [c_1]) dX10_in_18
  · refine lv_lload_n hx hb dX10_in_6 rfl (lv_at hl 0 rfl) ?_
    refine lv_lload hx hb dX10_in_7 (lv_at hl 2 rfl) ?_
    refine z_lif_gt (tgt := 17) hx hb dX10_in_9 dX10_in_10 (by decide) (fun c_2 => ?_) (fun c_2 => ?_)
    · refine lv_iconst (v := 0) hx hb dX10_in_17 (by decide) ?_
      exact z_zretR hx hb hr hlocks rfl rfl (by simp [c_1, c_2]) dX10_in_18
    · refine lv_iconst (v := 1) hx hb dX10_in_13 (by decide) ?_
      refine lv_goto (tgt := 18) hx hb dX10_in_14 (by decide) ?_
      exact z_zretR hx hb hr hlocks rfl rfl (by simp [c_1, c_2]) dX10_in_18

set_option maxHeartbeats 4000000 in
set_option maxRecDepth 100000 in
theorem c_X10_cell (l : Launch) (g : va_G) (ct : Nat → ClassId) (m0 m1 m2 m3 m4 m5 m6 m7 m8 m9 : Nat) (n hy sl sp : Nat → Int64) (re rh rs : Nat → UInt64) (kp : Nat) (fl : Int32) (tn : Nat) (tx : Nat → Int32) (pa rn : Nat) (rd : Nat → Int32) (k : Nat) (hk : k < 108) : Met l yX10_cell wsX10_cell (zRm 0 0) (va_Pc [.ref m0, .int (nI k)] (zR g ct [zO m0 9 [.ref m1, .ref m2, .ref m3, .ref m4, .ref m5, .ref m6, .ref m7, .int (nI kp), .int fl, .int (nI tn), .ref m8, .int (nI pa), .int (nI rn), .ref m9], zL ct m1 108 n, zL ct m2 540 hy, zL ct m3 108 sl, zL ct m4 108 sp, zD ct m5 33 re, zD ct m6 165 rh, zD ct m7 33 rs, zC ct m8 60 tx, zI ct m9 17 rd])) (vp_Si (fun r => r = (n k).toInt32)) 0 0 (fun _ => False) := by
  refine z_read (cc := cX10_cell) (maxL := 2) (ret := some .int) (by decide) rfl (Nat.le_of_ble_eq_true rfl) ?_
  intro p e s m below meth c ls hx hb hr hml hts hown hlocks hP hK hl
  have hown : s.vm.findClass RX10 = some m.cls := hown
  have hl : lv_has ls 2 [(0, .ref m0), (1, .int (nI k))] := hl
  have hi_wsX100 : ∀ w ∈ wsX100, w ∈ wsX10_cell := fun w h => List.mem_cons_of_mem _ (List.mem_append_right _ h)
  refine lv_aload_n hx hb dX10_cell_0 rfl (lv_at hl 0 rfl) ?_
  refine va_get (D := g) (ci := 9) (v := .ref m1) (C := RX10) (T := TX10) (N := 14) hx hb hts hi_wsX100 hown hK hP 0 rfl rfl 0 (by decide) (hts (.fieldLink RX10 7 "FloodBarrierModel" "now" "[J") (List.mem_of_getElem? (i := 1) rfl)) (fun _ h9 => h9) rfl dX10_cell_1 ?_
  refine lv_iload_n hx hb dX10_cell_4 rfl (lv_at hl 1 rfl) ?_
  refine z_lald (ct := ct) (f := n) (k := k) hx hb hK hP 1 rfl (by omega) (by decide) dX10_cell_5 ?_
  refine lv_l2i (v := (n k).toInt32) hx hb dX10_cell_6 rfl ?_
  exact z_iretR hx hb hr hlocks rfl rfl dX10_cell_7

set_option maxHeartbeats 4000000 in
set_option maxRecDepth 100000 in
theorem c_X10_of (l : Launch) (g : va_G) (ct : Nat → ClassId) (m0 m1 m2 m3 m4 m5 m6 m7 m8 m9 : Nat) (n hy sl sp : Nat → Int64) (re rh rs : Nat → UInt64) (kp : Nat) (fl : Int32) (tn : Nat) (tx : Nat → Int32) (pa rn : Nat) (rd : Nat → Int32) (k w : Nat) (hk : k < 8) (hw : w < 6) : Met l yX10_of wsX10_of (zRm 1 21) (va_Pc [.ref m0, .int (nI k), .int (nI w)] (zR g ct [zO m0 9 [.ref m1, .ref m2, .ref m3, .ref m4, .ref m5, .ref m6, .ref m7, .int (nI kp), .int fl, .int (nI tn), .ref m8, .int (nI pa), .int (nI rn), .ref m9], zL ct m1 108 n, zL ct m2 540 hy, zL ct m3 108 sl, zL ct m4 108 sp, zD ct m5 33 re, zD ct m6 165 rh, zD ct m7 33 rs, zC ct m8 60 tx, zI ct m9 17 rd])) (vp_Si (fun r => r = (n (20 + 6 * k + w)).toInt32)) 0 0 (fun _ => False) := by
  refine z_read (cc := cX10_of) (maxL := 3) (ret := some .int) (by decide) rfl (Nat.le_of_ble_eq_true rfl) ?_
  intro p e s m below meth c ls hx hb hr hml hts hown hlocks hP hK hl
  have hown : s.vm.findClass RX10 = some m.cls := hown
  have hl : lv_has ls 3 [(0, .ref m0), (1, .int (nI k)), (2, .int (nI w))] := hl
  refine lv_aload_n hx hb dX10_of_0 rfl (lv_at hl 0 rfl) ?_
  refine lv_bipush (v := 20) hx hb dX10_of_1 (by decide) ?_
  refine lv_bipush (v := 6) hx hb dX10_of_3 (by decide) ?_
  refine lv_iload_n hx hb dX10_of_5 rfl (lv_at hl 1 rfl) ?_
  refine z_imulN (x := 6) (y := k) hx hb dX10_of_6 ?_
  refine z_iaddN (x := 20) (y := (6 * k)) hx hb dX10_of_7 ?_
  refine lv_iload_n hx hb dX10_of_8 rfl (lv_at hl 2 rfl) ?_
  refine z_iaddN (x := (20 + (6 * k))) (y := w) hx hb dX10_of_9 ?_
  refine z_cVi (wc := [zO m0 9 [.ref m1, .ref m2, .ref m3, .ref m4, .ref m5, .ref m6, .ref m7, .int (nI kp), .int fl, .int (nI tn), .ref m8, .int (nI pa), .int (nI rn), .ref m9], zL ct m1 108 n, zL ct m2 540 hy, zL ct m3 108 sl, zL ct m4 108 sp, zD ct m5 33 re, zD ct m6 165 rh, zD ct m7 33 rs, zC ct m8 60 tx, zI ct m9 17 rd]) (As := [.int (nI ((20 + (6 * k)) + w))]) (rest := []) ⟨hx, hb, hml, hown, hts⟩ hK hP [0, 1, 2, 3, 4, 5, 6, 7, 8, 9] rfl (c_X10_cell l g ct m0 m1 m2 m3 m4 m5 m6 m7 m8 m9 n hy sl sp re rh rs kp fl tn tx pa rn rd ((20 + (6 * k)) + w) (by omega)) (cwV 1 hts gX10_of_X10_cell rfl rfl rfl (by decide +kernel) ⟨Nat.le_of_ble_eq_true rfl, Nat.le_of_ble_eq_true rfl⟩) 0 rfl rfl rfl hl.1 rfl (Nat.le_of_ble_eq_true rfl) dX10_of_10 ⟨Nat.zero_le _, Nat.zero_le _⟩ ?_
  exact z_iretR hx hb hr hlocks rfl rfl dX10_of_13

set_option maxHeartbeats 4000000 in
set_option maxRecDepth 100000 in
theorem c_X10_to (l : Launch) (g : va_G) (ct : Nat → ClassId) (sz : Nat) (m0 m1 m2 m3 m4 m5 m6 m7 m8 m9 : Nat) (n hy sl sp : Nat → Int64) (re rh rs : Nat → UInt64) (kp : Nat) (fl : Int32) (tn : Nat) (tx : Nat → Int32) (pa rn : Nat) (rd : Nat → Int32) (k w : Nat) (hk : k < 8) (hw : w < 6) (x : Int32) : Met l yX10_to wsX10_to (zRm 0 0) (va_Pc [.ref m0, .int (nI k), .int (nI w), .int x] (zW g ct [zO m0 9 [.ref m1, .ref m2, .ref m3, .ref m4, .ref m5, .ref m6, .ref m7, .int (nI kp), .int fl, .int (nI tn), .ref m8, .int (nI pa), .int (nI rn), .ref m9], zL ct m1 108 n, zL ct m2 540 hy, zL ct m3 108 sl, zL ct m4 108 sp, zD ct m5 33 re, zD ct m6 165 rh, zD ct m7 33 rs, zC ct m8 60 tx, zI ct m9 17 rd] sz)) (zQv g [zO m0 9 [.ref m1, .ref m2, .ref m3, .ref m4, .ref m5, .ref m6, .ref m7, .int (nI kp), .int fl, .int (nI tn), .ref m8, .int (nI pa), .int (nI rn), .ref m9], zL ct m1 108 (vp_updL n (20 + 6 * k + w) x.toInt64), zL ct m2 540 hy, zL ct m3 108 sl, zL ct m4 108 sp, zD ct m5 33 re, zD ct m6 165 rh, zD ct m7 33 rs, zC ct m8 60 tx, zI ct m9 17 rd] (va_A [zO m0 9 [.ref m1, .ref m2, .ref m3, .ref m4, .ref m5, .ref m6, .ref m7, .int (nI kp), .int fl, .int (nI tn), .ref m8, .int (nI pa), .int (nI rn), .ref m9], zL ct m1 108 n, zL ct m2 540 hy, zL ct m3 108 sl, zL ct m4 108 sp, zD ct m5 33 re, zD ct m6 165 rh, zD ct m7 33 rs, zC ct m8 60 tx, zI ct m9 17 rd] sz)) 0 0 (va_A [zO m0 9 [.ref m1, .ref m2, .ref m3, .ref m4, .ref m5, .ref m6, .ref m7, .int (nI kp), .int fl, .int (nI tn), .ref m8, .int (nI pa), .int (nI rn), .ref m9], zL ct m1 108 n, zL ct m2 540 hy, zL ct m3 108 sl, zL ct m4 108 sp, zD ct m5 33 re, zD ct m6 165 rh, zD ct m7 33 rs, zC ct m8 60 tx, zI ct m9 17 rd] sz) := by
  refine z_write (QA := zQv g [zO m0 9 [.ref m1, .ref m2, .ref m3, .ref m4, .ref m5, .ref m6, .ref m7, .int (nI kp), .int fl, .int (nI tn), .ref m8, .int (nI pa), .int (nI rn), .ref m9], zL ct m1 108 (vp_updL n (20 + 6 * k + w) x.toInt64), zL ct m2 540 hy, zL ct m3 108 sl, zL ct m4 108 sp, zD ct m5 33 re, zD ct m6 165 rh, zD ct m7 33 rs, zC ct m8 60 tx, zI ct m9 17 rd]) (cc := cX10_to) (maxL := 4) (ret := none) (by decide) rfl (Nat.le_of_ble_eq_true rfl) ?_
  intro p e s m below meth c ls A hx hb hr hml hts hown hlocks hin hP hK hD hNW hA hS hl
  have hown : s.vm.findClass RX10 = some m.cls := hown
  have hl : lv_has ls 4 [(0, .ref m0), (1, .int (nI k)), (2, .int (nI w)), (3, .int x)] := hl
  have hi_wsX100 : ∀ w ∈ wsX100, w ∈ wsX10_to := fun w h => List.mem_cons_of_mem _ (List.mem_append_right _ h)
  refine lv_aload_n hx hb dX10_to_0 rfl (lv_at hl 0 rfl) ?_
  refine va_get (D := g) (ci := 9) (v := .ref m1) (C := RX10) (T := TX10) (N := 14) hx hb hts hi_wsX100 hown hK hP 0 rfl rfl 0 (by decide) (hts (.fieldLink RX10 7 "FloodBarrierModel" "now" "[J") (List.mem_of_getElem? (i := 1) rfl)) (fun _ h9 => h9) rfl dX10_to_1 ?_
  refine lv_bipush (v := 20) hx hb dX10_to_4 (by decide) ?_
  refine lv_bipush (v := 6) hx hb dX10_to_6 (by decide) ?_
  refine lv_iload_n hx hb dX10_to_8 rfl (lv_at hl 1 rfl) ?_
  refine z_imulN (x := 6) (y := k) hx hb dX10_to_9 ?_
  refine z_iaddN (x := 20) (y := (6 * k)) hx hb dX10_to_10 ?_
  refine lv_iload_n hx hb dX10_to_11 rfl (lv_at hl 2 rfl) ?_
  refine z_iaddN (x := (20 + (6 * k))) (y := w) hx hb dX10_to_12 ?_
  refine lv_iload_n hx hb dX10_to_13 rfl (lv_at hl 3 rfl) ?_
  refine lv_i2l (v := x.toInt64) hx hb dX10_to_14 rfl ?_
  refine z_last (ct := ct) (f := n) (k := ((20 + (6 * k)) + w)) (x := x.toInt64) hx hb hK hP hD hS 1 rfl (by omega) (by decide) dX10_to_15 (fun H locs hP hD hS => ?_)
  have hP : va_P g vwCl [zO m0 9 [.ref m1, .ref m2, .ref m3, .ref m4, .ref m5, .ref m6, .ref m7, .int (nI kp), .int fl, .int (nI tn), .ref m8, .int (nI pa), .int (nI rn), .ref m9], zL ct m1 108 (vp_updL n ((20 + (6 * k)) + w) x.toInt64), zL ct m2 540 hy, zL ct m3 108 sl, zL ct m4 108 sp, zD ct m5 33 re, zD ct m6 165 rh, zD ct m7 33 rs, zC ct m8 60 tx, zI ct m9 17 rd] H := hP
  have hD : va_D A [zO m0 9 [.ref m1, .ref m2, .ref m3, .ref m4, .ref m5, .ref m6, .ref m7, .int (nI kp), .int fl, .int (nI tn), .ref m8, .int (nI pa), .int (nI rn), .ref m9], zL ct m1 108 (vp_updL n ((20 + (6 * k)) + w) x.toInt64), zL ct m2 540 hy, zL ct m3 108 sl, zL ct m4 108 sp, zD ct m5 33 re, zD ct m6 165 rh, zD ct m7 33 rs, zC ct m8 60 tx, zI ct m9 17 rd] := hD
  exact z_vretW hx hb hr hlocks hS hP hD rfl (Nat.le_refl _) (Nat.le_refl _) dX10_to_16

set_option maxHeartbeats 4000000 in
set_option maxRecDepth 100000 in
theorem c_X10_ofPump (l : Launch) (g : va_G) (ct : Nat → ClassId) (m0 m1 m2 m3 m4 m5 m6 m7 m8 m9 : Nat) (n hy sl sp : Nat → Int64) (re rh rs : Nat → UInt64) (kp : Nat) (fl : Int32) (tn : Nat) (tx : Nat → Int32) (pa rn : Nat) (rd : Nat → Int32) (k w : Nat) (hk : k < 6) (hw : w < 4) : Met l yX10_ofPump wsX10_ofPump (zRm 1 21) (va_Pc [.ref m0, .int (nI k), .int (nI w)] (zR g ct [zO m0 9 [.ref m1, .ref m2, .ref m3, .ref m4, .ref m5, .ref m6, .ref m7, .int (nI kp), .int fl, .int (nI tn), .ref m8, .int (nI pa), .int (nI rn), .ref m9], zL ct m1 108 n, zL ct m2 540 hy, zL ct m3 108 sl, zL ct m4 108 sp, zD ct m5 33 re, zD ct m6 165 rh, zD ct m7 33 rs, zC ct m8 60 tx, zI ct m9 17 rd])) (vp_Si (fun r => r = (n (84 + 4 * k + w)).toInt32)) 0 0 (fun _ => False) := by
  refine z_read (cc := cX10_ofPump) (maxL := 3) (ret := some .int) (by decide) rfl (Nat.le_of_ble_eq_true rfl) ?_
  intro p e s m below meth c ls hx hb hr hml hts hown hlocks hP hK hl
  have hown : s.vm.findClass RX10 = some m.cls := hown
  have hl : lv_has ls 3 [(0, .ref m0), (1, .int (nI k)), (2, .int (nI w))] := hl
  refine lv_aload_n hx hb dX10_ofPump_0 rfl (lv_at hl 0 rfl) ?_
  refine lv_bipush (v := 84) hx hb dX10_ofPump_1 (by decide) ?_
  refine lv_iconst (v := 4) hx hb dX10_ofPump_3 (by decide) ?_
  refine lv_iload_n hx hb dX10_ofPump_4 rfl (lv_at hl 1 rfl) ?_
  refine z_imulN (x := 4) (y := k) hx hb dX10_ofPump_5 ?_
  refine z_iaddN (x := 84) (y := (4 * k)) hx hb dX10_ofPump_6 ?_
  refine lv_iload_n hx hb dX10_ofPump_7 rfl (lv_at hl 2 rfl) ?_
  refine z_iaddN (x := (84 + (4 * k))) (y := w) hx hb dX10_ofPump_8 ?_
  refine z_cVi (wc := [zO m0 9 [.ref m1, .ref m2, .ref m3, .ref m4, .ref m5, .ref m6, .ref m7, .int (nI kp), .int fl, .int (nI tn), .ref m8, .int (nI pa), .int (nI rn), .ref m9], zL ct m1 108 n, zL ct m2 540 hy, zL ct m3 108 sl, zL ct m4 108 sp, zD ct m5 33 re, zD ct m6 165 rh, zD ct m7 33 rs, zC ct m8 60 tx, zI ct m9 17 rd]) (As := [.int (nI ((84 + (4 * k)) + w))]) (rest := []) ⟨hx, hb, hml, hown, hts⟩ hK hP [0, 1, 2, 3, 4, 5, 6, 7, 8, 9] rfl (c_X10_cell l g ct m0 m1 m2 m3 m4 m5 m6 m7 m8 m9 n hy sl sp re rh rs kp fl tn tx pa rn rd ((84 + (4 * k)) + w) (by omega)) (cwV 1 hts gX10_ofPump_X10_cell rfl rfl rfl (by decide +kernel) ⟨Nat.le_of_ble_eq_true rfl, Nat.le_of_ble_eq_true rfl⟩) 0 rfl rfl rfl hl.1 rfl (Nat.le_of_ble_eq_true rfl) dX10_ofPump_9 ⟨Nat.zero_le _, Nat.zero_le _⟩ ?_
  exact z_iretR hx hb hr hlocks rfl rfl dX10_ofPump_12

set_option maxHeartbeats 4000000 in
set_option maxRecDepth 100000 in
theorem c_X10_isNone (l : Launch) (g : va_G) (ct : Nat → ClassId) (m0 m1 m2 m3 m4 m5 m6 m7 m8 m9 : Nat) (n hy sl sp : Nat → Int64) (re rh rs : Nat → UInt64) (kp : Nat) (fl : Int32) (tn : Nat) (tx : Nat → Int32) (pa rn : Nat) (rd : Nat → Int32) (x : Int32) (w : Nat) (hw : w < 108) : Met l yX10_isNone wsX10_isNone (zRm 1 25) (va_Pc [.ref m0, .int x, .int (nI w)] (zR g ct [zO m0 9 [.ref m1, .ref m2, .ref m3, .ref m4, .ref m5, .ref m6, .ref m7, .int (nI kp), .int fl, .int (nI tn), .ref m8, .int (nI pa), .int (nI rn), .ref m9], zL ct m1 108 n, zL ct m2 540 hy, zL ct m3 108 sl, zL ct m4 108 sp, zD ct m5 33 re, zD ct m6 165 rh, zD ct m7 33 rs, zC ct m8 60 tx, zI ct m9 17 rd])) (vp_Si (fun r => r = if ¬ inP x.toInt64 0 (n w - 1) then 1 else 0)) 0 0 (fun _ => False) := by
  refine z_read (cc := cX10_isNone) (maxL := 3) (ret := some .boolean) (by decide) rfl (Nat.le_of_ble_eq_true rfl) ?_
  intro p e s m below meth c ls hx hb hr hml hts hown hlocks hP hK hl
  have hown : s.vm.findClass RX10 = some m.cls := hown
  have hl : lv_has ls 3 [(0, .ref m0), (1, .int x), (2, .int (nI w))] := hl
  have hi_wsX100 : ∀ w ∈ wsX100, w ∈ wsX10_isNone := fun w h => List.mem_cons_of_mem _ (List.mem_append_right _ h)
  refine lv_iload_n hx hb dX10_isNone_0 rfl (lv_at hl 1 rfl) ?_
  refine lv_i2l (v := x.toInt64) hx hb dX10_isNone_1 rfl ?_
  refine lv_lconst (v := 0) hx hb dX10_isNone_2 (by decide) ?_
  refine lv_aload_n hx hb dX10_isNone_3 rfl (lv_at hl 0 rfl) ?_
  refine va_get (D := g) (ci := 9) (v := .ref m1) (C := RX10) (T := TX10) (N := 14) hx hb hts hi_wsX100 hown hK hP 0 rfl rfl 0 (by decide) (hts (.fieldLink RX10 7 "FloodBarrierModel" "now" "[J") (List.mem_of_getElem? (i := 1) rfl)) (fun _ h9 => h9) rfl dX10_isNone_4 ?_
  refine lv_iload_n hx hb dX10_isNone_7 rfl (lv_at hl 2 rfl) ?_
  refine z_lald (ct := ct) (f := n) (k := w) hx hb hK hP 1 rfl (by omega) (by decide) dX10_isNone_8 ?_
  refine lv_lconst (v := 1) hx hb dX10_isNone_9 (by decide) ?_
  refine lv_lsub hx hb dX10_isNone_10 ?_
  refine z_cSi (As := [.long x.toInt64, .long 0, .long ((n w) - 1)]) (rest := []) ⟨hx, hb, hml, hown, hts⟩ (c_X10_in l x.toInt64 0 ((n w) - 1)) (va_cwS 3 hts gX10_isNone_X10_in rfl rfl rfl (by decide +kernel) ⟨Nat.le_of_ble_eq_true rfl, Nat.le_of_ble_eq_true rfl⟩) rfl hl.1 rfl (Nat.le_of_ble_eq_true rfl) dX10_isNone_11 ⟨Nat.zero_le _, Nat.zero_le _⟩ ?_
  refine z_bif_ne (P := (inP x.toInt64 0 ((n w) - 1))) (tgt := 21) hx hb dX10_isNone_14 (by decide) (fun c_1 => ?_) (fun c_1 => ?_)
  · refine lv_iconst (v := 0) hx hb dX10_isNone_21 (by decide) ?_
    exact z_zretR hx hb hr hlocks rfl rfl (by simp [c_1]) dX10_isNone_22
  · refine lv_iconst (v := 1) hx hb dX10_isNone_17 (by decide) ?_
    refine lv_goto (tgt := 22) hx hb dX10_isNone_18 (by decide) ?_
    exact z_zretR hx hb hr hlocks rfl rfl (by simp [c_1]) dX10_isNone_22

set_option maxHeartbeats 4000000 in
set_option maxRecDepth 100000 in
theorem c_X10_inner (l : Launch) (g : va_G) (ct : Nat → ClassId) (m0 m1 m2 m3 m4 m5 m6 m7 m8 m9 : Nat) (n hy sl sp : Nat → Int64) (re rh rs : Nat → UInt64) (kp : Nat) (fl : Int32) (tn : Nat) (tx : Nat → Int32) (pa rn : Nat) (rd : Nat → Int32) (hq : vf_n64 (FP.ddiv (FP.l2d (n 12)) (FP.l2d (n 5)))) : Met l yX10_inner wsX10_inner (zRm 0 0) (va_Pc [.ref m0] (zR g ct [zO m0 9 [.ref m1, .ref m2, .ref m3, .ref m4, .ref m5, .ref m6, .ref m7, .int (nI kp), .int fl, .int (nI tn), .ref m8, .int (nI pa), .int (nI rn), .ref m9], zL ct m1 108 n, zL ct m2 540 hy, zL ct m3 108 sl, zL ct m4 108 sp, zD ct m5 33 re, zD ct m6 165 rh, zD ct m7 33 rs, zC ct m8 60 tx, zI ct m9 17 rd])) (vp_Sd (fun r => r = FP.ddiv (FP.l2d (n 12)) (FP.l2d (n 5)))) 0 0 (fun _ => False) := by
  refine z_read (cc := cX10_inner) (maxL := 1) (ret := some .double) (by decide) rfl (Nat.le_of_ble_eq_true rfl) ?_
  intro p e s m below meth c ls hx hb hr hml hts hown hlocks hP hK hl
  have hown : s.vm.findClass RX10 = some m.cls := hown
  have hl : lv_has ls 1 [(0, .ref m0)] := hl
  have hi_wsX100 : ∀ w ∈ wsX100, w ∈ wsX10_inner := fun w h => List.mem_cons_of_mem _ (List.mem_append_right _ h)
  refine lv_aload_n hx hb dX10_inner_0 rfl (lv_at hl 0 rfl) ?_
  refine va_get (D := g) (ci := 9) (v := .ref m1) (C := RX10) (T := TX10) (N := 14) hx hb hts hi_wsX100 hown hK hP 0 rfl rfl 0 (by decide) (hts (.fieldLink RX10 7 "FloodBarrierModel" "now" "[J") (List.mem_of_getElem? (i := 1) rfl)) (fun _ h9 => h9) rfl dX10_inner_1 ?_
  refine lv_bipush (v := 12) hx hb dX10_inner_4 (by decide) ?_
  refine z_lald (ct := ct) (f := n) (k := 12) hx hb hK hP 1 rfl (by omega) (by decide) dX10_inner_6 ?_
  refine lv_l2d hx hb dX10_inner_7 ?_
  refine lv_aload_n hx hb dX10_inner_8 rfl (lv_at hl 0 rfl) ?_
  refine va_get (D := g) (ci := 9) (v := .ref m1) (C := RX10) (T := TX10) (N := 14) hx hb hts hi_wsX100 hown hK hP 0 rfl rfl 0 (by decide) (hts (.fieldLink RX10 7 "FloodBarrierModel" "now" "[J") (List.mem_of_getElem? (i := 1) rfl)) (fun _ h9 => h9) rfl dX10_inner_9 ?_
  refine lv_iconst (v := 5) hx hb dX10_inner_12 (by decide) ?_
  refine z_lald (ct := ct) (f := n) (k := 5) hx hb hK hP 1 rfl (by omega) (by decide) dX10_inner_13 ?_
  refine lv_l2d hx hb dX10_inner_14 ?_
  refine lv_ddiv hx hb dX10_inner_15 hq ?_
  exact z_dretR hx hb hr hlocks rfl rfl dX10_inner_16

def finN (n : Nat → Int64) (x : Int64) (w : Nat) : Nat → Int64 := vp_updL (vp_updL n 12 (n 12 + x)) w ((vp_updL n 12 (n 12 + x)) w + x)
def isF (n : Nat → Int64) (x : Int64) : Int64 := if n 12 ≤ x then n 12 else x
def foutN (n : Nat → Int64) (x : Int64) (w : Nat) : Nat → Int64 := vp_updL (vp_updL n 12 (n 12 - isF n x)) w ((vp_updL n 12 (n 12 - isF n x)) w + isF n x)

set_option maxHeartbeats 4000000 in
set_option maxRecDepth 100000 in
theorem c_X10_flowsIn (l : Launch) (g : va_G) (ct : Nat → ClassId) (sz : Nat) (m0 m1 m2 m3 m4 m5 m6 m7 m8 m9 : Nat) (n hy sl sp : Nat → Int64) (re rh rs : Nat → UInt64) (kp : Nat) (fl : Int32) (tn : Nat) (tx : Nat → Int32) (pa rn : Nat) (rd : Nat → Int32) (x : Int64) (w : Nat) (hw : w < 108) : Met l yX10_flowsIn wsX10_flowsIn (zRm 0 0) (va_Pc [.ref m0, .long x, .int (nI w)] (zW g ct [zO m0 9 [.ref m1, .ref m2, .ref m3, .ref m4, .ref m5, .ref m6, .ref m7, .int (nI kp), .int fl, .int (nI tn), .ref m8, .int (nI pa), .int (nI rn), .ref m9], zL ct m1 108 n, zL ct m2 540 hy, zL ct m3 108 sl, zL ct m4 108 sp, zD ct m5 33 re, zD ct m6 165 rh, zD ct m7 33 rs, zC ct m8 60 tx, zI ct m9 17 rd] sz)) (zQv g [zO m0 9 [.ref m1, .ref m2, .ref m3, .ref m4, .ref m5, .ref m6, .ref m7, .int (nI kp), .int fl, .int (nI tn), .ref m8, .int (nI pa), .int (nI rn), .ref m9], zL ct m1 108 (finN n x w), zL ct m2 540 hy, zL ct m3 108 sl, zL ct m4 108 sp, zD ct m5 33 re, zD ct m6 165 rh, zD ct m7 33 rs, zC ct m8 60 tx, zI ct m9 17 rd] (va_A [zO m0 9 [.ref m1, .ref m2, .ref m3, .ref m4, .ref m5, .ref m6, .ref m7, .int (nI kp), .int fl, .int (nI tn), .ref m8, .int (nI pa), .int (nI rn), .ref m9], zL ct m1 108 n, zL ct m2 540 hy, zL ct m3 108 sl, zL ct m4 108 sp, zD ct m5 33 re, zD ct m6 165 rh, zD ct m7 33 rs, zC ct m8 60 tx, zI ct m9 17 rd] sz)) 0 0 (va_A [zO m0 9 [.ref m1, .ref m2, .ref m3, .ref m4, .ref m5, .ref m6, .ref m7, .int (nI kp), .int fl, .int (nI tn), .ref m8, .int (nI pa), .int (nI rn), .ref m9], zL ct m1 108 n, zL ct m2 540 hy, zL ct m3 108 sl, zL ct m4 108 sp, zD ct m5 33 re, zD ct m6 165 rh, zD ct m7 33 rs, zC ct m8 60 tx, zI ct m9 17 rd] sz) := by
  refine z_write (QA := zQv g [zO m0 9 [.ref m1, .ref m2, .ref m3, .ref m4, .ref m5, .ref m6, .ref m7, .int (nI kp), .int fl, .int (nI tn), .ref m8, .int (nI pa), .int (nI rn), .ref m9], zL ct m1 108 (finN n x w), zL ct m2 540 hy, zL ct m3 108 sl, zL ct m4 108 sp, zD ct m5 33 re, zD ct m6 165 rh, zD ct m7 33 rs, zC ct m8 60 tx, zI ct m9 17 rd]) (cc := cX10_flowsIn) (maxL := 4) (ret := none) (by decide) rfl (Nat.le_of_ble_eq_true rfl) ?_
  intro p e s m below meth c ls A hx hb hr hml hts hown hlocks hin hP hK hD hNW hA hS hl
  have hown : s.vm.findClass RX10 = some m.cls := hown
  have hl : lv_has ls 4 [(0, .ref m0), (1, .long x), (3, .int (nI w))] := hl
  have hi_wsX100 : ∀ w ∈ wsX100, w ∈ wsX10_flowsIn := fun w h => List.mem_cons_of_mem _ (List.mem_append_right _ h)
  refine lv_aload_n hx hb dX10_flowsIn_0 rfl (lv_at hl 0 rfl) ?_
  refine va_get (D := g) (ci := 9) (v := .ref m1) (C := RX10) (T := TX10) (N := 14) hx hb hts hi_wsX100 hown hK hP 0 rfl rfl 0 (by decide) (hts (.fieldLink RX10 7 "FloodBarrierModel" "now" "[J") (List.mem_of_getElem? (i := 1) rfl)) (fun _ h9 => h9) rfl dX10_flowsIn_1 ?_
  refine lv_bipush (v := 12) hx hb dX10_flowsIn_4 (by decide) ?_
  refine lv_dup2_11 hx hb dX10_flowsIn_6 rfl rfl ?_
  refine z_lald (ct := ct) (f := n) (k := 12) hx hb hK hP 1 rfl (by omega) (by decide) dX10_flowsIn_7 ?_
  refine lv_lload_n hx hb dX10_flowsIn_8 rfl (lv_at hl 1 rfl) ?_
  refine lv_ladd hx hb dX10_flowsIn_9 ?_
  refine z_last (ct := ct) (f := n) (k := 12) (x := ((n 12) + x)) hx hb hK hP hD hS 1 rfl (by omega) (by decide) dX10_flowsIn_10 (fun H locs hP hD hS => ?_)
  have hP : va_P g vwCl [zO m0 9 [.ref m1, .ref m2, .ref m3, .ref m4, .ref m5, .ref m6, .ref m7, .int (nI kp), .int fl, .int (nI tn), .ref m8, .int (nI pa), .int (nI rn), .ref m9], zL ct m1 108 (vp_updL n 12 ((n 12) + x)), zL ct m2 540 hy, zL ct m3 108 sl, zL ct m4 108 sp, zD ct m5 33 re, zD ct m6 165 rh, zD ct m7 33 rs, zC ct m8 60 tx, zI ct m9 17 rd] H := hP
  have hD : va_D A [zO m0 9 [.ref m1, .ref m2, .ref m3, .ref m4, .ref m5, .ref m6, .ref m7, .int (nI kp), .int fl, .int (nI tn), .ref m8, .int (nI pa), .int (nI rn), .ref m9], zL ct m1 108 (vp_updL n 12 ((n 12) + x)), zL ct m2 540 hy, zL ct m3 108 sl, zL ct m4 108 sp, zD ct m5 33 re, zD ct m6 165 rh, zD ct m7 33 rs, zC ct m8 60 tx, zI ct m9 17 rd] := hD
  refine lv_aload_n hx hb dX10_flowsIn_11 rfl (lv_at hl 0 rfl) ?_
  refine va_get (D := g) (ci := 9) (v := .ref m1) (C := RX10) (T := TX10) (N := 14) hx hb hts hi_wsX100 hown hK hP 0 rfl rfl 0 (by decide) (hts (.fieldLink RX10 7 "FloodBarrierModel" "now" "[J") (List.mem_of_getElem? (i := 1) rfl)) (fun _ h9 => h9) rfl dX10_flowsIn_12 ?_
  refine lv_iload_n hx hb dX10_flowsIn_15 rfl (lv_at hl 2 rfl) ?_
  refine lv_dup2_11 hx hb dX10_flowsIn_16 rfl rfl ?_
  refine z_lald (ct := ct) (f := (vp_updL n 12 ((n 12) + x))) (k := w) hx hb hK hP 1 rfl (by omega) (by decide) dX10_flowsIn_17 ?_
  refine lv_lload_n hx hb dX10_flowsIn_18 rfl (lv_at hl 1 rfl) ?_
  refine lv_ladd hx hb dX10_flowsIn_19 ?_
  refine z_last (ct := ct) (f := (vp_updL n 12 ((n 12) + x))) (k := w) (x := (((vp_updL n 12 ((n 12) + x)) w) + x)) hx hb hK hP hD hS 1 rfl (by omega) (by decide) dX10_flowsIn_20 (fun H locs hP hD hS => ?_)
  have hP : va_P g vwCl [zO m0 9 [.ref m1, .ref m2, .ref m3, .ref m4, .ref m5, .ref m6, .ref m7, .int (nI kp), .int fl, .int (nI tn), .ref m8, .int (nI pa), .int (nI rn), .ref m9], zL ct m1 108 (vp_updL (vp_updL n 12 ((n 12) + x)) w (((vp_updL n 12 ((n 12) + x)) w) + x)), zL ct m2 540 hy, zL ct m3 108 sl, zL ct m4 108 sp, zD ct m5 33 re, zD ct m6 165 rh, zD ct m7 33 rs, zC ct m8 60 tx, zI ct m9 17 rd] H := hP
  have hD : va_D A [zO m0 9 [.ref m1, .ref m2, .ref m3, .ref m4, .ref m5, .ref m6, .ref m7, .int (nI kp), .int fl, .int (nI tn), .ref m8, .int (nI pa), .int (nI rn), .ref m9], zL ct m1 108 (vp_updL (vp_updL n 12 ((n 12) + x)) w (((vp_updL n 12 ((n 12) + x)) w) + x)), zL ct m2 540 hy, zL ct m3 108 sl, zL ct m4 108 sp, zD ct m5 33 re, zD ct m6 165 rh, zD ct m7 33 rs, zC ct m8 60 tx, zI ct m9 17 rd] := hD
  exact z_vretW hx hb hr hlocks hS hP hD rfl (Nat.le_refl _) (Nat.le_refl _) dX10_flowsIn_21

set_option maxHeartbeats 4000000 in
set_option maxRecDepth 100000 in
theorem c_X10_flowsOut (l : Launch) (g : va_G) (ct : Nat → ClassId) (sz : Nat) (m0 m1 m2 m3 m4 m5 m6 m7 m8 m9 : Nat) (n hy sl sp : Nat → Int64) (re rh rs : Nat → UInt64) (kp : Nat) (fl : Int32) (tn : Nat) (tx : Nat → Int32) (pa rn : Nat) (rd : Nat → Int32) (x : Int64) (w : Nat) (hw : w < 108) : Met l yX10_flowsOut wsX10_flowsOut (zRm 0 0) (va_Pc [.ref m0, .long x, .int (nI w)] (zW g ct [zO m0 9 [.ref m1, .ref m2, .ref m3, .ref m4, .ref m5, .ref m6, .ref m7, .int (nI kp), .int fl, .int (nI tn), .ref m8, .int (nI pa), .int (nI rn), .ref m9], zL ct m1 108 n, zL ct m2 540 hy, zL ct m3 108 sl, zL ct m4 108 sp, zD ct m5 33 re, zD ct m6 165 rh, zD ct m7 33 rs, zC ct m8 60 tx, zI ct m9 17 rd] sz)) (zQv g [zO m0 9 [.ref m1, .ref m2, .ref m3, .ref m4, .ref m5, .ref m6, .ref m7, .int (nI kp), .int fl, .int (nI tn), .ref m8, .int (nI pa), .int (nI rn), .ref m9], zL ct m1 108 (foutN n x w), zL ct m2 540 hy, zL ct m3 108 sl, zL ct m4 108 sp, zD ct m5 33 re, zD ct m6 165 rh, zD ct m7 33 rs, zC ct m8 60 tx, zI ct m9 17 rd] (va_A [zO m0 9 [.ref m1, .ref m2, .ref m3, .ref m4, .ref m5, .ref m6, .ref m7, .int (nI kp), .int fl, .int (nI tn), .ref m8, .int (nI pa), .int (nI rn), .ref m9], zL ct m1 108 n, zL ct m2 540 hy, zL ct m3 108 sl, zL ct m4 108 sp, zD ct m5 33 re, zD ct m6 165 rh, zD ct m7 33 rs, zC ct m8 60 tx, zI ct m9 17 rd] sz)) 0 0 (va_A [zO m0 9 [.ref m1, .ref m2, .ref m3, .ref m4, .ref m5, .ref m6, .ref m7, .int (nI kp), .int fl, .int (nI tn), .ref m8, .int (nI pa), .int (nI rn), .ref m9], zL ct m1 108 n, zL ct m2 540 hy, zL ct m3 108 sl, zL ct m4 108 sp, zD ct m5 33 re, zD ct m6 165 rh, zD ct m7 33 rs, zC ct m8 60 tx, zI ct m9 17 rd] sz) := by
  refine z_write (QA := zQv g [zO m0 9 [.ref m1, .ref m2, .ref m3, .ref m4, .ref m5, .ref m6, .ref m7, .int (nI kp), .int fl, .int (nI tn), .ref m8, .int (nI pa), .int (nI rn), .ref m9], zL ct m1 108 (foutN n x w), zL ct m2 540 hy, zL ct m3 108 sl, zL ct m4 108 sp, zD ct m5 33 re, zD ct m6 165 rh, zD ct m7 33 rs, zC ct m8 60 tx, zI ct m9 17 rd]) (cc := cX10_flowsOut) (maxL := 6) (ret := none) (by decide) rfl (Nat.le_of_ble_eq_true rfl) ?_
  intro p e s m below meth c ls A hx hb hr hml hts hown hlocks hin hP hK hD hNW hA hS hl
  have hown : s.vm.findClass RX10 = some m.cls := hown
  have hl : lv_has ls 6 [(0, .ref m0), (1, .long x), (3, .int (nI w))] := hl
  have hi_wsX100 : ∀ w ∈ wsX100, w ∈ wsX10_flowsOut := fun w h => List.mem_cons_of_mem _ (List.mem_append_right _ h)
  refine lv_lload_n hx hb dX10_flowsOut_0 rfl (lv_at hl 1 rfl) ?_
  refine lv_aload_n hx hb dX10_flowsOut_1 rfl (lv_at hl 0 rfl) ?_
  refine va_get (D := g) (ci := 9) (v := .ref m1) (C := RX10) (T := TX10) (N := 14) hx hb hts hi_wsX100 hown hK hP 0 rfl rfl 0 (by decide) (hts (.fieldLink RX10 7 "FloodBarrierModel" "now" "[J") (List.mem_of_getElem? (i := 1) rfl)) (fun _ h9 => h9) rfl dX10_flowsOut_2 ?_
  refine lv_bipush (v := 12) hx hb dX10_flowsOut_5 (by decide) ?_
  refine z_lald (ct := ct) (f := n) (k := 12) hx hb hK hP 1 rfl (by omega) (by decide) dX10_flowsOut_7 ?_
  refine z_lif_ge (tgt := 16) hx hb dX10_flowsOut_8 dX10_flowsOut_9 (by decide) (fun c_1 => ?_) (fun c_1 => ?_)
  · refine lv_aload_n hx hb dX10_flowsOut_16 rfl (lv_at hl 0 rfl) ?_
    refine va_get (D := g) (ci := 9) (v := .ref m1) (C := RX10) (T := TX10) (N := 14) hx hb hts hi_wsX100 hown hK hP 0 rfl rfl 0 (by decide) (hts (.fieldLink RX10 7 "FloodBarrierModel" "now" "[J") (List.mem_of_getElem? (i := 1) rfl)) (fun _ h9 => h9) rfl dX10_flowsOut_17 ?_
    refine lv_bipush (v := 12) hx hb dX10_flowsOut_20 (by decide) ?_
    refine z_lald (ct := ct) (f := n) (k := 12) hx hb hK hP 1 rfl (by omega) (by decide) dX10_flowsOut_22 ?_
    refine lv_lstore (lv' := [(4, .long (n 12)), (0, .ref m0), (1, .long x), (3, .int (nI w))]) hx hb dX10_flowsOut_23 hl (by decide) rfl (fun ls hl => ?_)
    refine lv_aload_n hx hb dX10_flowsOut_25 rfl (lv_at hl 1 rfl) ?_
    refine va_get (D := g) (ci := 9) (v := .ref m1) (C := RX10) (T := TX10) (N := 14) hx hb hts hi_wsX100 hown hK hP 0 rfl rfl 0 (by decide) (hts (.fieldLink RX10 7 "FloodBarrierModel" "now" "[J") (List.mem_of_getElem? (i := 1) rfl)) (fun _ h9 => h9) rfl dX10_flowsOut_26 ?_
    refine lv_bipush (v := 12) hx hb dX10_flowsOut_29 (by decide) ?_
    refine lv_dup2_11 hx hb dX10_flowsOut_31 rfl rfl ?_
    refine z_lald (ct := ct) (f := n) (k := 12) hx hb hK hP 1 rfl (by omega) (by decide) dX10_flowsOut_32 ?_
    refine lv_lload hx hb dX10_flowsOut_33 (lv_at hl 0 rfl) ?_
    refine lv_lsub hx hb dX10_flowsOut_35 ?_
    refine z_last (ct := ct) (f := n) (k := 12) (x := ((n 12) - (n 12))) hx hb hK hP hD hS 1 rfl (by omega) (by decide) dX10_flowsOut_36 (fun H locs hP hD hS => ?_)
    have hP : va_P g vwCl [zO m0 9 [.ref m1, .ref m2, .ref m3, .ref m4, .ref m5, .ref m6, .ref m7, .int (nI kp), .int fl, .int (nI tn), .ref m8, .int (nI pa), .int (nI rn), .ref m9], zL ct m1 108 (vp_updL n 12 ((n 12) - (n 12))), zL ct m2 540 hy, zL ct m3 108 sl, zL ct m4 108 sp, zD ct m5 33 re, zD ct m6 165 rh, zD ct m7 33 rs, zC ct m8 60 tx, zI ct m9 17 rd] H := hP
    have hD : va_D A [zO m0 9 [.ref m1, .ref m2, .ref m3, .ref m4, .ref m5, .ref m6, .ref m7, .int (nI kp), .int fl, .int (nI tn), .ref m8, .int (nI pa), .int (nI rn), .ref m9], zL ct m1 108 (vp_updL n 12 ((n 12) - (n 12))), zL ct m2 540 hy, zL ct m3 108 sl, zL ct m4 108 sp, zD ct m5 33 re, zD ct m6 165 rh, zD ct m7 33 rs, zC ct m8 60 tx, zI ct m9 17 rd] := hD
    refine lv_aload_n hx hb dX10_flowsOut_37 rfl (lv_at hl 1 rfl) ?_
    refine va_get (D := g) (ci := 9) (v := .ref m1) (C := RX10) (T := TX10) (N := 14) hx hb hts hi_wsX100 hown hK hP 0 rfl rfl 0 (by decide) (hts (.fieldLink RX10 7 "FloodBarrierModel" "now" "[J") (List.mem_of_getElem? (i := 1) rfl)) (fun _ h9 => h9) rfl dX10_flowsOut_38 ?_
    refine lv_iload_n hx hb dX10_flowsOut_41 rfl (lv_at hl 3 rfl) ?_
    refine lv_dup2_11 hx hb dX10_flowsOut_42 rfl rfl ?_
    refine z_lald (ct := ct) (f := (vp_updL n 12 ((n 12) - (n 12)))) (k := w) hx hb hK hP 1 rfl (by omega) (by decide) dX10_flowsOut_43 ?_
    refine lv_lload hx hb dX10_flowsOut_44 (lv_at hl 0 rfl) ?_
    refine lv_ladd hx hb dX10_flowsOut_46 ?_
    refine z_last (ct := ct) (f := (vp_updL n 12 ((n 12) - (n 12)))) (k := w) (x := (((vp_updL n 12 ((n 12) - (n 12))) w) + (n 12))) hx hb hK hP hD hS 1 rfl (by omega) (by decide) dX10_flowsOut_47 (fun H locs hP hD hS => ?_)
    have hP : va_P g vwCl [zO m0 9 [.ref m1, .ref m2, .ref m3, .ref m4, .ref m5, .ref m6, .ref m7, .int (nI kp), .int fl, .int (nI tn), .ref m8, .int (nI pa), .int (nI rn), .ref m9], zL ct m1 108 (vp_updL (vp_updL n 12 ((n 12) - (n 12))) w (((vp_updL n 12 ((n 12) - (n 12))) w) + (n 12))), zL ct m2 540 hy, zL ct m3 108 sl, zL ct m4 108 sp, zD ct m5 33 re, zD ct m6 165 rh, zD ct m7 33 rs, zC ct m8 60 tx, zI ct m9 17 rd] H := hP
    have hD : va_D A [zO m0 9 [.ref m1, .ref m2, .ref m3, .ref m4, .ref m5, .ref m6, .ref m7, .int (nI kp), .int fl, .int (nI tn), .ref m8, .int (nI pa), .int (nI rn), .ref m9], zL ct m1 108 (vp_updL (vp_updL n 12 ((n 12) - (n 12))) w (((vp_updL n 12 ((n 12) - (n 12))) w) + (n 12))), zL ct m2 540 hy, zL ct m3 108 sl, zL ct m4 108 sp, zD ct m5 33 re, zD ct m6 165 rh, zD ct m7 33 rs, zC ct m8 60 tx, zI ct m9 17 rd] := hD
    exact z_vretW hx hb hr hlocks hS hP hD (by simp only [foutN, isF, if_pos c_1]) (Nat.le_refl _) (Nat.le_refl _) dX10_flowsOut_48
  · refine lv_lload_n hx hb dX10_flowsOut_12 rfl (lv_at hl 1 rfl) ?_
    refine lv_goto (tgt := 23) hx hb dX10_flowsOut_13 (by decide) ?_
    refine lv_lstore (lv' := [(4, .long x), (0, .ref m0), (1, .long x), (3, .int (nI w))]) hx hb dX10_flowsOut_23 hl (by decide) rfl (fun ls hl => ?_)
    refine lv_aload_n hx hb dX10_flowsOut_25 rfl (lv_at hl 1 rfl) ?_
    refine va_get (D := g) (ci := 9) (v := .ref m1) (C := RX10) (T := TX10) (N := 14) hx hb hts hi_wsX100 hown hK hP 0 rfl rfl 0 (by decide) (hts (.fieldLink RX10 7 "FloodBarrierModel" "now" "[J") (List.mem_of_getElem? (i := 1) rfl)) (fun _ h9 => h9) rfl dX10_flowsOut_26 ?_
    refine lv_bipush (v := 12) hx hb dX10_flowsOut_29 (by decide) ?_
    refine lv_dup2_11 hx hb dX10_flowsOut_31 rfl rfl ?_
    refine z_lald (ct := ct) (f := n) (k := 12) hx hb hK hP 1 rfl (by omega) (by decide) dX10_flowsOut_32 ?_
    refine lv_lload hx hb dX10_flowsOut_33 (lv_at hl 0 rfl) ?_
    refine lv_lsub hx hb dX10_flowsOut_35 ?_
    refine z_last (ct := ct) (f := n) (k := 12) (x := ((n 12) - x)) hx hb hK hP hD hS 1 rfl (by omega) (by decide) dX10_flowsOut_36 (fun H locs hP hD hS => ?_)
    have hP : va_P g vwCl [zO m0 9 [.ref m1, .ref m2, .ref m3, .ref m4, .ref m5, .ref m6, .ref m7, .int (nI kp), .int fl, .int (nI tn), .ref m8, .int (nI pa), .int (nI rn), .ref m9], zL ct m1 108 (vp_updL n 12 ((n 12) - x)), zL ct m2 540 hy, zL ct m3 108 sl, zL ct m4 108 sp, zD ct m5 33 re, zD ct m6 165 rh, zD ct m7 33 rs, zC ct m8 60 tx, zI ct m9 17 rd] H := hP
    have hD : va_D A [zO m0 9 [.ref m1, .ref m2, .ref m3, .ref m4, .ref m5, .ref m6, .ref m7, .int (nI kp), .int fl, .int (nI tn), .ref m8, .int (nI pa), .int (nI rn), .ref m9], zL ct m1 108 (vp_updL n 12 ((n 12) - x)), zL ct m2 540 hy, zL ct m3 108 sl, zL ct m4 108 sp, zD ct m5 33 re, zD ct m6 165 rh, zD ct m7 33 rs, zC ct m8 60 tx, zI ct m9 17 rd] := hD
    refine lv_aload_n hx hb dX10_flowsOut_37 rfl (lv_at hl 1 rfl) ?_
    refine va_get (D := g) (ci := 9) (v := .ref m1) (C := RX10) (T := TX10) (N := 14) hx hb hts hi_wsX100 hown hK hP 0 rfl rfl 0 (by decide) (hts (.fieldLink RX10 7 "FloodBarrierModel" "now" "[J") (List.mem_of_getElem? (i := 1) rfl)) (fun _ h9 => h9) rfl dX10_flowsOut_38 ?_
    refine lv_iload_n hx hb dX10_flowsOut_41 rfl (lv_at hl 3 rfl) ?_
    refine lv_dup2_11 hx hb dX10_flowsOut_42 rfl rfl ?_
    refine z_lald (ct := ct) (f := (vp_updL n 12 ((n 12) - x))) (k := w) hx hb hK hP 1 rfl (by omega) (by decide) dX10_flowsOut_43 ?_
    refine lv_lload hx hb dX10_flowsOut_44 (lv_at hl 0 rfl) ?_
    refine lv_ladd hx hb dX10_flowsOut_46 ?_
    refine z_last (ct := ct) (f := (vp_updL n 12 ((n 12) - x))) (k := w) (x := (((vp_updL n 12 ((n 12) - x)) w) + x)) hx hb hK hP hD hS 1 rfl (by omega) (by decide) dX10_flowsOut_47 (fun H locs hP hD hS => ?_)
    have hP : va_P g vwCl [zO m0 9 [.ref m1, .ref m2, .ref m3, .ref m4, .ref m5, .ref m6, .ref m7, .int (nI kp), .int fl, .int (nI tn), .ref m8, .int (nI pa), .int (nI rn), .ref m9], zL ct m1 108 (vp_updL (vp_updL n 12 ((n 12) - x)) w (((vp_updL n 12 ((n 12) - x)) w) + x)), zL ct m2 540 hy, zL ct m3 108 sl, zL ct m4 108 sp, zD ct m5 33 re, zD ct m6 165 rh, zD ct m7 33 rs, zC ct m8 60 tx, zI ct m9 17 rd] H := hP
    have hD : va_D A [zO m0 9 [.ref m1, .ref m2, .ref m3, .ref m4, .ref m5, .ref m6, .ref m7, .int (nI kp), .int fl, .int (nI tn), .ref m8, .int (nI pa), .int (nI rn), .ref m9], zL ct m1 108 (vp_updL (vp_updL n 12 ((n 12) - x)) w (((vp_updL n 12 ((n 12) - x)) w) + x)), zL ct m2 540 hy, zL ct m3 108 sl, zL ct m4 108 sp, zD ct m5 33 re, zD ct m6 165 rh, zD ct m7 33 rs, zC ct m8 60 tx, zI ct m9 17 rd] := hD
    exact z_vretW hx hb hr hlocks hS hP hD (by simp only [foutN, isF, if_neg c_1]) (Nat.le_refl _) (Nat.le_refl _) dX10_flowsOut_48
