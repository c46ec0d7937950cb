set_option maxHeartbeats 4000000 in
set_option maxRecDepth 100000 in
theorem c_X7_isFull (l : Launch) (g : va_G) (ct : Nat → ClassId) (s0 s1 : Nat) (n : Nat) (wa : Nat → Int32) (hn : n ≤ 4) : Met l yX7_isFull wsX7_isFull (zRm 0 0) (va_Pc [.ref s0] (zR g ct [zO s0 6 [.int (nI n), .ref s1], zI ct s1 4 wa])) (vp_Si (fun r => r = if 4 ≤ n then 1 else 0)) 0 0 (fun _ => False) := by
  refine z_read (cc := cX7_isFull) (maxL := 1) (ret := some .boolean) (by decide) rfl (Nat.le_of_ble_eq_true rfl) ?_
  intro p e s m below meth c ls hx hb hr hml hts hown hlocks hP hK hl
  have hown : s.vm.findClass RX7 = some m.cls := hown
  have hl : lv_has ls 1 [(0, .ref s0)] := hl
  have hi_wsX70 : ∀ w ∈ wsX70, w ∈ wsX7_isFull := fun w h => List.mem_cons_of_mem _ (List.mem_append_right _ h)
  refine lv_aload_n hx hb dX7_isFull_0 rfl (lv_at hl 0 rfl) ?_
  refine va_get (D := g) (ci := 6) (v := .int (nI n)) (C := RX7) (T := TX7) (N := 2) hx hb hts hi_wsX70 hown hK hP 0 rfl rfl 0 (by decide) (hts (.fieldLink RX7 13 "FloodBarrier$Streams" "many" "I") (List.mem_of_getElem? (i := 1) rfl)) (fun _ h9 => h9) rfl dX7_isFull_1 ?_
  refine lv_iconst (v := 4) hx hb dX7_isFull_4 (by decide) ?_
  refine z_icN_lt (x := n) (y := 4) (tgt := 12) hx hb (by omega) (by omega) dX7_isFull_5 (by decide) (fun c_1 => ?_) (fun c_1 => ?_)
  · refine lv_iconst (v := 0) hx hb dX7_isFull_12 (by decide) ?_
    exact z_zretR hx hb hr hlocks rfl rfl (by simp; omega) dX7_isFull_13
  · refine lv_iconst (v := 1) hx hb dX7_isFull_8 (by decide) ?_
    refine lv_goto (tgt := 13) hx hb dX7_isFull_9 (by decide) ?_
    exact z_zretR hx hb hr hlocks rfl rfl (by simp; omega) dX7_isFull_13

set_option maxHeartbeats 4000000 in
set_option maxRecDepth 100000 in
theorem c_X7_has (l : Launch) (g : va_G) (ct : Nat → ClassId) (s0 s1 : Nat) (n : Nat) (wa : Nat → Int32) (x : Int32) : Met l yX7_has wsX7_has (zRm 0 0) (va_Pc [.ref s0, .int x] (zR g ct [zO s0 6 [.int (nI n), .ref s1], zI ct s1 4 wa])) (vp_Si (fun r => r = if ¬ x < 0 ∧ x < nI n then 1 else 0)) 0 0 (fun _ => False) := by
  refine z_read (cc := cX7_has) (maxL := 2) (ret := some .boolean) (by decide) rfl (Nat.le_of_ble_eq_true rfl) ?_
  intro p e s m below meth c ls hx hb hr hml hts hown hlocks hP hK hl
  have hown : s.vm.findClass RX7 = some m.cls := hown
  have hl : lv_has ls 2 [(0, .ref s0), (1, .int x)] := hl
  have hi_wsX70 : ∀ w ∈ wsX70, w ∈ wsX7_has := fun w h => List.mem_cons_of_mem _ (List.mem_append_right _ h)
  refine lv_iload_n hx hb dX7_has_0 rfl (lv_at hl 1 rfl) ?_
  refine lv_if_lt (tgt := 16) hx hb dX7_has_1 (by decide) (fun c_1 => ?_) (fun c_1 => ?_)
  · refine lv_iconst (v := 0) hx hb dX7_has_16 (by decide) ?_
    exact z_zretR hx hb hr hlocks rfl rfl (by simp [c_1]) dX7_has_17
  · refine lv_iload_n hx hb dX7_has_4 rfl (lv_at hl 1 rfl) ?_
    refine lv_aload_n hx hb dX7_has_5 rfl (lv_at hl 0 rfl) ?_
    refine va_get (D := g) (ci := 6) (v := .int (nI n)) (C := RX7) (T := TX7) (N := 2) hx hb hts hi_wsX70 hown hK hP 0 rfl rfl 0 (by decide) (hts (.fieldLink RX7 13 "FloodBarrier$Streams" "many" "I") (List.mem_of_getElem? (i := 1) rfl)) (fun _ h9 => h9) rfl dX7_has_6 ?_
    refine lv_icmp_ge (tgt := 16) hx hb dX7_has_9 (by decide) (fun c_2 => ?_) (fun c_2 => ?_)
    · refine lv_iconst (v := 0) hx hb dX7_has_16 (by decide) ?_
      exact z_zretR hx hb hr hlocks rfl rfl (by simp [c_1, c_2]) dX7_has_17
    · refine lv_iconst (v := 1) hx hb dX7_has_12 (by decide) ?_
      refine lv_goto (tgt := 17) hx hb dX7_has_13 (by decide) ?_
      exact z_zretR hx hb hr hlocks rfl rfl (by simp [c_1, c_2]) dX7_has_17

set_option maxHeartbeats 4000000 in
set_option maxRecDepth 100000 in
theorem c_X7_add (l : Launch) (g : va_G) (ct : Nat → ClassId) (sz : Nat) (s0 s1 : Nat) (n : Nat) (wa : Nat → Int32) (hn : n < 4) (x : Int32) : Met l yX7_add wsX7_add (zRm 0 0) (va_Pc [.ref s0, .int x] (zW g ct [zO s0 6 [.int (nI n), .ref s1], zI ct s1 4 wa] sz)) (zQi g [zO s0 6 [.int (nI (n + 1)), .ref s1], zI ct s1 4 (upd wa n x)] (nI n) (va_A [zO s0 6 [.int (nI n), .ref s1], zI ct s1 4 wa] sz)) 0 0 (va_A [zO s0 6 [.int (nI n), .ref s1], zI ct s1 4 wa] sz) := by
  refine z_write (QA := zQi g [zO s0 6 [.int (nI (n + 1)), .ref s1], zI ct s1 4 (upd wa n x)] (nI n)) (cc := cX7_add) (maxL := 3) (ret := some .int) (by decide) rfl (Nat.le_of_ble_eq_true rfl) ?_
  intro p e s m below meth c ls A hx hb hr hml hts hown hlocks hin hP hK hD hNW hA hS hl
  have hown : s.vm.findClass RX7 = some m.cls := hown
  have hl : lv_has ls 3 [(0, .ref s0), (1, .int x)] := hl
  have hi_wsX70 : ∀ w ∈ wsX70, w ∈ wsX7_add := fun w h => List.mem_cons_of_mem _ (List.mem_append_right _ h)
  refine lv_aload_n hx hb dX7_add_0 rfl (lv_at hl 0 rfl) ?_
  refine va_get (D := g) (ci := 6) (v := .int (nI n)) (C := RX7) (T := TX7) (N := 2) hx hb hts hi_wsX70 hown hK hP 0 rfl rfl 0 (by decide) (hts (.fieldLink RX7 13 "FloodBarrier$Streams" "many" "I") (List.mem_of_getElem? (i := 1) rfl)) (fun _ h9 => h9) rfl dX7_add_1 ?_
  refine lv_istore_n (lv' := [(2, .int (nI n)), (0, .ref s0), (1, .int x)]) hx hb dX7_add_4 rfl hl (by decide) rfl (fun ls hl => ?_)
  refine lv_aload_n hx hb dX7_add_5 rfl (lv_at hl 1 rfl) ?_
  refine va_get (D := g) (ci := 6) (v := .ref s1) (C := RX7) (T := TX7) (N := 2) hx hb hts hi_wsX70 hown hK hP 0 rfl rfl 1 (by decide) (hts (.fieldLink RX7 9 "FloodBarrier$Streams" "water" "[I") (List.mem_of_getElem? (i := 2) rfl)) (fun _ h9 => h9) rfl dX7_add_6 ?_
  refine lv_iload_n hx hb dX7_add_9 rfl (lv_at hl 0 rfl) ?_
  refine lv_iload_n hx hb dX7_add_10 rfl (lv_at hl 2 rfl) ?_
  refine z_iast (ct := ct) (f := wa) (k := n) (x := x) hx hb hK hP hD hS 1 rfl (by omega) (by decide) dX7_add_11 (fun H locs hP hD hS => ?_)
  have hP : va_P g vwCl [zO s0 6 [.int (nI n), .ref s1], zI ct s1 4 (upd wa n x)] H := hP
  have hD : va_D A [zO s0 6 [.int (nI n), .ref s1], zI ct s1 4 (upd wa n x)] := hD
  refine lv_aload_n hx hb dX7_add_12 rfl (lv_at hl 1 rfl) ?_
  refine lv_dup hx hb dX7_add_13 rfl ?_
  refine va_get (D := g) (ci := 6) (v := .int (nI n)) (C := RX7) (T := TX7) (N := 2) hx hb hts hi_wsX70 hown hK hP 0 rfl rfl 0 (by decide) (hts (.fieldLink RX7 13 "FloodBarrier$Streams" "many" "I") (List.mem_of_getElem? (i := 1) rfl)) (fun _ h9 => h9) rfl dX7_add_14 ?_
  refine lv_iconst (v := 1) hx hb dX7_add_17 (by decide) ?_
  refine z_iaddN (x := n) (y := 1) hx hb dX7_add_18 ?_
  refine va_put (D := g) (ci := 6) (v := .int (nI (n + 1))) (C := RX7) (T := TX7) (N := 2) hx hb hts hi_wsX70 tyX7 tyX7_ok nmX7 hown hK hP hD hS 0 rfl rfl 0 (by decide) (hts (.fieldLink RX7 13 "FloodBarrier$Streams" "many" "I") (List.mem_of_getElem? (i := 1) rfl)) (fun _ h9 => h9) rfl (tyX7_ok 0 (by decide)) rfl rfl (Nat.le_of_ble_eq_true rfl) dX7_add_19 (fun H locs hP hD hS => ?_)
  have hP : va_P g vwCl [zO s0 6 [.int (nI (n + 1)), .ref s1], zI ct s1 4 (upd wa n x)] H := hP
  have hD : va_D A [zO s0 6 [.int (nI (n + 1)), .ref s1], zI ct s1 4 (upd wa n x)] := hD
  refine lv_iload_n hx hb dX7_add_22 rfl (lv_at hl 0 rfl) ?_
  exact z_iretW hx hb hr hlocks hS hP hD rfl rfl (Nat.le_refl _) (Nat.le_refl _) dX7_add_23

set_option maxHeartbeats 4000000 in
set_option maxRecDepth 100000 in
theorem c_X7_bringTo (l : Launch) (g : va_G) (ct : Nat → ClassId) (sz : Nat) (s0 s1 : Nat) (n : Nat) (wa : Nat → Int32) (hn : n ≤ 4) (b0 : Nat) (ar : Int32) (vo fi fo fv br pu : Int64) : Met l yX7_bringTo wsX7_bringTo (zRm 1 22) (va_Pc [.ref s0, .ref b0] (zW g ct [zO s0 6 [.int (nI n), .ref s1], zI ct s1 4 wa, zO b0 0 [.int ar, .long vo, .long fi, .long fo, .long fv, .long br, .long pu]] sz)) (zQv g [zO s0 6 [.int (nI n), .ref s1], zI ct s1 4 wa, zO b0 0 [.int ar, .long ((lp (brS wa) n (vo, br)).1), .long fi, .long fo, .long fv, .long ((lp (brS wa) n (vo, br)).2), .long pu]] (va_A [zO s0 6 [.int (nI n), .ref s1], zI ct s1 4 wa, zO b0 0 [.int ar, .long vo, .long fi, .long fo, .long fv, .long br, .long pu]] sz)) 0 0 (va_A [zO s0 6 [.int (nI n), .ref s1], zI ct s1 4 wa, zO b0 0 [.int ar, .long vo, .long fi, .long fo, .long fv, .long br, .long pu]] sz) := by
  refine z_write (QA := zQv g [zO s0 6 [.int (nI n), .ref s1], zI ct s1 4 wa, zO b0 0 [.int ar, .long ((lp (brS wa) n (vo, br)).1), .long fi, .long fo, .long fv, .long ((lp (brS wa) n (vo, br)).2), .long pu]]) (cc := cX7_bringTo) (maxL := 3) (ret := none) (by decide) rfl (Nat.le_of_ble_eq_true rfl) ?_
  intro p e s m below meth c ls A hx hb hr hml hts hown hlocks hin hP hK hD hNW hA hS hl
  have hown : s.vm.findClass RX7 = some m.cls := hown
  have hl : lv_has ls 3 [(0, .ref s0), (1, .ref b0)] := hl
  have hi_wsX70 : ∀ w ∈ wsX70, w ∈ wsX7_bringTo := fun w h => List.mem_cons_of_mem _ (List.mem_append_left _ (List.mem_append_right _ h))
  refine lv_iconst (v := 0) hx hb dX7_bringTo_0 (by decide) ?_
  refine lv_istore_n (lv' := [(2, .int 0), (0, .ref s0), (1, .ref b0)]) hx hb dX7_bringTo_1 rfl hl (by decide) rfl (fun ls hl => ?_)
  refine z_loop n (fun k1 H locs ls => va_P g vwCl [zO s0 6 [.int (nI n), .ref s1], zI ct s1 4 wa, zO b0 0 [.int ar, .long ((lp (brS wa) k1 (vo, br)).1), .long fi, .long fo, .long fv, .long ((lp (brS wa) k1 (vo, br)).2), .long pu]] H ∧ va_D A [zO s0 6 [.int (nI n), .ref s1], zI ct s1 4 wa, zO b0 0 [.int ar, .long ((lp (brS wa) k1 (vo, br)).1), .long fi, .long fo, .long fv, .long ((lp (brS wa) k1 (vo, br)).2), .long pu]] ∧ va_S A s.heap H locs ∧ lv_has ls 3 [(0, .ref s0), (1, .ref b0), (2, .int (nI k1))]) ⟨hP, hD, hS, lv_sub hl [1, 2, 0] rfl⟩ ?_
  intro k1 H locs ls hkk1 hI ihk1
  obtain ⟨hP, hD, hS, hl⟩ := hI
  refine lv_iload_n hx hb dX7_bringTo_2 rfl (lv_at hl 2 rfl) ?_
  refine lv_aload_n hx hb dX7_bringTo_3 rfl (lv_at hl 0 rfl) ?_
  refine va_get (D := g) (ci := 6) (v := .int (nI n)) (C := RX7) (T := TX7) (N := 2) hx hb hts hi_wsX70 hown hK hP 0 rfl rfl 0 (by decide) (hts (.fieldLink RX7 13 "FloodBarrier$Streams" "many" "I") (List.mem_of_getElem? (i := 1) rfl)) (fun _ h9 => h9) rfl dX7_bringTo_4 ?_
  refine z_icN_ge (x := k1) (y := n) (tgt := 27) hx hb (by omega) (by omega) dX7_bringTo_7 (by decide) (fun c_1 => ?_) (fun c_1 => ?_)
  · have hkn : n = k1 := by omega
    subst hkn
    exact z_vretW hx hb hr hlocks hS hP hD rfl (Nat.le_refl _) (Nat.le_refl _) dX7_bringTo_27
  · refine lv_aload_n hx hb dX7_bringTo_10 rfl (lv_at hl 1 rfl) ?_
    refine lv_aload_n hx hb dX7_bringTo_11 rfl (lv_at hl 0 rfl) ?_
    refine va_get (D := g) (ci := 6) (v := .ref s1) (C := RX7) (T := TX7) (N := 2) hx hb hts hi_wsX70 hown hK hP 0 rfl rfl 1 (by decide) (hts (.fieldLink RX7 9 "FloodBarrier$Streams" "water" "[I") (List.mem_of_getElem? (i := 2) rfl)) (fun _ h9 => h9) rfl dX7_bringTo_12 ?_
    refine lv_iload_n hx hb dX7_bringTo_15 rfl (lv_at hl 2 rfl) ?_
    refine z_iald (ct := ct) (f := wa) (k := k1) hx hb hK hP 1 rfl (by omega) (by decide) dX7_bringTo_16 ?_
    refine lv_i2l (v := (wa k1).toInt64) hx hb dX7_bringTo_17 rfl ?_
    refine z_wVv (wc := [zO b0 0 [.int ar, .long ((lp (brS wa) k1 (vo, br)).1), .long fi, .long fo, .long fv, .long ((lp (brS wa) k1 (vo, br)).2), .long pu]]) (wr := [zO s0 6 [.int (nI n), .ref s1], zI ct s1 4 wa]) (w2 := [zO s0 6 [.int (nI n), .ref s1], zI ct s1 4 wa, zO b0 0 [.int ar, .long (((lp (brS wa) k1 (vo, br)).1) + ((wa k1).toInt64)), .long fi, .long fo, .long fv, .long (((lp (brS wa) k1 (vo, br)).2) + ((wa k1).toInt64)), .long pu]]) (As := [.long ((wa k1).toInt64)]) (rest := []) ⟨hx, hb, hml, hown, hts⟩ hK hP hD hS hNW hA [2] [0, 1] [0, 1, 2] rfl rfl rfl rfl rfl rfl (by decide) (c_X0_bring l g ct _ b0 ar ((lp (brS wa) k1 (vo, br)).1) fi fo fv ((lp (brS wa) k1 (vo, br)).2) pu ((wa k1).toInt64)) (cwV 1 hts gX7_bringTo_X0_bring rfl rfl rfl (by decide +kernel) ⟨Nat.le_of_ble_eq_true rfl, Nat.le_of_ble_eq_true rfl⟩) 0 rfl rfl rfl hl.1 rfl (Nat.le_of_ble_eq_true rfl) dX7_bringTo_18 ⟨Nat.zero_le _, Nat.zero_le _⟩ (fun H locs hP hD hS => ?_)
    refine lv_iinc (v := nI (k1 + 1)) (lv' := [(2, .int (nI (k1 + 1))), (0, .ref s0), (1, .ref b0)]) hx hb dX7_bringTo_21 hl (k := 2) rfl (nI_add k1 1) (by decide) rfl (fun ls hl => ?_)
    refine lv_goto (tgt := 2) hx hb dX7_bringTo_24 (by decide) ?_
    exact ihk1 _ _ _ (by omega) ⟨(by first | exact hP | (simp only [lp_s, if_pos c_1]; exact hP)), (by first | exact hD | (simp only [lp_s, if_pos c_1]; exact hD)), hS, (by first | exact lv_sub hl [1, 2, 0] rfl | (simp only [lp_s, if_pos c_1]; exact lv_sub hl [1, 2, 0] rfl))⟩

set_option maxHeartbeats 4000000 in
set_option maxRecDepth 100000 in
theorem c_X7_copyFrom (l : Launch) (g : va_G) (ct : Nat → ClassId) (sz : Nat) (s0 s1 : Nat) (n : Nat) (wa : Nat → Int32) (t0 t1 : Nat) (n2 : Nat) (wa2 : Nat → Int32) : Met l yX7_copyFrom wsX7_copyFrom (zRm 1 30) (va_Pc [.ref s0, .ref t0] (zW g ct [zO s0 6 [.int (nI n), .ref s1], zI ct s1 4 wa, zO t0 6 [.int (nI n2), .ref t1], zI ct t1 4 wa2] sz)) (zQv g [zO s0 6 [.int (nI n2), .ref s1], zI ct s1 4 wa2, zO t0 6 [.int (nI n2), .ref t1], zI ct t1 4 wa2] (va_A [zO s0 6 [.int (nI n), .ref s1], zI ct s1 4 wa, zO t0 6 [.int (nI n2), .ref t1], zI ct t1 4 wa2] sz)) 0 0 (va_A [zO s0 6 [.int (nI n), .ref s1], zI ct s1 4 wa, zO t0 6 [.int (nI n2), .ref t1], zI ct t1 4 wa2] sz) := by
  refine z_write (QA := zQv g [zO s0 6 [.int (nI n2), .ref s1], zI ct s1 4 wa2, zO t0 6 [.int (nI n2), .ref t1], zI ct t1 4 wa2]) (cc := cX7_copyFrom) (maxL := 2) (ret := none) (by decide) rfl (Nat.le_of_ble_eq_true rfl) ?_
  intro p e s m below meth c ls A hx hb hr hml hts hown hlocks hin hP hK hD hNW hA hS hl
  have hown : s.vm.findClass RX7 = some m.cls := hown
  have hl : lv_has ls 2 [(0, .ref s0), (1, .ref t0)] := hl
  have hi_wsX70 : ∀ w ∈ wsX70, w ∈ wsX7_copyFrom := fun w h => List.mem_cons_of_mem _ (List.mem_append_right _ h)
  refine lv_aload_n hx hb dX7_copyFrom_0 rfl (lv_at hl 0 rfl) ?_
  refine lv_aload_n hx hb dX7_copyFrom_1 rfl (lv_at hl 1 rfl) ?_
  refine va_get (D := g) (ci := 6) (v := .int (nI n2)) (C := RX7) (T := TX7) (N := 2) hx hb hts hi_wsX70 hown hK hP 2 rfl rfl 0 (by decide) (hts (.fieldLink RX7 13 "FloodBarrier$Streams" "many" "I") (List.mem_of_getElem? (i := 1) rfl)) (fun _ h9 => h9) rfl dX7_copyFrom_2 ?_
  refine va_put (D := g) (ci := 6) (v := .int (nI n2)) (C := RX7) (T := TX7) (N := 2) hx hb hts hi_wsX70 tyX7 tyX7_ok nmX7 hown hK hP hD hS 0 rfl rfl 0 (by decide) (hts (.fieldLink RX7 13 "FloodBarrier$Streams" "many" "I") (List.mem_of_getElem? (i := 1) rfl)) (fun _ h9 => h9) rfl (tyX7_ok 0 (by decide)) rfl rfl (Nat.le_of_ble_eq_true rfl) dX7_copyFrom_5 (fun H locs hP hD hS => ?_)
  have hP : va_P g vwCl [zO s0 6 [.int (nI n2), .ref s1], zI ct s1 4 wa, zO t0 6 [.int (nI n2), .ref t1], zI ct t1 4 wa2] H := hP
  have hD : va_D A [zO s0 6 [.int (nI n2), .ref s1], zI ct s1 4 wa, zO t0 6 [.int (nI n2), .ref t1], zI ct t1 4 wa2] := hD
  refine lv_aload_n hx hb dX7_copyFrom_8 rfl (lv_at hl 1 rfl) ?_
  refine va_get (D := g) (ci := 6) (v := .ref t1) (C := RX7) (T := TX7) (N := 2) hx hb hts hi_wsX70 hown hK hP 2 rfl rfl 1 (by decide) (hts (.fieldLink RX7 9 "FloodBarrier$Streams" "water" "[I") (List.mem_of_getElem? (i := 2) rfl)) (fun _ h9 => h9) rfl dX7_copyFrom_9 ?_
  refine lv_iconst (v := 0) hx hb dX7_copyFrom_12 (by decide) ?_
  refine lv_aload_n hx hb dX7_copyFrom_13 rfl (lv_at hl 0 rfl) ?_
  refine va_get (D := g) (ci := 6) (v := .ref s1) (C := RX7) (T := TX7) (N := 2) hx hb hts hi_wsX70 hown hK hP 0 rfl rfl 1 (by decide) (hts (.fieldLink RX7 9 "FloodBarrier$Streams" "water" "[I") (List.mem_of_getElem? (i := 2) rfl)) (fun _ h9 => h9) rfl dX7_copyFrom_14 ?_
  refine lv_iconst (v := 0) hx hb dX7_copyFrom_17 (by decide) ?_
  refine lv_iconst (v := 4) hx hb dX7_copyFrom_18 (by decide) ?_
  refine z_copyI (ct := ct) (N := 4) (f := wa2) (h := wa) hx hb (hml.trans hl.1.symm) hown (hts (.methodLink RX7 17 arraycopyName) (List.mem_of_getElem? (i := 3) rfl)) (hts (.native arraycopyName) (List.mem_of_getElem? (i := 4) rfl)) (hts (.static arraycopyName) (List.mem_of_getElem? (i := 5) rfl)) (hts (.initialized "java/lang/System") (List.mem_of_getElem? (i := 6) rfl)) hK hP hD hS 3 1 rfl rfl (by decide) (by decide) (Nat.le_of_ble_eq_true rfl) (Nat.le_of_ble_eq_true rfl) dX7_copyFrom_19 (fun H locs hP hD hS => ?_)
  have hP : va_P g vwCl [zO s0 6 [.int (nI n2), .ref s1], zI ct s1 4 wa2, zO t0 6 [.int (nI n2), .ref t1], zI ct t1 4 wa2] H := hP
  have hD : va_D A [zO s0 6 [.int (nI n2), .ref s1], zI ct s1 4 wa2, zO t0 6 [.int (nI n2), .ref t1], zI ct t1 4 wa2] := hD
  exact z_vretW hx hb hr hlocks hS hP hD rfl (Nat.le_refl _) (Nat.le_refl _) dX7_copyFrom_22
