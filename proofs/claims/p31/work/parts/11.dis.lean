set_option maxHeartbeats 4000000 in
set_option maxRecDepth 100000 in
theorem c_X1_isFull (l : Launch) (g : va_G) (ct : Nat → ClassId) (d0 d1 d2 : Nat) (n : Nat) (we cl : Nat → Int32) (hn : n ≤ 6) : Met l yX1_isFull wsX1_isFull (zRm 0 0) (va_Pc [.ref d0] (zR g ct [zO d0 1 [.int (nI n), .ref d1, .ref d2], zI ct d1 6 we, zZ ct d2 6 cl])) (vp_Si (fun r => r = if 6 ≤ n then 1 else 0)) 0 0 (fun _ => False) := by
  refine z_read (cc := cX1_isFull) (maxL := 1) (ret := some .boolean) (by decide) rfl (Nat.le_of_ble_eq_true rfl) ?_
  intro p e s m below meth c ls hx hb hr hml hts hown hlocks hP hK hl
  have hown : s.vm.findClass RX1 = some m.cls := hown
  have hl : lv_has ls 1 [(0, .ref d0)] := hl
  have hi_wsX10 : ∀ w ∈ wsX10, w ∈ wsX1_isFull := fun w h => List.mem_cons_of_mem _ (List.mem_append_right _ h)
  refine lv_aload_n hx hb dX1_isFull_0 rfl (lv_at hl 0 rfl) ?_
  refine va_get (D := g) (ci := 1) (v := .int (nI n)) (C := RX1) (T := TX1) (N := 3) hx hb hts hi_wsX10 hown hK hP 0 rfl rfl 0 (by decide) (hts (.fieldLink RX1 17 "FloodBarrier$Districts" "many" "I") (List.mem_of_getElem? (i := 1) rfl)) (fun _ h9 => h9) rfl dX1_isFull_1 ?_
  refine lv_bipush (v := 6) hx hb dX1_isFull_4 (by decide) ?_
  refine z_icN_lt (x := n) (y := 6) (tgt := 13) hx hb (by omega) (by omega) dX1_isFull_6 (by decide) (fun c_1 => ?_) (fun c_1 => ?_)
  · refine lv_iconst (v := 0) hx hb dX1_isFull_13 (by decide) ?_
    exact z_zretR hx hb hr hlocks rfl rfl (by simp; omega) dX1_isFull_14
  · refine lv_iconst (v := 1) hx hb dX1_isFull_9 (by decide) ?_
    refine lv_goto (tgt := 14) hx hb dX1_isFull_10 (by decide) ?_
    exact z_zretR hx hb hr hlocks rfl rfl (by simp; omega) dX1_isFull_14

set_option maxHeartbeats 4000000 in
set_option maxRecDepth 100000 in
theorem c_X1_has (l : Launch) (g : va_G) (ct : Nat → ClassId) (d0 d1 d2 : Nat) (n : Nat) (we cl : Nat → Int32) (x : Int32) : Met l yX1_has wsX1_has (zRm 0 0) (va_Pc [.ref d0, .int x] (zR g ct [zO d0 1 [.int (nI n), .ref d1, .ref d2], zI ct d1 6 we, zZ ct d2 6 cl])) (vp_Si (fun r => r = if ¬ x < 0 ∧ x < nI n then 1 else 0)) 0 0 (fun _ => False) := by
  refine z_read (cc := cX1_has) (maxL := 2) (ret := some .boolean) (by decide) rfl (Nat.le_of_ble_eq_true rfl) ?_
  intro p e s m below meth c ls hx hb hr hml hts hown hlocks hP hK hl
  have hown : s.vm.findClass RX1 = some m.cls := hown
  have hl : lv_has ls 2 [(0, .ref d0), (1, .int x)] := hl
  have hi_wsX10 : ∀ w ∈ wsX10, w ∈ wsX1_has := fun w h => List.mem_cons_of_mem _ (List.mem_append_right _ h)
  refine lv_iload_n hx hb dX1_has_0 rfl (lv_at hl 1 rfl) ?_
  refine lv_if_lt (tgt := 16) hx hb dX1_has_1 (by decide) (fun c_1 => ?_) (fun c_1 => ?_)
  · refine lv_iconst (v := 0) hx hb dX1_has_16 (by decide) ?_
    exact z_zretR hx hb hr hlocks rfl rfl (by simp [c_1]) dX1_has_17
  · refine lv_iload_n hx hb dX1_has_4 rfl (lv_at hl 1 rfl) ?_
    refine lv_aload_n hx hb dX1_has_5 rfl (lv_at hl 0 rfl) ?_
    refine va_get (D := g) (ci := 1) (v := .int (nI n)) (C := RX1) (T := TX1) (N := 3) hx hb hts hi_wsX10 hown hK hP 0 rfl rfl 0 (by decide) (hts (.fieldLink RX1 17 "FloodBarrier$Districts" "many" "I") (List.mem_of_getElem? (i := 1) rfl)) (fun _ h9 => h9) rfl dX1_has_6 ?_
    refine lv_icmp_ge (tgt := 16) hx hb dX1_has_9 (by decide) (fun c_2 => ?_) (fun c_2 => ?_)
    · refine lv_iconst (v := 0) hx hb dX1_has_16 (by decide) ?_
      exact z_zretR hx hb hr hlocks rfl rfl (by simp [c_1, c_2]) dX1_has_17
    · refine lv_iconst (v := 1) hx hb dX1_has_12 (by decide) ?_
      refine lv_goto (tgt := 17) hx hb dX1_has_13 (by decide) ?_
      exact z_zretR hx hb hr hlocks rfl rfl (by simp [c_1, c_2]) dX1_has_17

set_option maxHeartbeats 4000000 in
set_option maxRecDepth 100000 in
theorem c_X1_weightForClosing (l : Launch) (g : va_G) (ct : Nat → ClassId) (d0 d1 d2 : Nat) (n : Nat) (we cl : Nat → Int32) (hn : n ≤ 6) : Met l yX1_weightForClosing wsX1_weightForClosing (zRm 0 0) (va_Pc [.ref d0] (zR g ct [zO d0 1 [.int (nI n), .ref d1, .ref d2], zI ct d1 6 we, zZ ct d2 6 cl])) (vp_Si (fun r => r = wcI cl we n)) 0 0 (fun _ => False) := by
  refine z_read (cc := cX1_weightForClosing) (maxL := 3) (ret := some .int) (by decide) rfl (Nat.le_of_ble_eq_true rfl) ?_
  intro p e s m below meth c ls hx hb hr hml hts hown hlocks hP hK hl
  have hown : s.vm.findClass RX1 = some m.cls := hown
  have hl : lv_has ls 3 [(0, .ref d0)] := hl
  have hi_wsX10 : ∀ w ∈ wsX10, w ∈ wsX1_weightForClosing := fun w h => List.mem_cons_of_mem _ (List.mem_append_right _ h)
  refine lv_iconst (v := 0) hx hb dX1_weightForClosing_0 (by decide) ?_
  refine lv_istore_n (lv' := [(1, .int 0), (0, .ref d0)]) hx hb dX1_weightForClosing_1 rfl hl (by decide) rfl (fun ls hl => ?_)
  refine lv_iconst (v := 0) hx hb dX1_weightForClosing_2 (by decide) ?_
  refine lv_istore_n (lv' := [(2, .int 0), (1, .int 0), (0, .ref d0)]) hx hb dX1_weightForClosing_3 rfl hl (by decide) rfl (fun ls hl => ?_)
  refine z_loop n (fun k1 H2 locs2 ls => H2 = s.heap ∧ locs2 = [] ∧ lv_has ls 3 [(0, .ref d0), (1, .int (wcI cl we k1)), (2, .int (nI k1))]) ⟨rfl, rfl, lv_sub hl [2, 1, 0] rfl⟩ ?_
  intro k1 H2 locs2 ls hkk1 hI ihk1
  obtain ⟨rfl, rfl, hl⟩ := hI
  refine lv_iload_n hx hb dX1_weightForClosing_4 rfl (lv_at hl 2 rfl) ?_
  refine lv_aload_n hx hb dX1_weightForClosing_5 rfl (lv_at hl 0 rfl) ?_
  refine va_get (D := g) (ci := 1) (v := .int (nI n)) (C := RX1) (T := TX1) (N := 3) hx hb hts hi_wsX10 hown hK hP 0 rfl rfl 0 (by decide) (hts (.fieldLink RX1 17 "FloodBarrier$Districts" "many" "I") (List.mem_of_getElem? (i := 1) rfl)) (fun _ h9 => h9) rfl dX1_weightForClosing_6 ?_
  refine z_icN_ge (x := k1) (y := n) (tgt := 36) hx hb (by omega) (by omega) dX1_weightForClosing_9 (by decide) (fun c_1 => ?_) (fun c_1 => ?_)
  · have hkn : n = k1 := by omega
    subst hkn
    refine lv_iload_n hx hb dX1_weightForClosing_36 rfl (lv_at hl 1 rfl) ?_
    exact z_iretR hx hb hr hlocks rfl rfl dX1_weightForClosing_37
  · refine lv_aload_n hx hb dX1_weightForClosing_12 rfl (lv_at hl 0 rfl) ?_
    refine va_get (D := g) (ci := 1) (v := .ref d2) (C := RX1) (T := TX1) (N := 3) hx hb hts hi_wsX10 hown hK hP 0 rfl rfl 2 (by decide) (hts (.fieldLink RX1 13 "FloodBarrier$Districts" "closing" "[Z") (List.mem_of_getElem? (i := 2) rfl)) (fun _ h9 => h9) rfl dX1_weightForClosing_13 ?_
    refine lv_iload_n hx hb dX1_weightForClosing_16 rfl (lv_at hl 2 rfl) ?_
    refine z_zald (ct := ct) (f := cl) (k := k1) hx hb hK hP 2 rfl (by omega) (by decide) dX1_weightForClosing_17 ?_
    refine lv_if_eq (tgt := 30) hx hb dX1_weightForClosing_18 (by decide) (fun c_2 => ?_) (fun c_2 => ?_)
    · refine lv_iinc (v := nI (k1 + 1)) (lv' := [(2, .int (nI (k1 + 1))), (0, .ref d0), (1, .int (wcI cl we k1))]) hx hb dX1_weightForClosing_30 hl (k := 2) rfl (nI_add k1 1) (by decide) rfl (fun ls hl => ?_)
      refine lv_goto (tgt := 4) hx hb dX1_weightForClosing_33 (by decide) ?_
      exact ihk1 _ _ _ (by omega) ⟨rfl, rfl, (by first | exact lv_sub hl [1, 2, 0] rfl | (simp only [lp_s, wcI, if_pos c_1, if_pos c_2]; exact lv_sub hl [1, 2, 0] rfl))⟩
    · refine lv_iload_n hx hb dX1_weightForClosing_21 rfl (lv_at hl 1 rfl) ?_
      refine lv_aload_n hx hb dX1_weightForClosing_22 rfl (lv_at hl 0 rfl) ?_
      refine va_get (D := g) (ci := 1) (v := .ref d1) (C := RX1) (T := TX1) (N := 3) hx hb hts hi_wsX10 hown hK hP 0 rfl rfl 1 (by decide) (hts (.fieldLink RX1 9 "FloodBarrier$Districts" "weight" "[I") (List.mem_of_getElem? (i := 3) rfl)) (fun _ h9 => h9) rfl dX1_weightForClosing_23 ?_
      refine lv_iload_n hx hb dX1_weightForClosing_26 rfl (lv_at hl 2 rfl) ?_
      refine z_iald (ct := ct) (f := we) (k := k1) hx hb hK hP 1 rfl (by omega) (by decide) dX1_weightForClosing_27 ?_
      refine lv_iadd hx hb dX1_weightForClosing_28 ?_
      refine lv_istore_n (lv' := [(1, .int ((wcI cl we k1) + (we k1))), (0, .ref d0), (2, .int (nI k1))]) hx hb dX1_weightForClosing_29 rfl hl (by decide) rfl (fun ls hl => ?_)
      refine lv_iinc (v := nI (k1 + 1)) (lv' := [(2, .int (nI (k1 + 1))), (1, .int ((wcI cl we k1) + (we k1))), (0, .ref d0)]) hx hb dX1_weightForClosing_30 hl (k := 2) rfl (nI_add k1 1) (by decide) rfl (fun ls hl => ?_)
      refine lv_goto (tgt := 4) hx hb dX1_weightForClosing_33 (by decide) ?_
      exact ihk1 _ _ _ (by omega) ⟨rfl, rfl, (by first | exact lv_sub hl [2, 1, 0] rfl | (simp only [lp_s, wcI, if_pos c_1, if_neg c_2]; exact lv_sub hl [2, 1, 0] rfl))⟩

set_option maxHeartbeats 4000000 in
set_option maxRecDepth 100000 in
theorem c_X1_weightOfAll (l : Launch) (g : va_G) (ct : Nat → ClassId) (d0 d1 d2 : Nat) (n : Nat) (we cl : Nat → Int32) (hn : n ≤ 6) : Met l yX1_weightOfAll wsX1_weightOfAll (zRm 0 0) (va_Pc [.ref d0] (zR g ct [zO d0 1 [.int (nI n), .ref d1, .ref d2], zI ct d1 6 we, zZ ct d2 6 cl])) (vp_Si (fun r => r = waI we n)) 0 0 (fun _ => False) := by
  refine z_read (cc := cX1_weightOfAll) (maxL := 3) (ret := some .int) (by decide) rfl (Nat.le_of_ble_eq_true rfl) ?_
  intro p e s m below meth c ls hx hb hr hml hts hown hlocks hP hK hl
  have hown : s.vm.findClass RX1 = some m.cls := hown
  have hl : lv_has ls 3 [(0, .ref d0)] := hl
  have hi_wsX10 : ∀ w ∈ wsX10, w ∈ wsX1_weightOfAll := fun w h => List.mem_cons_of_mem _ (List.mem_append_right _ h)
  refine lv_iconst (v := 0) hx hb dX1_weightOfAll_0 (by decide) ?_
  refine lv_istore_n (lv' := [(1, .int 0), (0, .ref d0)]) hx hb dX1_weightOfAll_1 rfl hl (by decide) rfl (fun ls hl => ?_)
  refine lv_iconst (v := 0) hx hb dX1_weightOfAll_2 (by decide) ?_
  refine lv_istore_n (lv' := [(2, .int 0), (1, .int 0), (0, .ref d0)]) hx hb dX1_weightOfAll_3 rfl hl (by decide) rfl (fun ls hl => ?_)
  refine z_loop n (fun k1 H2 locs2 ls => H2 = s.heap ∧ locs2 = [] ∧ lv_has ls 3 [(0, .ref d0), (1, .int (waI we k1)), (2, .int (nI k1))]) ⟨rfl, rfl, lv_sub hl [2, 1, 0] rfl⟩ ?_
  intro k1 H2 locs2 ls hkk1 hI ihk1
  obtain ⟨rfl, rfl, hl⟩ := hI
  refine lv_iload_n hx hb dX1_weightOfAll_4 rfl (lv_at hl 2 rfl) ?_
  refine lv_aload_n hx hb dX1_weightOfAll_5 rfl (lv_at hl 0 rfl) ?_
  refine va_get (D := g) (ci := 1) (v := .int (nI n)) (C := RX1) (T := TX1) (N := 3) hx hb hts hi_wsX10 hown hK hP 0 rfl rfl 0 (by decide) (hts (.fieldLink RX1 17 "FloodBarrier$Districts" "many" "I") (List.mem_of_getElem? (i := 1) rfl)) (fun _ h9 => h9) rfl dX1_weightOfAll_6 ?_
  refine z_icN_ge (x := k1) (y := n) (tgt := 27) hx hb (by omega) (by omega) dX1_weightOfAll_9 (by decide) (fun c_1 => ?_) (fun c_1 => ?_)
  · have hkn : n = k1 := by omega
    subst hkn
    refine lv_iload_n hx hb dX1_weightOfAll_27 rfl (lv_at hl 1 rfl) ?_
    exact z_iretR hx hb hr hlocks rfl rfl dX1_weightOfAll_28
  · refine lv_iload_n hx hb dX1_weightOfAll_12 rfl (lv_at hl 1 rfl) ?_
    refine lv_aload_n hx hb dX1_weightOfAll_13 rfl (lv_at hl 0 rfl) ?_
    refine va_get (D := g) (ci := 1) (v := .ref d1) (C := RX1) (T := TX1) (N := 3) hx hb hts hi_wsX10 hown hK hP 0 rfl rfl 1 (by decide) (hts (.fieldLink RX1 9 "FloodBarrier$Districts" "weight" "[I") (List.mem_of_getElem? (i := 2) rfl)) (fun _ h9 => h9) rfl dX1_weightOfAll_14 ?_
    refine lv_iload_n hx hb dX1_weightOfAll_17 rfl (lv_at hl 2 rfl) ?_
    refine z_iald (ct := ct) (f := we) (k := k1) hx hb hK hP 1 rfl (by omega) (by decide) dX1_weightOfAll_18 ?_
    refine lv_iadd hx hb dX1_weightOfAll_19 ?_
    refine lv_istore_n (lv' := [(1, .int ((waI we k1) + (we k1))), (0, .ref d0), (2, .int (nI k1))]) hx hb dX1_weightOfAll_20 rfl hl (by decide) rfl (fun ls hl => ?_)
    refine lv_iinc (v := nI (k1 + 1)) (lv' := [(2, .int (nI (k1 + 1))), (1, .int ((waI we k1) + (we k1))), (0, .ref d0)]) hx hb dX1_weightOfAll_21 hl (k := 2) rfl (nI_add k1 1) (by decide) rfl (fun ls hl => ?_)
    refine lv_goto (tgt := 4) hx hb dX1_weightOfAll_24 (by decide) ?_
    exact ihk1 _ _ _ (by omega) ⟨rfl, rfl, (by first | exact lv_sub hl [2, 1, 0] rfl | (simp only [lp_s, waI, if_pos c_1]; exact lv_sub hl [2, 1, 0] rfl))⟩

set_option maxHeartbeats 4000000 in
set_option maxRecDepth 100000 in
theorem c_X1_allowClosing (l : Launch) (g : va_G) (ct : Nat → ClassId) (d0 d1 d2 : Nat) (n : Nat) (we cl : Nat → Int32) (hn : n ≤ 6) : Met l yX1_allowClosing wsX1_allowClosing (zRm 1 22) (va_Pc [.ref d0] (zR g ct [zO d0 1 [.int (nI n), .ref d1, .ref d2], zI ct d1 6 we, zZ ct d2 6 cl])) (vp_Si (fun r => r = if ¬ 2 * wcI cl we n ≤ waI we n then 1 else 0)) 0 0 (fun _ => False) := by
  refine z_read (cc := cX1_allowClosing) (maxL := 1) (ret := some .boolean) (by decide) rfl (Nat.le_of_ble_eq_true rfl) ?_
  intro p e s m below meth c ls hx hb hr hml hts hown hlocks hP hK hl
  have hown : s.vm.findClass RX1 = some m.cls := hown
  have hl : lv_has ls 1 [(0, .ref d0)] := hl
  refine lv_iconst (v := 2) hx hb dX1_allowClosing_0 (by decide) ?_
  refine lv_aload_n hx hb dX1_allowClosing_1 rfl (lv_at hl 0 rfl) ?_
  refine z_cVi (wc := [zO d0 1 [.int (nI n), .ref d1, .ref d2], zI ct d1 6 we, zZ ct d2 6 cl]) (As := []) (rest := [.int 2]) ⟨hx, hb, hml, hown, hts⟩ hK hP [0, 1, 2] rfl (c_X1_weightForClosing l g ct d0 d1 d2 n we cl (by omega)) (cwV 0 hts gX1_allowClosing_X1_weightForClosing rfl rfl rfl (by decide +kernel) ⟨Nat.le_of_ble_eq_true rfl, Nat.le_of_ble_eq_true rfl⟩) 0 rfl rfl rfl hl.1 rfl (Nat.le_of_ble_eq_true rfl) dX1_allowClosing_2 ⟨Nat.zero_le _, Nat.zero_le _⟩ ?_
  refine lv_imul hx hb dX1_allowClosing_5 ?_
  refine lv_aload_n hx hb dX1_allowClosing_6 rfl (lv_at hl 0 rfl) ?_
  refine z_cVi (wc := [zO d0 1 [.int (nI n), .ref d1, .ref d2], zI ct d1 6 we, zZ ct d2 6 cl]) (As := []) (rest := [.int (2 * (wcI cl we n))]) ⟨hx, hb, hml, hown, hts⟩ hK hP [0, 1, 2] rfl (c_X1_weightOfAll l g ct d0 d1 d2 n we cl (by omega)) (cwV 0 hts gX1_allowClosing_X1_weightOfAll rfl rfl rfl (by decide +kernel) ⟨Nat.le_of_ble_eq_true rfl, Nat.le_of_ble_eq_true rfl⟩) 0 rfl rfl rfl hl.1 rfl (Nat.le_of_ble_eq_true rfl) dX1_allowClosing_7 ⟨Nat.zero_le _, Nat.zero_le _⟩ ?_
  refine lv_icmp_le (tgt := 17) hx hb dX1_allowClosing_10 (by decide) (fun c_1 => ?_) (fun c_1 => ?_)
  · refine lv_iconst (v := 0) hx hb dX1_allowClosing_17 (by decide) ?_
    exact z_zretR hx hb hr hlocks rfl rfl (by simp [c_1]) dX1_allowClosing_18
  · refine lv_iconst (v := 1) hx hb dX1_allowClosing_13 (by decide) ?_
    refine lv_goto (tgt := 18) hx hb dX1_allowClosing_14 (by decide) ?_
    exact z_zretR hx hb hr hlocks rfl rfl (by simp [c_1]) dX1_allowClosing_18

set_option maxHeartbeats 4000000 in
set_option maxRecDepth 100000 in
theorem c_X1_add (l : Launch) (g : va_G) (ct : Nat → ClassId) (sz : Nat) (d0 d1 d2 : Nat) (n : Nat) (we cl : Nat → Int32) (hn : n < 6) (x : Int32) : Met l yX1_add wsX1_add (zRm 0 0) (va_Pc [.ref d0, .int x] (zW g ct [zO d0 1 [.int (nI n), .ref d1, .ref d2], zI ct d1 6 we, zZ ct d2 6 cl] sz)) (zQi g [zO d0 1 [.int (nI (n + 1)), .ref d1, .ref d2], zI ct d1 6 (upd we n x), zZ ct d2 6 (upd cl n 0)] (nI n) (va_A [zO d0 1 [.int (nI n), .ref d1, .ref d2], zI ct d1 6 we, zZ ct d2 6 cl] sz)) 0 0 (va_A [zO d0 1 [.int (nI n), .ref d1, .ref d2], zI ct d1 6 we, zZ ct d2 6 cl] sz) := by
  refine z_write (QA := zQi g [zO d0 1 [.int (nI (n + 1)), .ref d1, .ref d2], zI ct d1 6 (upd we n x), zZ ct d2 6 (upd cl n 0)] (nI n)) (cc := cX1_add) (maxL := 3) (ret := some .int) (by decide) rfl (Nat.le_of_ble_eq_true rfl) ?_
  intro p e s m below meth c ls A hx hb hr hml hts hown hlocks hin hP hK hD hNW hA hS hl
  have hown : s.vm.findClass RX1 = some m.cls := hown
  have hl : lv_has ls 3 [(0, .ref d0), (1, .int x)] := hl
  have hi_wsX10 : ∀ w ∈ wsX10, w ∈ wsX1_add := fun w h => List.mem_cons_of_mem _ (List.mem_append_right _ h)
  refine lv_aload_n hx hb dX1_add_0 rfl (lv_at hl 0 rfl) ?_
  refine va_get (D := g) (ci := 1) (v := .int (nI n)) (C := RX1) (T := TX1) (N := 3) hx hb hts hi_wsX10 hown hK hP 0 rfl rfl 0 (by decide) (hts (.fieldLink RX1 17 "FloodBarrier$Districts" "many" "I") (List.mem_of_getElem? (i := 1) rfl)) (fun _ h9 => h9) rfl dX1_add_1 ?_
  refine lv_istore_n (lv' := [(2, .int (nI n)), (0, .ref d0), (1, .int x)]) hx hb dX1_add_4 rfl hl (by decide) rfl (fun ls hl => ?_)
  refine lv_aload_n hx hb dX1_add_5 rfl (lv_at hl 1 rfl) ?_
  refine va_get (D := g) (ci := 1) (v := .ref d1) (C := RX1) (T := TX1) (N := 3) hx hb hts hi_wsX10 hown hK hP 0 rfl rfl 1 (by decide) (hts (.fieldLink RX1 9 "FloodBarrier$Districts" "weight" "[I") (List.mem_of_getElem? (i := 2) rfl)) (fun _ h9 => h9) rfl dX1_add_6 ?_
  refine lv_iload_n hx hb dX1_add_9 rfl (lv_at hl 0 rfl) ?_
  refine lv_iload_n hx hb dX1_add_10 rfl (lv_at hl 2 rfl) ?_
  refine z_iast (ct := ct) (f := we) (k := n) (x := x) hx hb hK hP hD hS 1 rfl (by omega) (by decide) dX1_add_11 (fun H locs hP hD hS => ?_)
  have hP : va_P g vwCl [zO d0 1 [.int (nI n), .ref d1, .ref d2], zI ct d1 6 (upd we n x), zZ ct d2 6 cl] H := hP
  have hD : va_D A [zO d0 1 [.int (nI n), .ref d1, .ref d2], zI ct d1 6 (upd we n x), zZ ct d2 6 cl] := hD
  refine lv_aload_n hx hb dX1_add_12 rfl (lv_at hl 1 rfl) ?_
  refine va_get (D := g) (ci := 1) (v := .ref d2) (C := RX1) (T := TX1) (N := 3) hx hb hts hi_wsX10 hown hK hP 0 rfl rfl 2 (by decide) (hts (.fieldLink RX1 13 "FloodBarrier$Districts" "closing" "[Z") (List.mem_of_getElem? (i := 3) rfl)) (fun _ h9 => h9) rfl dX1_add_13 ?_
  refine lv_iload_n hx hb dX1_add_16 rfl (lv_at hl 0 rfl) ?_
  refine lv_iconst (v := 0) hx hb dX1_add_17 (by decide) ?_
  refine z_zast (ct := ct) (f := cl) (k := n) (x := 0) hx hb hK hP hD hS 2 rfl rfl (by omega) (by decide) dX1_add_18 (fun H locs hP hD hS => ?_)
  have hP : va_P g vwCl [zO d0 1 [.int (nI n), .ref d1, .ref d2], zI ct d1 6 (upd we n x), zZ ct d2 6 (upd cl n 0)] H := hP
  have hD : va_D A [zO d0 1 [.int (nI n), .ref d1, .ref d2], zI ct d1 6 (upd we n x), zZ ct d2 6 (upd cl n 0)] := hD
  refine lv_aload_n hx hb dX1_add_19 rfl (lv_at hl 1 rfl) ?_
  refine lv_dup hx hb dX1_add_20 rfl ?_
  refine va_get (D := g) (ci := 1) (v := .int (nI n)) (C := RX1) (T := TX1) (N := 3) hx hb hts hi_wsX10 hown hK hP 0 rfl rfl 0 (by decide) (hts (.fieldLink RX1 17 "FloodBarrier$Districts" "many" "I") (List.mem_of_getElem? (i := 1) rfl)) (fun _ h9 => h9) rfl dX1_add_21 ?_
  refine lv_iconst (v := 1) hx hb dX1_add_24 (by decide) ?_
  refine z_iaddN (x := n) (y := 1) hx hb dX1_add_25 ?_
  refine va_put (D := g) (ci := 1) (v := .int (nI (n + 1))) (C := RX1) (T := TX1) (N := 3) hx hb hts hi_wsX10 tyX1 tyX1_ok nmX1 hown hK hP hD hS 0 rfl rfl 0 (by decide) (hts (.fieldLink RX1 17 "FloodBarrier$Districts" "many" "I") (List.mem_of_getElem? (i := 1) rfl)) (fun _ h9 => h9) rfl (tyX1_ok 0 (by decide)) rfl rfl (Nat.le_of_ble_eq_true rfl) dX1_add_26 (fun H locs hP hD hS => ?_)
  have hP : va_P g vwCl [zO d0 1 [.int (nI (n + 1)), .ref d1, .ref d2], zI ct d1 6 (upd we n x), zZ ct d2 6 (upd cl n 0)] H := hP
  have hD : va_D A [zO d0 1 [.int (nI (n + 1)), .ref d1, .ref d2], zI ct d1 6 (upd we n x), zZ ct d2 6 (upd cl n 0)] := hD
  refine lv_iload_n hx hb dX1_add_29 rfl (lv_at hl 0 rfl) ?_
  exact z_iretW hx hb hr hlocks hS hP hD rfl rfl (Nat.le_refl _) (Nat.le_refl _) dX1_add_30

set_option maxHeartbeats 4000000 in
set_option maxRecDepth 100000 in
theorem c_X1_copyFrom (l : Launch) (g : va_G) (ct : Nat → ClassId) (sz : Nat) (d0 d1 d2 : Nat) (n : Nat) (we cl : Nat → Int32) (e0 e1 e2 : Nat) (n2 : Nat) (we2 cl2 : Nat → Int32) (hz : ∀ i, i < 6 → cl2 i = 0 ∨ cl2 i = 1) : Met l yX1_copyFrom wsX1_copyFrom (zRm 1 30) (va_Pc [.ref d0, .ref e0] (zW g ct [zO d0 1 [.int (nI n), .ref d1, .ref d2], zI ct d1 6 we, zZ ct d2 6 cl, zO e0 1 [.int (nI n2), .ref e1, .ref e2], zI ct e1 6 we2, zZ ct e2 6 cl2] sz)) (zQv g [zO d0 1 [.int (nI n2), .ref d1, .ref d2], zI ct d1 6 we2, zZ ct d2 6 cl2, zO e0 1 [.int (nI n2), .ref e1, .ref e2], zI ct e1 6 we2, zZ ct e2 6 cl2] (va_A [zO d0 1 [.int (nI n), .ref d1, .ref d2], zI ct d1 6 we, zZ ct d2 6 cl, zO e0 1 [.int (nI n2), .ref e1, .ref e2], zI ct e1 6 we2, zZ ct e2 6 cl2] sz)) 0 0 (va_A [zO d0 1 [.int (nI n), .ref d1, .ref d2], zI ct d1 6 we, zZ ct d2 6 cl, zO e0 1 [.int (nI n2), .ref e1, .ref e2], zI ct e1 6 we2, zZ ct e2 6 cl2] sz) := by
  refine z_write (QA := zQv g [zO d0 1 [.int (nI n2), .ref d1, .ref d2], zI ct d1 6 we2, zZ ct d2 6 cl2, zO e0 1 [.int (nI n2), .ref e1, .ref e2], zI ct e1 6 we2, zZ ct e2 6 cl2]) (cc := cX1_copyFrom) (maxL := 2) (ret := none) (by decide) rfl (Nat.le_of_ble_eq_true rfl) ?_
  intro p e s m below meth c ls A hx hb hr hml hts hown hlocks hin hP hK hD hNW hA hS hl
  have hown : s.vm.findClass RX1 = some m.cls := hown
  have hl : lv_has ls 2 [(0, .ref d0), (1, .ref e0)] := hl
  have hi_wsX10 : ∀ w ∈ wsX10, w ∈ wsX1_copyFrom := fun w h => List.mem_cons_of_mem _ (List.mem_append_right _ h)
  refine lv_aload_n hx hb dX1_copyFrom_0 rfl (lv_at hl 0 rfl) ?_
  refine lv_aload_n hx hb dX1_copyFrom_1 rfl (lv_at hl 1 rfl) ?_
  refine va_get (D := g) (ci := 1) (v := .int (nI n2)) (C := RX1) (T := TX1) (N := 3) hx hb hts hi_wsX10 hown hK hP 3 rfl rfl 0 (by decide) (hts (.fieldLink RX1 17 "FloodBarrier$Districts" "many" "I") (List.mem_of_getElem? (i := 1) rfl)) (fun _ h9 => h9) rfl dX1_copyFrom_2 ?_
  refine va_put (D := g) (ci := 1) (v := .int (nI n2)) (C := RX1) (T := TX1) (N := 3) hx hb hts hi_wsX10 tyX1 tyX1_ok nmX1 hown hK hP hD hS 0 rfl rfl 0 (by decide) (hts (.fieldLink RX1 17 "FloodBarrier$Districts" "many" "I") (List.mem_of_getElem? (i := 1) rfl)) (fun _ h9 => h9) rfl (tyX1_ok 0 (by decide)) rfl rfl (Nat.le_of_ble_eq_true rfl) dX1_copyFrom_5 (fun H locs hP hD hS => ?_)
  have hP : va_P g vwCl [zO d0 1 [.int (nI n2), .ref d1, .ref d2], zI ct d1 6 we, zZ ct d2 6 cl, zO e0 1 [.int (nI n2), .ref e1, .ref e2], zI ct e1 6 we2, zZ ct e2 6 cl2] H := hP
  have hD : va_D A [zO d0 1 [.int (nI n2), .ref d1, .ref d2], zI ct d1 6 we, zZ ct d2 6 cl, zO e0 1 [.int (nI n2), .ref e1, .ref e2], zI ct e1 6 we2, zZ ct e2 6 cl2] := hD
  refine lv_aload_n hx hb dX1_copyFrom_8 rfl (lv_at hl 1 rfl) ?_
  refine va_get (D := g) (ci := 1) (v := .ref e1) (C := RX1) (T := TX1) (N := 3) hx hb hts hi_wsX10 hown hK hP 3 rfl rfl 1 (by decide) (hts (.fieldLink RX1 9 "FloodBarrier$Districts" "weight" "[I") (List.mem_of_getElem? (i := 2) rfl)) (fun _ h9 => h9) rfl dX1_copyFrom_9 ?_
  refine lv_iconst (v := 0) hx hb dX1_copyFrom_12 (by decide) ?_
  refine lv_aload_n hx hb dX1_copyFrom_13 rfl (lv_at hl 0 rfl) ?_
  refine va_get (D := g) (ci := 1) (v := .ref d1) (C := RX1) (T := TX1) (N := 3) hx hb hts hi_wsX10 hown hK hP 0 rfl rfl 1 (by decide) (hts (.fieldLink RX1 9 "FloodBarrier$Districts" "weight" "[I") (List.mem_of_getElem? (i := 2) rfl)) (fun _ h9 => h9) rfl dX1_copyFrom_14 ?_
  refine lv_iconst (v := 0) hx hb dX1_copyFrom_17 (by decide) ?_
  refine lv_bipush (v := 6) hx hb dX1_copyFrom_18 (by decide) ?_
  refine z_copyI (ct := ct) (N := 6) (f := we2) (h := we) hx hb (hml.trans hl.1.symm) hown (hts (.methodLink RX1 21 arraycopyName) (List.mem_of_getElem? (i := 3) rfl)) (hts (.native arraycopyName) (List.mem_of_getElem? (i := 4) rfl)) (hts (.static arraycopyName) (List.mem_of_getElem? (i := 5) rfl)) (hts (.initialized "java/lang/System") (List.mem_of_getElem? (i := 6) rfl)) hK hP hD hS 4 1 rfl rfl (by decide) (by decide) (Nat.le_of_ble_eq_true rfl) (Nat.le_of_ble_eq_true rfl) dX1_copyFrom_20 (fun H locs hP hD hS => ?_)
  have hP : va_P g vwCl [zO d0 1 [.int (nI n2), .ref d1, .ref d2], zI ct d1 6 we2, zZ ct d2 6 cl, zO e0 1 [.int (nI n2), .ref e1, .ref e2], zI ct e1 6 we2, zZ ct e2 6 cl2] H := hP
  have hD : va_D A [zO d0 1 [.int (nI n2), .ref d1, .ref d2], zI ct d1 6 we2, zZ ct d2 6 cl, zO e0 1 [.int (nI n2), .ref e1, .ref e2], zI ct e1 6 we2, zZ ct e2 6 cl2] := hD
  refine lv_aload_n hx hb dX1_copyFrom_23 rfl (lv_at hl 1 rfl) ?_
  refine va_get (D := g) (ci := 1) (v := .ref e2) (C := RX1) (T := TX1) (N := 3) hx hb hts hi_wsX10 hown hK hP 3 rfl rfl 2 (by decide) (hts (.fieldLink RX1 13 "FloodBarrier$Districts" "closing" "[Z") (List.mem_of_getElem? (i := 7) rfl)) (fun _ h9 => h9) rfl dX1_copyFrom_24 ?_
  refine lv_iconst (v := 0) hx hb dX1_copyFrom_27 (by decide) ?_
  refine lv_aload_n hx hb dX1_copyFrom_28 rfl (lv_at hl 0 rfl) ?_
  refine va_get (D := g) (ci := 1) (v := .ref d2) (C := RX1) (T := TX1) (N := 3) hx hb hts hi_wsX10 hown hK hP 0 rfl rfl 2 (by decide) (hts (.fieldLink RX1 13 "FloodBarrier$Districts" "closing" "[Z") (List.mem_of_getElem? (i := 7) rfl)) (fun _ h9 => h9) rfl dX1_copyFrom_29 ?_
  refine lv_iconst (v := 0) hx hb dX1_copyFrom_32 (by decide) ?_
  refine lv_bipush (v := 6) hx hb dX1_copyFrom_33 (by decide) ?_
  refine z_copyZ (ct := ct) (N := 6) (f := cl2) (h := cl) hx hb (hml.trans hl.1.symm) hown (hts (.methodLink RX1 21 arraycopyName) (List.mem_of_getElem? (i := 3) rfl)) (hts (.native arraycopyName) (List.mem_of_getElem? (i := 4) rfl)) (hts (.static arraycopyName) (List.mem_of_getElem? (i := 5) rfl)) (hts (.initialized "java/lang/System") (List.mem_of_getElem? (i := 6) rfl)) hK hP hD hS 5 2 rfl rfl (by decide) (by decide) hz (Nat.le_of_ble_eq_true rfl) (Nat.le_of_ble_eq_true rfl) dX1_copyFrom_35 (fun H locs hP hD hS => ?_)
  have hP : va_P g vwCl [zO d0 1 [.int (nI n2), .ref d1, .ref d2], zI ct d1 6 we2, zZ ct d2 6 cl2, zO e0 1 [.int (nI n2), .ref e1, .ref e2], zI ct e1 6 we2, zZ ct e2 6 cl2] H := hP
  have hD : va_D A [zO d0 1 [.int (nI n2), .ref d1, .ref d2], zI ct d1 6 we2, zZ ct d2 6 cl2, zO e0 1 [.int (nI n2), .ref e1, .ref e2], zI ct e1 6 we2, zZ ct e2 6 cl2] := hD
  exact z_vretW hx hb hr hlocks hS hP hD rfl (Nat.le_refl _) (Nat.le_refl _) dX1_copyFrom_38
