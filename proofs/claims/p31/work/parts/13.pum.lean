set_option maxHeartbeats 4000000 in
set_option maxRecDepth 100000 in
theorem c_X4_isFull (l : Launch) (g : va_G) (ct : Nat → ClassId) (p0 p1 p2 p3 p4 : Nat) (n : Nat) (lim idl : Int32) (po wa on ra : Nat → Int32) (hn : n ≤ 6) : Met l yX4_isFull wsX4_isFull (zRm 0 0) (va_Pc [.ref p0] (zR g ct [zO p0 3 [.int (nI n), .int lim, .int idl, .ref p1, .ref p2, .ref p3, .ref p4], zI ct p1 6 po, zI ct p2 6 wa, zZ ct p3 6 on, zI ct p4 6 ra])) (vp_Si (fun r => r = if 6 ≤ n then 1 else 0)) 0 0 (fun _ => False) := by
  refine z_read (cc := cX4_isFull) (maxL := 1) (ret := some .boolean) (by decide) rfl (Nat.le_of_ble_eq_true rfl) ?_
  intro p e s m below meth c ls hx hb hr hml hts hown hlocks hP hK hl
  have hown : s.vm.findClass RX4 = some m.cls := hown
  have hl : lv_has ls 1 [(0, .ref p0)] := hl
  have hi_wsX40 : ∀ w ∈ wsX40, w ∈ wsX4_isFull := fun w h => List.mem_cons_of_mem _ (List.mem_append_right _ h)
  refine lv_aload_n hx hb dX4_isFull_0 rfl (lv_at hl 0 rfl) ?_
  refine va_get (D := g) (ci := 3) (v := .int (nI n)) (C := RX4) (T := TX4) (N := 7) hx hb hts hi_wsX40 hown hK hP 0 rfl rfl 0 (by decide) (hts (.fieldLink RX4 27 "FloodBarrier$Pumps" "many" "I") (List.mem_of_getElem? (i := 1) rfl)) (fun _ h9 => h9) rfl dX4_isFull_1 ?_
  refine lv_bipush (v := 6) hx hb dX4_isFull_4 (by decide) ?_
  refine z_icN_lt (x := n) (y := 6) (tgt := 13) hx hb (by omega) (by omega) dX4_isFull_6 (by decide) (fun c_1 => ?_) (fun c_1 => ?_)
  · refine lv_iconst (v := 0) hx hb dX4_isFull_13 (by decide) ?_
    exact z_zretR hx hb hr hlocks rfl rfl (by simp; omega) dX4_isFull_14
  · refine lv_iconst (v := 1) hx hb dX4_isFull_9 (by decide) ?_
    refine lv_goto (tgt := 14) hx hb dX4_isFull_10 (by decide) ?_
    exact z_zretR hx hb hr hlocks rfl rfl (by simp; omega) dX4_isFull_14

set_option maxHeartbeats 4000000 in
set_option maxRecDepth 100000 in
theorem c_X4_has (l : Launch) (g : va_G) (ct : Nat → ClassId) (p0 p1 p2 p3 p4 : Nat) (n : Nat) (lim idl : Int32) (po wa on ra : Nat → Int32) (x : Int32) : Met l yX4_has wsX4_has (zRm 0 0) (va_Pc [.ref p0, .int x] (zR g ct [zO p0 3 [.int (nI n), .int lim, .int idl, .ref p1, .ref p2, .ref p3, .ref p4], zI ct p1 6 po, zI ct p2 6 wa, zZ ct p3 6 on, zI ct p4 6 ra])) (vp_Si (fun r => r = if ¬ x < 0 ∧ x < nI n then 1 else 0)) 0 0 (fun _ => False) := by
  refine z_read (cc := cX4_has) (maxL := 2) (ret := some .boolean) (by decide) rfl (Nat.le_of_ble_eq_true rfl) ?_
  intro p e s m below meth c ls hx hb hr hml hts hown hlocks hP hK hl
  have hown : s.vm.findClass RX4 = some m.cls := hown
  have hl : lv_has ls 2 [(0, .ref p0), (1, .int x)] := hl
  have hi_wsX40 : ∀ w ∈ wsX40, w ∈ wsX4_has := fun w h => List.mem_cons_of_mem _ (List.mem_append_right _ h)
  refine lv_iload_n hx hb dX4_has_0 rfl (lv_at hl 1 rfl) ?_
  refine lv_if_lt (tgt := 16) hx hb dX4_has_1 (by decide) (fun c_1 => ?_) (fun c_1 => ?_)
  · refine lv_iconst (v := 0) hx hb dX4_has_16 (by decide) ?_
    exact z_zretR hx hb hr hlocks rfl rfl (by simp [c_1]) dX4_has_17
  · refine lv_iload_n hx hb dX4_has_4 rfl (lv_at hl 1 rfl) ?_
    refine lv_aload_n hx hb dX4_has_5 rfl (lv_at hl 0 rfl) ?_
    refine va_get (D := g) (ci := 3) (v := .int (nI n)) (C := RX4) (T := TX4) (N := 7) hx hb hts hi_wsX40 hown hK hP 0 rfl rfl 0 (by decide) (hts (.fieldLink RX4 27 "FloodBarrier$Pumps" "many" "I") (List.mem_of_getElem? (i := 1) rfl)) (fun _ h9 => h9) rfl dX4_has_6 ?_
    refine lv_icmp_ge (tgt := 16) hx hb dX4_has_9 (by decide) (fun c_2 => ?_) (fun c_2 => ?_)
    · refine lv_iconst (v := 0) hx hb dX4_has_16 (by decide) ?_
      exact z_zretR hx hb hr hlocks rfl rfl (by simp [c_1, c_2]) dX4_has_17
    · refine lv_iconst (v := 1) hx hb dX4_has_12 (by decide) ?_
      refine lv_goto (tgt := 17) hx hb dX4_has_13 (by decide) ?_
      exact z_zretR hx hb hr hlocks rfl rfl (by simp [c_1, c_2]) dX4_has_17

set_option maxHeartbeats 4000000 in
set_option maxRecDepth 100000 in
theorem c_X4_add (l : Launch) (g : va_G) (ct : Nat → ClassId) (sz : Nat) (p0 p1 p2 p3 p4 : Nat) (n : Nat) (lim idl : Int32) (po wa on ra : Nat → Int32) (hn : n < 6) (x y : Int32) : Met l yX4_add wsX4_add (zRm 0 0) (va_Pc [.ref p0, .int x, .int y] (zW g ct [zO p0 3 [.int (nI n), .int lim, .int idl, .ref p1, .ref p2, .ref p3, .ref p4], zI ct p1 6 po, zI ct p2 6 wa, zZ ct p3 6 on, zI ct p4 6 ra] sz)) (zQi g [zO p0 3 [.int (nI (n + 1)), .int lim, .int idl, .ref p1, .ref p2, .ref p3, .ref p4], zI ct p1 6 (upd po n x), zI ct p2 6 (upd wa n y), zZ ct p3 6 (upd on n 0), zI ct p4 6 (upd ra n 0)] (nI n) (va_A [zO p0 3 [.int (nI n), .int lim, .int idl, .ref p1, .ref p2, .ref p3, .ref p4], zI ct p1 6 po, zI ct p2 6 wa, zZ ct p3 6 on, zI ct p4 6 ra] sz)) 0 0 (va_A [zO p0 3 [.int (nI n), .int lim, .int idl, .ref p1, .ref p2, .ref p3, .ref p4], zI ct p1 6 po, zI ct p2 6 wa, zZ ct p3 6 on, zI ct p4 6 ra] sz) := by
  refine z_write (QA := zQi g [zO p0 3 [.int (nI (n + 1)), .int lim, .int idl, .ref p1, .ref p2, .ref p3, .ref p4], zI ct p1 6 (upd po n x), zI ct p2 6 (upd wa n y), zZ ct p3 6 (upd on n 0), zI ct p4 6 (upd ra n 0)] (nI n)) (cc := cX4_add) (maxL := 4) (ret := some .int) (by decide) rfl (Nat.le_of_ble_eq_true rfl) ?_
  intro p e s m below meth c ls A hx hb hr hml hts hown hlocks hin hP hK hD hNW hA hS hl
  have hown : s.vm.findClass RX4 = some m.cls := hown
  have hl : lv_has ls 4 [(0, .ref p0), (1, .int x), (2, .int y)] := hl
  have hi_wsX40 : ∀ w ∈ wsX40, w ∈ wsX4_add := fun w h => List.mem_cons_of_mem _ (List.mem_append_right _ h)
  refine lv_aload_n hx hb dX4_add_0 rfl (lv_at hl 0 rfl) ?_
  refine va_get (D := g) (ci := 3) (v := .int (nI n)) (C := RX4) (T := TX4) (N := 7) hx hb hts hi_wsX40 hown hK hP 0 rfl rfl 0 (by decide) (hts (.fieldLink RX4 27 "FloodBarrier$Pumps" "many" "I") (List.mem_of_getElem? (i := 1) rfl)) (fun _ h9 => h9) rfl dX4_add_1 ?_
  refine lv_istore_n (lv' := [(3, .int (nI n)), (0, .ref p0), (1, .int x), (2, .int y)]) hx hb dX4_add_4 rfl hl (by decide) rfl (fun ls hl => ?_)
  refine lv_aload_n hx hb dX4_add_5 rfl (lv_at hl 1 rfl) ?_
  refine va_get (D := g) (ci := 3) (v := .ref p1) (C := RX4) (T := TX4) (N := 7) hx hb hts hi_wsX40 hown hK hP 0 rfl rfl 3 (by decide) (hts (.fieldLink RX4 13 "FloodBarrier$Pumps" "power" "[I") (List.mem_of_getElem? (i := 2) rfl)) (fun _ h9 => h9) rfl dX4_add_6 ?_
  refine lv_iload_n hx hb dX4_add_9 rfl (lv_at hl 0 rfl) ?_
  refine lv_iload_n hx hb dX4_add_10 rfl (lv_at hl 2 rfl) ?_
  refine z_iast (ct := ct) (f := po) (k := n) (x := x) hx hb hK hP hD hS 1 rfl (by omega) (by decide) dX4_add_11 (fun H locs hP hD hS => ?_)
  have hP : va_P g vwCl [zO p0 3 [.int (nI n), .int lim, .int idl, .ref p1, .ref p2, .ref p3, .ref p4], zI ct p1 6 (upd po n x), zI ct p2 6 wa, zZ ct p3 6 on, zI ct p4 6 ra] H := hP
  have hD : va_D A [zO p0 3 [.int (nI n), .int lim, .int idl, .ref p1, .ref p2, .ref p3, .ref p4], zI ct p1 6 (upd po n x), zI ct p2 6 wa, zZ ct p3 6 on, zI ct p4 6 ra] := hD
  refine lv_aload_n hx hb dX4_add_12 rfl (lv_at hl 1 rfl) ?_
  refine va_get (D := g) (ci := 3) (v := .ref p2) (C := RX4) (T := TX4) (N := 7) hx hb hts hi_wsX40 hown hK hP 0 rfl rfl 4 (by decide) (hts (.fieldLink RX4 17 "FloodBarrier$Pumps" "water" "[I") (List.mem_of_getElem? (i := 3) rfl)) (fun _ h9 => h9) rfl dX4_add_13 ?_
  refine lv_iload_n hx hb dX4_add_16 rfl (lv_at hl 0 rfl) ?_
  refine lv_iload_n hx hb dX4_add_17 rfl (lv_at hl 3 rfl) ?_
  refine z_iast (ct := ct) (f := wa) (k := n) (x := y) hx hb hK hP hD hS 2 rfl (by omega) (by decide) dX4_add_18 (fun H locs hP hD hS => ?_)
  have hP : va_P g vwCl [zO p0 3 [.int (nI n), .int lim, .int idl, .ref p1, .ref p2, .ref p3, .ref p4], zI ct p1 6 (upd po n x), zI ct p2 6 (upd wa n y), zZ ct p3 6 on, zI ct p4 6 ra] H := hP
  have hD : va_D A [zO p0 3 [.int (nI n), .int lim, .int idl, .ref p1, .ref p2, .ref p3, .ref p4], zI ct p1 6 (upd po n x), zI ct p2 6 (upd wa n y), zZ ct p3 6 on, zI ct p4 6 ra] := hD
  refine lv_aload_n hx hb dX4_add_19 rfl (lv_at hl 1 rfl) ?_
  refine va_get (D := g) (ci := 3) (v := .ref p3) (C := RX4) (T := TX4) (N := 7) hx hb hts hi_wsX40 hown hK hP 0 rfl rfl 5 (by decide) (hts (.fieldLink RX4 20 "FloodBarrier$Pumps" "on" "[Z") (List.mem_of_getElem? (i := 4) rfl)) (fun _ h9 => h9) rfl dX4_add_20 ?_
  refine lv_iload_n hx hb dX4_add_23 rfl (lv_at hl 0 rfl) ?_
  refine lv_iconst (v := 0) hx hb dX4_add_24 (by decide) ?_
  refine z_zast (ct := ct) (f := on) (k := n) (x := 0) hx hb hK hP hD hS 3 rfl rfl (by omega) (by decide) dX4_add_25 (fun H locs hP hD hS => ?_)
  have hP : va_P g vwCl [zO p0 3 [.int (nI n), .int lim, .int idl, .ref p1, .ref p2, .ref p3, .ref p4], zI ct p1 6 (upd po n x), zI ct p2 6 (upd wa n y), zZ ct p3 6 (upd on n 0), zI ct p4 6 ra] H := hP
  have hD : va_D A [zO p0 3 [.int (nI n), .int lim, .int idl, .ref p1, .ref p2, .ref p3, .ref p4], zI ct p1 6 (upd po n x), zI ct p2 6 (upd wa n y), zZ ct p3 6 (upd on n 0), zI ct p4 6 ra] := hD
  refine lv_aload_n hx hb dX4_add_26 rfl (lv_at hl 1 rfl) ?_
  refine va_get (D := g) (ci := 3) (v := .ref p4) (C := RX4) (T := TX4) (N := 7) hx hb hts hi_wsX40 hown hK hP 0 rfl rfl 6 (by decide) (hts (.fieldLink RX4 24 "FloodBarrier$Pumps" "ran" "[I") (List.mem_of_getElem? (i := 5) rfl)) (fun _ h9 => h9) rfl dX4_add_27 ?_
  refine lv_iload_n hx hb dX4_add_30 rfl (lv_at hl 0 rfl) ?_
  refine lv_iconst (v := 0) hx hb dX4_add_31 (by decide) ?_
  refine z_iast (ct := ct) (f := ra) (k := n) (x := 0) hx hb hK hP hD hS 4 rfl (by omega) (by decide) dX4_add_32 (fun H locs hP hD hS => ?_)
  have hP : va_P g vwCl [zO p0 3 [.int (nI n), .int lim, .int idl, .ref p1, .ref p2, .ref p3, .ref p4], zI ct p1 6 (upd po n x), zI ct p2 6 (upd wa n y), zZ ct p3 6 (upd on n 0), zI ct p4 6 (upd ra n 0)] H := hP
  have hD : va_D A [zO p0 3 [.int (nI n), .int lim, .int idl, .ref p1, .ref p2, .ref p3, .ref p4], zI ct p1 6 (upd po n x), zI ct p2 6 (upd wa n y), zZ ct p3 6 (upd on n 0), zI ct p4 6 (upd ra n 0)] := hD
  refine lv_aload_n hx hb dX4_add_33 rfl (lv_at hl 1 rfl) ?_
  refine lv_dup hx hb dX4_add_34 rfl ?_
  refine va_get (D := g) (ci := 3) (v := .int (nI n)) (C := RX4) (T := TX4) (N := 7) hx hb hts hi_wsX40 hown hK hP 0 rfl rfl 0 (by decide) (hts (.fieldLink RX4 27 "FloodBarrier$Pumps" "many" "I") (List.mem_of_getElem? (i := 1) rfl)) (fun _ h9 => h9) rfl dX4_add_35 ?_
  refine lv_iconst (v := 1) hx hb dX4_add_38 (by decide) ?_
  refine z_iaddN (x := n) (y := 1) hx hb dX4_add_39 ?_
  refine va_put (D := g) (ci := 3) (v := .int (nI (n + 1))) (C := RX4) (T := TX4) (N := 7) hx hb hts hi_wsX40 tyX4 tyX4_ok nmX4 hown hK hP hD hS 0 rfl rfl 0 (by decide) (hts (.fieldLink RX4 27 "FloodBarrier$Pumps" "many" "I") (List.mem_of_getElem? (i := 1) rfl)) (fun _ h9 => h9) rfl (tyX4_ok 0 (by decide)) rfl rfl (Nat.le_of_ble_eq_true rfl) dX4_add_40 (fun H locs hP hD hS => ?_)
  have hP : va_P g vwCl [zO p0 3 [.int (nI (n + 1)), .int lim, .int idl, .ref p1, .ref p2, .ref p3, .ref p4], zI ct p1 6 (upd po n x), zI ct p2 6 (upd wa n y), zZ ct p3 6 (upd on n 0), zI ct p4 6 (upd ra n 0)] H := hP
  have hD : va_D A [zO p0 3 [.int (nI (n + 1)), .int lim, .int idl, .ref p1, .ref p2, .ref p3, .ref p4], zI ct p1 6 (upd po n x), zI ct p2 6 (upd wa n y), zZ ct p3 6 (upd on n 0), zI ct p4 6 (upd ra n 0)] := hD
  refine lv_iload_n hx hb dX4_add_43 rfl (lv_at hl 0 rfl) ?_
  exact z_iretW hx hb hr hlocks hS hP hD rfl rfl (Nat.le_refl _) (Nat.le_refl _) dX4_add_44

set_option maxHeartbeats 4000000 in
set_option maxRecDepth 100000 in
theorem c_X4_countOn (l : Launch) (g : va_G) (ct : Nat → ClassId) (p0 p1 p2 p3 p4 : Nat) (n : Nat) (lim idl : Int32) (po wa on ra : Nat → Int32) (hn : n ≤ 6) : Met l yX4_countOn wsX4_countOn (zRm 0 0) (va_Pc [.ref p0] (zR g ct [zO p0 3 [.int (nI n), .int lim, .int idl, .ref p1, .ref p2, .ref p3, .ref p4], zI ct p1 6 po, zI ct p2 6 wa, zZ ct p3 6 on, zI ct p4 6 ra])) (vp_Si (fun r => r = onI on n)) 0 0 (fun _ => False) := by
  refine z_read (cc := cX4_countOn) (maxL := 3) (ret := some .int) (by decide) rfl (Nat.le_of_ble_eq_true rfl) ?_
  intro p e s m below meth c ls hx hb hr hml hts hown hlocks hP hK hl
  have hown : s.vm.findClass RX4 = some m.cls := hown
  have hl : lv_has ls 3 [(0, .ref p0)] := hl
  have hi_wsX40 : ∀ w ∈ wsX40, w ∈ wsX4_countOn := fun w h => List.mem_cons_of_mem _ (List.mem_append_right _ h)
  refine lv_iconst (v := 0) hx hb dX4_countOn_0 (by decide) ?_
  refine lv_istore_n (lv' := [(1, .int 0), (0, .ref p0)]) hx hb dX4_countOn_1 rfl hl (by decide) rfl (fun ls hl => ?_)
  refine lv_iconst (v := 0) hx hb dX4_countOn_2 (by decide) ?_
  refine lv_istore_n (lv' := [(2, .int 0), (1, .int 0), (0, .ref p0)]) hx hb dX4_countOn_3 rfl hl (by decide) rfl (fun ls hl => ?_)
  refine z_loop n (fun k1 H2 locs2 ls => H2 = s.heap ∧ locs2 = [] ∧ lv_has ls 3 [(0, .ref p0), (1, .int (onI on k1)), (2, .int (nI k1))]) ⟨rfl, rfl, lv_sub hl [2, 1, 0] rfl⟩ ?_
  intro k1 H2 locs2 ls hkk1 hI ihk1
  obtain ⟨rfl, rfl, hl⟩ := hI
  refine lv_iload_n hx hb dX4_countOn_4 rfl (lv_at hl 2 rfl) ?_
  refine lv_aload_n hx hb dX4_countOn_5 rfl (lv_at hl 0 rfl) ?_
  refine va_get (D := g) (ci := 3) (v := .int (nI n)) (C := RX4) (T := TX4) (N := 7) hx hb hts hi_wsX40 hown hK hP 0 rfl rfl 0 (by decide) (hts (.fieldLink RX4 27 "FloodBarrier$Pumps" "many" "I") (List.mem_of_getElem? (i := 1) rfl)) (fun _ h9 => h9) rfl dX4_countOn_6 ?_
  refine z_icN_ge (x := k1) (y := n) (tgt := 30) hx hb (by omega) (by omega) dX4_countOn_9 (by decide) (fun c_1 => ?_) (fun c_1 => ?_)
  · have hkn : n = k1 := by omega
    subst hkn
    refine lv_iload_n hx hb dX4_countOn_30 rfl (lv_at hl 1 rfl) ?_
    exact z_iretR hx hb hr hlocks rfl rfl dX4_countOn_31
  · refine lv_aload_n hx hb dX4_countOn_12 rfl (lv_at hl 0 rfl) ?_
    refine va_get (D := g) (ci := 3) (v := .ref p3) (C := RX4) (T := TX4) (N := 7) hx hb hts hi_wsX40 hown hK hP 0 rfl rfl 5 (by decide) (hts (.fieldLink RX4 20 "FloodBarrier$Pumps" "on" "[Z") (List.mem_of_getElem? (i := 2) rfl)) (fun _ h9 => h9) rfl dX4_countOn_13 ?_
    refine lv_iload_n hx hb dX4_countOn_16 rfl (lv_at hl 2 rfl) ?_
    refine z_zald (ct := ct) (f := on) (k := k1) hx hb hK hP 3 rfl (by omega) (by decide) dX4_countOn_17 ?_
    refine lv_if_eq (tgt := 24) hx hb dX4_countOn_18 (by decide) (fun c_2 => ?_) (fun c_2 => ?_)
    · refine lv_iinc (v := nI (k1 + 1)) (lv' := [(2, .int (nI (k1 + 1))), (0, .ref p0), (1, .int (onI on k1))]) hx hb dX4_countOn_24 hl (k := 2) rfl (nI_add k1 1) (by decide) rfl (fun ls hl => ?_)
      refine lv_goto (tgt := 4) hx hb dX4_countOn_27 (by decide) ?_
      exact ihk1 _ _ _ (by omega) ⟨rfl, rfl, (by first | exact lv_sub hl [1, 2, 0] rfl | (simp only [lp_s, onI, if_pos c_1, if_pos c_2]; exact lv_sub hl [1, 2, 0] rfl))⟩
    · refine lv_iinc (v := (onI on k1) + 1) (lv' := [(1, .int ((onI on k1) + 1)), (0, .ref p0), (2, .int (nI k1))]) hx hb dX4_countOn_21 hl (k := 1) rfl rfl (by decide) rfl (fun ls hl => ?_)
      refine lv_iinc (v := nI (k1 + 1)) (lv' := [(2, .int (nI (k1 + 1))), (1, .int ((onI on k1) + 1)), (0, .ref p0)]) hx hb dX4_countOn_24 hl (k := 2) rfl (nI_add k1 1) (by decide) rfl (fun ls hl => ?_)
      refine lv_goto (tgt := 4) hx hb dX4_countOn_27 (by decide) ?_
      exact ihk1 _ _ _ (by omega) ⟨rfl, rfl, (by first | exact lv_sub hl [2, 1, 0] rfl | (simp only [lp_s, onI, if_pos c_1, if_neg c_2]; exact lv_sub hl [2, 1, 0] rfl))⟩

set_option maxHeartbeats 4000000 in
set_option maxRecDepth 100000 in
theorem c_X4_runsBeside (l : Launch) (g : va_G) (ct : Nat → ClassId) (p0 p1 p2 p3 p4 : Nat) (n : Nat) (lim idl : Int32) (po wa on ra : Nat → Int32) (dr : Int32) (k : Nat) (hk : k < 6) : Met l yX4_runsBeside wsX4_runsBeside (zRm 0 0) (va_Pc [.ref p0, .int dr, .int (nI k)] (zR g ct [zO p0 3 [.int (nI n), .int lim, .int idl, .ref p1, .ref p2, .ref p3, .ref p4], zI ct p1 6 po, zI ct p2 6 wa, zZ ct p3 6 on, zI ct p4 6 ra])) (vp_Si (fun r => r = if rbP on po lim dr k then 1 else 0)) 0 0 (fun _ => False) := by
  refine z_read (cc := cX4_runsBeside) (maxL := 3) (ret := some .boolean) (by decide) rfl (Nat.le_of_ble_eq_true rfl) ?_
  intro p e s m below meth c ls hx hb hr hml hts hown hlocks hP hK hl
  have hown : s.vm.findClass RX4 = some m.cls := hown
  have hl : lv_has ls 3 [(0, .ref p0), (1, .int dr), (2, .int (nI k))] := hl
  have hi_wsX40 : ∀ w ∈ wsX40, w ∈ wsX4_runsBeside := fun w h => List.mem_cons_of_mem _ (List.mem_append_right _ h)
  refine lv_aload_n hx hb dX4_runsBeside_0 rfl (lv_at hl 0 rfl) ?_
  refine va_get (D := g) (ci := 3) (v := .ref p3) (C := RX4) (T := TX4) (N := 7) hx hb hts hi_wsX40 hown hK hP 0 rfl rfl 5 (by decide) (hts (.fieldLink RX4 20 "FloodBarrier$Pumps" "on" "[Z") (List.mem_of_getElem? (i := 1) rfl)) (fun _ h9 => h9) rfl dX4_runsBeside_1 ?_
  refine lv_iload_n hx hb dX4_runsBeside_4 rfl (lv_at hl 2 rfl) ?_
  refine z_zald (ct := ct) (f := on) (k := k) hx hb hK hP 3 rfl (by omega) (by decide) dX4_runsBeside_5 ?_
  refine lv_if_eq (tgt := 28) hx hb dX4_runsBeside_6 (by decide) (fun c_1 => ?_) (fun c_1 => ?_)
  · refine lv_iconst (v := 0) hx hb dX4_runsBeside_28 (by decide) ?_
    exact z_zretR hx hb hr hlocks rfl rfl (by simp [c_1]) dX4_runsBeside_29
  · refine lv_iload_n hx hb dX4_runsBeside_9 rfl (lv_at hl 1 rfl) ?_
    refine lv_aload_n hx hb dX4_runsBeside_10 rfl (lv_at hl 0 rfl) ?_
    refine va_get (D := g) (ci := 3) (v := .ref p1) (C := RX4) (T := TX4) (N := 7) hx hb hts hi_wsX40 hown hK hP 0 rfl rfl 3 (by decide) (hts (.fieldLink RX4 13 "FloodBarrier$Pumps" "power" "[I") (List.mem_of_getElem? (i := 2) rfl)) (fun _ h9 => h9) rfl dX4_runsBeside_11 ?_
    refine lv_iload_n hx hb dX4_runsBeside_14 rfl (lv_at hl 2 rfl) ?_
    refine z_iald (ct := ct) (f := po) (k := k) hx hb hK hP 1 rfl (by omega) (by decide) dX4_runsBeside_15 ?_
    refine lv_iadd hx hb dX4_runsBeside_16 ?_
    refine lv_aload_n hx hb dX4_runsBeside_17 rfl (lv_at hl 0 rfl) ?_
    refine va_get (D := g) (ci := 3) (v := .int lim) (C := RX4) (T := TX4) (N := 7) hx hb hts hi_wsX40 hown hK hP 0 rfl rfl 1 (by decide) (hts (.fieldLink RX4 7 "FloodBarrier$Pumps" "limit" "I") (List.mem_of_getElem? (i := 3) rfl)) (fun _ h9 => h9) rfl dX4_runsBeside_18 ?_
    refine lv_icmp_gt (tgt := 28) hx hb dX4_runsBeside_21 (by decide) (fun c_2 => ?_) (fun c_2 => ?_)
    · refine lv_iconst (v := 0) hx hb dX4_runsBeside_28 (by decide) ?_
      exact z_zretR hx hb hr hlocks rfl rfl (by simp [c_1, c_2]) dX4_runsBeside_29
    · refine lv_iconst (v := 1) hx hb dX4_runsBeside_24 (by decide) ?_
      refine lv_goto (tgt := 29) hx hb dX4_runsBeside_25 (by decide) ?_
      exact z_zretR hx hb hr hlocks rfl rfl (by simp [c_1, c_2]) dX4_runsBeside_29

set_option maxHeartbeats 4000000 in
set_option maxRecDepth 100000 in
theorem c_X4_wouldRun (l : Launch) (g : va_G) (ct : Nat → ClassId) (p0 p1 p2 p3 p4 : Nat) (n : Nat) (lim idl : Int32) (po wa on ra : Nat → Int32) (k : Nat) (hk : k < n) (hn : n ≤ 6) : Met l yX4_wouldRun wsX4_wouldRun (zRm 1 22) (va_Pc [.ref p0, .int (nI k)] (zR g ct [zO p0 3 [.int (nI n), .int lim, .int idl, .ref p1, .ref p2, .ref p3, .ref p4], zI ct p1 6 po, zI ct p2 6 wa, zZ ct p3 6 on, zI ct p4 6 ra])) (vp_Si (fun r => r = if rbP on po lim (drN on po lim k) k then 1 else 0)) 0 0 (fun _ => False) := by
  refine z_read (cc := cX4_wouldRun) (maxL := 4) (ret := some .boolean) (by decide) rfl (Nat.le_of_ble_eq_true rfl) ?_
  intro p e s m below meth c ls hx hb hr hml hts hown hlocks hP hK hl
  have hown : s.vm.findClass RX4 = some m.cls := hown
  have hl : lv_has ls 4 [(0, .ref p0), (1, .int (nI k))] := hl
  have hi_wsX40 : ∀ w ∈ wsX40, w ∈ wsX4_wouldRun := fun w h => List.mem_cons_of_mem _ (List.mem_append_right _ h)
  refine lv_iconst (v := 0) hx hb dX4_wouldRun_0 (by decide) ?_
  refine lv_istore_n (lv' := [(2, .int 0), (0, .ref p0), (1, .int (nI k))]) hx hb dX4_wouldRun_1 rfl hl (by decide) rfl (fun ls hl => ?_)
  refine lv_iconst (v := 0) hx hb dX4_wouldRun_2 (by decide) ?_
  refine lv_istore_n (lv' := [(3, .int 0), (2, .int 0), (0, .ref p0), (1, .int (nI k))]) hx hb dX4_wouldRun_3 rfl hl (by decide) rfl (fun ls hl => ?_)
  refine z_loop k (fun k1 H2 locs2 ls => H2 = s.heap ∧ locs2 = [] ∧ lv_has ls 4 [(0, .ref p0), (1, .int (nI k)), (2, .int (drN on po lim k1)), (3, .int (nI k1))]) ⟨rfl, rfl, lv_sub hl [2, 3, 1, 0] rfl⟩ ?_
  intro k1 H2 locs2 ls hkk1 hI ihk1
  obtain ⟨rfl, rfl, hl⟩ := hI
  refine lv_iload_n hx hb dX4_wouldRun_4 rfl (lv_at hl 3 rfl) ?_
  refine lv_iload_n hx hb dX4_wouldRun_5 rfl (lv_at hl 1 rfl) ?_
  refine z_icN_ge (x := k1) (y := k) (tgt := 41) hx hb (by omega) (by omega) dX4_wouldRun_6 (by decide) (fun c_1 => ?_) (fun c_1 => ?_)
  · have hkn : k = k1 := by omega
    subst hkn
    refine lv_aload_n hx hb dX4_wouldRun_41 rfl (lv_at hl 0 rfl) ?_
    refine lv_iload_n hx hb dX4_wouldRun_42 rfl (lv_at hl 2 rfl) ?_
    refine lv_iload_n hx hb dX4_wouldRun_43 rfl (lv_at hl 1 rfl) ?_
    refine z_cVi (wc := [zO p0 3 [.int (nI n), .int lim, .int idl, .ref p1, .ref p2, .ref p3, .ref p4], zI ct p1 6 po, zI ct p2 6 wa, zZ ct p3 6 on, zI ct p4 6 ra]) (As := [.int (drN on po lim k), .int (nI k)]) (rest := []) ⟨hx, hb, hml, hown, hts⟩ hK hP [0, 1, 2, 3, 4] rfl (c_X4_runsBeside l g ct p0 p1 p2 p3 p4 n lim idl po wa on ra (drN on po lim k) k (by omega)) (cwV 2 hts gX4_wouldRun_X4_runsBeside rfl rfl rfl (by decide +kernel) ⟨Nat.le_of_ble_eq_true rfl, Nat.le_of_ble_eq_true rfl⟩) 0 rfl rfl rfl hl.1 rfl (Nat.le_of_ble_eq_true rfl) dX4_wouldRun_44 ⟨Nat.zero_le _, Nat.zero_le _⟩ ?_
    exact z_zretR hx hb hr hlocks z_narB rfl rfl dX4_wouldRun_47
  · refine lv_iload_n hx hb dX4_wouldRun_9 rfl (lv_at hl 3 rfl) ?_
    refine lv_aload_n hx hb dX4_wouldRun_10 rfl (lv_at hl 0 rfl) ?_
    refine va_get (D := g) (ci := 3) (v := .int (nI n)) (C := RX4) (T := TX4) (N := 7) hx hb hts hi_wsX40 hown hK hP 0 rfl rfl 0 (by decide) (hts (.fieldLink RX4 27 "FloodBarrier$Pumps" "many" "I") (List.mem_of_getElem? (i := 1) rfl)) (fun _ h9 => h9) rfl dX4_wouldRun_11 ?_
    refine z_icN_ge (x := k1) (y := n) (tgt := 41) hx hb (by omega) (by omega) dX4_wouldRun_14 (by decide) (fun c_2 => ?_) (fun c_2 => ?_)
    · exact absurd (show k1 < n by omega) c_2
    · refine lv_aload_n hx hb dX4_wouldRun_17 rfl (lv_at hl 0 rfl) ?_
      refine lv_iload_n hx hb dX4_wouldRun_18 rfl (lv_at hl 2 rfl) ?_
      refine lv_iload_n hx hb dX4_wouldRun_19 rfl (lv_at hl 3 rfl) ?_
      refine z_cVi (wc := [zO p0 3 [.int (nI n), .int lim, .int idl, .ref p1, .ref p2, .ref p3, .ref p4], zI ct p1 6 po, zI ct p2 6 wa, zZ ct p3 6 on, zI ct p4 6 ra]) (As := [.int (drN on po lim k1), .int (nI k1)]) (rest := []) ⟨hx, hb, hml, hown, hts⟩ hK hP [0, 1, 2, 3, 4] rfl (c_X4_runsBeside l g ct p0 p1 p2 p3 p4 n lim idl po wa on ra (drN on po lim k1) k1 (by omega)) (cwV 2 hts gX4_wouldRun_X4_runsBeside rfl rfl rfl (by decide +kernel) ⟨Nat.le_of_ble_eq_true rfl, Nat.le_of_ble_eq_true rfl⟩) 0 rfl rfl rfl hl.1 rfl (Nat.le_of_ble_eq_true rfl) dX4_wouldRun_20 ⟨Nat.zero_le _, Nat.zero_le _⟩ ?_
      refine z_bif_eq (P := (rbP on po lim (drN on po lim k1) k1)) (tgt := 35) hx hb dX4_wouldRun_23 (by decide) (fun c_3 => ?_) (fun c_3 => ?_)
      · refine lv_iinc (v := nI (k1 + 1)) (lv' := [(3, .int (nI (k1 + 1))), (0, .ref p0), (1, .int (nI k)), (2, .int (drN on po lim k1))]) hx hb dX4_wouldRun_35 hl (k := 3) rfl (nI_add k1 1) (by decide) rfl (fun ls hl => ?_)
        refine lv_goto (tgt := 4) hx hb dX4_wouldRun_38 (by decide) ?_
        exact ihk1 _ _ _ (by omega) ⟨rfl, rfl, (by first | exact lv_sub hl [1, 2, 3, 0] rfl | (simp only [lp_s, drN_s, if_pos c_1, if_pos c_2, if_neg c_3]; exact lv_sub hl [1, 2, 3, 0] rfl))⟩
      · refine lv_iload_n hx hb dX4_wouldRun_26 rfl (lv_at hl 2 rfl) ?_
        refine lv_aload_n hx hb dX4_wouldRun_27 rfl (lv_at hl 0 rfl) ?_
        refine va_get (D := g) (ci := 3) (v := .ref p1) (C := RX4) (T := TX4) (N := 7) hx hb hts hi_wsX40 hown hK hP 0 rfl rfl 3 (by decide) (hts (.fieldLink RX4 13 "FloodBarrier$Pumps" "power" "[I") (List.mem_of_getElem? (i := 2) rfl)) (fun _ h9 => h9) rfl dX4_wouldRun_28 ?_
        refine lv_iload_n hx hb dX4_wouldRun_31 rfl (lv_at hl 3 rfl) ?_
        refine z_iald (ct := ct) (f := po) (k := k1) hx hb hK hP 1 rfl (by omega) (by decide) dX4_wouldRun_32 ?_
        refine lv_iadd hx hb dX4_wouldRun_33 ?_
        refine lv_istore_n (lv' := [(2, .int ((drN on po lim k1) + (po k1))), (0, .ref p0), (1, .int (nI k)), (3, .int (nI k1))]) hx hb dX4_wouldRun_34 rfl hl (by decide) rfl (fun ls hl => ?_)
        refine lv_iinc (v := nI (k1 + 1)) (lv' := [(3, .int (nI (k1 + 1))), (2, .int ((drN on po lim k1) + (po k1))), (0, .ref p0), (1, .int (nI k))]) hx hb dX4_wouldRun_35 hl (k := 3) rfl (nI_add k1 1) (by decide) rfl (fun ls hl => ?_)
        refine lv_goto (tgt := 4) hx hb dX4_wouldRun_38 (by decide) ?_
        exact ihk1 _ _ _ (by omega) ⟨rfl, rfl, (by first | exact lv_sub hl [2, 3, 1, 0] rfl | (simp only [lp_s, drN_s, if_pos c_1, if_pos c_2, if_pos c_3]; exact lv_sub hl [2, 3, 1, 0] rfl))⟩

set_option maxHeartbeats 4000000 in
set_option maxRecDepth 100000 in
theorem c_X4_run (l : Launch) (g : va_G) (ct : Nat → ClassId) (sz : Nat) (p0 p1 p2 p3 p4 : Nat) (n : Nat) (lim idl : Int32) (po wa on ra : Nat → Int32) (hn : n ≤ 6) (b0 : Nat) (ar : Int32) (vo fi fo fv br pu : Int64) : Met l yX4_run wsX4_run (zRm 3 73) (va_Pc [.ref p0, .ref b0] (zW g ct [zO p0 3 [.int (nI n), .int lim, .int idl, .ref p1, .ref p2, .ref p3, .ref p4], zI ct p1 6 po, zI ct p2 6 wa, zZ ct p3 6 on, zI ct p4 6 ra, zO b0 0 [.int ar, .long vo, .long fi, .long fo, .long fv, .long br, .long pu]] sz)) (zQv g [zO p0 3 [.int (nI n), .int lim, .int ((lp (ruS on po wa lim) n (0, 0, ra, vo, pu)).2.1), .ref p1, .ref p2, .ref p3, .ref p4], zI ct p1 6 po, zI ct p2 6 wa, zZ ct p3 6 on, zI ct p4 6 ((lp (ruS on po wa lim) n (0, 0, ra, vo, pu)).2.2.1), zO b0 0 [.int ar, .long ((lp (ruS on po wa lim) n (0, 0, ra, vo, pu)).2.2.2.1), .long fi, .long fo, .long fv, .long br, .long ((lp (ruS on po wa lim) n (0, 0, ra, vo, pu)).2.2.2.2)]] (va_A [zO p0 3 [.int (nI n), .int lim, .int idl, .ref p1, .ref p2, .ref p3, .ref p4], zI ct p1 6 po, zI ct p2 6 wa, zZ ct p3 6 on, zI ct p4 6 ra, zO b0 0 [.int ar, .long vo, .long fi, .long fo, .long fv, .long br, .long pu]] sz)) 0 0 (va_A [zO p0 3 [.int (nI n), .int lim, .int idl, .ref p1, .ref p2, .ref p3, .ref p4], zI ct p1 6 po, zI ct p2 6 wa, zZ ct p3 6 on, zI ct p4 6 ra, zO b0 0 [.int ar, .long vo, .long fi, .long fo, .long fv, .long br, .long pu]] sz) := by
  refine z_write (QA := zQv g [zO p0 3 [.int (nI n), .int lim, .int ((lp (ruS on po wa lim) n (0, 0, ra, vo, pu)).2.1), .ref p1, .ref p2, .ref p3, .ref p4], zI ct p1 6 po, zI ct p2 6 wa, zZ ct p3 6 on, zI ct p4 6 ((lp (ruS on po wa lim) n (0, 0, ra, vo, pu)).2.2.1), zO b0 0 [.int ar, .long ((lp (ruS on po wa lim) n (0, 0, ra, vo, pu)).2.2.2.1), .long fi, .long fo, .long fv, .long br, .long ((lp (ruS on po wa lim) n (0, 0, ra, vo, pu)).2.2.2.2)]]) (cc := cX4_run) (maxL := 4) (ret := none) (by decide) rfl (Nat.le_of_ble_eq_true rfl) ?_
  intro p e s m below meth c ls A hx hb hr hml hts hown hlocks hin hP hK hD hNW hA hS hl
  have hown : s.vm.findClass RX4 = some m.cls := hown
  have hl : lv_has ls 4 [(0, .ref p0), (1, .ref b0)] := hl
  have hi_wsX40 : ∀ w ∈ wsX40, w ∈ wsX4_run := fun w h => List.mem_cons_of_mem _ (List.mem_append_left _ (List.mem_append_right _ h))
  refine lv_iconst (v := 0) hx hb dX4_run_0 (by decide) ?_
  refine lv_istore_n (lv' := [(2, .int 0), (0, .ref p0), (1, .ref b0)]) hx hb dX4_run_1 rfl hl (by decide) rfl (fun ls hl => ?_)
  refine lv_aload_n hx hb dX4_run_2 rfl (lv_at hl 1 rfl) ?_
  refine lv_iconst (v := 0) hx hb dX4_run_3 (by decide) ?_
  refine va_put (D := g) (ci := 3) (v := .int 0) (C := RX4) (T := TX4) (N := 7) hx hb hts hi_wsX40 tyX4 tyX4_ok nmX4 hown hK hP hD hS 0 rfl rfl 2 (by decide) (hts (.fieldLink RX4 30 "FloodBarrier$Pumps" "idle" "I") (List.mem_of_getElem? (i := 1) rfl)) (fun _ h9 => h9) rfl (tyX4_ok 2 (by decide)) rfl rfl (Nat.le_of_ble_eq_true rfl) dX4_run_4 (fun H locs hP hD hS => ?_)
  have hP : va_P g vwCl [zO p0 3 [.int (nI n), .int lim, .int 0, .ref p1, .ref p2, .ref p3, .ref p4], zI ct p1 6 po, zI ct p2 6 wa, zZ ct p3 6 on, zI ct p4 6 ra, zO b0 0 [.int ar, .long vo, .long fi, .long fo, .long fv, .long br, .long pu]] H := hP
  have hD : va_D A [zO p0 3 [.int (nI n), .int lim, .int 0, .ref p1, .ref p2, .ref p3, .ref p4], zI ct p1 6 po, zI ct p2 6 wa, zZ ct p3 6 on, zI ct p4 6 ra, zO b0 0 [.int ar, .long vo, .long fi, .long fo, .long fv, .long br, .long pu]] := hD
  refine lv_iconst (v := 0) hx hb dX4_run_7 (by decide) ?_
  refine lv_istore_n (lv' := [(3, .int 0), (2, .int 0), (0, .ref p0), (1, .ref b0)]) hx hb dX4_run_8 rfl hl (by decide) rfl (fun ls hl => ?_)
  refine z_loop n (fun k1 H locs ls => va_P g vwCl [zO p0 3 [.int (nI n), .int lim, .int ((lp (ruS on po wa lim) k1 (0, 0, ra, vo, pu)).2.1), .ref p1, .ref p2, .ref p3, .ref p4], zI ct p1 6 po, zI ct p2 6 wa, zZ ct p3 6 on, zI ct p4 6 ((lp (ruS on po wa lim) k1 (0, 0, ra, vo, pu)).2.2.1), zO b0 0 [.int ar, .long ((lp (ruS on po wa lim) k1 (0, 0, ra, vo, pu)).2.2.2.1), .long fi, .long fo, .long fv, .long br, .long ((lp (ruS on po wa lim) k1 (0, 0, ra, vo, pu)).2.2.2.2)]] H ∧ va_D A [zO p0 3 [.int (nI n), .int lim, .int ((lp (ruS on po wa lim) k1 (0, 0, ra, vo, pu)).2.1), .ref p1, .ref p2, .ref p3, .ref p4], zI ct p1 6 po, zI ct p2 6 wa, zZ ct p3 6 on, zI ct p4 6 ((lp (ruS on po wa lim) k1 (0, 0, ra, vo, pu)).2.2.1), zO b0 0 [.int ar, .long ((lp (ruS on po wa lim) k1 (0, 0, ra, vo, pu)).2.2.2.1), .long fi, .long fo, .long fv, .long br, .long ((lp (ruS on po wa lim) k1 (0, 0, ra, vo, pu)).2.2.2.2)]] ∧ va_S A s.heap H locs ∧ lv_has ls 4 [(0, .ref p0), (1, .ref b0), (2, .int ((lp (ruS on po wa lim) k1 (0, 0, ra, vo, pu)).1)), (3, .int (nI k1))]) ⟨hP, hD, hS, lv_sub hl [2, 3, 1, 0] rfl⟩ ?_
  intro k1 H locs ls hkk1 hI ihk1
  obtain ⟨hP, hD, hS, hl⟩ := hI
  refine lv_iload_n hx hb dX4_run_9 rfl (lv_at hl 3 rfl) ?_
  refine lv_aload_n hx hb dX4_run_10 rfl (lv_at hl 0 rfl) ?_
  refine va_get (D := g) (ci := 3) (v := .int (nI n)) (C := RX4) (T := TX4) (N := 7) hx hb hts hi_wsX40 hown hK hP 0 rfl rfl 0 (by decide) (hts (.fieldLink RX4 27 "FloodBarrier$Pumps" "many" "I") (List.mem_of_getElem? (i := 2) rfl)) (fun _ h9 => h9) rfl dX4_run_11 ?_
  refine z_icN_ge (x := k1) (y := n) (tgt := 75) hx hb (by omega) (by omega) dX4_run_14 (by decide) (fun c_1 => ?_) (fun c_1 => ?_)
  · have hkn : n = k1 := by omega
    subst hkn
    exact z_vretW hx hb hr hlocks hS hP hD rfl (Nat.le_refl _) (Nat.le_refl _) dX4_run_75
  · refine lv_aload_n hx hb dX4_run_17 rfl (lv_at hl 0 rfl) ?_
    refine lv_iload_n hx hb dX4_run_18 rfl (lv_at hl 2 rfl) ?_
    refine lv_iload_n hx hb dX4_run_19 rfl (lv_at hl 3 rfl) ?_
    refine z_cVi (wc := [zO p0 3 [.int (nI n), .int lim, .int ((lp (ruS on po wa lim) k1 (0, 0, ra, vo, pu)).2.1), .ref p1, .ref p2, .ref p3, .ref p4], zI ct p1 6 po, zI ct p2 6 wa, zZ ct p3 6 on, zI ct p4 6 ((lp (ruS on po wa lim) k1 (0, 0, ra, vo, pu)).2.2.1)]) (As := [.int ((lp (ruS on po wa lim) k1 (0, 0, ra, vo, pu)).1), .int (nI k1)]) (rest := []) ⟨hx, hb, hml, hown, hts⟩ hK hP [0, 1, 2, 3, 4] rfl (c_X4_runsBeside l g ct p0 p1 p2 p3 p4 n lim ((lp (ruS on po wa lim) k1 (0, 0, ra, vo, pu)).2.1) po wa on ((lp (ruS on po wa lim) k1 (0, 0, ra, vo, pu)).2.2.1) ((lp (ruS on po wa lim) k1 (0, 0, ra, vo, pu)).1) k1 (by omega)) (cwV 2 hts gX4_run_X4_runsBeside rfl rfl rfl (by decide +kernel) ⟨Nat.le_of_ble_eq_true rfl, Nat.le_of_ble_eq_true rfl⟩) 0 rfl rfl rfl hl.1 rfl (Nat.le_of_ble_eq_true rfl) dX4_run_20 ⟨Nat.zero_le _, Nat.zero_le _⟩ ?_
    refine z_bif_eq (P := (rbP on po lim ((lp (ruS on po wa lim) k1 (0, 0, ra, vo, pu)).1) k1)) (tgt := 59) hx hb dX4_run_23 (by decide) (fun c_2 => ?_) (fun c_2 => ?_)
    · refine lv_aload_n hx hb dX4_run_59 rfl (lv_at hl 0 rfl) ?_
      refine lv_dup hx hb dX4_run_60 rfl ?_
      refine va_get (D := g) (ci := 3) (v := .int ((lp (ruS on po wa lim) k1 (0, 0, ra, vo, pu)).2.1)) (C := RX4) (T := TX4) (N := 7) hx hb hts hi_wsX40 hown hK hP 0 rfl rfl 2 (by decide) (hts (.fieldLink RX4 30 "FloodBarrier$Pumps" "idle" "I") (List.mem_of_getElem? (i := 1) rfl)) (fun _ h9 => h9) rfl dX4_run_61 ?_
      refine lv_iconst (v := 1) hx hb dX4_run_64 (by decide) ?_
      refine lv_iadd hx hb dX4_run_65 ?_
      refine va_put (D := g) (ci := 3) (v := .int (((lp (ruS on po wa lim) k1 (0, 0, ra, vo, pu)).2.1) + 1)) (C := RX4) (T := TX4) (N := 7) hx hb hts hi_wsX40 tyX4 tyX4_ok nmX4 hown hK hP hD hS 0 rfl rfl 2 (by decide) (hts (.fieldLink RX4 30 "FloodBarrier$Pumps" "idle" "I") (List.mem_of_getElem? (i := 1) rfl)) (fun _ h9 => h9) rfl (tyX4_ok 2 (by decide)) rfl rfl (Nat.le_of_ble_eq_true rfl) dX4_run_66 (fun H locs hP hD hS => ?_)
      have hP : va_P g vwCl [zO p0 3 [.int (nI n), .int lim, .int (((lp (ruS on po wa lim) k1 (0, 0, ra, vo, pu)).2.1) + 1), .ref p1, .ref p2, .ref p3, .ref p4], zI ct p1 6 po, zI ct p2 6 wa, zZ ct p3 6 on, zI ct p4 6 ((lp (ruS on po wa lim) k1 (0, 0, ra, vo, pu)).2.2.1), zO b0 0 [.int ar, .long ((lp (ruS on po wa lim) k1 (0, 0, ra, vo, pu)).2.2.2.1), .long fi, .long fo, .long fv, .long br, .long ((lp (ruS on po wa lim) k1 (0, 0, ra, vo, pu)).2.2.2.2)]] H := hP
      have hD : va_D A [zO p0 3 [.int (nI n), .int lim, .int (((lp (ruS on po wa lim) k1 (0, 0, ra, vo, pu)).2.1) + 1), .ref p1, .ref p2, .ref p3, .ref p4], zI ct p1 6 po, zI ct p2 6 wa, zZ ct p3 6 on, zI ct p4 6 ((lp (ruS on po wa lim) k1 (0, 0, ra, vo, pu)).2.2.1), zO b0 0 [.int ar, .long ((lp (ruS on po wa lim) k1 (0, 0, ra, vo, pu)).2.2.2.1), .long fi, .long fo, .long fv, .long br, .long ((lp (ruS on po wa lim) k1 (0, 0, ra, vo, pu)).2.2.2.2)]] := hD
      refine lv_iinc (v := nI (k1 + 1)) (lv' := [(3, .int (nI (k1 + 1))), (0, .ref p0), (1, .ref b0), (2, .int ((lp (ruS on po wa lim) k1 (0, 0, ra, vo, pu)).1))]) hx hb dX4_run_69 hl (k := 3) rfl (nI_add k1 1) (by decide) rfl (fun ls hl => ?_)
      refine lv_goto (tgt := 9) hx hb dX4_run_72 (by decide) ?_
      exact ihk1 _ _ _ (by omega) ⟨(by first | exact hP | (simp only [lp_s, ruS, if_pos c_1, if_neg c_2]; exact hP)), (by first | exact hD | (simp only [lp_s, ruS, if_pos c_1, if_neg c_2]; exact hD)), hS, (by first | exact lv_sub hl [1, 2, 3, 0] rfl | (simp only [lp_s, ruS, if_pos c_1, if_neg c_2]; exact lv_sub hl [1, 2, 3, 0] rfl))⟩
    · refine lv_iload_n hx hb dX4_run_26 rfl (lv_at hl 2 rfl) ?_
      refine lv_aload_n hx hb dX4_run_27 rfl (lv_at hl 0 rfl) ?_
      refine va_get (D := g) (ci := 3) (v := .ref p1) (C := RX4) (T := TX4) (N := 7) hx hb hts hi_wsX40 hown hK hP 0 rfl rfl 3 (by decide) (hts (.fieldLink RX4 13 "FloodBarrier$Pumps" "power" "[I") (List.mem_of_getElem? (i := 3) rfl)) (fun _ h9 => h9) rfl dX4_run_28 ?_
      refine lv_iload_n hx hb dX4_run_31 rfl (lv_at hl 3 rfl) ?_
      refine z_iald (ct := ct) (f := po) (k := k1) hx hb hK hP 1 rfl (by omega) (by decide) dX4_run_32 ?_
      refine lv_iadd hx hb dX4_run_33 ?_
      refine lv_istore_n (lv' := [(2, .int (((lp (ruS on po wa lim) k1 (0, 0, ra, vo, pu)).1) + (po k1))), (0, .ref p0), (1, .ref b0), (3, .int (nI k1))]) hx hb dX4_run_34 rfl hl (by decide) rfl (fun ls hl => ?_)
      refine lv_aload_n hx hb dX4_run_35 rfl (lv_at hl 1 rfl) ?_
      refine va_get (D := g) (ci := 3) (v := .ref p4) (C := RX4) (T := TX4) (N := 7) hx hb hts hi_wsX40 hown hK hP 0 rfl rfl 6 (by decide) (hts (.fieldLink RX4 24 "FloodBarrier$Pumps" "ran" "[I") (List.mem_of_getElem? (i := 4) rfl)) (fun _ h9 => h9) rfl dX4_run_36 ?_
      refine lv_iload_n hx hb dX4_run_39 rfl (lv_at hl 3 rfl) ?_
      refine lv_dup2_11 hx hb dX4_run_40 rfl rfl ?_
      refine z_iald (ct := ct) (f := ((lp (ruS on po wa lim) k1 (0, 0, ra, vo, pu)).2.2.1)) (k := k1) hx hb hK hP 4 rfl (by omega) (by decide) dX4_run_41 ?_
      refine lv_iconst (v := 1) hx hb dX4_run_42 (by decide) ?_
      refine lv_iadd hx hb dX4_run_43 ?_
      refine z_iast (ct := ct) (f := ((lp (ruS on po wa lim) k1 (0, 0, ra, vo, pu)).2.2.1)) (k := k1) (x := ((((lp (ruS on po wa lim) k1 (0, 0, ra, vo, pu)).2.2.1) k1) + 1)) hx hb hK hP hD hS 4 rfl (by omega) (by decide) dX4_run_44 (fun H locs hP hD hS => ?_)
      have hP : va_P g vwCl [zO p0 3 [.int (nI n), .int lim, .int ((lp (ruS on po wa lim) k1 (0, 0, ra, vo, pu)).2.1), .ref p1, .ref p2, .ref p3, .ref p4], zI ct p1 6 po, zI ct p2 6 wa, zZ ct p3 6 on, zI ct p4 6 (upd ((lp (ruS on po wa lim) k1 (0, 0, ra, vo, pu)).2.2.1) k1 ((((lp (ruS on po wa lim) k1 (0, 0, ra, vo, pu)).2.2.1) k1) + 1)), zO b0 0 [.int ar, .long ((lp (ruS on po wa lim) k1 (0, 0, ra, vo, pu)).2.2.2.1), .long fi, .long fo, .long fv, .long br, .long ((lp (ruS on po wa lim) k1 (0, 0, ra, vo, pu)).2.2.2.2)]] H := hP
      have hD : va_D A [zO p0 3 [.int (nI n), .int lim, .int ((lp (ruS on po wa lim) k1 (0, 0, ra, vo, pu)).2.1), .ref p1, .ref p2, .ref p3, .ref p4], zI ct p1 6 po, zI ct p2 6 wa, zZ ct p3 6 on, zI ct p4 6 (upd ((lp (ruS on po wa lim) k1 (0, 0, ra, vo, pu)).2.2.1) k1 ((((lp (ruS on po wa lim) k1 (0, 0, ra, vo, pu)).2.2.1) k1) + 1)), zO b0 0 [.int ar, .long ((lp (ruS on po wa lim) k1 (0, 0, ra, vo, pu)).2.2.2.1), .long fi, .long fo, .long fv, .long br, .long ((lp (ruS on po wa lim) k1 (0, 0, ra, vo, pu)).2.2.2.2)]] := hD
      refine lv_aload_n hx hb dX4_run_45 rfl (lv_at hl 2 rfl) ?_
      refine lv_aload_n hx hb dX4_run_46 rfl (lv_at hl 1 rfl) ?_
      refine va_get (D := g) (ci := 3) (v := .ref p2) (C := RX4) (T := TX4) (N := 7) hx hb hts hi_wsX40 hown hK hP 0 rfl rfl 4 (by decide) (hts (.fieldLink RX4 17 "FloodBarrier$Pumps" "water" "[I") (List.mem_of_getElem? (i := 5) rfl)) (fun _ h9 => h9) rfl dX4_run_47 ?_
      refine lv_iload_n hx hb dX4_run_50 rfl (lv_at hl 3 rfl) ?_
      refine z_iald (ct := ct) (f := wa) (k := k1) hx hb hK hP 2 rfl (by omega) (by decide) dX4_run_51 ?_
      refine lv_i2l (v := (wa k1).toInt64) hx hb dX4_run_52 rfl ?_
      refine z_wVv (wc := [zO b0 0 [.int ar, .long ((lp (ruS on po wa lim) k1 (0, 0, ra, vo, pu)).2.2.2.1), .long fi, .long fo, .long fv, .long br, .long ((lp (ruS on po wa lim) k1 (0, 0, ra, vo, pu)).2.2.2.2)]]) (wr := [zO p0 3 [.int (nI n), .int lim, .int ((lp (ruS on po wa lim) k1 (0, 0, ra, vo, pu)).2.1), .ref p1, .ref p2, .ref p3, .ref p4], zI ct p1 6 po, zI ct p2 6 wa, zZ ct p3 6 on, zI ct p4 6 (upd ((lp (ruS on po wa lim) k1 (0, 0, ra, vo, pu)).2.2.1) k1 ((((lp (ruS on po wa lim) k1 (0, 0, ra, vo, pu)).2.2.1) k1) + 1))]) (w2 := [zO p0 3 [.int (nI n), .int lim, .int ((lp (ruS on po wa lim) k1 (0, 0, ra, vo, pu)).2.1), .ref p1, .ref p2, .ref p3, .ref p4], zI ct p1 6 po, zI ct p2 6 wa, zZ ct p3 6 on, zI ct p4 6 (upd ((lp (ruS on po wa lim) k1 (0, 0, ra, vo, pu)).2.2.1) k1 ((((lp (ruS on po wa lim) k1 (0, 0, ra, vo, pu)).2.2.1) k1) + 1)), zO b0 0 [.int ar, .long (((lp (ruS on po wa lim) k1 (0, 0, ra, vo, pu)).2.2.2.1) - tkL ((wa k1).toInt64) ((lp (ruS on po wa lim) k1 (0, 0, ra, vo, pu)).2.2.2.1)), .long fi, .long fo, .long fv, .long br, .long (((lp (ruS on po wa lim) k1 (0, 0, ra, vo, pu)).2.2.2.2) + tkL ((wa k1).toInt64) ((lp (ruS on po wa lim) k1 (0, 0, ra, vo, pu)).2.2.2.1))]]) (As := [.long ((wa k1).toInt64)]) (rest := []) ⟨hx, hb, hml, hown, hts⟩ hK hP hD hS hNW hA [5] [0, 1, 2, 3, 4] [0, 1, 2, 3, 4, 5] rfl rfl rfl rfl rfl rfl (by decide) (c_X0_pumpOut l g ct _ b0 ar ((lp (ruS on po wa lim) k1 (0, 0, ra, vo, pu)).2.2.2.1) fi fo fv br ((lp (ruS on po wa lim) k1 (0, 0, ra, vo, pu)).2.2.2.2) ((wa k1).toInt64)) (cwV 1 hts gX4_run_X0_pumpOut rfl rfl rfl (by decide +kernel) ⟨Nat.le_of_ble_eq_true rfl, Nat.le_of_ble_eq_true rfl⟩) 0 rfl rfl rfl hl.1 rfl (Nat.le_of_ble_eq_true rfl) dX4_run_53 ⟨Nat.zero_le _, Nat.zero_le _⟩ (fun H locs hP hD hS => ?_)
      refine lv_goto (tgt := 69) hx hb dX4_run_56 (by decide) ?_
      refine lv_iinc (v := nI (k1 + 1)) (lv' := [(3, .int (nI (k1 + 1))), (2, .int (((lp (ruS on po wa lim) k1 (0, 0, ra, vo, pu)).1) + (po k1))), (0, .ref p0), (1, .ref b0)]) hx hb dX4_run_69 hl (k := 3) rfl (nI_add k1 1) (by decide) rfl (fun ls hl => ?_)
      refine lv_goto (tgt := 9) hx hb dX4_run_72 (by decide) ?_
      exact ihk1 _ _ _ (by omega) ⟨(by first | exact hP | (simp only [lp_s, ruS, if_pos c_1, if_pos c_2]; exact hP)), (by first | exact hD | (simp only [lp_s, ruS, if_pos c_1, if_pos c_2]; exact hD)), hS, (by first | exact lv_sub hl [2, 3, 1, 0] rfl | (simp only [lp_s, ruS, if_pos c_1, if_pos c_2]; exact lv_sub hl [2, 3, 1, 0] rfl))⟩

set_option maxHeartbeats 4000000 in
set_option maxRecDepth 100000 in
theorem c_X4_copyFrom (l : Launch) (g : va_G) (ct : Nat → ClassId) (sz : Nat) (p0 p1 p2 p3 p4 : Nat) (n : Nat) (lim idl : Int32) (po wa on ra : Nat → Int32) (q0 q1 q2 q3 q4 : Nat) (n2 : Nat) (lim2 idl2 : Int32) (po2 wa2 on2 ra2 : Nat → Int32) (hz : ∀ i, i < 6 → on2 i = 0 ∨ on2 i = 1) : Met l yX4_copyFrom wsX4_copyFrom (zRm 1 30) (va_Pc [.ref p0, .ref q0] (zW g ct [zO p0 3 [.int (nI n), .int lim, .int idl, .ref p1, .ref p2, .ref p3, .ref p4], zI ct p1 6 po, zI ct p2 6 wa, zZ ct p3 6 on, zI ct p4 6 ra, zO q0 3 [.int (nI n2), .int lim2, .int idl2, .ref q1, .ref q2, .ref q3, .ref q4], zI ct q1 6 po2, zI ct q2 6 wa2, zZ ct q3 6 on2, zI ct q4 6 ra2] sz)) (zQv g [zO p0 3 [.int (nI n2), .int lim2, .int idl2, .ref p1, .ref p2, .ref p3, .ref p4], zI ct p1 6 po2, zI ct p2 6 wa2, zZ ct p3 6 on2, zI ct p4 6 ra2, zO q0 3 [.int (nI n2), .int lim2, .int idl2, .ref q1, .ref q2, .ref q3, .ref q4], zI ct q1 6 po2, zI ct q2 6 wa2, zZ ct q3 6 on2, zI ct q4 6 ra2] (va_A [zO p0 3 [.int (nI n), .int lim, .int idl, .ref p1, .ref p2, .ref p3, .ref p4], zI ct p1 6 po, zI ct p2 6 wa, zZ ct p3 6 on, zI ct p4 6 ra, zO q0 3 [.int (nI n2), .int lim2, .int idl2, .ref q1, .ref q2, .ref q3, .ref q4], zI ct q1 6 po2, zI ct q2 6 wa2, zZ ct q3 6 on2, zI ct q4 6 ra2] sz)) 0 0 (va_A [zO p0 3 [.int (nI n), .int lim, .int idl, .ref p1, .ref p2, .ref p3, .ref p4], zI ct p1 6 po, zI ct p2 6 wa, zZ ct p3 6 on, zI ct p4 6 ra, zO q0 3 [.int (nI n2), .int lim2, .int idl2, .ref q1, .ref q2, .ref q3, .ref q4], zI ct q1 6 po2, zI ct q2 6 wa2, zZ ct q3 6 on2, zI ct q4 6 ra2] sz) := by
  refine z_write (QA := zQv g [zO p0 3 [.int (nI n2), .int lim2, .int idl2, .ref p1, .ref p2, .ref p3, .ref p4], zI ct p1 6 po2, zI ct p2 6 wa2, zZ ct p3 6 on2, zI ct p4 6 ra2, zO q0 3 [.int (nI n2), .int lim2, .int idl2, .ref q1, .ref q2, .ref q3, .ref q4], zI ct q1 6 po2, zI ct q2 6 wa2, zZ ct q3 6 on2, zI ct q4 6 ra2]) (cc := cX4_copyFrom) (maxL := 2) (ret := none) (by decide) rfl (Nat.le_of_ble_eq_true rfl) ?_
  intro p e s m below meth c ls A hx hb hr hml hts hown hlocks hin hP hK hD hNW hA hS hl
  have hown : s.vm.findClass RX4 = some m.cls := hown
  have hl : lv_has ls 2 [(0, .ref p0), (1, .ref q0)] := hl
  have hi_wsX40 : ∀ w ∈ wsX40, w ∈ wsX4_copyFrom := fun w h => List.mem_cons_of_mem _ (List.mem_append_right _ h)
  refine lv_aload_n hx hb dX4_copyFrom_0 rfl (lv_at hl 0 rfl) ?_
  refine lv_aload_n hx hb dX4_copyFrom_1 rfl (lv_at hl 1 rfl) ?_
  refine va_get (D := g) (ci := 3) (v := .int (nI n2)) (C := RX4) (T := TX4) (N := 7) hx hb hts hi_wsX40 hown hK hP 5 rfl rfl 0 (by decide) (hts (.fieldLink RX4 27 "FloodBarrier$Pumps" "many" "I") (List.mem_of_getElem? (i := 1) rfl)) (fun _ h9 => h9) rfl dX4_copyFrom_2 ?_
  refine va_put (D := g) (ci := 3) (v := .int (nI n2)) (C := RX4) (T := TX4) (N := 7) hx hb hts hi_wsX40 tyX4 tyX4_ok nmX4 hown hK hP hD hS 0 rfl rfl 0 (by decide) (hts (.fieldLink RX4 27 "FloodBarrier$Pumps" "many" "I") (List.mem_of_getElem? (i := 1) rfl)) (fun _ h9 => h9) rfl (tyX4_ok 0 (by decide)) rfl rfl (Nat.le_of_ble_eq_true rfl) dX4_copyFrom_5 (fun H locs hP hD hS => ?_)
  have hP : va_P g vwCl [zO p0 3 [.int (nI n2), .int lim, .int idl, .ref p1, .ref p2, .ref p3, .ref p4], zI ct p1 6 po, zI ct p2 6 wa, zZ ct p3 6 on, zI ct p4 6 ra, zO q0 3 [.int (nI n2), .int lim2, .int idl2, .ref q1, .ref q2, .ref q3, .ref q4], zI ct q1 6 po2, zI ct q2 6 wa2, zZ ct q3 6 on2, zI ct q4 6 ra2] H := hP
  have hD : va_D A [zO p0 3 [.int (nI n2), .int lim, .int idl, .ref p1, .ref p2, .ref p3, .ref p4], zI ct p1 6 po, zI ct p2 6 wa, zZ ct p3 6 on, zI ct p4 6 ra, zO q0 3 [.int (nI n2), .int lim2, .int idl2, .ref q1, .ref q2, .ref q3, .ref q4], zI ct q1 6 po2, zI ct q2 6 wa2, zZ ct q3 6 on2, zI ct q4 6 ra2] := hD
  refine lv_aload_n hx hb dX4_copyFrom_8 rfl (lv_at hl 0 rfl) ?_
  refine lv_aload_n hx hb dX4_copyFrom_9 rfl (lv_at hl 1 rfl) ?_
  refine va_get (D := g) (ci := 3) (v := .int lim2) (C := RX4) (T := TX4) (N := 7) hx hb hts hi_wsX40 hown hK hP 5 rfl rfl 1 (by decide) (hts (.fieldLink RX4 7 "FloodBarrier$Pumps" "limit" "I") (List.mem_of_getElem? (i := 2) rfl)) (fun _ h9 => h9) rfl dX4_copyFrom_10 ?_
  refine va_put (D := g) (ci := 3) (v := .int lim2) (C := RX4) (T := TX4) (N := 7) hx hb hts hi_wsX40 tyX4 tyX4_ok nmX4 hown hK hP hD hS 0 rfl rfl 1 (by decide) (hts (.fieldLink RX4 7 "FloodBarrier$Pumps" "limit" "I") (List.mem_of_getElem? (i := 2) rfl)) (fun _ h9 => h9) rfl (tyX4_ok 1 (by decide)) rfl rfl (Nat.le_of_ble_eq_true rfl) dX4_copyFrom_13 (fun H locs hP hD hS => ?_)
  have hP : va_P g vwCl [zO p0 3 [.int (nI n2), .int lim2, .int idl, .ref p1, .ref p2, .ref p3, .ref p4], zI ct p1 6 po, zI ct p2 6 wa, zZ ct p3 6 on, zI ct p4 6 ra, zO q0 3 [.int (nI n2), .int lim2, .int idl2, .ref q1, .ref q2, .ref q3, .ref q4], zI ct q1 6 po2, zI ct q2 6 wa2, zZ ct q3 6 on2, zI ct q4 6 ra2] H := hP
  have hD : va_D A [zO p0 3 [.int (nI n2), .int lim2, .int idl, .ref p1, .ref p2, .ref p3, .ref p4], zI ct p1 6 po, zI ct p2 6 wa, zZ ct p3 6 on, zI ct p4 6 ra, zO q0 3 [.int (nI n2), .int lim2, .int idl2, .ref q1, .ref q2, .ref q3, .ref q4], zI ct q1 6 po2, zI ct q2 6 wa2, zZ ct q3 6 on2, zI ct q4 6 ra2] := hD
  refine lv_aload_n hx hb dX4_copyFrom_16 rfl (lv_at hl 0 rfl) ?_
  refine lv_aload_n hx hb dX4_copyFrom_17 rfl (lv_at hl 1 rfl) ?_
  refine va_get (D := g) (ci := 3) (v := .int idl2) (C := RX4) (T := TX4) (N := 7) hx hb hts hi_wsX40 hown hK hP 5 rfl rfl 2 (by decide) (hts (.fieldLink RX4 30 "FloodBarrier$Pumps" "idle" "I") (List.mem_of_getElem? (i := 3) rfl)) (fun _ h9 => h9) rfl dX4_copyFrom_18 ?_
  refine va_put (D := g) (ci := 3) (v := .int idl2) (C := RX4) (T := TX4) (N := 7) hx hb hts hi_wsX40 tyX4 tyX4_ok nmX4 hown hK hP hD hS 0 rfl rfl 2 (by decide) (hts (.fieldLink RX4 30 "FloodBarrier$Pumps" "idle" "I") (List.mem_of_getElem? (i := 3) rfl)) (fun _ h9 => h9) rfl (tyX4_ok 2 (by decide)) rfl rfl (Nat.le_of_ble_eq_true rfl) dX4_copyFrom_21 (fun H locs hP hD hS => ?_)
  have hP : va_P g vwCl [zO p0 3 [.int (nI n2), .int lim2, .int idl2, .ref p1, .ref p2, .ref p3, .ref p4], zI ct p1 6 po, zI ct p2 6 wa, zZ ct p3 6 on, zI ct p4 6 ra, zO q0 3 [.int (nI n2), .int lim2, .int idl2, .ref q1, .ref q2, .ref q3, .ref q4], zI ct q1 6 po2, zI ct q2 6 wa2, zZ ct q3 6 on2, zI ct q4 6 ra2] H := hP
  have hD : va_D A [zO p0 3 [.int (nI n2), .int lim2, .int idl2, .ref p1, .ref p2, .ref p3, .ref p4], zI ct p1 6 po, zI ct p2 6 wa, zZ ct p3 6 on, zI ct p4 6 ra, zO q0 3 [.int (nI n2), .int lim2, .int idl2, .ref q1, .ref q2, .ref q3, .ref q4], zI ct q1 6 po2, zI ct q2 6 wa2, zZ ct q3 6 on2, zI ct q4 6 ra2] := hD
  refine lv_aload_n hx hb dX4_copyFrom_24 rfl (lv_at hl 1 rfl) ?_
  refine va_get (D := g) (ci := 3) (v := .ref q1) (C := RX4) (T := TX4) (N := 7) hx hb hts hi_wsX40 hown hK hP 5 rfl rfl 3 (by decide) (hts (.fieldLink RX4 13 "FloodBarrier$Pumps" "power" "[I") (List.mem_of_getElem? (i := 4) rfl)) (fun _ h9 => h9) rfl dX4_copyFrom_25 ?_
  refine lv_iconst (v := 0) hx hb dX4_copyFrom_28 (by decide) ?_
  refine lv_aload_n hx hb dX4_copyFrom_29 rfl (lv_at hl 0 rfl) ?_
  refine va_get (D := g) (ci := 3) (v := .ref p1) (C := RX4) (T := TX4) (N := 7) hx hb hts hi_wsX40 hown hK hP 0 rfl rfl 3 (by decide) (hts (.fieldLink RX4 13 "FloodBarrier$Pumps" "power" "[I") (List.mem_of_getElem? (i := 4) rfl)) (fun _ h9 => h9) rfl dX4_copyFrom_30 ?_
  refine lv_iconst (v := 0) hx hb dX4_copyFrom_33 (by decide) ?_
  refine lv_bipush (v := 6) hx hb dX4_copyFrom_34 (by decide) ?_
  refine z_copyI (ct := ct) (N := 6) (f := po2) (h := po) hx hb (hml.trans hl.1.symm) hown (hts (.methodLink RX4 33 arraycopyName) (List.mem_of_getElem? (i := 5) rfl)) (hts (.native arraycopyName) (List.mem_of_getElem? (i := 6) rfl)) (hts (.static arraycopyName) (List.mem_of_getElem? (i := 7) rfl)) (hts (.initialized "java/lang/System") (List.mem_of_getElem? (i := 8) rfl)) hK hP hD hS 6 1 rfl rfl (by decide) (by decide) (Nat.le_of_ble_eq_true rfl) (Nat.le_of_ble_eq_true rfl) dX4_copyFrom_36 (fun H locs hP hD hS => ?_)
  have hP : va_P g vwCl [zO p0 3 [.int (nI n2), .int lim2, .int idl2, .ref p1, .ref p2, .ref p3, .ref p4], zI ct p1 6 po2, zI ct p2 6 wa, zZ ct p3 6 on, zI ct p4 6 ra, zO q0 3 [.int (nI n2), .int lim2, .int idl2, .ref q1, .ref q2, .ref q3, .ref q4], zI ct q1 6 po2, zI ct q2 6 wa2, zZ ct q3 6 on2, zI ct q4 6 ra2] H := hP
  have hD : va_D A [zO p0 3 [.int (nI n2), .int lim2, .int idl2, .ref p1, .ref p2, .ref p3, .ref p4], zI ct p1 6 po2, zI ct p2 6 wa, zZ ct p3 6 on, zI ct p4 6 ra, zO q0 3 [.int (nI n2), .int lim2, .int idl2, .ref q1, .ref q2, .ref q3, .ref q4], zI ct q1 6 po2, zI ct q2 6 wa2, zZ ct q3 6 on2, zI ct q4 6 ra2] := hD
  refine lv_aload_n hx hb dX4_copyFrom_39 rfl (lv_at hl 1 rfl) ?_
  refine va_get (D := g) (ci := 3) (v := .ref q2) (C := RX4) (T := TX4) (N := 7) hx hb hts hi_wsX40 hown hK hP 5 rfl rfl 4 (by decide) (hts (.fieldLink RX4 17 "FloodBarrier$Pumps" "water" "[I") (List.mem_of_getElem? (i := 9) rfl)) (fun _ h9 => h9) rfl dX4_copyFrom_40 ?_
  refine lv_iconst (v := 0) hx hb dX4_copyFrom_43 (by decide) ?_
  refine lv_aload_n hx hb dX4_copyFrom_44 rfl (lv_at hl 0 rfl) ?_
  refine va_get (D := g) (ci := 3) (v := .ref p2) (C := RX4) (T := TX4) (N := 7) hx hb hts hi_wsX40 hown hK hP 0 rfl rfl 4 (by decide) (hts (.fieldLink RX4 17 "FloodBarrier$Pumps" "water" "[I") (List.mem_of_getElem? (i := 9) rfl)) (fun _ h9 => h9) rfl dX4_copyFrom_45 ?_
  refine lv_iconst (v := 0) hx hb dX4_copyFrom_48 (by decide) ?_
  refine lv_bipush (v := 6) hx hb dX4_copyFrom_49 (by decide) ?_
  refine z_copyI (ct := ct) (N := 6) (f := wa2) (h := wa) hx hb (hml.trans hl.1.symm) hown (hts (.methodLink RX4 33 arraycopyName) (List.mem_of_getElem? (i := 5) rfl)) (hts (.native arraycopyName) (List.mem_of_getElem? (i := 6) rfl)) (hts (.static arraycopyName) (List.mem_of_getElem? (i := 7) rfl)) (hts (.initialized "java/lang/System") (List.mem_of_getElem? (i := 8) rfl)) hK hP hD hS 7 2 rfl rfl (by decide) (by decide) (Nat.le_of_ble_eq_true rfl) (Nat.le_of_ble_eq_true rfl) dX4_copyFrom_51 (fun H locs hP hD hS => ?_)
  have hP : va_P g vwCl [zO p0 3 [.int (nI n2), .int lim2, .int idl2, .ref p1, .ref p2, .ref p3, .ref p4], zI ct p1 6 po2, zI ct p2 6 wa2, zZ ct p3 6 on, zI ct p4 6 ra, zO q0 3 [.int (nI n2), .int lim2, .int idl2, .ref q1, .ref q2, .ref q3, .ref q4], zI ct q1 6 po2, zI ct q2 6 wa2, zZ ct q3 6 on2, zI ct q4 6 ra2] H := hP
  have hD : va_D A [zO p0 3 [.int (nI n2), .int lim2, .int idl2, .ref p1, .ref p2, .ref p3, .ref p4], zI ct p1 6 po2, zI ct p2 6 wa2, zZ ct p3 6 on, zI ct p4 6 ra, zO q0 3 [.int (nI n2), .int lim2, .int idl2, .ref q1, .ref q2, .ref q3, .ref q4], zI ct q1 6 po2, zI ct q2 6 wa2, zZ ct q3 6 on2, zI ct q4 6 ra2] := hD
  refine lv_aload_n hx hb dX4_copyFrom_54 rfl (lv_at hl 1 rfl) ?_
  refine va_get (D := g) (ci := 3) (v := .ref q3) (C := RX4) (T := TX4) (N := 7) hx hb hts hi_wsX40 hown hK hP 5 rfl rfl 5 (by decide) (hts (.fieldLink RX4 20 "FloodBarrier$Pumps" "on" "[Z") (List.mem_of_getElem? (i := 10) rfl)) (fun _ h9 => h9) rfl dX4_copyFrom_55 ?_
  refine lv_iconst (v := 0) hx hb dX4_copyFrom_58 (by decide) ?_
  refine lv_aload_n hx hb dX4_copyFrom_59 rfl (lv_at hl 0 rfl) ?_
  refine va_get (D := g) (ci := 3) (v := .ref p3) (C := RX4) (T := TX4) (N := 7) hx hb hts hi_wsX40 hown hK hP 0 rfl rfl 5 (by decide) (hts (.fieldLink RX4 20 "FloodBarrier$Pumps" "on" "[Z") (List.mem_of_getElem? (i := 10) rfl)) (fun _ h9 => h9) rfl dX4_copyFrom_60 ?_
  refine lv_iconst (v := 0) hx hb dX4_copyFrom_63 (by decide) ?_
  refine lv_bipush (v := 6) hx hb dX4_copyFrom_64 (by decide) ?_
  refine z_copyZ (ct := ct) (N := 6) (f := on2) (h := on) hx hb (hml.trans hl.1.symm) hown (hts (.methodLink RX4 33 arraycopyName) (List.mem_of_getElem? (i := 5) rfl)) (hts (.native arraycopyName) (List.mem_of_getElem? (i := 6) rfl)) (hts (.static arraycopyName) (List.mem_of_getElem? (i := 7) rfl)) (hts (.initialized "java/lang/System") (List.mem_of_getElem? (i := 8) rfl)) hK hP hD hS 8 3 rfl rfl (by decide) (by decide) hz (Nat.le_of_ble_eq_true rfl) (Nat.le_of_ble_eq_true rfl) dX4_copyFrom_66 (fun H locs hP hD hS => ?_)
  have hP : va_P g vwCl [zO p0 3 [.int (nI n2), .int lim2, .int idl2, .ref p1, .ref p2, .ref p3, .ref p4], zI ct p1 6 po2, zI ct p2 6 wa2, zZ ct p3 6 on2, zI ct p4 6 ra, zO q0 3 [.int (nI n2), .int lim2, .int idl2, .ref q1, .ref q2, .ref q3, .ref q4], zI ct q1 6 po2, zI ct q2 6 wa2, zZ ct q3 6 on2, zI ct q4 6 ra2] H := hP
  have hD : va_D A [zO p0 3 [.int (nI n2), .int lim2, .int idl2, .ref p1, .ref p2, .ref p3, .ref p4], zI ct p1 6 po2, zI ct p2 6 wa2, zZ ct p3 6 on2, zI ct p4 6 ra, zO q0 3 [.int (nI n2), .int lim2, .int idl2, .ref q1, .ref q2, .ref q3, .ref q4], zI ct q1 6 po2, zI ct q2 6 wa2, zZ ct q3 6 on2, zI ct q4 6 ra2] := hD
  refine lv_aload_n hx hb dX4_copyFrom_69 rfl (lv_at hl 1 rfl) ?_
  refine va_get (D := g) (ci := 3) (v := .ref q4) (C := RX4) (T := TX4) (N := 7) hx hb hts hi_wsX40 hown hK hP 5 rfl rfl 6 (by decide) (hts (.fieldLink RX4 24 "FloodBarrier$Pumps" "ran" "[I") (List.mem_of_getElem? (i := 11) rfl)) (fun _ h9 => h9) rfl dX4_copyFrom_70 ?_
  refine lv_iconst (v := 0) hx hb dX4_copyFrom_73 (by decide) ?_
  refine lv_aload_n hx hb dX4_copyFrom_74 rfl (lv_at hl 0 rfl) ?_
  refine va_get (D := g) (ci := 3) (v := .ref p4) (C := RX4) (T := TX4) (N := 7) hx hb hts hi_wsX40 hown hK hP 0 rfl rfl 6 (by decide) (hts (.fieldLink RX4 24 "FloodBarrier$Pumps" "ran" "[I") (List.mem_of_getElem? (i := 11) rfl)) (fun _ h9 => h9) rfl dX4_copyFrom_75 ?_
  refine lv_iconst (v := 0) hx hb dX4_copyFrom_78 (by decide) ?_
  refine lv_bipush (v := 6) hx hb dX4_copyFrom_79 (by decide) ?_
  refine z_copyI (ct := ct) (N := 6) (f := ra2) (h := ra) hx hb (hml.trans hl.1.symm) hown (hts (.methodLink RX4 33 arraycopyName) (List.mem_of_getElem? (i := 5) rfl)) (hts (.native arraycopyName) (List.mem_of_getElem? (i := 6) rfl)) (hts (.static arraycopyName) (List.mem_of_getElem? (i := 7) rfl)) (hts (.initialized "java/lang/System") (List.mem_of_getElem? (i := 8) rfl)) hK hP hD hS 9 4 rfl rfl (by decide) (by decide) (Nat.le_of_ble_eq_true rfl) (Nat.le_of_ble_eq_true rfl) dX4_copyFrom_81 (fun H locs hP hD hS => ?_)
  have hP : va_P g vwCl [zO p0 3 [.int (nI n2), .int lim2, .int idl2, .ref p1, .ref p2, .ref p3, .ref p4], zI ct p1 6 po2, zI ct p2 6 wa2, zZ ct p3 6 on2, zI ct p4 6 ra2, zO q0 3 [.int (nI n2), .int lim2, .int idl2, .ref q1, .ref q2, .ref q3, .ref q4], zI ct q1 6 po2, zI ct q2 6 wa2, zZ ct q3 6 on2, zI ct q4 6 ra2] H := hP
  have hD : va_D A [zO p0 3 [.int (nI n2), .int lim2, .int idl2, .ref p1, .ref p2, .ref p3, .ref p4], zI ct p1 6 po2, zI ct p2 6 wa2, zZ ct p3 6 on2, zI ct p4 6 ra2, zO q0 3 [.int (nI n2), .int lim2, .int idl2, .ref q1, .ref q2, .ref q3, .ref q4], zI ct q1 6 po2, zI ct q2 6 wa2, zZ ct q3 6 on2, zI ct q4 6 ra2] := hD
  exact z_vretW hx hb hr hlocks hS hP hD rfl (Nat.le_refl _) (Nat.le_refl _) dX4_copyFrom_84
