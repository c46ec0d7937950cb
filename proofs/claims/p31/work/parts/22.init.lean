set_option maxHeartbeats 4000000 in
set_option maxRecDepth 100000 in
theorem c_X0_init (l : Launch) (g : va_G) (ct : Nat → ClassId) (sz : Nat) (a0 : Nat) : Met l yX0_init wsX0_init (zRm 1 12) (va_Pc [.ref a0] (zW g ct [zO a0 0 [.int 0, .long 0, .long 0, .long 0, .long 0, .long 0, .long 0]] sz)) (zEv (S := Nat → Nat) g (fun u => [zO a0 0 [.int 100000, .long 0, .long 0, .long 0, .long 0, .long 0, .long 0]]) (va_A [zO a0 0 [.int 0, .long 0, .long 0, .long 0, .long 0, .long 0, .long 0]] sz)) 0 0 (va_A [zO a0 0 [.int 0, .long 0, .long 0, .long 0, .long 0, .long 0, .long 0]] sz) := by
  refine z_write (QA := zEv (S := Nat → Nat) g (fun u => [zO a0 0 [.int 100000, .long 0, .long 0, .long 0, .long 0, .long 0, .long 0]])) (cc := cX0_init) (maxL := 1) (ret := none) (by decide) rfl (Nat.le_of_ble_eq_true rfl) ?_
  intro p e s m below meth c ls A hx hb hr hml hts hown hlocks hin hP hK hD hNW hA hS hl
  have hown : s.vm.findClass RX0 = some m.cls := hown
  have hl : lv_has ls 1 [(0, .ref a0)] := hl
  have hi_wsX00 : ∀ w ∈ wsX00, w ∈ wsX0_init := fun w h => List.mem_cons_of_mem _ (List.mem_append_right _ h)
  refine lv_aload_n hx hb dX0_init_0 rfl (lv_at hl 0 rfl) ?_
  refine W.objInit hx hb hown (hts (.methodLink RX0 1 objectInit) (List.mem_of_getElem? (i := 1) rfl)) (hts (.instanceMethod objectInit) (List.mem_of_getElem? (i := 2) rfl)) (hts (.code objectInit ⟨#[0xb1]⟩ 1 none) (List.mem_of_getElem? (i := 3) rfl)) rfl (by rw [hml]; exact hl.1) rfl dX0_init_1 (Nat.le_of_ble_eq_true rfl) (Nat.le_of_ble_eq_true rfl) ?_
  refine W.eq (g2 := F0 m 4 ls []) rfl ?_
  refine lv_aload_n hx hb dX0_init_4 rfl (lv_at hl 0 rfl) ?_
  refine lv_ldc (v := 100000) hx hb hown (hts (.constant RX0 7 (100000)) (List.mem_of_getElem? (i := 4) rfl)) dX0_init_5 ?_
  refine va_put (D := g) (ci := 0) (v := .int 100000) (C := RX0) (T := TX0) (N := 7) hx hb hts hi_wsX00 tyX0 tyX0_ok nmX0 hown hK hP hD hS 0 rfl rfl 0 (by decide) (hts (.fieldLink RX0 8 "FloodBarrier$Basin" "area" "I") (List.mem_of_getElem? (i := 5) rfl)) (fun _ h9 => h9) rfl (tyX0_ok 0 (by decide)) rfl rfl (Nat.le_of_ble_eq_true rfl) dX0_init_7 (fun H locs hP hD hS => ?_)
  have hP : va_P g vwCl [zO a0 0 [.int 100000, .long 0, .long 0, .long 0, .long 0, .long 0, .long 0]] H := hP
  have hD : va_D A [zO a0 0 [.int 100000, .long 0, .long 0, .long 0, .long 0, .long 0, .long 0]] := hD
  exact z_vretE (fun i => [].getD i 0) hx hb hr hlocks hS (hP.sub [0] rfl) (hD.sub [0] (by decide) rfl) (Nat.le_of_ble_eq_true rfl) (Nat.le_of_ble_eq_true rfl) dX0_init_10

set_option maxHeartbeats 4000000 in
set_option maxRecDepth 100000 in
theorem c_X1_init (l : Launch) (g : va_G) (ct : Nat → ClassId) (sz : Nat) (a0 : Nat) : Met l yX1_init wsX1_init (zRc 1 2 12 12) (va_Pc [.ref a0] (zW g ct [zO a0 1 [.int 0, .null, .null]] sz)) (zEv (S := Nat → Nat) g (fun u => [zO a0 1 [.int 0, .ref (u 0), .ref (u 1)], zI ct (u 0) 6 (fun _ => 0), zZ ct (u 1) 6 (fun _ => 0)]) (va_A [zO a0 1 [.int 0, .null, .null]] sz)) 2 12 (va_A [zO a0 1 [.int 0, .null, .null]] sz) := by
  refine z_write (QA := zEv (S := Nat → Nat) g (fun u => [zO a0 1 [.int 0, .ref (u 0), .ref (u 1)], zI ct (u 0) 6 (fun _ => 0), zZ ct (u 1) 6 (fun _ => 0)])) (cc := cX1_init) (maxL := 1) (ret := none) (by decide) rfl (Nat.le_of_ble_eq_true rfl) ?_
  intro p e s m below meth c ls A hx hb hr hml hts hown hlocks hin hP hK hD hNW hA hS hl
  have hown : s.vm.findClass RX1 = some m.cls := hown
  have hl : lv_has ls 1 [(0, .ref a0)] := hl
  have hi_wsX10 : ∀ w ∈ wsX10, w ∈ wsX1_init := fun w h => List.mem_cons_of_mem _ (List.mem_append_right _ h)
  refine lv_aload_n hx hb dX1_init_0 rfl (lv_at hl 0 rfl) ?_
  refine W.objInit hx hb hown (hts (.methodLink RX1 1 objectInit) (List.mem_of_getElem? (i := 1) rfl)) (hts (.instanceMethod objectInit) (List.mem_of_getElem? (i := 2) rfl)) (hts (.code objectInit ⟨#[0xb1]⟩ 1 none) (List.mem_of_getElem? (i := 3) rfl)) rfl (by rw [hml]; exact hl.1) rfl dX1_init_1 (Nat.le_of_ble_eq_true rfl) (Nat.le_of_ble_eq_true rfl) ?_
  refine W.eq (g2 := F0 m 4 ls []) rfl ?_
  refine lv_aload_n hx hb dX1_init_4 rfl (lv_at hl 0 rfl) ?_
  refine lv_bipush (v := 6) hx hb dX1_init_5 (by decide) ?_
  refine z_newI hx hb (hts (.arrayClass .int) (List.mem_of_getElem? (i := 4) rfl)) hK hP hD hS hA (by decide) rfl (Nat.le_of_ble_eq_true rfl) (Nat.le_of_ble_eq_true rfl) (Nat.le_of_ble_eq_true rfl) dX1_init_7 (fun q_1 H hP hD hS => ?_)
  have hP : va_P g vwCl [zO a0 1 [.int 0, .null, .null], zI ct q_1 6 (fun _ => 0)] H := hP
  have hD : va_D A [zO a0 1 [.int 0, .null, .null], zI ct q_1 6 (fun _ => 0)] := hD
  refine va_putF (D := g) (ci := 1) (v := .ref q_1) (C := RX1) (T := TX1) (N := 3) hx hb hts hi_wsX10 tyX1 tyX1_ok nmX1 hown hK hP hD hS 0 rfl rfl 1 (by decide) (hts (.fieldLink RX1 9 "FloodBarrier$Districts" "weight" "[I") (List.mem_of_getElem? (i := 5) rfl)) (fun _ h9 => h9) rfl hin rfl (tyX1_ok 1 (by decide)) rfl rfl (Nat.le_of_ble_eq_true rfl) dX1_init_9 (fun H locs hP hD hS => ?_)
  have hP : va_P g vwCl [zO a0 1 [.int 0, .ref q_1, .null], zI ct q_1 6 (fun _ => 0)] H := hP
  have hD : va_D A [zO a0 1 [.int 0, .ref q_1, .null], zI ct q_1 6 (fun _ => 0)] := hD
  refine lv_aload_n hx hb dX1_init_12 rfl (lv_at hl 0 rfl) ?_
  refine lv_bipush (v := 6) hx hb dX1_init_13 (by decide) ?_
  refine z_newZ hx hb (hts (.arrayClass .boolean) (List.mem_of_getElem? (i := 6) rfl)) hK hP hD hS hA (by decide) rfl (Nat.le_of_ble_eq_true rfl) (Nat.le_of_ble_eq_true rfl) (Nat.le_of_ble_eq_true rfl) dX1_init_15 (fun q_2 H hP hD hS => ?_)
  have hP : va_P g vwCl [zO a0 1 [.int 0, .ref q_1, .null], zI ct q_1 6 (fun _ => 0), zZ ct q_2 6 (fun _ => 0)] H := hP
  have hD : va_D A [zO a0 1 [.int 0, .ref q_1, .null], zI ct q_1 6 (fun _ => 0), zZ ct q_2 6 (fun _ => 0)] := hD
  refine va_putF (D := g) (ci := 1) (v := .ref q_2) (C := RX1) (T := TX1) (N := 3) hx hb hts hi_wsX10 tyX1 tyX1_ok nmX1 hown hK hP hD hS 0 rfl rfl 2 (by decide) (hts (.fieldLink RX1 13 "FloodBarrier$Districts" "closing" "[Z") (List.mem_of_getElem? (i := 7) rfl)) (fun _ h9 => h9) rfl hin rfl (tyX1_ok 2 (by decide)) rfl rfl (Nat.le_of_ble_eq_true rfl) dX1_init_17 (fun H locs hP hD hS => ?_)
  have hP : va_P g vwCl [zO a0 1 [.int 0, .ref q_1, .ref q_2], zI ct q_1 6 (fun _ => 0), zZ ct q_2 6 (fun _ => 0)] H := hP
  have hD : va_D A [zO a0 1 [.int 0, .ref q_1, .ref q_2], zI ct q_1 6 (fun _ => 0), zZ ct q_2 6 (fun _ => 0)] := hD
  exact z_vretE (fun i => [q_1, q_2].getD i 0) hx hb hr hlocks hS (hP.sub [0, 1, 2] rfl) (hD.sub [0, 1, 2] (by decide) rfl) (Nat.le_of_ble_eq_true rfl) (Nat.le_of_ble_eq_true rfl) dX1_init_20

set_option maxHeartbeats 4000000 in
set_option maxRecDepth 100000 in
theorem c_X7_init (l : Launch) (g : va_G) (ct : Nat → ClassId) (sz : Nat) (a0 : Nat) : Met l yX7_init wsX7_init (zRc 1 1 4 12) (va_Pc [.ref a0] (zW g ct [zO a0 6 [.int 0, .null]] sz)) (zEv (S := Nat → Nat) g (fun u => [zO a0 6 [.int 0, .ref (u 0)], zI ct (u 0) 4 (fun _ => 0)]) (va_A [zO a0 6 [.int 0, .null]] sz)) 1 4 (va_A [zO a0 6 [.int 0, .null]] sz) := by
  refine z_write (QA := zEv (S := Nat → Nat) g (fun u => [zO a0 6 [.int 0, .ref (u 0)], zI ct (u 0) 4 (fun _ => 0)])) (cc := cX7_init) (maxL := 1) (ret := none) (by decide) rfl (Nat.le_of_ble_eq_true rfl) ?_
  intro p e s m below meth c ls A hx hb hr hml hts hown hlocks hin hP hK hD hNW hA hS hl
  have hown : s.vm.findClass RX7 = some m.cls := hown
  have hl : lv_has ls 1 [(0, .ref a0)] := hl
  have hi_wsX70 : ∀ w ∈ wsX70, w ∈ wsX7_init := fun w h => List.mem_cons_of_mem _ (List.mem_append_right _ h)
  refine lv_aload_n hx hb dX7_init_0 rfl (lv_at hl 0 rfl) ?_
  refine W.objInit hx hb hown (hts (.methodLink RX7 1 objectInit) (List.mem_of_getElem? (i := 1) rfl)) (hts (.instanceMethod objectInit) (List.mem_of_getElem? (i := 2) rfl)) (hts (.code objectInit ⟨#[0xb1]⟩ 1 none) (List.mem_of_getElem? (i := 3) rfl)) rfl (by rw [hml]; exact hl.1) rfl dX7_init_1 (Nat.le_of_ble_eq_true rfl) (Nat.le_of_ble_eq_true rfl) ?_
  refine W.eq (g2 := F0 m 4 ls []) rfl ?_
  refine lv_aload_n hx hb dX7_init_4 rfl (lv_at hl 0 rfl) ?_
  refine lv_iconst (v := 4) hx hb dX7_init_5 (by decide) ?_
  refine z_newI hx hb (hts (.arrayClass .int) (List.mem_of_getElem? (i := 4) rfl)) hK hP hD hS hA (by decide) rfl (Nat.le_of_ble_eq_true rfl) (Nat.le_of_ble_eq_true rfl) (Nat.le_of_ble_eq_true rfl) dX7_init_6 (fun q_1 H hP hD hS => ?_)
  have hP : va_P g vwCl [zO a0 6 [.int 0, .null], zI ct q_1 4 (fun _ => 0)] H := hP
  have hD : va_D A [zO a0 6 [.int 0, .null], zI ct q_1 4 (fun _ => 0)] := hD
  refine va_putF (D := g) (ci := 6) (v := .ref q_1) (C := RX7) (T := TX7) (N := 2) hx hb hts hi_wsX70 tyX7 tyX7_ok nmX7 hown hK hP hD hS 0 rfl rfl 1 (by decide) (hts (.fieldLink RX7 9 "FloodBarrier$Streams" "water" "[I") (List.mem_of_getElem? (i := 5) rfl)) (fun _ h9 => h9) rfl hin rfl (tyX7_ok 1 (by decide)) rfl rfl (Nat.le_of_ble_eq_true rfl) dX7_init_8 (fun H locs hP hD hS => ?_)
  have hP : va_P g vwCl [zO a0 6 [.int 0, .ref q_1], zI ct q_1 4 (fun _ => 0)] H := hP
  have hD : va_D A [zO a0 6 [.int 0, .ref q_1], zI ct q_1 4 (fun _ => 0)] := hD
  exact z_vretE (fun i => [q_1].getD i 0) hx hb hr hlocks hS (hP.sub [0, 1] rfl) (hD.sub [0, 1] (by decide) rfl) (Nat.le_of_ble_eq_true rfl) (Nat.le_of_ble_eq_true rfl) dX7_init_11

set_option maxHeartbeats 4000000 in
set_option maxRecDepth 100000 in
theorem c_X4_init (l : Launch) (g : va_G) (ct : Nat → ClassId) (sz : Nat) (a0 : Nat) : Met l yX4_init wsX4_init (zRc 1 4 24 12) (va_Pc [.ref a0] (zW g ct [zO a0 3 [.int 0, .int 0, .int 0, .null, .null, .null, .null]] sz)) (zEv (S := Nat → Nat) g (fun u => [zO a0 3 [.int 0, .int 100, .int 0, .ref (u 0), .ref (u 1), .ref (u 2), .ref (u 3)], zI ct (u 0) 6 (fun _ => 0), zI ct (u 1) 6 (fun _ => 0), zZ ct (u 2) 6 (fun _ => 0), zI ct (u 3) 6 (fun _ => 0)]) (va_A [zO a0 3 [.int 0, .int 0, .int 0, .null, .null, .null, .null]] sz)) 4 24 (va_A [zO a0 3 [.int 0, .int 0, .int 0, .null, .null, .null, .null]] sz) := by
  refine z_write (QA := zEv (S := Nat → Nat) g (fun u => [zO a0 3 [.int 0, .int 100, .int 0, .ref (u 0), .ref (u 1), .ref (u 2), .ref (u 3)], zI ct (u 0) 6 (fun _ => 0), zI ct (u 1) 6 (fun _ => 0), zZ ct (u 2) 6 (fun _ => 0), zI ct (u 3) 6 (fun _ => 0)])) (cc := cX4_init) (maxL := 1) (ret := none) (by decide) rfl (Nat.le_of_ble_eq_true rfl) ?_
  intro p e s m below meth c ls A hx hb hr hml hts hown hlocks hin hP hK hD hNW hA hS hl
  have hown : s.vm.findClass RX4 = some m.cls := hown
  have hl : lv_has ls 1 [(0, .ref a0)] := hl
  have hi_wsX40 : ∀ w ∈ wsX40, w ∈ wsX4_init := fun w h => List.mem_cons_of_mem _ (List.mem_append_right _ h)
  refine lv_aload_n hx hb dX4_init_0 rfl (lv_at hl 0 rfl) ?_
  refine W.objInit hx hb hown (hts (.methodLink RX4 1 objectInit) (List.mem_of_getElem? (i := 1) rfl)) (hts (.instanceMethod objectInit) (List.mem_of_getElem? (i := 2) rfl)) (hts (.code objectInit ⟨#[0xb1]⟩ 1 none) (List.mem_of_getElem? (i := 3) rfl)) rfl (by rw [hml]; exact hl.1) rfl dX4_init_1 (Nat.le_of_ble_eq_true rfl) (Nat.le_of_ble_eq_true rfl) ?_
  refine W.eq (g2 := F0 m 4 ls []) rfl ?_
  refine lv_aload_n hx hb dX4_init_4 rfl (lv_at hl 0 rfl) ?_
  refine lv_bipush (v := 100) hx hb dX4_init_5 (by decide) ?_
  refine va_put (D := g) (ci := 3) (v := .int 100) (C := RX4) (T := TX4) (N := 7) hx hb hts hi_wsX40 tyX4 tyX4_ok nmX4 hown hK hP hD hS 0 rfl rfl 1 (by decide) (hts (.fieldLink RX4 7 "FloodBarrier$Pumps" "limit" "I") (List.mem_of_getElem? (i := 4) rfl)) (fun _ h9 => h9) rfl (tyX4_ok 1 (by decide)) rfl rfl (Nat.le_of_ble_eq_true rfl) dX4_init_7 (fun H locs hP hD hS => ?_)
  have hP : va_P g vwCl [zO a0 3 [.int 0, .int 100, .int 0, .null, .null, .null, .null]] H := hP
  have hD : va_D A [zO a0 3 [.int 0, .int 100, .int 0, .null, .null, .null, .null]] := hD
  refine lv_aload_n hx hb dX4_init_10 rfl (lv_at hl 0 rfl) ?_
  refine lv_bipush (v := 6) hx hb dX4_init_11 (by decide) ?_
  refine z_newI hx hb (hts (.arrayClass .int) (List.mem_of_getElem? (i := 5) rfl)) hK hP hD hS hA (by decide) rfl (Nat.le_of_ble_eq_true rfl) (Nat.le_of_ble_eq_true rfl) (Nat.le_of_ble_eq_true rfl) dX4_init_13 (fun q_1 H hP hD hS => ?_)
  have hP : va_P g vwCl [zO a0 3 [.int 0, .int 100, .int 0, .null, .null, .null, .null], zI ct q_1 6 (fun _ => 0)] H := hP
  have hD : va_D A [zO a0 3 [.int 0, .int 100, .int 0, .null, .null, .null, .null], zI ct q_1 6 (fun _ => 0)] := hD
  refine va_putF (D := g) (ci := 3) (v := .ref q_1) (C := RX4) (T := TX4) (N := 7) hx hb hts hi_wsX40 tyX4 tyX4_ok nmX4 hown hK hP hD hS 0 rfl rfl 3 (by decide) (hts (.fieldLink RX4 13 "FloodBarrier$Pumps" "power" "[I") (List.mem_of_getElem? (i := 6) rfl)) (fun _ h9 => h9) rfl hin rfl (tyX4_ok 3 (by decide)) rfl rfl (Nat.le_of_ble_eq_true rfl) dX4_init_15 (fun H locs hP hD hS => ?_)
  have hP : va_P g vwCl [zO a0 3 [.int 0, .int 100, .int 0, .ref q_1, .null, .null, .null], zI ct q_1 6 (fun _ => 0)] H := hP
  have hD : va_D A [zO a0 3 [.int 0, .int 100, .int 0, .ref q_1, .null, .null, .null], zI ct q_1 6 (fun _ => 0)] := hD
  refine lv_aload_n hx hb dX4_init_18 rfl (lv_at hl 0 rfl) ?_
  refine lv_bipush (v := 6) hx hb dX4_init_19 (by decide) ?_
  refine z_newI hx hb (hts (.arrayClass .int) (List.mem_of_getElem? (i := 5) rfl)) hK hP hD hS hA (by decide) rfl (Nat.le_of_ble_eq_true rfl) (Nat.le_of_ble_eq_true rfl) (Nat.le_of_ble_eq_true rfl) dX4_init_21 (fun q_2 H hP hD hS => ?_)
  have hP : va_P g vwCl [zO a0 3 [.int 0, .int 100, .int 0, .ref q_1, .null, .null, .null], zI ct q_1 6 (fun _ => 0), zI ct q_2 6 (fun _ => 0)] H := hP
  have hD : va_D A [zO a0 3 [.int 0, .int 100, .int 0, .ref q_1, .null, .null, .null], zI ct q_1 6 (fun _ => 0), zI ct q_2 6 (fun _ => 0)] := hD
  refine va_putF (D := g) (ci := 3) (v := .ref q_2) (C := RX4) (T := TX4) (N := 7) hx hb hts hi_wsX40 tyX4 tyX4_ok nmX4 hown hK hP hD hS 0 rfl rfl 4 (by decide) (hts (.fieldLink RX4 17 "FloodBarrier$Pumps" "water" "[I") (List.mem_of_getElem? (i := 7) rfl)) (fun _ h9 => h9) rfl hin rfl (tyX4_ok 4 (by decide)) rfl rfl (Nat.le_of_ble_eq_true rfl) dX4_init_23 (fun H locs hP hD hS => ?_)
  have hP : va_P g vwCl [zO a0 3 [.int 0, .int 100, .int 0, .ref q_1, .ref q_2, .null, .null], zI ct q_1 6 (fun _ => 0), zI ct q_2 6 (fun _ => 0)] H := hP
  have hD : va_D A [zO a0 3 [.int 0, .int 100, .int 0, .ref q_1, .ref q_2, .null, .null], zI ct q_1 6 (fun _ => 0), zI ct q_2 6 (fun _ => 0)] := hD
  refine lv_aload_n hx hb dX4_init_26 rfl (lv_at hl 0 rfl) ?_
  refine lv_bipush (v := 6) hx hb dX4_init_27 (by decide) ?_
  refine z_newZ hx hb (hts (.arrayClass .boolean) (List.mem_of_getElem? (i := 8) rfl)) hK hP hD hS hA (by decide) rfl (Nat.le_of_ble_eq_true rfl) (Nat.le_of_ble_eq_true rfl) (Nat.le_of_ble_eq_true rfl) dX4_init_29 (fun q_3 H hP hD hS => ?_)
  have hP : va_P g vwCl [zO a0 3 [.int 0, .int 100, .int 0, .ref q_1, .ref q_2, .null, .null], zI ct q_1 6 (fun _ => 0), zI ct q_2 6 (fun _ => 0), zZ ct q_3 6 (fun _ => 0)] H := hP
  have hD : va_D A [zO a0 3 [.int 0, .int 100, .int 0, .ref q_1, .ref q_2, .null, .null], zI ct q_1 6 (fun _ => 0), zI ct q_2 6 (fun _ => 0), zZ ct q_3 6 (fun _ => 0)] := hD
  refine va_putF (D := g) (ci := 3) (v := .ref q_3) (C := RX4) (T := TX4) (N := 7) hx hb hts hi_wsX40 tyX4 tyX4_ok nmX4 hown hK hP hD hS 0 rfl rfl 5 (by decide) (hts (.fieldLink RX4 20 "FloodBarrier$Pumps" "on" "[Z") (List.mem_of_getElem? (i := 9) rfl)) (fun _ h9 => h9) rfl hin rfl (tyX4_ok 5 (by decide)) rfl rfl (Nat.le_of_ble_eq_true rfl) dX4_init_31 (fun H locs hP hD hS => ?_)
  have hP : va_P g vwCl [zO a0 3 [.int 0, .int 100, .int 0, .ref q_1, .ref q_2, .ref q_3, .null], zI ct q_1 6 (fun _ => 0), zI ct q_2 6 (fun _ => 0), zZ ct q_3 6 (fun _ => 0)] H := hP
  have hD : va_D A [zO a0 3 [.int 0, .int 100, .int 0, .ref q_1, .ref q_2, .ref q_3, .null], zI ct q_1 6 (fun _ => 0), zI ct q_2 6 (fun _ => 0), zZ ct q_3 6 (fun _ => 0)] := hD
  refine lv_aload_n hx hb dX4_init_34 rfl (lv_at hl 0 rfl) ?_
  refine lv_bipush (v := 6) hx hb dX4_init_35 (by decide) ?_
  refine z_newI hx hb (hts (.arrayClass .int) (List.mem_of_getElem? (i := 5) rfl)) hK hP hD hS hA (by decide) rfl (Nat.le_of_ble_eq_true rfl) (Nat.le_of_ble_eq_true rfl) (Nat.le_of_ble_eq_true rfl) dX4_init_37 (fun q_4 H hP hD hS => ?_)
  have hP : va_P g vwCl [zO a0 3 [.int 0, .int 100, .int 0, .ref q_1, .ref q_2, .ref q_3, .null], zI ct q_1 6 (fun _ => 0), zI ct q_2 6 (fun _ => 0), zZ ct q_3 6 (fun _ => 0), zI ct q_4 6 (fun _ => 0)] H := hP
  have hD : va_D A [zO a0 3 [.int 0, .int 100, .int 0, .ref q_1, .ref q_2, .ref q_3, .null], zI ct q_1 6 (fun _ => 0), zI ct q_2 6 (fun _ => 0), zZ ct q_3 6 (fun _ => 0), zI ct q_4 6 (fun _ => 0)] := hD
  refine va_putF (D := g) (ci := 3) (v := .ref q_4) (C := RX4) (T := TX4) (N := 7) hx hb hts hi_wsX40 tyX4 tyX4_ok nmX4 hown hK hP hD hS 0 rfl rfl 6 (by decide) (hts (.fieldLink RX4 24 "FloodBarrier$Pumps" "ran" "[I") (List.mem_of_getElem? (i := 10) rfl)) (fun _ h9 => h9) rfl hin rfl (tyX4_ok 6 (by decide)) rfl rfl (Nat.le_of_ble_eq_true rfl) dX4_init_39 (fun H locs hP hD hS => ?_)
  have hP : va_P g vwCl [zO a0 3 [.int 0, .int 100, .int 0, .ref q_1, .ref q_2, .ref q_3, .ref q_4], zI ct q_1 6 (fun _ => 0), zI ct q_2 6 (fun _ => 0), zZ ct q_3 6 (fun _ => 0), zI ct q_4 6 (fun _ => 0)] H := hP
  have hD : va_D A [zO a0 3 [.int 0, .int 100, .int 0, .ref q_1, .ref q_2, .ref q_3, .ref q_4], zI ct q_1 6 (fun _ => 0), zI ct q_2 6 (fun _ => 0), zZ ct q_3 6 (fun _ => 0), zI ct q_4 6 (fun _ => 0)] := hD
  exact z_vretE (fun i => [q_1, q_2, q_3, q_4].getD i 0) hx hb hr hlocks hS (hP.sub [0, 1, 2, 3, 4] rfl) (hD.sub [0, 1, 2, 3, 4] (by decide) rfl) (Nat.le_of_ble_eq_true rfl) (Nat.le_of_ble_eq_true rfl) dX4_init_42

set_option maxHeartbeats 4000000 in
set_option maxRecDepth 100000 in
theorem c_X5_init (l : Launch) (g : va_G) (ct : Nat → ClassId) (sz : Nat) (a0 : Nat) : Met l yX5_init wsX5_init (zRc 1 7 56 12) (va_Pc [.ref a0] (zW g ct [zO a0 4 [.int 0, .null, .null, .null, .null, .null, .null, .null]] sz)) (zEv (S := Nat → Nat) g (fun u => [zO a0 4 [.int 0, .ref (u 0), .ref (u 1), .ref (u 2), .ref (u 3), .ref (u 4), .ref (u 5), .ref (u 6)], zI ct (u 0) 8 (fun _ => 0), zE ct (u 1) 8 (fun _ => 0), zI ct (u 2) 8 (fun _ => 0), zI ct (u 3) 8 (fun _ => 0), zI ct (u 4) 8 (fun _ => 0), zI ct (u 5) 8 (fun _ => 0), zI ct (u 6) 8 (fun _ => 0)]) (va_A [zO a0 4 [.int 0, .null, .null, .null, .null, .null, .null, .null]] sz)) 7 56 (va_A [zO a0 4 [.int 0, .null, .null, .null, .null, .null, .null, .null]] sz) := by
  refine z_write (QA := zEv (S := Nat → Nat) g (fun u => [zO a0 4 [.int 0, .ref (u 0), .ref (u 1), .ref (u 2), .ref (u 3), .ref (u 4), .ref (u 5), .ref (u 6)], zI ct (u 0) 8 (fun _ => 0), zE ct (u 1) 8 (fun _ => 0), zI ct (u 2) 8 (fun _ => 0), zI ct (u 3) 8 (fun _ => 0), zI ct (u 4) 8 (fun _ => 0), zI ct (u 5) 8 (fun _ => 0), zI ct (u 6) 8 (fun _ => 0)])) (cc := cX5_init) (maxL := 1) (ret := none) (by decide) rfl (Nat.le_of_ble_eq_true rfl) ?_
  intro p e s m below meth c ls A hx hb hr hml hts hown hlocks hin hP hK hD hNW hA hS hl
  have hown : s.vm.findClass RX5 = some m.cls := hown
  have hl : lv_has ls 1 [(0, .ref a0)] := hl
  have hi_wsX50 : ∀ w ∈ wsX50, w ∈ wsX5_init := fun w h => List.mem_cons_of_mem _ (List.mem_append_right _ h)
  refine lv_aload_n hx hb dX5_init_0 rfl (lv_at hl 0 rfl) ?_
  refine W.objInit hx hb hown (hts (.methodLink RX5 3 objectInit) (List.mem_of_getElem? (i := 1) rfl)) (hts (.instanceMethod objectInit) (List.mem_of_getElem? (i := 2) rfl)) (hts (.code objectInit ⟨#[0xb1]⟩ 1 none) (List.mem_of_getElem? (i := 3) rfl)) rfl (by rw [hml]; exact hl.1) rfl dX5_init_1 (Nat.le_of_ble_eq_true rfl) (Nat.le_of_ble_eq_true rfl) ?_
  refine W.eq (g2 := F0 m 4 ls []) rfl ?_
  refine lv_aload_n hx hb dX5_init_4 rfl (lv_at hl 0 rfl) ?_
  refine lv_bipush (v := 8) hx hb dX5_init_5 (by decide) ?_
  refine z_newI hx hb (hts (.arrayClass .int) (List.mem_of_getElem? (i := 4) rfl)) hK hP hD hS hA (by decide) rfl (Nat.le_of_ble_eq_true rfl) (Nat.le_of_ble_eq_true rfl) (Nat.le_of_ble_eq_true rfl) dX5_init_7 (fun q_1 H hP hD hS => ?_)
  have hP : va_P g vwCl [zO a0 4 [.int 0, .null, .null, .null, .null, .null, .null, .null], zI ct q_1 8 (fun _ => 0)] H := hP
  have hD : va_D A [zO a0 4 [.int 0, .null, .null, .null, .null, .null, .null, .null], zI ct q_1 8 (fun _ => 0)] := hD
  refine va_putF (D := g) (ci := 4) (v := .ref q_1) (C := RX5) (T := TX5) (N := 8) hx hb hts hi_wsX50 tyX5 tyX5_ok nmX5 hown hK hP hD hS 0 rfl rfl 1 (by decide) (hts (.fieldLink RX5 11 "FloodBarrier$Sections" "width" "[I") (List.mem_of_getElem? (i := 5) rfl)) (fun _ h9 => h9) rfl hin rfl (tyX5_ok 1 (by decide)) rfl rfl (Nat.le_of_ble_eq_true rfl) dX5_init_9 (fun H locs hP hD hS => ?_)
  have hP : va_P g vwCl [zO a0 4 [.int 0, .ref q_1, .null, .null, .null, .null, .null, .null], zI ct q_1 8 (fun _ => 0)] H := hP
  have hD : va_D A [zO a0 4 [.int 0, .ref q_1, .null, .null, .null, .null, .null, .null], zI ct q_1 8 (fun _ => 0)] := hD
  refine lv_aload_n hx hb dX5_init_12 rfl (lv_at hl 0 rfl) ?_
  refine lv_bipush (v := 8) hx hb dX5_init_13 (by decide) ?_
  refine z_newE hx hb (hts (.arrayClass .double) (List.mem_of_getElem? (i := 6) rfl)) hK hP hD hS hA (by decide) rfl (Nat.le_of_ble_eq_true rfl) (Nat.le_of_ble_eq_true rfl) (Nat.le_of_ble_eq_true rfl) dX5_init_15 (fun q_2 H hP hD hS => ?_)
  have hP : va_P g vwCl [zO a0 4 [.int 0, .ref q_1, .null, .null, .null, .null, .null, .null], zI ct q_1 8 (fun _ => 0), zE ct q_2 8 (fun _ => 0)] H := hP
  have hD : va_D A [zO a0 4 [.int 0, .ref q_1, .null, .null, .null, .null, .null, .null], zI ct q_1 8 (fun _ => 0), zE ct q_2 8 (fun _ => 0)] := hD
  refine va_putF (D := g) (ci := 4) (v := .ref q_2) (C := RX5) (T := TX5) (N := 8) hx hb hts hi_wsX50 tyX5 tyX5_ok nmX5 hown hK hP hD hS 0 rfl rfl 2 (by decide) (hts (.fieldLink RX5 15 "FloodBarrier$Sections" "crest" "[D") (List.mem_of_getElem? (i := 7) rfl)) (fun _ h9 => h9) rfl hin rfl (tyX5_ok 2 (by decide)) rfl rfl (Nat.le_of_ble_eq_true rfl) dX5_init_17 (fun H locs hP hD hS => ?_)
  have hP : va_P g vwCl [zO a0 4 [.int 0, .ref q_1, .ref q_2, .null, .null, .null, .null, .null], zI ct q_1 8 (fun _ => 0), zE ct q_2 8 (fun _ => 0)] H := hP
  have hD : va_D A [zO a0 4 [.int 0, .ref q_1, .ref q_2, .null, .null, .null, .null, .null], zI ct q_1 8 (fun _ => 0), zE ct q_2 8 (fun _ => 0)] := hD
  refine lv_aload_n hx hb dX5_init_20 rfl (lv_at hl 0 rfl) ?_
  refine lv_bipush (v := 8) hx hb dX5_init_21 (by decide) ?_
  refine z_newI hx hb (hts (.arrayClass .int) (List.mem_of_getElem? (i := 4) rfl)) hK hP hD hS hA (by decide) rfl (Nat.le_of_ble_eq_true rfl) (Nat.le_of_ble_eq_true rfl) (Nat.le_of_ble_eq_true rfl) dX5_init_23 (fun q_3 H hP hD hS => ?_)
  have hP : va_P g vwCl [zO a0 4 [.int 0, .ref q_1, .ref q_2, .null, .null, .null, .null, .null], zI ct q_1 8 (fun _ => 0), zE ct q_2 8 (fun _ => 0), zI ct q_3 8 (fun _ => 0)] H := hP
  have hD : va_D A [zO a0 4 [.int 0, .ref q_1, .ref q_2, .null, .null, .null, .null, .null], zI ct q_1 8 (fun _ => 0), zE ct q_2 8 (fun _ => 0), zI ct q_3 8 (fun _ => 0)] := hD
  refine va_putF (D := g) (ci := 4) (v := .ref q_3) (C := RX5) (T := TX5) (N := 8) hx hb hts hi_wsX50 tyX5 tyX5_ok nmX5 hown hK hP hD hS 0 rfl rfl 3 (by decide) (hts (.fieldLink RX5 19 "FloodBarrier$Sections" "hours" "[I") (List.mem_of_getElem? (i := 8) rfl)) (fun _ h9 => h9) rfl hin rfl (tyX5_ok 3 (by decide)) rfl rfl (Nat.le_of_ble_eq_true rfl) dX5_init_25 (fun H locs hP hD hS => ?_)
  have hP : va_P g vwCl [zO a0 4 [.int 0, .ref q_1, .ref q_2, .ref q_3, .null, .null, .null, .null], zI ct q_1 8 (fun _ => 0), zE ct q_2 8 (fun _ => 0), zI ct q_3 8 (fun _ => 0)] H := hP
  have hD : va_D A [zO a0 4 [.int 0, .ref q_1, .ref q_2, .ref q_3, .null, .null, .null, .null], zI ct q_1 8 (fun _ => 0), zE ct q_2 8 (fun _ => 0), zI ct q_3 8 (fun _ => 0)] := hD
  refine lv_aload_n hx hb dX5_init_28 rfl (lv_at hl 0 rfl) ?_
  refine lv_bipush (v := 8) hx hb dX5_init_29 (by decide) ?_
  refine z_newI hx hb (hts (.arrayClass .int) (List.mem_of_getElem? (i := 4) rfl)) hK hP hD hS hA (by decide) rfl (Nat.le_of_ble_eq_true rfl) (Nat.le_of_ble_eq_true rfl) (Nat.le_of_ble_eq_true rfl) dX5_init_31 (fun q_4 H hP hD hS => ?_)
  have hP : va_P g vwCl [zO a0 4 [.int 0, .ref q_1, .ref q_2, .ref q_3, .null, .null, .null, .null], zI ct q_1 8 (fun _ => 0), zE ct q_2 8 (fun _ => 0), zI ct q_3 8 (fun _ => 0), zI ct q_4 8 (fun _ => 0)] H := hP
  have hD : va_D A [zO a0 4 [.int 0, .ref q_1, .ref q_2, .ref q_3, .null, .null, .null, .null], zI ct q_1 8 (fun _ => 0), zE ct q_2 8 (fun _ => 0), zI ct q_3 8 (fun _ => 0), zI ct q_4 8 (fun _ => 0)] := hD
  refine va_putF (D := g) (ci := 4) (v := .ref q_4) (C := RX5) (T := TX5) (N := 8) hx hb hts hi_wsX50 tyX5 tyX5_ok nmX5 hown hK hP hD hS 0 rfl rfl 4 (by decide) (hts (.fieldLink RX5 22 "FloodBarrier$Sections" "life" "[I") (List.mem_of_getElem? (i := 9) rfl)) (fun _ h9 => h9) rfl hin rfl (tyX5_ok 4 (by decide)) rfl rfl (Nat.le_of_ble_eq_true rfl) dX5_init_33 (fun H locs hP hD hS => ?_)
  have hP : va_P g vwCl [zO a0 4 [.int 0, .ref q_1, .ref q_2, .ref q_3, .ref q_4, .null, .null, .null], zI ct q_1 8 (fun _ => 0), zE ct q_2 8 (fun _ => 0), zI ct q_3 8 (fun _ => 0), zI ct q_4 8 (fun _ => 0)] H := hP
  have hD : va_D A [zO a0 4 [.int 0, .ref q_1, .ref q_2, .ref q_3, .ref q_4, .null, .null, .null], zI ct q_1 8 (fun _ => 0), zE ct q_2 8 (fun _ => 0), zI ct q_3 8 (fun _ => 0), zI ct q_4 8 (fun _ => 0)] := hD
  refine lv_aload_n hx hb dX5_init_36 rfl (lv_at hl 0 rfl) ?_
  refine lv_bipush (v := 8) hx hb dX5_init_37 (by decide) ?_
  refine z_newI hx hb (hts (.arrayClass .int) (List.mem_of_getElem? (i := 4) rfl)) hK hP hD hS hA (by decide) rfl (Nat.le_of_ble_eq_true rfl) (Nat.le_of_ble_eq_true rfl) (Nat.le_of_ble_eq_true rfl) dX5_init_39 (fun q_5 H hP hD hS => ?_)
  have hP : va_P g vwCl [zO a0 4 [.int 0, .ref q_1, .ref q_2, .ref q_3, .ref q_4, .null, .null, .null], zI ct q_1 8 (fun _ => 0), zE ct q_2 8 (fun _ => 0), zI ct q_3 8 (fun _ => 0), zI ct q_4 8 (fun _ => 0), zI ct q_5 8 (fun _ => 0)] H := hP
  have hD : va_D A [zO a0 4 [.int 0, .ref q_1, .ref q_2, .ref q_3, .ref q_4, .null, .null, .null], zI ct q_1 8 (fun _ => 0), zE ct q_2 8 (fun _ => 0), zI ct q_3 8 (fun _ => 0), zI ct q_4 8 (fun _ => 0), zI ct q_5 8 (fun _ => 0)] := hD
  refine va_putF (D := g) (ci := 4) (v := .ref q_5) (C := RX5) (T := TX5) (N := 8) hx hb hts hi_wsX50 tyX5 tyX5_ok nmX5 hown hK hP hD hS 0 rfl rfl 5 (by decide) (hts (.fieldLink RX5 25 "FloodBarrier$Sections" "condition" "[I") (List.mem_of_getElem? (i := 10) rfl)) (fun _ h9 => h9) rfl hin rfl (tyX5_ok 5 (by decide)) rfl rfl (Nat.le_of_ble_eq_true rfl) dX5_init_41 (fun H locs hP hD hS => ?_)
  have hP : va_P g vwCl [zO a0 4 [.int 0, .ref q_1, .ref q_2, .ref q_3, .ref q_4, .ref q_5, .null, .null], zI ct q_1 8 (fun _ => 0), zE ct q_2 8 (fun _ => 0), zI ct q_3 8 (fun _ => 0), zI ct q_4 8 (fun _ => 0), zI ct q_5 8 (fun _ => 0)] H := hP
  have hD : va_D A [zO a0 4 [.int 0, .ref q_1, .ref q_2, .ref q_3, .ref q_4, .ref q_5, .null, .null], zI ct q_1 8 (fun _ => 0), zE ct q_2 8 (fun _ => 0), zI ct q_3 8 (fun _ => 0), zI ct q_4 8 (fun _ => 0), zI ct q_5 8 (fun _ => 0)] := hD
  refine lv_aload_n hx hb dX5_init_44 rfl (lv_at hl 0 rfl) ?_
  refine lv_bipush (v := 8) hx hb dX5_init_45 (by decide) ?_
  refine z_newI hx hb (hts (.arrayClass .int) (List.mem_of_getElem? (i := 4) rfl)) hK hP hD hS hA (by decide) rfl (Nat.le_of_ble_eq_true rfl) (Nat.le_of_ble_eq_true rfl) (Nat.le_of_ble_eq_true rfl) dX5_init_47 (fun q_6 H hP hD hS => ?_)
  have hP : va_P g vwCl [zO a0 4 [.int 0, .ref q_1, .ref q_2, .ref q_3, .ref q_4, .ref q_5, .null, .null], zI ct q_1 8 (fun _ => 0), zE ct q_2 8 (fun _ => 0), zI ct q_3 8 (fun _ => 0), zI ct q_4 8 (fun _ => 0), zI ct q_5 8 (fun _ => 0), zI ct q_6 8 (fun _ => 0)] H := hP
  have hD : va_D A [zO a0 4 [.int 0, .ref q_1, .ref q_2, .ref q_3, .ref q_4, .ref q_5, .null, .null], zI ct q_1 8 (fun _ => 0), zE ct q_2 8 (fun _ => 0), zI ct q_3 8 (fun _ => 0), zI ct q_4 8 (fun _ => 0), zI ct q_5 8 (fun _ => 0), zI ct q_6 8 (fun _ => 0)] := hD
  refine va_putF (D := g) (ci := 4) (v := .ref q_6) (C := RX5) (T := TX5) (N := 8) hx hb hts hi_wsX50 tyX5 tyX5_ok nmX5 hown hK hP hD hS 0 rfl rfl 6 (by decide) (hts (.fieldLink RX5 28 "FloodBarrier$Sections" "left" "[I") (List.mem_of_getElem? (i := 11) rfl)) (fun _ h9 => h9) rfl hin rfl (tyX5_ok 6 (by decide)) rfl rfl (Nat.le_of_ble_eq_true rfl) dX5_init_49 (fun H locs hP hD hS => ?_)
  have hP : va_P g vwCl [zO a0 4 [.int 0, .ref q_1, .ref q_2, .ref q_3, .ref q_4, .ref q_5, .ref q_6, .null], zI ct q_1 8 (fun _ => 0), zE ct q_2 8 (fun _ => 0), zI ct q_3 8 (fun _ => 0), zI ct q_4 8 (fun _ => 0), zI ct q_5 8 (fun _ => 0), zI ct q_6 8 (fun _ => 0)] H := hP
  have hD : va_D A [zO a0 4 [.int 0, .ref q_1, .ref q_2, .ref q_3, .ref q_4, .ref q_5, .ref q_6, .null], zI ct q_1 8 (fun _ => 0), zE ct q_2 8 (fun _ => 0), zI ct q_3 8 (fun _ => 0), zI ct q_4 8 (fun _ => 0), zI ct q_5 8 (fun _ => 0), zI ct q_6 8 (fun _ => 0)] := hD
  refine lv_aload_n hx hb dX5_init_52 rfl (lv_at hl 0 rfl) ?_
  refine lv_bipush (v := 8) hx hb dX5_init_53 (by decide) ?_
  refine z_newI hx hb (hts (.arrayClass .int) (List.mem_of_getElem? (i := 4) rfl)) hK hP hD hS hA (by decide) rfl (Nat.le_of_ble_eq_true rfl) (Nat.le_of_ble_eq_true rfl) (Nat.le_of_ble_eq_true rfl) dX5_init_55 (fun q_7 H hP hD hS => ?_)
  have hP : va_P g vwCl [zO a0 4 [.int 0, .ref q_1, .ref q_2, .ref q_3, .ref q_4, .ref q_5, .ref q_6, .null], zI ct q_1 8 (fun _ => 0), zE ct q_2 8 (fun _ => 0), zI ct q_3 8 (fun _ => 0), zI ct q_4 8 (fun _ => 0), zI ct q_5 8 (fun _ => 0), zI ct q_6 8 (fun _ => 0), zI ct q_7 8 (fun _ => 0)] H := hP
  have hD : va_D A [zO a0 4 [.int 0, .ref q_1, .ref q_2, .ref q_3, .ref q_4, .ref q_5, .ref q_6, .null], zI ct q_1 8 (fun _ => 0), zE ct q_2 8 (fun _ => 0), zI ct q_3 8 (fun _ => 0), zI ct q_4 8 (fun _ => 0), zI ct q_5 8 (fun _ => 0), zI ct q_6 8 (fun _ => 0), zI ct q_7 8 (fun _ => 0)] := hD
  refine va_putF (D := g) (ci := 4) (v := .ref q_7) (C := RX5) (T := TX5) (N := 8) hx hb hts hi_wsX50 tyX5 tyX5_ok nmX5 hown hK hP hD hS 0 rfl rfl 7 (by decide) (hts (.fieldLink RX5 31 "FloodBarrier$Sections" "closings" "[I") (List.mem_of_getElem? (i := 12) rfl)) (fun _ h9 => h9) rfl hin rfl (tyX5_ok 7 (by decide)) rfl rfl (Nat.le_of_ble_eq_true rfl) dX5_init_57 (fun H locs hP hD hS => ?_)
  have hP : va_P g vwCl [zO a0 4 [.int 0, .ref q_1, .ref q_2, .ref q_3, .ref q_4, .ref q_5, .ref q_6, .ref q_7], zI ct q_1 8 (fun _ => 0), zE ct q_2 8 (fun _ => 0), zI ct q_3 8 (fun _ => 0), zI ct q_4 8 (fun _ => 0), zI ct q_5 8 (fun _ => 0), zI ct q_6 8 (fun _ => 0), zI ct q_7 8 (fun _ => 0)] H := hP
  have hD : va_D A [zO a0 4 [.int 0, .ref q_1, .ref q_2, .ref q_3, .ref q_4, .ref q_5, .ref q_6, .ref q_7], zI ct q_1 8 (fun _ => 0), zE ct q_2 8 (fun _ => 0), zI ct q_3 8 (fun _ => 0), zI ct q_4 8 (fun _ => 0), zI ct q_5 8 (fun _ => 0), zI ct q_6 8 (fun _ => 0), zI ct q_7 8 (fun _ => 0)] := hD
  exact z_vretE (fun i => [q_1, q_2, q_3, q_4, q_5, q_6, q_7].getD i 0) hx hb hr hlocks hS (hP.sub [0, 1, 2, 3, 4, 5, 6, 7] rfl) (hD.sub [0, 1, 2, 3, 4, 5, 6, 7] (by decide) rfl) (Nat.le_of_ble_eq_true rfl) (Nat.le_of_ble_eq_true rfl) dX5_init_60
