set_option maxHeartbeats 4000000 in
set_option maxRecDepth 100000 in
theorem c_X5_isMoving (l : Launch) (g : va_G) (ct : Nat → ClassId) (a0 a1 a2 a3 a4 a5 a6 a7 : Nat) (n : Nat) (wi : Nat → Int32) (cr : Nat → Int64) (ho li co le cs : Nat → Int32) (k : Nat) (hk : k < 8) : Met l yX5_isMoving wsX5_isMoving (zRm 0 0) (va_Pc [.ref a0, .int (nI k)] (zR g ct [zO a0 4 [.int (nI n), .ref a1, .ref a2, .ref a3, .ref a4, .ref a5, .ref a6, .ref a7], zI ct a1 8 wi, zL ct a2 8 cr, zI ct a3 8 ho, zI ct a4 8 li, zI ct a5 8 co, zI ct a6 8 le, zI ct a7 8 cs])) (vp_Si (fun r => r = if co k = 1 ∨ co k = 3 then 1 else 0)) 0 0 (fun _ => False) := by
  refine z_read (cc := cX5_isMoving) (maxL := 2) (ret := some .boolean) (by decide) rfl (Nat.le_of_ble_eq_true rfl) ?_
  intro p e s m below meth c ls hx hb hr hml hts hown hlocks hP hK hl
  have hown : s.vm.findClass RX5 = some m.cls := hown
  have hl : lv_has ls 2 [(0, .ref a0), (1, .int (nI k))] := hl
  have hi_wsX50 : ∀ w ∈ wsX50, w ∈ wsX5_isMoving := fun w h => List.mem_cons_of_mem _ (List.mem_append_right _ h)
  refine lv_aload_n hx hb dX5_isMoving_0 rfl (lv_at hl 0 rfl) ?_
  refine va_get (D := g) (ci := 4) (v := .ref a5) (C := RX5) (T := TX5) (N := 8) hx hb hts hi_wsX50 hown hK hP 0 rfl rfl 5 (by decide) (hts (.fieldLink RX5 25 "FloodBarrier$Sections" "condition" "[I") (List.mem_of_getElem? (i := 1) rfl)) (fun _ h9 => h9) rfl dX5_isMoving_1 ?_
  refine lv_iload_n hx hb dX5_isMoving_4 rfl (lv_at hl 1 rfl) ?_
  refine z_iald (ct := ct) (f := co) (k := k) hx hb hK hP 5 rfl (by omega) (by decide) dX5_isMoving_5 ?_
  refine lv_iconst (v := 1) hx hb dX5_isMoving_6 (by decide) ?_
  refine lv_icmp_eq (tgt := 20) hx hb dX5_isMoving_7 (by decide) (fun c_1 => ?_) (fun c_1 => ?_)
  · refine lv_iconst (v := 1) hx hb dX5_isMoving_20 (by decide) ?_
    refine lv_goto (tgt := 25) hx hb dX5_isMoving_21 (by decide) ?_
    exact z_zretR hx hb hr hlocks rfl rfl (by simp [c_1]) dX5_isMoving_25
  · refine lv_aload_n hx hb dX5_isMoving_10 rfl (lv_at hl 0 rfl) ?_
    refine va_get (D := g) (ci := 4) (v := .ref a5) (C := RX5) (T := TX5) (N := 8) hx hb hts hi_wsX50 hown hK hP 0 rfl rfl 5 (by decide) (hts (.fieldLink RX5 25 "FloodBarrier$Sections" "condition" "[I") (List.mem_of_getElem? (i := 1) rfl)) (fun _ h9 => h9) rfl dX5_isMoving_11 ?_
    refine lv_iload_n hx hb dX5_isMoving_14 rfl (lv_at hl 1 rfl) ?_
    refine z_iald (ct := ct) (f := co) (k := k) hx hb hK hP 5 rfl (by omega) (by decide) dX5_isMoving_15 ?_
    refine lv_iconst (v := 3) hx hb dX5_isMoving_16 (by decide) ?_
    refine lv_icmp_ne (tgt := 24) hx hb dX5_isMoving_17 (by decide) (fun c_2 => ?_) (fun c_2 => ?_)
    · refine lv_iconst (v := 0) hx hb dX5_isMoving_24 (by decide) ?_
      exact z_zretR hx hb hr hlocks rfl rfl (by simp [c_1, c_2]) dX5_isMoving_25
    · refine lv_iconst (v := 1) hx hb dX5_isMoving_20 (by decide) ?_
      refine lv_goto (tgt := 25) hx hb dX5_isMoving_21 (by decide) ?_
      exact z_zretR hx hb hr hlocks rfl rfl (by simp [c_1, c_2]) dX5_isMoving_25

set_option maxHeartbeats 4000000 in
set_option maxRecDepth 100000 in
theorem c_X5_isClosed (l : Launch) (g : va_G) (ct : Nat → ClassId) (a0 a1 a2 a3 a4 a5 a6 a7 : Nat) (n : Nat) (wi : Nat → Int32) (cr : Nat → Int64) (ho li co le cs : Nat → Int32) (k : Nat) (hk : k < 8) : Met l yX5_isClosed wsX5_isClosed (zRm 0 0) (va_Pc [.ref a0, .int (nI k)] (zR g ct [zO a0 4 [.int (nI n), .ref a1, .ref a2, .ref a3, .ref a4, .ref a5, .ref a6, .ref a7], zI ct a1 8 wi, zL ct a2 8 cr, zI ct a3 8 ho, zI ct a4 8 li, zI ct a5 8 co, zI ct a6 8 le, zI ct a7 8 cs])) (vp_Si (fun r => r = if co k = 2 then 1 else 0)) 0 0 (fun _ => False) := by
  refine z_read (cc := cX5_isClosed) (maxL := 2) (ret := some .boolean) (by decide) rfl (Nat.le_of_ble_eq_true rfl) ?_
  intro p e s m below meth c ls hx hb hr hml hts hown hlocks hP hK hl
  have hown : s.vm.findClass RX5 = some m.cls := hown
  have hl : lv_has ls 2 [(0, .ref a0), (1, .int (nI k))] := hl
  have hi_wsX50 : ∀ w ∈ wsX50, w ∈ wsX5_isClosed := fun w h => List.mem_cons_of_mem _ (List.mem_append_right _ h)
  refine lv_aload_n hx hb dX5_isClosed_0 rfl (lv_at hl 0 rfl) ?_
  refine va_get (D := g) (ci := 4) (v := .ref a5) (C := RX5) (T := TX5) (N := 8) hx hb hts hi_wsX50 hown hK hP 0 rfl rfl 5 (by decide) (hts (.fieldLink RX5 25 "FloodBarrier$Sections" "condition" "[I") (List.mem_of_getElem? (i := 1) rfl)) (fun _ h9 => h9) rfl dX5_isClosed_1 ?_
  refine lv_iload_n hx hb dX5_isClosed_4 rfl (lv_at hl 1 rfl) ?_
  refine z_iald (ct := ct) (f := co) (k := k) hx hb hK hP 5 rfl (by omega) (by decide) dX5_isClosed_5 ?_
  refine lv_iconst (v := 2) hx hb dX5_isClosed_6 (by decide) ?_
  refine lv_icmp_ne (tgt := 14) hx hb dX5_isClosed_7 (by decide) (fun c_1 => ?_) (fun c_1 => ?_)
  · refine lv_iconst (v := 0) hx hb dX5_isClosed_14 (by decide) ?_
    exact z_zretR hx hb hr hlocks rfl rfl (by simp [c_1]) dX5_isClosed_15
  · refine lv_iconst (v := 1) hx hb dX5_isClosed_10 (by decide) ?_
    refine lv_goto (tgt := 15) hx hb dX5_isClosed_11 (by decide) ?_
    exact z_zretR hx hb hr hlocks rfl rfl (by simp [c_1]) dX5_isClosed_15

set_option maxHeartbeats 4000000 in
set_option maxRecDepth 100000 in
theorem c_X5_isFull (l : Launch) (g : va_G) (ct : Nat → ClassId) (a0 a1 a2 a3 a4 a5 a6 a7 : Nat) (n : Nat) (wi : Nat → Int32) (cr : Nat → Int64) (ho li co le cs : Nat → Int32) (hn : n ≤ 8) : Met l yX5_isFull wsX5_isFull (zRm 0 0) (va_Pc [.ref a0] (zR g ct [zO a0 4 [.int (nI n), .ref a1, .ref a2, .ref a3, .ref a4, .ref a5, .ref a6, .ref a7], zI ct a1 8 wi, zL ct a2 8 cr, zI ct a3 8 ho, zI ct a4 8 li, zI ct a5 8 co, zI ct a6 8 le, zI ct a7 8 cs])) (vp_Si (fun r => r = if 8 ≤ n then 1 else 0)) 0 0 (fun _ => False) := by
  refine z_read (cc := cX5_isFull) (maxL := 1) (ret := some .boolean) (by decide) rfl (Nat.le_of_ble_eq_true rfl) ?_
  intro p e s m below meth c ls hx hb hr hml hts hown hlocks hP hK hl
  have hown : s.vm.findClass RX5 = some m.cls := hown
  have hl : lv_has ls 1 [(0, .ref a0)] := hl
  have hi_wsX50 : ∀ w ∈ wsX50, w ∈ wsX5_isFull := fun w h => List.mem_cons_of_mem _ (List.mem_append_right _ h)
  refine lv_aload_n hx hb dX5_isFull_0 rfl (lv_at hl 0 rfl) ?_
  refine va_get (D := g) (ci := 4) (v := .int (nI n)) (C := RX5) (T := TX5) (N := 8) hx hb hts hi_wsX50 hown hK hP 0 rfl rfl 0 (by decide) (hts (.fieldLink RX5 34 "FloodBarrier$Sections" "many" "I") (List.mem_of_getElem? (i := 1) rfl)) (fun _ h9 => h9) rfl dX5_isFull_1 ?_
  refine lv_bipush (v := 8) hx hb dX5_isFull_4 (by decide) ?_
  refine z_icN_lt (x := n) (y := 8) (tgt := 13) hx hb (by omega) (by omega) dX5_isFull_6 (by decide) (fun c_1 => ?_) (fun c_1 => ?_)
  · refine lv_iconst (v := 0) hx hb dX5_isFull_13 (by decide) ?_
    exact z_zretR hx hb hr hlocks rfl rfl (by simp; omega) dX5_isFull_14
  · refine lv_iconst (v := 1) hx hb dX5_isFull_9 (by decide) ?_
    refine lv_goto (tgt := 14) hx hb dX5_isFull_10 (by decide) ?_
    exact z_zretR hx hb hr hlocks rfl rfl (by simp; omega) dX5_isFull_14

set_option maxHeartbeats 4000000 in
set_option maxRecDepth 100000 in
theorem c_X5_has (l : Launch) (g : va_G) (ct : Nat → ClassId) (a0 a1 a2 a3 a4 a5 a6 a7 : Nat) (n : Nat) (wi : Nat → Int32) (cr : Nat → Int64) (ho li co le cs : Nat → Int32) (x : Int32) : Met l yX5_has wsX5_has (zRm 0 0) (va_Pc [.ref a0, .int x] (zR g ct [zO a0 4 [.int (nI n), .ref a1, .ref a2, .ref a3, .ref a4, .ref a5, .ref a6, .ref a7], zI ct a1 8 wi, zL ct a2 8 cr, zI ct a3 8 ho, zI ct a4 8 li, zI ct a5 8 co, zI ct a6 8 le, zI ct a7 8 cs])) (vp_Si (fun r => r = if 0 ≤ x ∧ x < nI n then 1 else 0)) 0 0 (fun _ => False) := by
  refine z_read (cc := cX5_has) (maxL := 2) (ret := some .boolean) (by decide) rfl (Nat.le_of_ble_eq_true rfl) ?_
  intro p e s m below meth c ls hx hb hr hml hts hown hlocks hP hK hl
  have hown : s.vm.findClass RX5 = some m.cls := hown
  have hl : lv_has ls 2 [(0, .ref a0), (1, .int x)] := hl
  have hi_wsX50 : ∀ w ∈ wsX50, w ∈ wsX5_has := fun w h => List.mem_cons_of_mem _ (List.mem_append_right _ h)
  refine lv_iload_n hx hb dX5_has_0 rfl (lv_at hl 1 rfl) ?_
  refine lv_if_lt (tgt := 16) hx hb dX5_has_1 (by decide) (fun c_1 => ?_) (fun c_1 => ?_)
  · refine lv_iconst (v := 0) hx hb dX5_has_16 (by decide) ?_
    exact z_zretR hx hb hr hlocks rfl rfl (by simp [c_1]) dX5_has_17
  · refine lv_iload_n hx hb dX5_has_4 rfl (lv_at hl 1 rfl) ?_
    refine lv_aload_n hx hb dX5_has_5 rfl (lv_at hl 0 rfl) ?_
    refine va_get (D := g) (ci := 4) (v := .int (nI n)) (C := RX5) (T := TX5) (N := 8) hx hb hts hi_wsX50 hown hK hP 0 rfl rfl 0 (by decide) (hts (.fieldLink RX5 34 "FloodBarrier$Sections" "many" "I") (List.mem_of_getElem? (i := 1) rfl)) (fun _ h9 => h9) rfl dX5_has_6 ?_
    refine lv_icmp_ge (tgt := 16) hx hb dX5_has_9 (by decide) (fun c_2 => ?_) (fun c_2 => ?_)
    · refine lv_iconst (v := 0) hx hb dX5_has_16 (by decide) ?_
      exact z_zretR hx hb hr hlocks rfl rfl (by simp [c_1, c_2]) dX5_has_17
    · refine lv_iconst (v := 1) hx hb dX5_has_12 (by decide) ?_
      refine lv_goto (tgt := 17) hx hb dX5_has_13 (by decide) ?_
      exact z_zretR hx hb hr hlocks rfl rfl (by simp [c_1, c_2]) dX5_has_17

set_option maxHeartbeats 4000000 in
set_option maxRecDepth 100000 in
theorem c_X5_countIn (l : Launch) (g : va_G) (ct : Nat → ClassId) (a0 a1 a2 a3 a4 a5 a6 a7 : Nat) (n : Nat) (wi : Nat → Int32) (cr : Nat → Int64) (ho li co le cs : Nat → Int32) (hn : n ≤ 8) (w : Int32) : Met l yX5_countIn wsX5_countIn (zRm 0 0) (va_Pc [.ref a0, .int w] (zR g ct [zO a0 4 [.int (nI n), .ref a1, .ref a2, .ref a3, .ref a4, .ref a5, .ref a6, .ref a7], zI ct a1 8 wi, zL ct a2 8 cr, zI ct a3 8 ho, zI ct a4 8 li, zI ct a5 8 co, zI ct a6 8 le, zI ct a7 8 cs])) (vp_Si (fun r => r = lp (fun k r => if co k = w then r + 1 else r) n 0)) 0 0 (fun _ => False) := by
  refine z_read (cc := cX5_countIn) (maxL := 4) (ret := some .int) (by decide) rfl (Nat.le_of_ble_eq_true rfl) ?_
  intro p e s m below meth c ls hx hb hr hml hts hown hlocks hP hK hl
  have hown : s.vm.findClass RX5 = some m.cls := hown
  have hl : lv_has ls 4 [(0, .ref a0), (1, .int w)] := hl
  have hi_wsX50 : ∀ w ∈ wsX50, w ∈ wsX5_countIn := fun w h => List.mem_cons_of_mem _ (List.mem_append_right _ h)
  refine lv_iconst (v := 0) hx hb dX5_countIn_0 (by decide) ?_
  refine lv_istore_n (lv' := [(2, .int 0), (0, .ref a0), (1, .int w)]) hx hb dX5_countIn_1 rfl hl (by decide) rfl (fun ls hl => ?_)
  refine lv_iconst (v := 0) hx hb dX5_countIn_2 (by decide) ?_
  refine lv_istore_n (lv' := [(3, .int 0), (2, .int 0), (0, .ref a0), (1, .int w)]) hx hb dX5_countIn_3 rfl hl (by decide) rfl (fun ls hl => ?_)
  refine z_loop n (fun k1 H2 locs2 ls => H2 = s.heap ∧ locs2 = [] ∧ lv_has ls 4 [(0, .ref a0), (1, .int w), (2, .int (lp (fun k r => if co k = w then r + 1 else r) k1 0)), (3, .int (nI k1))]) ⟨rfl, rfl, lv_sub hl [2, 3, 1, 0] rfl⟩ ?_
  intro k1 H2 locs2 ls hkk1 hI ihk1
  obtain ⟨rfl, rfl, hl⟩ := hI
  refine lv_iload_n hx hb dX5_countIn_4 rfl (lv_at hl 3 rfl) ?_
  refine lv_aload_n hx hb dX5_countIn_5 rfl (lv_at hl 0 rfl) ?_
  refine va_get (D := g) (ci := 4) (v := .int (nI n)) (C := RX5) (T := TX5) (N := 8) hx hb hts hi_wsX50 hown hK hP 0 rfl rfl 0 (by decide) (hts (.fieldLink RX5 34 "FloodBarrier$Sections" "many" "I") (List.mem_of_getElem? (i := 1) rfl)) (fun _ h9 => h9) rfl dX5_countIn_6 ?_
  refine z_icN_ge (x := k1) (y := n) (tgt := 31) hx hb (by omega) (by omega) dX5_countIn_9 (by decide) (fun c_1 => ?_) (fun c_1 => ?_)
  · have hkn : n = k1 := by omega
    subst hkn
    refine lv_iload_n hx hb dX5_countIn_31 rfl (lv_at hl 2 rfl) ?_
    exact z_iretR hx hb hr hlocks rfl rfl dX5_countIn_32
  · refine lv_aload_n hx hb dX5_countIn_12 rfl (lv_at hl 0 rfl) ?_
    refine va_get (D := g) (ci := 4) (v := .ref a5) (C := RX5) (T := TX5) (N := 8) hx hb hts hi_wsX50 hown hK hP 0 rfl rfl 5 (by decide) (hts (.fieldLink RX5 25 "FloodBarrier$Sections" "condition" "[I") (List.mem_of_getElem? (i := 2) rfl)) (fun _ h9 => h9) rfl dX5_countIn_13 ?_
    refine lv_iload_n hx hb dX5_countIn_16 rfl (lv_at hl 3 rfl) ?_
    refine z_iald (ct := ct) (f := co) (k := k1) hx hb hK hP 5 rfl (by omega) (by decide) dX5_countIn_17 ?_
    refine lv_iload_n hx hb dX5_countIn_18 rfl (lv_at hl 1 rfl) ?_
    refine lv_icmp_ne (tgt := 25) hx hb dX5_countIn_19 (by decide) (fun c_2 => ?_) (fun c_2 => ?_)
    · refine lv_iinc (v := nI (k1 + 1)) (lv' := [(3, .int (nI (k1 + 1))), (0, .ref a0), (1, .int w), (2, .int (lp (fun k r => if co k = w then r + 1 else r) k1 0))]) hx hb dX5_countIn_25 hl (k := 3) rfl (nI_add k1 1) (by decide) rfl (fun ls hl => ?_)
      refine lv_goto (tgt := 4) hx hb dX5_countIn_28 (by decide) ?_
      exact ihk1 _ _ _ (by omega) ⟨rfl, rfl, (by first | exact lv_sub hl [1, 2, 3, 0] rfl | (simp only [lp_s, if_pos c_1, if_neg c_2]; exact lv_sub hl [1, 2, 3, 0] rfl))⟩
    · refine lv_iinc (v := (lp (fun k r => if co k = w then r + 1 else r) k1 0) + 1) (lv' := [(2, .int ((lp (fun k r => if co k = w then r + 1 else r) k1 0) + 1)), (0, .ref a0), (1, .int w), (3, .int (nI k1))]) hx hb dX5_countIn_22 hl (k := 2) rfl rfl (by decide) rfl (fun ls hl => ?_)
      refine lv_iinc (v := nI (k1 + 1)) (lv' := [(3, .int (nI (k1 + 1))), (2, .int ((lp (fun k r => if co k = w then r + 1 else r) k1 0) + 1)), (0, .ref a0), (1, .int w)]) hx hb dX5_countIn_25 hl (k := 3) rfl (nI_add k1 1) (by decide) rfl (fun ls hl => ?_)
      refine lv_goto (tgt := 4) hx hb dX5_countIn_28 (by decide) ?_
      exact ihk1 _ _ _ (by omega) ⟨rfl, rfl, (by first | exact lv_sub hl [2, 3, 1, 0] rfl | (simp only [lp_s, if_pos c_1, if_pos c_2]; exact lv_sub hl [2, 3, 1, 0] rfl))⟩
