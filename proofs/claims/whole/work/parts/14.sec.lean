set_option maxHeartbeats 4000000 in
set_option maxRecDepth 100000 in
theorem c_X5_isMoving (l : Launch) (g : va_G) (ct : Nat → ClassId) (a0 a1 a2 a3 a4 a5 a6 a7 : Nat) (n : Nat) (wi : Nat → Int32) (cr : Nat → Int64) (ho li co le cs : Nat → Int32) (k : Nat) (hk : k < 8) : Met l yX5_isMoving wsX5_isMoving (zRm 0 0) (va_Pc [.ref a0, .int (nI k)] (zR g ct [zO a0 4 [.int (nI n), .ref a1, .ref a2, .ref a3, .ref a4, .ref a5, .ref a6, .ref a7], zI ct a1 8 wi, zE ct a2 8 cr, zI ct a3 8 ho, zI ct a4 8 li, zI ct a5 8 co, zI ct a6 8 le, zI ct a7 8 cs])) (vp_Si (fun r => r = if co k = 1 ∨ co k = 3 then 1 else 0)) 0 0 (fun _ => False) := by
  refine z_read (cc := cX5_isMoving) (maxL := 2) (ret := some .boolean) (by decide) rfl (Nat.le_of_ble_eq_true rfl) ?_
  intro p e s m below meth c ls hx hb hr hml hts hown hlocks hP hK hl
  have hown : s.vm.findClass RX5 = some m.cls := hown
  have hl : lv_has ls 2 [(0, .ref a0), (1, .int (nI k))] := hl
  have hi_wsX50 : ∀ w ∈ wsX50, w ∈ wsX5_isMoving := fun w h => List.mem_cons_of_mem _ (List.mem_append_right _ h)
  refine lv_aload_n hx hb dX5_isMoving_0 rfl (lv_at hl 0 rfl) ?_
  refine va_get (D := g) (ci := 4) (v := .ref a5) (C := RX5) (T := TX5) (N := 8) hx hb hts hi_wsX50 hown hK hP 0 rfl rfl 5 (by decide) (hts (.fieldLink RX5 25 "FloodBarrier$Sections" "condition" "[I") (List.mem_of_getElem? (i := 1) rfl)) (fun _ h9 => h9) rfl dX5_isMoving_1 ?_
  refine lv_iload_n hx hb dX5_isMoving_4 rfl (lv_at hl 1 rfl) ?_
  refine z_iald (ct := ct) (f := co) (k := k) hx hb hK hP 5 rfl (by omega) (by decide) dX5_isMoving_5 ?_
  refine lv_iconst (v := 1) hx hb dX5_isMoving_6 (by decide) ?_
  refine lv_icmp_eq (tgt := 20) hx hb dX5_isMoving_7 (by decide) (fun c_1 => ?_) (fun c_1 => ?_)
  · refine lv_iconst (v := 1) hx hb dX5_isMoving_20 (by decide) ?_
    refine lv_goto (tgt := 25) hx hb dX5_isMoving_21 (by decide) ?_
    exact z_zretR hx hb hr hlocks rfl rfl (by simp [c_1]) dX5_isMoving_25
  · refine lv_aload_n hx hb dX5_isMoving_10 rfl (lv_at hl 0 rfl) ?_
    refine va_get (D := g) (ci := 4) (v := .ref a5) (C := RX5) (T := TX5) (N := 8) hx hb hts hi_wsX50 hown hK hP 0 rfl rfl 5 (by decide) (hts (.fieldLink RX5 25 "FloodBarrier$Sections" "condition" "[I") (List.mem_of_getElem? (i := 1) rfl)) (fun _ h9 => h9) rfl dX5_isMoving_11 ?_
    refine lv_iload_n hx hb dX5_isMoving_14 rfl (lv_at hl 1 rfl) ?_
    refine z_iald (ct := ct) (f := co) (k := k) hx hb hK hP 5 rfl (by omega) (by decide) dX5_isMoving_15 ?_
    refine lv_iconst (v := 3) hx hb dX5_isMoving_16 (by decide) ?_
    refine lv_icmp_ne (tgt := 24) hx hb dX5_isMoving_17 (by decide) (fun c_2 => ?_) (fun c_2 => ?_)
    · refine lv_iconst (v := 0) hx hb dX5_isMoving_24 (by decide) ?_
      exact z_zretR hx hb hr hlocks rfl rfl (by simp [c_1, c_2]) dX5_isMoving_25
    · refine lv_iconst (v := 1) hx hb dX5_isMoving_20 (by decide) ?_
      refine lv_goto (tgt := 25) hx hb dX5_isMoving_21 (by decide) ?_
      exact z_zretR hx hb hr hlocks rfl rfl (by simp [c_1, c_2]) dX5_isMoving_25

set_option maxHeartbeats 4000000 in
set_option maxRecDepth 100000 in
theorem c_X5_isClosed (l : Launch) (g : va_G) (ct : Nat → ClassId) (a0 a1 a2 a3 a4 a5 a6 a7 : Nat) (n : Nat) (wi : Nat → Int32) (cr : Nat → Int64) (ho li co le cs : Nat → Int32) (k : Nat) (hk : k < 8) : Met l yX5_isClosed wsX5_isClosed (zRm 0 0) (va_Pc [.ref a0, .int (nI k)] (zR g ct [zO a0 4 [.int (nI n), .ref a1, .ref a2, .ref a3, .ref a4, .ref a5, .ref a6, .ref a7], zI ct a1 8 wi, zE ct a2 8 cr, zI ct a3 8 ho, zI ct a4 8 li, zI ct a5 8 co, zI ct a6 8 le, zI ct a7 8 cs])) (vp_Si (fun r => r = if co k = 2 then 1 else 0)) 0 0 (fun _ => False) := by
  refine z_read (cc := cX5_isClosed) (maxL := 2) (ret := some .boolean) (by decide) rfl (Nat.le_of_ble_eq_true rfl) ?_
  intro p e s m below meth c ls hx hb hr hml hts hown hlocks hP hK hl
  have hown : s.vm.findClass RX5 = some m.cls := hown
  have hl : lv_has ls 2 [(0, .ref a0), (1, .int (nI k))] := hl
  have hi_wsX50 : ∀ w ∈ wsX50, w ∈ wsX5_isClosed := fun w h => List.mem_cons_of_mem _ (List.mem_append_right _ h)
  refine lv_aload_n hx hb dX5_isClosed_0 rfl (lv_at hl 0 rfl) ?_
  refine va_get (D := g) (ci := 4) (v := .ref a5) (C := RX5) (T := TX5) (N := 8) hx hb hts hi_wsX50 hown hK hP 0 rfl rfl 5 (by decide) (hts (.fieldLink RX5 25 "FloodBarrier$Sections" "condition" "[I") (List.mem_of_getElem? (i := 1) rfl)) (fun _ h9 => h9) rfl dX5_isClosed_1 ?_
  refine lv_iload_n hx hb dX5_isClosed_4 rfl (lv_at hl 1 rfl) ?_
  refine z_iald (ct := ct) (f := co) (k := k) hx hb hK hP 5 rfl (by omega) (by decide) dX5_isClosed_5 ?_
  refine lv_iconst (v := 2) hx hb dX5_isClosed_6 (by decide) ?_
  refine lv_icmp_ne (tgt := 14) hx hb dX5_isClosed_7 (by decide) (fun c_1 => ?_) (fun c_1 => ?_)
  · refine lv_iconst (v := 0) hx hb dX5_isClosed_14 (by decide) ?_
    exact z_zretR hx hb hr hlocks rfl rfl (by simp [c_1]) dX5_isClosed_15
  · refine lv_iconst (v := 1) hx hb dX5_isClosed_10 (by decide) ?_
    refine lv_goto (tgt := 15) hx hb dX5_isClosed_11 (by decide) ?_
    exact z_zretR hx hb hr hlocks rfl rfl (by simp [c_1]) dX5_isClosed_15

set_option maxHeartbeats 4000000 in
set_option maxRecDepth 100000 in
theorem c_X5_isFull (l : Launch) (g : va_G) (ct : Nat → ClassId) (a0 a1 a2 a3 a4 a5 a6 a7 : Nat) (n : Nat) (wi : Nat → Int32) (cr : Nat → Int64) (ho li co le cs : Nat → Int32) (hn : n ≤ 8) : Met l yX5_isFull wsX5_isFull (zRm 0 0) (va_Pc [.ref a0] (zR g ct [zO a0 4 [.int (nI n), .ref a1, .ref a2, .ref a3, .ref a4, .ref a5, .ref a6, .ref a7], zI ct a1 8 wi, zE ct a2 8 cr, zI ct a3 8 ho, zI ct a4 8 li, zI ct a5 8 co, zI ct a6 8 le, zI ct a7 8 cs])) (vp_Si (fun r => r = if 8 ≤ n then 1 else 0)) 0 0 (fun _ => False) := by
  refine z_read (cc := cX5_isFull) (maxL := 1) (ret := some .boolean) (by decide) rfl (Nat.le_of_ble_eq_true rfl) ?_
  intro p e s m below meth c ls hx hb hr hml hts hown hlocks hP hK hl
  have hown : s.vm.findClass RX5 = some m.cls := hown
  have hl : lv_has ls 1 [(0, .ref a0)] := hl
  have hi_wsX50 : ∀ w ∈ wsX50, w ∈ wsX5_isFull := fun w h => List.mem_cons_of_mem _ (List.mem_append_right _ h)
  refine lv_aload_n hx hb dX5_isFull_0 rfl (lv_at hl 0 rfl) ?_
  refine va_get (D := g) (ci := 4) (v := .int (nI n)) (C := RX5) (T := TX5) (N := 8) hx hb hts hi_wsX50 hown hK hP 0 rfl rfl 0 (by decide) (hts (.fieldLink RX5 34 "FloodBarrier$Sections" "many" "I") (List.mem_of_getElem? (i := 1) rfl)) (fun _ h9 => h9) rfl dX5_isFull_1 ?_
  refine lv_bipush (v := 8) hx hb dX5_isFull_4 (by decide) ?_
  refine z_icN_lt (x := n) (y := 8) (tgt := 13) hx hb (by omega) (by omega) dX5_isFull_6 (by decide) (fun c_1 => ?_) (fun c_1 => ?_)
  · refine lv_iconst (v := 0) hx hb dX5_isFull_13 (by decide) ?_
    exact z_zretR hx hb hr hlocks rfl rfl (by simp; omega) dX5_isFull_14
  · refine lv_iconst (v := 1) hx hb dX5_isFull_9 (by decide) ?_
    refine lv_goto (tgt := 14) hx hb dX5_isFull_10 (by decide) ?_
    exact z_zretR hx hb hr hlocks rfl rfl (by simp; omega) dX5_isFull_14

set_option maxHeartbeats 4000000 in
set_option maxRecDepth 100000 in
theorem c_X5_has (l : Launch) (g : va_G) (ct : Nat → ClassId) (a0 a1 a2 a3 a4 a5 a6 a7 : Nat) (n : Nat) (wi : Nat → Int32) (cr : Nat → Int64) (ho li co le cs : Nat → Int32) (x : Int32) : Met l yX5_has wsX5_has (zRm 0 0) (va_Pc [.ref a0, .int x] (zR g ct [zO a0 4 [.int (nI n), .ref a1, .ref a2, .ref a3, .ref a4, .ref a5, .ref a6, .ref a7], zI ct a1 8 wi, zE ct a2 8 cr, zI ct a3 8 ho, zI ct a4 8 li, zI ct a5 8 co, zI ct a6 8 le, zI ct a7 8 cs])) (vp_Si (fun r => r = if ¬ x < 0 ∧ x < nI n then 1 else 0)) 0 0 (fun _ => False) := by
  refine z_read (cc := cX5_has) (maxL := 2) (ret := some .boolean) (by decide) rfl (Nat.le_of_ble_eq_true rfl) ?_
  intro p e s m below meth c ls hx hb hr hml hts hown hlocks hP hK hl
  have hown : s.vm.findClass RX5 = some m.cls := hown
  have hl : lv_has ls 2 [(0, .ref a0), (1, .int x)] := hl
  have hi_wsX50 : ∀ w ∈ wsX50, w ∈ wsX5_has := fun w h => List.mem_cons_of_mem _ (List.mem_append_right _ h)
  refine lv_iload_n hx hb dX5_has_0 rfl (lv_at hl 1 rfl) ?_
  refine lv_if_lt (tgt := 16) hx hb dX5_has_1 (by decide) (fun c_1 => ?_) (fun c_1 => ?_)
  · refine lv_iconst (v := 0) hx hb dX5_has_16 (by decide) ?_
    exact z_zretR hx hb hr hlocks rfl rfl (by simp [c_1]) dX5_has_17
  · refine lv_iload_n hx hb dX5_has_4 rfl (lv_at hl 1 rfl) ?_
    refine lv_aload_n hx hb dX5_has_5 rfl (lv_at hl 0 rfl) ?_
    refine va_get (D := g) (ci := 4) (v := .int (nI n)) (C := RX5) (T := TX5) (N := 8) hx hb hts hi_wsX50 hown hK hP 0 rfl rfl 0 (by decide) (hts (.fieldLink RX5 34 "FloodBarrier$Sections" "many" "I") (List.mem_of_getElem? (i := 1) rfl)) (fun _ h9 => h9) rfl dX5_has_6 ?_
    refine lv_icmp_ge (tgt := 16) hx hb dX5_has_9 (by decide) (fun c_2 => ?_) (fun c_2 => ?_)
    · refine lv_iconst (v := 0) hx hb dX5_has_16 (by decide) ?_
      exact z_zretR hx hb hr hlocks rfl rfl (by simp [c_1, c_2]) dX5_has_17
    · refine lv_iconst (v := 1) hx hb dX5_has_12 (by decide) ?_
      refine lv_goto (tgt := 17) hx hb dX5_has_13 (by decide) ?_
      exact z_zretR hx hb hr hlocks rfl rfl (by simp [c_1, c_2]) dX5_has_17

set_option maxHeartbeats 4000000 in
set_option maxRecDepth 100000 in
theorem c_X5_countIn (l : Launch) (g : va_G) (ct : Nat → ClassId) (a0 a1 a2 a3 a4 a5 a6 a7 : Nat) (n : Nat) (wi : Nat → Int32) (cr : Nat → Int64) (ho li co le cs : Nat → Int32) (hn : n ≤ 8) (w : Int32) : Met l yX5_countIn wsX5_countIn (zRm 0 0) (va_Pc [.ref a0, .int w] (zR g ct [zO a0 4 [.int (nI n), .ref a1, .ref a2, .ref a3, .ref a4, .ref a5, .ref a6, .ref a7], zI ct a1 8 wi, zE ct a2 8 cr, zI ct a3 8 ho, zI ct a4 8 li, zI ct a5 8 co, zI ct a6 8 le, zI ct a7 8 cs])) (vp_Si (fun r => r = cntI co w n)) 0 0 (fun _ => False) := by
  refine z_read (cc := cX5_countIn) (maxL := 4) (ret := some .int) (by decide) rfl (Nat.le_of_ble_eq_true rfl) ?_
  intro p e s m below meth c ls hx hb hr hml hts hown hlocks hP hK hl
  have hown : s.vm.findClass RX5 = some m.cls := hown
  have hl : lv_has ls 4 [(0, .ref a0), (1, .int w)] := hl
  have hi_wsX50 : ∀ w ∈ wsX50, w ∈ wsX5_countIn := fun w h => List.mem_cons_of_mem _ (List.mem_append_right _ h)
  refine lv_iconst (v := 0) hx hb dX5_countIn_0 (by decide) ?_
  refine lv_istore_n (lv' := [(2, .int 0), (0, .ref a0), (1, .int w)]) hx hb dX5_countIn_1 rfl hl (by decide) rfl (fun ls hl => ?_)
  refine lv_iconst (v := 0) hx hb dX5_countIn_2 (by decide) ?_
  refine lv_istore_n (lv' := [(3, .int 0), (2, .int 0), (0, .ref a0), (1, .int w)]) hx hb dX5_countIn_3 rfl hl (by decide) rfl (fun ls hl => ?_)
  refine z_loop n (fun k1 H2 locs2 ls => H2 = s.heap ∧ locs2 = [] ∧ lv_has ls 4 [(0, .ref a0), (1, .int w), (2, .int (cntI co w k1)), (3, .int (nI k1))]) ⟨rfl, rfl, lv_sub hl [2, 3, 1, 0] rfl⟩ ?_
  intro k1 H2 locs2 ls hkk1 hI ihk1
  obtain ⟨rfl, rfl, hl⟩ := hI
  refine lv_iload_n hx hb dX5_countIn_4 rfl (lv_at hl 3 rfl) ?_
  refine lv_aload_n hx hb dX5_countIn_5 rfl (lv_at hl 0 rfl) ?_
  refine va_get (D := g) (ci := 4) (v := .int (nI n)) (C := RX5) (T := TX5) (N := 8) hx hb hts hi_wsX50 hown hK hP 0 rfl rfl 0 (by decide) (hts (.fieldLink RX5 34 "FloodBarrier$Sections" "many" "I") (List.mem_of_getElem? (i := 1) rfl)) (fun _ h9 => h9) rfl dX5_countIn_6 ?_
  refine z_icN_ge (x := k1) (y := n) (tgt := 31) hx hb (by omega) (by omega) dX5_countIn_9 (by decide) (fun c_1 => ?_) (fun c_1 => ?_)
  · have hkn : n = k1 := by omega
    subst hkn
    refine lv_iload_n hx hb dX5_countIn_31 rfl (lv_at hl 2 rfl) ?_
    exact z_iretR hx hb hr hlocks rfl rfl dX5_countIn_32
  · refine lv_aload_n hx hb dX5_countIn_12 rfl (lv_at hl 0 rfl) ?_
    refine va_get (D := g) (ci := 4) (v := .ref a5) (C := RX5) (T := TX5) (N := 8) hx hb hts hi_wsX50 hown hK hP 0 rfl rfl 5 (by decide) (hts (.fieldLink RX5 25 "FloodBarrier$Sections" "condition" "[I") (List.mem_of_getElem? (i := 2) rfl)) (fun _ h9 => h9) rfl dX5_countIn_13 ?_
    refine lv_iload_n hx hb dX5_countIn_16 rfl (lv_at hl 3 rfl) ?_
    refine z_iald (ct := ct) (f := co) (k := k1) hx hb hK hP 5 rfl (by omega) (by decide) dX5_countIn_17 ?_
    refine lv_iload_n hx hb dX5_countIn_18 rfl (lv_at hl 1 rfl) ?_
    refine lv_icmp_ne (tgt := 25) hx hb dX5_countIn_19 (by decide) (fun c_2 => ?_) (fun c_2 => ?_)
    · refine lv_iinc (v := nI (k1 + 1)) (lv' := [(3, .int (nI (k1 + 1))), (0, .ref a0), (1, .int w), (2, .int (cntI co w k1))]) hx hb dX5_countIn_25 hl (k := 3) rfl (nI_add k1 1) (by decide) rfl (fun ls hl => ?_)
      refine lv_goto (tgt := 4) hx hb dX5_countIn_28 (by decide) ?_
      exact ihk1 _ _ _ (by omega) ⟨rfl, rfl, (by first | exact lv_sub hl [1, 2, 3, 0] rfl | (simp only [lp_s, cntI, if_pos c_1, if_neg c_2]; exact lv_sub hl [1, 2, 3, 0] rfl))⟩
    · refine lv_iinc (v := (cntI co w k1) + 1) (lv' := [(2, .int ((cntI co w k1) + 1)), (0, .ref a0), (1, .int w), (3, .int (nI k1))]) hx hb dX5_countIn_22 hl (k := 2) rfl rfl (by decide) rfl (fun ls hl => ?_)
      refine lv_iinc (v := nI (k1 + 1)) (lv' := [(3, .int (nI (k1 + 1))), (2, .int ((cntI co w k1) + 1)), (0, .ref a0), (1, .int w)]) hx hb dX5_countIn_25 hl (k := 3) rfl (nI_add k1 1) (by decide) rfl (fun ls hl => ?_)
      refine lv_goto (tgt := 4) hx hb dX5_countIn_28 (by decide) ?_
      exact ihk1 _ _ _ (by omega) ⟨rfl, rfl, (by first | exact lv_sub hl [2, 3, 1, 0] rfl | (simp only [lp_s, cntI, if_pos c_1, if_pos c_2]; exact lv_sub hl [2, 3, 1, 0] rfl))⟩

set_option maxHeartbeats 4000000 in
set_option maxRecDepth 100000 in
theorem c_X5_areAllShut (l : Launch) (g : va_G) (ct : Nat → ClassId) (a0 a1 a2 a3 a4 a5 a6 a7 : Nat) (n : Nat) (wi : Nat → Int32) (cr : Nat → Int64) (ho li co le cs : Nat → Int32) (hn : n ≤ 8) : Met l yX5_areAllShut wsX5_areAllShut (zRm 1 23) (va_Pc [.ref a0] (zR g ct [zO a0 4 [.int (nI n), .ref a1, .ref a2, .ref a3, .ref a4, .ref a5, .ref a6, .ref a7], zI ct a1 8 wi, zE ct a2 8 cr, zI ct a3 8 ho, zI ct a4 8 li, zI ct a5 8 co, zI ct a6 8 le, zI ct a7 8 cs])) (vp_Si (fun r => r = if cntI co 2 n + cntI co 4 n = nI n then 1 else 0)) 0 0 (fun _ => False) := by
  refine z_read (cc := cX5_areAllShut) (maxL := 1) (ret := some .boolean) (by decide) rfl (Nat.le_of_ble_eq_true rfl) ?_
  intro p e s m below meth c ls hx hb hr hml hts hown hlocks hP hK hl
  have hown : s.vm.findClass RX5 = some m.cls := hown
  have hl : lv_has ls 1 [(0, .ref a0)] := hl
  have hi_wsX50 : ∀ w ∈ wsX50, w ∈ wsX5_areAllShut := fun w h => List.mem_cons_of_mem _ (List.mem_append_right _ h)
  refine lv_aload_n hx hb dX5_areAllShut_0 rfl (lv_at hl 0 rfl) ?_
  refine lv_iconst (v := 2) hx hb dX5_areAllShut_1 (by decide) ?_
  refine z_cVi (wc := [zO a0 4 [.int (nI n), .ref a1, .ref a2, .ref a3, .ref a4, .ref a5, .ref a6, .ref a7], zI ct a1 8 wi, zE ct a2 8 cr, zI ct a3 8 ho, zI ct a4 8 li, zI ct a5 8 co, zI ct a6 8 le, zI ct a7 8 cs]) (As := [.int 2]) (rest := []) ⟨hx, hb, hml, hown, hts⟩ hK hP [0, 1, 2, 3, 4, 5, 6, 7] rfl (c_X5_countIn l g ct a0 a1 a2 a3 a4 a5 a6 a7 n wi cr ho li co le cs (by omega) 2) (cwV 1 hts gX5_areAllShut_X5_countIn rfl rfl rfl (by decide +kernel) ⟨Nat.le_of_ble_eq_true rfl, Nat.le_of_ble_eq_true rfl⟩) 0 rfl rfl rfl hl.1 rfl (Nat.le_of_ble_eq_true rfl) dX5_areAllShut_2 ⟨Nat.zero_le _, Nat.zero_le _⟩ ?_
  refine lv_aload_n hx hb dX5_areAllShut_5 rfl (lv_at hl 0 rfl) ?_
  refine lv_iconst (v := 4) hx hb dX5_areAllShut_6 (by decide) ?_
  refine z_cVi (wc := [zO a0 4 [.int (nI n), .ref a1, .ref a2, .ref a3, .ref a4, .ref a5, .ref a6, .ref a7], zI ct a1 8 wi, zE ct a2 8 cr, zI ct a3 8 ho, zI ct a4 8 li, zI ct a5 8 co, zI ct a6 8 le, zI ct a7 8 cs]) (As := [.int 4]) (rest := [.int (cntI co 2 n)]) ⟨hx, hb, hml, hown, hts⟩ hK hP [0, 1, 2, 3, 4, 5, 6, 7] rfl (c_X5_countIn l g ct a0 a1 a2 a3 a4 a5 a6 a7 n wi cr ho li co le cs (by omega) 4) (cwV 1 hts gX5_areAllShut_X5_countIn rfl rfl rfl (by decide +kernel) ⟨Nat.le_of_ble_eq_true rfl, Nat.le_of_ble_eq_true rfl⟩) 0 rfl rfl rfl hl.1 rfl (Nat.le_of_ble_eq_true rfl) dX5_areAllShut_7 ⟨Nat.zero_le _, Nat.zero_le _⟩ ?_
  refine lv_iadd hx hb dX5_areAllShut_10 ?_
  refine lv_aload_n hx hb dX5_areAllShut_11 rfl (lv_at hl 0 rfl) ?_
  refine va_get (D := g) (ci := 4) (v := .int (nI n)) (C := RX5) (T := TX5) (N := 8) hx hb hts hi_wsX50 hown hK hP 0 rfl rfl 0 (by decide) (hts (.fieldLink RX5 34 "FloodBarrier$Sections" "many" "I") (List.mem_of_getElem? (i := 1) rfl)) (fun _ h9 => h9) rfl dX5_areAllShut_12 ?_
  refine lv_icmp_ne (tgt := 22) hx hb dX5_areAllShut_15 (by decide) (fun c_1 => ?_) (fun c_1 => ?_)
  · refine lv_iconst (v := 0) hx hb dX5_areAllShut_22 (by decide) ?_
    exact z_zretR hx hb hr hlocks rfl rfl (by simp [c_1]) dX5_areAllShut_23
  · refine lv_iconst (v := 1) hx hb dX5_areAllShut_18 (by decide) ?_
    refine lv_goto (tgt := 23) hx hb dX5_areAllShut_19 (by decide) ?_
    exact z_zretR hx hb hr hlocks rfl rfl (by simp [c_1]) dX5_areAllShut_23

set_option maxHeartbeats 4000000 in
set_option maxRecDepth 100000 in
theorem c_X5_moving (l : Launch) (g : va_G) (ct : Nat → ClassId) (a0 a1 a2 a3 a4 a5 a6 a7 : Nat) (n : Nat) (wi : Nat → Int32) (cr : Nat → Int64) (ho li co le cs : Nat → Int32) (hn : n ≤ 8) : Met l yX5_moving wsX5_moving (zRm 1 21) (va_Pc [.ref a0] (zR g ct [zO a0 4 [.int (nI n), .ref a1, .ref a2, .ref a3, .ref a4, .ref a5, .ref a6, .ref a7], zI ct a1 8 wi, zE ct a2 8 cr, zI ct a3 8 ho, zI ct a4 8 li, zI ct a5 8 co, zI ct a6 8 le, zI ct a7 8 cs])) (vp_Si (fun r => r = mvI co n)) 0 0 (fun _ => False) := by
  refine z_read (cc := cX5_moving) (maxL := 2) (ret := some .int) (by decide) rfl (Nat.le_of_ble_eq_true rfl) ?_
  intro p e s m below meth c ls hx hb hr hml hts hown hlocks hP hK hl
  have hown : s.vm.findClass RX5 = some m.cls := hown
  have hl : lv_has ls 2 [(0, .ref a0)] := hl
  have hi_wsX50 : ∀ w ∈ wsX50, w ∈ wsX5_moving := fun w h => List.mem_cons_of_mem _ (List.mem_append_right _ h)
  refine lv_iconst (v := 0) hx hb dX5_moving_0 (by decide) ?_
  refine lv_istore_n (lv' := [(1, .int 0), (0, .ref a0)]) hx hb dX5_moving_1 rfl hl (by decide) rfl (fun ls hl => ?_)
  refine z_loop n (fun k1 H2 locs2 ls => H2 = s.heap ∧ locs2 = [] ∧ (∀ j, j < k1 → ¬ (co j = 1 ∨ co j = 3)) ∧ lv_has ls 2 [(0, .ref a0), (1, .int (nI k1))]) ⟨rfl, rfl, (fun j hj => absurd hj (Nat.not_lt_zero j)), lv_sub hl [1, 0] rfl⟩ ?_
  intro k1 H2 locs2 ls hkk1 hI ihk1
  obtain ⟨rfl, rfl, hN, hl⟩ := hI
  refine lv_iload_n hx hb dX5_moving_2 rfl (lv_at hl 1 rfl) ?_
  refine lv_aload_n hx hb dX5_moving_3 rfl (lv_at hl 0 rfl) ?_
  refine va_get (D := g) (ci := 4) (v := .int (nI n)) (C := RX5) (T := TX5) (N := 8) hx hb hts hi_wsX50 hown hK hP 0 rfl rfl 0 (by decide) (hts (.fieldLink RX5 34 "FloodBarrier$Sections" "many" "I") (List.mem_of_getElem? (i := 1) rfl)) (fun _ h9 => h9) rfl dX5_moving_4 ?_
  refine z_icN_ge (x := k1) (y := n) (tgt := 26) hx hb (by omega) (by omega) dX5_moving_7 (by decide) (fun c_1 => ?_) (fun c_1 => ?_)
  · have hkn : n = k1 := by omega
    subst hkn
    refine lv_bipush (v := (-5)) hx hb dX5_moving_26 (by decide) ?_
    exact z_iretR hx hb hr hlocks rfl (fI_none (P := fun k => co k = 1 ∨ co k = 3) hN) dX5_moving_28
  · refine lv_aload_n hx hb dX5_moving_10 rfl (lv_at hl 0 rfl) ?_
    refine lv_iload_n hx hb dX5_moving_11 rfl (lv_at hl 1 rfl) ?_
    refine z_cVi (wc := [zO a0 4 [.int (nI n), .ref a1, .ref a2, .ref a3, .ref a4, .ref a5, .ref a6, .ref a7], zI ct a1 8 wi, zE ct a2 8 cr, zI ct a3 8 ho, zI ct a4 8 li, zI ct a5 8 co, zI ct a6 8 le, zI ct a7 8 cs]) (As := [.int (nI k1)]) (rest := []) ⟨hx, hb, hml, hown, hts⟩ hK hP [0, 1, 2, 3, 4, 5, 6, 7] rfl (c_X5_isMoving l g ct a0 a1 a2 a3 a4 a5 a6 a7 n wi cr ho li co le cs k1 (by omega)) (cwV 1 hts gX5_moving_X5_isMoving rfl rfl rfl (by decide +kernel) ⟨Nat.le_of_ble_eq_true rfl, Nat.le_of_ble_eq_true rfl⟩) 0 rfl rfl rfl hl.1 rfl (Nat.le_of_ble_eq_true rfl) dX5_moving_12 ⟨Nat.zero_le _, Nat.zero_le _⟩ ?_
    refine z_bif_eq (P := (co k1 = 1 ∨ co k1 = 3)) (tgt := 20) hx hb dX5_moving_15 (by decide) (fun c_2 => ?_) (fun c_2 => ?_)
    · refine lv_iinc (v := nI (k1 + 1)) (lv' := [(1, .int (nI (k1 + 1))), (0, .ref a0)]) hx hb dX5_moving_20 hl (k := 1) rfl (nI_add k1 1) (by decide) rfl (fun ls hl => ?_)
      refine lv_goto (tgt := 2) hx hb dX5_moving_23 (by decide) ?_
      exact ihk1 _ _ _ (by omega) ⟨rfl, rfl, (lt_s hN c_2), (by first | exact lv_sub hl [1, 0] rfl | (simp only [lp_s, if_pos c_1, if_neg c_2]; exact lv_sub hl [1, 0] rfl))⟩
    · refine lv_iload_n hx hb dX5_moving_18 rfl (lv_at hl 1 rfl) ?_
      exact z_iretR hx hb hr hlocks rfl (fI_some (P := fun k => co k = 1 ∨ co k = 3) c_1 hN c_2) dX5_moving_19

set_option maxHeartbeats 4000000 in
set_option maxRecDepth 100000 in
theorem c_X5_lowestOpen (l : Launch) (g : va_G) (ct : Nat → ClassId) (a0 a1 a2 a3 a4 a5 a6 a7 : Nat) (n : Nat) (wi : Nat → Int32) (cr : Nat → Int64) (ho li co le cs : Nat → Int32) (hn : n ≤ 8) : Met l yX5_lowestOpen wsX5_lowestOpen (zRm 0 0) (va_Pc [.ref a0] (zR g ct [zO a0 4 [.int (nI n), .ref a1, .ref a2, .ref a3, .ref a4, .ref a5, .ref a6, .ref a7], zI ct a1 8 wi, zE ct a2 8 cr, zI ct a3 8 ho, zI ct a4 8 li, zI ct a5 8 co, zI ct a6 8 le, zI ct a7 8 cs])) (vp_Si (fun r => r = fI (fun k => co k = 0) n)) 0 0 (fun _ => False) := by
  refine z_read (cc := cX5_lowestOpen) (maxL := 2) (ret := some .int) (by decide) rfl (Nat.le_of_ble_eq_true rfl) ?_
  intro p e s m below meth c ls hx hb hr hml hts hown hlocks hP hK hl
  have hown : s.vm.findClass RX5 = some m.cls := hown
  have hl : lv_has ls 2 [(0, .ref a0)] := hl
  have hi_wsX50 : ∀ w ∈ wsX50, w ∈ wsX5_lowestOpen := fun w h => List.mem_cons_of_mem _ (List.mem_append_right _ h)
  refine lv_iconst (v := 0) hx hb dX5_lowestOpen_0 (by decide) ?_
  refine lv_istore_n (lv' := [(1, .int 0), (0, .ref a0)]) hx hb dX5_lowestOpen_1 rfl hl (by decide) rfl (fun ls hl => ?_)
  refine z_loop n (fun k1 H2 locs2 ls => H2 = s.heap ∧ locs2 = [] ∧ (∀ j, j < k1 → ¬ (co j = 0)) ∧ lv_has ls 2 [(0, .ref a0), (1, .int (nI k1))]) ⟨rfl, rfl, (fun j hj => absurd hj (Nat.not_lt_zero j)), lv_sub hl [1, 0] rfl⟩ ?_
  intro k1 H2 locs2 ls hkk1 hI ihk1
  obtain ⟨rfl, rfl, hN, hl⟩ := hI
  refine lv_iload_n hx hb dX5_lowestOpen_2 rfl (lv_at hl 1 rfl) ?_
  refine lv_aload_n hx hb dX5_lowestOpen_3 rfl (lv_at hl 0 rfl) ?_
  refine va_get (D := g) (ci := 4) (v := .int (nI n)) (C := RX5) (T := TX5) (N := 8) hx hb hts hi_wsX50 hown hK hP 0 rfl rfl 0 (by decide) (hts (.fieldLink RX5 34 "FloodBarrier$Sections" "many" "I") (List.mem_of_getElem? (i := 1) rfl)) (fun _ h9 => h9) rfl dX5_lowestOpen_4 ?_
  refine z_icN_ge (x := k1) (y := n) (tgt := 27) hx hb (by omega) (by omega) dX5_lowestOpen_7 (by decide) (fun c_1 => ?_) (fun c_1 => ?_)
  · have hkn : n = k1 := by omega
    subst hkn
    refine lv_bipush (v := (-5)) hx hb dX5_lowestOpen_27 (by decide) ?_
    exact z_iretR hx hb hr hlocks rfl (fI_none (P := fun k => co k = 0) hN) dX5_lowestOpen_29
  · refine lv_aload_n hx hb dX5_lowestOpen_10 rfl (lv_at hl 0 rfl) ?_
    refine va_get (D := g) (ci := 4) (v := .ref a5) (C := RX5) (T := TX5) (N := 8) hx hb hts hi_wsX50 hown hK hP 0 rfl rfl 5 (by decide) (hts (.fieldLink RX5 25 "FloodBarrier$Sections" "condition" "[I") (List.mem_of_getElem? (i := 2) rfl)) (fun _ h9 => h9) rfl dX5_lowestOpen_11 ?_
    refine lv_iload_n hx hb dX5_lowestOpen_14 rfl (lv_at hl 1 rfl) ?_
    refine z_iald (ct := ct) (f := co) (k := k1) hx hb hK hP 5 rfl (by omega) (by decide) dX5_lowestOpen_15 ?_
    refine lv_if_ne (tgt := 21) hx hb dX5_lowestOpen_16 (by decide) (fun c_2 => ?_) (fun c_2 => ?_)
    · refine lv_iinc (v := nI (k1 + 1)) (lv' := [(1, .int (nI (k1 + 1))), (0, .ref a0)]) hx hb dX5_lowestOpen_21 hl (k := 1) rfl (nI_add k1 1) (by decide) rfl (fun ls hl => ?_)
      refine lv_goto (tgt := 2) hx hb dX5_lowestOpen_24 (by decide) ?_
      exact ihk1 _ _ _ (by omega) ⟨rfl, rfl, (lt_s hN c_2), (by first | exact lv_sub hl [1, 0] rfl | (simp only [lp_s, if_pos c_1, if_neg c_2]; exact lv_sub hl [1, 0] rfl))⟩
    · refine lv_iload_n hx hb dX5_lowestOpen_19 rfl (lv_at hl 1 rfl) ?_
      exact z_iretR hx hb hr hlocks rfl (fI_some (P := fun k => co k = 0) c_1 hN c_2) dX5_lowestOpen_20

set_option maxHeartbeats 4000000 in
set_option maxRecDepth 100000 in
theorem c_X5_highestClosed (l : Launch) (g : va_G) (ct : Nat → ClassId) (a0 a1 a2 a3 a4 a5 a6 a7 : Nat) (n : Nat) (wi : Nat → Int32) (cr : Nat → Int64) (ho li co le cs : Nat → Int32) (hn : n ≤ 8) : Met l yX5_highestClosed wsX5_highestClosed (zRm 1 21) (va_Pc [.ref a0] (zR g ct [zO a0 4 [.int (nI n), .ref a1, .ref a2, .ref a3, .ref a4, .ref a5, .ref a6, .ref a7], zI ct a1 8 wi, zE ct a2 8 cr, zI ct a3 8 ho, zI ct a4 8 li, zI ct a5 8 co, zI ct a6 8 le, zI ct a7 8 cs])) (vp_Si (fun r => r = lI (fun k => co k = 2) n)) 0 0 (fun _ => False) := by
  refine z_read (cc := cX5_highestClosed) (maxL := 2) (ret := some .int) (by decide) rfl (Nat.le_of_ble_eq_true rfl) ?_
  intro p e s m below meth c ls hx hb hr hml hts hown hlocks hP hK hl
  have hown : s.vm.findClass RX5 = some m.cls := hown
  have hl : lv_has ls 2 [(0, .ref a0)] := hl
  have hi_wsX50 : ∀ w ∈ wsX50, w ∈ wsX5_highestClosed := fun w h => List.mem_cons_of_mem _ (List.mem_append_right _ h)
  refine lv_aload_n hx hb dX5_highestClosed_0 rfl (lv_at hl 0 rfl) ?_
  refine va_get (D := g) (ci := 4) (v := .int (nI n)) (C := RX5) (T := TX5) (N := 8) hx hb hts hi_wsX50 hown hK hP 0 rfl rfl 0 (by decide) (hts (.fieldLink RX5 34 "FloodBarrier$Sections" "many" "I") (List.mem_of_getElem? (i := 1) rfl)) (fun _ h9 => h9) rfl dX5_highestClosed_1 ?_
  refine lv_iconst (v := 1) hx hb dX5_highestClosed_4 (by decide) ?_
  refine lv_isub hx hb dX5_highestClosed_5 ?_
  rw [show nI n - 1 = nI (n - 0) + (-1) from Int32.sub_eq_add_neg (nI n) 1]
  refine lv_istore_n (lv' := [(1, .int (nI (n - 0) + (-1))), (0, .ref a0)]) hx hb dX5_highestClosed_6 rfl hl (by decide) rfl (fun ls hl => ?_)
  refine z_loop n (fun k1 H2 locs2 ls => H2 = s.heap ∧ locs2 = [] ∧ (∀ j, j < k1 → ¬ (co (n - 1 - j) = 2)) ∧ lv_has ls 2 [(0, .ref a0), (1, .int (nI (n - k1) + (-1)))]) ⟨rfl, rfl, (fun j hj => absurd hj (Nat.not_lt_zero j)), lv_sub hl [1, 0] rfl⟩ ?_
  intro k1 H2 locs2 ls hkk1 hI ihk1
  obtain ⟨rfl, rfl, hN, hl⟩ := hI
  refine lv_iload_n hx hb dX5_highestClosed_7 rfl (lv_at hl 1 rfl) ?_
  refine lv_if_lt (tgt := 27) hx hb dX5_highestClosed_8 (by decide) (fun c_1 => ?_) (fun c_1 => ?_)
  · have hkn : n = k1 := z_dn0 hkk1 (by omega) c_1
    subst hkn
    refine lv_bipush (v := (-5)) hx hb dX5_highestClosed_27 (by decide) ?_
    exact z_iretR hx hb hr hlocks rfl (lI_none (P := fun k => co k = 2) hN) dX5_highestClosed_29
  · obtain ⟨hlt, hz⟩ := z_dn hkk1 (by omega) c_1
    rw [hz] at hl
    refine lv_aload_n hx hb dX5_highestClosed_11 rfl (lv_at hl 0 rfl) ?_
    refine lv_iload_n hx hb dX5_highestClosed_12 rfl (lv_at hl 1 rfl) ?_
    refine z_cVi (wc := [zO a0 4 [.int (nI n), .ref a1, .ref a2, .ref a3, .ref a4, .ref a5, .ref a6, .ref a7], zI ct a1 8 wi, zE ct a2 8 cr, zI ct a3 8 ho, zI ct a4 8 li, zI ct a5 8 co, zI ct a6 8 le, zI ct a7 8 cs]) (As := [.int (nI (n - 1 - k1))]) (rest := []) ⟨hx, hb, hml, hown, hts⟩ hK hP [0, 1, 2, 3, 4, 5, 6, 7] rfl (c_X5_isClosed l g ct a0 a1 a2 a3 a4 a5 a6 a7 n wi cr ho li co le cs (n - 1 - k1) (by omega)) (cwV 1 hts gX5_highestClosed_X5_isClosed rfl rfl rfl (by decide +kernel) ⟨Nat.le_of_ble_eq_true rfl, Nat.le_of_ble_eq_true rfl⟩) 0 rfl rfl rfl hl.1 rfl (Nat.le_of_ble_eq_true rfl) dX5_highestClosed_13 ⟨Nat.zero_le _, Nat.zero_le _⟩ ?_
    refine z_bif_eq (P := (co (n - 1 - k1) = 2)) (tgt := 21) hx hb dX5_highestClosed_16 (by decide) (fun c_2 => ?_) (fun c_2 => ?_)
    · refine lv_iinc (v := (nI (n - 1 - k1)) + (-1)) (lv' := [(1, .int ((nI (n - 1 - k1)) + (-1))), (0, .ref a0)]) hx hb dX5_highestClosed_21 hl (k := 1) rfl rfl (by decide) rfl (fun ls hl => ?_)
      refine lv_goto (tgt := 7) hx hb dX5_highestClosed_24 (by decide) ?_
      exact ihk1 _ _ _ (by omega) ⟨rfl, rfl, (lt_s hN c_2), (by rw [show n - (k1 + 1) = n - 1 - k1 by omega]; exact lv_sub hl [1, 0] rfl)⟩
    · refine lv_iload_n hx hb dX5_highestClosed_19 rfl (lv_at hl 1 rfl) ?_
      exact z_iretR hx hb hr hlocks rfl (lI_some (P := fun k => co k = 2) hlt hN c_2) dX5_highestClosed_20

set_option maxHeartbeats 4000000 in
set_option maxRecDepth 100000 in
theorem c_X5_renew (l : Launch) (g : va_G) (ct : Nat → ClassId) (sz : Nat) (a0 a1 a2 a3 a4 a5 a6 a7 : Nat) (n : Nat) (wi : Nat → Int32) (cr : Nat → Int64) (ho li co le cs : Nat → Int32) (k : Nat) (hk : k < 8) : Met l yX5_renew wsX5_renew (zRm 0 0) (va_Pc [.ref a0, .int (nI k)] (zW g ct [zO a0 4 [.int (nI n), .ref a1, .ref a2, .ref a3, .ref a4, .ref a5, .ref a6, .ref a7], zI ct a1 8 wi, zE ct a2 8 cr, zI ct a3 8 ho, zI ct a4 8 li, zI ct a5 8 co, zI ct a6 8 le, zI ct a7 8 cs] sz)) (zQv g [zO a0 4 [.int (nI n), .ref a1, .ref a2, .ref a3, .ref a4, .ref a5, .ref a6, .ref a7], zI ct a1 8 wi, zE ct a2 8 cr, zI ct a3 8 ho, zI ct a4 8 li, zI ct a5 8 (upd co k 0), zI ct a6 8 le, zI ct a7 8 (upd cs k 0)] (va_A [zO a0 4 [.int (nI n), .ref a1, .ref a2, .ref a3, .ref a4, .ref a5, .ref a6, .ref a7], zI ct a1 8 wi, zE ct a2 8 cr, zI ct a3 8 ho, zI ct a4 8 li, zI ct a5 8 co, zI ct a6 8 le, zI ct a7 8 cs] sz)) 0 0 (va_A [zO a0 4 [.int (nI n), .ref a1, .ref a2, .ref a3, .ref a4, .ref a5, .ref a6, .ref a7], zI ct a1 8 wi, zE ct a2 8 cr, zI ct a3 8 ho, zI ct a4 8 li, zI ct a5 8 co, zI ct a6 8 le, zI ct a7 8 cs] sz) := by
  refine z_write (QA := zQv g [zO a0 4 [.int (nI n), .ref a1, .ref a2, .ref a3, .ref a4, .ref a5, .ref a6, .ref a7], zI ct a1 8 wi, zE ct a2 8 cr, zI ct a3 8 ho, zI ct a4 8 li, zI ct a5 8 (upd co k 0), zI ct a6 8 le, zI ct a7 8 (upd cs k 0)]) (cc := cX5_renew) (maxL := 2) (ret := none) (by decide) rfl (Nat.le_of_ble_eq_true rfl) ?_
  intro p e s m below meth c ls A hx hb hr hml hts hown hlocks hin hP hK hD hNW hA hS hl
  have hown : s.vm.findClass RX5 = some m.cls := hown
  have hl : lv_has ls 2 [(0, .ref a0), (1, .int (nI k))] := hl
  have hi_wsX50 : ∀ w ∈ wsX50, w ∈ wsX5_renew := fun w h => List.mem_cons_of_mem _ (List.mem_append_right _ h)
  refine lv_aload_n hx hb dX5_renew_0 rfl (lv_at hl 0 rfl) ?_
  refine va_get (D := g) (ci := 4) (v := .ref a5) (C := RX5) (T := TX5) (N := 8) hx hb hts hi_wsX50 hown hK hP 0 rfl rfl 5 (by decide) (hts (.fieldLink RX5 25 "FloodBarrier$Sections" "condition" "[I") (List.mem_of_getElem? (i := 1) rfl)) (fun _ h9 => h9) rfl dX5_renew_1 ?_
  refine lv_iload_n hx hb dX5_renew_4 rfl (lv_at hl 1 rfl) ?_
  refine lv_iconst (v := 0) hx hb dX5_renew_5 (by decide) ?_
  refine z_iast (ct := ct) (f := co) (k := k) (x := 0) hx hb hK hP hD hS 5 rfl (by omega) (by decide) dX5_renew_6 (fun H locs hP hD hS => ?_)
  have hP : va_P g vwCl [zO a0 4 [.int (nI n), .ref a1, .ref a2, .ref a3, .ref a4, .ref a5, .ref a6, .ref a7], zI ct a1 8 wi, zE ct a2 8 cr, zI ct a3 8 ho, zI ct a4 8 li, zI ct a5 8 (upd co k 0), zI ct a6 8 le, zI ct a7 8 cs] H := hP
  have hD : va_D A [zO a0 4 [.int (nI n), .ref a1, .ref a2, .ref a3, .ref a4, .ref a5, .ref a6, .ref a7], zI ct a1 8 wi, zE ct a2 8 cr, zI ct a3 8 ho, zI ct a4 8 li, zI ct a5 8 (upd co k 0), zI ct a6 8 le, zI ct a7 8 cs] := hD
  refine lv_aload_n hx hb dX5_renew_7 rfl (lv_at hl 0 rfl) ?_
  refine va_get (D := g) (ci := 4) (v := .ref a7) (C := RX5) (T := TX5) (N := 8) hx hb hts hi_wsX50 hown hK hP 0 rfl rfl 7 (by decide) (hts (.fieldLink RX5 31 "FloodBarrier$Sections" "closings" "[I") (List.mem_of_getElem? (i := 2) rfl)) (fun _ h9 => h9) rfl dX5_renew_8 ?_
  refine lv_iload_n hx hb dX5_renew_11 rfl (lv_at hl 1 rfl) ?_
  refine lv_iconst (v := 0) hx hb dX5_renew_12 (by decide) ?_
  refine z_iast (ct := ct) (f := cs) (k := k) (x := 0) hx hb hK hP hD hS 7 rfl (by omega) (by decide) dX5_renew_13 (fun H locs hP hD hS => ?_)
  have hP : va_P g vwCl [zO a0 4 [.int (nI n), .ref a1, .ref a2, .ref a3, .ref a4, .ref a5, .ref a6, .ref a7], zI ct a1 8 wi, zE ct a2 8 cr, zI ct a3 8 ho, zI ct a4 8 li, zI ct a5 8 (upd co k 0), zI ct a6 8 le, zI ct a7 8 (upd cs k 0)] H := hP
  have hD : va_D A [zO a0 4 [.int (nI n), .ref a1, .ref a2, .ref a3, .ref a4, .ref a5, .ref a6, .ref a7], zI ct a1 8 wi, zE ct a2 8 cr, zI ct a3 8 ho, zI ct a4 8 li, zI ct a5 8 (upd co k 0), zI ct a6 8 le, zI ct a7 8 (upd cs k 0)] := hD
  exact z_vretW hx hb hr hlocks hS hP hD rfl (Nat.le_refl _) (Nat.le_refl _) dX5_renew_14

set_option maxHeartbeats 4000000 in
set_option maxRecDepth 100000 in
theorem c_X5_startOpening (l : Launch) (g : va_G) (ct : Nat → ClassId) (sz : Nat) (a0 a1 a2 a3 a4 a5 a6 a7 : Nat) (n : Nat) (wi : Nat → Int32) (cr : Nat → Int64) (ho li co le cs : Nat → Int32) (k : Nat) (hk : k < 8) : Met l yX5_startOpening wsX5_startOpening (zRm 0 0) (va_Pc [.ref a0, .int (nI k)] (zW g ct [zO a0 4 [.int (nI n), .ref a1, .ref a2, .ref a3, .ref a4, .ref a5, .ref a6, .ref a7], zI ct a1 8 wi, zE ct a2 8 cr, zI ct a3 8 ho, zI ct a4 8 li, zI ct a5 8 co, zI ct a6 8 le, zI ct a7 8 cs] sz)) (zQv g [zO a0 4 [.int (nI n), .ref a1, .ref a2, .ref a3, .ref a4, .ref a5, .ref a6, .ref a7], zI ct a1 8 wi, zE ct a2 8 cr, zI ct a3 8 ho, zI ct a4 8 li, zI ct a5 8 (upd co k 3), zI ct a6 8 (upd le k (ho k)), zI ct a7 8 cs] (va_A [zO a0 4 [.int (nI n), .ref a1, .ref a2, .ref a3, .ref a4, .ref a5, .ref a6, .ref a7], zI ct a1 8 wi, zE ct a2 8 cr, zI ct a3 8 ho, zI ct a4 8 li, zI ct a5 8 co, zI ct a6 8 le, zI ct a7 8 cs] sz)) 0 0 (va_A [zO a0 4 [.int (nI n), .ref a1, .ref a2, .ref a3, .ref a4, .ref a5, .ref a6, .ref a7], zI ct a1 8 wi, zE ct a2 8 cr, zI ct a3 8 ho, zI ct a4 8 li, zI ct a5 8 co, zI ct a6 8 le, zI ct a7 8 cs] sz) := by
  refine z_write (QA := zQv g [zO a0 4 [.int (nI n), .ref a1, .ref a2, .ref a3, .ref a4, .ref a5, .ref a6, .ref a7], zI ct a1 8 wi, zE ct a2 8 cr, zI ct a3 8 ho, zI ct a4 8 li, zI ct a5 8 (upd co k 3), zI ct a6 8 (upd le k (ho k)), zI ct a7 8 cs]) (cc := cX5_startOpening) (maxL := 2) (ret := none) (by decide) rfl (Nat.le_of_ble_eq_true rfl) ?_
  intro p e s m below meth c ls A hx hb hr hml hts hown hlocks hin hP hK hD hNW hA hS hl
  have hown : s.vm.findClass RX5 = some m.cls := hown
  have hl : lv_has ls 2 [(0, .ref a0), (1, .int (nI k))] := hl
  have hi_wsX50 : ∀ w ∈ wsX50, w ∈ wsX5_startOpening := fun w h => List.mem_cons_of_mem _ (List.mem_append_right _ h)
  refine lv_aload_n hx hb dX5_startOpening_0 rfl (lv_at hl 0 rfl) ?_
  refine va_get (D := g) (ci := 4) (v := .ref a5) (C := RX5) (T := TX5) (N := 8) hx hb hts hi_wsX50 hown hK hP 0 rfl rfl 5 (by decide) (hts (.fieldLink RX5 25 "FloodBarrier$Sections" "condition" "[I") (List.mem_of_getElem? (i := 1) rfl)) (fun _ h9 => h9) rfl dX5_startOpening_1 ?_
  refine lv_iload_n hx hb dX5_startOpening_4 rfl (lv_at hl 1 rfl) ?_
  refine lv_iconst (v := 3) hx hb dX5_startOpening_5 (by decide) ?_
  refine z_iast (ct := ct) (f := co) (k := k) (x := 3) hx hb hK hP hD hS 5 rfl (by omega) (by decide) dX5_startOpening_6 (fun H locs hP hD hS => ?_)
  have hP : va_P g vwCl [zO a0 4 [.int (nI n), .ref a1, .ref a2, .ref a3, .ref a4, .ref a5, .ref a6, .ref a7], zI ct a1 8 wi, zE ct a2 8 cr, zI ct a3 8 ho, zI ct a4 8 li, zI ct a5 8 (upd co k 3), zI ct a6 8 le, zI ct a7 8 cs] H := hP
  have hD : va_D A [zO a0 4 [.int (nI n), .ref a1, .ref a2, .ref a3, .ref a4, .ref a5, .ref a6, .ref a7], zI ct a1 8 wi, zE ct a2 8 cr, zI ct a3 8 ho, zI ct a4 8 li, zI ct a5 8 (upd co k 3), zI ct a6 8 le, zI ct a7 8 cs] := hD
  refine lv_aload_n hx hb dX5_startOpening_7 rfl (lv_at hl 0 rfl) ?_
  refine va_get (D := g) (ci := 4) (v := .ref a6) (C := RX5) (T := TX5) (N := 8) hx hb hts hi_wsX50 hown hK hP 0 rfl rfl 6 (by decide) (hts (.fieldLink RX5 28 "FloodBarrier$Sections" "left" "[I") (List.mem_of_getElem? (i := 2) rfl)) (fun _ h9 => h9) rfl dX5_startOpening_8 ?_
  refine lv_iload_n hx hb dX5_startOpening_11 rfl (lv_at hl 1 rfl) ?_
  refine lv_aload_n hx hb dX5_startOpening_12 rfl (lv_at hl 0 rfl) ?_
  refine va_get (D := g) (ci := 4) (v := .ref a3) (C := RX5) (T := TX5) (N := 8) hx hb hts hi_wsX50 hown hK hP 0 rfl rfl 3 (by decide) (hts (.fieldLink RX5 19 "FloodBarrier$Sections" "hours" "[I") (List.mem_of_getElem? (i := 3) rfl)) (fun _ h9 => h9) rfl dX5_startOpening_13 ?_
  refine lv_iload_n hx hb dX5_startOpening_16 rfl (lv_at hl 1 rfl) ?_
  refine z_iald (ct := ct) (f := ho) (k := k) hx hb hK hP 3 rfl (by omega) (by decide) dX5_startOpening_17 ?_
  refine z_iast (ct := ct) (f := le) (k := k) (x := (ho k)) hx hb hK hP hD hS 6 rfl (by omega) (by decide) dX5_startOpening_18 (fun H locs hP hD hS => ?_)
  have hP : va_P g vwCl [zO a0 4 [.int (nI n), .ref a1, .ref a2, .ref a3, .ref a4, .ref a5, .ref a6, .ref a7], zI ct a1 8 wi, zE ct a2 8 cr, zI ct a3 8 ho, zI ct a4 8 li, zI ct a5 8 (upd co k 3), zI ct a6 8 (upd le k (ho k)), zI ct a7 8 cs] H := hP
  have hD : va_D A [zO a0 4 [.int (nI n), .ref a1, .ref a2, .ref a3, .ref a4, .ref a5, .ref a6, .ref a7], zI ct a1 8 wi, zE ct a2 8 cr, zI ct a3 8 ho, zI ct a4 8 li, zI ct a5 8 (upd co k 3), zI ct a6 8 (upd le k (ho k)), zI ct a7 8 cs] := hD
  exact z_vretW hx hb hr hlocks hS hP hD rfl (Nat.le_refl _) (Nat.le_refl _) dX5_startOpening_19

set_option maxHeartbeats 4000000 in
set_option maxRecDepth 100000 in
theorem c_X5_startClosing (l : Launch) (g : va_G) (ct : Nat → ClassId) (sz : Nat) (a0 a1 a2 a3 a4 a5 a6 a7 : Nat) (n : Nat) (wi : Nat → Int32) (cr : Nat → Int64) (ho li co le cs : Nat → Int32) (k : Nat) (hk : k < 8) : Met l yX5_startClosing wsX5_startClosing (zRm 0 0) (va_Pc [.ref a0, .int (nI k)] (zW g ct [zO a0 4 [.int (nI n), .ref a1, .ref a2, .ref a3, .ref a4, .ref a5, .ref a6, .ref a7], zI ct a1 8 wi, zE ct a2 8 cr, zI ct a3 8 ho, zI ct a4 8 li, zI ct a5 8 co, zI ct a6 8 le, zI ct a7 8 cs] sz)) (zQi g [zO a0 4 [.int (nI n), .ref a1, .ref a2, .ref a3, .ref a4, .ref a5, .ref a6, .ref a7], zI ct a1 8 wi, zE ct a2 8 cr, zI ct a3 8 ho, zI ct a4 8 li, zI ct a5 8 (if cs k < li k then upd co k 1 else upd co k 4), zI ct a6 8 (if cs k < li k then upd le k (ho k) else le), zI ct a7 8 cs] (if ¬ cs k < li k then 1 else 0) (va_A [zO a0 4 [.int (nI n), .ref a1, .ref a2, .ref a3, .ref a4, .ref a5, .ref a6, .ref a7], zI ct a1 8 wi, zE ct a2 8 cr, zI ct a3 8 ho, zI ct a4 8 li, zI ct a5 8 co, zI ct a6 8 le, zI ct a7 8 cs] sz)) 0 0 (va_A [zO a0 4 [.int (nI n), .ref a1, .ref a2, .ref a3, .ref a4, .ref a5, .ref a6, .ref a7], zI ct a1 8 wi, zE ct a2 8 cr, zI ct a3 8 ho, zI ct a4 8 li, zI ct a5 8 co, zI ct a6 8 le, zI ct a7 8 cs] sz) := by
  refine z_write (QA := zQi g [zO a0 4 [.int (nI n), .ref a1, .ref a2, .ref a3, .ref a4, .ref a5, .ref a6, .ref a7], zI ct a1 8 wi, zE ct a2 8 cr, zI ct a3 8 ho, zI ct a4 8 li, zI ct a5 8 (if cs k < li k then upd co k 1 else upd co k 4), zI ct a6 8 (if cs k < li k then upd le k (ho k) else le), zI ct a7 8 cs] (if ¬ cs k < li k then 1 else 0)) (cc := cX5_startClosing) (maxL := 2) (ret := some .boolean) (by decide) rfl (Nat.le_of_ble_eq_true rfl) ?_
  intro p e s m below meth c ls A hx hb hr hml hts hown hlocks hin hP hK hD hNW hA hS hl
  have hown : s.vm.findClass RX5 = some m.cls := hown
  have hl : lv_has ls 2 [(0, .ref a0), (1, .int (nI k))] := hl
  have hi_wsX50 : ∀ w ∈ wsX50, w ∈ wsX5_startClosing := fun w h => List.mem_cons_of_mem _ (List.mem_append_right _ h)
  refine lv_aload_n hx hb dX5_startClosing_0 rfl (lv_at hl 0 rfl) ?_
  refine va_get (D := g) (ci := 4) (v := .ref a7) (C := RX5) (T := TX5) (N := 8) hx hb hts hi_wsX50 hown hK hP 0 rfl rfl 7 (by decide) (hts (.fieldLink RX5 31 "FloodBarrier$Sections" "closings" "[I") (List.mem_of_getElem? (i := 1) rfl)) (fun _ h9 => h9) rfl dX5_startClosing_1 ?_
  refine lv_iload_n hx hb dX5_startClosing_4 rfl (lv_at hl 1 rfl) ?_
  refine z_iald (ct := ct) (f := cs) (k := k) hx hb hK hP 7 rfl (by omega) (by decide) dX5_startClosing_5 ?_
  refine lv_aload_n hx hb dX5_startClosing_6 rfl (lv_at hl 0 rfl) ?_
  refine va_get (D := g) (ci := 4) (v := .ref a4) (C := RX5) (T := TX5) (N := 8) hx hb hts hi_wsX50 hown hK hP 0 rfl rfl 4 (by decide) (hts (.fieldLink RX5 22 "FloodBarrier$Sections" "life" "[I") (List.mem_of_getElem? (i := 2) rfl)) (fun _ h9 => h9) rfl dX5_startClosing_7 ?_
  refine lv_iload_n hx hb dX5_startClosing_10 rfl (lv_at hl 1 rfl) ?_
  refine z_iald (ct := ct) (f := li) (k := k) hx hb hK hP 4 rfl (by omega) (by decide) dX5_startClosing_11 ?_
  refine lv_icmp_lt (tgt := 24) hx hb dX5_startClosing_12 (by decide) (fun c_1 => ?_) (fun c_1 => ?_)
  · refine lv_aload_n hx hb dX5_startClosing_24 rfl (lv_at hl 0 rfl) ?_
    refine va_get (D := g) (ci := 4) (v := .ref a5) (C := RX5) (T := TX5) (N := 8) hx hb hts hi_wsX50 hown hK hP 0 rfl rfl 5 (by decide) (hts (.fieldLink RX5 25 "FloodBarrier$Sections" "condition" "[I") (List.mem_of_getElem? (i := 3) rfl)) (fun _ h9 => h9) rfl dX5_startClosing_25 ?_
    refine lv_iload_n hx hb dX5_startClosing_28 rfl (lv_at hl 1 rfl) ?_
    refine lv_iconst (v := 1) hx hb dX5_startClosing_29 (by decide) ?_
    refine z_iast (ct := ct) (f := co) (k := k) (x := 1) hx hb hK hP hD hS 5 rfl (by omega) (by decide) dX5_startClosing_30 (fun H locs hP hD hS => ?_)
    have hP : va_P g vwCl [zO a0 4 [.int (nI n), .ref a1, .ref a2, .ref a3, .ref a4, .ref a5, .ref a6, .ref a7], zI ct a1 8 wi, zE ct a2 8 cr, zI ct a3 8 ho, zI ct a4 8 li, zI ct a5 8 (upd co k 1), zI ct a6 8 le, zI ct a7 8 cs] H := hP
    have hD : va_D A [zO a0 4 [.int (nI n), .ref a1, .ref a2, .ref a3, .ref a4, .ref a5, .ref a6, .ref a7], zI ct a1 8 wi, zE ct a2 8 cr, zI ct a3 8 ho, zI ct a4 8 li, zI ct a5 8 (upd co k 1), zI ct a6 8 le, zI ct a7 8 cs] := hD
    refine lv_aload_n hx hb dX5_startClosing_31 rfl (lv_at hl 0 rfl) ?_
    refine va_get (D := g) (ci := 4) (v := .ref a6) (C := RX5) (T := TX5) (N := 8) hx hb hts hi_wsX50 hown hK hP 0 rfl rfl 6 (by decide) (hts (.fieldLink RX5 28 "FloodBarrier$Sections" "left" "[I") (List.mem_of_getElem? (i := 4) rfl)) (fun _ h9 => h9) rfl dX5_startClosing_32 ?_
    refine lv_iload_n hx hb dX5_startClosing_35 rfl (lv_at hl 1 rfl) ?_
    refine lv_aload_n hx hb dX5_startClosing_36 rfl (lv_at hl 0 rfl) ?_
    refine va_get (D := g) (ci := 4) (v := .ref a3) (C := RX5) (T := TX5) (N := 8) hx hb hts hi_wsX50 hown hK hP 0 rfl rfl 3 (by decide) (hts (.fieldLink RX5 19 "FloodBarrier$Sections" "hours" "[I") (List.mem_of_getElem? (i := 5) rfl)) (fun _ h9 => h9) rfl dX5_startClosing_37 ?_
    refine lv_iload_n hx hb dX5_startClosing_40 rfl (lv_at hl 1 rfl) ?_
    refine z_iald (ct := ct) (f := ho) (k := k) hx hb hK hP 3 rfl (by omega) (by decide) dX5_startClosing_41 ?_
    refine z_iast (ct := ct) (f := le) (k := k) (x := (ho k)) hx hb hK hP hD hS 6 rfl (by omega) (by decide) dX5_startClosing_42 (fun H locs hP hD hS => ?_)
    have hP : va_P g vwCl [zO a0 4 [.int (nI n), .ref a1, .ref a2, .ref a3, .ref a4, .ref a5, .ref a6, .ref a7], zI ct a1 8 wi, zE ct a2 8 cr, zI ct a3 8 ho, zI ct a4 8 li, zI ct a5 8 (upd co k 1), zI ct a6 8 (upd le k (ho k)), zI ct a7 8 cs] H := hP
    have hD : va_D A [zO a0 4 [.int (nI n), .ref a1, .ref a2, .ref a3, .ref a4, .ref a5, .ref a6, .ref a7], zI ct a1 8 wi, zE ct a2 8 cr, zI ct a3 8 ho, zI ct a4 8 li, zI ct a5 8 (upd co k 1), zI ct a6 8 (upd le k (ho k)), zI ct a7 8 cs] := hD
    refine lv_iconst (v := 0) hx hb dX5_startClosing_43 (by decide) ?_
    exact z_zretW hx hb hr hlocks rfl hS hP hD (by first | rfl | (simp only [if_pos c_1]) | (simp [c_1])) (by first | rfl | (simp only [if_pos c_1]) | (simp [c_1])) (Nat.le_refl _) (Nat.le_refl _) dX5_startClosing_44
  · refine lv_aload_n hx hb dX5_startClosing_15 rfl (lv_at hl 0 rfl) ?_
    refine va_get (D := g) (ci := 4) (v := .ref a5) (C := RX5) (T := TX5) (N := 8) hx hb hts hi_wsX50 hown hK hP 0 rfl rfl 5 (by decide) (hts (.fieldLink RX5 25 "FloodBarrier$Sections" "condition" "[I") (List.mem_of_getElem? (i := 3) rfl)) (fun _ h9 => h9) rfl dX5_startClosing_16 ?_
    refine lv_iload_n hx hb dX5_startClosing_19 rfl (lv_at hl 1 rfl) ?_
    refine lv_iconst (v := 4) hx hb dX5_startClosing_20 (by decide) ?_
    refine z_iast (ct := ct) (f := co) (k := k) (x := 4) hx hb hK hP hD hS 5 rfl (by omega) (by decide) dX5_startClosing_21 (fun H locs hP hD hS => ?_)
    have hP : va_P g vwCl [zO a0 4 [.int (nI n), .ref a1, .ref a2, .ref a3, .ref a4, .ref a5, .ref a6, .ref a7], zI ct a1 8 wi, zE ct a2 8 cr, zI ct a3 8 ho, zI ct a4 8 li, zI ct a5 8 (upd co k 4), zI ct a6 8 le, zI ct a7 8 cs] H := hP
    have hD : va_D A [zO a0 4 [.int (nI n), .ref a1, .ref a2, .ref a3, .ref a4, .ref a5, .ref a6, .ref a7], zI ct a1 8 wi, zE ct a2 8 cr, zI ct a3 8 ho, zI ct a4 8 li, zI ct a5 8 (upd co k 4), zI ct a6 8 le, zI ct a7 8 cs] := hD
    refine lv_iconst (v := 1) hx hb dX5_startClosing_22 (by decide) ?_
    exact z_zretW hx hb hr hlocks rfl hS hP hD (by first | rfl | (simp only [if_neg c_1]) | (simp [c_1])) (by first | rfl | (simp only [if_neg c_1]) | (simp [c_1])) (Nat.le_refl _) (Nat.le_refl _) dX5_startClosing_23

set_option maxHeartbeats 4000000 in
set_option maxRecDepth 100000 in
theorem c_X5_add (l : Launch) (g : va_G) (ct : Nat → ClassId) (sz : Nat) (a0 a1 a2 a3 a4 a5 a6 a7 : Nat) (n : Nat) (wi : Nat → Int32) (cr : Nat → Int64) (ho li co le cs : Nat → Int32) (hn : n < 8) (x : Int32) (y : Int64) (z u : Int32) : Met l yX5_add wsX5_add (zRm 0 0) (va_Pc [.ref a0, .int x, .double y.toUInt64, .int z, .int u] (zW g ct [zO a0 4 [.int (nI n), .ref a1, .ref a2, .ref a3, .ref a4, .ref a5, .ref a6, .ref a7], zI ct a1 8 wi, zE ct a2 8 cr, zI ct a3 8 ho, zI ct a4 8 li, zI ct a5 8 co, zI ct a6 8 le, zI ct a7 8 cs] sz)) (zQi g [zO a0 4 [.int (nI (n + 1)), .ref a1, .ref a2, .ref a3, .ref a4, .ref a5, .ref a6, .ref a7], zI ct a1 8 (upd wi n x), zE ct a2 8 (vp_updL cr n y), zI ct a3 8 (upd ho n z), zI ct a4 8 (upd li n u), zI ct a5 8 (upd co n 0), zI ct a6 8 (upd le n 0), zI ct a7 8 (upd cs n 0)] (nI n) (va_A [zO a0 4 [.int (nI n), .ref a1, .ref a2, .ref a3, .ref a4, .ref a5, .ref a6, .ref a7], zI ct a1 8 wi, zE ct a2 8 cr, zI ct a3 8 ho, zI ct a4 8 li, zI ct a5 8 co, zI ct a6 8 le, zI ct a7 8 cs] sz)) 0 0 (va_A [zO a0 4 [.int (nI n), .ref a1, .ref a2, .ref a3, .ref a4, .ref a5, .ref a6, .ref a7], zI ct a1 8 wi, zE ct a2 8 cr, zI ct a3 8 ho, zI ct a4 8 li, zI ct a5 8 co, zI ct a6 8 le, zI ct a7 8 cs] sz) := by
  refine z_write (QA := zQi g [zO a0 4 [.int (nI (n + 1)), .ref a1, .ref a2, .ref a3, .ref a4, .ref a5, .ref a6, .ref a7], zI ct a1 8 (upd wi n x), zE ct a2 8 (vp_updL cr n y), zI ct a3 8 (upd ho n z), zI ct a4 8 (upd li n u), zI ct a5 8 (upd co n 0), zI ct a6 8 (upd le n 0), zI ct a7 8 (upd cs n 0)] (nI n)) (cc := cX5_add) (maxL := 7) (ret := some .int) (by decide) rfl (Nat.le_of_ble_eq_true rfl) ?_
  intro p e s m below meth c ls A hx hb hr hml hts hown hlocks hin hP hK hD hNW hA hS hl
  have hown : s.vm.findClass RX5 = some m.cls := hown
  have hl : lv_has ls 7 [(0, .ref a0), (1, .int x), (2, .double y.toUInt64), (4, .int z), (5, .int u)] := hl
  have hi_wsX50 : ∀ w ∈ wsX50, w ∈ wsX5_add := fun w h => List.mem_cons_of_mem _ (List.mem_append_right _ h)
  refine lv_aload_n hx hb dX5_add_0 rfl (lv_at hl 0 rfl) ?_
  refine va_get (D := g) (ci := 4) (v := .int (nI n)) (C := RX5) (T := TX5) (N := 8) hx hb hts hi_wsX50 hown hK hP 0 rfl rfl 0 (by decide) (hts (.fieldLink RX5 34 "FloodBarrier$Sections" "many" "I") (List.mem_of_getElem? (i := 1) rfl)) (fun _ h9 => h9) rfl dX5_add_1 ?_
  refine lv_istore (lv' := [(6, .int (nI n)), (0, .ref a0), (1, .int x), (2, .double y.toUInt64), (4, .int z), (5, .int u)]) hx hb dX5_add_4 hl (by decide) rfl (fun ls hl => ?_)
  refine lv_aload_n hx hb dX5_add_6 rfl (lv_at hl 1 rfl) ?_
  refine va_get (D := g) (ci := 4) (v := .ref a1) (C := RX5) (T := TX5) (N := 8) hx hb hts hi_wsX50 hown hK hP 0 rfl rfl 1 (by decide) (hts (.fieldLink RX5 11 "FloodBarrier$Sections" "width" "[I") (List.mem_of_getElem? (i := 2) rfl)) (fun _ h9 => h9) rfl dX5_add_7 ?_
  refine lv_iload hx hb dX5_add_10 (lv_at hl 0 rfl) ?_
  refine lv_iload_n hx hb dX5_add_12 rfl (lv_at hl 2 rfl) ?_
  refine z_iast (ct := ct) (f := wi) (k := n) (x := x) hx hb hK hP hD hS 1 rfl (by omega) (by decide) dX5_add_13 (fun H locs hP hD hS => ?_)
  have hP : va_P g vwCl [zO a0 4 [.int (nI n), .ref a1, .ref a2, .ref a3, .ref a4, .ref a5, .ref a6, .ref a7], zI ct a1 8 (upd wi n x), zE ct a2 8 cr, zI ct a3 8 ho, zI ct a4 8 li, zI ct a5 8 co, zI ct a6 8 le, zI ct a7 8 cs] H := hP
  have hD : va_D A [zO a0 4 [.int (nI n), .ref a1, .ref a2, .ref a3, .ref a4, .ref a5, .ref a6, .ref a7], zI ct a1 8 (upd wi n x), zE ct a2 8 cr, zI ct a3 8 ho, zI ct a4 8 li, zI ct a5 8 co, zI ct a6 8 le, zI ct a7 8 cs] := hD
  refine lv_aload_n hx hb dX5_add_14 rfl (lv_at hl 1 rfl) ?_
  refine va_get (D := g) (ci := 4) (v := .ref a2) (C := RX5) (T := TX5) (N := 8) hx hb hts hi_wsX50 hown hK hP 0 rfl rfl 2 (by decide) (hts (.fieldLink RX5 15 "FloodBarrier$Sections" "crest" "[D") (List.mem_of_getElem? (i := 3) rfl)) (fun _ h9 => h9) rfl dX5_add_15 ?_
  refine lv_iload hx hb dX5_add_18 (lv_at hl 0 rfl) ?_
  refine lv_dload_n hx hb dX5_add_20 rfl (lv_at hl 3 rfl) ?_
  refine z_east (ct := ct) (f := cr) (k := n) (x := y) hx hb hK hP hD hS 2 rfl (by omega) (by decide) dX5_add_21 (fun H locs hP hD hS => ?_)
  have hP : va_P g vwCl [zO a0 4 [.int (nI n), .ref a1, .ref a2, .ref a3, .ref a4, .ref a5, .ref a6, .ref a7], zI ct a1 8 (upd wi n x), zE ct a2 8 (vp_updL cr n y), zI ct a3 8 ho, zI ct a4 8 li, zI ct a5 8 co, zI ct a6 8 le, zI ct a7 8 cs] H := hP
  have hD : va_D A [zO a0 4 [.int (nI n), .ref a1, .ref a2, .ref a3, .ref a4, .ref a5, .ref a6, .ref a7], zI ct a1 8 (upd wi n x), zE ct a2 8 (vp_updL cr n y), zI ct a3 8 ho, zI ct a4 8 li, zI ct a5 8 co, zI ct a6 8 le, zI ct a7 8 cs] := hD
  refine lv_aload_n hx hb dX5_add_22 rfl (lv_at hl 1 rfl) ?_
  refine va_get (D := g) (ci := 4) (v := .ref a3) (C := RX5) (T := TX5) (N := 8) hx hb hts hi_wsX50 hown hK hP 0 rfl rfl 3 (by decide) (hts (.fieldLink RX5 19 "FloodBarrier$Sections" "hours" "[I") (List.mem_of_getElem? (i := 4) rfl)) (fun _ h9 => h9) rfl dX5_add_23 ?_
  refine lv_iload hx hb dX5_add_26 (lv_at hl 0 rfl) ?_
  refine lv_iload hx hb dX5_add_28 (lv_at hl 4 rfl) ?_
  refine z_iast (ct := ct) (f := ho) (k := n) (x := z) hx hb hK hP hD hS 3 rfl (by omega) (by decide) dX5_add_30 (fun H locs hP hD hS => ?_)
  have hP : va_P g vwCl [zO a0 4 [.int (nI n), .ref a1, .ref a2, .ref a3, .ref a4, .ref a5, .ref a6, .ref a7], zI ct a1 8 (upd wi n x), zE ct a2 8 (vp_updL cr n y), zI ct a3 8 (upd ho n z), zI ct a4 8 li, zI ct a5 8 co, zI ct a6 8 le, zI ct a7 8 cs] H := hP
  have hD : va_D A [zO a0 4 [.int (nI n), .ref a1, .ref a2, .ref a3, .ref a4, .ref a5, .ref a6, .ref a7], zI ct a1 8 (upd wi n x), zE ct a2 8 (vp_updL cr n y), zI ct a3 8 (upd ho n z), zI ct a4 8 li, zI ct a5 8 co, zI ct a6 8 le, zI ct a7 8 cs] := hD
  refine lv_aload_n hx hb dX5_add_31 rfl (lv_at hl 1 rfl) ?_
  refine va_get (D := g) (ci := 4) (v := .ref a4) (C := RX5) (T := TX5) (N := 8) hx hb hts hi_wsX50 hown hK hP 0 rfl rfl 4 (by decide) (hts (.fieldLink RX5 22 "FloodBarrier$Sections" "life" "[I") (List.mem_of_getElem? (i := 5) rfl)) (fun _ h9 => h9) rfl dX5_add_32 ?_
  refine lv_iload hx hb dX5_add_35 (lv_at hl 0 rfl) ?_
  refine lv_iload hx hb dX5_add_37 (lv_at hl 5 rfl) ?_
  refine z_iast (ct := ct) (f := li) (k := n) (x := u) hx hb hK hP hD hS 4 rfl (by omega) (by decide) dX5_add_39 (fun H locs hP hD hS => ?_)
  have hP : va_P g vwCl [zO a0 4 [.int (nI n), .ref a1, .ref a2, .ref a3, .ref a4, .ref a5, .ref a6, .ref a7], zI ct a1 8 (upd wi n x), zE ct a2 8 (vp_updL cr n y), zI ct a3 8 (upd ho n z), zI ct a4 8 (upd li n u), zI ct a5 8 co, zI ct a6 8 le, zI ct a7 8 cs] H := hP
  have hD : va_D A [zO a0 4 [.int (nI n), .ref a1, .ref a2, .ref a3, .ref a4, .ref a5, .ref a6, .ref a7], zI ct a1 8 (upd wi n x), zE ct a2 8 (vp_updL cr n y), zI ct a3 8 (upd ho n z), zI ct a4 8 (upd li n u), zI ct a5 8 co, zI ct a6 8 le, zI ct a7 8 cs] := hD
  refine lv_aload_n hx hb dX5_add_40 rfl (lv_at hl 1 rfl) ?_
  refine va_get (D := g) (ci := 4) (v := .ref a5) (C := RX5) (T := TX5) (N := 8) hx hb hts hi_wsX50 hown hK hP 0 rfl rfl 5 (by decide) (hts (.fieldLink RX5 25 "FloodBarrier$Sections" "condition" "[I") (List.mem_of_getElem? (i := 6) rfl)) (fun _ h9 => h9) rfl dX5_add_41 ?_
  refine lv_iload hx hb dX5_add_44 (lv_at hl 0 rfl) ?_
  refine lv_iconst (v := 0) hx hb dX5_add_46 (by decide) ?_
  refine z_iast (ct := ct) (f := co) (k := n) (x := 0) hx hb hK hP hD hS 5 rfl (by omega) (by decide) dX5_add_47 (fun H locs hP hD hS => ?_)
  have hP : va_P g vwCl [zO a0 4 [.int (nI n), .ref a1, .ref a2, .ref a3, .ref a4, .ref a5, .ref a6, .ref a7], zI ct a1 8 (upd wi n x), zE ct a2 8 (vp_updL cr n y), zI ct a3 8 (upd ho n z), zI ct a4 8 (upd li n u), zI ct a5 8 (upd co n 0), zI ct a6 8 le, zI ct a7 8 cs] H := hP
  have hD : va_D A [zO a0 4 [.int (nI n), .ref a1, .ref a2, .ref a3, .ref a4, .ref a5, .ref a6, .ref a7], zI ct a1 8 (upd wi n x), zE ct a2 8 (vp_updL cr n y), zI ct a3 8 (upd ho n z), zI ct a4 8 (upd li n u), zI ct a5 8 (upd co n 0), zI ct a6 8 le, zI ct a7 8 cs] := hD
  refine lv_aload_n hx hb dX5_add_48 rfl (lv_at hl 1 rfl) ?_
  refine va_get (D := g) (ci := 4) (v := .ref a6) (C := RX5) (T := TX5) (N := 8) hx hb hts hi_wsX50 hown hK hP 0 rfl rfl 6 (by decide) (hts (.fieldLink RX5 28 "FloodBarrier$Sections" "left" "[I") (List.mem_of_getElem? (i := 7) rfl)) (fun _ h9 => h9) rfl dX5_add_49 ?_
  refine lv_iload hx hb dX5_add_52 (lv_at hl 0 rfl) ?_
  refine lv_iconst (v := 0) hx hb dX5_add_54 (by decide) ?_
  refine z_iast (ct := ct) (f := le) (k := n) (x := 0) hx hb hK hP hD hS 6 rfl (by omega) (by decide) dX5_add_55 (fun H locs hP hD hS => ?_)
  have hP : va_P g vwCl [zO a0 4 [.int (nI n), .ref a1, .ref a2, .ref a3, .ref a4, .ref a5, .ref a6, .ref a7], zI ct a1 8 (upd wi n x), zE ct a2 8 (vp_updL cr n y), zI ct a3 8 (upd ho n z), zI ct a4 8 (upd li n u), zI ct a5 8 (upd co n 0), zI ct a6 8 (upd le n 0), zI ct a7 8 cs] H := hP
  have hD : va_D A [zO a0 4 [.int (nI n), .ref a1, .ref a2, .ref a3, .ref a4, .ref a5, .ref a6, .ref a7], zI ct a1 8 (upd wi n x), zE ct a2 8 (vp_updL cr n y), zI ct a3 8 (upd ho n z), zI ct a4 8 (upd li n u), zI ct a5 8 (upd co n 0), zI ct a6 8 (upd le n 0), zI ct a7 8 cs] := hD
  refine lv_aload_n hx hb dX5_add_56 rfl (lv_at hl 1 rfl) ?_
  refine va_get (D := g) (ci := 4) (v := .ref a7) (C := RX5) (T := TX5) (N := 8) hx hb hts hi_wsX50 hown hK hP 0 rfl rfl 7 (by decide) (hts (.fieldLink RX5 31 "FloodBarrier$Sections" "closings" "[I") (List.mem_of_getElem? (i := 8) rfl)) (fun _ h9 => h9) rfl dX5_add_57 ?_
  refine lv_iload hx hb dX5_add_60 (lv_at hl 0 rfl) ?_
  refine lv_iconst (v := 0) hx hb dX5_add_62 (by decide) ?_
  refine z_iast (ct := ct) (f := cs) (k := n) (x := 0) hx hb hK hP hD hS 7 rfl (by omega) (by decide) dX5_add_63 (fun H locs hP hD hS => ?_)
  have hP : va_P g vwCl [zO a0 4 [.int (nI n), .ref a1, .ref a2, .ref a3, .ref a4, .ref a5, .ref a6, .ref a7], zI ct a1 8 (upd wi n x), zE ct a2 8 (vp_updL cr n y), zI ct a3 8 (upd ho n z), zI ct a4 8 (upd li n u), zI ct a5 8 (upd co n 0), zI ct a6 8 (upd le n 0), zI ct a7 8 (upd cs n 0)] H := hP
  have hD : va_D A [zO a0 4 [.int (nI n), .ref a1, .ref a2, .ref a3, .ref a4, .ref a5, .ref a6, .ref a7], zI ct a1 8 (upd wi n x), zE ct a2 8 (vp_updL cr n y), zI ct a3 8 (upd ho n z), zI ct a4 8 (upd li n u), zI ct a5 8 (upd co n 0), zI ct a6 8 (upd le n 0), zI ct a7 8 (upd cs n 0)] := hD
  refine lv_aload_n hx hb dX5_add_64 rfl (lv_at hl 1 rfl) ?_
  refine lv_dup hx hb dX5_add_65 rfl ?_
  refine va_get (D := g) (ci := 4) (v := .int (nI n)) (C := RX5) (T := TX5) (N := 8) hx hb hts hi_wsX50 hown hK hP 0 rfl rfl 0 (by decide) (hts (.fieldLink RX5 34 "FloodBarrier$Sections" "many" "I") (List.mem_of_getElem? (i := 1) rfl)) (fun _ h9 => h9) rfl dX5_add_66 ?_
  refine lv_iconst (v := 1) hx hb dX5_add_69 (by decide) ?_
  refine z_iaddN (x := n) (y := 1) hx hb dX5_add_70 ?_
  refine va_put (D := g) (ci := 4) (v := .int (nI (n + 1))) (C := RX5) (T := TX5) (N := 8) hx hb hts hi_wsX50 tyX5 tyX5_ok nmX5 hown hK hP hD hS 0 rfl rfl 0 (by decide) (hts (.fieldLink RX5 34 "FloodBarrier$Sections" "many" "I") (List.mem_of_getElem? (i := 1) rfl)) (fun _ h9 => h9) rfl (tyX5_ok 0 (by decide)) rfl rfl (Nat.le_of_ble_eq_true rfl) dX5_add_71 (fun H locs hP hD hS => ?_)
  have hP : va_P g vwCl [zO a0 4 [.int (nI (n + 1)), .ref a1, .ref a2, .ref a3, .ref a4, .ref a5, .ref a6, .ref a7], zI ct a1 8 (upd wi n x), zE ct a2 8 (vp_updL cr n y), zI ct a3 8 (upd ho n z), zI ct a4 8 (upd li n u), zI ct a5 8 (upd co n 0), zI ct a6 8 (upd le n 0), zI ct a7 8 (upd cs n 0)] H := hP
  have hD : va_D A [zO a0 4 [.int (nI (n + 1)), .ref a1, .ref a2, .ref a3, .ref a4, .ref a5, .ref a6, .ref a7], zI ct a1 8 (upd wi n x), zE ct a2 8 (vp_updL cr n y), zI ct a3 8 (upd ho n z), zI ct a4 8 (upd li n u), zI ct a5 8 (upd co n 0), zI ct a6 8 (upd le n 0), zI ct a7 8 (upd cs n 0)] := hD
  refine lv_iload hx hb dX5_add_74 (lv_at hl 0 rfl) ?_
  exact z_iretW hx hb hr hlocks hS hP hD rfl rfl (Nat.le_refl _) (Nat.le_refl _) dX5_add_76

set_option maxHeartbeats 4000000 in
set_option maxRecDepth 100000 in
theorem c_X5_goOn (l : Launch) (g : va_G) (ct : Nat → ClassId) (sz : Nat) (a0 a1 a2 a3 a4 a5 a6 a7 : Nat) (n : Nat) (wi : Nat → Int32) (cr : Nat → Int64) (ho li co le cs : Nat → Int32) (hn : n ≤ 8) : Met l yX5_goOn wsX5_goOn (zRm 2 42) (va_Pc [.ref a0] (zW g ct [zO a0 4 [.int (nI n), .ref a1, .ref a2, .ref a3, .ref a4, .ref a5, .ref a6, .ref a7], zI ct a1 8 wi, zE ct a2 8 cr, zI ct a3 8 ho, zI ct a4 8 li, zI ct a5 8 co, zI ct a6 8 le, zI ct a7 8 cs] sz)) (zQv g [zO a0 4 [.int (nI n), .ref a1, .ref a2, .ref a3, .ref a4, .ref a5, .ref a6, .ref a7], zI ct a1 8 wi, zE ct a2 8 cr, zI ct a3 8 ho, zI ct a4 8 li, zI ct a5 8 (gOco co le n), zI ct a6 8 (gOle co le n), zI ct a7 8 (gOcs co le cs n)] (va_A [zO a0 4 [.int (nI n), .ref a1, .ref a2, .ref a3, .ref a4, .ref a5, .ref a6, .ref a7], zI ct a1 8 wi, zE ct a2 8 cr, zI ct a3 8 ho, zI ct a4 8 li, zI ct a5 8 co, zI ct a6 8 le, zI ct a7 8 cs] sz)) 0 0 (va_A [zO a0 4 [.int (nI n), .ref a1, .ref a2, .ref a3, .ref a4, .ref a5, .ref a6, .ref a7], zI ct a1 8 wi, zE ct a2 8 cr, zI ct a3 8 ho, zI ct a4 8 li, zI ct a5 8 co, zI ct a6 8 le, zI ct a7 8 cs] sz) := by
  refine z_write (QA := zQv g [zO a0 4 [.int (nI n), .ref a1, .ref a2, .ref a3, .ref a4, .ref a5, .ref a6, .ref a7], zI ct a1 8 wi, zE ct a2 8 cr, zI ct a3 8 ho, zI ct a4 8 li, zI ct a5 8 (gOco co le n), zI ct a6 8 (gOle co le n), zI ct a7 8 (gOcs co le cs n)]) (cc := cX5_goOn) (maxL := 2) (ret := none) (by decide) rfl (Nat.le_of_ble_eq_true rfl) ?_
  intro p e s m below meth c ls A hx hb hr hml hts hown hlocks hin hP hK hD hNW hA hS hl
  have hown : s.vm.findClass RX5 = some m.cls := hown
  have hl : lv_has ls 2 [(0, .ref a0)] := hl
  have hi_wsX50 : ∀ w ∈ wsX50, w ∈ wsX5_goOn := fun w h => List.mem_cons_of_mem _ (List.mem_append_right _ h)
  refine lv_aload_n hx hb dX5_goOn_0 rfl (lv_at hl 0 rfl) ?_
  refine z_cVi (wc := [zO a0 4 [.int (nI n), .ref a1, .ref a2, .ref a3, .ref a4, .ref a5, .ref a6, .ref a7], zI ct a1 8 wi, zE ct a2 8 cr, zI ct a3 8 ho, zI ct a4 8 li, zI ct a5 8 co, zI ct a6 8 le, zI ct a7 8 cs]) (As := []) (rest := []) ⟨hx, hb, hml, hown, hts⟩ hK hP [0, 1, 2, 3, 4, 5, 6, 7] rfl (c_X5_moving l g ct a0 a1 a2 a3 a4 a5 a6 a7 n wi cr ho li co le cs (by omega)) (cwV 0 hts gX5_goOn_X5_moving rfl rfl rfl (by decide +kernel) ⟨Nat.le_of_ble_eq_true rfl, Nat.le_of_ble_eq_true rfl⟩) 0 rfl rfl rfl hl.1 rfl (Nat.le_of_ble_eq_true rfl) dX5_goOn_1 ⟨Nat.zero_le _, Nat.zero_le _⟩ ?_
  refine lv_istore_n (lv' := [(1, .int (mvI co n)), (0, .ref a0)]) hx hb dX5_goOn_4 rfl hl (by decide) rfl (fun ls hl => ?_)
  refine lv_iload_n hx hb dX5_goOn_5 rfl (lv_at hl 0 rfl) ?_
  refine lv_if_ge (tgt := 10) hx hb dX5_goOn_6 (by decide) (fun c_1 => ?_) (fun c_1 => ?_)
  · obtain ⟨hq, hz⟩ : mvN co n < n ∧ mvI co n = nI (mvN co n) := fI_nat (show ¬ mvI co n < 0 from fun q => absurd (Int32.not_le.mpr q) (fun r => r c_1))
    rw [hz] at hl
    refine lv_aload_n hx hb dX5_goOn_10 rfl (lv_at hl 1 rfl) ?_
    refine va_get (D := g) (ci := 4) (v := .ref a6) (C := RX5) (T := TX5) (N := 8) hx hb hts hi_wsX50 hown hK hP 0 rfl rfl 6 (by decide) (hts (.fieldLink RX5 28 "FloodBarrier$Sections" "left" "[I") (List.mem_of_getElem? (i := 1) rfl)) (fun _ h9 => h9) rfl dX5_goOn_11 ?_
    refine lv_iload_n hx hb dX5_goOn_14 rfl (lv_at hl 0 rfl) ?_
    refine lv_dup2_11 hx hb dX5_goOn_15 rfl rfl ?_
    refine z_iald (ct := ct) (f := le) (k := (mvN co n)) hx hb hK hP 6 rfl (by omega) (by decide) dX5_goOn_16 ?_
    refine lv_iconst (v := 1) hx hb dX5_goOn_17 (by decide) ?_
    refine lv_isub hx hb dX5_goOn_18 ?_
    refine z_iast (ct := ct) (f := le) (k := (mvN co n)) (x := ((le (mvN co n)) - 1)) hx hb hK hP hD hS 6 rfl (by omega) (by decide) dX5_goOn_19 (fun H locs hP hD hS => ?_)
    have hP : va_P g vwCl [zO a0 4 [.int (nI n), .ref a1, .ref a2, .ref a3, .ref a4, .ref a5, .ref a6, .ref a7], zI ct a1 8 wi, zE ct a2 8 cr, zI ct a3 8 ho, zI ct a4 8 li, zI ct a5 8 co, zI ct a6 8 (upd le (mvN co n) ((le (mvN co n)) - 1)), zI ct a7 8 cs] H := hP
    have hD : va_D A [zO a0 4 [.int (nI n), .ref a1, .ref a2, .ref a3, .ref a4, .ref a5, .ref a6, .ref a7], zI ct a1 8 wi, zE ct a2 8 cr, zI ct a3 8 ho, zI ct a4 8 li, zI ct a5 8 co, zI ct a6 8 (upd le (mvN co n) ((le (mvN co n)) - 1)), zI ct a7 8 cs] := hD
    refine lv_aload_n hx hb dX5_goOn_20 rfl (lv_at hl 1 rfl) ?_
    refine va_get (D := g) (ci := 4) (v := .ref a6) (C := RX5) (T := TX5) (N := 8) hx hb hts hi_wsX50 hown hK hP 0 rfl rfl 6 (by decide) (hts (.fieldLink RX5 28 "FloodBarrier$Sections" "left" "[I") (List.mem_of_getElem? (i := 1) rfl)) (fun _ h9 => h9) rfl dX5_goOn_21 ?_
    refine lv_iload_n hx hb dX5_goOn_24 rfl (lv_at hl 0 rfl) ?_
    refine z_iald (ct := ct) (f := (upd le (mvN co n) ((le (mvN co n)) - 1))) (k := (mvN co n)) hx hb hK hP 6 rfl (by omega) (by decide) dX5_goOn_25 ?_
    rw [pk_us]
    refine lv_if_le (tgt := 30) hx hb dX5_goOn_26 (by decide) (fun c_2 => ?_) (fun c_2 => ?_)
    · refine lv_aload_n hx hb dX5_goOn_30 rfl (lv_at hl 1 rfl) ?_
      refine va_get (D := g) (ci := 4) (v := .ref a5) (C := RX5) (T := TX5) (N := 8) hx hb hts hi_wsX50 hown hK hP 0 rfl rfl 5 (by decide) (hts (.fieldLink RX5 25 "FloodBarrier$Sections" "condition" "[I") (List.mem_of_getElem? (i := 2) rfl)) (fun _ h9 => h9) rfl dX5_goOn_31 ?_
      refine lv_iload_n hx hb dX5_goOn_34 rfl (lv_at hl 0 rfl) ?_
      refine z_iald (ct := ct) (f := co) (k := (mvN co n)) hx hb hK hP 5 rfl (by omega) (by decide) dX5_goOn_35 ?_
      refine lv_iconst (v := 1) hx hb dX5_goOn_36 (by decide) ?_
      refine lv_icmp_ne (tgt := 60) hx hb dX5_goOn_37 (by decide) (fun c_3 => ?_) (fun c_3 => ?_)
      · refine lv_aload_n hx hb dX5_goOn_60 rfl (lv_at hl 1 rfl) ?_
        refine va_get (D := g) (ci := 4) (v := .ref a5) (C := RX5) (T := TX5) (N := 8) hx hb hts hi_wsX50 hown hK hP 0 rfl rfl 5 (by decide) (hts (.fieldLink RX5 25 "FloodBarrier$Sections" "condition" "[I") (List.mem_of_getElem? (i := 2) rfl)) (fun _ h9 => h9) rfl dX5_goOn_61 ?_
        refine lv_iload_n hx hb dX5_goOn_64 rfl (lv_at hl 0 rfl) ?_
        refine lv_iconst (v := 0) hx hb dX5_goOn_65 (by decide) ?_
        refine z_iast (ct := ct) (f := co) (k := (mvN co n)) (x := 0) hx hb hK hP hD hS 5 rfl (by omega) (by decide) dX5_goOn_66 (fun H locs hP hD hS => ?_)
        have hP : va_P g vwCl [zO a0 4 [.int (nI n), .ref a1, .ref a2, .ref a3, .ref a4, .ref a5, .ref a6, .ref a7], zI ct a1 8 wi, zE ct a2 8 cr, zI ct a3 8 ho, zI ct a4 8 li, zI ct a5 8 (upd co (mvN co n) 0), zI ct a6 8 (upd le (mvN co n) ((le (mvN co n)) - 1)), zI ct a7 8 cs] H := hP
        have hD : va_D A [zO a0 4 [.int (nI n), .ref a1, .ref a2, .ref a3, .ref a4, .ref a5, .ref a6, .ref a7], zI ct a1 8 wi, zE ct a2 8 cr, zI ct a3 8 ho, zI ct a4 8 li, zI ct a5 8 (upd co (mvN co n) 0), zI ct a6 8 (upd le (mvN co n) ((le (mvN co n)) - 1)), zI ct a7 8 cs] := hD
        exact z_vretW hx hb hr hlocks hS hP hD (by simp only [gOco, gOle, gOcs, if_pos hq, if_pos c_2, if_neg c_3]) (Nat.le_refl _) (Nat.le_refl _) dX5_goOn_67
      · refine lv_aload_n hx hb dX5_goOn_40 rfl (lv_at hl 1 rfl) ?_
        refine va_get (D := g) (ci := 4) (v := .ref a5) (C := RX5) (T := TX5) (N := 8) hx hb hts hi_wsX50 hown hK hP 0 rfl rfl 5 (by decide) (hts (.fieldLink RX5 25 "FloodBarrier$Sections" "condition" "[I") (List.mem_of_getElem? (i := 2) rfl)) (fun _ h9 => h9) rfl dX5_goOn_41 ?_
        refine lv_iload_n hx hb dX5_goOn_44 rfl (lv_at hl 0 rfl) ?_
        refine lv_iconst (v := 2) hx hb dX5_goOn_45 (by decide) ?_
        refine z_iast (ct := ct) (f := co) (k := (mvN co n)) (x := 2) hx hb hK hP hD hS 5 rfl (by omega) (by decide) dX5_goOn_46 (fun H locs hP hD hS => ?_)
        have hP : va_P g vwCl [zO a0 4 [.int (nI n), .ref a1, .ref a2, .ref a3, .ref a4, .ref a5, .ref a6, .ref a7], zI ct a1 8 wi, zE ct a2 8 cr, zI ct a3 8 ho, zI ct a4 8 li, zI ct a5 8 (upd co (mvN co n) 2), zI ct a6 8 (upd le (mvN co n) ((le (mvN co n)) - 1)), zI ct a7 8 cs] H := hP
        have hD : va_D A [zO a0 4 [.int (nI n), .ref a1, .ref a2, .ref a3, .ref a4, .ref a5, .ref a6, .ref a7], zI ct a1 8 wi, zE ct a2 8 cr, zI ct a3 8 ho, zI ct a4 8 li, zI ct a5 8 (upd co (mvN co n) 2), zI ct a6 8 (upd le (mvN co n) ((le (mvN co n)) - 1)), zI ct a7 8 cs] := hD
        refine lv_aload_n hx hb dX5_goOn_47 rfl (lv_at hl 1 rfl) ?_
        refine va_get (D := g) (ci := 4) (v := .ref a7) (C := RX5) (T := TX5) (N := 8) hx hb hts hi_wsX50 hown hK hP 0 rfl rfl 7 (by decide) (hts (.fieldLink RX5 31 "FloodBarrier$Sections" "closings" "[I") (List.mem_of_getElem? (i := 3) rfl)) (fun _ h9 => h9) rfl dX5_goOn_48 ?_
        refine lv_iload_n hx hb dX5_goOn_51 rfl (lv_at hl 0 rfl) ?_
        refine lv_dup2_11 hx hb dX5_goOn_52 rfl rfl ?_
        refine z_iald (ct := ct) (f := cs) (k := (mvN co n)) hx hb hK hP 7 rfl (by omega) (by decide) dX5_goOn_53 ?_
        refine lv_iconst (v := 1) hx hb dX5_goOn_54 (by decide) ?_
        refine lv_iadd hx hb dX5_goOn_55 ?_
        refine z_iast (ct := ct) (f := cs) (k := (mvN co n)) (x := ((cs (mvN co n)) + 1)) hx hb hK hP hD hS 7 rfl (by omega) (by decide) dX5_goOn_56 (fun H locs hP hD hS => ?_)
        have hP : va_P g vwCl [zO a0 4 [.int (nI n), .ref a1, .ref a2, .ref a3, .ref a4, .ref a5, .ref a6, .ref a7], zI ct a1 8 wi, zE ct a2 8 cr, zI ct a3 8 ho, zI ct a4 8 li, zI ct a5 8 (upd co (mvN co n) 2), zI ct a6 8 (upd le (mvN co n) ((le (mvN co n)) - 1)), zI ct a7 8 (upd cs (mvN co n) ((cs (mvN co n)) + 1))] H := hP
        have hD : va_D A [zO a0 4 [.int (nI n), .ref a1, .ref a2, .ref a3, .ref a4, .ref a5, .ref a6, .ref a7], zI ct a1 8 wi, zE ct a2 8 cr, zI ct a3 8 ho, zI ct a4 8 li, zI ct a5 8 (upd co (mvN co n) 2), zI ct a6 8 (upd le (mvN co n) ((le (mvN co n)) - 1)), zI ct a7 8 (upd cs (mvN co n) ((cs (mvN co n)) + 1))] := hD
        refine lv_goto (tgt := 67) hx hb dX5_goOn_57 (by decide) ?_
        exact z_vretW hx hb hr hlocks hS hP hD (by simp only [gOco, gOle, gOcs, if_pos hq, if_pos c_2, if_pos c_3]) (Nat.le_refl _) (Nat.le_refl _) dX5_goOn_67
    · exact z_vretW hx hb hr hlocks hS hP hD (by simp only [gOco, gOle, gOcs, if_pos hq, if_neg c_2]) (Nat.le_refl _) (Nat.le_refl _) dX5_goOn_29
  · have hq : ¬ mvN co n < n := fI_neg (by omega) (show mvI co n < 0 from Int32.not_le.mp c_1)
    exact z_vretW hx hb hr hlocks hS hP hD (by simp only [gOco, gOle, gOcs, if_neg hq]) (Nat.le_refl _) (Nat.le_refl _) dX5_goOn_9

set_option maxHeartbeats 4000000 in
set_option maxRecDepth 100000 in
theorem c_X5_copyFrom (l : Launch) (g : va_G) (ct : Nat → ClassId) (sz : Nat) (a0 a1 a2 a3 a4 a5 a6 a7 : Nat) (n : Nat) (wi : Nat → Int32) (cr : Nat → Int64) (ho li co le cs : Nat → Int32) (c0 c1 c2 c3 c4 c5 c6 c7 : Nat) (n2 : Nat) (wi2 : Nat → Int32) (cr2 : Nat → Int64) (ho2 li2 co2 le2 cs2 : Nat → Int32) : Met l yX5_copyFrom wsX5_copyFrom (zRm 1 30) (va_Pc [.ref a0, .ref c0] (zW g ct [zO a0 4 [.int (nI n), .ref a1, .ref a2, .ref a3, .ref a4, .ref a5, .ref a6, .ref a7], zI ct a1 8 wi, zE ct a2 8 cr, zI ct a3 8 ho, zI ct a4 8 li, zI ct a5 8 co, zI ct a6 8 le, zI ct a7 8 cs, zO c0 4 [.int (nI n2), .ref c1, .ref c2, .ref c3, .ref c4, .ref c5, .ref c6, .ref c7], zI ct c1 8 wi2, zE ct c2 8 cr2, zI ct c3 8 ho2, zI ct c4 8 li2, zI ct c5 8 co2, zI ct c6 8 le2, zI ct c7 8 cs2] sz)) (zQv g [zO a0 4 [.int (nI n2), .ref a1, .ref a2, .ref a3, .ref a4, .ref a5, .ref a6, .ref a7], zI ct a1 8 wi2, zE ct a2 8 cr2, zI ct a3 8 ho2, zI ct a4 8 li2, zI ct a5 8 co2, zI ct a6 8 le2, zI ct a7 8 cs2, zO c0 4 [.int (nI n2), .ref c1, .ref c2, .ref c3, .ref c4, .ref c5, .ref c6, .ref c7], zI ct c1 8 wi2, zE ct c2 8 cr2, zI ct c3 8 ho2, zI ct c4 8 li2, zI ct c5 8 co2, zI ct c6 8 le2, zI ct c7 8 cs2] (va_A [zO a0 4 [.int (nI n), .ref a1, .ref a2, .ref a3, .ref a4, .ref a5, .ref a6, .ref a7], zI ct a1 8 wi, zE ct a2 8 cr, zI ct a3 8 ho, zI ct a4 8 li, zI ct a5 8 co, zI ct a6 8 le, zI ct a7 8 cs, zO c0 4 [.int (nI n2), .ref c1, .ref c2, .ref c3, .ref c4, .ref c5, .ref c6, .ref c7], zI ct c1 8 wi2, zE ct c2 8 cr2, zI ct c3 8 ho2, zI ct c4 8 li2, zI ct c5 8 co2, zI ct c6 8 le2, zI ct c7 8 cs2] sz)) 0 0 (va_A [zO a0 4 [.int (nI n), .ref a1, .ref a2, .ref a3, .ref a4, .ref a5, .ref a6, .ref a7], zI ct a1 8 wi, zE ct a2 8 cr, zI ct a3 8 ho, zI ct a4 8 li, zI ct a5 8 co, zI ct a6 8 le, zI ct a7 8 cs, zO c0 4 [.int (nI n2), .ref c1, .ref c2, .ref c3, .ref c4, .ref c5, .ref c6, .ref c7], zI ct c1 8 wi2, zE ct c2 8 cr2, zI ct c3 8 ho2, zI ct c4 8 li2, zI ct c5 8 co2, zI ct c6 8 le2, zI ct c7 8 cs2] sz) := by
  refine z_write (QA := zQv g [zO a0 4 [.int (nI n2), .ref a1, .ref a2, .ref a3, .ref a4, .ref a5, .ref a6, .ref a7], zI ct a1 8 wi2, zE ct a2 8 cr2, zI ct a3 8 ho2, zI ct a4 8 li2, zI ct a5 8 co2, zI ct a6 8 le2, zI ct a7 8 cs2, zO c0 4 [.int (nI n2), .ref c1, .ref c2, .ref c3, .ref c4, .ref c5, .ref c6, .ref c7], zI ct c1 8 wi2, zE ct c2 8 cr2, zI ct c3 8 ho2, zI ct c4 8 li2, zI ct c5 8 co2, zI ct c6 8 le2, zI ct c7 8 cs2]) (cc := cX5_copyFrom) (maxL := 2) (ret := none) (by decide) rfl (Nat.le_of_ble_eq_true rfl) ?_
  intro p e s m below meth c ls A hx hb hr hml hts hown hlocks hin hP hK hD hNW hA hS hl
  have hown : s.vm.findClass RX5 = some m.cls := hown
  have hl : lv_has ls 2 [(0, .ref a0), (1, .ref c0)] := hl
  have hi_wsX50 : ∀ w ∈ wsX50, w ∈ wsX5_copyFrom := fun w h => List.mem_cons_of_mem _ (List.mem_append_right _ h)
  refine lv_aload_n hx hb dX5_copyFrom_0 rfl (lv_at hl 0 rfl) ?_
  refine lv_aload_n hx hb dX5_copyFrom_1 rfl (lv_at hl 1 rfl) ?_
  refine va_get (D := g) (ci := 4) (v := .int (nI n2)) (C := RX5) (T := TX5) (N := 8) hx hb hts hi_wsX50 hown hK hP 8 rfl rfl 0 (by decide) (hts (.fieldLink RX5 34 "FloodBarrier$Sections" "many" "I") (List.mem_of_getElem? (i := 1) rfl)) (fun _ h9 => h9) rfl dX5_copyFrom_2 ?_
  refine va_put (D := g) (ci := 4) (v := .int (nI n2)) (C := RX5) (T := TX5) (N := 8) hx hb hts hi_wsX50 tyX5 tyX5_ok nmX5 hown hK hP hD hS 0 rfl rfl 0 (by decide) (hts (.fieldLink RX5 34 "FloodBarrier$Sections" "many" "I") (List.mem_of_getElem? (i := 1) rfl)) (fun _ h9 => h9) rfl (tyX5_ok 0 (by decide)) rfl rfl (Nat.le_of_ble_eq_true rfl) dX5_copyFrom_5 (fun H locs hP hD hS => ?_)
  have hP : va_P g vwCl [zO a0 4 [.int (nI n2), .ref a1, .ref a2, .ref a3, .ref a4, .ref a5, .ref a6, .ref a7], zI ct a1 8 wi, zE ct a2 8 cr, zI ct a3 8 ho, zI ct a4 8 li, zI ct a5 8 co, zI ct a6 8 le, zI ct a7 8 cs, zO c0 4 [.int (nI n2), .ref c1, .ref c2, .ref c3, .ref c4, .ref c5, .ref c6, .ref c7], zI ct c1 8 wi2, zE ct c2 8 cr2, zI ct c3 8 ho2, zI ct c4 8 li2, zI ct c5 8 co2, zI ct c6 8 le2, zI ct c7 8 cs2] H := hP
  have hD : va_D A [zO a0 4 [.int (nI n2), .ref a1, .ref a2, .ref a3, .ref a4, .ref a5, .ref a6, .ref a7], zI ct a1 8 wi, zE ct a2 8 cr, zI ct a3 8 ho, zI ct a4 8 li, zI ct a5 8 co, zI ct a6 8 le, zI ct a7 8 cs, zO c0 4 [.int (nI n2), .ref c1, .ref c2, .ref c3, .ref c4, .ref c5, .ref c6, .ref c7], zI ct c1 8 wi2, zE ct c2 8 cr2, zI ct c3 8 ho2, zI ct c4 8 li2, zI ct c5 8 co2, zI ct c6 8 le2, zI ct c7 8 cs2] := hD
  refine lv_aload_n hx hb dX5_copyFrom_8 rfl (lv_at hl 1 rfl) ?_
  refine va_get (D := g) (ci := 4) (v := .ref c1) (C := RX5) (T := TX5) (N := 8) hx hb hts hi_wsX50 hown hK hP 8 rfl rfl 1 (by decide) (hts (.fieldLink RX5 11 "FloodBarrier$Sections" "width" "[I") (List.mem_of_getElem? (i := 2) rfl)) (fun _ h9 => h9) rfl dX5_copyFrom_9 ?_
  refine lv_iconst (v := 0) hx hb dX5_copyFrom_12 (by decide) ?_
  refine lv_aload_n hx hb dX5_copyFrom_13 rfl (lv_at hl 0 rfl) ?_
  refine va_get (D := g) (ci := 4) (v := .ref a1) (C := RX5) (T := TX5) (N := 8) hx hb hts hi_wsX50 hown hK hP 0 rfl rfl 1 (by decide) (hts (.fieldLink RX5 11 "FloodBarrier$Sections" "width" "[I") (List.mem_of_getElem? (i := 2) rfl)) (fun _ h9 => h9) rfl dX5_copyFrom_14 ?_
  refine lv_iconst (v := 0) hx hb dX5_copyFrom_17 (by decide) ?_
  refine lv_bipush (v := 8) hx hb dX5_copyFrom_18 (by decide) ?_
  refine z_copyI (ct := ct) (N := 8) (f := wi2) (h := wi) hx hb (hml.trans hl.1.symm) hown (hts (.methodLink RX5 38 arraycopyName) (List.mem_of_getElem? (i := 3) rfl)) (hts (.native arraycopyName) (List.mem_of_getElem? (i := 4) rfl)) (hts (.static arraycopyName) (List.mem_of_getElem? (i := 5) rfl)) (hts (.initialized "java/lang/System") (List.mem_of_getElem? (i := 6) rfl)) hK hP hD hS 9 1 rfl rfl (by decide) (by decide) (Nat.le_of_ble_eq_true rfl) (Nat.le_of_ble_eq_true rfl) dX5_copyFrom_20 (fun H locs hP hD hS => ?_)
  have hP : va_P g vwCl [zO a0 4 [.int (nI n2), .ref a1, .ref a2, .ref a3, .ref a4, .ref a5, .ref a6, .ref a7], zI ct a1 8 wi2, zE ct a2 8 cr, zI ct a3 8 ho, zI ct a4 8 li, zI ct a5 8 co, zI ct a6 8 le, zI ct a7 8 cs, zO c0 4 [.int (nI n2), .ref c1, .ref c2, .ref c3, .ref c4, .ref c5, .ref c6, .ref c7], zI ct c1 8 wi2, zE ct c2 8 cr2, zI ct c3 8 ho2, zI ct c4 8 li2, zI ct c5 8 co2, zI ct c6 8 le2, zI ct c7 8 cs2] H := hP
  have hD : va_D A [zO a0 4 [.int (nI n2), .ref a1, .ref a2, .ref a3, .ref a4, .ref a5, .ref a6, .ref a7], zI ct a1 8 wi2, zE ct a2 8 cr, zI ct a3 8 ho, zI ct a4 8 li, zI ct a5 8 co, zI ct a6 8 le, zI ct a7 8 cs, zO c0 4 [.int (nI n2), .ref c1, .ref c2, .ref c3, .ref c4, .ref c5, .ref c6, .ref c7], zI ct c1 8 wi2, zE ct c2 8 cr2, zI ct c3 8 ho2, zI ct c4 8 li2, zI ct c5 8 co2, zI ct c6 8 le2, zI ct c7 8 cs2] := hD
  refine lv_aload_n hx hb dX5_copyFrom_23 rfl (lv_at hl 1 rfl) ?_
  refine va_get (D := g) (ci := 4) (v := .ref c2) (C := RX5) (T := TX5) (N := 8) hx hb hts hi_wsX50 hown hK hP 8 rfl rfl 2 (by decide) (hts (.fieldLink RX5 15 "FloodBarrier$Sections" "crest" "[D") (List.mem_of_getElem? (i := 7) rfl)) (fun _ h9 => h9) rfl dX5_copyFrom_24 ?_
  refine lv_iconst (v := 0) hx hb dX5_copyFrom_27 (by decide) ?_
  refine lv_aload_n hx hb dX5_copyFrom_28 rfl (lv_at hl 0 rfl) ?_
  refine va_get (D := g) (ci := 4) (v := .ref a2) (C := RX5) (T := TX5) (N := 8) hx hb hts hi_wsX50 hown hK hP 0 rfl rfl 2 (by decide) (hts (.fieldLink RX5 15 "FloodBarrier$Sections" "crest" "[D") (List.mem_of_getElem? (i := 7) rfl)) (fun _ h9 => h9) rfl dX5_copyFrom_29 ?_
  refine lv_iconst (v := 0) hx hb dX5_copyFrom_32 (by decide) ?_
  refine lv_bipush (v := 8) hx hb dX5_copyFrom_33 (by decide) ?_
  refine z_copyE (ct := ct) (N := 8) (f := cr2) (h := cr) hx hb (hml.trans hl.1.symm) hown (hts (.methodLink RX5 38 arraycopyName) (List.mem_of_getElem? (i := 3) rfl)) (hts (.native arraycopyName) (List.mem_of_getElem? (i := 4) rfl)) (hts (.static arraycopyName) (List.mem_of_getElem? (i := 5) rfl)) (hts (.initialized "java/lang/System") (List.mem_of_getElem? (i := 6) rfl)) hK hP hD hS 10 2 rfl rfl (by decide) (by decide) (Nat.le_of_ble_eq_true rfl) (Nat.le_of_ble_eq_true rfl) dX5_copyFrom_35 (fun H locs hP hD hS => ?_)
  have hP : va_P g vwCl [zO a0 4 [.int (nI n2), .ref a1, .ref a2, .ref a3, .ref a4, .ref a5, .ref a6, .ref a7], zI ct a1 8 wi2, zE ct a2 8 cr2, zI ct a3 8 ho, zI ct a4 8 li, zI ct a5 8 co, zI ct a6 8 le, zI ct a7 8 cs, zO c0 4 [.int (nI n2), .ref c1, .ref c2, .ref c3, .ref c4, .ref c5, .ref c6, .ref c7], zI ct c1 8 wi2, zE ct c2 8 cr2, zI ct c3 8 ho2, zI ct c4 8 li2, zI ct c5 8 co2, zI ct c6 8 le2, zI ct c7 8 cs2] H := hP
  have hD : va_D A [zO a0 4 [.int (nI n2), .ref a1, .ref a2, .ref a3, .ref a4, .ref a5, .ref a6, .ref a7], zI ct a1 8 wi2, zE ct a2 8 cr2, zI ct a3 8 ho, zI ct a4 8 li, zI ct a5 8 co, zI ct a6 8 le, zI ct a7 8 cs, zO c0 4 [.int (nI n2), .ref c1, .ref c2, .ref c3, .ref c4, .ref c5, .ref c6, .ref c7], zI ct c1 8 wi2, zE ct c2 8 cr2, zI ct c3 8 ho2, zI ct c4 8 li2, zI ct c5 8 co2, zI ct c6 8 le2, zI ct c7 8 cs2] := hD
  refine lv_aload_n hx hb dX5_copyFrom_38 rfl (lv_at hl 1 rfl) ?_
  refine va_get (D := g) (ci := 4) (v := .ref c3) (C := RX5) (T := TX5) (N := 8) hx hb hts hi_wsX50 hown hK hP 8 rfl rfl 3 (by decide) (hts (.fieldLink RX5 19 "FloodBarrier$Sections" "hours" "[I") (List.mem_of_getElem? (i := 8) rfl)) (fun _ h9 => h9) rfl dX5_copyFrom_39 ?_
  refine lv_iconst (v := 0) hx hb dX5_copyFrom_42 (by decide) ?_
  refine lv_aload_n hx hb dX5_copyFrom_43 rfl (lv_at hl 0 rfl) ?_
  refine va_get (D := g) (ci := 4) (v := .ref a3) (C := RX5) (T := TX5) (N := 8) hx hb hts hi_wsX50 hown hK hP 0 rfl rfl 3 (by decide) (hts (.fieldLink RX5 19 "FloodBarrier$Sections" "hours" "[I") (List.mem_of_getElem? (i := 8) rfl)) (fun _ h9 => h9) rfl dX5_copyFrom_44 ?_
  refine lv_iconst (v := 0) hx hb dX5_copyFrom_47 (by decide) ?_
  refine lv_bipush (v := 8) hx hb dX5_copyFrom_48 (by decide) ?_
  refine z_copyI (ct := ct) (N := 8) (f := ho2) (h := ho) hx hb (hml.trans hl.1.symm) hown (hts (.methodLink RX5 38 arraycopyName) (List.mem_of_getElem? (i := 3) rfl)) (hts (.native arraycopyName) (List.mem_of_getElem? (i := 4) rfl)) (hts (.static arraycopyName) (List.mem_of_getElem? (i := 5) rfl)) (hts (.initialized "java/lang/System") (List.mem_of_getElem? (i := 6) rfl)) hK hP hD hS 11 3 rfl rfl (by decide) (by decide) (Nat.le_of_ble_eq_true rfl) (Nat.le_of_ble_eq_true rfl) dX5_copyFrom_50 (fun H locs hP hD hS => ?_)
  have hP : va_P g vwCl [zO a0 4 [.int (nI n2), .ref a1, .ref a2, .ref a3, .ref a4, .ref a5, .ref a6, .ref a7], zI ct a1 8 wi2, zE ct a2 8 cr2, zI ct a3 8 ho2, zI ct a4 8 li, zI ct a5 8 co, zI ct a6 8 le, zI ct a7 8 cs, zO c0 4 [.int (nI n2), .ref c1, .ref c2, .ref c3, .ref c4, .ref c5, .ref c6, .ref c7], zI ct c1 8 wi2, zE ct c2 8 cr2, zI ct c3 8 ho2, zI ct c4 8 li2, zI ct c5 8 co2, zI ct c6 8 le2, zI ct c7 8 cs2] H := hP
  have hD : va_D A [zO a0 4 [.int (nI n2), .ref a1, .ref a2, .ref a3, .ref a4, .ref a5, .ref a6, .ref a7], zI ct a1 8 wi2, zE ct a2 8 cr2, zI ct a3 8 ho2, zI ct a4 8 li, zI ct a5 8 co, zI ct a6 8 le, zI ct a7 8 cs, zO c0 4 [.int (nI n2), .ref c1, .ref c2, .ref c3, .ref c4, .ref c5, .ref c6, .ref c7], zI ct c1 8 wi2, zE ct c2 8 cr2, zI ct c3 8 ho2, zI ct c4 8 li2, zI ct c5 8 co2, zI ct c6 8 le2, zI ct c7 8 cs2] := hD
  refine lv_aload_n hx hb dX5_copyFrom_53 rfl (lv_at hl 1 rfl) ?_
  refine va_get (D := g) (ci := 4) (v := .ref c4) (C := RX5) (T := TX5) (N := 8) hx hb hts hi_wsX50 hown hK hP 8 rfl rfl 4 (by decide) (hts (.fieldLink RX5 22 "FloodBarrier$Sections" "life" "[I") (List.mem_of_getElem? (i := 9) rfl)) (fun _ h9 => h9) rfl dX5_copyFrom_54 ?_
  refine lv_iconst (v := 0) hx hb dX5_copyFrom_57 (by decide) ?_
  refine lv_aload_n hx hb dX5_copyFrom_58 rfl (lv_at hl 0 rfl) ?_
  refine va_get (D := g) (ci := 4) (v := .ref a4) (C := RX5) (T := TX5) (N := 8) hx hb hts hi_wsX50 hown hK hP 0 rfl rfl 4 (by decide) (hts (.fieldLink RX5 22 "FloodBarrier$Sections" "life" "[I") (List.mem_of_getElem? (i := 9) rfl)) (fun _ h9 => h9) rfl dX5_copyFrom_59 ?_
  refine lv_iconst (v := 0) hx hb dX5_copyFrom_62 (by decide) ?_
  refine lv_bipush (v := 8) hx hb dX5_copyFrom_63 (by decide) ?_
  refine z_copyI (ct := ct) (N := 8) (f := li2) (h := li) hx hb (hml.trans hl.1.symm) hown (hts (.methodLink RX5 38 arraycopyName) (List.mem_of_getElem? (i := 3) rfl)) (hts (.native arraycopyName) (List.mem_of_getElem? (i := 4) rfl)) (hts (.static arraycopyName) (List.mem_of_getElem? (i := 5) rfl)) (hts (.initialized "java/lang/System") (List.mem_of_getElem? (i := 6) rfl)) hK hP hD hS 12 4 rfl rfl (by decide) (by decide) (Nat.le_of_ble_eq_true rfl) (Nat.le_of_ble_eq_true rfl) dX5_copyFrom_65 (fun H locs hP hD hS => ?_)
  have hP : va_P g vwCl [zO a0 4 [.int (nI n2), .ref a1, .ref a2, .ref a3, .ref a4, .ref a5, .ref a6, .ref a7], zI ct a1 8 wi2, zE ct a2 8 cr2, zI ct a3 8 ho2, zI ct a4 8 li2, zI ct a5 8 co, zI ct a6 8 le, zI ct a7 8 cs, zO c0 4 [.int (nI n2), .ref c1, .ref c2, .ref c3, .ref c4, .ref c5, .ref c6, .ref c7], zI ct c1 8 wi2, zE ct c2 8 cr2, zI ct c3 8 ho2, zI ct c4 8 li2, zI ct c5 8 co2, zI ct c6 8 le2, zI ct c7 8 cs2] H := hP
  have hD : va_D A [zO a0 4 [.int (nI n2), .ref a1, .ref a2, .ref a3, .ref a4, .ref a5, .ref a6, .ref a7], zI ct a1 8 wi2, zE ct a2 8 cr2, zI ct a3 8 ho2, zI ct a4 8 li2, zI ct a5 8 co, zI ct a6 8 le, zI ct a7 8 cs, zO c0 4 [.int (nI n2), .ref c1, .ref c2, .ref c3, .ref c4, .ref c5, .ref c6, .ref c7], zI ct c1 8 wi2, zE ct c2 8 cr2, zI ct c3 8 ho2, zI ct c4 8 li2, zI ct c5 8 co2, zI ct c6 8 le2, zI ct c7 8 cs2] := hD
  refine lv_aload_n hx hb dX5_copyFrom_68 rfl (lv_at hl 1 rfl) ?_
  refine va_get (D := g) (ci := 4) (v := .ref c5) (C := RX5) (T := TX5) (N := 8) hx hb hts hi_wsX50 hown hK hP 8 rfl rfl 5 (by decide) (hts (.fieldLink RX5 25 "FloodBarrier$Sections" "condition" "[I") (List.mem_of_getElem? (i := 10) rfl)) (fun _ h9 => h9) rfl dX5_copyFrom_69 ?_
  refine lv_iconst (v := 0) hx hb dX5_copyFrom_72 (by decide) ?_
  refine lv_aload_n hx hb dX5_copyFrom_73 rfl (lv_at hl 0 rfl) ?_
  refine va_get (D := g) (ci := 4) (v := .ref a5) (C := RX5) (T := TX5) (N := 8) hx hb hts hi_wsX50 hown hK hP 0 rfl rfl 5 (by decide) (hts (.fieldLink RX5 25 "FloodBarrier$Sections" "condition" "[I") (List.mem_of_getElem? (i := 10) rfl)) (fun _ h9 => h9) rfl dX5_copyFrom_74 ?_
  refine lv_iconst (v := 0) hx hb dX5_copyFrom_77 (by decide) ?_
  refine lv_bipush (v := 8) hx hb dX5_copyFrom_78 (by decide) ?_
  refine z_copyI (ct := ct) (N := 8) (f := co2) (h := co) hx hb (hml.trans hl.1.symm) hown (hts (.methodLink RX5 38 arraycopyName) (List.mem_of_getElem? (i := 3) rfl)) (hts (.native arraycopyName) (List.mem_of_getElem? (i := 4) rfl)) (hts (.static arraycopyName) (List.mem_of_getElem? (i := 5) rfl)) (hts (.initialized "java/lang/System") (List.mem_of_getElem? (i := 6) rfl)) hK hP hD hS 13 5 rfl rfl (by decide) (by decide) (Nat.le_of_ble_eq_true rfl) (Nat.le_of_ble_eq_true rfl) dX5_copyFrom_80 (fun H locs hP hD hS => ?_)
  have hP : va_P g vwCl [zO a0 4 [.int (nI n2), .ref a1, .ref a2, .ref a3, .ref a4, .ref a5, .ref a6, .ref a7], zI ct a1 8 wi2, zE ct a2 8 cr2, zI ct a3 8 ho2, zI ct a4 8 li2, zI ct a5 8 co2, zI ct a6 8 le, zI ct a7 8 cs, zO c0 4 [.int (nI n2), .ref c1, .ref c2, .ref c3, .ref c4, .ref c5, .ref c6, .ref c7], zI ct c1 8 wi2, zE ct c2 8 cr2, zI ct c3 8 ho2, zI ct c4 8 li2, zI ct c5 8 co2, zI ct c6 8 le2, zI ct c7 8 cs2] H := hP
  have hD : va_D A [zO a0 4 [.int (nI n2), .ref a1, .ref a2, .ref a3, .ref a4, .ref a5, .ref a6, .ref a7], zI ct a1 8 wi2, zE ct a2 8 cr2, zI ct a3 8 ho2, zI ct a4 8 li2, zI ct a5 8 co2, zI ct a6 8 le, zI ct a7 8 cs, zO c0 4 [.int (nI n2), .ref c1, .ref c2, .ref c3, .ref c4, .ref c5, .ref c6, .ref c7], zI ct c1 8 wi2, zE ct c2 8 cr2, zI ct c3 8 ho2, zI ct c4 8 li2, zI ct c5 8 co2, zI ct c6 8 le2, zI ct c7 8 cs2] := hD
  refine lv_aload_n hx hb dX5_copyFrom_83 rfl (lv_at hl 1 rfl) ?_
  refine va_get (D := g) (ci := 4) (v := .ref c6) (C := RX5) (T := TX5) (N := 8) hx hb hts hi_wsX50 hown hK hP 8 rfl rfl 6 (by decide) (hts (.fieldLink RX5 28 "FloodBarrier$Sections" "left" "[I") (List.mem_of_getElem? (i := 11) rfl)) (fun _ h9 => h9) rfl dX5_copyFrom_84 ?_
  refine lv_iconst (v := 0) hx hb dX5_copyFrom_87 (by decide) ?_
  refine lv_aload_n hx hb dX5_copyFrom_88 rfl (lv_at hl 0 rfl) ?_
  refine va_get (D := g) (ci := 4) (v := .ref a6) (C := RX5) (T := TX5) (N := 8) hx hb hts hi_wsX50 hown hK hP 0 rfl rfl 6 (by decide) (hts (.fieldLink RX5 28 "FloodBarrier$Sections" "left" "[I") (List.mem_of_getElem? (i := 11) rfl)) (fun _ h9 => h9) rfl dX5_copyFrom_89 ?_
  refine lv_iconst (v := 0) hx hb dX5_copyFrom_92 (by decide) ?_
  refine lv_bipush (v := 8) hx hb dX5_copyFrom_93 (by decide) ?_
  refine z_copyI (ct := ct) (N := 8) (f := le2) (h := le) hx hb (hml.trans hl.1.symm) hown (hts (.methodLink RX5 38 arraycopyName) (List.mem_of_getElem? (i := 3) rfl)) (hts (.native arraycopyName) (List.mem_of_getElem? (i := 4) rfl)) (hts (.static arraycopyName) (List.mem_of_getElem? (i := 5) rfl)) (hts (.initialized "java/lang/System") (List.mem_of_getElem? (i := 6) rfl)) hK hP hD hS 14 6 rfl rfl (by decide) (by decide) (Nat.le_of_ble_eq_true rfl) (Nat.le_of_ble_eq_true rfl) dX5_copyFrom_95 (fun H locs hP hD hS => ?_)
  have hP : va_P g vwCl [zO a0 4 [.int (nI n2), .ref a1, .ref a2, .ref a3, .ref a4, .ref a5, .ref a6, .ref a7], zI ct a1 8 wi2, zE ct a2 8 cr2, zI ct a3 8 ho2, zI ct a4 8 li2, zI ct a5 8 co2, zI ct a6 8 le2, zI ct a7 8 cs, zO c0 4 [.int (nI n2), .ref c1, .ref c2, .ref c3, .ref c4, .ref c5, .ref c6, .ref c7], zI ct c1 8 wi2, zE ct c2 8 cr2, zI ct c3 8 ho2, zI ct c4 8 li2, zI ct c5 8 co2, zI ct c6 8 le2, zI ct c7 8 cs2] H := hP
  have hD : va_D A [zO a0 4 [.int (nI n2), .ref a1, .ref a2, .ref a3, .ref a4, .ref a5, .ref a6, .ref a7], zI ct a1 8 wi2, zE ct a2 8 cr2, zI ct a3 8 ho2, zI ct a4 8 li2, zI ct a5 8 co2, zI ct a6 8 le2, zI ct a7 8 cs, zO c0 4 [.int (nI n2), .ref c1, .ref c2, .ref c3, .ref c4, .ref c5, .ref c6, .ref c7], zI ct c1 8 wi2, zE ct c2 8 cr2, zI ct c3 8 ho2, zI ct c4 8 li2, zI ct c5 8 co2, zI ct c6 8 le2, zI ct c7 8 cs2] := hD
  refine lv_aload_n hx hb dX5_copyFrom_98 rfl (lv_at hl 1 rfl) ?_
  refine va_get (D := g) (ci := 4) (v := .ref c7) (C := RX5) (T := TX5) (N := 8) hx hb hts hi_wsX50 hown hK hP 8 rfl rfl 7 (by decide) (hts (.fieldLink RX5 31 "FloodBarrier$Sections" "closings" "[I") (List.mem_of_getElem? (i := 12) rfl)) (fun _ h9 => h9) rfl dX5_copyFrom_99 ?_
  refine lv_iconst (v := 0) hx hb dX5_copyFrom_102 (by decide) ?_
  refine lv_aload_n hx hb dX5_copyFrom_103 rfl (lv_at hl 0 rfl) ?_
  refine va_get (D := g) (ci := 4) (v := .ref a7) (C := RX5) (T := TX5) (N := 8) hx hb hts hi_wsX50 hown hK hP 0 rfl rfl 7 (by decide) (hts (.fieldLink RX5 31 "FloodBarrier$Sections" "closings" "[I") (List.mem_of_getElem? (i := 12) rfl)) (fun _ h9 => h9) rfl dX5_copyFrom_104 ?_
  refine lv_iconst (v := 0) hx hb dX5_copyFrom_107 (by decide) ?_
  refine lv_bipush (v := 8) hx hb dX5_copyFrom_108 (by decide) ?_
  refine z_copyI (ct := ct) (N := 8) (f := cs2) (h := cs) hx hb (hml.trans hl.1.symm) hown (hts (.methodLink RX5 38 arraycopyName) (List.mem_of_getElem? (i := 3) rfl)) (hts (.native arraycopyName) (List.mem_of_getElem? (i := 4) rfl)) (hts (.static arraycopyName) (List.mem_of_getElem? (i := 5) rfl)) (hts (.initialized "java/lang/System") (List.mem_of_getElem? (i := 6) rfl)) hK hP hD hS 15 7 rfl rfl (by decide) (by decide) (Nat.le_of_ble_eq_true rfl) (Nat.le_of_ble_eq_true rfl) dX5_copyFrom_110 (fun H locs hP hD hS => ?_)
  have hP : va_P g vwCl [zO a0 4 [.int (nI n2), .ref a1, .ref a2, .ref a3, .ref a4, .ref a5, .ref a6, .ref a7], zI ct a1 8 wi2, zE ct a2 8 cr2, zI ct a3 8 ho2, zI ct a4 8 li2, zI ct a5 8 co2, zI ct a6 8 le2, zI ct a7 8 cs2, zO c0 4 [.int (nI n2), .ref c1, .ref c2, .ref c3, .ref c4, .ref c5, .ref c6, .ref c7], zI ct c1 8 wi2, zE ct c2 8 cr2, zI ct c3 8 ho2, zI ct c4 8 li2, zI ct c5 8 co2, zI ct c6 8 le2, zI ct c7 8 cs2] H := hP
  have hD : va_D A [zO a0 4 [.int (nI n2), .ref a1, .ref a2, .ref a3, .ref a4, .ref a5, .ref a6, .ref a7], zI ct a1 8 wi2, zE ct a2 8 cr2, zI ct a3 8 ho2, zI ct a4 8 li2, zI ct a5 8 co2, zI ct a6 8 le2, zI ct a7 8 cs2, zO c0 4 [.int (nI n2), .ref c1, .ref c2, .ref c3, .ref c4, .ref c5, .ref c6, .ref c7], zI ct c1 8 wi2, zE ct c2 8 cr2, zI ct c3 8 ho2, zI ct c4 8 li2, zI ct c5 8 co2, zI ct c6 8 le2, zI ct c7 8 cs2] := hD
  exact z_vretW hx hb hr hlocks hS hP hD rfl (Nat.le_refl _) (Nat.le_refl _) dX5_copyFrom_113
