abbrev tkP (tx : Nat → Int32) (tn pa : Nat) (x : Int32) : Prop := pa < tn ∧ tx pa = x
def tkA (tx : Nat → Int32) (tn pa : Nat) (x : Int32) : Nat := if tkP tx tn pa x then pa + 1 else pa
abbrev dgT (tx : Nat → Int32) (tn pa : Nat) : Prop := pa < tn ∧ inP (tx pa).toInt64 48 57
def dgA (tx : Nat → Int32) (tn pa : Nat) : Nat := if dgT tx tn pa then pa + 1 else pa
def dgV (tx : Nat → Int32) (tn pa : Nat) : Int32 := if dgT tx tn pa then tx pa - 48 else -5
theorem tkA_le {tx : Nat → Int32} {tn pa : Nat} (x : Int32) (h : pa ≤ tn) : tkA tx tn pa x ≤ tn := by
  unfold tkA
  by_cases c : tkP tx tn pa x
  · rw [if_pos c]; exact c.1
  · rw [if_neg c]; exact h
theorem dgA_le {tx : Nat → Int32} {tn pa : Nat} (h : pa ≤ tn) : dgA tx tn pa ≤ tn := by
  unfold dgA
  by_cases c : dgT tx tn pa
  · rw [if_pos c]; exact c.1
  · rw [if_neg c]; exact h

set_option maxHeartbeats 4000000 in
set_option maxRecDepth 100000 in
theorem c_X10_takes (l : Launch) (g : va_G) (ct : Nat → ClassId) (sz : Nat) (m0 m1 m2 m3 m4 m5 m6 m7 m8 m9 : Nat) (n hy sl sp : Nat → Int64) (re rh rs : Nat → UInt64) (kp : Nat) (fl : Int32) (tn : Nat) (tx : Nat → Int32) (pa rn : Nat) (rd : Nat → Int32) (htn : tn ≤ 60) (hpa : pa ≤ tn) (x : Int32) : Met l yX10_takes wsX10_takes (zRm 0 0) (va_Pc [.ref m0, .int x] (zW g ct [zO m0 9 [.ref m1, .ref m2, .ref m3, .ref m4, .ref m5, .ref m6, .ref m7, .int (nI kp), .int fl, .int (nI tn), .ref m8, .int (nI pa), .int (nI rn), .ref m9], zL ct m1 108 n, zL ct m2 540 hy, zL ct m3 108 sl, zL ct m4 108 sp, zD ct m5 33 re, zD ct m6 165 rh, zD ct m7 33 rs, zC ct m8 60 tx, zI ct m9 17 rd] sz)) (zQi g [zO m0 9 [.ref m1, .ref m2, .ref m3, .ref m4, .ref m5, .ref m6, .ref m7, .int (nI kp), .int fl, .int (nI tn), .ref m8, .int (nI (tkA tx tn pa x)), .int (nI rn), .ref m9], zL ct m1 108 n, zL ct m2 540 hy, zL ct m3 108 sl, zL ct m4 108 sp, zD ct m5 33 re, zD ct m6 165 rh, zD ct m7 33 rs, zC ct m8 60 tx, zI ct m9 17 rd] (if tkP tx tn pa x then 1 else 0) (va_A [zO m0 9 [.ref m1, .ref m2, .ref m3, .ref m4, .ref m5, .ref m6, .ref m7, .int (nI kp), .int fl, .int (nI tn), .ref m8, .int (nI pa), .int (nI rn), .ref m9], zL ct m1 108 n, zL ct m2 540 hy, zL ct m3 108 sl, zL ct m4 108 sp, zD ct m5 33 re, zD ct m6 165 rh, zD ct m7 33 rs, zC ct m8 60 tx, zI ct m9 17 rd] sz)) 0 0 (va_A [zO m0 9 [.ref m1, .ref m2, .ref m3, .ref m4, .ref m5, .ref m6, .ref m7, .int (nI kp), .int fl, .int (nI tn), .ref m8, .int (nI pa), .int (nI rn), .ref m9], zL ct m1 108 n, zL ct m2 540 hy, zL ct m3 108 sl, zL ct m4 108 sp, zD ct m5 33 re, zD ct m6 165 rh, zD ct m7 33 rs, zC ct m8 60 tx, zI ct m9 17 rd] sz) := by
  refine z_write (QA := zQi g [zO m0 9 [.ref m1, .ref m2, .ref m3, .ref m4, .ref m5, .ref m6, .ref m7, .int (nI kp), .int fl, .int (nI tn), .ref m8, .int (nI (tkA tx tn pa x)), .int (nI rn), .ref m9], zL ct m1 108 n, zL ct m2 540 hy, zL ct m3 108 sl, zL ct m4 108 sp, zD ct m5 33 re, zD ct m6 165 rh, zD ct m7 33 rs, zC ct m8 60 tx, zI ct m9 17 rd] (if tkP tx tn pa x then 1 else 0)) (cc := cX10_takes) (maxL := 2) (ret := some .boolean) (by decide) rfl (Nat.le_of_ble_eq_true rfl) ?_
  intro p e s m below meth c ls A hx hb hr hml hts hown hlocks hin hP hK hD hNW hA hS hl
  have hown : s.vm.findClass RX10 = some m.cls := hown
  have hl : lv_has ls 2 [(0, .ref m0), (1, .int x)] := hl
  have hi_wsX100 : ∀ w ∈ wsX100, w ∈ wsX10_takes := fun w h => List.mem_cons_of_mem _ (List.mem_append_right _ h)
  refine lv_aload_n hx hb dX10_takes_0 rfl (lv_at hl 0 rfl) ?_
  refine va_get (D := g) (ci := 9) (v := .int (nI pa)) (C := RX10) (T := TX10) (N := 14) hx hb hts hi_wsX100 hown hK hP 0 rfl rfl 11 (by decide) (hts (.fieldLink RX10 183 "FloodBarrierModel" "at" "I") (List.mem_of_getElem? (i := 1) rfl)) (fun _ h9 => h9) rfl dX10_takes_1 ?_
  refine lv_aload_n hx hb dX10_takes_4 rfl (lv_at hl 0 rfl) ?_
  refine va_get (D := g) (ci := 9) (v := .int (nI tn)) (C := RX10) (T := TX10) (N := 14) hx hb hts hi_wsX100 hown hK hP 0 rfl rfl 9 (by decide) (hts (.fieldLink RX10 180 "FloodBarrierModel" "typed" "I") (List.mem_of_getElem? (i := 2) rfl)) (fun _ h9 => h9) rfl dX10_takes_5 ?_
  refine z_icN_ge (x := pa) (y := tn) (tgt := 24) hx hb (by omega) (by omega) dX10_takes_8 (by decide) (fun c_1 => ?_) (fun c_1 => ?_)
  · refine lv_iconst (v := 0) hx hb dX10_takes_24 (by decide) ?_
    exact z_zretW hx hb hr hlocks rfl hS hP hD (by rw [if_neg (show ¬ tkP tx tn pa x from (fun q => c_1 q.1))]) (by rw [show tkA tx tn pa x = _ from if_neg (show ¬ tkP tx tn pa x from (fun q => c_1 q.1))]) (Nat.le_refl _) (Nat.le_refl _) dX10_takes_25
  · refine lv_aload_n hx hb dX10_takes_11 rfl (lv_at hl 0 rfl) ?_
    refine va_get (D := g) (ci := 9) (v := .ref m8) (C := RX10) (T := TX10) (N := 14) hx hb hts hi_wsX100 hown hK hP 0 rfl rfl 10 (by decide) (hts (.fieldLink RX10 32 "FloodBarrierModel" "text" "[C") (List.mem_of_getElem? (i := 3) rfl)) (fun _ h9 => h9) rfl dX10_takes_12 ?_
    refine lv_aload_n hx hb dX10_takes_15 rfl (lv_at hl 0 rfl) ?_
    refine va_get (D := g) (ci := 9) (v := .int (nI pa)) (C := RX10) (T := TX10) (N := 14) hx hb hts hi_wsX100 hown hK hP 0 rfl rfl 11 (by decide) (hts (.fieldLink RX10 183 "FloodBarrierModel" "at" "I") (List.mem_of_getElem? (i := 1) rfl)) (fun _ h9 => h9) rfl dX10_takes_16 ?_
    refine z_cald (ct := ct) (f := tx) (k := pa) hx hb hK hP 8 rfl (by omega) (by decide) dX10_takes_19 ?_
    refine lv_iload_n hx hb dX10_takes_20 rfl (lv_at hl 1 rfl) ?_
    refine lv_icmp_eq (tgt := 26) hx hb dX10_takes_21 (by decide) (fun c_2 => ?_) (fun c_2 => ?_)
    · refine lv_aload_n hx hb dX10_takes_26 rfl (lv_at hl 0 rfl) ?_
      refine lv_dup hx hb dX10_takes_27 rfl ?_
      refine va_get (D := g) (ci := 9) (v := .int (nI pa)) (C := RX10) (T := TX10) (N := 14) hx hb hts hi_wsX100 hown hK hP 0 rfl rfl 11 (by decide) (hts (.fieldLink RX10 183 "FloodBarrierModel" "at" "I") (List.mem_of_getElem? (i := 1) rfl)) (fun _ h9 => h9) rfl dX10_takes_28 ?_
      refine lv_iconst (v := 1) hx hb dX10_takes_31 (by decide) ?_
      refine z_iaddN (x := pa) (y := 1) hx hb dX10_takes_32 ?_
      refine va_put (D := g) (ci := 9) (v := .int (nI (pa + 1))) (C := RX10) (T := TX10) (N := 14) hx hb hts hi_wsX100 tyX10 tyX10_ok nmX10 hown hK hP hD hS 0 rfl rfl 11 (by decide) (hts (.fieldLink RX10 183 "FloodBarrierModel" "at" "I") (List.mem_of_getElem? (i := 1) rfl)) (fun _ h9 => h9) rfl (tyX10_ok 11 (by decide)) rfl rfl (Nat.le_of_ble_eq_true rfl) dX10_takes_33 (fun H locs hP hD hS => ?_)
      have hP : va_P g vwCl [zO m0 9 [.ref m1, .ref m2, .ref m3, .ref m4, .ref m5, .ref m6, .ref m7, .int (nI kp), .int fl, .int (nI tn), .ref m8, .int (nI (pa + 1)), .int (nI rn), .ref m9], zL ct m1 108 n, zL ct m2 540 hy, zL ct m3 108 sl, zL ct m4 108 sp, zD ct m5 33 re, zD ct m6 165 rh, zD ct m7 33 rs, zC ct m8 60 tx, zI ct m9 17 rd] H := hP
      have hD : va_D A [zO m0 9 [.ref m1, .ref m2, .ref m3, .ref m4, .ref m5, .ref m6, .ref m7, .int (nI kp), .int fl, .int (nI tn), .ref m8, .int (nI (pa + 1)), .int (nI rn), .ref m9], zL ct m1 108 n, zL ct m2 540 hy, zL ct m3 108 sl, zL ct m4 108 sp, zD ct m5 33 re, zD ct m6 165 rh, zD ct m7 33 rs, zC ct m8 60 tx, zI ct m9 17 rd] := hD
      refine lv_iconst (v := 1) hx hb dX10_takes_36 (by decide) ?_
      exact z_zretW hx hb hr hlocks rfl hS hP hD (by rw [if_pos (show tkP tx tn pa x from ⟨c_1, c_2⟩)]) (by rw [show tkA tx tn pa x = _ from if_pos (show tkP tx tn pa x from ⟨c_1, c_2⟩)]) (Nat.le_refl _) (Nat.le_refl _) dX10_takes_37
    · refine lv_iconst (v := 0) hx hb dX10_takes_24 (by decide) ?_
      exact z_zretW hx hb hr hlocks rfl hS hP hD (by rw [if_neg (show ¬ tkP tx tn pa x from (fun q => c_2 q.2))]) (by rw [show tkA tx tn pa x = _ from if_neg (show ¬ tkP tx tn pa x from (fun q => c_2 q.2))]) (Nat.le_refl _) (Nat.le_refl _) dX10_takes_25

set_option maxHeartbeats 4000000 in
set_option maxRecDepth 100000 in
theorem c_X10_digit (l : Launch) (g : va_G) (ct : Nat → ClassId) (sz : Nat) (m0 m1 m2 m3 m4 m5 m6 m7 m8 m9 : Nat) (n hy sl sp : Nat → Int64) (re rh rs : Nat → UInt64) (kp : Nat) (fl : Int32) (tn : Nat) (tx : Nat → Int32) (pa rn : Nat) (rd : Nat → Int32) (htn : tn ≤ 60) (hpa : pa ≤ tn) : Met l yX10_digit wsX10_digit (zRm 1 25) (va_Pc [.ref m0] (zW g ct [zO m0 9 [.ref m1, .ref m2, .ref m3, .ref m4, .ref m5, .ref m6, .ref m7, .int (nI kp), .int fl, .int (nI tn), .ref m8, .int (nI pa), .int (nI rn), .ref m9], zL ct m1 108 n, zL ct m2 540 hy, zL ct m3 108 sl, zL ct m4 108 sp, zD ct m5 33 re, zD ct m6 165 rh, zD ct m7 33 rs, zC ct m8 60 tx, zI ct m9 17 rd] sz)) (zQi g [zO m0 9 [.ref m1, .ref m2, .ref m3, .ref m4, .ref m5, .ref m6, .ref m7, .int (nI kp), .int fl, .int (nI tn), .ref m8, .int (nI (dgA tx tn pa)), .int (nI rn), .ref m9], zL ct m1 108 n, zL ct m2 540 hy, zL ct m3 108 sl, zL ct m4 108 sp, zD ct m5 33 re, zD ct m6 165 rh, zD ct m7 33 rs, zC ct m8 60 tx, zI ct m9 17 rd] (dgV tx tn pa) (va_A [zO m0 9 [.ref m1, .ref m2, .ref m3, .ref m4, .ref m5, .ref m6, .ref m7, .int (nI kp), .int fl, .int (nI tn), .ref m8, .int (nI pa), .int (nI rn), .ref m9], zL ct m1 108 n, zL ct m2 540 hy, zL ct m3 108 sl, zL ct m4 108 sp, zD ct m5 33 re, zD ct m6 165 rh, zD ct m7 33 rs, zC ct m8 60 tx, zI ct m9 17 rd] sz)) 0 0 (va_A [zO m0 9 [.ref m1, .ref m2, .ref m3, .ref m4, .ref m5, .ref m6, .ref m7, .int (nI kp), .int fl, .int (nI tn), .ref m8, .int (nI pa), .int (nI rn), .ref m9], zL ct m1 108 n, zL ct m2 540 hy, zL ct m3 108 sl, zL ct m4 108 sp, zD ct m5 33 re, zD ct m6 165 rh, zD ct m7 33 rs, zC ct m8 60 tx, zI ct m9 17 rd] sz) := by
  refine z_write (QA := zQi g [zO m0 9 [.ref m1, .ref m2, .ref m3, .ref m4, .ref m5, .ref m6, .ref m7, .int (nI kp), .int fl, .int (nI tn), .ref m8, .int (nI (dgA tx tn pa)), .int (nI rn), .ref m9], zL ct m1 108 n, zL ct m2 540 hy, zL ct m3 108 sl, zL ct m4 108 sp, zD ct m5 33 re, zD ct m6 165 rh, zD ct m7 33 rs, zC ct m8 60 tx, zI ct m9 17 rd] (dgV tx tn pa)) (cc := cX10_digit) (maxL := 1) (ret := some .int) (by decide) rfl (Nat.le_of_ble_eq_true rfl) ?_
  intro p e s m below meth c ls A hx hb hr hml hts hown hlocks hin hP hK hD hNW hA hS hl
  have hown : s.vm.findClass RX10 = some m.cls := hown
  have hl : lv_has ls 1 [(0, .ref m0)] := hl
  have hi_wsX100 : ∀ w ∈ wsX100, w ∈ wsX10_digit := fun w h => List.mem_cons_of_mem _ (List.mem_append_right _ h)
  refine lv_aload_n hx hb dX10_digit_0 rfl (lv_at hl 0 rfl) ?_
  refine va_get (D := g) (ci := 9) (v := .int (nI pa)) (C := RX10) (T := TX10) (N := 14) hx hb hts hi_wsX100 hown hK hP 0 rfl rfl 11 (by decide) (hts (.fieldLink RX10 183 "FloodBarrierModel" "at" "I") (List.mem_of_getElem? (i := 1) rfl)) (fun _ h9 => h9) rfl dX10_digit_1 ?_
  refine lv_aload_n hx hb dX10_digit_4 rfl (lv_at hl 0 rfl) ?_
  refine va_get (D := g) (ci := 9) (v := .int (nI tn)) (C := RX10) (T := TX10) (N := 14) hx hb hts hi_wsX100 hown hK hP 0 rfl rfl 9 (by decide) (hts (.fieldLink RX10 180 "FloodBarrierModel" "typed" "I") (List.mem_of_getElem? (i := 2) rfl)) (fun _ h9 => h9) rfl dX10_digit_5 ?_
  refine z_icN_ge (x := pa) (y := tn) (tgt := 33) hx hb (by omega) (by omega) dX10_digit_8 (by decide) (fun c_1 => ?_) (fun c_1 => ?_)
  · refine lv_bipush (v := (-5)) hx hb dX10_digit_33 (by decide) ?_
    exact z_iretW hx hb hr hlocks hS hP hD (by rw [show dgV tx tn pa = _ from if_neg (show ¬ dgT tx tn pa from (fun q => c_1 q.1))]) (by rw [show dgA tx tn pa = _ from if_neg (show ¬ dgT tx tn pa from (fun q => c_1 q.1))]) (Nat.le_refl _) (Nat.le_refl _) dX10_digit_35
  · refine lv_aload_n hx hb dX10_digit_11 rfl (lv_at hl 0 rfl) ?_
    refine va_get (D := g) (ci := 9) (v := .ref m8) (C := RX10) (T := TX10) (N := 14) hx hb hts hi_wsX100 hown hK hP 0 rfl rfl 10 (by decide) (hts (.fieldLink RX10 32 "FloodBarrierModel" "text" "[C") (List.mem_of_getElem? (i := 3) rfl)) (fun _ h9 => h9) rfl dX10_digit_12 ?_
    refine lv_aload_n hx hb dX10_digit_15 rfl (lv_at hl 0 rfl) ?_
    refine va_get (D := g) (ci := 9) (v := .int (nI pa)) (C := RX10) (T := TX10) (N := 14) hx hb hts hi_wsX100 hown hK hP 0 rfl rfl 11 (by decide) (hts (.fieldLink RX10 183 "FloodBarrierModel" "at" "I") (List.mem_of_getElem? (i := 1) rfl)) (fun _ h9 => h9) rfl dX10_digit_16 ?_
    refine z_cald (ct := ct) (f := tx) (k := pa) hx hb hK hP 8 rfl (by omega) (by decide) dX10_digit_19 ?_
    refine lv_i2l (v := (tx pa).toInt64) hx hb dX10_digit_20 rfl ?_
    refine lv_ldc2 (v := 48) hx hb hown (hts (.constantLong RX10 175 (48)) (List.mem_of_getElem? (i := 4) rfl)) dX10_digit_21 ?_
    refine lv_ldc2 (v := 57) hx hb hown (hts (.constantLong RX10 186 (57)) (List.mem_of_getElem? (i := 5) rfl)) dX10_digit_24 ?_
    refine z_cSi (As := [.long ((tx pa).toInt64), .long 48, .long 57]) (rest := []) ⟨hx, hb, hml, hown, hts⟩ (c_X10_in l ((tx pa).toInt64) 48 57) (va_cwS 3 hts gX10_digit_X10_in rfl rfl rfl (by decide +kernel) ⟨Nat.le_of_ble_eq_true rfl, Nat.le_of_ble_eq_true rfl⟩) rfl hl.1 rfl (Nat.le_of_ble_eq_true rfl) dX10_digit_27 ⟨Nat.zero_le _, Nat.zero_le _⟩ ?_
    refine z_bif_ne (P := (inP ((tx pa).toInt64) 48 57)) (tgt := 36) hx hb dX10_digit_30 (by decide) (fun c_2 => ?_) (fun c_2 => ?_)
    · refine lv_aload_n hx hb dX10_digit_36 rfl (lv_at hl 0 rfl) ?_
      refine lv_dup hx hb dX10_digit_37 rfl ?_
      refine va_get (D := g) (ci := 9) (v := .int (nI pa)) (C := RX10) (T := TX10) (N := 14) hx hb hts hi_wsX100 hown hK hP 0 rfl rfl 11 (by decide) (hts (.fieldLink RX10 183 "FloodBarrierModel" "at" "I") (List.mem_of_getElem? (i := 1) rfl)) (fun _ h9 => h9) rfl dX10_digit_38 ?_
      refine lv_iconst (v := 1) hx hb dX10_digit_41 (by decide) ?_
      refine z_iaddN (x := pa) (y := 1) hx hb dX10_digit_42 ?_
      refine va_put (D := g) (ci := 9) (v := .int (nI (pa + 1))) (C := RX10) (T := TX10) (N := 14) hx hb hts hi_wsX100 tyX10 tyX10_ok nmX10 hown hK hP hD hS 0 rfl rfl 11 (by decide) (hts (.fieldLink RX10 183 "FloodBarrierModel" "at" "I") (List.mem_of_getElem? (i := 1) rfl)) (fun _ h9 => h9) rfl (tyX10_ok 11 (by decide)) rfl rfl (Nat.le_of_ble_eq_true rfl) dX10_digit_43 (fun H locs hP hD hS => ?_)
      have hP : va_P g vwCl [zO m0 9 [.ref m1, .ref m2, .ref m3, .ref m4, .ref m5, .ref m6, .ref m7, .int (nI kp), .int fl, .int (nI tn), .ref m8, .int (nI (pa + 1)), .int (nI rn), .ref m9], zL ct m1 108 n, zL ct m2 540 hy, zL ct m3 108 sl, zL ct m4 108 sp, zD ct m5 33 re, zD ct m6 165 rh, zD ct m7 33 rs, zC ct m8 60 tx, zI ct m9 17 rd] H := hP
      have hD : va_D A [zO m0 9 [.ref m1, .ref m2, .ref m3, .ref m4, .ref m5, .ref m6, .ref m7, .int (nI kp), .int fl, .int (nI tn), .ref m8, .int (nI (pa + 1)), .int (nI rn), .ref m9], zL ct m1 108 n, zL ct m2 540 hy, zL ct m3 108 sl, zL ct m4 108 sp, zD ct m5 33 re, zD ct m6 165 rh, zD ct m7 33 rs, zC ct m8 60 tx, zI ct m9 17 rd] := hD
      refine lv_aload_n hx hb dX10_digit_46 rfl (lv_at hl 0 rfl) ?_
      refine va_get (D := g) (ci := 9) (v := .ref m8) (C := RX10) (T := TX10) (N := 14) hx hb hts hi_wsX100 hown hK hP 0 rfl rfl 10 (by decide) (hts (.fieldLink RX10 32 "FloodBarrierModel" "text" "[C") (List.mem_of_getElem? (i := 3) rfl)) (fun _ h9 => h9) rfl dX10_digit_47 ?_
      refine lv_aload_n hx hb dX10_digit_50 rfl (lv_at hl 0 rfl) ?_
      refine va_get (D := g) (ci := 9) (v := .int (nI (pa + 1))) (C := RX10) (T := TX10) (N := 14) hx hb hts hi_wsX100 hown hK hP 0 rfl rfl 11 (by decide) (hts (.fieldLink RX10 183 "FloodBarrierModel" "at" "I") (List.mem_of_getElem? (i := 1) rfl)) (fun _ h9 => h9) rfl dX10_digit_51 ?_
      refine lv_iconst (v := 1) hx hb dX10_digit_54 (by decide) ?_
      refine z_isubN (x := (pa + 1)) (y := 1) hx hb (by omega) dX10_digit_55 ?_
      rw [Nat.add_sub_cancel]
      refine z_cald (ct := ct) (f := tx) (k := pa) hx hb hK hP 8 rfl (by omega) (by decide) dX10_digit_56 ?_
      refine lv_bipush (v := 48) hx hb dX10_digit_57 (by decide) ?_
      refine lv_isub hx hb dX10_digit_59 ?_
      exact z_iretW hx hb hr hlocks hS hP hD (by rw [show dgV tx tn pa = _ from if_pos (show dgT tx tn pa from ⟨c_1, c_2⟩)]) (by rw [show dgA tx tn pa = _ from if_pos (show dgT tx tn pa from ⟨c_1, c_2⟩)]) (Nat.le_refl _) (Nat.le_refl _) dX10_digit_60
    · refine lv_bipush (v := (-5)) hx hb dX10_digit_33 (by decide) ?_
      exact z_iretW hx hb hr hlocks hS hP hD (by rw [show dgV tx tn pa = _ from if_neg (show ¬ dgT tx tn pa from (fun q => c_2 q.2))]) (by rw [show dgA tx tn pa = _ from if_neg (show ¬ dgT tx tn pa from (fun q => c_2 q.2))]) (Nat.le_refl _) (Nat.le_refl _) dX10_digit_35
