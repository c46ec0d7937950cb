def rsT (tx : Nat → Int32) (tn : Nat) (rd : Nat → Int32) (k : Nat) : Nat × Nat × (Nat → Int32) := lp (fun _ t => (if rlA tx tn t.1 < tn then rlA tx tn t.1 + 1 else rlA tx tn t.1 + 0, rlC tx tn t.1 t.2.1, rlD tx tn t.1 t.2.1 t.2.2)) k (0, 0, rd)
theorem rsT_s (tx : Nat → Int32) (tn : Nat) (rd : Nat → Int32) (k : Nat) : rsT tx tn rd (k + 1) = (if rlA tx tn (rsT tx tn rd k).1 < tn then rlA tx tn (rsT tx tn rd k).1 + 1 else rlA tx tn (rsT tx tn rd k).1 + 0, rlC tx tn (rsT tx tn rd k).1 (rsT tx tn rd k).2.1, rlD tx tn (rsT tx tn rd k).1 (rsT tx tn rd k).2.1 (rsT tx tn rd k).2.2) := rfl
theorem rsT_le (tx : Nat → Int32) (tn : Nat) (rd : Nat → Int32) (k : Nat) : (rsT tx tn rd k).1 ≤ tn := by
  induction k with
  | zero => exact Nat.zero_le _
  | succ k ih =>
    rw [rsT_s]
    show (if rlA tx tn (rsT tx tn rd k).1 < tn then rlA tx tn (rsT tx tn rd k).1 + 1 else rlA tx tn (rsT tx tn rd k).1 + 0) ≤ tn
    have := rlA_le (tx := tx) ih
    by_cases c : rlA tx tn (rsT tx tn rd k).1 < tn
    · rw [if_pos c]; exact c
    · rw [if_neg c]; exact this

set_option maxHeartbeats 4000000 in
set_option maxRecDepth 100000 in
theorem c_X10_readTides_u (l : Launch) (g : va_G) (ct : Nat → ClassId) (m0 m1 m2 m3 m4 m5 m6 m7 m8 m9 : Nat) (n hy sl sp : Nat → Int64) (re rh rs : Nat → UInt64) (kp : Nat) (fl : Int32) (tn : Nat) (tx : Nat → Int32) (pa rn : Nat) (rd : Nat → Int32) (x : Int32) (hact : ¬ inP x.toInt64 0 23) : Met l yX10_readTides wsX10_readTides (zRm 1 25) (va_Pc [.ref m0, .int x] (zR g ct [zO m0 9 [.ref m1, .ref m2, .ref m3, .ref m4, .ref m5, .ref m6, .ref m7, .int (nI kp), .int fl, .int (nI tn), .ref m8, .int (nI pa), .int (nI rn), .ref m9], zL ct m1 108 n, zL ct m2 540 hy, zL ct m3 108 sl, zL ct m4 108 sp, zD ct m5 33 re, zD ct m6 165 rh, zD ct m7 33 rs, zC ct m8 60 tx, zI ct m9 17 rd])) (vp_Si (fun r => r = -2)) 0 0 (fun _ => False) := by
  refine z_read (cc := cX10_readTides) (maxL := 4) (ret := some .int) (by decide) rfl (Nat.le_of_ble_eq_true rfl) ?_
  intro p e s m below meth c ls hx hb hr hml hts hown hlocks hP hK hl
  have hown : s.vm.findClass RX10 = some m.cls := hown
  have hl : lv_has ls 4 [(0, .ref m0), (1, .int x)] := hl
  refine lv_iload_n hx hb dX10_readTides_0 rfl (lv_at hl 1 rfl) ?_
  refine lv_i2l (v := x.toInt64) hx hb dX10_readTides_1 rfl ?_
  refine lv_lconst (v := 0) hx hb dX10_readTides_2 (by decide) ?_
  refine lv_ldc2 (v := 23) hx hb hown (hts (.constantLong RX10 122 (23)) (List.mem_of_getElem? (i := 1) rfl)) dX10_readTides_3 ?_
  refine z_cSi (As := [.long x.toInt64, .long 0, .long 23]) (rest := []) ⟨hx, hb, hml, hown, hts⟩ (c_X10_in l x.toInt64 0 23) (va_cwS 3 hts gX10_readTides_X10_in rfl rfl rfl (by decide +kernel) ⟨Nat.le_of_ble_eq_true rfl, Nat.le_of_ble_eq_true rfl⟩) rfl hl.1 rfl (Nat.le_of_ble_eq_true rfl) dX10_readTides_6 ⟨Nat.zero_le _, Nat.zero_le _⟩ ?_
  refine z_bif_ne (P := (inP x.toInt64 0 23)) (tgt := 15) hx hb dX10_readTides_9 (by decide) (fun c_1 => ?_) (fun c_1 => ?_)
  · exact absurd c_1 hact
  · refine lv_bipush (v := (-2)) hx hb dX10_readTides_12 (by decide) ?_
    exact z_iretR hx hb hr hlocks rfl rfl dX10_readTides_14

set_option maxHeartbeats 4000000 in
set_option maxRecDepth 100000 in
theorem c_X10_readTides_f (l : Launch) (g : va_G) (ct : Nat → ClassId) (sz : Nat) (m0 m1 m2 m3 m4 m5 m6 m7 m8 m9 : Nat) (n hy sl sp : Nat → Int64) (re rh rs : Nat → UInt64) (kp : Nat) (fl : Int32) (tn : Nat) (tx : Nat → Int32) (pa rn : Nat) (rd : Nat → Int32) (htn : tn ≤ 60) (k : Nat) (hk : k < 24) (K : Nat) (hK17 : ∀ j, j ≤ K → (rsT tx tn rd j).2.1 < 17) (hgo : ∀ j, j < K → rlZ tx tn (rsT tx tn rd j).1 ∧ rlA tx tn (rsT tx tn rd j).1 < tn) (hf : ¬ rlZ tx tn (rsT tx tn rd K).1) : Met l yX10_readTides wsX10_readTides (zRm 3 68) (va_Pc [.ref m0, .int (nI k)] (zW g ct [zO m0 9 [.ref m1, .ref m2, .ref m3, .ref m4, .ref m5, .ref m6, .ref m7, .int (nI kp), .int fl, .int (nI tn), .ref m8, .int (nI pa), .int (nI rn), .ref m9], zL ct m1 108 n, zL ct m2 540 hy, zL ct m3 108 sl, zL ct m4 108 sp, zD ct m5 33 re, zD ct m6 165 rh, zD ct m7 33 rs, zC ct m8 60 tx, zI ct m9 17 rd] sz)) (zQi g [zO m0 9 [.ref m1, .ref m2, .ref m3, .ref m4, .ref m5, .ref m6, .ref m7, .int (nI kp), .int fl, .int (nI tn), .ref m8, .int (nI (rlA tx tn (rsT tx tn rd K).1)), .int (nI (rlC tx tn (rsT tx tn rd K).1 (rsT tx tn rd K).2.1)), .ref m9], zL ct m1 108 n, zL ct m2 540 hy, zL ct m3 108 sl, zL ct m4 108 sp, zD ct m5 33 re, zD ct m6 165 rh, zD ct m7 33 rs, zC ct m8 60 tx, zI ct m9 17 (rlD tx tn (rsT tx tn rd K).1 (rsT tx tn rd K).2.1 (rsT tx tn rd K).2.2)] (-100 - nI (rlA tx tn (rsT tx tn rd K).1)) (va_A [zO m0 9 [.ref m1, .ref m2, .ref m3, .ref m4, .ref m5, .ref m6, .ref m7, .int (nI kp), .int fl, .int (nI tn), .ref m8, .int (nI pa), .int (nI rn), .ref m9], zL ct m1 108 n, zL ct m2 540 hy, zL ct m3 108 sl, zL ct m4 108 sp, zD ct m5 33 re, zD ct m6 165 rh, zD ct m7 33 rs, zC ct m8 60 tx, zI ct m9 17 rd] sz)) 0 0 (va_A [zO m0 9 [.ref m1, .ref m2, .ref m3, .ref m4, .ref m5, .ref m6, .ref m7, .int (nI kp), .int fl, .int (nI tn), .ref m8, .int (nI pa), .int (nI rn), .ref m9], zL ct m1 108 n, zL ct m2 540 hy, zL ct m3 108 sl, zL ct m4 108 sp, zD ct m5 33 re, zD ct m6 165 rh, zD ct m7 33 rs, zC ct m8 60 tx, zI ct m9 17 rd] sz) := by
  refine z_write (QA := zQi g [zO m0 9 [.ref m1, .ref m2, .ref m3, .ref m4, .ref m5, .ref m6, .ref m7, .int (nI kp), .int fl, .int (nI tn), .ref m8, .int (nI (rlA tx tn (rsT tx tn rd K).1)), .int (nI (rlC tx tn (rsT tx tn rd K).1 (rsT tx tn rd K).2.1)), .ref m9], zL ct m1 108 n, zL ct m2 540 hy, zL ct m3 108 sl, zL ct m4 108 sp, zD ct m5 33 re, zD ct m6 165 rh, zD ct m7 33 rs, zC ct m8 60 tx, zI ct m9 17 (rlD tx tn (rsT tx tn rd K).1 (rsT tx tn rd K).2.1 (rsT tx tn rd K).2.2)] (-100 - nI (rlA tx tn (rsT tx tn rd K).1))) (cc := cX10_readTides) (maxL := 4) (ret := some .int) (by decide) rfl (Nat.le_of_ble_eq_true rfl) ?_
  intro p e s m below meth c ls A hx hb hr hml hts hown hlocks hin hP hK hD hNW hA hS hl
  have hown : s.vm.findClass RX10 = some m.cls := hown
  have hl : lv_has ls 4 [(0, .ref m0), (1, .int (nI k))] := hl
  have hi_wsX100 : ∀ w ∈ wsX100, w ∈ wsX10_readTides := fun w h => List.mem_cons_of_mem _ (List.mem_append_right _ h)
  refine lv_iload_n hx hb dX10_readTides_0 rfl (lv_at hl 1 rfl) ?_
  refine lv_i2l (v := lN k) hx hb dX10_readTides_1 (nI_l (by omega)) ?_
  refine lv_lconst (v := 0) hx hb dX10_readTides_2 (by decide) ?_
  refine lv_ldc2 (v := 23) hx hb hown (hts (.constantLong RX10 122 (23)) (List.mem_of_getElem? (i := 1) rfl)) dX10_readTides_3 ?_
  refine z_cSi (As := [.long (lN k), .long 0, .long 23]) (rest := []) ⟨hx, hb, hml, hown, hts⟩ (c_X10_in l (lN k) 0 23) (va_cwS 3 hts gX10_readTides_X10_in rfl rfl rfl (by decide +kernel) ⟨Nat.le_of_ble_eq_true rfl, Nat.le_of_ble_eq_true rfl⟩) rfl hl.1 rfl (Nat.le_of_ble_eq_true rfl) dX10_readTides_6 ⟨Nat.zero_le _, Nat.zero_le _⟩ ?_
  refine z_bif_ne (P := (inP (lN k) 0 23)) (tgt := 15) hx hb dX10_readTides_9 (by decide) (fun c_1 => ?_) (fun c_1 => ?_)
  · refine lv_aload_n hx hb dX10_readTides_15 rfl (lv_at hl 0 rfl) ?_
    refine lv_iconst (v := 0) hx hb dX10_readTides_16 (by decide) ?_
    refine va_put (D := g) (ci := 9) (v := .int 0) (C := RX10) (T := TX10) (N := 14) hx hb hts hi_wsX100 tyX10 tyX10_ok nmX10 hown hK hP hD hS 0 rfl rfl 11 (by decide) (hts (.fieldLink RX10 183 "FloodBarrierModel" "at" "I") (List.mem_of_getElem? (i := 2) rfl)) (fun _ h9 => h9) rfl (tyX10_ok 11 (by decide)) rfl rfl (Nat.le_of_ble_eq_true rfl) dX10_readTides_17 (fun H locs hP hD hS => ?_)
    have hP : va_P g vwCl [zO m0 9 [.ref m1, .ref m2, .ref m3, .ref m4, .ref m5, .ref m6, .ref m7, .int (nI kp), .int fl, .int (nI tn), .ref m8, .int 0, .int (nI rn), .ref m9], zL ct m1 108 n, zL ct m2 540 hy, zL ct m3 108 sl, zL ct m4 108 sp, zD ct m5 33 re, zD ct m6 165 rh, zD ct m7 33 rs, zC ct m8 60 tx, zI ct m9 17 rd] H := hP
    have hD : va_D A [zO m0 9 [.ref m1, .ref m2, .ref m3, .ref m4, .ref m5, .ref m6, .ref m7, .int (nI kp), .int fl, .int (nI tn), .ref m8, .int 0, .int (nI rn), .ref m9], zL ct m1 108 n, zL ct m2 540 hy, zL ct m3 108 sl, zL ct m4 108 sp, zD ct m5 33 re, zD ct m6 165 rh, zD ct m7 33 rs, zC ct m8 60 tx, zI ct m9 17 rd] := hD
    refine lv_aload_n hx hb dX10_readTides_20 rfl (lv_at hl 0 rfl) ?_
    refine lv_iconst (v := 0) hx hb dX10_readTides_21 (by decide) ?_
    refine va_put (D := g) (ci := 9) (v := .int 0) (C := RX10) (T := TX10) (N := 14) hx hb hts hi_wsX100 tyX10 tyX10_ok nmX10 hown hK hP hD hS 0 rfl rfl 12 (by decide) (hts (.fieldLink RX10 195 "FloodBarrierModel" "readMany" "I") (List.mem_of_getElem? (i := 3) rfl)) (fun _ h9 => h9) rfl (tyX10_ok 12 (by decide)) rfl rfl (Nat.le_of_ble_eq_true rfl) dX10_readTides_22 (fun H locs hP hD hS => ?_)
    have hP : va_P g vwCl [zO m0 9 [.ref m1, .ref m2, .ref m3, .ref m4, .ref m5, .ref m6, .ref m7, .int (nI kp), .int fl, .int (nI tn), .ref m8, .int 0, .int 0, .ref m9], zL ct m1 108 n, zL ct m2 540 hy, zL ct m3 108 sl, zL ct m4 108 sp, zD ct m5 33 re, zD ct m6 165 rh, zD ct m7 33 rs, zC ct m8 60 tx, zI ct m9 17 rd] H := hP
    have hD : va_D A [zO m0 9 [.ref m1, .ref m2, .ref m3, .ref m4, .ref m5, .ref m6, .ref m7, .int (nI kp), .int fl, .int (nI tn), .ref m8, .int 0, .int 0, .ref m9], zL ct m1 108 n, zL ct m2 540 hy, zL ct m3 108 sl, zL ct m4 108 sp, zD ct m5 33 re, zD ct m6 165 rh, zD ct m7 33 rs, zC ct m8 60 tx, zI ct m9 17 rd] := hD
    refine lv_iconst (v := 1) hx hb dX10_readTides_25 (by decide) ?_
    refine lv_istore_n (lv' := [(2, .int 1), (0, .ref m0), (1, .int (nI k))]) hx hb dX10_readTides_26 rfl hl (by decide) rfl (fun ls hl => ?_)
    refine z_loop K (fun k1 H locs ls => va_P g vwCl [zO m0 9 [.ref m1, .ref m2, .ref m3, .ref m4, .ref m5, .ref m6, .ref m7, .int (nI kp), .int fl, .int (nI tn), .ref m8, .int (nI ((rsT tx tn rd k1).1)), .int (nI ((rsT tx tn rd k1).2.1)), .ref m9], zL ct m1 108 n, zL ct m2 540 hy, zL ct m3 108 sl, zL ct m4 108 sp, zD ct m5 33 re, zD ct m6 165 rh, zD ct m7 33 rs, zC ct m8 60 tx, zI ct m9 17 ((rsT tx tn rd k1).2.2)] H ∧ va_D A [zO m0 9 [.ref m1, .ref m2, .ref m3, .ref m4, .ref m5, .ref m6, .ref m7, .int (nI kp), .int fl, .int (nI tn), .ref m8, .int (nI ((rsT tx tn rd k1).1)), .int (nI ((rsT tx tn rd k1).2.1)), .ref m9], zL ct m1 108 n, zL ct m2 540 hy, zL ct m3 108 sl, zL ct m4 108 sp, zD ct m5 33 re, zD ct m6 165 rh, zD ct m7 33 rs, zC ct m8 60 tx, zI ct m9 17 ((rsT tx tn rd k1).2.2)] ∧ va_S A s.heap H locs ∧ lv_has ls 4 [(0, .ref m0), (1, .int (nI k)), (2, .int 1)]) ⟨hP, hD, hS, lv_sub hl [1, 2, 0] rfl⟩ ?_
    intro k1 H locs ls hkk1 hI ihk1
    obtain ⟨hP, hD, hS, hl⟩ := hI
    have hpk := rsT_le tx tn rd k1
    have hrk := hK17 k1 (by omega)
    have hpk2 := rlA_le (tx := tx) hpk
    refine lv_iload_n hx hb dX10_readTides_27 rfl (lv_at hl 2 rfl) ?_
    refine lv_if_eq (tgt := 84) hx hb dX10_readTides_28 (by decide) (fun h => absurd h (by decide)) (fun _ => ?_)
    refine lv_aload_n hx hb dX10_readTides_31 rfl (lv_at hl 0 rfl) ?_
    refine z_wVi (wc := [zO m0 9 [.ref m1, .ref m2, .ref m3, .ref m4, .ref m5, .ref m6, .ref m7, .int (nI kp), .int fl, .int (nI tn), .ref m8, .int (nI ((rsT tx tn rd k1).1)), .int (nI ((rsT tx tn rd k1).2.1)), .ref m9], zL ct m1 108 n, zL ct m2 540 hy, zL ct m3 108 sl, zL ct m4 108 sp, zD ct m5 33 re, zD ct m6 165 rh, zD ct m7 33 rs, zC ct m8 60 tx, zI ct m9 17 ((rsT tx tn rd k1).2.2)]) (wr := []) (w2 := [zO m0 9 [.ref m1, .ref m2, .ref m3, .ref m4, .ref m5, .ref m6, .ref m7, .int (nI kp), .int fl, .int (nI tn), .ref m8, .int (nI (rlA tx tn ((rsT tx tn rd k1).1))), .int (nI (rlC tx tn ((rsT tx tn rd k1).1) ((rsT tx tn rd k1).2.1))), .ref m9], zL ct m1 108 n, zL ct m2 540 hy, zL ct m3 108 sl, zL ct m4 108 sp, zD ct m5 33 re, zD ct m6 165 rh, zD ct m7 33 rs, zC ct m8 60 tx, zI ct m9 17 (rlD tx tn ((rsT tx tn rd k1).1) ((rsT tx tn rd k1).2.1) ((rsT tx tn rd k1).2.2))]) (As := []) (rest := []) ⟨hx, hb, hml, hown, hts⟩ hK hP hD hS hNW hA [0, 1, 2, 3, 4, 5, 6, 7, 8, 9] [] [0, 1, 2, 3, 4, 5, 6, 7, 8, 9] rfl rfl rfl rfl rfl rfl (by decide) (c_X10_readsLevel l g ct _ m0 m1 m2 m3 m4 m5 m6 m7 m8 m9 n hy sl sp re rh rs kp fl tn tx ((rsT tx tn rd k1).1) ((rsT tx tn rd k1).2.1) ((rsT tx tn rd k1).2.2) (by omega) (by omega) (by omega)) (cwV 0 hts gX10_readTides_X10_readsLevel rfl rfl rfl (by decide +kernel) ⟨Nat.le_of_ble_eq_true rfl, Nat.le_of_ble_eq_true rfl⟩) 0 rfl rfl rfl hl.1 rfl (Nat.le_of_ble_eq_true rfl) dX10_readTides_32 ⟨Nat.zero_le _, Nat.zero_le _⟩ (fun H locs hP hD hS => ?_)
    refine z_bif_ne (P := (rlZ tx tn ((rsT tx tn rd k1).1))) (tgt := 46) hx hb dX10_readTides_35 (by decide) (fun c_2 => ?_) (fun c_2 => ?_)
    · have hkK : k1 < K := (Nat.lt_or_ge k1 K).resolve_right (fun q => hf (by rw [show K = k1 by omega]; exact c_2))
      refine lv_aload_n hx hb dX10_readTides_46 rfl (lv_at hl 0 rfl) ?_
      refine va_get (D := g) (ci := 9) (v := .int (nI (rlA tx tn ((rsT tx tn rd k1).1)))) (C := RX10) (T := TX10) (N := 14) hx hb hts hi_wsX100 hown hK hP 0 rfl rfl 11 (by decide) (hts (.fieldLink RX10 183 "FloodBarrierModel" "at" "I") (List.mem_of_getElem? (i := 2) rfl)) (fun _ h9 => h9) rfl dX10_readTides_47 ?_
      refine lv_aload_n hx hb dX10_readTides_50 rfl (lv_at hl 0 rfl) ?_
      refine va_get (D := g) (ci := 9) (v := .int (nI tn)) (C := RX10) (T := TX10) (N := 14) hx hb hts hi_wsX100 hown hK hP 0 rfl rfl 9 (by decide) (hts (.fieldLink RX10 180 "FloodBarrierModel" "typed" "I") (List.mem_of_getElem? (i := 4) rfl)) (fun _ h9 => h9) rfl dX10_readTides_51 ?_
      refine z_icN_ge (x := (rlA tx tn ((rsT tx tn rd k1).1))) (y := tn) (tgt := 61) hx hb (by omega) (by omega) dX10_readTides_54 (by decide) (fun c_3 => ?_) (fun c_3 => ?_)
      · exact absurd (hgo k1 hkK).2 c_3
      · refine lv_iconst (v := 1) hx hb dX10_readTides_57 (by decide) ?_
        refine lv_goto (tgt := 62) hx hb dX10_readTides_58 (by decide) ?_
        refine lv_istore_n (lv' := [(2, .int 1), (0, .ref m0), (1, .int (nI k))]) hx hb dX10_readTides_62 rfl hl (by decide) rfl (fun ls hl => ?_)
        refine lv_aload_n hx hb dX10_readTides_63 rfl (lv_at hl 1 rfl) ?_
        refine lv_dup hx hb dX10_readTides_64 rfl ?_
        refine va_get (D := g) (ci := 9) (v := .int (nI (rlA tx tn ((rsT tx tn rd k1).1)))) (C := RX10) (T := TX10) (N := 14) hx hb hts hi_wsX100 hown hK hP 0 rfl rfl 11 (by decide) (hts (.fieldLink RX10 183 "FloodBarrierModel" "at" "I") (List.mem_of_getElem? (i := 2) rfl)) (fun _ h9 => h9) rfl dX10_readTides_65 ?_
        refine lv_iload_n hx hb dX10_readTides_68 rfl (lv_at hl 0 rfl) ?_
        refine lv_if_eq (tgt := 76) hx hb dX10_readTides_69 (by decide) (fun h => absurd h (by decide)) (fun _ => ?_)
        refine lv_iconst (v := 1) hx hb dX10_readTides_72 (by decide) ?_
        refine lv_goto (tgt := 77) hx hb dX10_readTides_73 (by decide) ?_
        refine z_iaddN (x := (rlA tx tn ((rsT tx tn rd k1).1))) (y := 1) hx hb dX10_readTides_77 ?_
        refine va_put (D := g) (ci := 9) (v := .int (nI ((rlA tx tn ((rsT tx tn rd k1).1)) + 1))) (C := RX10) (T := TX10) (N := 14) hx hb hts hi_wsX100 tyX10 tyX10_ok nmX10 hown hK hP hD hS 0 rfl rfl 11 (by decide) (hts (.fieldLink RX10 183 "FloodBarrierModel" "at" "I") (List.mem_of_getElem? (i := 2) rfl)) (fun _ h9 => h9) rfl (tyX10_ok 11 (by decide)) rfl rfl (Nat.le_of_ble_eq_true rfl) dX10_readTides_78 (fun H locs hP hD hS => ?_)
        have hP : va_P g vwCl [zO m0 9 [.ref m1, .ref m2, .ref m3, .ref m4, .ref m5, .ref m6, .ref m7, .int (nI kp), .int fl, .int (nI tn), .ref m8, .int (nI ((rlA tx tn ((rsT tx tn rd k1).1)) + 1)), .int (nI (rlC tx tn ((rsT tx tn rd k1).1) ((rsT tx tn rd k1).2.1))), .ref m9], zL ct m1 108 n, zL ct m2 540 hy, zL ct m3 108 sl, zL ct m4 108 sp, zD ct m5 33 re, zD ct m6 165 rh, zD ct m7 33 rs, zC ct m8 60 tx, zI ct m9 17 (rlD tx tn ((rsT tx tn rd k1).1) ((rsT tx tn rd k1).2.1) ((rsT tx tn rd k1).2.2))] H := hP
        have hD : va_D A [zO m0 9 [.ref m1, .ref m2, .ref m3, .ref m4, .ref m5, .ref m6, .ref m7, .int (nI kp), .int fl, .int (nI tn), .ref m8, .int (nI ((rlA tx tn ((rsT tx tn rd k1).1)) + 1)), .int (nI (rlC tx tn ((rsT tx tn rd k1).1) ((rsT tx tn rd k1).2.1))), .ref m9], zL ct m1 108 n, zL ct m2 540 hy, zL ct m3 108 sl, zL ct m4 108 sp, zD ct m5 33 re, zD ct m6 165 rh, zD ct m7 33 rs, zC ct m8 60 tx, zI ct m9 17 (rlD tx tn ((rsT tx tn rd k1).1) ((rsT tx tn rd k1).2.1) ((rsT tx tn rd k1).2.2))] := hD
        refine lv_goto (tgt := 27) hx hb dX10_readTides_81 (by decide) ?_
        exact ihk1 _ _ _ (by omega) ⟨(by first | exact hP | (simp only [lp_s, rsT_s, if_pos c_2, if_pos c_3]; exact hP)), (by first | exact hD | (simp only [lp_s, rsT_s, if_pos c_2, if_pos c_3]; exact hD)), hS, (by first | exact lv_sub hl [1, 2, 0] rfl | (simp only [lp_s, rsT_s, if_pos c_2, if_pos c_3]; exact lv_sub hl [1, 2, 0] rfl))⟩
    · have hkK : k1 = K := (Nat.lt_or_ge k1 K).elim (fun q => absurd (hgo k1 q).1 c_2) (fun q => by omega)
      subst hkK
      refine lv_bipush (v := (-100)) hx hb dX10_readTides_38 (by decide) ?_
      refine lv_aload_n hx hb dX10_readTides_40 rfl (lv_at hl 0 rfl) ?_
      refine va_get (D := g) (ci := 9) (v := .int (nI (rlA tx tn ((rsT tx tn rd k1).1)))) (C := RX10) (T := TX10) (N := 14) hx hb hts hi_wsX100 hown hK hP 0 rfl rfl 11 (by decide) (hts (.fieldLink RX10 183 "FloodBarrierModel" "at" "I") (List.mem_of_getElem? (i := 2) rfl)) (fun _ h9 => h9) rfl dX10_readTides_41 ?_
      refine lv_isub hx hb dX10_readTides_44 ?_
      exact z_iretW hx hb hr hlocks hS hP hD rfl rfl (Nat.le_refl _) (Nat.le_refl _) dX10_readTides_45
  · exact absurd (show inP (lN k) 0 23 from inP_k hk) c_1
