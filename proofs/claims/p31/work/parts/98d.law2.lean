set_option maxHeartbeats 4000000 in
set_option maxRecDepth 100000 in
theorem law_end {p : Program} {e : Env} {s : State} {m : MethodId} {below : List Frame} {meth : Method} {c : Code} {b L : Nat} {xs : Nat → Int32} {Q : State → Prop} {g : va_G} {ct : Nat → ClassId} {H : Heap} {locs : List Loc} {cells slots : Nat} {ls : Array Slot} (l : Launch) (h : LX p s m c b L xs g ct) {Cu : CT} {k : Nat} (hk : k < 30) (hCu : CK Cu (k + 1)) (hcs : cells ≤ 600000 ∧ slots ≤ 7302250) (hP : va_P g vwCl (CW ct Cu) H) (hD : va_D (AL s) (CW ct Cu)) (hS : va_S (AL s) s.heap H locs) (hl : lv_has ls 11 [(9, .int 1), (2, .int (nI k)), (1, .ref (k_ba Cu 0)), (0, .ref b)]) (kk : ∀ (u2 : CT) (H2 : Heap) (locs2 : List Loc) (ls2 : Array Slot), CK u2 (k + 1) → va_P g vwCl (CW ct u2) H2 → va_D (AL s) (CW ct u2) → va_S (AL s) s.heap H2 locs2 → lv_has ls2 11 [(2, .int (nI (k + 1))), (1, .ref (k_ba u2 0)), (0, .ref b)] → W p l e room_1 s m #[Value.ref b] below meth c H2 locs2 cells slots Q (F0 m 108 ls2 [])) : W p l e room_1 s m #[Value.ref b] below meth c H locs cells slots Q (F0 m 365 ls []) := by
  obtain ⟨hx, hb, hml, hown, hts, hX, hbl, hK, hNW, hL⟩ := id h
  have hA : ∀ q : Nat, s.heap.size ≤ q → AL s q := fun _ h => h
  have hIV := hCu.1
  refine lv_iload hx hb dL_law_365 (lv_at hl 0 rfl) ?_
  refine lv_if_eq (tgt := 384) hx hb dL_law_367 (by decide) (fun h => absurd h (by decide)) (fun _ => ?_)
  refine lv_aload_n hx hb dL_law_370 rfl (lv_at hl 2 rfl) ?_
  refine z_oSi (C := Cu) (K := fun u => Sm Cu u) (v := 1) (As := [.ref (k_ba Cu 0)]) (rest := []) ⟨hx, hb, hml, hown, hts⟩ hK hP hD hS hNW hA (c_L_sections l g ct _ Cu hIV (by omega)) (va_cwS 1 hts gL_law_L_sections rfl rfl rfl (by decide +kernel) ⟨Nat.le_of_ble_eq_true rfl, Nat.le_of_ble_eq_true rfl⟩) rfl hl.1 rfl (Nat.le_of_ble_eq_true rfl) dL_law_371 ⟨(r_c (by omega)), (r_s (by omega))⟩ (fun u_1 H locs hu_2 hP hD hS => ?_)
  obtain ⟨tv_3, rfl⟩ := hu_2
  refine lv_if_eq (tgt := 384) hx hb dL_law_374 (by decide) (fun h => absurd h (by decide)) (fun _ => ?_)
  refine lv_aload_n hx hb dL_law_377 rfl (lv_at hl 2 rfl) ?_
  refine z_oSi (C := (k_tvS Cu tv_3)) (K := fun u => Sm ((k_tvS Cu tv_3)) u) (v := 1) (As := [.ref (k_ba Cu 0)]) (rest := []) ⟨hx, hb, hml, hown, hts⟩ hK hP hD hS hNW hA (c_L_waters l g ct _ ((k_tvS Cu tv_3)) hIV (by omega)) (va_cwS 1 hts gL_law_L_waters rfl rfl rfl (by decide +kernel) ⟨Nat.le_of_ble_eq_true rfl, Nat.le_of_ble_eq_true rfl⟩) rfl hl.1 rfl (Nat.le_of_ble_eq_true rfl) dL_law_378 ⟨(r_c (by omega)), (r_s (by omega))⟩ (fun u_4 H locs hu_5 hP hD hS => ?_)
  obtain ⟨tv_6, rfl⟩ := hu_5
  refine lv_if_ne (tgt := 386) hx hb dL_law_381 (by decide) (fun _ => ?_) (fun h => absurd h (by decide))
  refine lv_iinc (v := nI (k + 1)) (lv' := [(2, .int (nI (k + 1))), (9, .int 1), (1, .ref (k_ba Cu 0)), (0, .ref b)]) hx hb dL_law_386 hl (k := 1) rfl (nI_add k 1) (by decide) rfl (fun ls hl => ?_)
  refine lv_goto (tgt := 108) hx hb dL_law_389 (by decide) ?_
  exact kk _ _ _ _ (show CK ((k_tvS ((k_tvS Cu tv_3)) tv_6)) (k + 1) from ⟨hIV, hCu.2.1, hCu.2.2.1, hCu.2.2.2⟩) hP hD hS (lv_sub hl [0, 2, 3] rfl)

set_option maxHeartbeats 4000000 in
set_option maxRecDepth 100000 in
theorem law_undo {p : Program} {e : Env} {s : State} {m : MethodId} {below : List Frame} {meth : Method} {c : Code} {b L : Nat} {xs : Nat → Int32} {Q : State → Prop} {g : va_G} {ct : Nat → ClassId} {H : Heap} {locs : List Loc} {cells slots : Nat} {ls : Array Slot} (l : Launch) (h : LX p s m c b L xs g ct) {C u : CT} {k so : Nat} {ha : Int32} (hk : k < 30) (hC : CK C k) (hso : so < 16) (hu : Aft C u k) (hcs : cells ≤ 600000 ∧ slots ≤ 7302250) (hP : va_P g vwCl (CW ct u) H) (hD : va_D (AL s) (CW ct u)) (hS : va_S (AL s) s.heap H locs) (hl : lv_has ls 11 [(9, .int 1), (7, .long (dgV (k_v C))), (6, .int (nI (k_many C))), (5, .int (nI so)), (4, .int ha), (2, .int (nI k)), (1, .ref (k_ba C 0)), (0, .ref b)]) (kk : ∀ (u2 : CT) (H2 : Heap) (locs2 : List Loc) (ls2 : Array Slot), CK u2 (k + 1) → va_P g vwCl (CW ct u2) H2 → va_D (AL s) (CW ct u2) → va_S (AL s) s.heap H2 locs2 → lv_has ls2 11 [(2, .int (nI (k + 1))), (1, .ref (k_ba u2 0)), (0, .ref b)] → W p l e room_1 s m #[Value.ref b] below meth c H2 locs2 cells slots Q (F0 m 108 ls2 [])) : W p l e room_1 s m #[Value.ref b] below meth c H locs cells slots Q (F0 m 277 ls []) := by
  obtain ⟨hx, hb, hml, hown, hts, hX, hbl, hK, hNW, hL⟩ := id h
  have hA : ∀ q : Nat, s.heap.size ≤ q → AL s q := fun _ h => h
  have hIV := hC.1
  have hom : OM C := ⟨hC.2.1, hC.2.2.1⟩
  have hm5 := hC.2.2.1
  have hm6 : recM (k_many C) ≤ 5 := (om_rec (C := C) (v2 := k_v C) (U := fun _ => 0) hom).2
  rcases hu with ⟨tv, rfl⟩ | ⟨v2, U, hv2, tv, rfl⟩
  · refine lv_iload hx hb dL_law_277 (lv_at hl 2 rfl) ?_
    refine lv_iconst (v := 5) hx hb dL_law_279 (by decide) ?_
    refine z_icN_ne (x := (k_many C)) (y := 5) (tgt := 287) hx hb (by omega) (by omega) dL_law_280 (by decide) (fun c_1 => ?_) (fun c_1 => ?_)
    · refine lv_iload hx hb dL_law_287 (lv_at hl 2 rfl) ?_
      refine lv_istore (lv' := [(10, .int (nI (k_many C))), (9, .int 1), (7, .long (dgV (k_v C))), (6, .int (nI (k_many C))), (5, .int (nI so)), (4, .int ha), (2, .int (nI k)), (1, .ref (k_ba C 0)), (0, .ref b)]) hx hb dL_law_289 hl (by decide) rfl (fun ls hl => ?_)
      refine lv_iload hx hb dL_law_291 (lv_at hl 1 rfl) ?_
      refine lv_if_eq (tgt := 365) hx hb dL_law_293 (by decide) (fun h => absurd h (by decide)) (fun _ => ?_)
      refine lv_iload hx hb dL_law_296 (lv_at hl 4 rfl) ?_
      refine lv_bipush (v := 16) hx hb dL_law_298 (by decide) ?_
      refine z_icN_ge (x := so) (y := 16) (tgt := 365) hx hb (by omega) (by omega) dL_law_300 (by decide) (fun c_2 => ?_) (fun c_2 => ?_)
      · exact absurd hso c_2
      · refine lv_iload hx hb dL_law_303 (lv_at hl 5 rfl) ?_
        refine lv_sipush (v := 3072) hx hb dL_law_305 (by decide) ?_
        refine lv_iand hx hb dL_law_308 ?_
        refine lv_if_ne (tgt := 365) hx hb dL_law_309 (by decide) (fun c_3 => ?_) (fun c_3 => ?_)
        · exact law_end l h hk (show CK (k_tvS C tv) (k + 1) from ⟨iv_m hIV (by omega), hC.2.1, hC.2.2.1, (by omega)⟩) ⟨(r_c (by omega)), (r_s (by omega))⟩ hP hD hS (lv_sub hl [1, 6, 7, 8] rfl) kk
        · refine lv_aload_n hx hb dL_law_312 rfl (lv_at hl 7 rfl) ?_
          refine lv_bipush (v := 15) hx hb dL_law_313 (by decide) ?_
          refine z_rVi (C := (k_tvS C tv)) (v := nI (k_many C)) (As := [.int 15]) (rest := []) ⟨hx, hb, hml, hown, hts⟩ hK hP (rd_count_15 l g ct ((k_tvS C tv)) hIV) (cwV 1 hts gL_law_X9_count rfl rfl rfl (by decide +kernel) ⟨Nat.le_of_ble_eq_true rfl, Nat.le_of_ble_eq_true rfl⟩) rfl hl.1 rfl (Nat.le_of_ble_eq_true rfl) dL_law_315 ⟨(r_c (by omega)), (r_s (by omega))⟩ ?_
          refine lv_iload hx hb dL_law_318 (lv_at hl 3 rfl) ?_
          refine z_icN_ne (x := (k_many C)) (y := (k_many C)) (tgt := 339) hx hb (by omega) (by omega) dL_law_320 (by decide) (fun c_4 => ?_) (fun c_4 => ?_)
          · exact absurd rfl c_4
          · refine lv_iload hx hb dL_law_323 (lv_at hl 3 rfl) ?_
            refine lv_iconst (v := 5) hx hb dL_law_325 (by decide) ?_
            refine z_icN_ne (x := (k_many C)) (y := 5) (tgt := 365) hx hb (by omega) (by omega) dL_law_326 (by decide) (fun c_5 => ?_) (fun c_5 => ?_)
            · exact law_end l h hk (show CK (k_tvS C tv) (k + 1) from ⟨iv_m hIV (by omega), hC.2.1, hC.2.2.1, (by omega)⟩) ⟨(r_c (by omega)), (r_s (by omega))⟩ hP hD hS (lv_sub hl [1, 6, 7, 8] rfl) kk
            · exact absurd c_5 c_1
    · refine lv_iconst (v := 4) hx hb dL_law_283 (by decide) ?_
      refine lv_goto (tgt := 289) hx hb dL_law_284 (by decide) ?_
      refine lv_istore (lv' := [(10, .int 4), (9, .int 1), (7, .long (dgV (k_v C))), (6, .int (nI (k_many C))), (5, .int (nI so)), (4, .int ha), (2, .int (nI k)), (1, .ref (k_ba C 0)), (0, .ref b)]) hx hb dL_law_289 hl (by decide) rfl (fun ls hl => ?_)
      refine lv_iload hx hb dL_law_291 (lv_at hl 1 rfl) ?_
      refine lv_if_eq (tgt := 365) hx hb dL_law_293 (by decide) (fun h => absurd h (by decide)) (fun _ => ?_)
      refine lv_iload hx hb dL_law_296 (lv_at hl 4 rfl) ?_
      refine lv_bipush (v := 16) hx hb dL_law_298 (by decide) ?_
      refine z_icN_ge (x := so) (y := 16) (tgt := 365) hx hb (by omega) (by omega) dL_law_300 (by decide) (fun c_6 => ?_) (fun c_6 => ?_)
      · exact absurd hso c_6
      · refine lv_iload hx hb dL_law_303 (lv_at hl 5 rfl) ?_
        refine lv_sipush (v := 3072) hx hb dL_law_305 (by decide) ?_
        refine lv_iand hx hb dL_law_308 ?_
        refine lv_if_ne (tgt := 365) hx hb dL_law_309 (by decide) (fun c_7 => ?_) (fun c_7 => ?_)
        · exact law_end l h hk (show CK (k_tvS C tv) (k + 1) from ⟨iv_m hIV (by omega), hC.2.1, hC.2.2.1, (by omega)⟩) ⟨(r_c (by omega)), (r_s (by omega))⟩ hP hD hS (lv_sub hl [1, 6, 7, 8] rfl) kk
        · refine lv_aload_n hx hb dL_law_312 rfl (lv_at hl 7 rfl) ?_
          refine lv_bipush (v := 15) hx hb dL_law_313 (by decide) ?_
          refine z_rVi (C := (k_tvS C tv)) (v := nI (k_many C)) (As := [.int 15]) (rest := []) ⟨hx, hb, hml, hown, hts⟩ hK hP (rd_count_15 l g ct ((k_tvS C tv)) hIV) (cwV 1 hts gL_law_X9_count rfl rfl rfl (by decide +kernel) ⟨Nat.le_of_ble_eq_true rfl, Nat.le_of_ble_eq_true rfl⟩) rfl hl.1 rfl (Nat.le_of_ble_eq_true rfl) dL_law_315 ⟨(r_c (by omega)), (r_s (by omega))⟩ ?_
          refine lv_iload hx hb dL_law_318 (lv_at hl 3 rfl) ?_
          refine z_icN_ne (x := (k_many C)) (y := (k_many C)) (tgt := 339) hx hb (by omega) (by omega) dL_law_320 (by decide) (fun c_8 => ?_) (fun c_8 => ?_)
          · exact absurd rfl c_8
          · refine lv_iload hx hb dL_law_323 (lv_at hl 3 rfl) ?_
            refine lv_iconst (v := 5) hx hb dL_law_325 (by decide) ?_
            refine z_icN_ne (x := (k_many C)) (y := 5) (tgt := 365) hx hb (by omega) (by omega) dL_law_326 (by decide) (fun c_9 => ?_) (fun c_9 => ?_)
            · exact absurd c_1 c_9
            · refine lv_aload_n hx hb dL_law_329 rfl (lv_at hl 7 rfl) ?_
              refine z_oSl (C := (k_tvS C tv)) (K := fun u => Sm ((k_tvS C tv)) u) (v := dgV (k_v C)) (As := [.ref (k_ba C 0)]) (rest := []) ⟨hx, hb, hml, hown, hts⟩ hK hP hD hS hNW hA (c_L_digest l g ct _ ((k_tvS C tv)) hIV (by omega)) (va_cwS 1 hts gL_law_L_digest rfl rfl rfl (by decide +kernel) ⟨Nat.le_of_ble_eq_true rfl, Nat.le_of_ble_eq_true rfl⟩) rfl hl.1 rfl (Nat.le_of_ble_eq_true rfl) dL_law_330 ⟨(r_c (by omega)), (r_s (by omega))⟩ (fun u_10 H locs hu_11 hP hD hS => ?_)
              obtain ⟨tv_12, rfl⟩ := hu_11
              refine lv_lload hx hb dL_law_333 (lv_at hl 2 rfl) ?_
              refine z_lif_eq (tgt := 365) hx hb dL_law_335 dL_law_336 (by decide) (fun c_13 => ?_) (fun c_13 => ?_)
              · exact law_end l h hk (show CK (k_tvS ((k_tvS C tv)) tv_12) (k + 1) from ⟨iv_m hIV (by omega), hC.2.1, hC.2.2.1, (by omega)⟩) ⟨(r_c (by omega)), (r_s (by omega))⟩ hP hD hS (lv_sub hl [1, 6, 7, 8] rfl) kk
              · exact absurd rfl c_13
  · refine lv_iload hx hb dL_law_277 (lv_at hl 2 rfl) ?_
    refine lv_iconst (v := 5) hx hb dL_law_279 (by decide) ?_
    refine z_icN_ne (x := (k_many C)) (y := 5) (tgt := 287) hx hb (by omega) (by omega) dL_law_280 (by decide) (fun c_14 => ?_) (fun c_14 => ?_)
    · refine lv_iload hx hb dL_law_287 (lv_at hl 2 rfl) ?_
      refine lv_istore (lv' := [(10, .int (nI (k_many C))), (9, .int 1), (7, .long (dgV (k_v C))), (6, .int (nI (k_many C))), (5, .int (nI so)), (4, .int ha), (2, .int (nI k)), (1, .ref (k_ba C 0)), (0, .ref b)]) hx hb dL_law_289 hl (by decide) rfl (fun ls hl => ?_)
      refine lv_iload hx hb dL_law_291 (lv_at hl 1 rfl) ?_
      refine lv_if_eq (tgt := 365) hx hb dL_law_293 (by decide) (fun h => absurd h (by decide)) (fun _ => ?_)
      refine lv_iload hx hb dL_law_296 (lv_at hl 4 rfl) ?_
      refine lv_bipush (v := 16) hx hb dL_law_298 (by decide) ?_
      refine z_icN_ge (x := so) (y := 16) (tgt := 365) hx hb (by omega) (by omega) dL_law_300 (by decide) (fun c_15 => ?_) (fun c_15 => ?_)
      · exact absurd hso c_15
      · refine lv_iload hx hb dL_law_303 (lv_at hl 5 rfl) ?_
        refine lv_sipush (v := 3072) hx hb dL_law_305 (by decide) ?_
        refine lv_iand hx hb dL_law_308 ?_
        refine lv_if_ne (tgt := 365) hx hb dL_law_309 (by decide) (fun c_16 => ?_) (fun c_16 => ?_)
        · exact law_end l h hk (show CK (k_tvS (k_rec C v2 U) tv) (k + 1) from ⟨hv2, (om_rec (C := C) (v2 := v2) (U := U) hom).1, (om_rec (C := C) (v2 := v2) (U := U) hom).2, (by omega)⟩) ⟨(r_c (by omega)), (r_s (by omega))⟩ hP hD hS (lv_sub hl [1, 6, 7, 8] rfl) kk
        · refine lv_aload_n hx hb dL_law_312 rfl (lv_at hl 7 rfl) ?_
          refine lv_bipush (v := 15) hx hb dL_law_313 (by decide) ?_
          refine z_rVi (C := (k_tvS (k_rec C v2 U) tv)) (v := nI (recM (k_many C))) (As := [.int 15]) (rest := []) ⟨hx, hb, hml, hown, hts⟩ hK hP (rd_count_15 l g ct ((k_tvS (k_rec C v2 U) tv)) hv2) (cwV 1 hts gL_law_X9_count rfl rfl rfl (by decide +kernel) ⟨Nat.le_of_ble_eq_true rfl, Nat.le_of_ble_eq_true rfl⟩) rfl hl.1 rfl (Nat.le_of_ble_eq_true rfl) dL_law_315 ⟨(r_c (by omega)), (r_s (by omega))⟩ ?_
          refine lv_iload hx hb dL_law_318 (lv_at hl 3 rfl) ?_
          refine z_icN_ne (x := (recM (k_many C))) (y := (k_many C)) (tgt := 339) hx hb (by omega) (by omega) dL_law_320 (by decide) (fun c_17 => ?_) (fun c_17 => ?_)
          · refine lv_aload_n hx hb dL_law_339 rfl (lv_at hl 7 rfl) ?_
            refine z_oVi (C := (k_tvS (k_rec C v2 U) tv)) (K := fun u => u = k_undo ((k_tvS (k_rec C v2 U) tv)) (k_v C)) (v := nI (recM (k_many C) - 1)) (As := []) (rest := []) ⟨hx, hb, hml, hown, hts⟩ hK hP hD hS hNW hA (ac_undo l g ct _ ((k_tvS (k_rec C v2 U) tv)) (U, k_v C) (om_rec (C := C) (v2 := v2) (U := U) hom).1 (om_rec (C := C) (v2 := v2) (U := U) hom).2 (show 0 < recM (k_many C) from recM_pos) (rec_at (C := C) (v2 := v2) (U := U) hom) (iv_01 hIV)) (cwV 0 hts gL_law_X9_undo rfl rfl rfl (by decide +kernel) ⟨Nat.le_of_ble_eq_true rfl, Nat.le_of_ble_eq_true rfl⟩) rfl hl.1 rfl (Nat.le_of_ble_eq_true rfl) dL_law_340 ⟨(r_c (by omega)), (r_s (by omega))⟩ (fun u_18 H locs hu_19 hP hD hS => ?_)
            obtain rfl : u_18 = k_undo ((k_tvS (k_rec C v2 U) tv)) (k_v C) := hu_19
            refine lv_iload hx hb dL_law_343 (lv_at hl 0 rfl) ?_
            refine z_icN_ne (x := (recM (k_many C) - 1)) (y := (k_many C)) (tgt := 362) hx hb (by omega) (by omega) dL_law_345 (by decide) (fun c_20 => ?_) (fun c_20 => ?_)
            · exact absurd (rec_n hC.2.2.1 c_14).2 c_20
            · refine lv_aload_n hx hb dL_law_348 rfl (lv_at hl 7 rfl) ?_
              refine z_oSl (C := (k_undo ((k_tvS (k_rec C v2 U) tv)) (k_v C))) (K := fun u => Sm ((k_undo ((k_tvS (k_rec C v2 U) tv)) (k_v C))) u) (v := dgV (k_v C)) (As := [.ref (k_ba C 0)]) (rest := []) ⟨hx, hb, hml, hown, hts⟩ hK hP hD hS hNW hA (c_L_digest l g ct _ ((k_undo ((k_tvS (k_rec C v2 U) tv)) (k_v C))) hIV (by omega)) (va_cwS 1 hts gL_law_L_digest rfl rfl rfl (by decide +kernel) ⟨Nat.le_of_ble_eq_true rfl, Nat.le_of_ble_eq_true rfl⟩) rfl hl.1 rfl (Nat.le_of_ble_eq_true rfl) dL_law_349 ⟨(r_c (by omega)), (r_s (by omega))⟩ (fun u_21 H locs hu_22 hP hD hS => ?_)
              obtain ⟨tv_23, rfl⟩ := hu_22
              refine lv_lload hx hb dL_law_352 (lv_at hl 2 rfl) ?_
              refine z_lif_ne (tgt := 362) hx hb dL_law_354 dL_law_355 (by decide) (fun c_24 => ?_) (fun c_24 => ?_)
              · exact absurd rfl c_24
              · refine lv_iconst (v := 1) hx hb dL_law_358 (by decide) ?_
                refine lv_goto (tgt := 363) hx hb dL_law_359 (by decide) ?_
                refine lv_istore (lv' := [(9, .int 1), (10, .int (nI (k_many C))), (7, .long (dgV (k_v C))), (6, .int (nI (k_many C))), (5, .int (nI so)), (4, .int ha), (2, .int (nI k)), (1, .ref (k_ba C 0)), (0, .ref b)]) hx hb dL_law_363 hl (by decide) rfl (fun ls hl => ?_)
                exact law_end l h hk (show CK (k_tvS ((k_undo ((k_tvS (k_rec C v2 U) tv)) (k_v C))) tv_23) (k + 1) from ⟨iv_m hIV (by omega), (om_un hom).1, (om_un hom).2, (by omega)⟩) ⟨(r_c (by omega)), (r_s (by omega))⟩ hP hD hS (lv_sub hl [0, 6, 7, 8] rfl) kk
          · exact absurd c_17 (rec_n hC.2.2.1 c_14).1
    · refine lv_iconst (v := 4) hx hb dL_law_283 (by decide) ?_
      refine lv_goto (tgt := 289) hx hb dL_law_284 (by decide) ?_
      refine lv_istore (lv' := [(10, .int 4), (9, .int 1), (7, .long (dgV (k_v C))), (6, .int (nI (k_many C))), (5, .int (nI so)), (4, .int ha), (2, .int (nI k)), (1, .ref (k_ba C 0)), (0, .ref b)]) hx hb dL_law_289 hl (by decide) rfl (fun ls hl => ?_)
      refine lv_iload hx hb dL_law_291 (lv_at hl 1 rfl) ?_
      refine lv_if_eq (tgt := 365) hx hb dL_law_293 (by decide) (fun h => absurd h (by decide)) (fun _ => ?_)
      refine lv_iload hx hb dL_law_296 (lv_at hl 4 rfl) ?_
      refine lv_bipush (v := 16) hx hb dL_law_298 (by decide) ?_
      refine z_icN_ge (x := so) (y := 16) (tgt := 365) hx hb (by omega) (by omega) dL_law_300 (by decide) (fun c_25 => ?_) (fun c_25 => ?_)
      · exact absurd hso c_25
      · refine lv_iload hx hb dL_law_303 (lv_at hl 5 rfl) ?_
        refine lv_sipush (v := 3072) hx hb dL_law_305 (by decide) ?_
        refine lv_iand hx hb dL_law_308 ?_
        refine lv_if_ne (tgt := 365) hx hb dL_law_309 (by decide) (fun c_26 => ?_) (fun c_26 => ?_)
        · exact law_end l h hk (show CK (k_tvS (k_rec C v2 U) tv) (k + 1) from ⟨hv2, (om_rec (C := C) (v2 := v2) (U := U) hom).1, (om_rec (C := C) (v2 := v2) (U := U) hom).2, (by omega)⟩) ⟨(r_c (by omega)), (r_s (by omega))⟩ hP hD hS (lv_sub hl [1, 6, 7, 8] rfl) kk
        · refine lv_aload_n hx hb dL_law_312 rfl (lv_at hl 7 rfl) ?_
          refine lv_bipush (v := 15) hx hb dL_law_313 (by decide) ?_
          refine z_rVi (C := (k_tvS (k_rec C v2 U) tv)) (v := nI (recM (k_many C))) (As := [.int 15]) (rest := []) ⟨hx, hb, hml, hown, hts⟩ hK hP (rd_count_15 l g ct ((k_tvS (k_rec C v2 U) tv)) hv2) (cwV 1 hts gL_law_X9_count rfl rfl rfl (by decide +kernel) ⟨Nat.le_of_ble_eq_true rfl, Nat.le_of_ble_eq_true rfl⟩) rfl hl.1 rfl (Nat.le_of_ble_eq_true rfl) dL_law_315 ⟨(r_c (by omega)), (r_s (by omega))⟩ ?_
          refine lv_iload hx hb dL_law_318 (lv_at hl 3 rfl) ?_
          refine z_icN_ne (x := (recM (k_many C))) (y := (k_many C)) (tgt := 339) hx hb (by omega) (by omega) dL_law_320 (by decide) (fun c_27 => ?_) (fun c_27 => ?_)
          · exact absurd (rec5 c_14).1 c_27
          · refine lv_iload hx hb dL_law_323 (lv_at hl 3 rfl) ?_
            refine lv_iconst (v := 5) hx hb dL_law_325 (by decide) ?_
            refine z_icN_ne (x := (k_many C)) (y := 5) (tgt := 365) hx hb (by omega) (by omega) dL_law_326 (by decide) (fun c_28 => ?_) (fun c_28 => ?_)
            · exact absurd c_14 c_28
            · refine lv_aload_n hx hb dL_law_329 rfl (lv_at hl 7 rfl) ?_
              refine z_oSl (C := (k_tvS (k_rec C v2 U) tv)) (K := fun u => Sm ((k_tvS (k_rec C v2 U) tv)) u) (v := dgV v2) (As := [.ref (k_ba C 0)]) (rest := []) ⟨hx, hb, hml, hown, hts⟩ hK hP hD hS hNW hA (c_L_digest l g ct _ ((k_tvS (k_rec C v2 U) tv)) hv2 (by omega)) (va_cwS 1 hts gL_law_L_digest rfl rfl rfl (by decide +kernel) ⟨Nat.le_of_ble_eq_true rfl, Nat.le_of_ble_eq_true rfl⟩) rfl hl.1 rfl (Nat.le_of_ble_eq_true rfl) dL_law_330 ⟨(r_c (by omega)), (r_s (by omega))⟩ (fun u_29 H locs hu_30 hP hD hS => ?_)
              obtain ⟨tv_31, rfl⟩ := hu_30
              refine lv_lload hx hb dL_law_333 (lv_at hl 2 rfl) ?_
              refine z_lif_eq (tgt := 365) hx hb dL_law_335 dL_law_336 (by decide) (fun c_32 => ?_) (fun c_32 => ?_)
              · exact law_end l h hk (show CK (k_tvS ((k_tvS (k_rec C v2 U) tv)) tv_31) (k + 1) from ⟨hv2, (om_rec (C := C) (v2 := v2) (U := U) hom).1, (om_rec (C := C) (v2 := v2) (U := U) hom).2, (by omega)⟩) ⟨(r_c (by omega)), (r_s (by omega))⟩ hP hD hS (lv_sub hl [1, 6, 7, 8] rfl) kk
              · refine lv_aload_n hx hb dL_law_339 rfl (lv_at hl 7 rfl) ?_
                refine z_oVi (C := (k_tvS ((k_tvS (k_rec C v2 U) tv)) tv_31)) (K := fun u => u = k_undo ((k_tvS ((k_tvS (k_rec C v2 U) tv)) tv_31)) (k_v C)) (v := nI (recM (k_many C) - 1)) (As := []) (rest := []) ⟨hx, hb, hml, hown, hts⟩ hK hP hD hS hNW hA (ac_undo l g ct _ ((k_tvS ((k_tvS (k_rec C v2 U) tv)) tv_31)) (U, k_v C) (om_rec (C := C) (v2 := v2) (U := U) hom).1 (om_rec (C := C) (v2 := v2) (U := U) hom).2 (show 0 < recM (k_many C) from recM_pos) (rec_at (C := C) (v2 := v2) (U := U) hom) (iv_01 hIV)) (cwV 0 hts gL_law_X9_undo rfl rfl rfl (by decide +kernel) ⟨Nat.le_of_ble_eq_true rfl, Nat.le_of_ble_eq_true rfl⟩) rfl hl.1 rfl (Nat.le_of_ble_eq_true rfl) dL_law_340 ⟨(r_c (by omega)), (r_s (by omega))⟩ (fun u_33 H locs hu_34 hP hD hS => ?_)
                obtain rfl : u_33 = k_undo ((k_tvS ((k_tvS (k_rec C v2 U) tv)) tv_31)) (k_v C) := hu_34
                refine lv_iload hx hb dL_law_343 (lv_at hl 0 rfl) ?_
                refine z_icN_ne (x := (recM (k_many C) - 1)) (y := 4) (tgt := 362) hx hb (by omega) (by omega) dL_law_345 (by decide) (fun c_35 => ?_) (fun c_35 => ?_)
                · exact absurd (rec5 c_14).2 c_35
                · refine lv_aload_n hx hb dL_law_348 rfl (lv_at hl 7 rfl) ?_
                  refine z_oSl (C := (k_undo ((k_tvS ((k_tvS (k_rec C v2 U) tv)) tv_31)) (k_v C))) (K := fun u => Sm ((k_undo ((k_tvS ((k_tvS (k_rec C v2 U) tv)) tv_31)) (k_v C))) u) (v := dgV (k_v C)) (As := [.ref (k_ba C 0)]) (rest := []) ⟨hx, hb, hml, hown, hts⟩ hK hP hD hS hNW hA (c_L_digest l g ct _ ((k_undo ((k_tvS ((k_tvS (k_rec C v2 U) tv)) tv_31)) (k_v C))) hIV (by omega)) (va_cwS 1 hts gL_law_L_digest rfl rfl rfl (by decide +kernel) ⟨Nat.le_of_ble_eq_true rfl, Nat.le_of_ble_eq_true rfl⟩) rfl hl.1 rfl (Nat.le_of_ble_eq_true rfl) dL_law_349 ⟨(r_c (by omega)), (r_s (by omega))⟩ (fun u_36 H locs hu_37 hP hD hS => ?_)
                  obtain ⟨tv_38, rfl⟩ := hu_37
                  refine lv_lload hx hb dL_law_352 (lv_at hl 2 rfl) ?_
                  refine z_lif_ne (tgt := 362) hx hb dL_law_354 dL_law_355 (by decide) (fun c_39 => ?_) (fun c_39 => ?_)
                  · exact absurd rfl c_39
                  · refine lv_iconst (v := 1) hx hb dL_law_358 (by decide) ?_
                    refine lv_goto (tgt := 363) hx hb dL_law_359 (by decide) ?_
                    refine lv_istore (lv' := [(9, .int 1), (10, .int 4), (7, .long (dgV (k_v C))), (6, .int (nI (k_many C))), (5, .int (nI so)), (4, .int ha), (2, .int (nI k)), (1, .ref (k_ba C 0)), (0, .ref b)]) hx hb dL_law_363 hl (by decide) rfl (fun ls hl => ?_)
                    exact law_end l h hk (show CK (k_tvS ((k_undo ((k_tvS ((k_tvS (k_rec C v2 U) tv)) tv_31)) (k_v C))) tv_38) (k + 1) from ⟨iv_m hIV (by omega), (om_un hom).1, (om_un hom).2, (by omega)⟩) ⟨(r_c (by omega)), (r_s (by omega))⟩ hP hD hS (lv_sub hl [0, 6, 7, 8] rfl) kk
