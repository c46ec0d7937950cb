set_option maxHeartbeats 4000000 in
set_option maxRecDepth 100000 in
theorem law_body {p : Program} {e : Env} {s : State} {m : MethodId} {below : List Frame} {meth : Method} {c : Code} {b L : Nat} {xs : Nat → Int32} {Q : State → Prop} {g : va_G} {ct : Nat → ClassId} {H : Heap} {locs : List Loc} {cells slots : Nat} {ls : Array Slot} (l : Launch) (h : LX p s m c b L xs g ct) {C : CT} {k : Nat} (hk : k < 30) (hC : CK C k) (hcs : cells + 105 ≤ 600000 ∧ slots + 790 ≤ 7302250) (hP : va_P g vwCl (CW ct C) H) (hD : va_D (AL s) (CW ct C)) (hS : va_S (AL s) s.heap H locs) (hl : lv_has ls 11 [(2, .int (nI k)), (1, .ref (k_ba C 0)), (0, .ref b)]) (kk : ∀ (u2 : CT) (H2 : Heap) (locs2 : List Loc) (ls2 : Array Slot) (c2 s2 : Nat), c2 ≤ cells + 105 → s2 ≤ slots + 790 → CK u2 (k + 1) → va_P g vwCl (CW ct u2) H2 → va_D (AL s) (CW ct u2) → va_S (AL s) s.heap H2 locs2 → lv_has ls2 11 [(2, .int (nI (k + 1))), (1, .ref (k_ba u2 0)), (0, .ref b)] → W p l e room_1 s m #[Value.ref b] below meth c H2 locs2 c2 s2 Q (F0 m 108 ls2 [])) : W p l e room_1 s m #[Value.ref b] below meth c H locs cells slots Q (F0 m 114 ls []) := by
  obtain ⟨hx, hb, hml, hown, hts, hX, hbl, hK, hNW, hL⟩ := id h
  have hA : ∀ q : Nat, s.heap.size ≤ q → AL s q := fun _ h => h
  have hIV := hC.1
  have hso := soN_lt k (celN xs L (2 * k))
  have hm5 := hC.2.2.1
  refine lv_aload_n hx hb dL_law_114 rfl (lv_at hl 2 rfl) ?_
  refine lv_iconst (v := 2) hx hb dL_law_115 (by decide) ?_
  refine lv_iload_n hx hb dL_law_116 rfl (lv_at hl 0 rfl) ?_
  refine z_imulN (x := 2) (y := k) hx hb dL_law_117 ?_
  refine z_cel l h hS ⟨(r_c (by omega)), (r_s (by omega))⟩ (k := (2 * k)) (by omega) hl.1 (Nat.le_of_ble_eq_true rfl) dL_law_118 ?_
  refine lv_istore_n (lv' := [(3, .int (celN xs L (2 * k))), (2, .int (nI k)), (1, .ref (k_ba C 0)), (0, .ref b)]) hx hb dL_law_121 rfl hl (by decide) rfl (fun ls hl => ?_)
  refine lv_aload_n hx hb dL_law_122 rfl (lv_at hl 3 rfl) ?_
  refine lv_iconst (v := 2) hx hb dL_law_123 (by decide) ?_
  refine lv_iload_n hx hb dL_law_124 rfl (lv_at hl 1 rfl) ?_
  refine z_imulN (x := 2) (y := k) hx hb dL_law_125 ?_
  refine lv_iconst (v := 1) hx hb dL_law_126 (by decide) ?_
  refine z_iaddN (x := (2 * k)) (y := 1) hx hb dL_law_127 ?_
  refine z_cel l h hS ⟨(r_c (by omega)), (r_s (by omega))⟩ (k := ((2 * k) + 1)) (by omega) hl.1 (Nat.le_of_ble_eq_true rfl) dL_law_128 ?_
  refine lv_istore (lv' := [(4, .int (celN xs L ((2 * k) + 1))), (3, .int (celN xs L (2 * k))), (2, .int (nI k)), (1, .ref (k_ba C 0)), (0, .ref b)]) hx hb dL_law_131 hl (by decide) rfl (fun ls hl => ?_)
  refine z_cut (B0 := 170) (st2 := [.int (nI (soN k (celN xs L (2 * k))))]) ?_ (fun kk => ?_)
  · refine lv_istore (lv' := [(5, .int (nI (soN k (celN xs L (2 * k))))), (4, .int (celN xs L ((2 * k) + 1))), (3, .int (celN xs L (2 * k))), (2, .int (nI k)), (1, .ref (k_ba C 0)), (0, .ref b)]) hx hb dL_law_170 hl (by decide) rfl (fun ls hl => ?_)
    refine lv_aload_n hx hb dL_law_172 rfl (lv_at hl 4 rfl) ?_
    refine lv_bipush (v := 15) hx hb dL_law_173 (by decide) ?_
    refine z_rVi (C := C) (v := nI (k_many C)) (As := [.int 15]) (rest := []) ⟨hx, hb, hml, hown, hts⟩ hK hP (rd_count_15 l g ct C hIV) (cwV 1 hts gL_law_X9_count rfl rfl rfl (by decide +kernel) ⟨Nat.le_of_ble_eq_true rfl, Nat.le_of_ble_eq_true rfl⟩) rfl hl.1 rfl (Nat.le_of_ble_eq_true rfl) dL_law_175 ⟨(r_c (by omega)), (r_s (by omega))⟩ ?_
    refine lv_istore (lv' := [(6, .int (nI (k_many C))), (5, .int (nI (soN k (celN xs L (2 * k))))), (4, .int (celN xs L ((2 * k) + 1))), (3, .int (celN xs L (2 * k))), (2, .int (nI k)), (1, .ref (k_ba C 0)), (0, .ref b)]) hx hb dL_law_178 hl (by decide) rfl (fun ls hl => ?_)
    refine lv_aload_n hx hb dL_law_180 rfl (lv_at hl 5 rfl) ?_
    refine z_oSl (C := C) (K := fun u => Sm C u) (v := dgV (k_v C)) (As := [.ref (k_ba C 0)]) (rest := []) ⟨hx, hb, hml, hown, hts⟩ hK hP hD hS hNW hA (c_L_digest l g ct _ C hIV (by omega)) (va_cwS 1 hts gL_law_L_digest rfl rfl rfl (by decide +kernel) ⟨Nat.le_of_ble_eq_true rfl, Nat.le_of_ble_eq_true rfl⟩) rfl hl.1 rfl (Nat.le_of_ble_eq_true rfl) dL_law_181 ⟨(r_c (by omega)), (r_s (by omega))⟩ (fun u_1 H locs hu_2 hP hD hS => ?_)
    obtain ⟨tv_3, rfl⟩ := hu_2
    refine lv_lstore (lv' := [(7, .long (dgV (k_v C))), (6, .int (nI (k_many C))), (5, .int (nI (soN k (celN xs L (2 * k))))), (4, .int (celN xs L ((2 * k) + 1))), (3, .int (celN xs L (2 * k))), (2, .int (nI k)), (1, .ref (k_ba C 0)), (0, .ref b)]) hx hb dL_law_184 hl (by decide) rfl (fun ls hl => ?_)
    refine lv_iconst (v := 1) hx hb dL_law_186 (by decide) ?_
    refine lv_istore (lv' := [(9, .int 1), (7, .long (dgV (k_v C))), (6, .int (nI (k_many C))), (5, .int (nI (soN k (celN xs L (2 * k))))), (4, .int (celN xs L ((2 * k) + 1))), (3, .int (celN xs L (2 * k))), (2, .int (nI k)), (1, .ref (k_ba C 0)), (0, .ref b)]) hx hb dL_law_187 hl (by decide) rfl (fun ls hl => ?_)
    refine lv_iload hx hb dL_law_189 (lv_at hl 3 rfl) ?_
    refine lv_iconst (v := 4) hx hb dL_law_191 (by decide) ?_
    refine z_icN_ge (x := (soN k (celN xs L (2 * k)))) (y := 4) (tgt := 209) hx hb (by omega) (by omega) dL_law_192 (by decide) (fun c_4 => ?_) (fun c_4 => ?_)
    · refine lv_iload hx hb dL_law_209 (lv_at hl 3 rfl) ?_
      refine lv_bipush (v := 9) hx hb dL_law_211 (by decide) ?_
      refine z_icN_ge (x := (soN k (celN xs L (2 * k)))) (y := 9) (tgt := 230) hx hb (by omega) (by omega) dL_law_213 (by decide) (fun c_5 => ?_) (fun c_5 => ?_)
      · refine lv_iload hx hb dL_law_230 (lv_at hl 3 rfl) ?_
        refine lv_bipush (v := 16) hx hb dL_law_232 (by decide) ?_
        refine z_icN_ge (x := (soN k (celN xs L (2 * k)))) (y := 16) (tgt := 251) hx hb (by omega) (by omega) dL_law_234 (by decide) (fun c_6 => ?_) (fun c_6 => ?_)
        · refine lv_aload_n hx hb dL_law_251 rfl (lv_at hl 7 rfl) ?_
          refine lv_iconst (v := 1) hx hb dL_law_252 (by decide) ?_
          refine lv_iload hx hb dL_law_253 (lv_at hl 4 rfl) ?_
          refine lv_bipush (v := 7) hx hb dL_law_255 (by decide) ?_
          refine z_cSi (v := nI (lowN (celN xs L ((2 * k) + 1)) 7)) (As := [.int (celN xs L ((2 * k) + 1)), .int 7]) (rest := [.int 1, .ref (k_ba C 0)]) ⟨hx, hb, hml, hown, hts⟩ (c_L_low l (celN xs L ((2 * k) + 1)) 7 (by omega) (by omega)) (va_cwS 2 hts gL_law_L_low rfl rfl rfl (by decide +kernel) ⟨Nat.le_of_ble_eq_true rfl, Nat.le_of_ble_eq_true rfl⟩) rfl hl.1 rfl (Nat.le_of_ble_eq_true rfl) dL_law_257 ⟨(r_c (by omega)), (r_s (by omega))⟩ ?_
          refine z_iaddN (x := 1) (y := (lowN (celN xs L ((2 * k) + 1)) 7)) hx hb dL_law_260 ?_
          refine lv_iconst (v := 1) hx hb dL_law_261 (by decide) ?_
          refine lv_iload hx hb dL_law_262 (lv_at hl 4 rfl) ?_
          refine lv_iconst (v := 4) hx hb dL_law_264 (by decide) ?_
          refine lv_ishr hx hb dL_law_265 ?_
          refine lv_bipush (v := 7) hx hb dL_law_266 (by decide) ?_
          refine z_cSi (v := nI (lowN ((celN xs L ((2 * k) + 1)) >>> ((4 : Int32) &&& 31)) 7)) (As := [.int ((celN xs L ((2 * k) + 1)) >>> ((4 : Int32) &&& 31)), .int 7]) (rest := [.int 1, .int (nI (1 + (lowN (celN xs L ((2 * k) + 1)) 7))), .ref (k_ba C 0)]) ⟨hx, hb, hml, hown, hts⟩ (c_L_low l ((celN xs L ((2 * k) + 1)) >>> ((4 : Int32) &&& 31)) 7 (by omega) (by omega)) (va_cwS 2 hts gL_law_L_low rfl rfl rfl (by decide +kernel) ⟨Nat.le_of_ble_eq_true rfl, Nat.le_of_ble_eq_true rfl⟩) rfl hl.1 rfl (Nat.le_of_ble_eq_true rfl) dL_law_268 ⟨(r_c (by omega)), (r_s (by omega))⟩ ?_
          refine z_iaddN (x := 1) (y := (lowN ((celN xs L ((2 * k) + 1)) >>> ((4 : Int32) &&& 31)) 7)) hx hb dL_law_271 ?_
          refine z_oSi (C := (k_tvS C tv_3)) (K := fun u => CK u (k + 1) ∧ k_ba u = k_ba ((k_tvS C tv_3))) (v := 1) (As := [.ref (k_ba C 0), .int (nI (1 + (lowN (celN xs L ((2 * k) + 1)) 7))), .int (nI (1 + (lowN ((celN xs L ((2 * k) + 1)) >>> ((4 : Int32) &&& 31)) 7)))]) (rest := []) ⟨hx, hb, hml, hown, hts⟩ hK hP hD hS hNW hA (c_L_passes l g ct _ ((k_tvS C tv_3)) ⟨hIV, hC.2.1, hC.2.2.1, hC.2.2.2⟩ (by omega) (1 + lowN (celN xs L (2 * k + 1)) 7) (1 + lowN ((celN xs L (2 * k + 1)) >>> ((4 : Int32) &&& 31)) 7) ⟨by omega, by have := lowN_lt (celN xs L (2 * k + 1)) (show 0 < 7 by decide); omega⟩ ⟨by omega, by have := lowN_lt ((celN xs L (2 * k + 1)) >>> ((4 : Int32) &&& 31)) (show 0 < 7 by decide); omega⟩) (va_cwS 3 hts gL_law_L_passes rfl rfl rfl (by decide +kernel) ⟨Nat.le_of_ble_eq_true rfl, Nat.le_of_ble_eq_true rfl⟩) rfl hl.1 rfl (Nat.le_of_ble_eq_true rfl) dL_law_272 ⟨(r_c (by omega)), (r_s (by omega))⟩ (fun u_7 H locs hu_8 hP hD hS => ?_)
          refine lv_istore (lv' := [(9, .int 1), (7, .long (dgV (k_v C))), (6, .int (nI (k_many C))), (5, .int (nI (soN k (celN xs L (2 * k))))), (4, .int (celN xs L ((2 * k) + 1))), (3, .int (celN xs L (2 * k))), (2, .int (nI k)), (1, .ref (k_ba C 0)), (0, .ref b)]) hx hb dL_law_275 hl (by decide) rfl (fun ls hl => ?_)
          refine lv_iload hx hb dL_law_277 (lv_at hl 2 rfl) ?_
          refine lv_iconst (v := 5) hx hb dL_law_279 (by decide) ?_
          refine z_icN_ne (x := (k_many C)) (y := 5) (tgt := 287) hx hb (by omega) (by omega) dL_law_280 (by decide) (fun c_9 => ?_) (fun c_9 => ?_)
          · refine lv_iload hx hb dL_law_287 (lv_at hl 2 rfl) ?_
            refine lv_istore (lv' := [(10, .int (nI (k_many C))), (9, .int 1), (7, .long (dgV (k_v C))), (6, .int (nI (k_many C))), (5, .int (nI (soN k (celN xs L (2 * k))))), (4, .int (celN xs L ((2 * k) + 1))), (3, .int (celN xs L (2 * k))), (2, .int (nI k)), (1, .ref (k_ba C 0)), (0, .ref b)]) hx hb dL_law_289 hl (by decide) rfl (fun ls hl => ?_)
            refine lv_iload hx hb dL_law_291 (lv_at hl 1 rfl) ?_
            refine lv_if_eq (tgt := 365) hx hb dL_law_293 (by decide) (fun h => absurd h (by decide)) (fun _ => ?_)
            refine lv_iload hx hb dL_law_296 (lv_at hl 4 rfl) ?_
            refine lv_bipush (v := 16) hx hb dL_law_298 (by decide) ?_
            refine z_icN_ge (x := (soN k (celN xs L (2 * k)))) (y := 16) (tgt := 365) hx hb (by omega) (by omega) dL_law_300 (by decide) (fun c_10 => ?_) (fun c_10 => ?_)
            · exact law_end l h hk hu_8.1 ⟨(r_c (by omega)), (r_s (by omega))⟩ hP hD hS (by rw [hu_8.2]; exact lv_sub hl [1, 7, 8, 9] rfl) (fun u2 H2 locs2 ls2 a1 a2 a3 a4 a5 => kk u2 H2 locs2 ls2 _ _ (by omega) (by omega) a1 a2 a3 a4 a5)
            · exact absurd c_10 c_6
          · refine lv_iconst (v := 4) hx hb dL_law_283 (by decide) ?_
            refine lv_goto (tgt := 289) hx hb dL_law_284 (by decide) ?_
            refine lv_istore (lv' := [(10, .int 4), (9, .int 1), (7, .long (dgV (k_v C))), (6, .int (nI (k_many C))), (5, .int (nI (soN k (celN xs L (2 * k))))), (4, .int (celN xs L ((2 * k) + 1))), (3, .int (celN xs L (2 * k))), (2, .int (nI k)), (1, .ref (k_ba C 0)), (0, .ref b)]) hx hb dL_law_289 hl (by decide) rfl (fun ls hl => ?_)
            refine lv_iload hx hb dL_law_291 (lv_at hl 1 rfl) ?_
            refine lv_if_eq (tgt := 365) hx hb dL_law_293 (by decide) (fun h => absurd h (by decide)) (fun _ => ?_)
            refine lv_iload hx hb dL_law_296 (lv_at hl 4 rfl) ?_
            refine lv_bipush (v := 16) hx hb dL_law_298 (by decide) ?_
            refine z_icN_ge (x := (soN k (celN xs L (2 * k)))) (y := 16) (tgt := 365) hx hb (by omega) (by omega) dL_law_300 (by decide) (fun c_11 => ?_) (fun c_11 => ?_)
            · exact law_end l h hk hu_8.1 ⟨(r_c (by omega)), (r_s (by omega))⟩ hP hD hS (by rw [hu_8.2]; exact lv_sub hl [1, 7, 8, 9] rfl) (fun u2 H2 locs2 ls2 a1 a2 a3 a4 a5 => kk u2 H2 locs2 ls2 _ _ (by omega) (by omega) a1 a2 a3 a4 a5)
            · exact absurd c_11 c_6
        · refine lv_aload_n hx hb dL_law_237 rfl (lv_at hl 7 rfl) ?_
          refine lv_iload hx hb dL_law_238 (lv_at hl 3 rfl) ?_
          refine lv_iload_n hx hb dL_law_240 rfl (lv_at hl 5 rfl) ?_
          refine lv_iload hx hb dL_law_241 (lv_at hl 4 rfl) ?_
          refine z_oSi (C := (k_tvS C tv_3)) (K := fun u => Aft ((k_tvS C tv_3)) u k) (v := 1) (As := [.ref (k_ba C 0), .int (nI (soN k (celN xs L (2 * k)))), .int (celN xs L (2 * k)), .int (celN xs L ((2 * k) + 1))]) (rest := []) ⟨hx, hb, hml, hown, hts⟩ hK hP hD hS hNW hA (c_L_orders l g ct _ ((k_tvS C tv_3)) ⟨hIV, hC.2.1, hC.2.2.1, hC.2.2.2⟩ (by omega) (soN k (celN xs L (2 * k))) (by omega) (celN xs L (2 * k)) (celN xs L ((2 * k) + 1))) (va_cwS 4 hts gL_law_L_orders rfl rfl rfl (by decide +kernel) ⟨Nat.le_of_ble_eq_true rfl, Nat.le_of_ble_eq_true rfl⟩) rfl hl.1 rfl (Nat.le_of_ble_eq_true rfl) dL_law_243 ⟨(r_c (by omega)), (r_s (by omega))⟩ (fun u_12 H locs hu_13 hP hD hS => ?_)
          refine lv_istore (lv' := [(9, .int 1), (7, .long (dgV (k_v C))), (6, .int (nI (k_many C))), (5, .int (nI (soN k (celN xs L (2 * k))))), (4, .int (celN xs L ((2 * k) + 1))), (3, .int (celN xs L (2 * k))), (2, .int (nI k)), (1, .ref (k_ba C 0)), (0, .ref b)]) hx hb dL_law_246 hl (by decide) rfl (fun ls hl => ?_)
          refine lv_goto (tgt := 277) hx hb dL_law_248 (by decide) ?_
          exact law_undo l h (C := (k_tvS C tv_3)) hk (show CK (k_tvS C tv_3) k from ⟨hIV, hC.2.1, hC.2.2.1, hC.2.2.2⟩) (so := soN k (celN xs L (2 * k))) (by omega) hu_13 ⟨(r_c (by omega)), (r_s (by omega))⟩ hP hD hS (lv_sub hl [0, 1, 2, 3, 4, 6, 7, 8] rfl) (fun u2 H2 locs2 ls2 a1 a2 a3 a4 a5 => kk u2 H2 locs2 ls2 _ _ (by omega) (by omega) a1 a2 a3 a4 a5)
      · refine lv_aload_n hx hb dL_law_216 rfl (lv_at hl 7 rfl) ?_
        refine lv_iload hx hb dL_law_217 (lv_at hl 3 rfl) ?_
        refine lv_iload_n hx hb dL_law_219 rfl (lv_at hl 5 rfl) ?_
        refine lv_iload hx hb dL_law_220 (lv_at hl 4 rfl) ?_
        refine z_oSi (C := (k_tvS C tv_3)) (K := fun u => Aft ((k_tvS C tv_3)) u k) (v := 1) (As := [.ref (k_ba C 0), .int (nI (soN k (celN xs L (2 * k)))), .int (celN xs L (2 * k)), .int (celN xs L ((2 * k) + 1))]) (rest := []) ⟨hx, hb, hml, hown, hts⟩ hK hP hD hS hNW hA (c_L_sets l g ct _ ((k_tvS C tv_3)) ⟨hIV, hC.2.1, hC.2.2.1, hC.2.2.2⟩ (by omega) (soN k (celN xs L (2 * k))) (by omega) (celN xs L (2 * k)) (celN xs L ((2 * k) + 1))) (va_cwS 4 hts gL_law_L_sets rfl rfl rfl (by decide +kernel) ⟨Nat.le_of_ble_eq_true rfl, Nat.le_of_ble_eq_true rfl⟩) rfl hl.1 rfl (Nat.le_of_ble_eq_true rfl) dL_law_222 ⟨(r_c (by omega)), (r_s (by omega))⟩ (fun u_14 H locs hu_15 hP hD hS => ?_)
        refine lv_istore (lv' := [(9, .int 1), (7, .long (dgV (k_v C))), (6, .int (nI (k_many C))), (5, .int (nI (soN k (celN xs L (2 * k))))), (4, .int (celN xs L ((2 * k) + 1))), (3, .int (celN xs L (2 * k))), (2, .int (nI k)), (1, .ref (k_ba C 0)), (0, .ref b)]) hx hb dL_law_225 hl (by decide) rfl (fun ls hl => ?_)
        refine lv_goto (tgt := 277) hx hb dL_law_227 (by decide) ?_
        exact law_undo l h (C := (k_tvS C tv_3)) hk (show CK (k_tvS C tv_3) k from ⟨hIV, hC.2.1, hC.2.2.1, hC.2.2.2⟩) (so := soN k (celN xs L (2 * k))) (by omega) hu_15 ⟨(r_c (by omega)), (r_s (by omega))⟩ hP hD hS (lv_sub hl [0, 1, 2, 3, 4, 6, 7, 8] rfl) (fun u2 H2 locs2 ls2 a1 a2 a3 a4 a5 => kk u2 H2 locs2 ls2 _ _ (by omega) (by omega) a1 a2 a3 a4 a5)
    · refine lv_aload_n hx hb dL_law_195 rfl (lv_at hl 7 rfl) ?_
      refine lv_iload hx hb dL_law_196 (lv_at hl 3 rfl) ?_
      refine lv_iload_n hx hb dL_law_198 rfl (lv_at hl 5 rfl) ?_
      refine lv_iload hx hb dL_law_199 (lv_at hl 4 rfl) ?_
      refine z_oSi (C := (k_tvS C tv_3)) (K := fun u => Aft ((k_tvS C tv_3)) u k) (v := 1) (As := [.ref (k_ba C 0), .int (nI (soN k (celN xs L (2 * k)))), .int (celN xs L (2 * k)), .int (celN xs L ((2 * k) + 1))]) (rest := []) ⟨hx, hb, hml, hown, hts⟩ hK hP hD hS hNW hA (c_L_adds l g ct _ ((k_tvS C tv_3)) ⟨hIV, hC.2.1, hC.2.2.1, hC.2.2.2⟩ (by omega) (soN k (celN xs L (2 * k))) (by omega) (celN xs L (2 * k)) (celN xs L ((2 * k) + 1))) (va_cwS 4 hts gL_law_L_adds rfl rfl rfl (by decide +kernel) ⟨Nat.le_of_ble_eq_true rfl, Nat.le_of_ble_eq_true rfl⟩) rfl hl.1 rfl (Nat.le_of_ble_eq_true rfl) dL_law_201 ⟨(r_c (by omega)), (r_s (by omega))⟩ (fun u_16 H locs hu_17 hP hD hS => ?_)
      refine lv_istore (lv' := [(9, .int 1), (7, .long (dgV (k_v C))), (6, .int (nI (k_many C))), (5, .int (nI (soN k (celN xs L (2 * k))))), (4, .int (celN xs L ((2 * k) + 1))), (3, .int (celN xs L (2 * k))), (2, .int (nI k)), (1, .ref (k_ba C 0)), (0, .ref b)]) hx hb dL_law_204 hl (by decide) rfl (fun ls hl => ?_)
      refine lv_goto (tgt := 277) hx hb dL_law_206 (by decide) ?_
      exact law_undo l h (C := (k_tvS C tv_3)) hk (show CK (k_tvS C tv_3) k from ⟨hIV, hC.2.1, hC.2.2.1, hC.2.2.2⟩) (so := soN k (celN xs L (2 * k))) (by omega) hu_17 ⟨(r_c (by omega)), (r_s (by omega))⟩ hP hD hS (lv_sub hl [0, 1, 2, 3, 4, 6, 7, 8] rfl) (fun u2 H2 locs2 ls2 a1 a2 a3 a4 a5 => kk u2 H2 locs2 ls2 _ _ (by omega) (by omega) a1 a2 a3 a4 a5)
  · refine lv_iload_n hx hb dL_law_133 rfl (lv_at hl 2 rfl) ?_
    refine lv_iconst (v := 2) hx hb dL_law_134 (by decide) ?_
    refine z_icN_ge (x := k) (y := 2) (tgt := 142) hx hb (by omega) (by omega) dL_law_135 (by decide) (fun c_18 => ?_) (fun c_18 => ?_)
    · refine lv_iload_n hx hb dL_law_142 rfl (lv_at hl 2 rfl) ?_
      refine lv_iconst (v := 2) hx hb dL_law_143 (by decide) ?_
      refine z_icN_ne (x := k) (y := 2) (tgt := 151) hx hb (by omega) (by omega) dL_law_144 (by decide) (fun c_19 => ?_) (fun c_19 => ?_)
      · refine lv_iload_n hx hb dL_law_151 rfl (lv_at hl 2 rfl) ?_
        refine lv_iconst (v := 3) hx hb dL_law_152 (by decide) ?_
        refine z_icN_ne (x := k) (y := 3) (tgt := 161) hx hb (by omega) (by omega) dL_law_153 (by decide) (fun c_20 => ?_) (fun c_20 => ?_)
        · refine lv_iload_n hx hb dL_law_161 rfl (lv_at hl 1 rfl) ?_
          refine lv_bipush (v := 9) hx hb dL_law_162 (by decide) ?_
          refine lv_ishr hx hb dL_law_164 ?_
          refine lv_bipush (v := 22) hx hb dL_law_165 (by decide) ?_
          refine z_cSi (v := nI (lowN ((celN xs L (2 * k)) >>> ((9 : Int32) &&& 31)) 22)) (As := [.int ((celN xs L (2 * k)) >>> ((9 : Int32) &&& 31)), .int 22]) (rest := []) ⟨hx, hb, hml, hown, hts⟩ (c_L_low l ((celN xs L (2 * k)) >>> ((9 : Int32) &&& 31)) 22 (by omega) (by omega)) (va_cwS 2 hts gL_law_L_low rfl rfl rfl (by decide +kernel) ⟨Nat.le_of_ble_eq_true rfl, Nat.le_of_ble_eq_true rfl⟩) rfl hl.1 rfl (Nat.le_of_ble_eq_true rfl) dL_law_167 ⟨(r_c (by omega)), (r_s (by omega))⟩ ?_
          have kk2 : soN k (celN xs L (2 * k)) = lowN ((celN xs L (2 * k)) >>> ((9 : Int32) &&& 31)) 22 := (by unfold soN; rw [if_neg c_18, if_neg c_19, if_neg c_20]); rw [kk2] at kk; exact kk
        · refine lv_bipush (v := 10) hx hb dL_law_156 (by decide) ?_
          refine lv_goto (tgt := 170) hx hb dL_law_158 (by decide) ?_
          have kk2 : soN k (celN xs L (2 * k)) = 10 := (by unfold soN; rw [if_neg c_18, if_neg c_19, if_pos c_20]); rw [kk2] at kk; exact kk
      · refine lv_iconst (v := 1) hx hb dL_law_147 (by decide) ?_
        refine lv_goto (tgt := 170) hx hb dL_law_148 (by decide) ?_
        have kk2 : soN k (celN xs L (2 * k)) = 1 := (by unfold soN; rw [if_neg c_18, if_pos c_19]); rw [kk2] at kk; exact kk
    · refine lv_iconst (v := 0) hx hb dL_law_138 (by decide) ?_
      refine lv_goto (tgt := 170) hx hb dL_law_139 (by decide) ?_
      have kk2 : soN k (celN xs L (2 * k)) = 0 := (by unfold soN; rw [if_pos c_18]); rw [kk2] at kk; exact kk
