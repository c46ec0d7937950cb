/-! the number that all is told by: its steps -/
theorem lp_z {α : Type} (f : Nat → α → α) (x : α) : lp f 0 x = x := rfl
theorem dgA_0 (v : SVT) : dgA v 0 = 113 := by unfold dgA; exact lp_z _ _
theorem dgA_s (v : SVT) (k : Nat) : dgA v (k + 1) = 31 * dgA v k + (if k = 15 ∨ k = 16 then (0 : Int32) else ctV v k).toInt64 := by unfold dgA; exact lp_s _ _ _
theorem dgB_0 (v : SVT) : dgB v 0 = dgA v 18 := by unfold dgB; exact lp_z _ _
theorem dgB_s (v : SVT) (k : Nat) : dgB v (k + 1) = 31 * dgB v k + wtV v k := by unfold dgB; exact lp_s _ _ _
theorem dgS_0 (v : SVT) (i : Nat) (h : Int64) : dgS v i 0 h = h := by unfold dgS; exact lp_z _ _
theorem dgS_s (v : SVT) (i k : Nat) (h : Int64) : dgS v i (k + 1) h = 31 * dgS v i k h + (scV v i k).toInt64 := by unfold dgS; exact lp_s _ _ _
theorem dgC_0 (v : SVT) : dgC v 0 = dgB v 6 := by unfold dgC; exact lp_z _ _
theorem dgC_s (v : SVT) (k : Nat) : dgC v (k + 1) = dgS v k 6 (dgC v k) := by unfold dgC; exact lp_s _ _ _
theorem dgQ_0 (v : SVT) (i : Nat) (h : Int64) : dgQ v i 0 h = h := by unfold dgQ; exact lp_z _ _
theorem dgQ_s (v : SVT) (i k : Nat) (h : Int64) : dgQ v i (k + 1) h = 31 * dgQ v i k h + (puV v i k).toInt64 := by unfold dgQ; exact lp_s _ _ _
theorem dgD_0 (v : SVT) : dgD v 0 = dgC v (v_nS v) := by unfold dgD; exact lp_z _ _
theorem dgD_s (v : SVT) (k : Nat) : dgD v (k + 1) = dgQ v k 5 (dgD v k) := by unfold dgD; exact lp_s _ _ _
theorem dgE_0 (v : SVT) : dgE v 0 = dgD v (v_nP v) := by unfold dgE; exact lp_z _ _
theorem dgE_s (v : SVT) (k : Nat) : dgE v (k + 1) = 31 * dgE v k + v_td v k := by unfold dgE; exact lp_s _ _ _
theorem dgV_e (v : SVT) : 31 * dgE v 24 + (shI v).toInt64 = dgV v := by unfold dgV; rfl

set_option maxHeartbeats 4000000 in
set_option maxRecDepth 100000 in
theorem c_L_digest (l : Launch) (g : va_G) (ct : Nat → ClassId) (sz : Nat) (C : CT) {T : Nat} (hIV : IV (k_v C) T) (hT : T ≤ 100) : Met l yL_digest wsL_digest (zRm 6 143) (va_Pc [.ref (k_ba C 0)] (zW g ct (CW ct C) sz)) (zEl (S := {u : CT // Sm C u}) g (fun u => CW ct u.1) (dgV (k_v C)) (va_A (CW ct C) sz)) 0 0 (va_A (CW ct C) sz) := by
  refine z_write (QA := zEl (S := {u : CT // Sm C u}) g (fun u => CW ct u.1) (dgV (k_v C))) (cc := cL_digest) (maxL := 5) (ret := some .long) (by decide) rfl (Nat.le_of_ble_eq_true rfl) ?_
  intro p e s m below meth c ls A hx hb hr hml hts hown hlocks hin hP hK hD hNW hA hS hl
  have hown : s.vm.findClass RL = some m.cls := hown
  have hl : lv_has ls 5 [(0, .ref (k_ba C 0))] := hl
  have hnS := iv_nS hIV
  have hnP := iv_nP hIV
  refine lv_ldc2 (v := 113) hx hb hown (hts (.constantLong RL 9 (113)) (List.mem_of_getElem? (i := 1) rfl)) dL_digest_0 ?_
  refine lv_lstore_n (lv' := [(1, .long 113), (0, .ref (k_ba C 0))]) hx hb dL_digest_3 rfl hl (by decide) rfl (fun ls hl => ?_)
  refine lv_iconst (v := 0) hx hb dL_digest_4 (by decide) ?_
  refine lv_istore_n (lv' := [(3, .int 0), (1, .long 113), (0, .ref (k_ba C 0))]) hx hb dL_digest_5 rfl hl (by decide) rfl (fun ls hl => ?_)
  refine z_loop 18 (fun k1 H locs ls => va_P g vwCl (CW ct C) H ∧ va_D A (CW ct C) ∧ va_S A s.heap H locs ∧ lv_has ls 5 [(0, .ref (k_ba C 0)), (1, .long (dgA (k_v C) k1)), (3, .int (nI k1))]) ⟨hP, hD, hS, (by rw [dgA_0]; exact lv_sub hl [2, 1, 0] rfl)⟩ ?_
  intro k1 H locs ls hkk1 hI ihk1
  obtain ⟨hP, hD, hS, hl⟩ := hI
  refine lv_iload_n hx hb dL_digest_6 rfl (lv_at hl 2 rfl) ?_
  refine lv_bipush (v := 18) hx hb dL_digest_7 (by decide) ?_
  refine z_icN_ge (x := k1) (y := 18) (tgt := 47) hx hb (by omega) (by omega) dL_digest_9 (by decide) (fun c_1 => ?_) (fun c_1 => ?_)
  · have hkn : 18 = k1 := by omega
    subst hkn
    refine lv_iconst (v := 0) hx hb dL_digest_47 (by decide) ?_
    refine lv_istore_n (lv' := [(3, .int 0), (0, .ref (k_ba C 0)), (1, .long (dgA (k_v C) 18))]) hx hb dL_digest_48 rfl hl (by decide) rfl (fun ls hl => ?_)
    refine z_loop 6 (fun k2 H locs ls => va_P g vwCl (CW ct C) H ∧ va_D A (CW ct C) ∧ va_S A s.heap H locs ∧ lv_has ls 5 [(0, .ref (k_ba C 0)), (1, .long (dgB (k_v C) k2)), (3, .int (nI k2))]) ⟨hP, hD, hS, (by rw [dgB_0]; exact lv_sub hl [1, 2, 0] rfl)⟩ ?_
    intro k2 H locs ls hkk2 hI ihk2
    obtain ⟨hP, hD, hS, hl⟩ := hI
    refine lv_iload_n hx hb dL_digest_49 rfl (lv_at hl 2 rfl) ?_
    refine lv_bipush (v := 6) hx hb dL_digest_50 (by decide) ?_
    refine z_icN_ge (x := k2) (y := 6) (tgt := 73) hx hb (by omega) (by omega) dL_digest_52 (by decide) (fun c_2 => ?_) (fun c_2 => ?_)
    · have hkn : 6 = k2 := by omega
      subst hkn
      refine lv_iconst (v := 0) hx hb dL_digest_73 (by decide) ?_
      refine lv_istore_n (lv' := [(3, .int 0), (0, .ref (k_ba C 0)), (1, .long (dgB (k_v C) 6))]) hx hb dL_digest_74 rfl hl (by decide) rfl (fun ls hl => ?_)
      refine z_loop (v_nS (k_v C)) (fun k3 H locs ls => va_P g vwCl (CW ct C) H ∧ va_D A (CW ct C) ∧ va_S A s.heap H locs ∧ lv_has ls 5 [(0, .ref (k_ba C 0)), (1, .long (dgC (k_v C) k3)), (3, .int (nI k3))]) ⟨hP, hD, hS, (by rw [dgC_0]; exact lv_sub hl [1, 2, 0] rfl)⟩ ?_
      intro k3 H locs ls hkk3 hI ihk3
      obtain ⟨hP, hD, hS, hl⟩ := hI
      refine lv_iload_n hx hb dL_digest_75 rfl (lv_at hl 2 rfl) ?_
      refine lv_aload_n hx hb dL_digest_76 rfl (lv_at hl 0 rfl) ?_
      refine lv_bipush (v := 11) hx hb dL_digest_77 (by decide) ?_
      refine z_rVi (C := C) (v := nI (v_nS (k_v C))) (As := [.int 11]) (rest := [.int (nI k3)]) ⟨hx, hb, hml, hown, hts⟩ hK hP (rd_count_11 l g ct C hIV) (cwV 1 hts gL_digest_X9_count rfl rfl rfl (by decide +kernel) ⟨Nat.le_of_ble_eq_true rfl, Nat.le_of_ble_eq_true rfl⟩) rfl hl.1 rfl (Nat.le_of_ble_eq_true rfl) dL_digest_79 ⟨Nat.le_of_ble_eq_true rfl, Nat.le_of_ble_eq_true rfl⟩ ?_
      refine z_icN_ge (x := k3) (y := (v_nS (k_v C))) (tgt := 122) hx hb (by omega) (by omega) dL_digest_82 (by decide) (fun c_3 => ?_) (fun c_3 => ?_)
      · have hkn : v_nS (k_v C) = k3 := by omega
        subst hkn
        refine lv_iconst (v := 0) hx hb dL_digest_122 (by decide) ?_
        refine lv_istore_n (lv' := [(3, .int 0), (0, .ref (k_ba C 0)), (1, .long (dgC (k_v C) (v_nS (k_v C))))]) hx hb dL_digest_123 rfl hl (by decide) rfl (fun ls hl => ?_)
        refine z_loop (v_nP (k_v C)) (fun k5 H locs ls => va_P g vwCl (CW ct C) H ∧ va_D A (CW ct C) ∧ va_S A s.heap H locs ∧ lv_has ls 5 [(0, .ref (k_ba C 0)), (1, .long (dgD (k_v C) k5)), (3, .int (nI k5))]) ⟨hP, hD, hS, (by rw [dgD_0]; exact lv_sub hl [1, 2, 0] rfl)⟩ ?_
        intro k5 H locs ls hkk5 hI ihk5
        obtain ⟨hP, hD, hS, hl⟩ := hI
        refine lv_iload_n hx hb dL_digest_124 rfl (lv_at hl 2 rfl) ?_
        refine lv_aload_n hx hb dL_digest_125 rfl (lv_at hl 0 rfl) ?_
        refine lv_bipush (v := 14) hx hb dL_digest_126 (by decide) ?_
        refine z_rVi (C := C) (v := nI (v_nP (k_v C))) (As := [.int 14]) (rest := [.int (nI k5)]) ⟨hx, hb, hml, hown, hts⟩ hK hP (rd_count_14 l g ct C hIV) (cwV 1 hts gL_digest_X9_count rfl rfl rfl (by decide +kernel) ⟨Nat.le_of_ble_eq_true rfl, Nat.le_of_ble_eq_true rfl⟩) rfl hl.1 rfl (Nat.le_of_ble_eq_true rfl) dL_digest_128 ⟨Nat.le_of_ble_eq_true rfl, Nat.le_of_ble_eq_true rfl⟩ ?_
        refine z_icN_ge (x := k5) (y := (v_nP (k_v C))) (tgt := 170) hx hb (by omega) (by omega) dL_digest_131 (by decide) (fun c_4 => ?_) (fun c_4 => ?_)
        · have hkn : v_nP (k_v C) = k5 := by omega
          subst hkn
          refine lv_iconst (v := 0) hx hb dL_digest_170 (by decide) ?_
          refine lv_istore_n (lv' := [(3, .int 0), (0, .ref (k_ba C 0)), (1, .long (dgD (k_v C) (v_nP (k_v C))))]) hx hb dL_digest_171 rfl hl (by decide) rfl (fun ls hl => ?_)
          refine z_loop 24 (fun k7 H locs ls => va_P g vwCl (CW ct C) H ∧ va_D A (CW ct C) ∧ va_S A s.heap H locs ∧ lv_has ls 5 [(0, .ref (k_ba C 0)), (1, .long (dgE (k_v C) k7)), (3, .int (nI k7))]) ⟨hP, hD, hS, (by rw [dgE_0]; exact lv_sub hl [1, 2, 0] rfl)⟩ ?_
          intro k7 H locs ls hkk7 hI ihk7
          obtain ⟨hP, hD, hS, hl⟩ := hI
          refine lv_iload_n hx hb dL_digest_172 rfl (lv_at hl 2 rfl) ?_
          refine lv_bipush (v := 24) hx hb dL_digest_173 (by decide) ?_
          refine z_icN_ge (x := k7) (y := 24) (tgt := 196) hx hb (by omega) (by omega) dL_digest_175 (by decide) (fun c_5 => ?_) (fun c_5 => ?_)
          · have hkn : 24 = k7 := by omega
            subst hkn
            refine lv_ldc2 (v := 31) hx hb hown (hts (.constantLong RL 11 (31)) (List.mem_of_getElem? (i := 2) rfl)) dL_digest_196 ?_
            refine lv_lload_n hx hb dL_digest_199 rfl (lv_at hl 1 rfl) ?_
            refine lv_lmul hx hb dL_digest_200 ?_
            refine lv_aload_n hx hb dL_digest_201 rfl (lv_at hl 0 rfl) ?_
            refine z_oVi (C := C) (K := fun u => Sm C u) (v := shI (k_v C)) (As := []) (rest := [.long (31 * (dgE (k_v C) 24))]) ⟨hx, hb, hml, hown, hts⟩ hK hP hD hS hNW hA (ac_shutInI l g ct _ C hIV (by omega)) (cwV 0 hts gL_digest_X9_shutIn rfl rfl rfl (by decide +kernel) ⟨Nat.le_of_ble_eq_true rfl, Nat.le_of_ble_eq_true rfl⟩) rfl hl.1 rfl (Nat.le_of_ble_eq_true rfl) dL_digest_202 ⟨Nat.le_of_ble_eq_true rfl, Nat.le_of_ble_eq_true rfl⟩ (fun u_6 H locs hu_7 hP hD hS => ?_)
            obtain ⟨tv_8, rfl⟩ := hu_7
            refine lv_i2l (v := (shI (k_v C)).toInt64) hx hb dL_digest_205 rfl ?_
            refine lv_ladd hx hb dL_digest_206 ?_
            exact z_retL (⟨(k_tvS C tv_8), Sm_t (Sm_0 C) ⟨tv_8, rfl⟩⟩ : {u : CT // Sm C u}) hx hb hr hlocks (dgV_e _) hS hP hD (Nat.le_of_ble_eq_true rfl) (Nat.le_of_ble_eq_true rfl) dL_digest_207
          · refine lv_ldc2 (v := 31) hx hb hown (hts (.constantLong RL 11 (31)) (List.mem_of_getElem? (i := 2) rfl)) dL_digest_178 ?_
            refine lv_lload_n hx hb dL_digest_181 rfl (lv_at hl 1 rfl) ?_
            refine lv_lmul hx hb dL_digest_182 ?_
            refine lv_aload_n hx hb dL_digest_183 rfl (lv_at hl 0 rfl) ?_
            refine lv_iload_n hx hb dL_digest_184 rfl (lv_at hl 2 rfl) ?_
            refine z_rVl (C := C) (v := v_td (k_v C) k7) (As := [.int (nI k7)]) (rest := [.long (31 * (dgE (k_v C) k7))]) ⟨hx, hb, hml, hown, hts⟩ hK hP (rd_tide_a l g ct C k7 (by omega)) (cwV 1 hts gL_digest_X9_tide rfl rfl rfl (by decide +kernel) ⟨Nat.le_of_ble_eq_true rfl, Nat.le_of_ble_eq_true rfl⟩) rfl hl.1 rfl (Nat.le_of_ble_eq_true rfl) dL_digest_185 ⟨Nat.le_of_ble_eq_true rfl, Nat.le_of_ble_eq_true rfl⟩ ?_
            refine lv_ladd hx hb dL_digest_188 ?_
            refine lv_lstore_n (lv' := [(1, .long ((31 * (dgE (k_v C) k7)) + (v_td (k_v C) k7))), (0, .ref (k_ba C 0)), (3, .int (nI k7))]) hx hb dL_digest_189 rfl hl (by decide) rfl (fun ls hl => ?_)
            refine lv_iinc (v := nI (k7 + 1)) (lv' := [(3, .int (nI (k7 + 1))), (1, .long ((31 * (dgE (k_v C) k7)) + (v_td (k_v C) k7))), (0, .ref (k_ba C 0))]) hx hb dL_digest_190 hl (k := 2) rfl (nI_add k7 1) (by decide) rfl (fun ls hl => ?_)
            refine lv_goto (tgt := 172) hx hb dL_digest_193 (by decide) ?_
            exact ihk7 _ _ _ (by omega) ⟨hP, hD, hS, (by rw [dgE_s]; exact lv_sub hl [2, 1, 0] rfl)⟩
        · refine lv_iconst (v := 0) hx hb dL_digest_134 (by decide) ?_
          refine lv_istore (lv' := [(4, .int 0), (0, .ref (k_ba C 0)), (1, .long (dgD (k_v C) k5)), (3, .int (nI k5))]) hx hb dL_digest_135 hl (by decide) rfl (fun ls hl => ?_)
          refine z_loop 5 (fun k6 H locs ls => va_P g vwCl (CW ct C) H ∧ va_D A (CW ct C) ∧ va_S A s.heap H locs ∧ lv_has ls 5 [(0, .ref (k_ba C 0)), (1, .long (dgQ (k_v C) k5 k6 (dgD (k_v C) k5))), (3, .int (nI k5)), (4, .int (nI k6))]) ⟨hP, hD, hS, (by rw [dgQ_0]; exact lv_sub hl [1, 2, 3, 0] rfl)⟩ ?_
          intro k6 H locs ls hkk6 hI ihk6
          obtain ⟨hP, hD, hS, hl⟩ := hI
          refine lv_iload hx hb dL_digest_137 (lv_at hl 3 rfl) ?_
          refine lv_iconst (v := 5) hx hb dL_digest_139 (by decide) ?_
          refine z_icN_ge (x := k6) (y := 5) (tgt := 164) hx hb (by omega) (by omega) dL_digest_140 (by decide) (fun c_9 => ?_) (fun c_9 => ?_)
          · have hkn : 5 = k6 := by omega
            subst hkn
            refine lv_iinc (v := nI (k5 + 1)) (lv' := [(3, .int (nI (k5 + 1))), (0, .ref (k_ba C 0)), (1, .long (dgQ (k_v C) k5 5 (dgD (k_v C) k5))), (4, .int (nI 5))]) hx hb dL_digest_164 hl (k := 2) rfl (nI_add k5 1) (by decide) rfl (fun ls hl => ?_)
            refine lv_goto (tgt := 124) hx hb dL_digest_167 (by decide) ?_
            exact ihk5 _ _ _ (by omega) ⟨hP, hD, hS, (by rw [dgD_s]; exact lv_sub hl [1, 2, 0] rfl)⟩
          · refine lv_ldc2 (v := 31) hx hb hown (hts (.constantLong RL 11 (31)) (List.mem_of_getElem? (i := 2) rfl)) dL_digest_143 ?_
            refine lv_lload_n hx hb dL_digest_146 rfl (lv_at hl 1 rfl) ?_
            refine lv_lmul hx hb dL_digest_147 ?_
            refine lv_aload_n hx hb dL_digest_148 rfl (lv_at hl 0 rfl) ?_
            refine lv_iload_n hx hb dL_digest_149 rfl (lv_at hl 2 rfl) ?_
            refine lv_iload hx hb dL_digest_150 (lv_at hl 3 rfl) ?_
            refine z_rVi (C := C) (v := puV (k_v C) k5 k6) (As := [.int (nI k5), .int (nI k6)]) (rest := [.long (31 * (dgQ (k_v C) k5 k6 (dgD (k_v C) k5)))]) ⟨hx, hb, hml, hown, hts⟩ hK hP (rd_pump_v l g ct C hIV k5 (show k5 < v_nP (k_v C) by omega) k6 (by omega)) (cwV 2 hts gL_digest_X9_pump rfl rfl rfl (by decide +kernel) ⟨Nat.le_of_ble_eq_true rfl, Nat.le_of_ble_eq_true rfl⟩) rfl hl.1 rfl (Nat.le_of_ble_eq_true rfl) dL_digest_152 ⟨Nat.le_of_ble_eq_true rfl, Nat.le_of_ble_eq_true rfl⟩ ?_
            refine lv_i2l (v := (puV (k_v C) k5 k6).toInt64) hx hb dL_digest_155 rfl ?_
            refine lv_ladd hx hb dL_digest_156 ?_
            refine lv_lstore_n (lv' := [(1, .long ((31 * (dgQ (k_v C) k5 k6 (dgD (k_v C) k5))) + ((puV (k_v C) k5 k6).toInt64))), (0, .ref (k_ba C 0)), (3, .int (nI k5)), (4, .int (nI k6))]) hx hb dL_digest_157 rfl hl (by decide) rfl (fun ls hl => ?_)
            refine lv_iinc (v := nI (k6 + 1)) (lv' := [(4, .int (nI (k6 + 1))), (1, .long ((31 * (dgQ (k_v C) k5 k6 (dgD (k_v C) k5))) + ((puV (k_v C) k5 k6).toInt64))), (0, .ref (k_ba C 0)), (3, .int (nI k5))]) hx hb dL_digest_158 hl (k := 3) rfl (nI_add k6 1) (by decide) rfl (fun ls hl => ?_)
            refine lv_goto (tgt := 137) hx hb dL_digest_161 (by decide) ?_
            exact ihk6 _ _ _ (by omega) ⟨hP, hD, hS, (by rw [dgQ_s]; exact lv_sub hl [2, 1, 3, 0] rfl)⟩
      · refine lv_iconst (v := 0) hx hb dL_digest_85 (by decide) ?_
        refine lv_istore (lv' := [(4, .int 0), (0, .ref (k_ba C 0)), (1, .long (dgC (k_v C) k3)), (3, .int (nI k3))]) hx hb dL_digest_86 hl (by decide) rfl (fun ls hl => ?_)
        refine z_loop 6 (fun k4 H locs ls => va_P g vwCl (CW ct C) H ∧ va_D A (CW ct C) ∧ va_S A s.heap H locs ∧ lv_has ls 5 [(0, .ref (k_ba C 0)), (1, .long (dgS (k_v C) k3 k4 (dgC (k_v C) k3))), (3, .int (nI k3)), (4, .int (nI k4))]) ⟨hP, hD, hS, (by rw [dgS_0]; exact lv_sub hl [1, 2, 3, 0] rfl)⟩ ?_
        intro k4 H locs ls hkk4 hI ihk4
        obtain ⟨hP, hD, hS, hl⟩ := hI
        refine lv_iload hx hb dL_digest_88 (lv_at hl 3 rfl) ?_
        refine lv_bipush (v := 6) hx hb dL_digest_90 (by decide) ?_
        refine z_icN_ge (x := k4) (y := 6) (tgt := 116) hx hb (by omega) (by omega) dL_digest_92 (by decide) (fun c_10 => ?_) (fun c_10 => ?_)
        · have hkn : 6 = k4 := by omega
          subst hkn
          refine lv_iinc (v := nI (k3 + 1)) (lv' := [(3, .int (nI (k3 + 1))), (0, .ref (k_ba C 0)), (1, .long (dgS (k_v C) k3 6 (dgC (k_v C) k3))), (4, .int (nI 6))]) hx hb dL_digest_116 hl (k := 2) rfl (nI_add k3 1) (by decide) rfl (fun ls hl => ?_)
          refine lv_goto (tgt := 75) hx hb dL_digest_119 (by decide) ?_
          exact ihk3 _ _ _ (by omega) ⟨hP, hD, hS, (by rw [dgC_s]; exact lv_sub hl [1, 2, 0] rfl)⟩
        · refine lv_ldc2 (v := 31) hx hb hown (hts (.constantLong RL 11 (31)) (List.mem_of_getElem? (i := 2) rfl)) dL_digest_95 ?_
          refine lv_lload_n hx hb dL_digest_98 rfl (lv_at hl 1 rfl) ?_
          refine lv_lmul hx hb dL_digest_99 ?_
          refine lv_aload_n hx hb dL_digest_100 rfl (lv_at hl 0 rfl) ?_
          refine lv_iload_n hx hb dL_digest_101 rfl (lv_at hl 2 rfl) ?_
          refine lv_iload hx hb dL_digest_102 (lv_at hl 3 rfl) ?_
          refine z_rVi (C := C) (v := scV (k_v C) k3 k4) (As := [.int (nI k3), .int (nI k4)]) (rest := [.long (31 * (dgS (k_v C) k3 k4 (dgC (k_v C) k3)))]) ⟨hx, hb, hml, hown, hts⟩ hK hP (rd_section_v l g ct C hIV k3 (show k3 < v_nS (k_v C) by omega) k4 (by omega)) (cwV 2 hts gL_digest_X9_section rfl rfl rfl (by decide +kernel) ⟨Nat.le_of_ble_eq_true rfl, Nat.le_of_ble_eq_true rfl⟩) rfl hl.1 rfl (Nat.le_of_ble_eq_true rfl) dL_digest_104 ⟨Nat.le_of_ble_eq_true rfl, Nat.le_of_ble_eq_true rfl⟩ ?_
          refine lv_i2l (v := (scV (k_v C) k3 k4).toInt64) hx hb dL_digest_107 rfl ?_
          refine lv_ladd hx hb dL_digest_108 ?_
          refine lv_lstore_n (lv' := [(1, .long ((31 * (dgS (k_v C) k3 k4 (dgC (k_v C) k3))) + ((scV (k_v C) k3 k4).toInt64))), (0, .ref (k_ba C 0)), (3, .int (nI k3)), (4, .int (nI k4))]) hx hb dL_digest_109 rfl hl (by decide) rfl (fun ls hl => ?_)
          refine lv_iinc (v := nI (k4 + 1)) (lv' := [(4, .int (nI (k4 + 1))), (1, .long ((31 * (dgS (k_v C) k3 k4 (dgC (k_v C) k3))) + ((scV (k_v C) k3 k4).toInt64))), (0, .ref (k_ba C 0)), (3, .int (nI k3))]) hx hb dL_digest_110 hl (k := 3) rfl (nI_add k4 1) (by decide) rfl (fun ls hl => ?_)
          refine lv_goto (tgt := 88) hx hb dL_digest_113 (by decide) ?_
          exact ihk4 _ _ _ (by omega) ⟨hP, hD, hS, (by rw [dgS_s]; exact lv_sub hl [2, 1, 3, 0] rfl)⟩
    · refine lv_ldc2 (v := 31) hx hb hown (hts (.constantLong RL 11 (31)) (List.mem_of_getElem? (i := 2) rfl)) dL_digest_55 ?_
      refine lv_lload_n hx hb dL_digest_58 rfl (lv_at hl 1 rfl) ?_
      refine lv_lmul hx hb dL_digest_59 ?_
      refine lv_aload_n hx hb dL_digest_60 rfl (lv_at hl 0 rfl) ?_
      refine lv_iload_n hx hb dL_digest_61 rfl (lv_at hl 2 rfl) ?_
      refine z_rVl (C := C) (v := wtV (k_v C) k2) (As := [.int (nI k2)]) (rest := [.long (31 * (dgB (k_v C) k2))]) ⟨hx, hb, hml, hown, hts⟩ hK hP (rd_water_v l g ct C hIV k2 (by omega)) (cwV 1 hts gL_digest_X9_water rfl rfl rfl (by decide +kernel) ⟨Nat.le_of_ble_eq_true rfl, Nat.le_of_ble_eq_true rfl⟩) rfl hl.1 rfl (Nat.le_of_ble_eq_true rfl) dL_digest_62 ⟨Nat.le_of_ble_eq_true rfl, Nat.le_of_ble_eq_true rfl⟩ ?_
      refine lv_ladd hx hb dL_digest_65 ?_
      refine lv_lstore_n (lv' := [(1, .long ((31 * (dgB (k_v C) k2)) + (wtV (k_v C) k2))), (0, .ref (k_ba C 0)), (3, .int (nI k2))]) hx hb dL_digest_66 rfl hl (by decide) rfl (fun ls hl => ?_)
      refine lv_iinc (v := nI (k2 + 1)) (lv' := [(3, .int (nI (k2 + 1))), (1, .long ((31 * (dgB (k_v C) k2)) + (wtV (k_v C) k2))), (0, .ref (k_ba C 0))]) hx hb dL_digest_67 hl (k := 2) rfl (nI_add k2 1) (by decide) rfl (fun ls hl => ?_)
      refine lv_goto (tgt := 49) hx hb dL_digest_70 (by decide) ?_
      exact ihk2 _ _ _ (by omega) ⟨hP, hD, hS, (by rw [dgB_s]; exact lv_sub hl [2, 1, 0] rfl)⟩
  · refine lv_ldc2 (v := 31) hx hb hown (hts (.constantLong RL 11 (31)) (List.mem_of_getElem? (i := 2) rfl)) dL_digest_12 ?_
    refine lv_lload_n hx hb dL_digest_15 rfl (lv_at hl 1 rfl) ?_
    refine lv_lmul hx hb dL_digest_16 ?_
    refine z_cut (B0 := 38) (st2 := [.int (if k1 = 15 ∨ k1 = 16 then 0 else ctV (k_v C) k1), .long (31 * (dgA (k_v C) k1))]) ?_ (fun kk => ?_)
    · refine lv_i2l (v := (if k1 = 15 ∨ k1 = 16 then 0 else ctV (k_v C) k1).toInt64) hx hb dL_digest_38 rfl ?_
      refine lv_ladd hx hb dL_digest_39 ?_
      refine lv_lstore_n (lv' := [(1, .long ((31 * (dgA (k_v C) k1)) + ((if k1 = 15 ∨ k1 = 16 then 0 else ctV (k_v C) k1).toInt64))), (0, .ref (k_ba C 0)), (3, .int (nI k1))]) hx hb dL_digest_40 rfl hl (by decide) rfl (fun ls hl => ?_)
      refine lv_iinc (v := nI (k1 + 1)) (lv' := [(3, .int (nI (k1 + 1))), (1, .long ((31 * (dgA (k_v C) k1)) + ((if k1 = 15 ∨ k1 = 16 then 0 else ctV (k_v C) k1).toInt64))), (0, .ref (k_ba C 0))]) hx hb dL_digest_41 hl (k := 2) rfl (nI_add k1 1) (by decide) rfl (fun ls hl => ?_)
      refine lv_goto (tgt := 6) hx hb dL_digest_44 (by decide) ?_
      exact ihk1 _ _ _ (by omega) ⟨hP, hD, hS, (by rw [dgA_s]; exact lv_sub hl [2, 1, 0] rfl)⟩
    · refine lv_iload_n hx hb dL_digest_17 rfl (lv_at hl 2 rfl) ?_
      refine lv_bipush (v := 15) hx hb dL_digest_18 (by decide) ?_
      refine z_icN_eq (x := k1) (y := 15) (tgt := 29) hx hb (by omega) (by omega) dL_digest_20 (by decide) (fun c_11 => ?_) (fun c_11 => ?_)
      · refine lv_iconst (v := 0) hx hb dL_digest_29 (by decide) ?_
        refine lv_goto (tgt := 38) hx hb dL_digest_30 (by decide) ?_
        rw [if_pos (by simp [c_11])] at kk; exact kk
      · refine lv_iload_n hx hb dL_digest_23 rfl (lv_at hl 2 rfl) ?_
        refine lv_bipush (v := 16) hx hb dL_digest_24 (by decide) ?_
        refine z_icN_ne (x := k1) (y := 16) (tgt := 33) hx hb (by omega) (by omega) dL_digest_26 (by decide) (fun c_12 => ?_) (fun c_12 => ?_)
        · refine lv_aload_n hx hb dL_digest_33 rfl (lv_at hl 0 rfl) ?_
          refine lv_iload_n hx hb dL_digest_34 rfl (lv_at hl 2 rfl) ?_
          refine z_rVi (C := C) (v := ctV (k_v C) k1) (As := [.int (nI k1)]) (rest := [.long (31 * (dgA (k_v C) k1))]) ⟨hx, hb, hml, hown, hts⟩ hK hP (rd_count_v l g ct C hIV k1 (by omega) c_11 c_12) (cwV 1 hts gL_digest_X9_count rfl rfl rfl (by decide +kernel) ⟨Nat.le_of_ble_eq_true rfl, Nat.le_of_ble_eq_true rfl⟩) rfl hl.1 rfl (Nat.le_of_ble_eq_true rfl) dL_digest_35 ⟨Nat.le_of_ble_eq_true rfl, Nat.le_of_ble_eq_true rfl⟩ ?_
          rw [if_neg (by simp [c_11, c_12])] at kk; exact kk
        · refine lv_iconst (v := 0) hx hb dL_digest_29 (by decide) ?_
          refine lv_goto (tgt := 38) hx hb dL_digest_30 (by decide) ?_
          rw [if_pos (by simp [c_11, c_12])] at kk; exact kk
