theorem SR_setAlarm {v : SVT} {n : Nat → Int64} {re : Nat → UInt64} (h : SR v n re) (y : Int64) (hy : lvOk y) : SR (v_nS v, v_wi v, v_cr v, v_ho v, v_li v, v_co v, v_le v, v_cs v, v_nD v, v_we v, v_cl v, v_nT v, v_sw v, v_nP v, v_lim v, v_idl v, v_po v, v_pw v, v_on v, v_ra v, v_ar v, v_vo v, v_fi v, v_fo v, v_fv v, v_br v, v_pu v, v_td v, y, v_h v, v_od v, v_cb v, v_dl v) n (vf_upd re 0 y.toUInt64) := by
  have kk : ∀ j, j ≠ 0 → vf_upd re 0 y.toUInt64 j = re j := fun j q => by unfold vf_upd; rw [if_neg q]
  obtain ⟨a, b, c, d, e, f, w, hsec, hinv, huni, hdis, hstr, hpum, hal, htd, hcr, h01⟩ := h
  exact ⟨a, b, c, d, e, f, w, hsec, hinv, huni, hdis, hstr, hpum, ⟨z_uDs, hy⟩, fun i hi => ⟨(kk _ (by omega)).trans (htd i hi).1, (htd i hi).2⟩, fun k hk => ⟨(kk _ (by omega)).trans (hcr k hk).1, (hcr k hk).2⟩, h01⟩

set_option maxHeartbeats 4000000 in
set_option maxRecDepth 100000 in
theorem op_setAlarm (l : Launch) (g : va_G) (ct : Nat → ClassId) {T : Nat} {C : CT} {M : MT} (hR : Rel T C M) (y : Int64) : ∃ (a : Int32) (M2 : MT), j_ma M2 = j_ma M ∧ (∀ sz, Met l yX9_setAlarm wsX9_setAlarm (zRc 4 21 158 95) (va_Pc [.ref (k_ba C 0), .long y] (zW g ct (CW ct C) sz)) (zEi (S := {u : CT // k_ba u = k_ba C ∧ Rel (T + 48) u M2}) g (fun u => CW ct u.1) a (va_A (CW ct C) sz)) 21 158 (va_A (CW ct C) sz)) ∧ (∀ sz, Met l yX10_setAlarm wsX10_setAlarm (zRm 3 77) (va_Pc [.ref (j_ma M 0), .long y] (zW g ct (MWd ct M) sz)) (zEi (S := Unit) g (fun _ => MWd ct M2) a (va_A (MWd ct M) sz)) 0 0 (va_A (MWd ct M) sz)) := by
  have hS := hR.1
  have h0 := hR.2.2.1
  have hal := hS.2.2.2.2.2.2.2.2.2.2.2.2.2.1
  have hsm : lvOk y → (Op.cmpValue (FP.dcmp (j_re M 0) y.toUInt64) CmpOp.l = 0 ↔ smL y (v_al (k_v C))) := fun hy => by rw [hal.1]; exact ky_same hal.2 hy
  by_cases h1 : lvOk y ∧ ¬ smL y (v_al (k_v C))
  · refine ⟨1, j_rec M (j_n M) (vf_upd (j_re M) 0 y.toUInt64), rfl, fun sz => ?_, fun sz => ?_⟩
    · exact lc_Qi (C3 := fun u => k_rec C (v_nS (k_v C), v_wi (k_v C), v_cr (k_v C), v_ho (k_v C), v_li (k_v C), v_co (k_v C), v_le (k_v C), v_cs (k_v C), v_nD (k_v C), v_we (k_v C), v_cl (k_v C), v_nT (k_v C), v_sw (k_v C), v_nP (k_v C), v_lim (k_v C), v_idl (k_v C), v_po (k_v C), v_pw (k_v C), v_on (k_v C), v_ra (k_v C), v_ar (k_v C), v_vo (k_v C), v_fi (k_v C), v_fo (k_v C), v_fv (k_v C), v_br (k_v C), v_pu (k_v C), v_td (k_v C), y, v_h (k_v C), v_od (k_v C), v_cb (k_v C), v_dl (k_v C)) u) (wd := txW ct (k_ba C 3) (k_ba C 4) (k_ba C 5) (k_len C) (k_ch C) (k_te C) (k_lv C) ++ stW ct (k_bd C) (k_tv C)) (fun u => ⟨rfl, Rel_rec hR (by omega) (SR_setAlarm hS y h1.1) (Nat.le_trans hR.2.1 (by omega)) u⟩) (fun _ => rfl) (fun _ => rfl) (List.Perm.refl _) (fun _ => List.Perm.refl _) (c_X9_setAlarm_b l g ct sz (k_ba C 0) (k_bd C 0) (k_ba C 1) (k_ba C 3) (snV (k_sn C)) (k_ad C) (k_v C) (k_ba C 2) (k_old C) (k_many C) (k_r C) h0.1 h0.2.1 (lt_01 hS) y h1) (Nat.le_of_ble_eq_true rfl) (Nat.le_of_ble_eq_true rfl) (Nat.le_of_ble_eq_true rfl) (Nat.le_of_ble_eq_true rfl)
    · exact lm_Wi (c_X10_setAlarm_b l g ct sz (j_ma M 0) (j_ma M 1) (j_ma M 2) (j_ma M 3) (j_ma M 4) (j_ma M 5) (j_ma M 6) (j_ma M 7) (j_ma M 8) (j_ma M 9) (j_n M) (j_hy M) (j_sl M) (j_sp M) (j_re M) (j_rh M) (j_rs M) (j_kp M) (j_fl M) (j_tn M) (j_tx M) (j_pa M) (j_rn M) (j_rd M) (by have := h0.2.1; have := h0.2.2; omega) y ⟨ky_lv.mpr h1.1, fun q => h1.2 ((hsm h1.1).mp q)⟩) (Nat.le_of_ble_eq_true rfl) (Nat.le_of_ble_eq_true rfl) (Nat.le_of_ble_eq_true rfl) (Nat.le_of_ble_eq_true rfl)
  · refine ⟨if lvOk y then -5 else -2, M, rfl, fun sz => ?_, fun sz => ?_⟩
    · exact lc_Ri (wd := hstW ct (k_ba C 1) (k_ba C 2) (k_old C) (k_many C) (k_r C) ++ (txW ct (k_ba C 3) (k_ba C 4) (k_ba C 5) (k_len C) (k_ch C) (k_te C) (k_lv C) ++ stW ct (k_bd C) (k_tv C))) ⟨rfl, Rel_m (by omega) hR⟩ (List.Perm.refl _) (c_X9_setAlarm_a l g ct (k_ba C 0) (k_bd C 0) (k_ba C 1) (k_ba C 3) (snV (k_sn C)) (k_ad C) (k_v C) y h1) (Nat.le_of_ble_eq_true rfl) (Nat.le_of_ble_eq_true rfl) (Nat.le_of_ble_eq_true rfl) (Nat.le_of_ble_eq_true rfl)
    · have hm := c_X10_setAlarm_a l g ct (j_ma M 0) (j_ma M 1) (j_ma M 2) (j_ma M 3) (j_ma M 4) (j_ma M 5) (j_ma M 6) (j_ma M 7) (j_ma M 8) (j_ma M 9) (j_n M) (j_hy M) (j_sl M) (j_sp M) (j_re M) (j_rh M) (j_rs M) (j_kp M) (j_fl M) (j_tn M) (j_tx M) (j_pa M) (j_rn M) (j_rd M) y (fun q => h1 ⟨ky_lv.mp q.1, fun z => q.2 ((hsm (ky_lv.mp q.1)).mpr z)⟩)
      have e : (if isLvP y 13840687554816376832 4621819117588971520 then (-5 : Int32) else -2) = if lvOk y then -5 else -2 := by
        by_cases q : lvOk y
        · rw [if_pos q, if_pos (ky_lv.mpr q)]
        · rw [if_neg q, if_neg (fun z => q (ky_lv.mp z))]
      rw [e] at hm
      exact lm_Ri hm (Nat.le_of_ble_eq_true rfl) (Nat.le_of_ble_eq_true rfl) (Nat.le_of_ble_eq_true rfl) (Nat.le_of_ble_eq_true rfl)
