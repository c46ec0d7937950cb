set_option maxHeartbeats 4000000 in
set_option maxRecDepth 100000 in
theorem op_pass (l : Launch) (g : va_G) (ct : Nat → ClassId) {T : Nat} {C : CT} {M : MT} (hR : Rel T C M) (hT : T < 1000000000) (x : Int32) : ∃ (a : Int32) (M2 : MT), j_ma M2 = j_ma M ∧ (∀ sz, Met l yX9_pass wsX9_pass (zRc 5 21 158 122) (va_Pc [.ref (k_ba C 0), .int x] (zW g ct (CW ct C) sz)) (zEi (S := {u : CT // k_ba u = k_ba C ∧ Rel (T + 48) u M2}) g (fun u => CW ct u.1) a (va_A (CW ct C) sz)) 21 158 (va_A (CW ct C) sz)) ∧ (∀ sz, Met l yX10_pass wsX10_pass (zRm 5 111) (va_Pc [.ref (j_ma M 0), .int x] (zW g ct (MWd ct M) sz)) (zEi (S := Unit) g (fun _ => MWd ct M2) a (va_A (MWd ct M) sz)) 0 0 (va_A (MWd ct M) sz)) := by
  have hS := hR.1
  have hD := lt_nS hS
  have hDT := lt_nT hS
  have hDP := lt_nP hS
  have h0 := hR.2.2.1
  have hv := hR.2.1
  have har := hS.2.2.2.2.2.1.2.1
  have hwi : wiOk (v_wi (k_v C)) (v_nS (k_v C)) := fun k hk => (hS.2.2.2.2.2.2.2.2.1 k hk).1
  have htd : ∀ i, i < 24 → lvOk (v_td (k_v C) i) := fun i hi => (hS.2.2.2.2.2.2.2.2.2.2.2.2.2.2.1 i hi).2
  have hcr : ∀ k, k < v_nS (k_v C) → lvOk (v_cr (k_v C) k) := fun k hk => (hS.2.2.2.2.2.2.2.2.2.2.2.2.2.2.2.1 k hk).2
  obtain ⟨mv, hmv, hn2⟩ := SR_mv hS
  have hok := SR_mok hS
  have hio : inP x.toInt64 1 48 ↔ ¬ osP x 1 48 := in_os (lo := 1) (hi := 48) (by decide) (by decide)
  by_cases hh : osP x 1 48
  · exact ⟨-2, M, rfl, fun sz => lc_Ri (wd := hstW ct (k_ba C 1) (k_ba C 2) (k_old C) (k_many C) (k_r C) ++ (txW ct (k_ba C 3) (k_ba C 4) (k_ba C 5) (k_len C) (k_ch C) (k_te C) (k_lv C) ++ stW ct (k_bd C) (k_tv C))) ⟨rfl, Rel_m (by omega) hR⟩ (List.Perm.refl _) (c_X9_pass_a l g ct (k_ba C 0) (k_bd C 0) (k_ba C 1) (k_ba C 3) (snV (k_sn C)) (k_ad C) (k_v C) x hh) (Nat.le_of_ble_eq_true rfl) (Nat.le_of_ble_eq_true rfl) (Nat.le_of_ble_eq_true rfl) (Nat.le_of_ble_eq_true rfl), fun sz => lm_Ri (c_X10_pass_u l g ct (j_ma M 0) (j_ma M 1) (j_ma M 2) (j_ma M 3) (j_ma M 4) (j_ma M 5) (j_ma M 6) (j_ma M 7) (j_ma M 8) (j_ma M 9) (j_n M) (j_hy M) (j_sl M) (j_sp M) (j_re M) (j_rh M) (j_rs M) (j_kp M) (j_fl M) (j_tn M) (j_tx M) (j_pa M) (j_rn M) (j_rd M) x (fun q => (hio.mp q) hh)) (Nat.le_of_ble_eq_true rfl) (Nat.le_of_ble_eq_true rfl) (Nat.le_of_ble_eq_true rfl) (Nat.le_of_ble_eq_true rfl)⟩
  · obtain ⟨j, hj, rfl⟩ := nI_of (x := x) (fun q => hh (Or.inl (Int32.lt_of_lt_of_le q (by decide))))
    have hj48 : j ≤ 48 := by
      have h2 : ¬ nI 48 < nI j := fun q => hh (Or.inr q)
      rw [nI_ltI (by omega) hj] at h2
      omega
    have hj1 : 1 ≤ j := by
      have h2 : ¬ nI j < nI 1 := fun q => hh (Or.inl q)
      rw [nI_ltI hj (by omega)] at h2
      omega
    refine ⟨psJ (v_nS (k_v C)) (v_wi (k_v C)) (v_cr (k_v C)) (v_ho (k_v C)) (v_li (k_v C)) (v_nT (k_v C)) (v_sw (k_v C)) (v_nP (k_v C)) (v_lim (k_v C)) (v_po (k_v C)) (v_pw (k_v C)) (v_on (k_v C)) (v_ar (k_v C)) (v_td (k_v C)) (hvV (k_v C)) j, j_rec M (mpsN (j_n M) (j_re M) (v_nS (k_v C)) (v_nT (k_v C)) (v_nP (k_v C)) (v_h (k_v C)) j) (j_re M), rfl, fun sz => ?_, fun sz => ?_⟩
    · have eh : v_h (hvS (k_v C) (psL (v_nS (k_v C)) (v_wi (k_v C)) (v_cr (k_v C)) (v_ho (k_v C)) (v_li (k_v C)) (v_nT (k_v C)) (v_sw (k_v C)) (v_nP (k_v C)) (v_lim (k_v C)) (v_po (k_v C)) (v_pw (k_v C)) (v_on (k_v C)) (v_ar (k_v C)) (v_td (k_v C)) (hvV (k_v C)) j)) = v_h (k_v C) + j := h_h_psL (v_nS (k_v C)) (v_wi (k_v C)) (v_cr (k_v C)) (v_ho (k_v C)) (v_li (k_v C)) (v_nT (k_v C)) (v_sw (k_v C)) (v_nP (k_v C)) (v_lim (k_v C)) (v_po (k_v C)) (v_pw (k_v C)) (v_on (k_v C)) (v_ar (k_v C)) (v_td (k_v C)) (hvV (k_v C)) j
      exact lc_Qi (C3 := fun u => k_rec C (hvS (k_v C) (psL (v_nS (k_v C)) (v_wi (k_v C)) (v_cr (k_v C)) (v_ho (k_v C)) (v_li (k_v C)) (v_nT (k_v C)) (v_sw (k_v C)) (v_nP (k_v C)) (v_lim (k_v C)) (v_po (k_v C)) (v_pw (k_v C)) (v_on (k_v C)) (v_ar (k_v C)) (v_td (k_v C)) (hvV (k_v C)) j)) u) (wd := txW ct (k_ba C 3) (k_ba C 4) (k_ba C 5) (k_len C) (k_ch C) (k_te C) (k_lv C) ++ stW ct (k_bd C) (k_tv C)) (fun u => ⟨rfl, Rel_rec hR (by omega) (SR_hours hS j) (by omega) u⟩) (fun _ => rfl) (fun _ => rfl) (List.Perm.refl _) (fun _ => List.Perm.refl _) (c_X9_pass_b l g ct sz (k_ba C 0) (k_bd C 0) (k_ba C 1) (k_ba C 3) (snV (k_sn C)) (k_ad C) (k_v C) (k_ba C 2) (k_old C) (k_many C) (k_r C) h0.1 h0.2.1 (lt_01 hS) hD.1 hDT.1 hDP.1 hwi hcr htd har j (by omega) hj1 hj48) (Nat.le_of_ble_eq_true rfl) (Nat.le_of_ble_eq_true rfl) (Nat.le_of_ble_eq_true rfl) (Nat.le_of_ble_eq_true rfl)
    · have hm := c_X10_pass_b l g ct sz (j_ma M 0) (j_ma M 1) (j_ma M 2) (j_ma M 3) (j_ma M 4) (j_ma M 5) (j_ma M 6) (j_ma M 7) (j_ma M 8) (j_ma M 9) (j_n M) (j_hy M) (j_sl M) (j_sp M) (j_re M) (j_rh M) (j_rs M) (j_kp M) (j_fl M) (j_tn M) (j_tx M) (j_pa M) (j_rn M) (j_rd M) (by have := h0.2.1; have := h0.2.2; omega) (v_nS (k_v C)) hD.1 hD.2 (v_nT (k_v C)) hDT.1 hDT.2 (v_nP (k_v C)) hDP.1 hDP.2 (v_h (k_v C)) (by omega) hS.2.2.2.2.1.1 mv hmv hn2 hok j hj1 hj48 (by omega)
      rw [SR_jams hS j] at hm
      exact lm_Wi hm (Nat.le_of_ble_eq_true rfl) (Nat.le_of_ble_eq_true rfl) (Nat.le_of_ble_eq_true rfl) (Nat.le_of_ble_eq_true rfl)

theorem pm_f {f0 : Nat × va_E} {S Hh X B : va_W} : List.Perm (f0 :: (S ++ (Hh ++ (X ++ B)))) ((f0 :: (S ++ B)) ++ (Hh ++ X)) := by
  refine List.Perm.cons f0 ?_
  have h2 : (S ++ B) ++ (Hh ++ X) = S ++ (B ++ (Hh ++ X)) := by simp only [List.append_assoc]
  have h1 : S ++ (Hh ++ (X ++ B)) = S ++ ((Hh ++ X) ++ B) := by simp only [List.append_assoc]
  show List.Perm (S ++ (Hh ++ (X ++ B))) ((S ++ B) ++ (Hh ++ X))
  rw [h1, h2]
  exact List.Perm.append_left S List.perm_append_comm
theorem fI_c {P Q : Nat → Prop} (h : ∀ j, P j ↔ Q j) (n : Nat) : fI P n = fI Q n ∧ fst_ P n = fst_ Q n := by
  have e : P = Q := funext (fun j => propext (h j))
  rw [e]
  exact ⟨rfl, rfl⟩
theorem Rel_sp {T T2 : Nat} {C : CT} {M : MT} (hR : Rel T C M) (hT : T ≤ T2) (w : SVT) (m sp2 : Nat → Int64) : Rel T2 (k_ba C, k_ad C, k_bd C, k_sn C, k_v C, w, k_old C, k_many C, k_r C, k_len C, k_ch C, k_te C, k_lv C) (j_ma M, cp0 m (cp0 sp2 (j_n M) 108) 108, j_hy M, j_sl M, cp0 sp2 (j_n M) 108, j_re M, j_rh M, j_rs M, j_kp M, j_fl M, j_tn M, j_tx M, j_pa M, j_rn M, j_rd M) :=
  Rel_m hT ⟨SR_c hR.1 (fun j hj => (cp0_at m (cp0 sp2 (j_n M) 108) hj).trans (cp0_at sp2 (j_n M) hj)) (fun _ _ => rfl), hR.2⟩

set_option maxHeartbeats 4000000 in
set_option maxRecDepth 100000 in
theorem op_forecast (l : Launch) (g : va_G) (ct : Nat → ClassId) {T : Nat} {C : CT} {M : MT} (hR : Rel T C M) (hT : T < 1000000000) (x : Int32) : ∃ (a : UInt64) (M2 : MT), j_ma M2 = j_ma M ∧ (∀ sz, Met l yX9_forecast wsX9_forecast (zRm 5 122) (va_Pc [.ref (k_ba C 0), .int x] (zW g ct (CW ct C) sz)) (zEd (S := {u : CT // k_ba u = k_ba C ∧ Rel (T + 48) u M2}) g (fun u => CW ct u.1) a (va_A (CW ct C) sz)) 21 158 (va_A (CW ct C) sz)) ∧ (∀ sz, Met l yX10_forecast wsX10_forecast (zRm 5 111) (va_Pc [.ref (j_ma M 0), .int x] (zW g ct (MWd ct M) sz)) (zEd (S := Unit) g (fun _ => MWd ct M2) a (va_A (MWd ct M) sz)) 0 0 (va_A (MWd ct M) sz)) := by
  have hS := hR.1
  have hD := lt_nS hS
  have hDT := lt_nT hS
  have hDP := lt_nP hS
  have h0 := hR.2.2.1
  have hv := hR.2.1
  have har := hS.2.2.2.2.2.1.2.1
  have hwi : wiOk (v_wi (k_v C)) (v_nS (k_v C)) := fun k hk => (hS.2.2.2.2.2.2.2.2.1 k hk).1
  have htd : ∀ i, i < 24 → lvOk (v_td (k_v C) i) := fun i hi => (hS.2.2.2.2.2.2.2.2.2.2.2.2.2.2.1 i hi).2
  have hcr : ∀ k, k < v_nS (k_v C) → lvOk (v_cr (k_v C) k) := fun k hk => (hS.2.2.2.2.2.2.2.2.2.2.2.2.2.2.2.1 k hk).2
  obtain ⟨mv, hmv, hn2⟩ := SR_mv hS
  have hok := SR_mok hS
  have hio : inP x.toInt64 0 48 ↔ ¬ osP x 0 48 := in_os (lo := 0) (hi := 48) (by decide) (by decide)
  by_cases hh : osP x 0 48
  · exact ⟨9221120237041090560, M, rfl, fun sz => lc_Rd (wd := hstW ct (k_ba C 1) (k_ba C 2) (k_old C) (k_many C) (k_r C) ++ (txW ct (k_ba C 3) (k_ba C 4) (k_ba C 5) (k_len C) (k_ch C) (k_te C) (k_lv C) ++ stW ct (k_bd C) (k_tv C))) ⟨rfl, Rel_m (by omega) hR⟩ (List.Perm.refl _) (c_X9_forecast_a l g ct (k_ba C 0) (k_bd C 0) (k_ba C 1) (k_ba C 3) (snV (k_sn C)) (k_ad C) (k_v C) x hh) (Nat.le_of_ble_eq_true rfl) (Nat.le_of_ble_eq_true rfl) (Nat.le_of_ble_eq_true rfl) (Nat.le_of_ble_eq_true rfl), fun sz => lm_Rd (c_X10_forecast_u l g ct (j_ma M 0) (j_ma M 1) (j_ma M 2) (j_ma M 3) (j_ma M 4) (j_ma M 5) (j_ma M 6) (j_ma M 7) (j_ma M 8) (j_ma M 9) (j_n M) (j_hy M) (j_sl M) (j_sp M) (j_re M) (j_rh M) (j_rs M) (j_kp M) (j_fl M) (j_tn M) (j_tx M) (j_pa M) (j_rn M) (j_rd M) x (fun q => (hio.mp q) hh)) (Nat.le_of_ble_eq_true rfl) (Nat.le_of_ble_eq_true rfl) (Nat.le_of_ble_eq_true rfl) (Nat.le_of_ble_eq_true rfl)⟩
  · obtain ⟨j, hj, rfl⟩ := nI_of (x := x) (fun q => hh (Or.inl (Int32.lt_of_lt_of_le q (by decide))))
    have hj48 : j ≤ 48 := by
      have h2 : ¬ nI 48 < nI j := fun q => hh (Or.inr q)
      rw [nI_ltI (by omega) hj] at h2
      omega
    refine ⟨FP.ddiv (FP.l2d (h_vo (psL (v_nS (k_v C)) (v_wi (k_v C)) (v_cr (k_v C)) (v_ho (k_v C)) (v_li (k_v C)) (v_nT (k_v C)) (v_sw (k_v C)) (v_nP (k_v C)) (v_lim (k_v C)) (v_po (k_v C)) (v_pw (k_v C)) (v_on (k_v C)) (v_ar (k_v C)) (v_td (k_v C)) (hvV (k_v C)) j))) (FP.i2d (v_ar (k_v C))), (j_ma M, cp0 (mpsN (j_n M) (j_re M) (v_nS (k_v C)) (v_nT (k_v C)) (v_nP (k_v C)) (v_h (k_v C)) j) (cp0 (j_sp M) (j_n M) 108) 108, j_hy M, j_sl M, cp0 (j_sp M) (j_n M) 108, j_re M, j_rh M, j_rs M, j_kp M, j_fl M, j_tn M, j_tx M, j_pa M, j_rn M, j_rd M), rfl, fun sz => ?_, fun sz => ?_⟩
    · exact lc_Wd (C2 := ((k_ba C, k_ad C, k_bd C, k_sn C, k_v C, hvS (k_v C) (psL (v_nS (k_v C)) (v_wi (k_v C)) (v_cr (k_v C)) (v_ho (k_v C)) (v_li (k_v C)) (v_nT (k_v C)) (v_sw (k_v C)) (v_nP (k_v C)) (v_lim (k_v C)) (v_po (k_v C)) (v_pw (k_v C)) (v_on (k_v C)) (v_ar (k_v C)) (v_td (k_v C)) (hvV (k_v C)) j), k_old C, k_many C, k_r C, k_len C, k_ch C, k_te C, k_lv C) : CT)) (wd := hstW ct (k_ba C 1) (k_ba C 2) (k_old C) (k_many C) (k_r C) ++ txW ct (k_ba C 3) (k_ba C 4) (k_ba C 5) (k_len C) (k_ch C) (k_te C) (k_lv C)) ⟨rfl, Rel_sp hR (by omega) _ _ _⟩ rfl rfl pm_f pm_f (c_X9_forecast_b l g ct sz (k_ba C 0) (k_ba C 1) (k_ba C 3) (k_ad C) (k_v C) (snV (k_sn C)) (k_bd C) (k_tv C) (lt_01 hS) hD.1 hDT.1 hDP.1 hwi hcr htd har j (by omega) hj48) (Nat.le_of_ble_eq_true rfl) (Nat.le_of_ble_eq_true rfl) (Nat.le_of_ble_eq_true rfl) (Nat.le_of_ble_eq_true rfl)
    · have hm := c_X10_forecast_b l g ct sz (j_ma M 0) (j_ma M 1) (j_ma M 2) (j_ma M 3) (j_ma M 4) (j_ma M 5) (j_ma M 6) (j_ma M 7) (j_ma M 8) (j_ma M 9) (j_n M) (j_hy M) (j_sl M) (j_sp M) (j_re M) (j_rh M) (j_rs M) (j_kp M) (j_fl M) (j_tn M) (j_tx M) (j_pa M) (j_rn M) (j_rd M) (v_nS (k_v C)) hD.1 hD.2 (v_nT (k_v C)) hDT.1 hDT.2 (v_nP (k_v C)) hDP.1 hDP.2 (v_h (k_v C)) (by omega) hS.2.2.2.2.1.1 mv hmv hn2 hok j hj48 (by omega)
      have hS2 := SR_hours hS j
      have e1 : miD (mpsN (j_n M) (j_re M) (v_nS (k_v C)) (v_nT (k_v C)) (v_nP (k_v C)) (v_h (k_v C)) j) ((mpsN (j_n M) (j_re M) (v_nS (k_v C)) (v_nT (k_v C)) (v_nP (k_v C)) (v_h (k_v C)) j) 12) = FP.ddiv (FP.l2d (h_vo (psL (v_nS (k_v C)) (v_wi (k_v C)) (v_cr (k_v C)) (v_ho (k_v C)) (v_li (k_v C)) (v_nT (k_v C)) (v_sw (k_v C)) (v_nP (k_v C)) (v_lim (k_v C)) (v_po (k_v C)) (v_pw (k_v C)) (v_on (k_v C)) (v_ar (k_v C)) (v_td (k_v C)) (hvV (k_v C)) j))) (FP.i2d (v_ar (k_v C))) := by
        rw [inn_eq hS2, hS2.2.2.2.2.2.2.1.1]
        rfl
      rw [e1] at hm
      exact lm_Wd (M2 := (j_ma M, cp0 (mpsN (j_n M) (j_re M) (v_nS (k_v C)) (v_nT (k_v C)) (v_nP (k_v C)) (v_h (k_v C)) j) (cp0 (j_sp M) (j_n M) 108) 108, j_hy M, j_sl M, cp0 (j_sp M) (j_n M) 108, j_re M, j_rh M, j_rs M, j_kp M, j_fl M, j_tn M, j_tx M, j_pa M, j_rn M, j_rd M)) hm (Nat.le_of_ble_eq_true rfl) (Nat.le_of_ble_eq_true rfl) (Nat.le_of_ble_eq_true rfl) (Nat.le_of_ble_eq_true rfl)

set_option maxHeartbeats 4000000 in
set_option maxRecDepth 100000 in
theorem op_shutIn (l : Launch) (g : va_G) (ct : Nat → ClassId) {T : Nat} {C : CT} {M : MT} (hR : Rel T C M) (hT : T < 1000000000) : ∃ (a : Int32) (M2 : MT), j_ma M2 = j_ma M ∧ (∀ sz, Met l yX9_shutIn wsX9_shutIn (zRm 5 122) (va_Pc [.ref (k_ba C 0)] (zW g ct (CW ct C) sz)) (zEi (S := {u : CT // k_ba u = k_ba C ∧ Rel (T + 48) u M2}) g (fun u => CW ct u.1) a (va_A (CW ct C) sz)) 21 158 (va_A (CW ct C) sz)) ∧ (∀ sz, Met l yX10_shutIn wsX10_shutIn (zRm 5 111) (va_Pc [.ref (j_ma M 0)] (zW g ct (MWd ct M) sz)) (zEi (S := Unit) g (fun _ => MWd ct M2) a (va_A (MWd ct M) sz)) 0 0 (va_A (MWd ct M) sz)) := by
  have hS := hR.1
  have hD := lt_nS hS
  have hDT := lt_nT hS
  have hDP := lt_nP hS
  have h0 := hR.2.2.1
  have hv := hR.2.1
  have har := hS.2.2.2.2.2.1.2.1
  have hwi : wiOk (v_wi (k_v C)) (v_nS (k_v C)) := fun k hk => (hS.2.2.2.2.2.2.2.2.1 k hk).1
  have htd : ∀ i, i < 24 → lvOk (v_td (k_v C) i) := fun i hi => (hS.2.2.2.2.2.2.2.2.2.2.2.2.2.2.1 i hi).2
  have hcr : ∀ k, k < v_nS (k_v C) → lvOk (v_cr (k_v C) k) := fun k hk => (hS.2.2.2.2.2.2.2.2.2.2.2.2.2.2.2.1 k hk).2
  obtain ⟨mv, hmv, hn2⟩ := SR_mv hS
  have hok := SR_mok hS
  have hq : ∀ j, ((fun j => mstI (mpsN (j_n M) (j_re M) (v_nS (k_v C)) (v_nT (k_v C)) (v_nP (k_v C)) (v_h (k_v C)) j) 0 (v_nS (k_v C)) + mstI (mpsN (j_n M) (j_re M) (v_nS (k_v C)) (v_nT (k_v C)) (v_nP (k_v C)) (v_h (k_v C)) j) 1 (v_nS (k_v C)) + mstI (mpsN (j_n M) (j_re M) (v_nS (k_v C)) (v_nT (k_v C)) (v_nP (k_v C)) (v_h (k_v C)) j) 3 (v_nS (k_v C)) = 0)) j ↔ ((fun k => cntI (h_co (psL (v_nS (k_v C)) (v_wi (k_v C)) (v_cr (k_v C)) (v_ho (k_v C)) (v_li (k_v C)) (v_nT (k_v C)) (v_sw (k_v C)) (v_nP (k_v C)) (v_lim (k_v C)) (v_po (k_v C)) (v_pw (k_v C)) (v_on (k_v C)) (v_ar (k_v C)) (v_td (k_v C)) (hvV (k_v C)) k)) 2 (v_nS (k_v C)) + cntI (h_co (psL (v_nS (k_v C)) (v_wi (k_v C)) (v_cr (k_v C)) (v_ho (k_v C)) (v_li (k_v C)) (v_nT (k_v C)) (v_sw (k_v C)) (v_nP (k_v C)) (v_lim (k_v C)) (v_po (k_v C)) (v_pw (k_v C)) (v_on (k_v C)) (v_ar (k_v C)) (v_td (k_v C)) (hvV (k_v C)) k)) 4 (v_nS (k_v C)) = nI (v_nS (k_v C)))) j := fun j => shut_eq (SR_hours hS j)
  have hf := fI_c hq 49
  refine ⟨fI (fun k => cntI (h_co (psL (v_nS (k_v C)) (v_wi (k_v C)) (v_cr (k_v C)) (v_ho (k_v C)) (v_li (k_v C)) (v_nT (k_v C)) (v_sw (k_v C)) (v_nP (k_v C)) (v_lim (k_v C)) (v_po (k_v C)) (v_pw (k_v C)) (v_on (k_v C)) (v_ar (k_v C)) (v_td (k_v C)) (hvV (k_v C)) k)) 2 (v_nS (k_v C)) + cntI (h_co (psL (v_nS (k_v C)) (v_wi (k_v C)) (v_cr (k_v C)) (v_ho (k_v C)) (v_li (k_v C)) (v_nT (k_v C)) (v_sw (k_v C)) (v_nP (k_v C)) (v_lim (k_v C)) (v_po (k_v C)) (v_pw (k_v C)) (v_on (k_v C)) (v_ar (k_v C)) (v_td (k_v C)) (hvV (k_v C)) k)) 4 (v_nS (k_v C)) = nI (v_nS (k_v C))) 49, (j_ma M, cp0 (mpsN (j_n M) (j_re M) (v_nS (k_v C)) (v_nT (k_v C)) (v_nP (k_v C)) (v_h (k_v C)) (fst_ (fun k => cntI (h_co (psL (v_nS (k_v C)) (v_wi (k_v C)) (v_cr (k_v C)) (v_ho (k_v C)) (v_li (k_v C)) (v_nT (k_v C)) (v_sw (k_v C)) (v_nP (k_v C)) (v_lim (k_v C)) (v_po (k_v C)) (v_pw (k_v C)) (v_on (k_v C)) (v_ar (k_v C)) (v_td (k_v C)) (hvV (k_v C)) k)) 2 (v_nS (k_v C)) + cntI (h_co (psL (v_nS (k_v C)) (v_wi (k_v C)) (v_cr (k_v C)) (v_ho (k_v C)) (v_li (k_v C)) (v_nT (k_v C)) (v_sw (k_v C)) (v_nP (k_v C)) (v_lim (k_v C)) (v_po (k_v C)) (v_pw (k_v C)) (v_on (k_v C)) (v_ar (k_v C)) (v_td (k_v C)) (hvV (k_v C)) k)) 4 (v_nS (k_v C)) = nI (v_nS (k_v C))) 49)) (cp0 (j_sp M) (j_n M) 108) 108, j_hy M, j_sl M, cp0 (j_sp M) (j_n M) 108, j_re M, j_rh M, j_rs M, j_kp M, j_fl M, j_tn M, j_tx M, j_pa M, j_rn M, j_rd M), rfl, fun sz => ?_, fun sz => ?_⟩
  · exact lc_Wi (C2 := ((k_ba C, k_ad C, k_bd C, k_sn C, k_v C, hvS (k_v C) (psL (v_nS (k_v C)) (v_wi (k_v C)) (v_cr (k_v C)) (v_ho (k_v C)) (v_li (k_v C)) (v_nT (k_v C)) (v_sw (k_v C)) (v_nP (k_v C)) (v_lim (k_v C)) (v_po (k_v C)) (v_pw (k_v C)) (v_on (k_v C)) (v_ar (k_v C)) (v_td (k_v C)) (hvV (k_v C)) (fst_ (fun k => cntI (h_co (psL (v_nS (k_v C)) (v_wi (k_v C)) (v_cr (k_v C)) (v_ho (k_v C)) (v_li (k_v C)) (v_nT (k_v C)) (v_sw (k_v C)) (v_nP (k_v C)) (v_lim (k_v C)) (v_po (k_v C)) (v_pw (k_v C)) (v_on (k_v C)) (v_ar (k_v C)) (v_td (k_v C)) (hvV (k_v C)) k)) 2 (v_nS (k_v C)) + cntI (h_co (psL (v_nS (k_v C)) (v_wi (k_v C)) (v_cr (k_v C)) (v_ho (k_v C)) (v_li (k_v C)) (v_nT (k_v C)) (v_sw (k_v C)) (v_nP (k_v C)) (v_lim (k_v C)) (v_po (k_v C)) (v_pw (k_v C)) (v_on (k_v C)) (v_ar (k_v C)) (v_td (k_v C)) (hvV (k_v C)) k)) 4 (v_nS (k_v C)) = nI (v_nS (k_v C))) 49)), k_old C, k_many C, k_r C, k_len C, k_ch C, k_te C, k_lv C) : CT)) (wd := hstW ct (k_ba C 1) (k_ba C 2) (k_old C) (k_many C) (k_r C) ++ txW ct (k_ba C 3) (k_ba C 4) (k_ba C 5) (k_len C) (k_ch C) (k_te C) (k_lv C)) ⟨rfl, Rel_sp hR (by omega) _ _ _⟩ rfl rfl pm_f pm_f (c_X9_shutIn_b l g ct sz (k_ba C 0) (k_ba C 1) (k_ba C 3) (k_ad C) (k_v C) (snV (k_sn C)) (k_bd C) (k_tv C) (lt_01 hS) hD.1 hDT.1 hDP.1 hwi hcr htd har (by omega)) (Nat.le_of_ble_eq_true rfl) (Nat.le_of_ble_eq_true rfl) (Nat.le_of_ble_eq_true rfl) (Nat.le_of_ble_eq_true rfl)
  · have hm := c_X10_shutIn l g ct sz (j_ma M 0) (j_ma M 1) (j_ma M 2) (j_ma M 3) (j_ma M 4) (j_ma M 5) (j_ma M 6) (j_ma M 7) (j_ma M 8) (j_ma M 9) (j_n M) (j_hy M) (j_sl M) (j_sp M) (j_re M) (j_rh M) (j_rs M) (j_kp M) (j_fl M) (j_tn M) (j_tx M) (j_pa M) (j_rn M) (j_rd M) (v_nS (k_v C)) hD.1 hD.2 (v_nT (k_v C)) hDT.1 hDT.2 (v_nP (k_v C)) hDP.1 hDP.2 (v_h (k_v C)) (by omega) hS.2.2.2.2.1.1 mv hmv hn2 hok (by omega)
    rw [hf.1, hf.2] at hm
    exact lm_Wi (M2 := (j_ma M, cp0 (mpsN (j_n M) (j_re M) (v_nS (k_v C)) (v_nT (k_v C)) (v_nP (k_v C)) (v_h (k_v C)) (fst_ (fun k => cntI (h_co (psL (v_nS (k_v C)) (v_wi (k_v C)) (v_cr (k_v C)) (v_ho (k_v C)) (v_li (k_v C)) (v_nT (k_v C)) (v_sw (k_v C)) (v_nP (k_v C)) (v_lim (k_v C)) (v_po (k_v C)) (v_pw (k_v C)) (v_on (k_v C)) (v_ar (k_v C)) (v_td (k_v C)) (hvV (k_v C)) k)) 2 (v_nS (k_v C)) + cntI (h_co (psL (v_nS (k_v C)) (v_wi (k_v C)) (v_cr (k_v C)) (v_ho (k_v C)) (v_li (k_v C)) (v_nT (k_v C)) (v_sw (k_v C)) (v_nP (k_v C)) (v_lim (k_v C)) (v_po (k_v C)) (v_pw (k_v C)) (v_on (k_v C)) (v_ar (k_v C)) (v_td (k_v C)) (hvV (k_v C)) k)) 4 (v_nS (k_v C)) = nI (v_nS (k_v C))) 49)) (cp0 (j_sp M) (j_n M) 108) 108, j_hy M, j_sl M, cp0 (j_sp M) (j_n M) 108, j_re M, j_rh M, j_rs M, j_kp M, j_fl M, j_tn M, j_tx M, j_pa M, j_rn M, j_rd M)) hm (Nat.le_of_ble_eq_true rfl) (Nat.le_of_ble_eq_true rfl) (Nat.le_of_ble_eq_true rfl) (Nat.le_of_ble_eq_true rfl)
