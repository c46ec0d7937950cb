theorem SR_switchPump {v : SVT} {n : Nat → Int64} {re : Nat → UInt64} (h : SR v n re) {k : Nat} (bb : Int32) (hk0 : k < v_nP v) (hb0 : bb = 0 ∨ bb = 1) : SR (v_nS v, v_wi v, v_cr v, v_ho v, v_li v, v_co v, v_le v, v_cs v, v_nD v, v_we v, v_cl v, v_nT v, v_sw v, v_nP v, v_lim v, v_idl v, v_po v, v_pw v, upd (v_on v) k bb, v_ra v, v_ar v, v_vo v, v_fi v, v_fo v, v_fv v, v_br v, v_pu v, v_td v, v_al v, v_h v, v_od v, v_cb v, v_dl v) (vp_updL n (84 + 4 * k + 2) bb.toInt64) re := by
  have kk : ∀ j, j ≠ 84 + 4 * k + 2 → (vp_updL n (84 + 4 * k + 2) bb.toInt64) j = n j := fun j h0 => by rw [pk_uLn (by omega)]
  obtain ⟨a, b, c, d, e, f, w, hsec, hinv, huni, hdis, hstr, hpum, hal, htd, hcr, h01⟩ := h
  have ha := a.1
  have hb := b.1
  have hc := c.1
  have hd := d.1
  exact ⟨⟨ha, (kk 7 (by omega)).trans a.2⟩, ⟨hb, (kk 8 (by omega)).trans b.2⟩, ⟨hc, (kk 9 (by omega)).trans c.2⟩, ⟨hd, (kk 10 (by omega)).trans d.2⟩, ⟨(kk 0 (by omega)).trans e.1, (kk 1 (by omega)).trans e.2.1, e.2.2.1, (kk 2 (by omega)).trans e.2.2.2.1, by rw [kk 3 (by omega)]; exact e.2.2.2.2.1, by rw [kk 4 (by omega)]; exact e.2.2.2.2.2⟩, ⟨(kk 5 (by omega)).trans f.1, f.2.1, (kk 6 (by omega)).trans f.2.2.1, by rw [kk 11 (by omega)]; exact f.2.2.2⟩, ⟨(kk 12 (by omega)).trans w.1, (kk 13 (by omega)).trans w.2.1, (kk 14 (by omega)).trans w.2.2.1, (kk 15 (by omega)).trans w.2.2.2.1, (kk 16 (by omega)).trans w.2.2.2.2.1, (kk 17 (by omega)).trans w.2.2.2.2.2⟩, fun k hk => by have hk : k < v_nS v := hk; rw [kk _ (by omega), kk _ (by omega), kk _ (by omega), kk _ (by omega), kk _ (by omega), kk _ (by omega)]; exact hsec k hk, hinv, huni, fun k hk => by have hk : k < v_nD v := hk; rw [kk _ (by omega), kk _ (by omega)]; exact hdis k hk, fun k hk => by have hk : k < v_nT v := hk; rw [kk _ (by omega)]; exact hstr k hk, fun i hi => by
    have hi : i < v_nP v := hi
    have h1 := hpum i hi
    show _ = v_po v i ∧ _ = v_pw v i ∧ _ = upd (v_on v) k bb i ∧ _ = v_ra v i
    by_cases q : i = k
    · subst q
      rw [pk_us, pk_uLs, kk _ (by omega), kk _ (by omega), kk _ (by omega)]
      exact ⟨h1.1, h1.2.1, by simp, h1.2.2.2⟩
    · rw [pk_un q, kk _ (by omega), kk _ (by omega), kk _ (by omega), kk _ (by omega)]
      exact h1, hal, htd, hcr, ⟨h01.1, fun i hi => by
    show upd (v_on v) k bb i = 0 ∨ upd (v_on v) k bb i = 1
    by_cases q : i = k
    · subst q; rw [pk_us]; exact hb0
    · rw [pk_un q]; exact h01.2 i hi⟩⟩

theorem on_eq {v : SVT} {n : Nat → Int64} {re : Nat → UInt64} (h : SR v n re) : monI n (v_nP v) = onI (v_on v) (v_nP v) := by
  refine lp_congr _ (fun k hk a => ?_)
  have h1 := (h.2.2.2.2.2.2.2.2.2.2.2.2.1 k hk).2.2.1
  have h2 := (lt_01 h).2 k (by have := (lt_nP h).1; omega)
  show a + (n (84 + 4 * k + 2)).toInt32 = if v_on v k = 0 then a else a + 1
  rw [h1]
  rcases h2 with q | q
  · rw [q, if_pos rfl]; exact Int32.add_zero a
  · rw [q, if_neg (by decide)]
theorem wc_eq {v : SVT} {n : Nat → Int64} {re : Nat → UInt64} (h : SR v n re) : mwcI n (v_nD v) = wcI (v_cl v) (v_we v) (v_nD v) := by
  refine lp_congr _ (fun k hk a => ?_)
  have h1 := h.2.2.2.2.2.2.2.2.2.2.1 k hk
  have h2 := (lt_01 h).1 k (by have := (lt_nD h).1; omega)
  show (if n (68 + 2 * k + 1) = 1 then a + (n (68 + 2 * k)).toInt32 else a + 0) = if v_cl v k = 0 then a else a + v_we v k
  rw [h1.1, h1.2]
  rcases h2 with q | q
  · rw [q, if_neg (by decide), if_pos rfl]; exact Int32.add_zero a
  · rw [q, if_pos (by decide), if_neg (by decide)]
theorem wa_eq {v : SVT} {n : Nat → Int64} {re : Nat → UInt64} (h : SR v n re) : mwaI n (v_nD v) = waI (v_we v) (v_nD v) := by
  refine lp_congr _ (fun k hk a => ?_)
  have h1 := h.2.2.2.2.2.2.2.2.2.2.1 k hk
  show a + (n (68 + 2 * k)).toInt32 = a + v_we v k
  rw [h1.1]

set_option maxHeartbeats 4000000 in
set_option maxRecDepth 100000 in
theorem op_switchPump (l : Launch) (g : va_G) (ct : Nat → ClassId) {T : Nat} {C : CT} {M : MT} (hR : Rel T C M) (x b : Int32) (hb0 : b = 0 ∨ b = 1) : ∃ (a : Int32) (M2 : MT), j_ma M2 = j_ma M ∧ (∀ sz, Met l yX9_switchPump wsX9_switchPump (zRc 4 21 158 95) (va_Pc [.ref (k_ba C 0), .int x, .int b] (zW g ct (CW ct C) sz)) (zEi (S := {u : CT // k_ba u = k_ba C ∧ Rel (T + 48) u M2}) g (fun u => CW ct u.1) a (va_A (CW ct C) sz)) 21 158 (va_A (CW ct C) sz)) ∧ (∀ sz, Met l yX10_switchPump wsX10_switchPump (zRm 3 65) (va_Pc [.ref (j_ma M 0), .int x, .int b] (zW g ct (MWd ct M) sz)) (zEi (S := Unit) g (fun _ => MWd ct M2) a (va_A (MWd ct M) sz)) 0 0 (va_A (MWd ct M) sz)) := by
  have hS := hR.1
  have hD := lt_nP hS
  have h0 := hR.2.2.1
  have hin0 := has_in (m := v_nP (k_v C)) (by have := hD.1; omega) hD.2 x
  by_cases hh : ¬ x < 0 ∧ x < nI (v_nP (k_v C))
  · have hin1 := hin0.mpr hh
    obtain ⟨k, hk, rfl⟩ := has_N (by have := hD.1; omega) hh
    have hz := hS.2.2.2.2.2.2.2.2.2.2.2.2.1 k hk
    have h01 := (lt_01 hS).2 k (by have := hD.1; omega)
    have hsw : (j_n M (84 + 4 * k + 2)).toInt32 = v_on (k_v C) k := hz.2.2.1
    by_cases h1 : ¬ v_on (k_v C) k = b
    · have hS2 := SR_switchPump hS b hk hb0
      refine ⟨onI (upd (v_on (k_v C)) k b) (v_nP (k_v C)), j_rec M (vp_updL (j_n M) (84 + 4 * k + 2) b.toInt64) (j_re M), rfl, fun sz => ?_, fun sz => ?_⟩
      · exact lc_Qi (C3 := fun u => k_rec C (v_nS (k_v C), v_wi (k_v C), v_cr (k_v C), v_ho (k_v C), v_li (k_v C), v_co (k_v C), v_le (k_v C), v_cs (k_v C), v_nD (k_v C), v_we (k_v C), v_cl (k_v C), v_nT (k_v C), v_sw (k_v C), v_nP (k_v C), v_lim (k_v C), v_idl (k_v C), v_po (k_v C), v_pw (k_v C), upd (v_on (k_v C)) k b, v_ra (k_v C), v_ar (k_v C), v_vo (k_v C), v_fi (k_v C), v_fo (k_v C), v_fv (k_v C), v_br (k_v C), v_pu (k_v C), v_td (k_v C), v_al (k_v C), v_h (k_v C), v_od (k_v C), v_cb (k_v C), v_dl (k_v C)) u) (wd := txW ct (k_ba C 3) (k_ba C 4) (k_ba C 5) (k_len C) (k_ch C) (k_te C) (k_lv C) ++ stW ct (k_bd C) (k_tv C)) (fun u => ⟨rfl, Rel_rec hR (by omega) (hS2) (Nat.le_trans hR.2.1 (by omega)) u⟩) (fun _ => rfl) (fun _ => rfl) (List.Perm.refl _) (fun _ => List.Perm.refl _) (c_X9_switchPump_b l g ct sz (k_ba C 0) (k_bd C 0) (k_ba C 1) (k_ba C 3) (snV (k_sn C)) (k_ad C) (k_v C) (k_ba C 2) (k_old C) (k_many C) (k_r C) h0.1 h0.2.1 (lt_01 hS) hD.1 k hk b hb0 h1) (Nat.le_of_ble_eq_true rfl) (Nat.le_of_ble_eq_true rfl) (Nat.le_of_ble_eq_true rfl) (Nat.le_of_ble_eq_true rfl)
      · have ha : ¬ (j_n M (84 + 4 * k + 2)).toInt32 = b ∧ ¬ (j_n M (84 + 4 * k + 2)).toInt32 = -5 := by
          rw [hsw]
          exact ⟨h1, fun q => by rcases h01 with z | z <;> (rw [z] at q; exact absurd q (by decide))⟩
        have e := on_eq hS2
        rcases hb0 with rfl | rfl
        · have hm := c_X10_switchPump_b0 l g ct sz (j_ma M 0) (j_ma M 1) (j_ma M 2) (j_ma M 3) (j_ma M 4) (j_ma M 5) (j_ma M 6) (j_ma M 7) (j_ma M 8) (j_ma M 9) (j_n M) (j_hy M) (j_sl M) (j_sp M) (j_re M) (j_rh M) (j_rs M) (j_kp M) (j_fl M) (j_tn M) (j_tx M) (j_pa M) (j_rn M) (j_rd M) (by have := h0.2.1; have := h0.2.2; omega) k (by have := hD.1; omega) hin1 (v_nP (k_v C)) hD.1 hD.2 ha
          exact lm_Wi (e ▸ hm) (Nat.le_of_ble_eq_true rfl) (Nat.le_of_ble_eq_true rfl) (Nat.le_of_ble_eq_true rfl) (Nat.le_of_ble_eq_true rfl)
        · have hm := c_X10_switchPump_b1 l g ct sz (j_ma M 0) (j_ma M 1) (j_ma M 2) (j_ma M 3) (j_ma M 4) (j_ma M 5) (j_ma M 6) (j_ma M 7) (j_ma M 8) (j_ma M 9) (j_n M) (j_hy M) (j_sl M) (j_sp M) (j_re M) (j_rh M) (j_rs M) (j_kp M) (j_fl M) (j_tn M) (j_tx M) (j_pa M) (j_rn M) (j_rd M) (by have := h0.2.1; have := h0.2.2; omega) k (by have := hD.1; omega) hin1 (v_nP (k_v C)) hD.1 hD.2 ha
          exact lm_Wi (e ▸ hm) (Nat.le_of_ble_eq_true rfl) (Nat.le_of_ble_eq_true rfl) (Nat.le_of_ble_eq_true rfl) (Nat.le_of_ble_eq_true rfl)
    · refine ⟨-5, M, rfl, fun sz => ?_, fun sz => ?_⟩
      · exact lc_Ri (wd := hstW ct (k_ba C 1) (k_ba C 2) (k_old C) (k_many C) (k_r C) ++ (txW ct (k_ba C 3) (k_ba C 4) (k_ba C 5) (k_len C) (k_ch C) (k_te C) (k_lv C) ++ stW ct (k_bd C) (k_tv C))) ⟨rfl, Rel_m (by omega) hR⟩ (List.Perm.refl _) (c_X9_switchPump_a l g ct (k_ba C 0) (k_bd C 0) (k_ba C 1) (k_ba C 3) (snV (k_sn C)) (k_ad C) (k_v C) hD.1 k hk b h1) (Nat.le_of_ble_eq_true rfl) (Nat.le_of_ble_eq_true rfl) (Nat.le_of_ble_eq_true rfl) (Nat.le_of_ble_eq_true rfl)
      · rcases hb0 with rfl | rfl
        · exact lm_Ri (c_X10_switchPump_a0 l g ct (j_ma M 0) (j_ma M 1) (j_ma M 2) (j_ma M 3) (j_ma M 4) (j_ma M 5) (j_ma M 6) (j_ma M 7) (j_ma M 8) (j_ma M 9) (j_n M) (j_hy M) (j_sl M) (j_sp M) (j_re M) (j_rh M) (j_rs M) (j_kp M) (j_fl M) (j_tn M) (j_tx M) (j_pa M) (j_rn M) (j_rd M) k (by have := hD.1; omega) hin1 (fun q => h1 (by rw [← hsw]; exact q))) (Nat.le_of_ble_eq_true rfl) (Nat.le_of_ble_eq_true rfl) (Nat.le_of_ble_eq_true rfl) (Nat.le_of_ble_eq_true rfl)
        · exact lm_Ri (c_X10_switchPump_a1 l g ct (j_ma M 0) (j_ma M 1) (j_ma M 2) (j_ma M 3) (j_ma M 4) (j_ma M 5) (j_ma M 6) (j_ma M 7) (j_ma M 8) (j_ma M 9) (j_n M) (j_hy M) (j_sl M) (j_sp M) (j_re M) (j_rh M) (j_rs M) (j_kp M) (j_fl M) (j_tn M) (j_tx M) (j_pa M) (j_rn M) (j_rd M) k (by have := hD.1; omega) hin1 (fun q => h1 (by rw [← hsw]; exact q))) (Nat.le_of_ble_eq_true rfl) (Nat.le_of_ble_eq_true rfl) (Nat.le_of_ble_eq_true rfl) (Nat.le_of_ble_eq_true rfl)
  · refine ⟨-1, M, rfl, fun sz => ?_, fun sz => ?_⟩
    · exact lc_Ri (wd := hstW ct (k_ba C 1) (k_ba C 2) (k_old C) (k_many C) (k_r C) ++ (txW ct (k_ba C 3) (k_ba C 4) (k_ba C 5) (k_len C) (k_ch C) (k_te C) (k_lv C) ++ stW ct (k_bd C) (k_tv C))) ⟨rfl, Rel_m (by omega) hR⟩ (List.Perm.refl _) (c_X9_switchPump_u l g ct (k_ba C 0) (k_bd C 0) (k_ba C 1) (k_ba C 3) (snV (k_sn C)) (k_ad C) (k_v C) hD.1 x b hh) (Nat.le_of_ble_eq_true rfl) (Nat.le_of_ble_eq_true rfl) (Nat.le_of_ble_eq_true rfl) (Nat.le_of_ble_eq_true rfl)
    · exact lm_Ri (c_X10_switchPump_u l g ct (j_ma M 0) (j_ma M 1) (j_ma M 2) (j_ma M 3) (j_ma M 4) (j_ma M 5) (j_ma M 6) (j_ma M 7) (j_ma M 8) (j_ma M 9) (j_n M) (j_hy M) (j_sl M) (j_sp M) (j_re M) (j_rh M) (j_rs M) (j_kp M) (j_fl M) (j_tn M) (j_tx M) (j_pa M) (j_rn M) (j_rd M) x b (fun q => hh (hin0.mp q))) (Nat.le_of_ble_eq_true rfl) (Nat.le_of_ble_eq_true rfl) (Nat.le_of_ble_eq_true rfl) (Nat.le_of_ble_eq_true rfl)

theorem SR_vote {v : SVT} {n : Nat → Int64} {re : Nat → UInt64} (h : SR v n re) {k : Nat} (bb : Int32) (hk0 : k < v_nD v) (hb0 : bb = 0 ∨ bb = 1) : SR (v_nS v, v_wi v, v_cr v, v_ho v, v_li v, v_co v, v_le v, v_cs v, v_nD v, v_we v, upd (v_cl v) k bb, v_nT v, v_sw v, v_nP v, v_lim v, v_idl v, v_po v, v_pw v, v_on v, v_ra v, v_ar v, v_vo v, v_fi v, v_fo v, v_fv v, v_br v, v_pu v, v_td v, v_al v, v_h v, v_od v, v_cb v, v_dl v) (vp_updL n (68 + 2 * k + 1) bb.toInt64) re := by
  have kk : ∀ j, j ≠ 68 + 2 * k + 1 → (vp_updL n (68 + 2 * k + 1) bb.toInt64) j = n j := fun j h0 => by rw [pk_uLn (by omega)]
  obtain ⟨a, b, c, d, e, f, w, hsec, hinv, huni, hdis, hstr, hpum, hal, htd, hcr, h01⟩ := h
  have ha := a.1
  have hb := b.1
  have hc := c.1
  have hd := d.1
  exact ⟨⟨ha, (kk 7 (by omega)).trans a.2⟩, ⟨hb, (kk 8 (by omega)).trans b.2⟩, ⟨hc, (kk 9 (by omega)).trans c.2⟩, ⟨hd, (kk 10 (by omega)).trans d.2⟩, ⟨(kk 0 (by omega)).trans e.1, (kk 1 (by omega)).trans e.2.1, e.2.2.1, (kk 2 (by omega)).trans e.2.2.2.1, by rw [kk 3 (by omega)]; exact e.2.2.2.2.1, by rw [kk 4 (by omega)]; exact e.2.2.2.2.2⟩, ⟨(kk 5 (by omega)).trans f.1, f.2.1, (kk 6 (by omega)).trans f.2.2.1, by rw [kk 11 (by omega)]; exact f.2.2.2⟩, ⟨(kk 12 (by omega)).trans w.1, (kk 13 (by omega)).trans w.2.1, (kk 14 (by omega)).trans w.2.2.1, (kk 15 (by omega)).trans w.2.2.2.1, (kk 16 (by omega)).trans w.2.2.2.2.1, (kk 17 (by omega)).trans w.2.2.2.2.2⟩, fun i hi => by have hi : i < v_nS v := hi; rw [kk _ (by omega), kk _ (by omega), kk _ (by omega), kk _ (by omega), kk _ (by omega), kk _ (by omega)]; exact hsec i hi, hinv, huni, fun i hi => by
    have hi : i < v_nD v := hi
    have h1 := hdis i hi
    show _ = v_we v i ∧ _ = (upd (v_cl v) k bb i).toInt64
    by_cases q : i = k
    · subst q
      rw [pk_us, pk_uLs, kk _ (by omega)]
      exact ⟨h1.1, rfl⟩
    · rw [pk_un q, kk _ (by omega), kk _ (by omega)]
      exact h1, fun i hi => by have hi : i < v_nT v := hi; rw [kk _ (by omega)]; exact hstr i hi, fun i hi => by have hi : i < v_nP v := hi; rw [kk _ (by omega), kk _ (by omega), kk _ (by omega), kk _ (by omega)]; exact hpum i hi, hal, htd, hcr, ⟨fun i hi => by
    show upd (v_cl v) k bb i = 0 ∨ upd (v_cl v) k bb i = 1
    by_cases q : i = k
    · subst q; rw [pk_us]; exact hb0
    · rw [pk_un q]; exact h01.1 i hi, h01.2⟩⟩

set_option maxHeartbeats 4000000 in
set_option maxRecDepth 100000 in
theorem op_vote (l : Launch) (g : va_G) (ct : Nat → ClassId) {T : Nat} {C : CT} {M : MT} (hR : Rel T C M) (x b : Int32) (hb0 : b = 0 ∨ b = 1) : ∃ (a : Int32) (M2 : MT), j_ma M2 = j_ma M ∧ (∀ sz, Met l yX9_vote wsX9_vote (zRc 4 21 158 95) (va_Pc [.ref (k_ba C 0), .int x, .int b] (zW g ct (CW ct C) sz)) (zEi (S := {u : CT // k_ba u = k_ba C ∧ Rel (T + 48) u M2}) g (fun u => CW ct u.1) a (va_A (CW ct C) sz)) 21 158 (va_A (CW ct C) sz)) ∧ (∀ sz, Met l yX10_vote wsX10_vote (zRm 2 47) (va_Pc [.ref (j_ma M 0), .int x, .int b] (zW g ct (MWd ct M) sz)) (zEi (S := Unit) g (fun _ => MWd ct M2) a (va_A (MWd ct M) sz)) 0 0 (va_A (MWd ct M) sz)) := by
  have hS := hR.1
  have hD := lt_nD hS
  have h0 := hR.2.2.1
  have hin0 := has_in (m := v_nD (k_v C)) (by have := hD.1; omega) hD.2 x
  by_cases hh : ¬ x < 0 ∧ x < nI (v_nD (k_v C))
  · have hin1 := hin0.mpr hh
    obtain ⟨k, hk, rfl⟩ := has_N (by have := hD.1; omega) hh
    have hz := hS.2.2.2.2.2.2.2.2.2.2.1 k hk
    have h01 := (lt_01 hS).1 k (by have := hD.1; omega)
    have hsw : (j_n M (68 + 2 * k + 1)).toInt32 = v_cl (k_v C) k := by rw [hz.2]; simp
    by_cases h1 : ¬ v_cl (k_v C) k = b
    · have hS2 := SR_vote hS b hk hb0
      refine ⟨wcI (upd (v_cl (k_v C)) k b) (v_we (k_v C)) (v_nD (k_v C)), j_rec M (vp_updL (j_n M) (68 + 2 * k + 1) b.toInt64) (j_re M), rfl, fun sz => ?_, fun sz => ?_⟩
      · exact lc_Qi (C3 := fun u => k_rec C (v_nS (k_v C), v_wi (k_v C), v_cr (k_v C), v_ho (k_v C), v_li (k_v C), v_co (k_v C), v_le (k_v C), v_cs (k_v C), v_nD (k_v C), v_we (k_v C), upd (v_cl (k_v C)) k b, v_nT (k_v C), v_sw (k_v C), v_nP (k_v C), v_lim (k_v C), v_idl (k_v C), v_po (k_v C), v_pw (k_v C), v_on (k_v C), v_ra (k_v C), v_ar (k_v C), v_vo (k_v C), v_fi (k_v C), v_fo (k_v C), v_fv (k_v C), v_br (k_v C), v_pu (k_v C), v_td (k_v C), v_al (k_v C), v_h (k_v C), v_od (k_v C), v_cb (k_v C), v_dl (k_v C)) u) (wd := txW ct (k_ba C 3) (k_ba C 4) (k_ba C 5) (k_len C) (k_ch C) (k_te C) (k_lv C) ++ stW ct (k_bd C) (k_tv C)) (fun u => ⟨rfl, Rel_rec hR (by omega) (hS2) (Nat.le_trans hR.2.1 (by omega)) u⟩) (fun _ => rfl) (fun _ => rfl) (List.Perm.refl _) (fun _ => List.Perm.refl _) (c_X9_vote_b l g ct sz (k_ba C 0) (k_bd C 0) (k_ba C 1) (k_ba C 3) (snV (k_sn C)) (k_ad C) (k_v C) (k_ba C 2) (k_old C) (k_many C) (k_r C) h0.1 h0.2.1 (lt_01 hS) hD.1 k hk b hb0 h1) (Nat.le_of_ble_eq_true rfl) (Nat.le_of_ble_eq_true rfl) (Nat.le_of_ble_eq_true rfl) (Nat.le_of_ble_eq_true rfl)
      · have ha : ¬ (j_n M (68 + 2 * k + 1)).toInt32 = b ∧ ¬ (j_n M (68 + 2 * k + 1)).toInt32 = -5 := by
          rw [hsw]
          exact ⟨h1, fun q => by rcases h01 with z | z <;> (rw [z] at q; exact absurd q (by decide))⟩
        have e := wc_eq hS2
        rcases hb0 with rfl | rfl
        · have hm := c_X10_vote_b0 l g ct sz (j_ma M 0) (j_ma M 1) (j_ma M 2) (j_ma M 3) (j_ma M 4) (j_ma M 5) (j_ma M 6) (j_ma M 7) (j_ma M 8) (j_ma M 9) (j_n M) (j_hy M) (j_sl M) (j_sp M) (j_re M) (j_rh M) (j_rs M) (j_kp M) (j_fl M) (j_tn M) (j_tx M) (j_pa M) (j_rn M) (j_rd M) (by have := h0.2.1; have := h0.2.2; omega) k (by have := hD.1; omega) hin1 (v_nD (k_v C)) hD.1 hD.2 ha
          exact lm_Wi (e ▸ hm) (Nat.le_of_ble_eq_true rfl) (Nat.le_of_ble_eq_true rfl) (Nat.le_of_ble_eq_true rfl) (Nat.le_of_ble_eq_true rfl)
        · have hm := c_X10_vote_b1 l g ct sz (j_ma M 0) (j_ma M 1) (j_ma M 2) (j_ma M 3) (j_ma M 4) (j_ma M 5) (j_ma M 6) (j_ma M 7) (j_ma M 8) (j_ma M 9) (j_n M) (j_hy M) (j_sl M) (j_sp M) (j_re M) (j_rh M) (j_rs M) (j_kp M) (j_fl M) (j_tn M) (j_tx M) (j_pa M) (j_rn M) (j_rd M) (by have := h0.2.1; have := h0.2.2; omega) k (by have := hD.1; omega) hin1 (v_nD (k_v C)) hD.1 hD.2 ha
          exact lm_Wi (e ▸ hm) (Nat.le_of_ble_eq_true rfl) (Nat.le_of_ble_eq_true rfl) (Nat.le_of_ble_eq_true rfl) (Nat.le_of_ble_eq_true rfl)
    · refine ⟨-5, M, rfl, fun sz => ?_, fun sz => ?_⟩
      · exact lc_Ri (wd := hstW ct (k_ba C 1) (k_ba C 2) (k_old C) (k_many C) (k_r C) ++ (txW ct (k_ba C 3) (k_ba C 4) (k_ba C 5) (k_len C) (k_ch C) (k_te C) (k_lv C) ++ stW ct (k_bd C) (k_tv C))) ⟨rfl, Rel_m (by omega) hR⟩ (List.Perm.refl _) (c_X9_vote_a l g ct (k_ba C 0) (k_bd C 0) (k_ba C 1) (k_ba C 3) (snV (k_sn C)) (k_ad C) (k_v C) hD.1 k hk b h1) (Nat.le_of_ble_eq_true rfl) (Nat.le_of_ble_eq_true rfl) (Nat.le_of_ble_eq_true rfl) (Nat.le_of_ble_eq_true rfl)
      · rcases hb0 with rfl | rfl
        · exact lm_Ri (c_X10_vote_a0 l g ct (j_ma M 0) (j_ma M 1) (j_ma M 2) (j_ma M 3) (j_ma M 4) (j_ma M 5) (j_ma M 6) (j_ma M 7) (j_ma M 8) (j_ma M 9) (j_n M) (j_hy M) (j_sl M) (j_sp M) (j_re M) (j_rh M) (j_rs M) (j_kp M) (j_fl M) (j_tn M) (j_tx M) (j_pa M) (j_rn M) (j_rd M) k (by have := hD.1; omega) hin1 (fun q => h1 (by rw [← hsw]; exact q))) (Nat.le_of_ble_eq_true rfl) (Nat.le_of_ble_eq_true rfl) (Nat.le_of_ble_eq_true rfl) (Nat.le_of_ble_eq_true rfl)
        · exact lm_Ri (c_X10_vote_a1 l g ct (j_ma M 0) (j_ma M 1) (j_ma M 2) (j_ma M 3) (j_ma M 4) (j_ma M 5) (j_ma M 6) (j_ma M 7) (j_ma M 8) (j_ma M 9) (j_n M) (j_hy M) (j_sl M) (j_sp M) (j_re M) (j_rh M) (j_rs M) (j_kp M) (j_fl M) (j_tn M) (j_tx M) (j_pa M) (j_rn M) (j_rd M) k (by have := hD.1; omega) hin1 (fun q => h1 (by rw [← hsw]; exact q))) (Nat.le_of_ble_eq_true rfl) (Nat.le_of_ble_eq_true rfl) (Nat.le_of_ble_eq_true rfl) (Nat.le_of_ble_eq_true rfl)
  · refine ⟨-1, M, rfl, fun sz => ?_, fun sz => ?_⟩
    · exact lc_Ri (wd := hstW ct (k_ba C 1) (k_ba C 2) (k_old C) (k_many C) (k_r C) ++ (txW ct (k_ba C 3) (k_ba C 4) (k_ba C 5) (k_len C) (k_ch C) (k_te C) (k_lv C) ++ stW ct (k_bd C) (k_tv C))) ⟨rfl, Rel_m (by omega) hR⟩ (List.Perm.refl _) (c_X9_vote_u l g ct (k_ba C 0) (k_bd C 0) (k_ba C 1) (k_ba C 3) (snV (k_sn C)) (k_ad C) (k_v C) hD.1 x b hh) (Nat.le_of_ble_eq_true rfl) (Nat.le_of_ble_eq_true rfl) (Nat.le_of_ble_eq_true rfl) (Nat.le_of_ble_eq_true rfl)
    · exact lm_Ri (c_X10_vote_u l g ct (j_ma M 0) (j_ma M 1) (j_ma M 2) (j_ma M 3) (j_ma M 4) (j_ma M 5) (j_ma M 6) (j_ma M 7) (j_ma M 8) (j_ma M 9) (j_n M) (j_hy M) (j_sl M) (j_sp M) (j_re M) (j_rh M) (j_rs M) (j_kp M) (j_fl M) (j_tn M) (j_tx M) (j_pa M) (j_rn M) (j_rd M) x b (fun q => hh (hin0.mp q))) (Nat.le_of_ble_eq_true rfl) (Nat.le_of_ble_eq_true rfl) (Nat.le_of_ble_eq_true rfl) (Nat.le_of_ble_eq_true rfl)
