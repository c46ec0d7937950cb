theorem SR_addStream {v : SVT} {n : Nat → Int64} {re : Nat → UInt64} (h : SR v n re) (x : Int32) (hn : v_nT v < 4) : SR (v_nS v, v_wi v, v_cr v, v_ho v, v_li v, v_co v, v_le v, v_cs v, v_nD v, v_we v, v_cl v, v_nT v + 1, upd (v_sw v) (v_nT v) x, v_nP v, v_lim v, v_idl v, v_po v, v_pw v, v_on v, v_ra v, v_ar v, v_vo v, v_fi v, v_fo v, v_fv v, v_br v, v_pu v, v_td v, v_al v, v_h v, v_od v, v_cb v, v_dl v) (vp_updL (vp_updL n (80 + v_nT v) x.toInt64) 9 ((vp_updL n (80 + v_nT v) x.toInt64) 9 + 1)) re := by
  have kk : ∀ j, j ≠ 9 → j ≠ 80 + v_nT v → (vp_updL (vp_updL n (80 + v_nT v) x.toInt64) 9 ((vp_updL n (80 + v_nT v) x.toInt64) 9 + 1)) j = n j := fun j h0 h1 => by rw [pk_uLn (by omega), pk_uLn (by omega)]
  obtain ⟨a, b, c, d, e, f, w, hsec, hinv, huni, hdis, hstr, hpum, hal, htd, hcr, h01⟩ := h
  have ha := a.1
  have hb := b.1
  have hc := c.1
  have hd := d.1
  exact ⟨⟨ha, (kk 7 (by omega) (by omega)).trans a.2⟩, ⟨hb, (kk 8 (by omega) (by omega)).trans b.2⟩, ⟨hn, by rw [pk_uLs, pk_uLn (by omega), c.2]; exact lN_1 _⟩, ⟨hd, (kk 10 (by omega) (by omega)).trans d.2⟩, ⟨(kk 0 (by omega) (by omega)).trans e.1, (kk 1 (by omega) (by omega)).trans e.2.1, e.2.2.1, (kk 2 (by omega) (by omega)).trans e.2.2.2.1, by rw [kk 3 (by omega) (by omega)]; exact e.2.2.2.2.1, by rw [kk 4 (by omega) (by omega)]; exact e.2.2.2.2.2⟩, ⟨(kk 5 (by omega) (by omega)).trans f.1, f.2.1, (kk 6 (by omega) (by omega)).trans f.2.2.1, by rw [kk 11 (by omega) (by omega)]; exact f.2.2.2⟩, ⟨(kk 12 (by omega) (by omega)).trans w.1, (kk 13 (by omega) (by omega)).trans w.2.1, (kk 14 (by omega) (by omega)).trans w.2.2.1, (kk 15 (by omega) (by omega)).trans w.2.2.2.1, (kk 16 (by omega) (by omega)).trans w.2.2.2.2.1, (kk 17 (by omega) (by omega)).trans w.2.2.2.2.2⟩, fun k hk => by have hk : k < v_nS v := hk; rw [kk _ (by omega) (by omega), kk _ (by omega) (by omega), kk _ (by omega) (by omega), kk _ (by omega) (by omega), kk _ (by omega) (by omega), kk _ (by omega) (by omega)]; exact hsec k hk, hinv, huni, fun k hk => by have hk : k < v_nD v := hk; rw [kk _ (by omega) (by omega), kk _ (by omega) (by omega)]; exact hdis k hk, fun k hk => by
    have hk : k < v_nT v + 1 := hk
    show _ = (upd (v_sw v) (v_nT v) x k).toInt64
    by_cases q : k = v_nT v
    · subst q
      rw [pk_us, pk_uLn (by omega), pk_uLs]
    · rw [pk_un q, kk _ (by omega) (by omega)]
      exact hstr k (by omega), fun k hk => by have hk : k < v_nP v := hk; rw [kk _ (by omega) (by omega), kk _ (by omega) (by omega), kk _ (by omega) (by omega), kk _ (by omega) (by omega)]; exact hpum k hk, hal, htd, hcr, h01⟩

theorem lt_nT {v : SVT} {n : Nat → Int64} {re : Nat → UInt64} (h : SR v n re) : v_nT v ≤ 4 ∧ n 9 = lN (v_nT v) := h.2.2.1
theorem lt_nP {v : SVT} {n : Nat → Int64} {re : Nat → UInt64} (h : SR v n re) : v_nP v ≤ 6 ∧ n 10 = lN (v_nP v) := h.2.2.2.1
theorem lt_nS {v : SVT} {n : Nat → Int64} {re : Nat → UInt64} (h : SR v n re) : v_nS v ≤ 8 ∧ n 7 = lN (v_nS v) := h.1
theorem lt_01 {v : SVT} {n : Nat → Int64} {re : Nat → UInt64} (h : SR v n re) : v01 v := h.2.2.2.2.2.2.2.2.2.2.2.2.2.2.2.2

set_option maxHeartbeats 4000000 in
set_option maxRecDepth 100000 in
theorem op_addStream (l : Launch) (g : va_G) (ct : Nat → ClassId) {T : Nat} {C : CT} {M : MT} (hR : Rel T C M) (x : Int32) : ∃ (a : Int32) (M2 : MT), j_ma M2 = j_ma M ∧ (∀ sz, Met l yX9_addStream wsX9_addStream (zRc 4 21 158 95) (va_Pc [.ref (k_ba C 0), .int x] (zW g ct (CW ct C) sz)) (zEi (S := {u : CT // k_ba u = k_ba C ∧ Rel (T + 48) u M2}) g (fun u => CW ct u.1) a (va_A (CW ct C) sz)) 21 158 (va_A (CW ct C) sz)) ∧ (∀ sz, Met l yX10_addStream wsX10_addStream (zRm 1 25) (va_Pc [.ref (j_ma M 0), .int x] (zW g ct (MWd ct M) sz)) (zEi (S := Unit) g (fun _ => MWd ct M2) a (va_A (MWd ct M) sz)) 0 0 (va_A (MWd ct M) sz)) := by
  have hS := hR.1
  have hD := lt_nT hS
  have h0 := hR.2.2.1
  have hio : inP x.toInt64 0 99999 ↔ ¬ osP x 0 99999 := in_os (lo := 0) (hi := 99999) (by decide) (by decide)
  by_cases h1 : ¬ osP x 0 99999 ∧ ¬ 4 ≤ v_nT (k_v C)
  · refine ⟨nI (v_nT (k_v C)), j_rec M (vp_updL (vp_updL (j_n M) (80 + v_nT (k_v C)) x.toInt64) 9 ((vp_updL (j_n M) (80 + v_nT (k_v C)) x.toInt64) 9 + 1)) (j_re M), rfl, fun sz => ?_, fun sz => ?_⟩
    · exact lc_Qi (C3 := fun u => k_rec C (v_nS (k_v C), v_wi (k_v C), v_cr (k_v C), v_ho (k_v C), v_li (k_v C), v_co (k_v C), v_le (k_v C), v_cs (k_v C), v_nD (k_v C), v_we (k_v C), v_cl (k_v C), v_nT (k_v C) + 1, upd (v_sw (k_v C)) (v_nT (k_v C)) x, v_nP (k_v C), v_lim (k_v C), v_idl (k_v C), v_po (k_v C), v_pw (k_v C), v_on (k_v C), v_ra (k_v C), v_ar (k_v C), v_vo (k_v C), v_fi (k_v C), v_fo (k_v C), v_fv (k_v C), v_br (k_v C), v_pu (k_v C), v_td (k_v C), v_al (k_v C), v_h (k_v C), v_od (k_v C), v_cb (k_v C), v_dl (k_v C)) u) (wd := txW ct (k_ba C 3) (k_ba C 4) (k_ba C 5) (k_len C) (k_ch C) (k_te C) (k_lv C) ++ stW ct (k_bd C) (k_tv C)) (fun u => ⟨rfl, Rel_rec hR (by omega) (SR_addStream hS x (by omega)) (Nat.le_trans hR.2.1 (by omega)) u⟩) (fun _ => rfl) (fun _ => rfl) (List.Perm.refl _) (fun _ => List.Perm.refl _) (c_X9_addStream_b l g ct sz (k_ba C 0) (k_bd C 0) (k_ba C 1) (k_ba C 3) (snV (k_sn C)) (k_ad C) (k_v C) (k_ba C 2) (k_old C) (k_many C) (k_r C) h0.1 h0.2.1 (lt_01 hS) hD.1 x h1) (Nat.le_of_ble_eq_true rfl) (Nat.le_of_ble_eq_true rfl) (Nat.le_of_ble_eq_true rfl) (Nat.le_of_ble_eq_true rfl)
    · have hm := c_X10_addStream_b l g ct sz (j_ma M 0) (j_ma M 1) (j_ma M 2) (j_ma M 3) (j_ma M 4) (j_ma M 5) (j_ma M 6) (j_ma M 7) (j_ma M 8) (j_ma M 9) (j_n M) (j_hy M) (j_sl M) (j_sp M) (j_re M) (j_rh M) (j_rs M) (j_kp M) (j_fl M) (j_tn M) (j_tx M) (j_pa M) (j_rn M) (j_rd M) (by have := h0.2.1; have := h0.2.2; omega) x (v_nT (k_v C)) hD.1 hD.2 ⟨hio.mpr h1.1, by omega⟩
      have e : ((vp_updL (vp_updL (j_n M) (80 + v_nT (k_v C)) x.toInt64) 9 ((vp_updL (j_n M) (80 + v_nT (k_v C)) x.toInt64) 9 + 1)) 9).toInt32 - 1 = nI (v_nT (k_v C)) := by
        rw [pk_uLs, pk_uLn (by omega), hD.2, lN_1, lN_i, nI_pred]
      rw [e] at hm
      exact hm
  · refine ⟨if osP x 0 99999 then -2 else -3, M, rfl, fun sz => ?_, fun sz => ?_⟩
    · exact lc_Ri (wd := hstW ct (k_ba C 1) (k_ba C 2) (k_old C) (k_many C) (k_r C) ++ (txW ct (k_ba C 3) (k_ba C 4) (k_ba C 5) (k_len C) (k_ch C) (k_te C) (k_lv C) ++ stW ct (k_bd C) (k_tv C))) ⟨rfl, Rel_m (by omega) hR⟩ (List.Perm.refl _) (c_X9_addStream_a l g ct (k_ba C 0) (k_bd C 0) (k_ba C 1) (k_ba C 3) (snV (k_sn C)) (k_ad C) (k_v C) hD.1 x h1) (Nat.le_of_ble_eq_true rfl) (Nat.le_of_ble_eq_true rfl) (Nat.le_of_ble_eq_true rfl) (Nat.le_of_ble_eq_true rfl)
    · have hm := c_X10_addStream_a l g ct (j_ma M 0) (j_ma M 1) (j_ma M 2) (j_ma M 3) (j_ma M 4) (j_ma M 5) (j_ma M 6) (j_ma M 7) (j_ma M 8) (j_ma M 9) (j_n M) (j_hy M) (j_sl M) (j_sp M) (j_re M) (j_rh M) (j_rs M) (j_kp M) (j_fl M) (j_tn M) (j_tx M) (j_pa M) (j_rn M) (j_rd M) x (v_nT (k_v C)) hD.1 hD.2 (fun q => h1 ⟨hio.mp q.1, by have := hD.1; omega⟩)
      have e : (if inP x.toInt64 0 99999 then (-3 : Int32) else -2) = if osP x 0 99999 then -2 else -3 := by
        by_cases q : osP x 0 99999
        · rw [if_pos q, if_neg (fun z => (hio.mp z) q)]
        · rw [if_neg q, if_pos (hio.mpr q)]
      rw [e] at hm
      exact lm_Ri hm (Nat.le_of_ble_eq_true rfl) (Nat.le_of_ble_eq_true rfl) (Nat.le_of_ble_eq_true rfl) (Nat.le_of_ble_eq_true rfl)
