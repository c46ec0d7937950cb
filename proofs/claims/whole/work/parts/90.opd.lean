theorem SR_setArea {v : SVT} {n : Nat → Int64} {re : Nat → UInt64} (h : SR v n re) (y : Int32) (hy : arOk y) : SR (v_nS v, v_wi v, v_cr v, v_ho v, v_li v, v_co v, v_le v, v_cs v, v_nD v, v_we v, v_cl v, v_nT v, v_sw v, v_nP v, v_lim v, v_idl v, v_po v, v_pw v, v_on v, v_ra v, y, v_vo v, v_fi v, v_fo v, v_fv v, v_br v, v_pu v, v_td v, v_al v, v_h v, v_od v, v_cb v, v_dl v) (vp_updL n 5 y.toInt64) re := by
  have kk : ∀ j, j ≠ 5 → (vp_updL n 5 y.toInt64) j = n j := fun j h0 => by rw [pk_uLn (by omega)]
  obtain ⟨a, b, c, d, e, f, w, hsec, hinv, huni, hdis, hstr, hpum, hal, htd, hcr, h01⟩ := h
  have ha := a.1
  have hb := b.1
  have hc := c.1
  have hd := d.1
  exact ⟨⟨ha, (kk 7 (by omega)).trans a.2⟩, ⟨hb, (kk 8 (by omega)).trans b.2⟩, ⟨hc, (kk 9 (by omega)).trans c.2⟩, ⟨hd, (kk 10 (by omega)).trans d.2⟩, ⟨(kk 0 (by omega)).trans e.1, (kk 1 (by omega)).trans e.2.1, e.2.2.1, (kk 2 (by omega)).trans e.2.2.2.1, by rw [kk 3 (by omega)]; exact e.2.2.2.2.1, by rw [kk 4 (by omega)]; exact e.2.2.2.2.2⟩, ⟨pk_uLs, hy, (kk 6 (by omega)).trans f.2.2.1, by rw [kk 11 (by omega)]; exact f.2.2.2⟩, ⟨(kk 12 (by omega)).trans w.1, (kk 13 (by omega)).trans w.2.1, (kk 14 (by omega)).trans w.2.2.1, (kk 15 (by omega)).trans w.2.2.2.1, (kk 16 (by omega)).trans w.2.2.2.2.1, (kk 17 (by omega)).trans w.2.2.2.2.2⟩, fun k hk => by have hk : k < v_nS v := hk; rw [kk _ (by omega), kk _ (by omega), kk _ (by omega), kk _ (by omega), kk _ (by omega), kk _ (by omega)]; exact hsec k hk, hinv, huni, fun k hk => by have hk : k < v_nD v := hk; rw [kk _ (by omega), kk _ (by omega)]; exact hdis k hk, fun k hk => by have hk : k < v_nT v := hk; rw [kk _ (by omega)]; exact hstr k hk, fun k hk => by have hk : k < v_nP v := hk; rw [kk _ (by omega), kk _ (by omega), kk _ (by omega), kk _ (by omega)]; exact hpum k hk, hal, htd, hcr, h01⟩

theorem SR_setLimit {v : SVT} {n : Nat → Int64} {re : Nat → UInt64} (h : SR v n re) (y : Int32)  : SR (v_nS v, v_wi v, v_cr v, v_ho v, v_li v, v_co v, v_le v, v_cs v, v_nD v, v_we v, v_cl v, v_nT v, v_sw v, v_nP v, y, v_idl v, v_po v, v_pw v, v_on v, v_ra v, v_ar v, v_vo v, v_fi v, v_fo v, v_fv v, v_br v, v_pu v, v_td v, v_al v, v_h v, v_od v, v_cb v, v_dl v) (vp_updL n 6 y.toInt64) re := by
  have kk : ∀ j, j ≠ 6 → (vp_updL n 6 y.toInt64) j = n j := fun j h0 => by rw [pk_uLn (by omega)]
  obtain ⟨a, b, c, d, e, f, w, hsec, hinv, huni, hdis, hstr, hpum, hal, htd, hcr, h01⟩ := h
  have ha := a.1
  have hb := b.1
  have hc := c.1
  have hd := d.1
  exact ⟨⟨ha, (kk 7 (by omega)).trans a.2⟩, ⟨hb, (kk 8 (by omega)).trans b.2⟩, ⟨hc, (kk 9 (by omega)).trans c.2⟩, ⟨hd, (kk 10 (by omega)).trans d.2⟩, ⟨(kk 0 (by omega)).trans e.1, (kk 1 (by omega)).trans e.2.1, e.2.2.1, (kk 2 (by omega)).trans e.2.2.2.1, by rw [kk 3 (by omega)]; exact e.2.2.2.2.1, by rw [kk 4 (by omega)]; exact e.2.2.2.2.2⟩, ⟨(kk 5 (by omega)).trans f.1, f.2.1, pk_uLs, by rw [kk 11 (by omega)]; exact f.2.2.2⟩, ⟨(kk 12 (by omega)).trans w.1, (kk 13 (by omega)).trans w.2.1, (kk 14 (by omega)).trans w.2.2.1, (kk 15 (by omega)).trans w.2.2.2.1, (kk 16 (by omega)).trans w.2.2.2.2.1, (kk 17 (by omega)).trans w.2.2.2.2.2⟩, fun k hk => by have hk : k < v_nS v := hk; rw [kk _ (by omega), kk _ (by omega), kk _ (by omega), kk _ (by omega), kk _ (by omega), kk _ (by omega)]; exact hsec k hk, hinv, huni, fun k hk => by have hk : k < v_nD v := hk; rw [kk _ (by omega), kk _ (by omega)]; exact hdis k hk, fun k hk => by have hk : k < v_nT v := hk; rw [kk _ (by omega)]; exact hstr k hk, fun k hk => by have hk : k < v_nP v := hk; rw [kk _ (by omega), kk _ (by omega), kk _ (by omega), kk _ (by omega)]; exact hpum k hk, hal, htd, hcr, h01⟩

set_option maxHeartbeats 4000000 in
set_option maxRecDepth 100000 in
theorem op_set (l : Launch) (g : va_G) (ct : Nat → ClassId) {T : Nat} {C : CT} {M : MT} (hR : Rel T C M) (x y : Int32) : ∃ (a : Int32) (M2 : MT), j_ma M2 = j_ma M ∧ (∀ sz, Met l yX9_set wsX9_set (zRc 5 21 158 117) (va_Pc [.ref (k_ba C 0), .int x, .int y] (zW g ct (CW ct C) sz)) (zEi (S := {u : CT // k_ba u = k_ba C ∧ Rel (T + 48) u M2}) g (fun u => CW ct u.1) a (va_A (CW ct C) sz)) 21 158 (va_A (CW ct C) sz)) ∧ (∀ sz, Met l yX10_set wsX10_set (zRm 2 44) (va_Pc [.ref (j_ma M 0), .int x, .int y] (zW g ct (MWd ct M) sz)) (zEi (S := Unit) g (fun _ => MWd ct M2) a (va_A (MWd ct M) sz)) 0 0 (va_A (MWd ct M) sz)) := by
  have hS := hR.1
  have h0 := hR.2.2.1
  have hio0 : inP y.toInt64 1000 1000000 ↔ ¬ osP y 1000 1000000 := in_os (lo := 1000) (hi := 1000000) (by decide) (by decide)
  have hio1 : inP y.toInt64 0 600 ↔ ¬ osP y 0 600 := in_os (lo := 0) (hi := 600) (by decide) (by decide)
  have hx : inP x.toInt64 0 1 ↔ ¬ osP x 0 1 := in_os (lo := 0) (hi := 1) (by decide) (by decide)
  have hf := hS.2.2.2.2.2.1
  have e0 : (j_n M 5).toInt32 = v_ar (k_v C) := by rw [hf.1]; simp
  have e1 : (j_n M 6).toInt32 = v_lim (k_v C) := by rw [hf.2.2.1]; simp
  by_cases x0 : x = 0
  · subst x0
    by_cases h1 : ¬ osP y 1000 1000000 ∧ ¬ v_ar (k_v C) = y
    · refine ⟨v_ar (k_v C), j_rec M (vp_updL (j_n M) 5 y.toInt64) (j_re M), rfl, fun sz => ?_, fun sz => ?_⟩
      · exact lc_Qi (C3 := fun u => k_rec C (v_nS (k_v C), v_wi (k_v C), v_cr (k_v C), v_ho (k_v C), v_li (k_v C), v_co (k_v C), v_le (k_v C), v_cs (k_v C), v_nD (k_v C), v_we (k_v C), v_cl (k_v C), v_nT (k_v C), v_sw (k_v C), v_nP (k_v C), v_lim (k_v C), v_idl (k_v C), v_po (k_v C), v_pw (k_v C), v_on (k_v C), v_ra (k_v C), y, v_vo (k_v C), v_fi (k_v C), v_fo (k_v C), v_fv (k_v C), v_br (k_v C), v_pu (k_v C), v_td (k_v C), v_al (k_v C), v_h (k_v C), v_od (k_v C), v_cb (k_v C), v_dl (k_v C)) u) (wd := txW ct (k_ba C 3) (k_ba C 4) (k_ba C 5) (k_len C) (k_ch C) (k_te C) (k_lv C) ++ stW ct (k_bd C) (k_tv C)) (fun u => ⟨rfl, Rel_rec hR (by omega) (SR_setArea hS y ⟨Int32.not_lt.mp (fun q => h1.1 (Or.inl q)), Int32.not_lt.mp (fun q => h1.1 (Or.inr q))⟩) (Nat.le_trans hR.2.1 (by omega)) u⟩) (fun _ => rfl) (fun _ => rfl) (List.Perm.refl _) (fun _ => List.Perm.refl _) (c_X9_set_b0 l g ct sz (k_ba C 0) (k_bd C 0) (k_ba C 1) (k_ba C 3) (snV (k_sn C)) (k_ad C) (k_v C) (k_ba C 2) (k_old C) (k_many C) (k_r C) h0.1 h0.2.1 (lt_01 hS) y h1) (Nat.le_of_ble_eq_true rfl) (Nat.le_of_ble_eq_true rfl) (Nat.le_of_ble_eq_true rfl) (Nat.le_of_ble_eq_true rfl)
      · have hm := c_X10_set_b0 l g ct sz (j_ma M 0) (j_ma M 1) (j_ma M 2) (j_ma M 3) (j_ma M 4) (j_ma M 5) (j_ma M 6) (j_ma M 7) (j_ma M 8) (j_ma M 9) (j_n M) (j_hy M) (j_sl M) (j_sp M) (j_re M) (j_rh M) (j_rs M) (j_kp M) (j_fl M) (j_tn M) (j_tx M) (j_pa M) (j_rn M) (j_rd M) (by have := h0.2.1; have := h0.2.2; omega) y ⟨hio0.mpr h1.1, by rw [e0]; exact h1.2⟩
        rw [e0] at hm
        exact lm_Wi hm (Nat.le_of_ble_eq_true rfl) (Nat.le_of_ble_eq_true rfl) (Nat.le_of_ble_eq_true rfl) (Nat.le_of_ble_eq_true rfl)
    · refine ⟨if osP y 1000 1000000 then -2 else -5, M, rfl, fun sz => ?_, fun sz => ?_⟩
      · have hc := c_X9_set_a l g ct (k_ba C 0) (k_bd C 0) (k_ba C 1) (k_ba C 3) (snV (k_sn C)) (k_ad C) (k_v C) 0 y ⟨fun q => h1 q.2, fun q => absurd q.1 (by decide)⟩
        exact lc_Ri (wd := hstW ct (k_ba C 1) (k_ba C 2) (k_old C) (k_many C) (k_r C) ++ (txW ct (k_ba C 3) (k_ba C 4) (k_ba C 5) (k_len C) (k_ch C) (k_te C) (k_lv C) ++ stW ct (k_bd C) (k_tv C))) ⟨rfl, Rel_m (by omega) hR⟩ (List.Perm.refl _) hc (Nat.le_of_ble_eq_true rfl) (Nat.le_of_ble_eq_true rfl) (Nat.le_of_ble_eq_true rfl) (Nat.le_of_ble_eq_true rfl)
      · have hm := c_X10_set_a0 l g ct (j_ma M 0) (j_ma M 1) (j_ma M 2) (j_ma M 3) (j_ma M 4) (j_ma M 5) (j_ma M 6) (j_ma M 7) (j_ma M 8) (j_ma M 9) (j_n M) (j_hy M) (j_sl M) (j_sp M) (j_re M) (j_rh M) (j_rs M) (j_kp M) (j_fl M) (j_tn M) (j_tx M) (j_pa M) (j_rn M) (j_rd M) y (fun q => h1 ⟨hio0.mp q.1, by rw [← e0]; exact q.2⟩)
        have e : (if inP y.toInt64 1000 1000000 then (-5 : Int32) else -2) = if osP y 1000 1000000 then -2 else -5 := by
          by_cases q : osP y 1000 1000000
          · rw [if_pos q, if_neg (fun z => (hio0.mp z) q)]
          · rw [if_neg q, if_pos (hio0.mpr q)]
        rw [e] at hm
        exact lm_Ri hm (Nat.le_of_ble_eq_true rfl) (Nat.le_of_ble_eq_true rfl) (Nat.le_of_ble_eq_true rfl) (Nat.le_of_ble_eq_true rfl)
  · by_cases x1 : x = 1
    · subst x1
      by_cases h1 : ¬ osP y 0 600 ∧ ¬ v_lim (k_v C) = y
      · refine ⟨v_lim (k_v C), j_rec M (vp_updL (j_n M) 6 y.toInt64) (j_re M), rfl, fun sz => ?_, fun sz => ?_⟩
        · exact lc_Qi (C3 := fun u => k_rec C (v_nS (k_v C), v_wi (k_v C), v_cr (k_v C), v_ho (k_v C), v_li (k_v C), v_co (k_v C), v_le (k_v C), v_cs (k_v C), v_nD (k_v C), v_we (k_v C), v_cl (k_v C), v_nT (k_v C), v_sw (k_v C), v_nP (k_v C), y, v_idl (k_v C), v_po (k_v C), v_pw (k_v C), v_on (k_v C), v_ra (k_v C), v_ar (k_v C), v_vo (k_v C), v_fi (k_v C), v_fo (k_v C), v_fv (k_v C), v_br (k_v C), v_pu (k_v C), v_td (k_v C), v_al (k_v C), v_h (k_v C), v_od (k_v C), v_cb (k_v C), v_dl (k_v C)) u) (wd := txW ct (k_ba C 3) (k_ba C 4) (k_ba C 5) (k_len C) (k_ch C) (k_te C) (k_lv C) ++ stW ct (k_bd C) (k_tv C)) (fun u => ⟨rfl, Rel_rec hR (by omega) (SR_setLimit hS y) (Nat.le_trans hR.2.1 (by omega)) u⟩) (fun _ => rfl) (fun _ => rfl) (List.Perm.refl _) (fun _ => List.Perm.refl _) (c_X9_set_b1 l g ct sz (k_ba C 0) (k_bd C 0) (k_ba C 1) (k_ba C 3) (snV (k_sn C)) (k_ad C) (k_v C) (k_ba C 2) (k_old C) (k_many C) (k_r C) h0.1 h0.2.1 (lt_01 hS) y h1) (Nat.le_of_ble_eq_true rfl) (Nat.le_of_ble_eq_true rfl) (Nat.le_of_ble_eq_true rfl) (Nat.le_of_ble_eq_true rfl)
        · have hm := c_X10_set_b1 l g ct sz (j_ma M 0) (j_ma M 1) (j_ma M 2) (j_ma M 3) (j_ma M 4) (j_ma M 5) (j_ma M 6) (j_ma M 7) (j_ma M 8) (j_ma M 9) (j_n M) (j_hy M) (j_sl M) (j_sp M) (j_re M) (j_rh M) (j_rs M) (j_kp M) (j_fl M) (j_tn M) (j_tx M) (j_pa M) (j_rn M) (j_rd M) (by have := h0.2.1; have := h0.2.2; omega) y ⟨hio1.mpr h1.1, by rw [e1]; exact h1.2⟩
          rw [e1] at hm
          exact lm_Wi hm (Nat.le_of_ble_eq_true rfl) (Nat.le_of_ble_eq_true rfl) (Nat.le_of_ble_eq_true rfl) (Nat.le_of_ble_eq_true rfl)
      · refine ⟨if osP y 0 600 then -2 else -5, M, rfl, fun sz => ?_, fun sz => ?_⟩
        · have hc := c_X9_set_a l g ct (k_ba C 0) (k_bd C 0) (k_ba C 1) (k_ba C 3) (snV (k_sn C)) (k_ad C) (k_v C) 1 y ⟨fun q => absurd q.1 (by decide), fun q => h1 q.2⟩
          exact lc_Ri (wd := hstW ct (k_ba C 1) (k_ba C 2) (k_old C) (k_many C) (k_r C) ++ (txW ct (k_ba C 3) (k_ba C 4) (k_ba C 5) (k_len C) (k_ch C) (k_te C) (k_lv C) ++ stW ct (k_bd C) (k_tv C))) ⟨rfl, Rel_m (by omega) hR⟩ (List.Perm.refl _) hc (Nat.le_of_ble_eq_true rfl) (Nat.le_of_ble_eq_true rfl) (Nat.le_of_ble_eq_true rfl) (Nat.le_of_ble_eq_true rfl)
        · have hm := c_X10_set_a1 l g ct (j_ma M 0) (j_ma M 1) (j_ma M 2) (j_ma M 3) (j_ma M 4) (j_ma M 5) (j_ma M 6) (j_ma M 7) (j_ma M 8) (j_ma M 9) (j_n M) (j_hy M) (j_sl M) (j_sp M) (j_re M) (j_rh M) (j_rs M) (j_kp M) (j_fl M) (j_tn M) (j_tx M) (j_pa M) (j_rn M) (j_rd M) y (fun q => h1 ⟨hio1.mp q.1, by rw [← e1]; exact q.2⟩)
          have e : (if inP y.toInt64 0 600 then (-5 : Int32) else -2) = if osP y 0 600 then -2 else -5 := by
            by_cases q : osP y 0 600
            · rw [if_pos q, if_neg (fun z => (hio1.mp z) q)]
            · rw [if_neg q, if_pos (hio1.mpr q)]
          rw [e] at hm
          exact lm_Ri hm (Nat.le_of_ble_eq_true rfl) (Nat.le_of_ble_eq_true rfl) (Nat.le_of_ble_eq_true rfl) (Nat.le_of_ble_eq_true rfl)
    · refine ⟨-2, M, rfl, fun sz => ?_, fun sz => ?_⟩
      · have hc := c_X9_set_a l g ct (k_ba C 0) (k_bd C 0) (k_ba C 1) (k_ba C 3) (snV (k_sn C)) (k_ad C) (k_v C) x y ⟨fun q => x0 q.1, fun q => x1 q.1⟩
        rw [if_neg x0, if_neg x1] at hc
        exact lc_Ri (wd := hstW ct (k_ba C 1) (k_ba C 2) (k_old C) (k_many C) (k_r C) ++ (txW ct (k_ba C 3) (k_ba C 4) (k_ba C 5) (k_len C) (k_ch C) (k_te C) (k_lv C) ++ stW ct (k_bd C) (k_tv C))) ⟨rfl, Rel_m (by omega) hR⟩ (List.Perm.refl _) hc (Nat.le_of_ble_eq_true rfl) (Nat.le_of_ble_eq_true rfl) (Nat.le_of_ble_eq_true rfl) (Nat.le_of_ble_eq_true rfl)
      · refine lm_Ri (c_X10_set_u l g ct (j_ma M 0) (j_ma M 1) (j_ma M 2) (j_ma M 3) (j_ma M 4) (j_ma M 5) (j_ma M 6) (j_ma M 7) (j_ma M 8) (j_ma M 9) (j_n M) (j_hy M) (j_sl M) (j_sp M) (j_re M) (j_rh M) (j_rs M) (j_kp M) (j_fl M) (j_tn M) (j_tx M) (j_pa M) (j_rn M) (j_rd M) x y (fun q => ?_)) (Nat.le_of_ble_eq_true rfl) (Nat.le_of_ble_eq_true rfl) (Nat.le_of_ble_eq_true rfl) (Nat.le_of_ble_eq_true rfl)
        have h := hx.mp q
        have a1 := Int32.not_lt.mp (fun z => h (Or.inl z))
        have a2 := Int32.not_lt.mp (fun z => h (Or.inr z))
        rw [Int32.le_iff_toInt_le, show Int32.toInt 0 = 0 from rfl] at a1
        rw [Int32.le_iff_toInt_le, show Int32.toInt 1 = 1 from rfl] at a2
        have b0 : x.toInt ≠ 0 := fun z => x0 (Int32.toInt_inj.mp (z.trans (by rfl)))
        have b1 : x.toInt ≠ 1 := fun z => x1 (Int32.toInt_inj.mp (z.trans (by rfl)))
        omega
