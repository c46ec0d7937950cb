theorem SR_setTide {v : SVT} {n : Nat → Int64} {re : Nat → UInt64} (h : SR v n re) {k : Nat} (hk : k < 24) (y : Int64) (hy : lvOk y) : SR (v_nS v, v_wi v, v_cr v, v_ho v, v_li v, v_co v, v_le v, v_cs v, v_nD v, v_we v, v_cl v, v_nT v, v_sw v, v_nP v, v_lim v, v_idl v, v_po v, v_pw v, v_on v, v_ra v, v_ar v, v_vo v, v_fi v, v_fo v, v_fv v, v_br v, v_pu v, vp_updL (v_td v) k y, v_al v, v_h v, v_od v, v_cb v, v_dl v) n (vf_upd re (1 + k) y.toUInt64) := by
  have kk : ∀ j, j ≠ 1 + k → vf_upd re (1 + k) y.toUInt64 j = re j := fun j q => by unfold vf_upd; rw [if_neg q]
  obtain ⟨a, b, c, d, e, f, w, hsec, hinv, huni, hdis, hstr, hpum, hal, htd, hcr, h01⟩ := h
  refine ⟨a, b, c, d, e, f, w, hsec, hinv, huni, hdis, hstr, hpum, ⟨(kk _ (by omega)).trans hal.1, hal.2⟩, fun i hi => ?_, fun j hj => ⟨(kk _ (by omega)).trans (hcr j hj).1, (hcr j hj).2⟩, h01⟩
  show vf_upd re (1 + k) y.toUInt64 (1 + i) = (vp_updL (v_td v) k y i).toUInt64 ∧ lvOk (vp_updL (v_td v) k y i)
  by_cases q : i = k
  · subst q
    rw [z_uDs, pk_uLs]
    exact ⟨rfl, hy⟩
  · rw [kk _ (by omega), pk_uLn q]
    exact htd i hi
theorem hd_N {x : Int32} (h : hdP x) : ∃ k, k < 24 ∧ x = nI k := by
  obtain ⟨j, hj, rfl⟩ := nI_of h.1
  exact ⟨j, (nI_ltI hj (b := 24) (by omega)).mp h.2, rfl⟩
theorem hd_in (x : Int32) : inP x.toInt64 0 23 ↔ hdP x := by
  rw [in_os (x := x) (lo := 0) (hi := 23) (by decide) (by decide)]
  unfold osP hdP
  rw [Int32.lt_iff_toInt_lt, Int32.lt_iff_toInt_lt, Int32.lt_iff_toInt_lt, show Int32.toInt 23 = 23 from rfl, show Int32.toInt 24 = 24 from rfl]
  omega

set_option maxHeartbeats 4000000 in
set_option maxRecDepth 100000 in
theorem op_setTide (l : Launch) (g : va_G) (ct : Nat → ClassId) {T : Nat} {C : CT} {M : MT} (hR : Rel T C M) (x : Int32) (y : Int64) : ∃ (a : Int32) (M2 : MT), j_ma M2 = j_ma M ∧ (∀ sz, Met l yX9_setTide wsX9_setTide (zRc 4 21 158 95) (va_Pc [.ref (k_ba C 0), .int x, .long y] (zW g ct (CW ct C) sz)) (zEi (S := {u : CT // k_ba u = k_ba C ∧ Rel (T + 48) u M2}) g (fun u => CW ct u.1) a (va_A (CW ct C) sz)) 21 158 (va_A (CW ct C) sz)) ∧ (∀ sz, Met l yX10_setTide wsX10_setTide (zRm 3 77) (va_Pc [.ref (j_ma M 0), .int x, .long y] (zW g ct (MWd ct M) sz)) (zEi (S := Unit) g (fun _ => MWd ct M2) a (va_A (MWd ct M) sz)) 0 0 (va_A (MWd ct M) sz)) := by
  have hS := hR.1
  have h0 := hR.2.2.1
  have htd := hS.2.2.2.2.2.2.2.2.2.2.2.2.2.2.1
  by_cases hh : hdP x
  · obtain ⟨k, hk, rfl⟩ := hd_N hh
    have hsm : lvOk y → (Op.cmpValue (FP.dcmp (j_re M (1 + k)) y.toUInt64) CmpOp.l = 0 ↔ smL y (v_td (k_v C) k)) := fun hy => by rw [(htd k hk).1]; exact ky_same (htd k hk).2 hy
    by_cases h1 : lvOk y ∧ ¬ smL y (v_td (k_v C) k)
    · refine ⟨1, j_rec M (j_n M) (vf_upd (j_re M) (1 + k) y.toUInt64), rfl, fun sz => ?_, fun sz => ?_⟩
      · exact lc_Qi (C3 := fun u => k_rec C (v_nS (k_v C), v_wi (k_v C), v_cr (k_v C), v_ho (k_v C), v_li (k_v C), v_co (k_v C), v_le (k_v C), v_cs (k_v C), v_nD (k_v C), v_we (k_v C), v_cl (k_v C), v_nT (k_v C), v_sw (k_v C), v_nP (k_v C), v_lim (k_v C), v_idl (k_v C), v_po (k_v C), v_pw (k_v C), v_on (k_v C), v_ra (k_v C), v_ar (k_v C), v_vo (k_v C), v_fi (k_v C), v_fo (k_v C), v_fv (k_v C), v_br (k_v C), v_pu (k_v C), vp_updL (v_td (k_v C)) k y, v_al (k_v C), v_h (k_v C), v_od (k_v C), v_cb (k_v C), v_dl (k_v C)) u) (wd := txW ct (k_ba C 3) (k_ba C 4) (k_ba C 5) (k_len C) (k_ch C) (k_te C) (k_lv C) ++ stW ct (k_bd C) (k_tv C)) (fun u => ⟨rfl, Rel_rec hR (by omega) (SR_setTide hS hk y h1.1) (Nat.le_trans hR.2.1 (by omega)) u⟩) (fun _ => rfl) (fun _ => rfl) (List.Perm.refl _) (fun _ => List.Perm.refl _) (c_X9_setTide_b l g ct sz (k_ba C 0) (k_bd C 0) (k_ba C 1) (k_ba C 3) (snV (k_sn C)) (k_ad C) (k_v C) (k_ba C 2) (k_old C) (k_many C) (k_r C) h0.1 h0.2.1 (lt_01 hS) k hk y h1) (Nat.le_of_ble_eq_true rfl) (Nat.le_of_ble_eq_true rfl) (Nat.le_of_ble_eq_true rfl) (Nat.le_of_ble_eq_true rfl)
      · exact lm_Wi (c_X10_setTide_b l g ct sz (j_ma M 0) (j_ma M 1) (j_ma M 2) (j_ma M 3) (j_ma M 4) (j_ma M 5) (j_ma M 6) (j_ma M 7) (j_ma M 8) (j_ma M 9) (j_n M) (j_hy M) (j_sl M) (j_sp M) (j_re M) (j_rh M) (j_rs M) (j_kp M) (j_fl M) (j_tn M) (j_tx M) (j_pa M) (j_rn M) (j_rd M) (by have := h0.2.1; have := h0.2.2; omega) k hk y ⟨ky_lv.mpr h1.1, fun q => h1.2 ((hsm h1.1).mp q)⟩) (Nat.le_of_ble_eq_true rfl) (Nat.le_of_ble_eq_true rfl) (Nat.le_of_ble_eq_true rfl) (Nat.le_of_ble_eq_true rfl)
    · refine ⟨if lvOk y then -5 else -2, M, rfl, fun sz => ?_, fun sz => ?_⟩
      · by_cases q : lvOk y
        · rw [if_pos q]
          exact lc_Ri (wd := hstW ct (k_ba C 1) (k_ba C 2) (k_old C) (k_many C) (k_r C) ++ (txW ct (k_ba C 3) (k_ba C 4) (k_ba C 5) (k_len C) (k_ch C) (k_te C) (k_lv C) ++ stW ct (k_bd C) (k_tv C))) ⟨rfl, Rel_m (by omega) hR⟩ (List.Perm.refl _) (c_X9_setTide_a l g ct (k_ba C 0) (k_bd C 0) (k_ba C 1) (k_ba C 3) (snV (k_sn C)) (k_ad C) (k_v C) k hk y q (fun z => h1 ⟨q, z⟩)) (Nat.le_of_ble_eq_true rfl) (Nat.le_of_ble_eq_true rfl) (Nat.le_of_ble_eq_true rfl) (Nat.le_of_ble_eq_true rfl)
        · rw [if_neg q]
          exact lc_Ri (wd := hstW ct (k_ba C 1) (k_ba C 2) (k_old C) (k_many C) (k_r C) ++ (txW ct (k_ba C 3) (k_ba C 4) (k_ba C 5) (k_len C) (k_ch C) (k_te C) (k_lv C) ++ stW ct (k_bd C) (k_tv C))) ⟨rfl, Rel_m (by omega) hR⟩ (List.Perm.refl _) (c_X9_setTide_u l g ct (k_ba C 0) (k_bd C 0) (k_ba C 1) (k_ba C 3) (snV (k_sn C)) (k_ad C) (k_v C) (nI k) y (fun z => q z.2)) (Nat.le_of_ble_eq_true rfl) (Nat.le_of_ble_eq_true rfl) (Nat.le_of_ble_eq_true rfl) (Nat.le_of_ble_eq_true rfl)
      · have hm := c_X10_setTide_a l g ct (j_ma M 0) (j_ma M 1) (j_ma M 2) (j_ma M 3) (j_ma M 4) (j_ma M 5) (j_ma M 6) (j_ma M 7) (j_ma M 8) (j_ma M 9) (j_n M) (j_hy M) (j_sl M) (j_sp M) (j_re M) (j_rh M) (j_rs M) (j_kp M) (j_fl M) (j_tn M) (j_tx M) (j_pa M) (j_rn M) (j_rd M) k hk y (fun q => h1 ⟨ky_lv.mp q.1, fun z => q.2 ((hsm (ky_lv.mp q.1)).mpr z)⟩)
        have e : (if isLvP y 13840687554816376832 4621819117588971520 then (-5 : Int32) else -2) = if lvOk y then -5 else -2 := by
          by_cases q : lvOk y
          · rw [if_pos q, if_pos (ky_lv.mpr q)]
          · rw [if_neg q, if_neg (fun z => q (ky_lv.mp z))]
        rw [e] at hm
        exact lm_Ri hm (Nat.le_of_ble_eq_true rfl) (Nat.le_of_ble_eq_true rfl) (Nat.le_of_ble_eq_true rfl) (Nat.le_of_ble_eq_true rfl)
  · refine ⟨-2, M, rfl, fun sz => ?_, fun sz => ?_⟩
    · exact lc_Ri (wd := hstW ct (k_ba C 1) (k_ba C 2) (k_old C) (k_many C) (k_r C) ++ (txW ct (k_ba C 3) (k_ba C 4) (k_ba C 5) (k_len C) (k_ch C) (k_te C) (k_lv C) ++ stW ct (k_bd C) (k_tv C))) ⟨rfl, Rel_m (by omega) hR⟩ (List.Perm.refl _) (c_X9_setTide_u l g ct (k_ba C 0) (k_bd C 0) (k_ba C 1) (k_ba C 3) (snV (k_sn C)) (k_ad C) (k_v C) x y (fun z => hh z.1)) (Nat.le_of_ble_eq_true rfl) (Nat.le_of_ble_eq_true rfl) (Nat.le_of_ble_eq_true rfl) (Nat.le_of_ble_eq_true rfl)
    · exact lm_Ri (c_X10_setTide_u l g ct (j_ma M 0) (j_ma M 1) (j_ma M 2) (j_ma M 3) (j_ma M 4) (j_ma M 5) (j_ma M 6) (j_ma M 7) (j_ma M 8) (j_ma M 9) (j_n M) (j_hy M) (j_sl M) (j_sp M) (j_re M) (j_rh M) (j_rs M) (j_kp M) (j_fl M) (j_tn M) (j_tx M) (j_pa M) (j_rn M) (j_rd M) x y (fun q => hh ((hd_in x).mp q))) (Nat.le_of_ble_eq_true rfl) (Nat.le_of_ble_eq_true rfl) (Nat.le_of_ble_eq_true rfl) (Nat.le_of_ble_eq_true rfl)

theorem mv_same {co : Nat → Int32} {n k : Nat} (hk : ¬ (co k = 1 ∨ co k = 3)) : mvN (upd co k 0) n = mvN co n := by
  by_cases c : mvN co n < n
  · have h := fst_spec c
    have hne : mvN co n ≠ k := fun q => hk (q ▸ h.1)
    exact fst_some c (fun j hj q => by
      by_cases d : j = k
      · rw [d, pk_us] at q
        exact absurd q (by decide)
      · rw [pk_un d] at q
        exact h.2 j hj q) (by
      rw [pk_un hne]
      exact h.1)
  · have h := mv_nn c
    have e : mvN co n = n := by have := fst_le (fun k => co k = 1 ∨ co k = 3) n; show fst_ _ _ = _; have c : ¬ fst_ (fun k => co k = 1 ∨ co k = 3) n < n := c; omega
    rw [e]
    exact mv_no (fun j hj q => by
      by_cases d : j = k
      · rw [d, pk_us] at q
        exact absurd q (by decide)
      · rw [pk_un d] at q
        exact h j hj q)

theorem SR_service {v : SVT} {n : Nat → Int64} {re : Nat → UInt64} (h : SR v n re) {k : Nat} (hk0 : k < v_nS v) (hnm : ¬ (v_co v k = 1 ∨ v_co v k = 3)) : SR (v_nS v, v_wi v, v_cr v, v_ho v, v_li v, upd (v_co v) k 0, v_le v, upd (v_cs v) k 0, v_nD v, v_we v, v_cl v, v_nT v, v_sw v, v_nP v, v_lim v, v_idl v, v_po v, v_pw v, v_on v, v_ra v, v_ar v, v_vo v, v_fi v, v_fo v, v_fv v, v_br v, v_pu v, v_td v, v_al v, v_h v, v_od v, v_cb v, v_dl v) (vp_updL (vp_updL n (20 + 6 * k + 3) (0 : Int32).toInt64) (20 + 6 * k + 5) (0 : Int32).toInt64) re := by
  have kk : ∀ j, j ≠ 20 + 6 * k + 3 → j ≠ 20 + 6 * k + 5 → (vp_updL (vp_updL n (20 + 6 * k + 3) (0 : Int32).toInt64) (20 + 6 * k + 5) (0 : Int32).toInt64) j = n j := fun j h0 h1 => by rw [pk_uLn (by omega), pk_uLn (by omega)]
  obtain ⟨a, b, c, d, e, f, w, hsec, hinv, huni, hdis, hstr, hpum, hal, htd, hcr, h01⟩ := h
  have ha := a.1
  have hb := b.1
  have hc := c.1
  have hd := d.1
  exact ⟨⟨ha, (kk 7 (by omega) (by omega)).trans a.2⟩, ⟨hb, (kk 8 (by omega) (by omega)).trans b.2⟩, ⟨hc, (kk 9 (by omega) (by omega)).trans c.2⟩, ⟨hd, (kk 10 (by omega) (by omega)).trans d.2⟩, ⟨(kk 0 (by omega) (by omega)).trans e.1, (kk 1 (by omega) (by omega)).trans e.2.1, e.2.2.1, by rw [kk 2 (by omega) (by omega)]; show n 2 = if mvN (upd (v_co v) k 0) (v_nS v) < v_nS v then lN (mvN (upd (v_co v) k 0) (v_nS v) + 1) else 0; rw [mv_same hnm]; exact e.2.2.2.1, by rw [kk 3 (by omega) (by omega)]; exact e.2.2.2.2.1, by rw [kk 4 (by omega) (by omega)]; exact e.2.2.2.2.2⟩, ⟨(kk 5 (by omega) (by omega)).trans f.1, f.2.1, (kk 6 (by omega) (by omega)).trans f.2.2.1, by rw [kk 11 (by omega) (by omega)]; exact f.2.2.2⟩, ⟨(kk 12 (by omega) (by omega)).trans w.1, (kk 13 (by omega) (by omega)).trans w.2.1, (kk 14 (by omega) (by omega)).trans w.2.2.1, (kk 15 (by omega) (by omega)).trans w.2.2.2.1, (kk 16 (by omega) (by omega)).trans w.2.2.2.2.1, (kk 17 (by omega) (by omega)).trans w.2.2.2.2.2⟩, fun i hi => by
    have hi : i < v_nS v := hi
    have h1 := hsec i hi
    show _ = v_wi v i ∧ _ = v_ho v i ∧ _ = v_li v i ∧ _ = upd (v_co v) k 0 i ∧ _ = v_le v i ∧ _ = upd (v_cs v) k 0 i
    by_cases q : i = k
    · subst q
      rw [pk_us, pk_us, kk (20 + 6 * i + 0) (by omega) (by omega), kk (20 + 6 * i + 1) (by omega) (by omega), kk (20 + 6 * i + 2) (by omega) (by omega), kk (20 + 6 * i + 4) (by omega) (by omega), pk_uLs, pk_uLn (by omega), pk_uLs]
      exact ⟨h1.1, h1.2.1, h1.2.2.1, rfl, h1.2.2.2.2.1, rfl⟩
    · rw [pk_un q, pk_un q, kk _ (by omega) (by omega), kk _ (by omega) (by omega), kk _ (by omega) (by omega), kk _ (by omega) (by omega), kk _ (by omega) (by omega), kk _ (by omega) (by omega)]
      exact h1, fun i hi => by
    have h1 := hinv i hi
    show (1 ≤ v_wi v i ∧ v_wi v i ≤ 50) ∧ (1 ≤ v_ho v i ∧ v_ho v i ≤ 6) ∧ (upd (v_co v) k 0 i = 0 ∨ upd (v_co v) k 0 i = 1 ∨ upd (v_co v) k 0 i = 2 ∨ upd (v_co v) k 0 i = 3 ∨ upd (v_co v) k 0 i = 4) ∧ (upd (v_co v) k 0 i = 1 ∨ upd (v_co v) k 0 i = 3 → 1 ≤ v_le v i ∧ v_le v i ≤ 6)
    by_cases q : i = k
    · subst q
      rw [pk_us]
      exact ⟨h1.1, h1.2.1, Or.inl rfl, fun q => absurd q (by decide)⟩
    · rw [pk_un q]
      exact h1, fun i j hi hj h1 h2 => by
    have h1 : upd (v_co v) k 0 i = 1 ∨ upd (v_co v) k 0 i = 3 := h1
    have h2 : upd (v_co v) k 0 j = 1 ∨ upd (v_co v) k 0 j = 3 := h2
    by_cases qi : i = k
    · rw [qi, pk_us] at h1
      exact absurd h1 (by decide)
    · by_cases qj : j = k
      · rw [qj, pk_us] at h2
        exact absurd h2 (by decide)
      · rw [pk_un qi] at h1
        rw [pk_un qj] at h2
        exact huni i j hi hj h1 h2, fun i hi => by have hi : i < v_nD v := hi; rw [kk _ (by omega) (by omega), kk _ (by omega) (by omega)]; exact hdis i hi, fun i hi => by have hi : i < v_nT v := hi; rw [kk _ (by omega) (by omega)]; exact hstr i hi, fun i hi => by have hi : i < v_nP v := hi; rw [kk _ (by omega) (by omega), kk _ (by omega) (by omega), kk _ (by omega) (by omega), kk _ (by omega) (by omega)]; exact hpum i hi, hal, htd, hcr, h01⟩

set_option maxHeartbeats 4000000 in
set_option maxRecDepth 100000 in
theorem op_service (l : Launch) (g : va_G) (ct : Nat → ClassId) {T : Nat} {C : CT} {M : MT} (hR : Rel T C M) (x : Int32) : ∃ (a : Int32) (M2 : MT), j_ma M2 = j_ma M ∧ (∀ sz, Met l yX9_service wsX9_service (zRc 4 21 158 95) (va_Pc [.ref (k_ba C 0), .int x] (zW g ct (CW ct C) sz)) (zEi (S := {u : CT // k_ba u = k_ba C ∧ Rel (T + 48) u M2}) g (fun u => CW ct u.1) a (va_A (CW ct C) sz)) 21 158 (va_A (CW ct C) sz)) ∧ (∀ sz, Met l yX10_service wsX10_service (zRm 2 47) (va_Pc [.ref (j_ma M 0), .int x] (zW g ct (MWd ct M) sz)) (zEi (S := Unit) g (fun _ => MWd ct M2) a (va_A (MWd ct M) sz)) 0 0 (va_A (MWd ct M) sz)) := by
  have hS := hR.1
  have hD := lt_nS hS
  have h0 := hR.2.2.1
  have hin0 := has_in (m := v_nS (k_v C)) (by have := hD.1; omega) hD.2 x
  by_cases hh : ¬ x < 0 ∧ x < nI (v_nS (k_v C))
  · have hin1 := hin0.mpr hh
    obtain ⟨k, hk, rfl⟩ := has_N (by have := hD.1; omega) hh
    have hz := hS.2.2.2.2.2.2.2.1 k hk
    have hv := (hS.2.2.2.2.2.2.2.2.1 k hk).2.2.1
    have e3 := hz.2.2.2.1
    have e5 := hz.2.2.2.2.2
    by_cases h1 : ¬ (v_co (k_v C) k = 1 ∨ v_co (k_v C) k = 3) ∧ ¬ v_co (k_v C) k = 2 ∧ ¬ (v_co (k_v C) k = 0 ∧ v_cs (k_v C) k = 0)
    · refine ⟨v_cs (k_v C) k, j_rec M (vp_updL (vp_updL (j_n M) (20 + 6 * k + 3) (0 : Int32).toInt64) (20 + 6 * k + 5) (0 : Int32).toInt64) (j_re M), rfl, fun sz => ?_, fun sz => ?_⟩
      · exact lc_Qi (C3 := fun u => k_rec C (v_nS (k_v C), v_wi (k_v C), v_cr (k_v C), v_ho (k_v C), v_li (k_v C), upd (v_co (k_v C)) k 0, v_le (k_v C), upd (v_cs (k_v C)) k 0, v_nD (k_v C), v_we (k_v C), v_cl (k_v C), v_nT (k_v C), v_sw (k_v C), v_nP (k_v C), v_lim (k_v C), v_idl (k_v C), v_po (k_v C), v_pw (k_v C), v_on (k_v C), v_ra (k_v C), v_ar (k_v C), v_vo (k_v C), v_fi (k_v C), v_fo (k_v C), v_fv (k_v C), v_br (k_v C), v_pu (k_v C), v_td (k_v C), v_al (k_v C), v_h (k_v C), v_od (k_v C), v_cb (k_v C), v_dl (k_v C)) u) (wd := txW ct (k_ba C 3) (k_ba C 4) (k_ba C 5) (k_len C) (k_ch C) (k_te C) (k_lv C) ++ stW ct (k_bd C) (k_tv C)) (fun u => ⟨rfl, Rel_rec hR (by omega) (SR_service hS hk h1.1) (Nat.le_trans hR.2.1 (by omega)) u⟩) (fun _ => rfl) (fun _ => rfl) (List.Perm.refl _) (fun _ => List.Perm.refl _) (c_X9_service_b l g ct sz (k_ba C 0) (k_bd C 0) (k_ba C 1) (k_ba C 3) (snV (k_sn C)) (k_ad C) (k_v C) (k_ba C 2) (k_old C) (k_many C) (k_r C) h0.1 h0.2.1 (lt_01 hS) hD.1 k hk h1) (Nat.le_of_ble_eq_true rfl) (Nat.le_of_ble_eq_true rfl) (Nat.le_of_ble_eq_true rfl) (Nat.le_of_ble_eq_true rfl)
      · by_cases c0 : v_co (k_v C) k = 0
        · have hm := c_X10_service_b0 l g ct sz (j_ma M 0) (j_ma M 1) (j_ma M 2) (j_ma M 3) (j_ma M 4) (j_ma M 5) (j_ma M 6) (j_ma M 7) (j_ma M 8) (j_ma M 9) (j_n M) (j_hy M) (j_sl M) (j_sp M) (j_re M) (j_rh M) (j_rs M) (j_kp M) (j_fl M) (j_tn M) (j_tx M) (j_pa M) (j_rn M) (j_rd M) (by have := h0.2.1; have := h0.2.2; omega) k (by have := hD.1; omega) hin1 ⟨by rw [e3]; exact c0, by rw [e5]; exact fun q => h1.2.2 ⟨c0, q⟩⟩
          rw [e5] at hm
          exact lm_Wi hm (Nat.le_of_ble_eq_true rfl) (Nat.le_of_ble_eq_true rfl) (Nat.le_of_ble_eq_true rfl) (Nat.le_of_ble_eq_true rfl)
        · have c4 : v_co (k_v C) k = 4 := by
            rcases hv with q | q | q | q | q
            · exact (c0 q).elim
            · exact (h1.1 (Or.inl q)).elim
            · exact (h1.2.1 q).elim
            · exact (h1.1 (Or.inr q)).elim
            · exact q
          have hm := c_X10_service_b4 l g ct sz (j_ma M 0) (j_ma M 1) (j_ma M 2) (j_ma M 3) (j_ma M 4) (j_ma M 5) (j_ma M 6) (j_ma M 7) (j_ma M 8) (j_ma M 9) (j_n M) (j_hy M) (j_sl M) (j_sp M) (j_re M) (j_rh M) (j_rs M) (j_kp M) (j_fl M) (j_tn M) (j_tx M) (j_pa M) (j_rn M) (j_rd M) (by have := h0.2.1; have := h0.2.2; omega) k (by have := hD.1; omega) hin1 ⟨by rw [e3]; exact c0, by rw [e3]; exact c4⟩
          rw [e5] at hm
          exact lm_Wi hm (Nat.le_of_ble_eq_true rfl) (Nat.le_of_ble_eq_true rfl) (Nat.le_of_ble_eq_true rfl) (Nat.le_of_ble_eq_true rfl)
    · refine ⟨if (v_co (k_v C) k = 1 ∨ v_co (k_v C) k = 3) ∨ v_co (k_v C) k = 2 then -4 else -5, M, rfl, fun sz => ?_, fun sz => ?_⟩
      · exact lc_Ri (wd := hstW ct (k_ba C 1) (k_ba C 2) (k_old C) (k_many C) (k_r C) ++ (txW ct (k_ba C 3) (k_ba C 4) (k_ba C 5) (k_len C) (k_ch C) (k_te C) (k_lv C) ++ stW ct (k_bd C) (k_tv C))) ⟨rfl, Rel_m (by omega) hR⟩ (List.Perm.refl _) (c_X9_service_a l g ct (k_ba C 0) (k_bd C 0) (k_ba C 1) (k_ba C 3) (snV (k_sn C)) (k_ad C) (k_v C) hD.1 k hk h1) (Nat.le_of_ble_eq_true rfl) (Nat.le_of_ble_eq_true rfl) (Nat.le_of_ble_eq_true rfl) (Nat.le_of_ble_eq_true rfl)
      · have hm := c_X10_service_a l g ct (j_ma M 0) (j_ma M 1) (j_ma M 2) (j_ma M 3) (j_ma M 4) (j_ma M 5) (j_ma M 6) (j_ma M 7) (j_ma M 8) (j_ma M 9) (j_n M) (j_hy M) (j_sl M) (j_sp M) (j_re M) (j_rh M) (j_rs M) (j_kp M) (j_fl M) (j_tn M) (j_tx M) (j_pa M) (j_rn M) (j_rd M) k (by have := hD.1; omega) hin1 (by
        rw [e3, e5]
        rintro (q | q)
        · exact h1 ⟨by rw [q.1]; decide, by rw [q.1]; decide, fun z => q.2 z.2⟩
        · exact h1 ⟨by rw [q.2]; decide, by rw [q.2]; decide, fun z => q.1 z.1⟩)
        rw [e3] at hm
        have e : (if ¬ v_co (k_v C) k = 0 ∧ ¬ v_co (k_v C) k = 4 then (-4 : Int32) else -5) = if (v_co (k_v C) k = 1 ∨ v_co (k_v C) k = 3) ∨ v_co (k_v C) k = 2 then -4 else -5 := by
          rcases hv with q | q | q | q | q <;> (rw [q]; rfl)
        rw [e] at hm
        exact lm_Ri hm (Nat.le_of_ble_eq_true rfl) (Nat.le_of_ble_eq_true rfl) (Nat.le_of_ble_eq_true rfl) (Nat.le_of_ble_eq_true rfl)
  · refine ⟨-1, M, rfl, fun sz => ?_, fun sz => ?_⟩
    · exact lc_Ri (wd := hstW ct (k_ba C 1) (k_ba C 2) (k_old C) (k_many C) (k_r C) ++ (txW ct (k_ba C 3) (k_ba C 4) (k_ba C 5) (k_len C) (k_ch C) (k_te C) (k_lv C) ++ stW ct (k_bd C) (k_tv C))) ⟨rfl, Rel_m (by omega) hR⟩ (List.Perm.refl _) (c_X9_service_u l g ct (k_ba C 0) (k_bd C 0) (k_ba C 1) (k_ba C 3) (snV (k_sn C)) (k_ad C) (k_v C) hD.1 x hh) (Nat.le_of_ble_eq_true rfl) (Nat.le_of_ble_eq_true rfl) (Nat.le_of_ble_eq_true rfl) (Nat.le_of_ble_eq_true rfl)
    · exact lm_Ri (c_X10_service_u l g ct (j_ma M 0) (j_ma M 1) (j_ma M 2) (j_ma M 3) (j_ma M 4) (j_ma M 5) (j_ma M 6) (j_ma M 7) (j_ma M 8) (j_ma M 9) (j_n M) (j_hy M) (j_sl M) (j_sp M) (j_re M) (j_rh M) (j_rs M) (j_kp M) (j_fl M) (j_tn M) (j_tx M) (j_pa M) (j_rn M) (j_rd M) x (fun q => hh (hin0.mp q))) (Nat.le_of_ble_eq_true rfl) (Nat.le_of_ble_eq_true rfl) (Nat.le_of_ble_eq_true rfl) (Nat.le_of_ble_eq_true rfl)
