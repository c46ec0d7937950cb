theorem SR_addPump {v : SVT} {n : Nat → Int64} {re : Nat → UInt64} (h : SR v n re) (x y : Int32) (hn : v_nP v < 6) : SR (v_nS v, v_wi v, v_cr v, v_ho v, v_li v, v_co v, v_le v, v_cs v, v_nD v, v_we v, v_cl v, v_nT v, v_sw v, v_nP v + 1, v_lim v, v_idl v, upd (v_po v) (v_nP v) x, upd (v_pw v) (v_nP v) y, upd (v_on v) (v_nP v) 0, upd (v_ra v) (v_nP v) 0, v_ar v, v_vo v, v_fi v, v_fo v, v_fv v, v_br v, v_pu v, v_td v, v_al v, v_h v, v_od v, v_cb v, v_dl v) (vp_updL (vp_updL (vp_updL (vp_updL (vp_updL n 10 (lN (v_nP v) + 1)) (84 + 4 * v_nP v + 0) x.toInt64) (84 + 4 * v_nP v + 1) y.toInt64) (84 + 4 * v_nP v + 2) 0) (84 + 4 * v_nP v + 3) 0) re := by
  have kk : ∀ j, j ≠ 10 → j ≠ 84 + 4 * v_nP v + 0 → j ≠ 84 + 4 * v_nP v + 1 → j ≠ 84 + 4 * v_nP v + 2 → j ≠ 84 + 4 * v_nP v + 3 → (vp_updL (vp_updL (vp_updL (vp_updL (vp_updL n 10 (lN (v_nP v) + 1)) (84 + 4 * v_nP v + 0) x.toInt64) (84 + 4 * v_nP v + 1) y.toInt64) (84 + 4 * v_nP v + 2) 0) (84 + 4 * v_nP v + 3) 0) j = n j := fun j h0 h1 h2 h3 h4 => by rw [pk_uLn (by omega), pk_uLn (by omega), pk_uLn (by omega), pk_uLn (by omega), pk_uLn (by omega)]
  obtain ⟨a, b, c, d, e, f, w, hsec, hinv, huni, hdis, hstr, hpum, hal, htd, hcr, h01⟩ := h
  have ha := a.1
  have hb := b.1
  have hc := c.1
  have hd := d.1
  exact ⟨⟨ha, (kk 7 (by omega) (by omega) (by omega) (by omega) (by omega)).trans a.2⟩, ⟨hb, (kk 8 (by omega) (by omega) (by omega) (by omega) (by omega)).trans b.2⟩, ⟨hc, (kk 9 (by omega) (by omega) (by omega) (by omega) (by omega)).trans c.2⟩, ⟨hn, by rw [pk_uLn (by omega), pk_uLn (by omega), pk_uLn (by omega), pk_uLn (by omega), pk_uLs]; exact lN_1 _⟩, ⟨(kk 0 (by omega) (by omega) (by omega) (by omega) (by omega)).trans e.1, (kk 1 (by omega) (by omega) (by omega) (by omega) (by omega)).trans e.2.1, e.2.2.1, (kk 2 (by omega) (by omega) (by omega) (by omega) (by omega)).trans e.2.2.2.1, by rw [kk 3 (by omega) (by omega) (by omega) (by omega) (by omega)]; exact e.2.2.2.2.1, by rw [kk 4 (by omega) (by omega) (by omega) (by omega) (by omega)]; exact e.2.2.2.2.2⟩, ⟨(kk 5 (by omega) (by omega) (by omega) (by omega) (by omega)).trans f.1, f.2.1, (kk 6 (by omega) (by omega) (by omega) (by omega) (by omega)).trans f.2.2.1, by rw [kk 11 (by omega) (by omega) (by omega) (by omega) (by omega)]; exact f.2.2.2⟩, ⟨(kk 12 (by omega) (by omega) (by omega) (by omega) (by omega)).trans w.1, (kk 13 (by omega) (by omega) (by omega) (by omega) (by omega)).trans w.2.1, (kk 14 (by omega) (by omega) (by omega) (by omega) (by omega)).trans w.2.2.1, (kk 15 (by omega) (by omega) (by omega) (by omega) (by omega)).trans w.2.2.2.1, (kk 16 (by omega) (by omega) (by omega) (by omega) (by omega)).trans w.2.2.2.2.1, (kk 17 (by omega) (by omega) (by omega) (by omega) (by omega)).trans w.2.2.2.2.2⟩, fun k hk => by have hk : k < v_nS v := hk; rw [kk _ (by omega) (by omega) (by omega) (by omega) (by omega), kk _ (by omega) (by omega) (by omega) (by omega) (by omega), kk _ (by omega) (by omega) (by omega) (by omega) (by omega), kk _ (by omega) (by omega) (by omega) (by omega) (by omega), kk _ (by omega) (by omega) (by omega) (by omega) (by omega), kk _ (by omega) (by omega) (by omega) (by omega) (by omega)]; exact hsec k hk, hinv, huni, fun k hk => by have hk : k < v_nD v := hk; rw [kk _ (by omega) (by omega) (by omega) (by omega) (by omega), kk _ (by omega) (by omega) (by omega) (by omega) (by omega)]; exact hdis k hk, fun k hk => by have hk : k < v_nT v := hk; rw [kk _ (by omega) (by omega) (by omega) (by omega) (by omega)]; exact hstr k hk, fun k hk => by
    have hk : k < v_nP v + 1 := hk
    show _ = upd (v_po v) (v_nP v) x k ∧ _ = upd (v_pw v) (v_nP v) y k ∧ _ = upd (v_on v) (v_nP v) 0 k ∧ _ = upd (v_ra v) (v_nP v) 0 k
    by_cases q : k = v_nP v
    · subst q
      refine ⟨?_, ?_, ?_, ?_⟩
      · rw [pk_us, pk_uLn (by omega), pk_uLn (by omega), pk_uLn (by omega), pk_uLs]; simp
      · rw [pk_us, pk_uLn (by omega), pk_uLn (by omega), pk_uLs]; simp
      · rw [pk_us, pk_uLn (by omega), pk_uLs]; rfl
      · rw [pk_us, pk_uLs]; rfl
    · rw [pk_un q, pk_un q, pk_un q, pk_un q, kk _ (by omega) (by omega) (by omega) (by omega) (by omega), kk _ (by omega) (by omega) (by omega) (by omega) (by omega), kk _ (by omega) (by omega) (by omega) (by omega) (by omega), kk _ (by omega) (by omega) (by omega) (by omega) (by omega)]
      exact hpum k (by omega), hal, htd, hcr, ⟨h01.1, fun i hi => by
    show upd (v_on v) (v_nP v) 0 i = 0 ∨ upd (v_on v) (v_nP v) 0 i = 1
    by_cases q : i = v_nP v
    · subst q; exact Or.inl pk_us
    · rw [pk_un q]; exact h01.2 i hi⟩⟩

set_option maxHeartbeats 4000000 in
set_option maxRecDepth 100000 in
theorem op_addPump (l : Launch) (g : va_G) (ct : Nat → ClassId) {T : Nat} {C : CT} {M : MT} (hR : Rel T C M) (x y : Int32) : ∃ (a : Int32) (M2 : MT), j_ma M2 = j_ma M ∧ (∀ sz, Met l yX9_addPump wsX9_addPump (zRc 4 21 158 95) (va_Pc [.ref (k_ba C 0), .int x, .int y] (zW g ct (CW ct C) sz)) (zEi (S := {u : CT // k_ba u = k_ba C ∧ Rel (T + 48) u M2}) g (fun u => CW ct u.1) a (va_A (CW ct C) sz)) 21 158 (va_A (CW ct C) sz)) ∧ (∀ sz, Met l yX10_addPump wsX10_addPump (zRm 1 25) (va_Pc [.ref (j_ma M 0), .int x, .int y] (zW g ct (MWd ct M) sz)) (zEi (S := Unit) g (fun _ => MWd ct M2) a (va_A (MWd ct M) sz)) 0 0 (va_A (MWd ct M) sz)) := by
  have hS := hR.1
  have hD := lt_nP hS
  have h0 := hR.2.2.1
  have hio : inP x.toInt64 1 99 ↔ ¬ osP x 1 99 := in_os (lo := 1) (hi := 99) (by decide) (by decide)
  have hjo : inP y.toInt64 1 99999 ↔ ¬ osP y 1 99999 := in_os (lo := 1) (hi := 99999) (by decide) (by decide)
  by_cases h1 : ¬ osP x 1 99 ∧ ¬ osP y 1 99999 ∧ ¬ 6 ≤ v_nP (k_v C)
  · refine ⟨nI (v_nP (k_v C)), j_rec M (vp_updL (vp_updL (vp_updL (vp_updL (vp_updL (j_n M) 10 (lN (v_nP (k_v C)) + 1)) (84 + 4 * v_nP (k_v C) + 0) x.toInt64) (84 + 4 * v_nP (k_v C) + 1) y.toInt64) (84 + 4 * v_nP (k_v C) + 2) 0) (84 + 4 * v_nP (k_v C) + 3) 0) (j_re M), rfl, fun sz => ?_, fun sz => ?_⟩
    · exact lc_Qi (C3 := fun u => k_rec C (v_nS (k_v C), v_wi (k_v C), v_cr (k_v C), v_ho (k_v C), v_li (k_v C), v_co (k_v C), v_le (k_v C), v_cs (k_v C), v_nD (k_v C), v_we (k_v C), v_cl (k_v C), v_nT (k_v C), v_sw (k_v C), v_nP (k_v C) + 1, v_lim (k_v C), v_idl (k_v C), upd (v_po (k_v C)) (v_nP (k_v C)) x, upd (v_pw (k_v C)) (v_nP (k_v C)) y, upd (v_on (k_v C)) (v_nP (k_v C)) 0, upd (v_ra (k_v C)) (v_nP (k_v C)) 0, v_ar (k_v C), v_vo (k_v C), v_fi (k_v C), v_fo (k_v C), v_fv (k_v C), v_br (k_v C), v_pu (k_v C), v_td (k_v C), v_al (k_v C), v_h (k_v C), v_od (k_v C), v_cb (k_v C), v_dl (k_v C)) u) (wd := txW ct (k_ba C 3) (k_ba C 4) (k_ba C 5) (k_len C) (k_ch C) (k_te C) (k_lv C) ++ stW ct (k_bd C) (k_tv C)) (fun u => ⟨rfl, Rel_rec hR (by omega) (SR_addPump hS x y (by omega)) (Nat.le_trans hR.2.1 (by omega)) u⟩) (fun _ => rfl) (fun _ => rfl) (List.Perm.refl _) (fun _ => List.Perm.refl _) (c_X9_addPump_b l g ct sz (k_ba C 0) (k_bd C 0) (k_ba C 1) (k_ba C 3) (snV (k_sn C)) (k_ad C) (k_v C) (k_ba C 2) (k_old C) (k_many C) (k_r C) h0.1 h0.2.1 (lt_01 hS) hD.1 x y h1) (Nat.le_of_ble_eq_true rfl) (Nat.le_of_ble_eq_true rfl) (Nat.le_of_ble_eq_true rfl) (Nat.le_of_ble_eq_true rfl)
    · exact c_X10_addPump_b l g ct sz (j_ma M 0) (j_ma M 1) (j_ma M 2) (j_ma M 3) (j_ma M 4) (j_ma M 5) (j_ma M 6) (j_ma M 7) (j_ma M 8) (j_ma M 9) (j_n M) (j_hy M) (j_sl M) (j_sp M) (j_re M) (j_rh M) (j_rs M) (j_kp M) (j_fl M) (j_tn M) (j_tx M) (j_pa M) (j_rn M) (j_rd M) (by have := h0.2.1; have := h0.2.2; omega) x y (v_nP (k_v C)) hD.1 hD.2 ⟨hio.mpr h1.1, hjo.mpr h1.2.1, by omega⟩
  · refine ⟨if osP x 1 99 ∨ osP y 1 99999 then -2 else -3, M, rfl, fun sz => ?_, fun sz => ?_⟩
    · exact lc_Ri (wd := hstW ct (k_ba C 1) (k_ba C 2) (k_old C) (k_many C) (k_r C) ++ (txW ct (k_ba C 3) (k_ba C 4) (k_ba C 5) (k_len C) (k_ch C) (k_te C) (k_lv C) ++ stW ct (k_bd C) (k_tv C))) ⟨rfl, Rel_m (by omega) hR⟩ (List.Perm.refl _) (c_X9_addPump_a l g ct (k_ba C 0) (k_bd C 0) (k_ba C 1) (k_ba C 3) (snV (k_sn C)) (k_ad C) (k_v C) hD.1 x y h1) (Nat.le_of_ble_eq_true rfl) (Nat.le_of_ble_eq_true rfl) (Nat.le_of_ble_eq_true rfl) (Nat.le_of_ble_eq_true rfl)
    · have hm := c_X10_addPump_a l g ct (j_ma M 0) (j_ma M 1) (j_ma M 2) (j_ma M 3) (j_ma M 4) (j_ma M 5) (j_ma M 6) (j_ma M 7) (j_ma M 8) (j_ma M 9) (j_n M) (j_hy M) (j_sl M) (j_sp M) (j_re M) (j_rh M) (j_rs M) (j_kp M) (j_fl M) (j_tn M) (j_tx M) (j_pa M) (j_rn M) (j_rd M) x y (v_nP (k_v C)) hD.1 hD.2 (fun q => h1 ⟨hio.mp q.1, hjo.mp q.2.1, by have := hD.1; omega⟩)
      have e : (if inP x.toInt64 1 99 ∧ inP y.toInt64 1 99999 then (-3 : Int32) else -2) = if osP x 1 99 ∨ osP y 1 99999 then -2 else -3 := by
        by_cases q : osP x 1 99 ∨ osP y 1 99999
        · rw [if_pos q, if_neg (fun z => q.elim (hio.mp z.1) (hjo.mp z.2))]
        · rw [if_neg q, if_pos ⟨hio.mpr (fun z => q (Or.inl z)), hjo.mpr (fun z => q (Or.inr z))⟩]
      rw [e] at hm
      exact lm_Ri hm (Nat.le_of_ble_eq_true rfl) (Nat.le_of_ble_eq_true rfl) (Nat.le_of_ble_eq_true rfl) (Nat.le_of_ble_eq_true rfl)

theorem has_N {x : Int32} {m : Nat} (hm : m ≤ 8) (h : ¬ x < 0 ∧ x < nI m) : ∃ k, k < m ∧ x = nI k := by
  obtain ⟨j, hj, rfl⟩ := nI_of h.1
  exact ⟨j, (nI_ltI hj (by omega)).mp h.2, rfl⟩
theorem has_in {m : Nat} {c : Int64} (hm : m ≤ 8) (hc : c = lN m) (x : Int32) : inP x.toInt64 0 (c - 1) ↔ (¬ x < 0 ∧ x < nI m) := by
  subst hc
  have e : (lN m - 1).toInt = (m : Int) - 1 := by
    have : ∀ i : Fin 9, (lN i.val - 1).toInt = (i.val : Int) - 1 := by decide +kernel
    exact this ⟨m, by omega⟩
  unfold inP
  rw [Int64.lt_iff_toInt_lt, Int64.lt_iff_toInt_lt, Int32.lt_iff_toInt_lt, Int32.lt_iff_toInt_lt, Int32.toInt_toInt64, e, nI_toInt (by omega), show Int64.toInt 0 = 0 from rfl, show Int32.toInt 0 = 0 from rfl]
  omega

theorem SR_setStream {v : SVT} {n : Nat → Int64} {re : Nat → UInt64} (h : SR v n re) {k : Nat} (y : Int32) (hk0 : k < v_nT v) : SR (v_nS v, v_wi v, v_cr v, v_ho v, v_li v, v_co v, v_le v, v_cs v, v_nD v, v_we v, v_cl v, v_nT v, upd (v_sw v) k y, v_nP v, v_lim v, v_idl v, v_po v, v_pw v, v_on v, v_ra v, v_ar v, v_vo v, v_fi v, v_fo v, v_fv v, v_br v, v_pu v, v_td v, v_al v, v_h v, v_od v, v_cb v, v_dl v) (vp_updL n (80 + k) y.toInt64) re := by
  have kk : ∀ j, j ≠ 80 + k → (vp_updL n (80 + k) y.toInt64) j = n j := fun j h0 => by rw [pk_uLn (by omega)]
  obtain ⟨a, b, c, d, e, f, w, hsec, hinv, huni, hdis, hstr, hpum, hal, htd, hcr, h01⟩ := h
  have ha := a.1
  have hb := b.1
  have hc := c.1
  have hd := d.1
  exact ⟨⟨ha, (kk 7 (by omega)).trans a.2⟩, ⟨hb, (kk 8 (by omega)).trans b.2⟩, ⟨hc, (kk 9 (by omega)).trans c.2⟩, ⟨hd, (kk 10 (by omega)).trans d.2⟩, ⟨(kk 0 (by omega)).trans e.1, (kk 1 (by omega)).trans e.2.1, e.2.2.1, (kk 2 (by omega)).trans e.2.2.2.1, by rw [kk 3 (by omega)]; exact e.2.2.2.2.1, by rw [kk 4 (by omega)]; exact e.2.2.2.2.2⟩, ⟨(kk 5 (by omega)).trans f.1, f.2.1, (kk 6 (by omega)).trans f.2.2.1, by rw [kk 11 (by omega)]; exact f.2.2.2⟩, ⟨(kk 12 (by omega)).trans w.1, (kk 13 (by omega)).trans w.2.1, (kk 14 (by omega)).trans w.2.2.1, (kk 15 (by omega)).trans w.2.2.2.1, (kk 16 (by omega)).trans w.2.2.2.2.1, (kk 17 (by omega)).trans w.2.2.2.2.2⟩, fun k hk => by have hk : k < v_nS v := hk; rw [kk _ (by omega), kk _ (by omega), kk _ (by omega), kk _ (by omega), kk _ (by omega), kk _ (by omega)]; exact hsec k hk, hinv, huni, fun k hk => by have hk : k < v_nD v := hk; rw [kk _ (by omega), kk _ (by omega)]; exact hdis k hk, fun i hi => by
    have hi : i < v_nT v := hi
    show _ = (upd (v_sw v) k y i).toInt64
    by_cases q : i = k
    · subst q
      rw [pk_us, pk_uLs]
    · rw [pk_un q, kk _ (by omega)]
      exact hstr i hi, fun k hk => by have hk : k < v_nP v := hk; rw [kk _ (by omega), kk _ (by omega), kk _ (by omega), kk _ (by omega)]; exact hpum k hk, hal, htd, hcr, h01⟩

set_option maxHeartbeats 4000000 in
set_option maxRecDepth 100000 in
theorem op_setStream (l : Launch) (g : va_G) (ct : Nat → ClassId) {T : Nat} {C : CT} {M : MT} (hR : Rel T C M) (x y : Int32) : ∃ (a : Int32) (M2 : MT), j_ma M2 = j_ma M ∧ (∀ sz, Met l yX9_setStream wsX9_setStream (zRc 4 21 158 95) (va_Pc [.ref (k_ba C 0), .int x, .int y] (zW g ct (CW ct C) sz)) (zEi (S := {u : CT // k_ba u = k_ba C ∧ Rel (T + 48) u M2}) g (fun u => CW ct u.1) a (va_A (CW ct C) sz)) 21 158 (va_A (CW ct C) sz)) ∧ (∀ sz, Met l yX10_setStream wsX10_setStream (zRm 2 47) (va_Pc [.ref (j_ma M 0), .int x, .int y] (zW g ct (MWd ct M) sz)) (zEi (S := Unit) g (fun _ => MWd ct M2) a (va_A (MWd ct M) sz)) 0 0 (va_A (MWd ct M) sz)) := by
  have hS := hR.1
  have hD := lt_nT hS
  have h0 := hR.2.2.1
  have hio : inP y.toInt64 0 99999 ↔ ¬ osP y 0 99999 := in_os (lo := 0) (hi := 99999) (by decide) (by decide)
  have hin0 := has_in (m := v_nT (k_v C)) (by have := hD.1; omega) hD.2 x
  by_cases hh : ¬ x < 0 ∧ x < nI (v_nT (k_v C))
  · have hin1 := hin0.mpr hh
    obtain ⟨k, hk, rfl⟩ := has_N (by have := hD.1; omega) hh
    have hsw : (j_n M (80 + k)).toInt32 = v_sw (k_v C) k := by
      have := hS.2.2.2.2.2.2.2.2.2.2.2.1 k hk
      rw [this]; simp
    by_cases h1 : ¬ osP y 0 99999 ∧ ¬ v_sw (k_v C) k = y
    · refine ⟨v_sw (k_v C) k, j_rec M (vp_updL (j_n M) (80 + k) y.toInt64) (j_re M), rfl, fun sz => ?_, fun sz => ?_⟩
      · exact lc_Qi (C3 := fun u => k_rec C (v_nS (k_v C), v_wi (k_v C), v_cr (k_v C), v_ho (k_v C), v_li (k_v C), v_co (k_v C), v_le (k_v C), v_cs (k_v C), v_nD (k_v C), v_we (k_v C), v_cl (k_v C), v_nT (k_v C), upd (v_sw (k_v C)) k y, v_nP (k_v C), v_lim (k_v C), v_idl (k_v C), v_po (k_v C), v_pw (k_v C), v_on (k_v C), v_ra (k_v C), v_ar (k_v C), v_vo (k_v C), v_fi (k_v C), v_fo (k_v C), v_fv (k_v C), v_br (k_v C), v_pu (k_v C), v_td (k_v C), v_al (k_v C), v_h (k_v C), v_od (k_v C), v_cb (k_v C), v_dl (k_v C)) u) (wd := txW ct (k_ba C 3) (k_ba C 4) (k_ba C 5) (k_len C) (k_ch C) (k_te C) (k_lv C) ++ stW ct (k_bd C) (k_tv C)) (fun u => ⟨rfl, Rel_rec hR (by omega) (SR_setStream hS y hk) (Nat.le_trans hR.2.1 (by omega)) u⟩) (fun _ => rfl) (fun _ => rfl) (List.Perm.refl _) (fun _ => List.Perm.refl _) (c_X9_setStream_b l g ct sz (k_ba C 0) (k_bd C 0) (k_ba C 1) (k_ba C 3) (snV (k_sn C)) (k_ad C) (k_v C) (k_ba C 2) (k_old C) (k_many C) (k_r C) h0.1 h0.2.1 (lt_01 hS) hD.1 k hk y h1) (Nat.le_of_ble_eq_true rfl) (Nat.le_of_ble_eq_true rfl) (Nat.le_of_ble_eq_true rfl) (Nat.le_of_ble_eq_true rfl)
      · have hm := c_X10_setStream_b l g ct sz (j_ma M 0) (j_ma M 1) (j_ma M 2) (j_ma M 3) (j_ma M 4) (j_ma M 5) (j_ma M 6) (j_ma M 7) (j_ma M 8) (j_ma M 9) (j_n M) (j_hy M) (j_sl M) (j_sp M) (j_re M) (j_rh M) (j_rs M) (j_kp M) (j_fl M) (j_tn M) (j_tx M) (j_pa M) (j_rn M) (j_rd M) (by have := h0.2.1; have := h0.2.2; omega) k (by have := hD.1; omega) hin1 y ⟨hio.mpr h1.1, by rw [hsw]; exact h1.2⟩
        rw [hsw] at hm
        exact hm
    · refine ⟨if osP y 0 99999 then -2 else -5, M, rfl, fun sz => ?_, fun sz => ?_⟩
      · exact lc_Ri (wd := hstW ct (k_ba C 1) (k_ba C 2) (k_old C) (k_many C) (k_r C) ++ (txW ct (k_ba C 3) (k_ba C 4) (k_ba C 5) (k_len C) (k_ch C) (k_te C) (k_lv C) ++ stW ct (k_bd C) (k_tv C))) ⟨rfl, Rel_m (by omega) hR⟩ (List.Perm.refl _) (c_X9_setStream_a l g ct (k_ba C 0) (k_bd C 0) (k_ba C 1) (k_ba C 3) (snV (k_sn C)) (k_ad C) (k_v C) hD.1 k hk y h1) (Nat.le_of_ble_eq_true rfl) (Nat.le_of_ble_eq_true rfl) (Nat.le_of_ble_eq_true rfl) (Nat.le_of_ble_eq_true rfl)
      · have hm := c_X10_setStream_a l g ct (j_ma M 0) (j_ma M 1) (j_ma M 2) (j_ma M 3) (j_ma M 4) (j_ma M 5) (j_ma M 6) (j_ma M 7) (j_ma M 8) (j_ma M 9) (j_n M) (j_hy M) (j_sl M) (j_sp M) (j_re M) (j_rh M) (j_rs M) (j_kp M) (j_fl M) (j_tn M) (j_tx M) (j_pa M) (j_rn M) (j_rd M) k (by have := hD.1; omega) hin1 y (fun q => h1 ⟨hio.mp q.1, by rw [← hsw]; exact q.2⟩)
        have e : (if inP y.toInt64 0 99999 then (-5 : Int32) else -2) = if osP y 0 99999 then -2 else -5 := by
          by_cases q : osP y 0 99999
          · rw [if_pos q, if_neg (fun z => (hio.mp z) q)]
          · rw [if_neg q, if_pos (hio.mpr q)]
        rw [e] at hm
        exact lm_Ri hm (Nat.le_of_ble_eq_true rfl) (Nat.le_of_ble_eq_true rfl) (Nat.le_of_ble_eq_true rfl) (Nat.le_of_ble_eq_true rfl)
  · refine ⟨-1, M, rfl, fun sz => ?_, fun sz => ?_⟩
    · exact lc_Ri (wd := hstW ct (k_ba C 1) (k_ba C 2) (k_old C) (k_many C) (k_r C) ++ (txW ct (k_ba C 3) (k_ba C 4) (k_ba C 5) (k_len C) (k_ch C) (k_te C) (k_lv C) ++ stW ct (k_bd C) (k_tv C))) ⟨rfl, Rel_m (by omega) hR⟩ (List.Perm.refl _) (c_X9_setStream_u l g ct (k_ba C 0) (k_bd C 0) (k_ba C 1) (k_ba C 3) (snV (k_sn C)) (k_ad C) (k_v C) hD.1 x y hh) (Nat.le_of_ble_eq_true rfl) (Nat.le_of_ble_eq_true rfl) (Nat.le_of_ble_eq_true rfl) (Nat.le_of_ble_eq_true rfl)
    · exact lm_Ri (c_X10_setStream_u l g ct (j_ma M 0) (j_ma M 1) (j_ma M 2) (j_ma M 3) (j_ma M 4) (j_ma M 5) (j_ma M 6) (j_ma M 7) (j_ma M 8) (j_ma M 9) (j_n M) (j_hy M) (j_sl M) (j_sp M) (j_re M) (j_rh M) (j_rs M) (j_kp M) (j_fl M) (j_tn M) (j_tx M) (j_pa M) (j_rn M) (j_rd M) x y (fun q => hh (hin0.mp q))) (Nat.le_of_ble_eq_true rfl) (Nat.le_of_ble_eq_true rfl) (Nat.le_of_ble_eq_true rfl) (Nat.le_of_ble_eq_true rfl)
