theorem mv_is {co : Nat → Int32} {n i : Nat} (hi : i < n) (h : co i = 1 ∨ co i = 3) (hu : ∀ j, j < n → (co j = 1 ∨ co j = 3) → j = i) : mvN co n = i :=
  fst_some hi (fun j hj q => by have := hu j (by omega) q; omega) h
theorem mv_no {co : Nat → Int32} {n : Nat} (h : ∀ j, j < n → ¬ (co j = 1 ∨ co j = 3)) : mvN co n = n := fst_none n h
theorem mv_sp {co : Nat → Int32} {n : Nat} (h : mvN co n < n) : co (mvN co n) = 1 ∨ co (mvN co n) = 3 := (fst_spec h).1
theorem fst_nn {P : Nat → Prop} {n : Nat} (h : ¬ fst_ P n < n) : ∀ j, j < n → ¬ P j := by
  intro j hj q
  obtain ⟨k, h1, h2⟩ := pk_least (fun k => k < n ∧ P k) ⟨j, hj, q⟩
  rw [fst_some h1.1 (fun i hi w => h2 i hi ⟨by omega, w⟩) h1.2] at h
  exact h h1.1
theorem mv_nn {co : Nat → Int32} {n : Nat} (h : ¬ mvN co n < n) : ∀ j, j < n → ¬ (co j = 1 ∨ co j = 3) := fst_nn h
theorem mv_add {co : Nat → Int32} {n : Nat} : (if mvN (upd co n 0) (n + 1) < n + 1 then lN (mvN (upd co n 0) (n + 1) + 1) else 0) = (if mvN co n < n then lN (mvN co n + 1) else 0) := by
  by_cases c : mvN co n < n
  · have h := fst_spec c
    have e : mvN (upd co n 0) (n + 1) = mvN co n := fst_some (by omega) (fun j hj q => by
      rw [pk_un (by omega)] at q
      exact h.2 j hj q) (by
      rw [pk_un (by omega)]
      exact h.1)
    rw [e, if_pos c, if_pos (by omega)]
  · have h := mv_nn c
    have e : mvN (upd co n 0) (n + 1) = n + 1 := mv_no (fun j hj q => by
      by_cases d : j = n
      · subst d
        rw [pk_us] at q
        exact absurd q (by decide)
      · rw [pk_un d] at q
        exact h j (by omega) q)
    rw [e, if_neg c, if_neg (by omega)]
theorem os_le {x a b : Int32} (h : ¬ osP x a b) : a ≤ x ∧ x ≤ b := ⟨Int32.not_lt.mp (fun q => h (Or.inl q)), Int32.not_lt.mp (fun q => h (Or.inr q))⟩

theorem SR_addSection {v : SVT} {n : Nat → Int64} {re : Nat → UInt64} (h : SR v n re) (x : Int32) (y : Int64) (z w0 : Int32) (hn : v_nS v < 8) (hxo : 1 ≤ x ∧ x ≤ 50) (hyo : crOk y) (hzo : 1 ≤ z ∧ z ≤ 6) : SR (v_nS v + 1, upd (v_wi v) (v_nS v) x, vp_updL (v_cr v) (v_nS v) y, upd (v_ho v) (v_nS v) z, upd (v_li v) (v_nS v) w0, upd (v_co v) (v_nS v) 0, upd (v_le v) (v_nS v) 0, upd (v_cs v) (v_nS v) 0, v_nD v, v_we v, v_cl v, v_nT v, v_sw v, v_nP v, v_lim v, v_idl v, v_po v, v_pw v, v_on v, v_ra v, v_ar v, v_vo v, v_fi v, v_fo v, v_fv v, v_br v, v_pu v, v_td v, v_al v, v_h v, v_od v, v_cb v, v_dl v) (vp_updL (vp_updL (vp_updL (vp_updL (vp_updL (vp_updL (vp_updL n 7 (lN (v_nS v) + 1)) (20 + 6 * v_nS v + 0) x.toInt64) (20 + 6 * v_nS v + 1) z.toInt64) (20 + 6 * v_nS v + 2) w0.toInt64) (20 + 6 * v_nS v + 3) (0 : Int32).toInt64) (20 + 6 * v_nS v + 4) (0 : Int32).toInt64) (20 + 6 * v_nS v + 5) (0 : Int32).toInt64) (vf_upd re (25 + v_nS v) y.toUInt64) := by
  have kk : ∀ j, j ≠ 7 → j ≠ 20 + 6 * v_nS v + 0 → j ≠ 20 + 6 * v_nS v + 1 → j ≠ 20 + 6 * v_nS v + 2 → j ≠ 20 + 6 * v_nS v + 3 → j ≠ 20 + 6 * v_nS v + 4 → j ≠ 20 + 6 * v_nS v + 5 → (vp_updL (vp_updL (vp_updL (vp_updL (vp_updL (vp_updL (vp_updL n 7 (lN (v_nS v) + 1)) (20 + 6 * v_nS v + 0) x.toInt64) (20 + 6 * v_nS v + 1) z.toInt64) (20 + 6 * v_nS v + 2) w0.toInt64) (20 + 6 * v_nS v + 3) (0 : Int32).toInt64) (20 + 6 * v_nS v + 4) (0 : Int32).toInt64) (20 + 6 * v_nS v + 5) (0 : Int32).toInt64) j = n j := fun j h0 h1 h2 h3 h4 h5 h6 => by rw [pk_uLn (by omega), pk_uLn (by omega), pk_uLn (by omega), pk_uLn (by omega), pk_uLn (by omega), pk_uLn (by omega), pk_uLn (by omega)]
  obtain ⟨a, b, c, d, e, f, w, hsec, hinv, huni, hdis, hstr, hpum, hal, htd, hcr, h01⟩ := h
  have ha := a.1
  have hb := b.1
  have hc := c.1
  have hd := d.1
  have kr : ∀ j, j ≠ 25 + v_nS v → vf_upd re (25 + v_nS v) y.toUInt64 j = re j := fun j q => by unfold vf_upd; rw [if_neg q]
  exact ⟨⟨hn, by rw [pk_uLn (by omega), pk_uLn (by omega), pk_uLn (by omega), pk_uLn (by omega), pk_uLn (by omega), pk_uLn (by omega), pk_uLs]; exact lN_1 _⟩, ⟨hb, (kk 8 (by omega) (by omega) (by omega) (by omega) (by omega) (by omega) (by omega)).trans b.2⟩, ⟨hc, (kk 9 (by omega) (by omega) (by omega) (by omega) (by omega) (by omega) (by omega)).trans c.2⟩, ⟨hd, (kk 10 (by omega) (by omega) (by omega) (by omega) (by omega) (by omega) (by omega)).trans d.2⟩, ⟨(kk 0 (by omega) (by omega) (by omega) (by omega) (by omega) (by omega) (by omega)).trans e.1, (kk 1 (by omega) (by omega) (by omega) (by omega) (by omega) (by omega) (by omega)).trans e.2.1, e.2.2.1, ((kk 2 (by omega) (by omega) (by omega) (by omega) (by omega) (by omega) (by omega)).trans e.2.2.2.1).trans mv_add.symm, by rw [kk 3 (by omega) (by omega) (by omega) (by omega) (by omega) (by omega) (by omega)]; exact e.2.2.2.2.1, by rw [kk 4 (by omega) (by omega) (by omega) (by omega) (by omega) (by omega) (by omega)]; exact e.2.2.2.2.2⟩, ⟨(kk 5 (by omega) (by omega) (by omega) (by omega) (by omega) (by omega) (by omega)).trans f.1, f.2.1, (kk 6 (by omega) (by omega) (by omega) (by omega) (by omega) (by omega) (by omega)).trans f.2.2.1, by rw [kk 11 (by omega) (by omega) (by omega) (by omega) (by omega) (by omega) (by omega)]; exact f.2.2.2⟩, ⟨(kk 12 (by omega) (by omega) (by omega) (by omega) (by omega) (by omega) (by omega)).trans w.1, (kk 13 (by omega) (by omega) (by omega) (by omega) (by omega) (by omega) (by omega)).trans w.2.1, (kk 14 (by omega) (by omega) (by omega) (by omega) (by omega) (by omega) (by omega)).trans w.2.2.1, (kk 15 (by omega) (by omega) (by omega) (by omega) (by omega) (by omega) (by omega)).trans w.2.2.2.1, (kk 16 (by omega) (by omega) (by omega) (by omega) (by omega) (by omega) (by omega)).trans w.2.2.2.2.1, (kk 17 (by omega) (by omega) (by omega) (by omega) (by omega) (by omega) (by omega)).trans w.2.2.2.2.2⟩, fun k hk => by
    have hk : k < v_nS v + 1 := hk
    show _ = upd (v_wi v) (v_nS v) x k ∧ _ = upd (v_ho v) (v_nS v) z k ∧ _ = upd (v_li v) (v_nS v) w0 k ∧ _ = upd (v_co v) (v_nS v) 0 k ∧ _ = upd (v_le v) (v_nS v) 0 k ∧ _ = upd (v_cs v) (v_nS v) 0 k
    by_cases q : k = v_nS v
    · subst q
      refine ⟨?_, ?_, ?_, ?_, ?_, ?_⟩
      · rw [pk_us, pk_uLn (by omega), pk_uLn (by omega), pk_uLn (by omega), pk_uLn (by omega), pk_uLn (by omega), pk_uLs]; simp
      · rw [pk_us, pk_uLn (by omega), pk_uLn (by omega), pk_uLn (by omega), pk_uLn (by omega), pk_uLs]; simp
      · rw [pk_us, pk_uLn (by omega), pk_uLn (by omega), pk_uLn (by omega), pk_uLs]; simp
      · rw [pk_us, pk_uLn (by omega), pk_uLn (by omega), pk_uLs]; simp
      · rw [pk_us, pk_uLn (by omega), pk_uLs]; simp
      · rw [pk_us, pk_uLs]; simp
    · rw [pk_un q, pk_un q, pk_un q, pk_un q, pk_un q, pk_un q, kk _ (by omega) (by omega) (by omega) (by omega) (by omega) (by omega) (by omega), kk _ (by omega) (by omega) (by omega) (by omega) (by omega) (by omega) (by omega), kk _ (by omega) (by omega) (by omega) (by omega) (by omega) (by omega) (by omega), kk _ (by omega) (by omega) (by omega) (by omega) (by omega) (by omega) (by omega), kk _ (by omega) (by omega) (by omega) (by omega) (by omega) (by omega) (by omega), kk _ (by omega) (by omega) (by omega) (by omega) (by omega) (by omega) (by omega)]
      exact hsec k (by omega), fun k hk => by
    have hk : k < v_nS v + 1 := hk
    show (1 ≤ upd (v_wi v) (v_nS v) x k ∧ upd (v_wi v) (v_nS v) x k ≤ 50) ∧ (1 ≤ upd (v_ho v) (v_nS v) z k ∧ upd (v_ho v) (v_nS v) z k ≤ 6) ∧ (upd (v_co v) (v_nS v) 0 k = 0 ∨ upd (v_co v) (v_nS v) 0 k = 1 ∨ upd (v_co v) (v_nS v) 0 k = 2 ∨ upd (v_co v) (v_nS v) 0 k = 3 ∨ upd (v_co v) (v_nS v) 0 k = 4) ∧ (upd (v_co v) (v_nS v) 0 k = 1 ∨ upd (v_co v) (v_nS v) 0 k = 3 → 1 ≤ upd (v_le v) (v_nS v) 0 k ∧ upd (v_le v) (v_nS v) 0 k ≤ 6)
    by_cases q : k = v_nS v
    · subst q
      rw [pk_us, pk_us, pk_us, pk_us]
      exact ⟨hxo, hzo, Or.inl rfl, fun q => absurd q (by decide)⟩
    · rw [pk_un q, pk_un q, pk_un q, pk_un q]
      exact hinv k (by omega), fun i j hi hj h1 h2 => by
    have hi : i < v_nS v + 1 := hi
    have hj : j < v_nS v + 1 := hj
    have h1 : upd (v_co v) (v_nS v) 0 i = 1 ∨ upd (v_co v) (v_nS v) 0 i = 3 := h1
    have h2 : upd (v_co v) (v_nS v) 0 j = 1 ∨ upd (v_co v) (v_nS v) 0 j = 3 := h2
    by_cases qi : i = v_nS v
    · rw [qi, pk_us] at h1
      exact absurd h1 (by decide)
    · by_cases qj : j = v_nS v
      · rw [qj, pk_us] at h2
        exact absurd h2 (by decide)
      · rw [pk_un qi] at h1
        rw [pk_un qj] at h2
        exact huni i j (by omega) (by omega) h1 h2, fun k hk => by have hk : k < v_nD v := hk; rw [kk _ (by omega) (by omega) (by omega) (by omega) (by omega) (by omega) (by omega), kk _ (by omega) (by omega) (by omega) (by omega) (by omega) (by omega) (by omega)]; exact hdis k hk, fun k hk => by have hk : k < v_nT v := hk; rw [kk _ (by omega) (by omega) (by omega) (by omega) (by omega) (by omega) (by omega)]; exact hstr k hk, fun k hk => by have hk : k < v_nP v := hk; rw [kk _ (by omega) (by omega) (by omega) (by omega) (by omega) (by omega) (by omega), kk _ (by omega) (by omega) (by omega) (by omega) (by omega) (by omega) (by omega), kk _ (by omega) (by omega) (by omega) (by omega) (by omega) (by omega) (by omega), kk _ (by omega) (by omega) (by omega) (by omega) (by omega) (by omega) (by omega)]; exact hpum k hk, ⟨(kr 0 (by omega)).trans hal.1, hal.2⟩, fun i hi => ⟨(kr _ (by omega)).trans (htd i hi).1, (htd i hi).2⟩, fun k hk => by
    have hk : k < v_nS v + 1 := hk
    show vf_upd re (25 + v_nS v) y.toUInt64 (25 + k) = (vp_updL (v_cr v) (v_nS v) y k).toUInt64 ∧ lvOk (vp_updL (v_cr v) (v_nS v) y k)
    by_cases q : k = v_nS v
    · subst q
      rw [pk_uLs, z_uDs]
      exact ⟨rfl, cr_lv hyo⟩
    · rw [pk_uLn q, kr _ (by omega)]
      exact hcr k (by omega), h01⟩

set_option maxHeartbeats 4000000 in
set_option maxRecDepth 100000 in
theorem op_addSection (l : Launch) (g : va_G) (ct : Nat → ClassId) {T : Nat} {C : CT} {M : MT} (hR : Rel T C M) (x : Int32) (y : Int64) (z w0 : Int32) : ∃ (a : Int32) (M2 : MT), j_ma M2 = j_ma M ∧ (∀ sz, Met l yX9_addSection wsX9_addSection (zRc 4 21 158 95) (va_Pc [.ref (k_ba C 0), .int x, .long y, .int z, .int w0] (zW g ct (CW ct C) sz)) (zEi (S := {u : CT // k_ba u = k_ba C ∧ Rel (T + 48) u M2}) g (fun u => CW ct u.1) a (va_A (CW ct C) sz)) 21 158 (va_A (CW ct C) sz)) ∧ (∀ sz, Met l yX10_addSection wsX10_addSection (zRm 2 52) (va_Pc [.ref (j_ma M 0), .int x, .long y, .int z, .int w0] (zW g ct (MWd ct M) sz)) (zEi (S := Unit) g (fun _ => MWd ct M2) a (va_A (MWd ct M) sz)) 0 0 (va_A (MWd ct M) sz)) := by
  have hS := hR.1
  have hD := lt_nS hS
  have h0 := hR.2.2.1
  have hio : inP x.toInt64 1 50 ↔ ¬ osP x 1 50 := in_os (lo := 1) (hi := 50) (by decide) (by decide)
  have hjo : inP z.toInt64 1 6 ↔ ¬ osP z 1 6 := in_os (lo := 1) (hi := 6) (by decide) (by decide)
  have hlo : inP w0.toInt64 1 20 ↔ ¬ osP w0 1 20 := in_os (lo := 1) (hi := 20) (by decide) (by decide)
  have hcr : (¬ y < 0 ∧ isLvP y FP.dconst0 4621819117588971520) ↔ crOk y := ky_cr
  by_cases h1 : ¬ osP x 1 50 ∧ crOk y ∧ ¬ osP z 1 6 ∧ ¬ osP w0 1 20 ∧ ¬ 8 ≤ v_nS (k_v C)
  · refine ⟨nI (v_nS (k_v C)), j_rec M (vp_updL (vp_updL (vp_updL (vp_updL (vp_updL (vp_updL (vp_updL (j_n M) 7 (lN (v_nS (k_v C)) + 1)) (20 + 6 * v_nS (k_v C) + 0) x.toInt64) (20 + 6 * v_nS (k_v C) + 1) z.toInt64) (20 + 6 * v_nS (k_v C) + 2) w0.toInt64) (20 + 6 * v_nS (k_v C) + 3) (0 : Int32).toInt64) (20 + 6 * v_nS (k_v C) + 4) (0 : Int32).toInt64) (20 + 6 * v_nS (k_v C) + 5) (0 : Int32).toInt64) (vf_upd (j_re M) (25 + v_nS (k_v C)) y.toUInt64), rfl, fun sz => ?_, fun sz => ?_⟩
    · exact lc_Qi (C3 := fun u => k_rec C (v_nS (k_v C) + 1, upd (v_wi (k_v C)) (v_nS (k_v C)) x, vp_updL (v_cr (k_v C)) (v_nS (k_v C)) y, upd (v_ho (k_v C)) (v_nS (k_v C)) z, upd (v_li (k_v C)) (v_nS (k_v C)) w0, upd (v_co (k_v C)) (v_nS (k_v C)) 0, upd (v_le (k_v C)) (v_nS (k_v C)) 0, upd (v_cs (k_v C)) (v_nS (k_v C)) 0, v_nD (k_v C), v_we (k_v C), v_cl (k_v C), v_nT (k_v C), v_sw (k_v C), v_nP (k_v C), v_lim (k_v C), v_idl (k_v C), v_po (k_v C), v_pw (k_v C), v_on (k_v C), v_ra (k_v C), v_ar (k_v C), v_vo (k_v C), v_fi (k_v C), v_fo (k_v C), v_fv (k_v C), v_br (k_v C), v_pu (k_v C), v_td (k_v C), v_al (k_v C), v_h (k_v C), v_od (k_v C), v_cb (k_v C), v_dl (k_v C)) u) (wd := txW ct (k_ba C 3) (k_ba C 4) (k_ba C 5) (k_len C) (k_ch C) (k_te C) (k_lv C) ++ stW ct (k_bd C) (k_tv C)) (fun u => ⟨rfl, Rel_rec hR (by omega) (SR_addSection hS x y z w0 (by omega) (os_le h1.1) h1.2.1 (os_le h1.2.2.1)) (Nat.le_trans hR.2.1 (by omega)) u⟩) (fun _ => rfl) (fun _ => rfl) (List.Perm.refl _) (fun _ => List.Perm.refl _) (c_X9_addSection_b l g ct sz (k_ba C 0) (k_bd C 0) (k_ba C 1) (k_ba C 3) (snV (k_sn C)) (k_ad C) (k_v C) (k_ba C 2) (k_old C) (k_many C) (k_r C) h0.1 h0.2.1 (lt_01 hS) hD.1 x y z w0 h1) (Nat.le_of_ble_eq_true rfl) (Nat.le_of_ble_eq_true rfl) (Nat.le_of_ble_eq_true rfl) (Nat.le_of_ble_eq_true rfl)
    · have hy := hcr.mpr h1.2.1
      have hm := c_X10_addSection_b l g ct sz (j_ma M 0) (j_ma M 1) (j_ma M 2) (j_ma M 3) (j_ma M 4) (j_ma M 5) (j_ma M 6) (j_ma M 7) (j_ma M 8) (j_ma M 9) (j_n M) (j_hy M) (j_sl M) (j_sp M) (j_re M) (j_rh M) (j_rs M) (j_kp M) (j_fl M) (j_tn M) (j_tx M) (j_pa M) (j_rn M) (j_rd M) (by have := h0.2.1; have := h0.2.2; omega) x y z w0 (v_nS (k_v C)) hD.1 hD.2 ⟨hio.mpr h1.1, hy.1, hy.2, hjo.mpr h1.2.2.1, hlo.mpr h1.2.2.2.1, by have := h1.2.2.2.2; omega⟩
      exact lm_Wi hm (Nat.le_of_ble_eq_true rfl) (Nat.le_of_ble_eq_true rfl) (Nat.le_of_ble_eq_true rfl) (Nat.le_of_ble_eq_true rfl)
  · refine ⟨if osP x 1 50 ∨ ¬ crOk y ∨ osP z 1 6 ∨ osP w0 1 20 then -2 else -3, M, rfl, fun sz => ?_, fun sz => ?_⟩
    · exact lc_Ri (wd := hstW ct (k_ba C 1) (k_ba C 2) (k_old C) (k_many C) (k_r C) ++ (txW ct (k_ba C 3) (k_ba C 4) (k_ba C 5) (k_len C) (k_ch C) (k_te C) (k_lv C) ++ stW ct (k_bd C) (k_tv C))) ⟨rfl, Rel_m (by omega) hR⟩ (List.Perm.refl _) (c_X9_addSection_a l g ct (k_ba C 0) (k_bd C 0) (k_ba C 1) (k_ba C 3) (snV (k_sn C)) (k_ad C) (k_v C) hD.1 x y z w0 h1) (Nat.le_of_ble_eq_true rfl) (Nat.le_of_ble_eq_true rfl) (Nat.le_of_ble_eq_true rfl) (Nat.le_of_ble_eq_true rfl)
    · have hm := c_X10_addSection_a l g ct (j_ma M 0) (j_ma M 1) (j_ma M 2) (j_ma M 3) (j_ma M 4) (j_ma M 5) (j_ma M 6) (j_ma M 7) (j_ma M 8) (j_ma M 9) (j_n M) (j_hy M) (j_sl M) (j_sp M) (j_re M) (j_rh M) (j_rs M) (j_kp M) (j_fl M) (j_tn M) (j_tx M) (j_pa M) (j_rn M) (j_rd M) x y z w0 (v_nS (k_v C)) hD.1 hD.2 (fun q => h1 ⟨hio.mp q.1, hcr.mp ⟨q.2.1, q.2.2.1⟩, hjo.mp q.2.2.2.1, hlo.mp q.2.2.2.2.1, by have := q.2.2.2.2.2; have := hD.1; omega⟩)
      have e : (if inP x.toInt64 1 50 ∧ ¬ y < 0 ∧ isLvP y FP.dconst0 4621819117588971520 ∧ inP z.toInt64 1 6 ∧ inP w0.toInt64 1 20 then (-3 : Int32) else -2) = if osP x 1 50 ∨ ¬ crOk y ∨ osP z 1 6 ∨ osP w0 1 20 then -2 else -3 := by
        by_cases q : osP x 1 50 ∨ ¬ crOk y ∨ osP z 1 6 ∨ osP w0 1 20
        · rw [if_pos q, if_neg (fun z1 => ?_)]
          rcases q with q | q | q | q
          · exact (hio.mp z1.1) q
          · exact q (hcr.mp ⟨z1.2.1, z1.2.2.1⟩)
          · exact (hjo.mp z1.2.2.2.1) q
          · exact (hlo.mp z1.2.2.2.2) q
        · have q1 : ¬ osP x 1 50 := fun z1 => q (Or.inl z1)
          have q2 : crOk y := Classical.not_not.mp (fun z1 => q (Or.inr (Or.inl z1)))
          have q3 : ¬ osP z 1 6 := fun z1 => q (Or.inr (Or.inr (Or.inl z1)))
          have q4 : ¬ osP w0 1 20 := fun z1 => q (Or.inr (Or.inr (Or.inr z1)))
          have q5 := hcr.mpr q2
          rw [if_neg q, if_pos ⟨hio.mpr q1, q5.1, q5.2, hjo.mpr q3, hlo.mpr q4⟩]
      rw [e] at hm
      exact lm_Ri hm (Nat.le_of_ble_eq_true rfl) (Nat.le_of_ble_eq_true rfl) (Nat.le_of_ble_eq_true rfl) (Nat.le_of_ble_eq_true rfl)
