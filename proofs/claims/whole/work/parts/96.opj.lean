theorem mv_iff {v : SVT} {n : Nat → Int64} {re : Nat → UInt64} (h : SR v n re) {k : Nat} (hk : k < v_nS v) : n 2 = lN k + 1 ↔ (v_co v k = 1 ∨ v_co v k = 3) := by
  have hn := (lt_nS h).1
  have e := h.2.2.2.2.1.2.2.2.1
  have hu := h.2.2.2.2.2.2.2.2.2.1
  rw [e, lN_1]
  by_cases c : mvN (v_co v) (v_nS v) < v_nS v
  · rw [if_pos c, lN_eq (by omega) (by omega)]
    have hm := mv_sp c
    constructor
    · intro q
      rw [show k = mvN (v_co v) (v_nS v) by omega]
      exact hm
    · intro q
      rw [hu _ _ c hk hm q]
  · rw [if_neg c, show (0 : Int64) = lN 0 from rfl, lN_eq (by omega) (by omega)]
    exact ⟨fun q => by omega, fun q => (mv_nn c k hk q).elim⟩
theorem mv_eqI {v : SVT} {n : Nat → Int64} {re : Nat → UInt64} (h : SR v n re) : (if n 2 = 0 then (-5 : Int32) else (n 2).toInt32 - 1) = mvI (v_co v) (v_nS v) := by
  have hn := (lt_nS h).1
  have e := h.2.2.2.2.1.2.2.2.1
  rw [e]
  by_cases c : mvN (v_co v) (v_nS v) < v_nS v
  · have e2 : mvI (v_co v) (v_nS v) = nI (mvN (v_co v) (v_nS v)) := if_pos c
    rw [if_pos c, e2, lN_i, nI_pred, if_neg (fun q => by rw [show (0 : Int64) = lN 0 from rfl, lN_eq (by omega) (by omega)] at q; omega)]
  · have e2 : mvI (v_co v) (v_nS v) = -5 := if_neg c
    rw [if_neg c, e2, if_pos rfl]
theorem rb_eq {n : Nat → Int64} {on po : Nat → Int32} {lim : Int32} {k : Nat} (h6 : n 6 = lim.toInt64) (h0 : (n (84 + 4 * k + 0)).toInt32 = po k) (h2 : (n (84 + 4 * k + 2)).toInt32 = on k) (h01 : on k = 0 ∨ on k = 1) (d : Int32) : mrP n d k ↔ rbP on po lim d k := by
  unfold mrP rbP
  rw [h6, h0, h2]
  have e : lim.toInt64 < (d + po k).toInt64 ↔ lim < d + po k := by rw [Int64.lt_iff_toInt_lt, Int32.lt_iff_toInt_lt, Int32.toInt_toInt64, Int32.toInt_toInt64]
  rw [e]
  rcases h01 with q | q
  · rw [q]; exact ⟨fun z => absurd z.1 (by decide), fun z => absurd rfl z.1⟩
  · rw [q]; exact ⟨fun z => ⟨by decide, z.2⟩, fun z => ⟨rfl, z.2⟩⟩
theorem mdr_s2 (n : Nat → Int64) (k : Nat) : mdr n (k + 1) = if mrP n (mdr n k) k then mdr n k + (n (84 + 4 * k + 0)).toInt32 else mdr n k := by
  show (if (n (84 + 4 * k + 2)).toInt32 = 1 then (if n 6 < (mdr n k + (n (84 + 4 * k + 0)).toInt32).toInt64 then mdr n k + 0 else mdr n k + (n (84 + 4 * k + 0)).toInt32) else mdr n k + 0) = _
  by_cases c : (n (84 + 4 * k + 2)).toInt32 = 1
  · by_cases d : n 6 < (mdr n k + (n (84 + 4 * k + 0)).toInt32).toInt64
    · rw [if_pos c, if_pos d, if_neg (fun z => z.2 d), Int32.add_zero]
    · rw [if_pos c, if_neg d, if_pos ⟨c, d⟩]
  · rw [if_neg c, if_neg (fun z => c z.1), Int32.add_zero]
theorem dr_eq {n : Nat → Int64} {on po : Nat → Int32} {lim : Int32} {nP : Nat} (h6 : n 6 = lim.toInt64) (h : ∀ k, k < nP → (n (84 + 4 * k + 0)).toInt32 = po k ∧ (n (84 + 4 * k + 2)).toInt32 = on k ∧ (on k = 0 ∨ on k = 1)) (k : Nat) (hk : k ≤ nP) : mdr n k = drN on po lim k := by
  induction k with
  | zero => rfl
  | succ k ih =>
    have i1 := ih (by omega)
    have h1 := h k (by omega)
    rw [mdr_s2, drN_s, i1]
    have e := rb_eq h6 h1.1 h1.2.1 h1.2.2 (drN on po lim k)
    by_cases c : mrP n (drN on po lim k) k
    · rw [if_pos c, if_pos (e.mp c), h1.1]
    · rw [if_neg c, if_neg (fun z => c (e.mpr z))]
theorem SR_p {v : SVT} {n : Nat → Int64} {re : Nat → UInt64} (h : SR v n re) : n 6 = (v_lim v).toInt64 ∧ ∀ k, k < v_nP v → (n (84 + 4 * k + 0)).toInt32 = v_po v k ∧ (n (84 + 4 * k + 2)).toInt32 = v_on v k ∧ (v_on v k = 0 ∨ v_on v k = 1) :=
  ⟨h.2.2.2.2.2.1.2.2.1, fun k hk => have h1 := h.2.2.2.2.2.2.2.2.2.2.2.2.1 k hk; ⟨h1.1, h1.2.2.1, (lt_01 h).2 k (by have := (lt_nP h).1; omega)⟩⟩
theorem inn_eq {v : SVT} {n : Nat → Int64} {re : Nat → UInt64} (h : SR v n re) (w : Int64) : miD n w = FP.ddiv (FP.l2d w) (FP.i2d (v_ar v)) := by
  unfold miD
  rw [h.2.2.2.2.2.1.1]
  exact congrArg (FP.ddiv (FP.l2d w)) (FP.Core.i2d_l2d (v_ar v)).symm

set_option maxHeartbeats 4000000 in
set_option maxRecDepth 100000 in
theorem op_section (l : Launch) (g : va_G) (ct : Nat → ClassId) {T : Nat} {C : CT} {M : MT} (hR : Rel T C M) (x y : Int32) : ∃ (a : Int32) (M2 : MT), j_ma M2 = j_ma M ∧ (∀ sz, Met l yX9_section wsX9_section (zRm 1 21) (va_Pc [.ref (k_ba C 0), .int x, .int y] (zW g ct (CW ct C) sz)) (zEi (S := {u : CT // k_ba u = k_ba C ∧ Rel (T + 48) u M2}) g (fun u => CW ct u.1) a (va_A (CW ct C) sz)) 21 158 (va_A (CW ct C) sz)) ∧ (∀ sz, Met l yX10_section wsX10_section (zRm 2 47) (va_Pc [.ref (j_ma M 0), .int x, .int y] (zW g ct (MWd ct M) sz)) (zEi (S := Unit) g (fun _ => MWd ct M2) a (va_A (MWd ct M) sz)) 0 0 (va_A (MWd ct M) sz)) := by
  have hS := hR.1
  have hD := lt_nS hS
  have hin0 := has_in (m := v_nS (k_v C)) (by have := hD.1; omega) hD.2 x
  by_cases hh : ¬ x < 0 ∧ x < nI (v_nS (k_v C))
  · have hin1 := hin0.mpr hh
    obtain ⟨k, hk, rfl⟩ := has_N (by have := hD.1; omega) hh
    have hz := hS.2.2.2.2.2.2.2.1 k hk
    have hmv := mv_iff hS hk
    have e4 : (if j_n M 2 = lN k + 1 then (j_n M (20 + 6 * k + 4)).toInt32 else -5) = if v_co (k_v C) k = 1 ∨ v_co (k_v C) k = 3 then v_le (k_v C) k else -5 := by
      rw [hz.2.2.2.2.1]
      by_cases q : j_n M 2 = lN k + 1
      · rw [if_pos q, if_pos (hmv.mp q)]
      · rw [if_neg q, if_neg (fun z => q (hmv.mpr z))]
    have hm := c_X10_section_a l g ct (j_ma M 0) (j_ma M 1) (j_ma M 2) (j_ma M 3) (j_ma M 4) (j_ma M 5) (j_ma M 6) (j_ma M 7) (j_ma M 8) (j_ma M 9) (j_n M) (j_hy M) (j_sl M) (j_sp M) (j_re M) (j_rh M) (j_rs M) (j_kp M) (j_fl M) (j_tn M) (j_tx M) (j_pa M) (j_rn M) (j_rd M) k (by have := hD.1; omega) hin1 y
    rw [hz.1, hz.2.1, hz.2.2.1, hz.2.2.2.1, e4, hz.2.2.2.2.2] at hm
    exact ⟨_, M, rfl, fun sz => lc_Ri (wd := hstW ct (k_ba C 1) (k_ba C 2) (k_old C) (k_many C) (k_r C) ++ (txW ct (k_ba C 3) (k_ba C 4) (k_ba C 5) (k_len C) (k_ch C) (k_te C) (k_lv C) ++ stW ct (k_bd C) (k_tv C))) ⟨rfl, Rel_m (by omega) hR⟩ (List.Perm.refl _) (c_X9_section_a l g ct (k_ba C 0) (k_bd C 0) (k_ba C 1) (k_ba C 3) (snV (k_sn C)) (k_ad C) (k_v C) hD.1 k hk y) (Nat.le_of_ble_eq_true rfl) (Nat.le_of_ble_eq_true rfl) (Nat.le_of_ble_eq_true rfl) (Nat.le_of_ble_eq_true rfl), fun sz => lm_Ri hm (Nat.le_of_ble_eq_true rfl) (Nat.le_of_ble_eq_true rfl) (Nat.le_of_ble_eq_true rfl) (Nat.le_of_ble_eq_true rfl)⟩
  · exact ⟨-1, M, rfl, fun sz => lc_Ri (wd := hstW ct (k_ba C 1) (k_ba C 2) (k_old C) (k_many C) (k_r C) ++ (txW ct (k_ba C 3) (k_ba C 4) (k_ba C 5) (k_len C) (k_ch C) (k_te C) (k_lv C) ++ stW ct (k_bd C) (k_tv C))) ⟨rfl, Rel_m (by omega) hR⟩ (List.Perm.refl _) (c_X9_section_u l g ct (k_ba C 0) (k_bd C 0) (k_ba C 1) (k_ba C 3) (snV (k_sn C)) (k_ad C) (k_v C) hD.1 x y hh) (Nat.le_of_ble_eq_true rfl) (Nat.le_of_ble_eq_true rfl) (Nat.le_of_ble_eq_true rfl) (Nat.le_of_ble_eq_true rfl), fun sz => lm_Ri (c_X10_section_u l g ct (j_ma M 0) (j_ma M 1) (j_ma M 2) (j_ma M 3) (j_ma M 4) (j_ma M 5) (j_ma M 6) (j_ma M 7) (j_ma M 8) (j_ma M 9) (j_n M) (j_hy M) (j_sl M) (j_sp M) (j_re M) (j_rh M) (j_rs M) (j_kp M) (j_fl M) (j_tn M) (j_tx M) (j_pa M) (j_rn M) (j_rd M) x y (fun q => hh (hin0.mp q))) (Nat.le_of_ble_eq_true rfl) (Nat.le_of_ble_eq_true rfl) (Nat.le_of_ble_eq_true rfl) (Nat.le_of_ble_eq_true rfl)⟩

set_option maxHeartbeats 4000000 in
set_option maxRecDepth 100000 in
theorem op_pump (l : Launch) (g : va_G) (ct : Nat → ClassId) {T : Nat} {C : CT} {M : MT} (hR : Rel T C M) (x y : Int32) : ∃ (a : Int32) (M2 : MT), j_ma M2 = j_ma M ∧ (∀ sz, Met l yX9_pump wsX9_pump (zRm 2 45) (va_Pc [.ref (k_ba C 0), .int x, .int y] (zW g ct (CW ct C) sz)) (zEi (S := {u : CT // k_ba u = k_ba C ∧ Rel (T + 48) u M2}) g (fun u => CW ct u.1) a (va_A (CW ct C) sz)) 21 158 (va_A (CW ct C) sz)) ∧ (∀ sz, Met l yX10_pump wsX10_pump (zRm 3 67) (va_Pc [.ref (j_ma M 0), .int x, .int y] (zW g ct (MWd ct M) sz)) (zEi (S := Unit) g (fun _ => MWd ct M2) a (va_A (MWd ct M) sz)) 0 0 (va_A (MWd ct M) sz)) := by
  have hS := hR.1
  have hD := lt_nP hS
  have hin0 := has_in (m := v_nP (k_v C)) (by have := hD.1; omega) hD.2 x
  by_cases hh : ¬ x < 0 ∧ x < nI (v_nP (k_v C))
  · have hin1 := hin0.mpr hh
    obtain ⟨k, hk, rfl⟩ := has_N (by have := hD.1; omega) hh
    have hz := hS.2.2.2.2.2.2.2.2.2.2.2.2.1 k hk
    have h01 := (lt_01 hS).2 k (by have := hD.1; omega)
    have hp := SR_p hS
    have e2 : v_on (k_v C) k = if v_on (k_v C) k = 0 then 0 else 1 := by
      rcases h01 with q | q <;> (rw [q]; rfl)
    have hrb := rb_eq hp.1 (hp.2 k hk).1 (hp.2 k hk).2.1 h01 (drN (v_on (k_v C)) (v_po (k_v C)) (v_lim (k_v C)) k)
    have e3 : (if mrP (j_n M) (mdr (j_n M) k) k then (1 : Int32) else 0) = if rbP (v_on (k_v C)) (v_po (k_v C)) (v_lim (k_v C)) (drN (v_on (k_v C)) (v_po (k_v C)) (v_lim (k_v C)) k) k then 1 else 0 := by
      rw [dr_eq hp.1 hp.2 k (by omega)]
      by_cases q : mrP (j_n M) (drN (v_on (k_v C)) (v_po (k_v C)) (v_lim (k_v C)) k) k
      · rw [if_pos q, if_pos (hrb.mp q)]
      · rw [if_neg q, if_neg (fun z => q (hrb.mpr z))]
    have e5 : (j_n M (84 + 4 * k + 2)).toInt32 = if v_on (k_v C) k = 0 then 0 else 1 := hz.2.2.1.trans e2
    have hm := c_X10_pump_a l g ct (j_ma M 0) (j_ma M 1) (j_ma M 2) (j_ma M 3) (j_ma M 4) (j_ma M 5) (j_ma M 6) (j_ma M 7) (j_ma M 8) (j_ma M 9) (j_n M) (j_hy M) (j_sl M) (j_sp M) (j_re M) (j_rh M) (j_rs M) (j_kp M) (j_fl M) (j_tn M) (j_tx M) (j_pa M) (j_rn M) (j_rd M) k (by have := hD.1; omega) hin1 y
    rw [e3, hz.1, hz.2.1, e5, hz.2.2.2] at hm
    exact ⟨_, M, rfl, fun sz => lc_Ri (wd := hstW ct (k_ba C 1) (k_ba C 2) (k_old C) (k_many C) (k_r C) ++ (txW ct (k_ba C 3) (k_ba C 4) (k_ba C 5) (k_len C) (k_ch C) (k_te C) (k_lv C) ++ stW ct (k_bd C) (k_tv C))) ⟨rfl, Rel_m (by omega) hR⟩ (List.Perm.refl _) (c_X9_pump_a l g ct (k_ba C 0) (k_bd C 0) (k_ba C 1) (k_ba C 3) (snV (k_sn C)) (k_ad C) (k_v C) hD.1 k hk y) (Nat.le_of_ble_eq_true rfl) (Nat.le_of_ble_eq_true rfl) (Nat.le_of_ble_eq_true rfl) (Nat.le_of_ble_eq_true rfl), fun sz => lm_Ri hm (Nat.le_of_ble_eq_true rfl) (Nat.le_of_ble_eq_true rfl) (Nat.le_of_ble_eq_true rfl) (Nat.le_of_ble_eq_true rfl)⟩
  · exact ⟨-1, M, rfl, fun sz => lc_Ri (wd := hstW ct (k_ba C 1) (k_ba C 2) (k_old C) (k_many C) (k_r C) ++ (txW ct (k_ba C 3) (k_ba C 4) (k_ba C 5) (k_len C) (k_ch C) (k_te C) (k_lv C) ++ stW ct (k_bd C) (k_tv C))) ⟨rfl, Rel_m (by omega) hR⟩ (List.Perm.refl _) (c_X9_pump_u l g ct (k_ba C 0) (k_bd C 0) (k_ba C 1) (k_ba C 3) (snV (k_sn C)) (k_ad C) (k_v C) hD.1 x y hh) (Nat.le_of_ble_eq_true rfl) (Nat.le_of_ble_eq_true rfl) (Nat.le_of_ble_eq_true rfl) (Nat.le_of_ble_eq_true rfl), fun sz => lm_Ri (c_X10_pump_u l g ct (j_ma M 0) (j_ma M 1) (j_ma M 2) (j_ma M 3) (j_ma M 4) (j_ma M 5) (j_ma M 6) (j_ma M 7) (j_ma M 8) (j_ma M 9) (j_n M) (j_hy M) (j_sl M) (j_sp M) (j_re M) (j_rh M) (j_rs M) (j_kp M) (j_fl M) (j_tn M) (j_tx M) (j_pa M) (j_rn M) (j_rd M) x y (fun q => hh (hin0.mp q))) (Nat.le_of_ble_eq_true rfl) (Nat.le_of_ble_eq_true rfl) (Nat.le_of_ble_eq_true rfl) (Nat.le_of_ble_eq_true rfl)⟩

set_option maxHeartbeats 4000000 in
set_option maxRecDepth 100000 in
theorem op_level (l : Launch) (g : va_G) (ct : Nat → ClassId) {T : Nat} {C : CT} {M : MT} (hR : Rel T C M) (hT : T < 1000000000) (x : Int32) : ∃ (a : UInt64) (M2 : MT), j_ma M2 = j_ma M ∧ (∀ sz, Met l yX9_level wsX9_level (zRm 4 97) (va_Pc [.ref (k_ba C 0), .int x] (zW g ct (CW ct C) sz)) (zEd (S := {u : CT // k_ba u = k_ba C ∧ Rel (T + 48) u M2}) g (fun u => CW ct u.1) a (va_A (CW ct C) sz)) 21 158 (va_A (CW ct C) sz)) ∧ (∀ sz, Met l yX10_level wsX10_level (zRm 2 41) (va_Pc [.ref (j_ma M 0), .int x] (zW g ct (MWd ct M) sz)) (zEd (S := Unit) g (fun _ => MWd ct M2) a (va_A (MWd ct M) sz)) 0 0 (va_A (MWd ct M) sz)) := by
  have hS := hR.1
  have htd := hS.2.2.2.2.2.2.2.2.2.2.2.2.2.2.1
  have hal := hS.2.2.2.2.2.2.2.2.2.2.2.2.2.1
  have hf := hS.2.2.2.2.2.1
  have hv := hR.2.1
  have ei := inn_eq hS (j_n M 12)
  have e12 : j_n M 12 = v_vo (k_v C) := hS.2.2.2.2.2.2.1.1
  have hm := c_X10_level_a l g ct (j_ma M 0) (j_ma M 1) (j_ma M 2) (j_ma M 3) (j_ma M 4) (j_ma M 5) (j_ma M 6) (j_ma M 7) (j_ma M 8) (j_ma M 9) (j_n M) (j_hy M) (j_sl M) (j_sp M) (j_re M) (j_rh M) (j_rs M) (j_kp M) (j_fl M) (j_tn M) (j_tx M) (j_pa M) (j_rn M) (j_rd M) (v_h (k_v C)) (by omega) hS.2.2.2.2.1.1 (by rw [ei]; exact nn_inn hf.2.1 _) x
  rw [(htd (v_h (k_v C) % 24) (by omega)).1, hal.1, ei, e12] at hm
  exact ⟨_, M, rfl, fun sz => lc_Rd (wd := hstW ct (k_ba C 1) (k_ba C 2) (k_old C) (k_many C) (k_r C) ++ (txW ct (k_ba C 3) (k_ba C 4) (k_ba C 5) (k_len C) (k_ch C) (k_te C) (k_lv C) ++ stW ct (k_bd C) (k_tv C))) ⟨rfl, Rel_m (by omega) hR⟩ (List.Perm.refl _) (c_X9_level_a l g ct (k_ba C 0) (k_bd C 0) (k_ba C 1) (k_ba C 3) (snV (k_sn C)) (k_ad C) (k_v C) (by omega) (fun i hi => (htd i hi).2) hal.2 hf.2.1 x) (Nat.le_of_ble_eq_true rfl) (Nat.le_of_ble_eq_true rfl) (Nat.le_of_ble_eq_true rfl) (Nat.le_of_ble_eq_true rfl), fun sz => lm_Rd hm (Nat.le_of_ble_eq_true rfl) (Nat.le_of_ble_eq_true rfl) (Nat.le_of_ble_eq_true rfl) (Nat.le_of_ble_eq_true rfl)⟩

set_option maxHeartbeats 4000000 in
set_option maxRecDepth 100000 in
theorem op_water (l : Launch) (g : va_G) (ct : Nat → ClassId) {T : Nat} {C : CT} {M : MT} (hR : Rel T C M) (x : Int32) : ∃ (a : Int64) (M2 : MT), j_ma M2 = j_ma M ∧ (∀ sz, Met l yX9_water wsX9_water (zRm 0 0) (va_Pc [.ref (k_ba C 0), .int x] (zW g ct (CW ct C) sz)) (zEl (S := {u : CT // k_ba u = k_ba C ∧ Rel (T + 48) u M2}) g (fun u => CW ct u.1) a (va_A (CW ct C) sz)) 21 158 (va_A (CW ct C) sz)) ∧ (∀ sz, Met l yX10_water wsX10_water (zRm 1 25) (va_Pc [.ref (j_ma M 0), .int x] (zW g ct (MWd ct M) sz)) (zEl (S := Unit) g (fun _ => MWd ct M2) a (va_A (MWd ct M) sz)) 0 0 (va_A (MWd ct M) sz)) := by
  have hS := hR.1
  have hw := hS.2.2.2.2.2.2.1
  have hio : inP x.toInt64 0 5 ↔ ¬ osP x 0 5 := in_os (lo := 0) (hi := 5) (by decide) (by decide)
  by_cases hh : osP x 0 5
  · refine ⟨-2, M, rfl, fun sz => ?_, fun sz => lm_Rl (c_X10_water_u l g ct (j_ma M 0) (j_ma M 1) (j_ma M 2) (j_ma M 3) (j_ma M 4) (j_ma M 5) (j_ma M 6) (j_ma M 7) (j_ma M 8) (j_ma M 9) (j_n M) (j_hy M) (j_sl M) (j_sp M) (j_re M) (j_rh M) (j_rs M) (j_kp M) (j_fl M) (j_tn M) (j_tx M) (j_pa M) (j_rn M) (j_rd M) x (fun q => (hio.mp q) hh)) (Nat.le_of_ble_eq_true rfl) (Nat.le_of_ble_eq_true rfl) (Nat.le_of_ble_eq_true rfl) (Nat.le_of_ble_eq_true rfl)⟩
    have hc := c_X9_water_a l g ct (k_ba C 0) (k_bd C 0) (k_ba C 1) (k_ba C 3) (snV (k_sn C)) (k_ad C) (k_v C) x
    have hne : ∀ j : Nat, j ≤ 5 → ¬ x = nI j := fun j hj q => by
      rw [q] at hh
      have hh : nI j < nI 0 ∨ nI 5 < nI j := hh
      rw [nI_ltI (by omega) (by omega), nI_ltI (by omega) (by omega)] at hh
      omega
    rw [if_neg (show ¬ x = 0 from hne 0 (by omega)), if_neg (show ¬ x = 1 from hne 1 (by omega)), if_neg (show ¬ x = 2 from hne 2 (by omega)), if_neg (show ¬ x = 3 from hne 3 (by omega)), if_neg (show ¬ x = 4 from hne 4 (by omega)), if_neg (show ¬ x = 5 from hne 5 (by omega))] at hc
    exact lc_Rl (wd := hstW ct (k_ba C 1) (k_ba C 2) (k_old C) (k_many C) (k_r C) ++ (txW ct (k_ba C 3) (k_ba C 4) (k_ba C 5) (k_len C) (k_ch C) (k_te C) (k_lv C) ++ stW ct (k_bd C) (k_tv C))) ⟨rfl, Rel_m (by omega) hR⟩ (List.Perm.refl _) hc (Nat.le_of_ble_eq_true rfl) (Nat.le_of_ble_eq_true rfl) (Nat.le_of_ble_eq_true rfl) (Nat.le_of_ble_eq_true rfl)
  · obtain ⟨j, hj, rfl⟩ := nI_of (fun q => hh (Or.inl q))
    have hj5 : j ≤ 5 := by
      have h2 : ¬ nI 5 < nI j := fun q => hh (Or.inr q)
      rw [nI_ltI (by omega) hj] at h2
      omega
    have hj6 : j = 0 ∨ j = 1 ∨ j = 2 ∨ j = 3 ∨ j = 4 ∨ j = 5 := by omega
    rcases hj6 with rfl | rfl | rfl | rfl | rfl | rfl
    · refine ⟨v_vo (k_v C), M, rfl, fun sz => ?_, fun sz => ?_⟩
      · have hc := c_X9_water_a l g ct (k_ba C 0) (k_bd C 0) (k_ba C 1) (k_ba C 3) (snV (k_sn C)) (k_ad C) (k_v C) (nI 0)
        rw [if_pos (by decide)] at hc
        exact lc_Rl (wd := hstW ct (k_ba C 1) (k_ba C 2) (k_old C) (k_many C) (k_r C) ++ (txW ct (k_ba C 3) (k_ba C 4) (k_ba C 5) (k_len C) (k_ch C) (k_te C) (k_lv C) ++ stW ct (k_bd C) (k_tv C))) ⟨rfl, Rel_m (by omega) hR⟩ (List.Perm.refl _) hc (Nat.le_of_ble_eq_true rfl) (Nat.le_of_ble_eq_true rfl) (Nat.le_of_ble_eq_true rfl) (Nat.le_of_ble_eq_true rfl)
      · have hm := c_X10_water_a l g ct (j_ma M 0) (j_ma M 1) (j_ma M 2) (j_ma M 3) (j_ma M 4) (j_ma M 5) (j_ma M 6) (j_ma M 7) (j_ma M 8) (j_ma M 9) (j_n M) (j_hy M) (j_sl M) (j_sp M) (j_re M) (j_rh M) (j_rs M) (j_kp M) (j_fl M) (j_tn M) (j_tx M) (j_pa M) (j_rn M) (j_rd M) 0 (by omega)
        have e1 : j_n M (12 + 0) = v_vo (k_v C) := hw.1
        rw [e1] at hm
        exact lm_Rl hm (Nat.le_of_ble_eq_true rfl) (Nat.le_of_ble_eq_true rfl) (Nat.le_of_ble_eq_true rfl) (Nat.le_of_ble_eq_true rfl)
    · refine ⟨v_fi (k_v C), M, rfl, fun sz => ?_, fun sz => ?_⟩
      · have hc := c_X9_water_a l g ct (k_ba C 0) (k_bd C 0) (k_ba C 1) (k_ba C 3) (snV (k_sn C)) (k_ad C) (k_v C) (nI 1)
        rw [if_neg (by decide), if_pos (by decide)] at hc
        exact lc_Rl (wd := hstW ct (k_ba C 1) (k_ba C 2) (k_old C) (k_many C) (k_r C) ++ (txW ct (k_ba C 3) (k_ba C 4) (k_ba C 5) (k_len C) (k_ch C) (k_te C) (k_lv C) ++ stW ct (k_bd C) (k_tv C))) ⟨rfl, Rel_m (by omega) hR⟩ (List.Perm.refl _) hc (Nat.le_of_ble_eq_true rfl) (Nat.le_of_ble_eq_true rfl) (Nat.le_of_ble_eq_true rfl) (Nat.le_of_ble_eq_true rfl)
      · have hm := c_X10_water_a l g ct (j_ma M 0) (j_ma M 1) (j_ma M 2) (j_ma M 3) (j_ma M 4) (j_ma M 5) (j_ma M 6) (j_ma M 7) (j_ma M 8) (j_ma M 9) (j_n M) (j_hy M) (j_sl M) (j_sp M) (j_re M) (j_rh M) (j_rs M) (j_kp M) (j_fl M) (j_tn M) (j_tx M) (j_pa M) (j_rn M) (j_rd M) 1 (by omega)
        have e1 : j_n M (12 + 1) = v_fi (k_v C) := hw.2.1
        rw [e1] at hm
        exact lm_Rl hm (Nat.le_of_ble_eq_true rfl) (Nat.le_of_ble_eq_true rfl) (Nat.le_of_ble_eq_true rfl) (Nat.le_of_ble_eq_true rfl)
    · refine ⟨v_fo (k_v C), M, rfl, fun sz => ?_, fun sz => ?_⟩
      · have hc := c_X9_water_a l g ct (k_ba C 0) (k_bd C 0) (k_ba C 1) (k_ba C 3) (snV (k_sn C)) (k_ad C) (k_v C) (nI 2)
        rw [if_neg (by decide), if_neg (by decide), if_pos (by decide)] at hc
        exact lc_Rl (wd := hstW ct (k_ba C 1) (k_ba C 2) (k_old C) (k_many C) (k_r C) ++ (txW ct (k_ba C 3) (k_ba C 4) (k_ba C 5) (k_len C) (k_ch C) (k_te C) (k_lv C) ++ stW ct (k_bd C) (k_tv C))) ⟨rfl, Rel_m (by omega) hR⟩ (List.Perm.refl _) hc (Nat.le_of_ble_eq_true rfl) (Nat.le_of_ble_eq_true rfl) (Nat.le_of_ble_eq_true rfl) (Nat.le_of_ble_eq_true rfl)
      · have hm := c_X10_water_a l g ct (j_ma M 0) (j_ma M 1) (j_ma M 2) (j_ma M 3) (j_ma M 4) (j_ma M 5) (j_ma M 6) (j_ma M 7) (j_ma M 8) (j_ma M 9) (j_n M) (j_hy M) (j_sl M) (j_sp M) (j_re M) (j_rh M) (j_rs M) (j_kp M) (j_fl M) (j_tn M) (j_tx M) (j_pa M) (j_rn M) (j_rd M) 2 (by omega)
        have e1 : j_n M (12 + 2) = v_fo (k_v C) := hw.2.2.1
        rw [e1] at hm
        exact lm_Rl hm (Nat.le_of_ble_eq_true rfl) (Nat.le_of_ble_eq_true rfl) (Nat.le_of_ble_eq_true rfl) (Nat.le_of_ble_eq_true rfl)
    · refine ⟨v_fv (k_v C), M, rfl, fun sz => ?_, fun sz => ?_⟩
      · have hc := c_X9_water_a l g ct (k_ba C 0) (k_bd C 0) (k_ba C 1) (k_ba C 3) (snV (k_sn C)) (k_ad C) (k_v C) (nI 3)
        rw [if_neg (by decide), if_neg (by decide), if_neg (by decide), if_pos (by decide)] at hc
        exact lc_Rl (wd := hstW ct (k_ba C 1) (k_ba C 2) (k_old C) (k_many C) (k_r C) ++ (txW ct (k_ba C 3) (k_ba C 4) (k_ba C 5) (k_len C) (k_ch C) (k_te C) (k_lv C) ++ stW ct (k_bd C) (k_tv C))) ⟨rfl, Rel_m (by omega) hR⟩ (List.Perm.refl _) hc (Nat.le_of_ble_eq_true rfl) (Nat.le_of_ble_eq_true rfl) (Nat.le_of_ble_eq_true rfl) (Nat.le_of_ble_eq_true rfl)
      · have hm := c_X10_water_a l g ct (j_ma M 0) (j_ma M 1) (j_ma M 2) (j_ma M 3) (j_ma M 4) (j_ma M 5) (j_ma M 6) (j_ma M 7) (j_ma M 8) (j_ma M 9) (j_n M) (j_hy M) (j_sl M) (j_sp M) (j_re M) (j_rh M) (j_rs M) (j_kp M) (j_fl M) (j_tn M) (j_tx M) (j_pa M) (j_rn M) (j_rd M) 3 (by omega)
        have e1 : j_n M (12 + 3) = v_fv (k_v C) := hw.2.2.2.1
        rw [e1] at hm
        exact lm_Rl hm (Nat.le_of_ble_eq_true rfl) (Nat.le_of_ble_eq_true rfl) (Nat.le_of_ble_eq_true rfl) (Nat.le_of_ble_eq_true rfl)
    · refine ⟨v_br (k_v C), M, rfl, fun sz => ?_, fun sz => ?_⟩
      · have hc := c_X9_water_a l g ct (k_ba C 0) (k_bd C 0) (k_ba C 1) (k_ba C 3) (snV (k_sn C)) (k_ad C) (k_v C) (nI 4)
        rw [if_neg (by decide), if_neg (by decide), if_neg (by decide), if_neg (by decide), if_pos (by decide)] at hc
        exact lc_Rl (wd := hstW ct (k_ba C 1) (k_ba C 2) (k_old C) (k_many C) (k_r C) ++ (txW ct (k_ba C 3) (k_ba C 4) (k_ba C 5) (k_len C) (k_ch C) (k_te C) (k_lv C) ++ stW ct (k_bd C) (k_tv C))) ⟨rfl, Rel_m (by omega) hR⟩ (List.Perm.refl _) hc (Nat.le_of_ble_eq_true rfl) (Nat.le_of_ble_eq_true rfl) (Nat.le_of_ble_eq_true rfl) (Nat.le_of_ble_eq_true rfl)
      · have hm := c_X10_water_a l g ct (j_ma M 0) (j_ma M 1) (j_ma M 2) (j_ma M 3) (j_ma M 4) (j_ma M 5) (j_ma M 6) (j_ma M 7) (j_ma M 8) (j_ma M 9) (j_n M) (j_hy M) (j_sl M) (j_sp M) (j_re M) (j_rh M) (j_rs M) (j_kp M) (j_fl M) (j_tn M) (j_tx M) (j_pa M) (j_rn M) (j_rd M) 4 (by omega)
        have e1 : j_n M (12 + 4) = v_br (k_v C) := hw.2.2.2.2.1
        rw [e1] at hm
        exact lm_Rl hm (Nat.le_of_ble_eq_true rfl) (Nat.le_of_ble_eq_true rfl) (Nat.le_of_ble_eq_true rfl) (Nat.le_of_ble_eq_true rfl)
    · refine ⟨v_pu (k_v C), M, rfl, fun sz => ?_, fun sz => ?_⟩
      · have hc := c_X9_water_a l g ct (k_ba C 0) (k_bd C 0) (k_ba C 1) (k_ba C 3) (snV (k_sn C)) (k_ad C) (k_v C) (nI 5)
        rw [if_neg (by decide), if_neg (by decide), if_neg (by decide), if_neg (by decide), if_neg (by decide), if_pos (by decide)] at hc
        exact lc_Rl (wd := hstW ct (k_ba C 1) (k_ba C 2) (k_old C) (k_many C) (k_r C) ++ (txW ct (k_ba C 3) (k_ba C 4) (k_ba C 5) (k_len C) (k_ch C) (k_te C) (k_lv C) ++ stW ct (k_bd C) (k_tv C))) ⟨rfl, Rel_m (by omega) hR⟩ (List.Perm.refl _) hc (Nat.le_of_ble_eq_true rfl) (Nat.le_of_ble_eq_true rfl) (Nat.le_of_ble_eq_true rfl) (Nat.le_of_ble_eq_true rfl)
      · have hm := c_X10_water_a l g ct (j_ma M 0) (j_ma M 1) (j_ma M 2) (j_ma M 3) (j_ma M 4) (j_ma M 5) (j_ma M 6) (j_ma M 7) (j_ma M 8) (j_ma M 9) (j_n M) (j_hy M) (j_sl M) (j_sp M) (j_re M) (j_rh M) (j_rs M) (j_kp M) (j_fl M) (j_tn M) (j_tx M) (j_pa M) (j_rn M) (j_rd M) 5 (by omega)
        have e1 : j_n M (12 + 5) = v_pu (k_v C) := hw.2.2.2.2.2
        rw [e1] at hm
        exact lm_Rl hm (Nat.le_of_ble_eq_true rfl) (Nat.le_of_ble_eq_true rfl) (Nat.le_of_ble_eq_true rfl) (Nat.le_of_ble_eq_true rfl)

set_option maxHeartbeats 4000000 in
set_option maxRecDepth 100000 in
theorem op_tide (l : Launch) (g : va_G) (ct : Nat → ClassId) {T : Nat} {C : CT} {M : MT} (hR : Rel T C M) (x : Int32) : ∃ (a : Int64) (M2 : MT), j_ma M2 = j_ma M ∧ (∀ sz, Met l yX9_tide wsX9_tide (zRm 1 20) (va_Pc [.ref (k_ba C 0), .int x] (zW g ct (CW ct C) sz)) (zEl (S := {u : CT // k_ba u = k_ba C ∧ Rel (T + 48) u M2}) g (fun u => CW ct u.1) a (va_A (CW ct C) sz)) 21 158 (va_A (CW ct C) sz)) ∧ (∀ sz, Met l yX10_tide wsX10_tide (zRm 2 46) (va_Pc [.ref (j_ma M 0), .int x] (zW g ct (MWd ct M) sz)) (zEl (S := Unit) g (fun _ => MWd ct M2) a (va_A (MWd ct M) sz)) 0 0 (va_A (MWd ct M) sz)) := by
  have hS := hR.1
  have htd := hS.2.2.2.2.2.2.2.2.2.2.2.2.2.2.1
  by_cases hh : hdP x
  · obtain ⟨k, hk, rfl⟩ := hd_N hh
    have hm := c_X10_tide_a l g ct (j_ma M 0) (j_ma M 1) (j_ma M 2) (j_ma M 3) (j_ma M 4) (j_ma M 5) (j_ma M 6) (j_ma M 7) (j_ma M 8) (j_ma M 9) (j_n M) (j_hy M) (j_sl M) (j_sp M) (j_re M) (j_rh M) (j_rs M) (j_kp M) (j_fl M) (j_tn M) (j_tx M) (j_pa M) (j_rn M) (j_rd M) k hk (by rw [(htd k hk).1]; exact ky_self (htd k hk).2)
    have e1 : (j_re M (1 + k)).toInt64 = v_td (k_v C) k := by rw [(htd k hk).1]; rfl
    rw [e1] at hm
    exact ⟨_, M, rfl, fun sz => lc_Rl (wd := hstW ct (k_ba C 1) (k_ba C 2) (k_old C) (k_many C) (k_r C) ++ (txW ct (k_ba C 3) (k_ba C 4) (k_ba C 5) (k_len C) (k_ch C) (k_te C) (k_lv C) ++ stW ct (k_bd C) (k_tv C))) ⟨rfl, Rel_m (by omega) hR⟩ (List.Perm.refl _) (c_X9_tide_a l g ct (k_ba C 0) (k_bd C 0) (k_ba C 1) (k_ba C 3) (snV (k_sn C)) (k_ad C) (k_v C) k hk) (Nat.le_of_ble_eq_true rfl) (Nat.le_of_ble_eq_true rfl) (Nat.le_of_ble_eq_true rfl) (Nat.le_of_ble_eq_true rfl), fun sz => lm_Rl hm (Nat.le_of_ble_eq_true rfl) (Nat.le_of_ble_eq_true rfl) (Nat.le_of_ble_eq_true rfl) (Nat.le_of_ble_eq_true rfl)⟩
  · exact ⟨-2, M, rfl, fun sz => lc_Rl (wd := hstW ct (k_ba C 1) (k_ba C 2) (k_old C) (k_many C) (k_r C) ++ (txW ct (k_ba C 3) (k_ba C 4) (k_ba C 5) (k_len C) (k_ch C) (k_te C) (k_lv C) ++ stW ct (k_bd C) (k_tv C))) ⟨rfl, Rel_m (by omega) hR⟩ (List.Perm.refl _) (c_X9_tide_u l g ct (k_ba C 0) (k_bd C 0) (k_ba C 1) (k_ba C 3) (snV (k_sn C)) (k_ad C) (k_v C) x hh) (Nat.le_of_ble_eq_true rfl) (Nat.le_of_ble_eq_true rfl) (Nat.le_of_ble_eq_true rfl) (Nat.le_of_ble_eq_true rfl), fun sz => lm_Rl (c_X10_tide_u l g ct (j_ma M 0) (j_ma M 1) (j_ma M 2) (j_ma M 3) (j_ma M 4) (j_ma M 5) (j_ma M 6) (j_ma M 7) (j_ma M 8) (j_ma M 9) (j_n M) (j_hy M) (j_sl M) (j_sp M) (j_re M) (j_rh M) (j_rs M) (j_kp M) (j_fl M) (j_tn M) (j_tx M) (j_pa M) (j_rn M) (j_rd M) x (fun q => hh ((hd_in x).mp q))) (Nat.le_of_ble_eq_true rfl) (Nat.le_of_ble_eq_true rfl) (Nat.le_of_ble_eq_true rfl) (Nat.le_of_ble_eq_true rfl)⟩

set_option maxHeartbeats 4000000 in
set_option maxRecDepth 100000 in
theorem op_count (l : Launch) (g : va_G) (ct : Nat → ClassId) {T : Nat} {C : CT} {M : MT} (hR : Rel T C M) (x : Int32) : ∃ (a : Int32) (M2 : MT), j_ma M2 = j_ma M ∧ (∀ sz, Met l yX9_count wsX9_count (zRm 2 42) (va_Pc [.ref (k_ba C 0), .int x] (zW g ct (CW ct C) sz)) (zEi (S := {u : CT // k_ba u = k_ba C ∧ Rel (T + 48) u M2}) g (fun u => CW ct u.1) a (va_A (CW ct C) sz)) 21 158 (va_A (CW ct C) sz)) ∧ (∀ sz, Met l yX10_count wsX10_count (zRm 3 66) (va_Pc [.ref (j_ma M 0), .int x] (zW g ct (MWd ct M) sz)) (zEi (S := Unit) g (fun _ => MWd ct M2) a (va_A (MWd ct M) sz)) 0 0 (va_A (MWd ct M) sz)) := by
  have hS := hR.1
  have hD := lt_nS hS
  have hE := lt_nD hS
  have e := hS.2.2.2.2.1
  have f := hS.2.2.2.2.2.1
  have e0 : (j_n M 0).toInt32 = nI (v_h (k_v C)) := by rw [e.1, lN_i]
  have e1 : (j_n M 1).toInt32 = v_od (k_v C) := by rw [e.2.1]; simp
  have e2 := mv_eqI hS
  have e3 := st_eq hS 2
  have e4 := st_eq hS 4
  have e5 := wc_eq hS
  have e6 := wa_eq hS
  have e9 : (j_n M 5).toInt32 = v_ar (k_v C) := by rw [f.1]; simp
  have e10 : (j_n M 6).toInt32 = v_lim (k_v C) := by rw [f.2.2.1]; simp
  have e11 : (j_n M 7).toInt32 = nI (v_nS (k_v C)) := by rw [hD.2, lN_i]
  have e12 : (j_n M 8).toInt32 = nI (v_nD (k_v C)) := by rw [hE.2, lN_i]
  have e13 : (j_n M 9).toInt32 = nI (v_nT (k_v C)) := by rw [(lt_nT hS).2, lN_i]
  have e14 : (j_n M 10).toInt32 = nI (v_nP (k_v C)) := by rw [(lt_nP hS).2, lN_i]
  have e15 := hR.2.2.1.2.2
  have e16 := hR.2.2.2.2.2.2.1
  have hm := c_X10_count_a l g ct (j_ma M 0) (j_ma M 1) (j_ma M 2) (j_ma M 3) (j_ma M 4) (j_ma M 5) (j_ma M 6) (j_ma M 7) (j_ma M 8) (j_ma M 9) (j_n M) (j_hy M) (j_sl M) (j_sp M) (j_re M) (j_rh M) (j_rs M) (j_kp M) (j_fl M) (j_tn M) (j_tx M) (j_pa M) (j_rn M) (j_rd M) (v_nS (k_v C)) hD.1 hD.2 (v_nD (k_v C)) hE.1 hE.2 x
  rw [e0, e1, e2, e3, e4, e5, e6, e.2.2.2.2.1, e.2.2.2.2.2, e9, e10, e11, e12, e13, e14, f.2.2.2] at hm
  have hc := fun sz => lc_Ri (K := fun u => k_ba u = k_ba C ∧ Rel (T + 48) u M) (sz := sz) (rm2 := zRm 2 42) (wd := stW ct (k_bd C) (k_tv C)) ⟨rfl, Rel_m (by omega) hR⟩ (List.Perm.refl _) (c_X9_count_a l g ct (k_ba C 0) (k_bd C 0) (k_ba C 1) (k_ba C 3) (snV (k_sn C)) (k_ad C) (k_v C) (k_ba C 2) (k_old C) (k_many C) (k_r C) (k_ba C 4) (k_ba C 5) (k_len C) (k_ch C) (k_te C) (k_lv C) hD.1 hE.1 x) (Nat.le_of_ble_eq_true rfl) (Nat.le_of_ble_eq_true rfl) (Nat.le_of_ble_eq_true rfl) (Nat.le_of_ble_eq_true rfl)
  refine ⟨_, M, rfl, fun sz => hc sz, fun sz => ?_⟩
  rw [← e15, ← e16]
  exact lm_Ri hm (Nat.le_of_ble_eq_true rfl) (Nat.le_of_ble_eq_true rfl) (Nat.le_of_ble_eq_true rfl) (Nat.le_of_ble_eq_true rfl)

theorem pm_t {f0 : Nat × va_E} {S Hh X B : va_W} : List.Perm (f0 :: (S ++ (Hh ++ (X ++ B)))) ((f0 :: X) ++ (S ++ (Hh ++ B))) := by
  refine List.Perm.cons f0 ?_
  have h1 : S ++ (Hh ++ (X ++ B)) = ((S ++ Hh) ++ X) ++ B := by simp only [List.append_assoc]
  have h2 : X ++ (S ++ (Hh ++ B)) = (X ++ (S ++ Hh)) ++ B := by simp only [List.append_assoc]
  show List.Perm (S ++ (Hh ++ (X ++ B))) (X ++ (S ++ (Hh ++ B)))
  rw [h1, h2]
  exact List.Perm.append_right B List.perm_append_comm

set_option maxHeartbeats 4000000 in
set_option maxRecDepth 100000 in
theorem op_type (l : Launch) (g : va_G) (ct : Nat → ClassId) {T : Nat} {C : CT} {M : MT} (hR : Rel T C M) (y : Int32) (hvy : vp_nar .char y = y) : ∃ (a : Int32) (M2 : MT), j_ma M2 = j_ma M ∧ (∀ sz, Met l yX9_type wsX9_type (zRm 1 21) (va_Pc [.ref (k_ba C 0), .int y] (zW g ct (CW ct C) sz)) (zEi (S := {u : CT // k_ba u = k_ba C ∧ Rel (T + 48) u M2}) g (fun u => CW ct u.1) a (va_A (CW ct C) sz)) 21 158 (va_A (CW ct C) sz)) ∧ (∀ sz, Met l yX10_type wsX10_type (zRm 0 0) (va_Pc [.ref (j_ma M 0), .int y] (zW g ct (MWd ct M) sz)) (zEi (S := Unit) g (fun _ => MWd ct M2) a (va_A (MWd ct M) sz)) 0 0 (va_A (MWd ct M) sz)) := by
  have ht := hR.2.2.2.2.2
  by_cases h1 : 60 ≤ k_len C
  · exact ⟨-3, M, rfl, fun sz => lc_Ri (wd := stW ct (k_ad C) (k_v C) ++ (hstW ct (k_ba C 1) (k_ba C 2) (k_old C) (k_many C) (k_r C) ++ stW ct (k_bd C) (k_tv C))) ⟨rfl, Rel_m (by omega) hR⟩ pm_t (c_X9_type_a l g ct (k_ba C 0) (k_bd C 0) (k_ba C 1) (k_ba C 3) (snV (k_sn C)) (k_ad C) (k_v C) (k_ba C 4) (k_ba C 5) (k_len C) (k_ch C) (k_te C) (k_lv C) ht.1 h1 y) (Nat.le_of_ble_eq_true rfl) (Nat.le_of_ble_eq_true rfl) (Nat.le_of_ble_eq_true rfl) (Nat.le_of_ble_eq_true rfl), fun sz => lm_Ri (c_X10_type_a l g ct (j_ma M 0) (j_ma M 1) (j_ma M 2) (j_ma M 3) (j_ma M 4) (j_ma M 5) (j_ma M 6) (j_ma M 7) (j_ma M 8) (j_ma M 9) (j_n M) (j_hy M) (j_sl M) (j_sp M) (j_re M) (j_rh M) (j_rs M) (j_kp M) (j_fl M) (j_tn M) (j_tx M) (j_pa M) (j_rn M) (j_rd M) (by omega) (by omega) y) (Nat.le_of_ble_eq_true rfl) (Nat.le_of_ble_eq_true rfl) (Nat.le_of_ble_eq_true rfl) (Nat.le_of_ble_eq_true rfl)⟩
  · refine ⟨nI (k_len C + 1), ((j_ma M, j_n M, j_hy M, j_sl M, j_sp M, j_re M, j_rh M, j_rs M, j_kp M, j_fl M, j_tn M + 1, upd (j_tx M) (j_tn M) y, j_pa M, j_rn M, j_rd M) : MT), rfl, fun sz => ?_, fun sz => ?_⟩
    · refine lc_Wi (C2 := ((k_ba C, k_ad C, k_bd C, k_sn C, k_v C, k_tv C, k_old C, k_many C, k_r C, k_len C + 1, upd (k_ch C) (k_len C) y, k_te C, k_lv C) : CT)) (wd := stW ct (k_ad C) (k_v C) ++ (hstW ct (k_ba C 1) (k_ba C 2) (k_old C) (k_many C) (k_r C) ++ stW ct (k_bd C) (k_tv C))) ⟨rfl, Rel_m (by omega : T ≤ T + 48) ?_⟩ rfl rfl pm_t pm_t (c_X9_type_b l g ct sz (k_ba C 0) (k_bd C 0) (k_ba C 1) (k_ba C 3) (snV (k_sn C)) (k_ad C) (k_v C) (k_ba C 4) (k_ba C 5) (k_len C) (k_ch C) (k_te C) (k_lv C) ht.1 h1 y hvy) (Nat.le_of_ble_eq_true rfl) (Nat.le_of_ble_eq_true rfl) (Nat.le_of_ble_eq_true rfl) (Nat.le_of_ble_eq_true rfl)
      refine ⟨hR.1, hR.2.1, hR.2.2.1, hR.2.2.2.1, hR.2.2.2.2.1, ?_⟩
      refine ⟨by show k_len C + 1 ≤ 60; omega, by show j_tn M + 1 = k_len C + 1; omega, fun i hi => ?_⟩
      have hi : i < k_len C + 1 := hi
      show upd (j_tx M) (j_tn M) y i = upd (k_ch C) (k_len C) y i
      rw [ht.2.1]
      by_cases q : i = k_len C
      · rw [q, pk_us, pk_us]
      · rw [pk_un q, pk_un q]
        exact ht.2.2 i (by omega)
    · have hm := c_X10_type_b l g ct sz (j_ma M 0) (j_ma M 1) (j_ma M 2) (j_ma M 3) (j_ma M 4) (j_ma M 5) (j_ma M 6) (j_ma M 7) (j_ma M 8) (j_ma M 9) (j_n M) (j_hy M) (j_sl M) (j_sp M) (j_re M) (j_rh M) (j_rs M) (j_kp M) (j_fl M) (j_tn M) (j_tx M) (j_pa M) (j_rn M) (j_rd M) (by omega) (by omega) y hvy
      have e1 : j_tn M = k_len C := ht.2.1
      have e2 : nI (k_len C + 1) = nI (j_tn M + 1) := by rw [e1]
      rw [e2]
      exact lm_Wi (M2 := ((j_ma M, j_n M, j_hy M, j_sl M, j_sp M, j_re M, j_rh M, j_rs M, j_kp M, j_fl M, j_tn M + 1, upd (j_tx M) (j_tn M) y, j_pa M, j_rn M, j_rd M) : MT)) hm (Nat.le_of_ble_eq_true rfl) (Nat.le_of_ble_eq_true rfl) (Nat.le_of_ble_eq_true rfl) (Nat.le_of_ble_eq_true rfl)

set_option maxHeartbeats 4000000 in
set_option maxRecDepth 100000 in
theorem op_clearText (l : Launch) (g : va_G) (ct : Nat → ClassId) {T : Nat} {C : CT} {M : MT} (hR : Rel T C M)  : ∃ (a : Int32) (M2 : MT), j_ma M2 = j_ma M ∧ (∀ sz, Met l yX9_clearText wsX9_clearText (zRm 1 21) (va_Pc [.ref (k_ba C 0)] (zW g ct (CW ct C) sz)) (zEi (S := {u : CT // k_ba u = k_ba C ∧ Rel (T + 48) u M2}) g (fun u => CW ct u.1) a (va_A (CW ct C) sz)) 21 158 (va_A (CW ct C) sz)) ∧ (∀ sz, Met l yX10_clearText wsX10_clearText (zRm 0 0) (va_Pc [.ref (j_ma M 0)] (zW g ct (MWd ct M) sz)) (zEi (S := Unit) g (fun _ => MWd ct M2) a (va_A (MWd ct M) sz)) 0 0 (va_A (MWd ct M) sz)) := by
  have ht := hR.2.2.2.2.2
  refine ⟨nI (k_len C), ((j_ma M, j_n M, j_hy M, j_sl M, j_sp M, j_re M, j_rh M, j_rs M, j_kp M, j_fl M, 0, j_tx M, j_pa M, j_rn M, j_rd M) : MT), rfl, fun sz => ?_, fun sz => ?_⟩
  · refine lc_Wi (C2 := ((k_ba C, k_ad C, k_bd C, k_sn C, k_v C, k_tv C, k_old C, k_many C, k_r C, 0, k_ch C, k_te C, k_lv C) : CT)) (wd := stW ct (k_ad C) (k_v C) ++ (hstW ct (k_ba C 1) (k_ba C 2) (k_old C) (k_many C) (k_r C) ++ stW ct (k_bd C) (k_tv C))) ⟨rfl, Rel_m (by omega : T ≤ T + 48) ?_⟩ rfl rfl pm_t pm_t (c_X9_clearText_b l g ct sz (k_ba C 0) (k_bd C 0) (k_ba C 1) (k_ba C 3) (snV (k_sn C)) (k_ad C) (k_v C) (k_ba C 4) (k_ba C 5) (k_len C) (k_ch C) (k_te C) (k_lv C)) (Nat.le_of_ble_eq_true rfl) (Nat.le_of_ble_eq_true rfl) (Nat.le_of_ble_eq_true rfl) (Nat.le_of_ble_eq_true rfl)
    refine ⟨hR.1, hR.2.1, hR.2.2.1, hR.2.2.2.1, hR.2.2.2.2.1, ?_⟩
    exact ⟨Nat.zero_le _, rfl, fun i hi => absurd hi (Nat.not_lt_zero i)⟩
  · have hm := c_X10_clearText_b l g ct sz (j_ma M 0) (j_ma M 1) (j_ma M 2) (j_ma M 3) (j_ma M 4) (j_ma M 5) (j_ma M 6) (j_ma M 7) (j_ma M 8) (j_ma M 9) (j_n M) (j_hy M) (j_sl M) (j_sp M) (j_re M) (j_rh M) (j_rs M) (j_kp M) (j_fl M) (j_tn M) (j_tx M) (j_pa M) (j_rn M) (j_rd M)
    rw [show nI (k_len C) = nI (j_tn M) by rw [ht.2.1]]
    exact lm_Wi (M2 := ((j_ma M, j_n M, j_hy M, j_sl M, j_sp M, j_re M, j_rh M, j_rs M, j_kp M, j_fl M, 0, j_tx M, j_pa M, j_rn M, j_rd M) : MT)) hm (Nat.le_of_ble_eq_true rfl) (Nat.le_of_ble_eq_true rfl) (Nat.le_of_ble_eq_true rfl) (Nat.le_of_ble_eq_true rfl)
