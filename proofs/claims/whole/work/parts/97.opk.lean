theorem pm_k {A U B K : va_W} : List.Perm ((A ++ U) ++ (B ++ K)) ((A ++ B) ++ (U ++ K)) := by
  rw [List.append_assoc, List.append_assoc]
  exact List.Perm.append_left A (List.perm_append_comm_assoc U B K)
theorem pm_r {A U B K : va_W} : List.Perm ((A ++ B) ++ (U ++ K)) (((A ++ U) ++ K) ++ B) := by
  have h1 : ((A ++ U) ++ K) ++ B = A ++ ((U ++ K) ++ B) := by simp only [List.append_assoc]
  rw [h1, List.append_assoc]
  exact List.Perm.append_left A List.perm_append_comm
theorem cp0_at {α : Type} (d f : Nat → α) {k j : Nat} (h : j < k) : cp0 d f k j = f j := if_pos h

set_option maxHeartbeats 4000000 in
set_option maxRecDepth 100000 in
theorem op_undo (l : Launch) (g : va_G) (ct : Nat → ClassId) {T : Nat} {C : CT} {M : MT} (hR : Rel T C M)  : ∃ (a : Int32) (M2 : MT), j_ma M2 = j_ma M ∧ (∀ sz, Met l yX9_undo wsX9_undo (zRm 4 94) (va_Pc [.ref (k_ba C 0)] (zW g ct (CW ct C) sz)) (zEi (S := {u : CT // k_ba u = k_ba C ∧ Rel (T + 48) u M2}) g (fun u => CW ct u.1) a (va_A (CW ct C) sz)) 21 158 (va_A (CW ct C) sz)) ∧ (∀ sz, Met l yX10_undo wsX10_undo (zRm 0 0) (va_Pc [.ref (j_ma M 0)] (zW g ct (MWd ct M) sz)) (zEi (S := Unit) g (fun _ => MWd ct M2) a (va_A (MWd ct M) sz)) 0 0 (va_A (MWd ct M) sz)) := by
  have h0 := hR.2.2.1
  by_cases h1 : k_many C = 0
  · exact ⟨-5, M, rfl, fun sz => lc_Ri (wd := txW ct (k_ba C 3) (k_ba C 4) (k_ba C 5) (k_len C) (k_ch C) (k_te C) (k_lv C) ++ stW ct (k_bd C) (k_tv C)) ⟨rfl, Rel_m (by omega) hR⟩ (List.Perm.refl _) (c_X9_undo_a l g ct (k_ba C 0) (k_bd C 0) (k_ba C 1) (k_ba C 3) (snV (k_sn C)) (k_ad C) (k_v C) (k_ba C 2) (k_old C) (k_many C) (k_r C) h1) (Nat.le_of_ble_eq_true rfl) (Nat.le_of_ble_eq_true rfl) (Nat.le_of_ble_eq_true rfl) (Nat.le_of_ble_eq_true rfl), fun sz => lm_Ri (c_X10_undo_a l g ct (j_ma M 0) (j_ma M 1) (j_ma M 2) (j_ma M 3) (j_ma M 4) (j_ma M 5) (j_ma M 6) (j_ma M 7) (j_ma M 8) (j_ma M 9) (j_n M) (j_hy M) (j_sl M) (j_sp M) (j_re M) (j_rh M) (j_rs M) (j_kp M) (j_fl M) (j_tn M) (j_tx M) (j_pa M) (j_rn M) (j_rd M) (by have := h0.2.2; omega)) (Nat.le_of_ble_eq_true rfl) (Nat.le_of_ble_eq_true rfl) (Nat.le_of_ble_eq_true rfl) (Nat.le_of_ble_eq_true rfl)⟩
  · obtain ⟨q, hq1, hq2, hq3⟩ := hR.2.2.2.1 (k_many C - 1) (by omega)
    have hrw : k_r C ((k_old C + k_many C - 1) % 5) = some q := by rw [show k_old C + k_many C - 1 = k_old C + (k_many C - 1) by omega]; exact hq1
    refine ⟨nI (k_many C - 1), (j_ma M, cp0 (j_n M) (fun j => j_hy M (108 * (k_many C - 1) + j)) 108, j_hy M, j_sl M, j_sp M, cp0 (j_re M) (fun j => j_rh M (33 * (k_many C - 1) + j)) 33, j_rh M, j_rs M, k_many C - 1, j_fl M, j_tn M, j_tx M, j_pa M, j_rn M, j_rd M), rfl, fun sz => ?_, fun sz => ?_⟩
    · refine z_consi (c_X9_undo_b l g ct sz (k_ba C 0) (k_bd C 0) (k_ba C 1) (k_ba C 3) (snV (k_sn C)) (k_ad C) (k_v C) (k_ba C 2) (k_old C) (k_many C) (k_r C) q h0.1 h0.2.1 (by omega) hrw (lt_01 hq2)) (pm_b (B := txW ct (k_ba C 3) (k_ba C 4) (k_ba C 5) (k_len C) (k_ch C) (k_te C) (k_lv C) ++ stW ct (k_bd C) (k_tv C)) (List.Perm.refl _)) (fun _ => ⟨⟨((k_ba C, k_ad C, k_bd C, k_sn C, q.2, k_tv C, k_old C, k_many C - 1, k_r C, k_len C, k_ch C, k_te C, k_lv C) : CT), rfl, Rel_m (by omega : T ≤ T + 48) ⟨SR_c hq2 (fun j hj => cp0_at (j_n M) (fun j => j_hy M (108 * (k_many C - 1) + j)) hj) (fun j hj => cp0_at (j_re M) (fun j => j_rh M (33 * (k_many C - 1) + j)) hj), hq3, ⟨h0.1, (by have := h0.2.1; show k_many C - 1 ≤ 5; omega), rfl⟩, fun i hi => hR.2.2.2.1 i (by have hi : i < k_many C - 1 := hi; omega), hR.2.2.2.2.1, hR.2.2.2.2.2⟩⟩, ?_⟩) (Nat.le_of_ble_eq_true rfl) (Nat.le_of_ble_eq_true rfl) (Nat.le_of_ble_eq_true rfl) (Nat.le_of_ble_eq_true rfl) (Nat.zero_le _) (Nat.zero_le _)
      exact (pm_b (X := XW ct ((k_ba C, k_ad C, k_bd C, k_sn C, q.2, k_tv C, k_old C, k_many C - 1, k_r C, k_len C, k_ch C, k_te C, k_lv C) : CT)) (K1 := bkW ct (k_sn C)) (K2 := bank ct (k_r C)) (B := txW ct (k_ba C 3) (k_ba C 4) (k_ba C 5) (k_len C) (k_ch C) (k_te C) (k_lv C) ++ stW ct (k_bd C) (k_tv C)) (List.Perm.refl _)).symm
    · have hm := c_X10_undo_b l g ct sz (j_ma M 0) (j_ma M 1) (j_ma M 2) (j_ma M 3) (j_ma M 4) (j_ma M 5) (j_ma M 6) (j_ma M 7) (j_ma M 8) (j_ma M 9) (j_n M) (j_hy M) (j_sl M) (j_sp M) (j_re M) (j_rh M) (j_rs M) (k_many C - 1) (j_fl M) (j_tn M) (j_tx M) (j_pa M) (j_rn M) (j_rd M) (by have := h0.2.1; omega)
      rw [show k_many C - 1 + 1 = j_kp M by have := h0.2.2; omega] at hm
      exact lm_Wi hm (Nat.le_of_ble_eq_true rfl) (Nat.le_of_ble_eq_true rfl) (Nat.le_of_ble_eq_true rfl) (Nat.le_of_ble_eq_true rfl)

set_option maxHeartbeats 4000000 in
set_option maxRecDepth 100000 in
theorem op_keep (l : Launch) (g : va_G) (ct : Nat → ClassId) {T : Nat} {C : CT} {M : MT} (hR : Rel T C M)  : ∃ (a : Int32) (M2 : MT), j_ma M2 = j_ma M ∧ (∀ sz, Met l yX9_keep wsX9_keep (zRc 3 21 158 72) (va_Pc [.ref (k_ba C 0)] (zW g ct (CW ct C) sz)) (zEi (S := {u : CT // k_ba u = k_ba C ∧ Rel (T + 48) u M2}) g (fun u => CW ct u.1) a (va_A (CW ct C) sz)) 21 158 (va_A (CW ct C) sz)) ∧ (∀ sz, Met l yX10_keep wsX10_keep (zRm 1 21) (va_Pc [.ref (j_ma M 0)] (zW g ct (MWd ct M) sz)) (zEi (S := Unit) g (fun _ => MWd ct M2) a (va_A (MWd ct M) sz)) 0 0 (va_A (MWd ct M) sz)) := by
  obtain ⟨ba, ad, bd, sn, v, tv, old, many, r, len, ch, te, lv⟩ := C
  have hS : SR v (j_n M) (j_re M) := hR.1
  refine ⟨nI (v_h v), (j_ma M, j_n M, j_hy M, cp0 (j_sl M) (j_n M) 108, j_sp M, j_re M, j_rh M, cp0 (j_rs M) (j_re M) 33, j_kp M, 1, j_tn M, j_tx M, j_pa M, j_rn M, j_rd M), rfl, fun sz => ?_, fun sz => ?_⟩
  · rcases hR.2.2.2.2.1 with hs | ⟨q, hs1, hs2, hs3, hs4⟩
    · have hs0 : sn = none := hs.1
      subst hs0
      refine z_consi (wr := (hstW ct (ba 1) (ba 2) old many r ++ (txW ct (ba 3) (ba 4) (ba 5) len ch te lv ++ stW ct bd tv)) ++ bank ct r) (c_X9_keep_n l g ct sz (ba 0) (bd 0) (ba 1) (ba 3) ad v (lt_01 hS)) ?_ (fun u => ⟨⟨((ba, ad, bd, some (u, v), v, tv, old, many, r, len, ch, te, lv) : CT), rfl, Rel_m (by omega : T ≤ T + 48) ⟨hR.1, hR.2.1, hR.2.2.1, hR.2.2.2.1, Or.inr ⟨(u, v), rfl, rfl, SR_c hR.1 (fun j hj => cp0_at _ _ hj) (fun j hj => cp0_at _ _ hj), hR.2.1⟩, hR.2.2.2.2.2⟩⟩, ?_⟩) (Nat.le_of_ble_eq_true rfl) (Nat.le_of_ble_eq_true rfl) (Nat.le_of_ble_eq_true rfl) (Nat.le_of_ble_eq_true rfl) (Nat.le_refl _) (Nat.le_refl _)
      · show List.Perm (((zO (ba 0) 8 [.ref (ad 0), .ref (bd 0), .ref (ba 1), .ref (ba 3), .null] :: stW ct ad v) ++ (hstW ct (ba 1) (ba 2) old many r ++ (txW ct (ba 3) (ba 4) (ba 5) len ch te lv ++ stW ct bd tv))) ++ ([] ++ bank ct r)) ((zO (ba 0) 8 [.ref (ad 0), .ref (bd 0), .ref (ba 1), .ref (ba 3), .null] :: stW ct ad v) ++ ((hstW ct (ba 1) (ba 2) old many r ++ (txW ct (ba 3) (ba 4) (ba 5) len ch te lv ++ stW ct bd tv)) ++ bank ct r))
        rw [List.nil_append, List.append_assoc]
      · exact pm_k (A := (zO (ba 0) 8 [.ref (ad 0), .ref (bd 0), .ref (ba 1), .ref (ba 3), .ref (u 0)] :: stW ct ad v)) (U := stW ct u v) (B := (hstW ct (ba 1) (ba 2) old many r ++ (txW ct (ba 3) (ba 4) (ba 5) len ch te lv ++ stW ct bd tv))) (K := bank ct r)
    · have hs0 : sn = some q := hs1
      subst hs0
      refine z_consi (wr := (hstW ct (ba 1) (ba 2) old many r ++ (txW ct (ba 3) (ba 4) (ba 5) len ch te lv ++ stW ct bd tv)) ++ bank ct r) (c_X9_keep_s l g ct sz (ba 0) (bd 0) (ba 1) (ba 3) ad v q.1 q.2 (lt_01 hS)) ?_ (fun _ => ⟨⟨((ba, ad, bd, some (q.1, v), v, tv, old, many, r, len, ch, te, lv) : CT), rfl, Rel_m (by omega : T ≤ T + 48) ⟨hR.1, hR.2.1, hR.2.2.1, hR.2.2.2.1, Or.inr ⟨(q.1, v), rfl, rfl, SR_c hR.1 (fun j hj => cp0_at _ _ hj) (fun j hj => cp0_at _ _ hj), hR.2.1⟩, hR.2.2.2.2.2⟩⟩, ?_⟩) (Nat.le_of_ble_eq_true rfl) (Nat.le_of_ble_eq_true rfl) (Nat.le_of_ble_eq_true rfl) (Nat.le_of_ble_eq_true rfl) (Nat.zero_le _) (Nat.zero_le _)
      · exact (pm_k (A := (zO (ba 0) 8 [.ref (ad 0), .ref (bd 0), .ref (ba 1), .ref (ba 3), .ref (q.1 0)] :: stW ct ad v)) (U := stW ct q.1 q.2) (B := (hstW ct (ba 1) (ba 2) old many r ++ (txW ct (ba 3) (ba 4) (ba 5) len ch te lv ++ stW ct bd tv))) (K := bank ct r)).symm
      · exact pm_k (A := (zO (ba 0) 8 [.ref (ad 0), .ref (bd 0), .ref (ba 1), .ref (ba 3), .ref (q.1 0)] :: stW ct ad v)) (U := stW ct q.1 v) (B := (hstW ct (ba 1) (ba 2) old many r ++ (txW ct (ba 3) (ba 4) (ba 5) len ch te lv ++ stW ct bd tv))) (K := bank ct r)
  · have hm := c_X10_keep_b l g ct sz (j_ma M 0) (j_ma M 1) (j_ma M 2) (j_ma M 3) (j_ma M 4) (j_ma M 5) (j_ma M 6) (j_ma M 7) (j_ma M 8) (j_ma M 9) (j_n M) (j_hy M) (j_sl M) (j_sp M) (j_re M) (j_rh M) (j_rs M) (j_kp M) (j_fl M) (j_tn M) (j_tx M) (j_pa M) (j_rn M) (j_rd M)
    rw [show (j_n M 0).toInt32 = nI (v_h v) by rw [hS.2.2.2.2.1.1, lN_i]] at hm
    exact lm_Wi hm (Nat.le_of_ble_eq_true rfl) (Nat.le_of_ble_eq_true rfl) (Nat.le_of_ble_eq_true rfl) (Nat.le_of_ble_eq_true rfl)

theorem pm_s {f : Nat × va_E} {S Hh B : va_W} : f :: (S ++ (Hh ++ B)) = (f :: (S ++ Hh)) ++ B := by
  show f :: (S ++ (Hh ++ B)) = f :: ((S ++ Hh) ++ B)
  rw [List.append_assoc]

set_option maxHeartbeats 4000000 in
set_option maxRecDepth 100000 in
theorem op_restore (l : Launch) (g : va_G) (ct : Nat → ClassId) {T : Nat} {C : CT} {M : MT} (hR : Rel T C M)  : ∃ (a : Int32) (M2 : MT), j_ma M2 = j_ma M ∧ (∀ sz, Met l yX9_restore wsX9_restore (zRc 4 21 158 95) (va_Pc [.ref (k_ba C 0)] (zW g ct (CW ct C) sz)) (zEi (S := {u : CT // k_ba u = k_ba C ∧ Rel (T + 48) u M2}) g (fun u => CW ct u.1) a (va_A (CW ct C) sz)) 21 158 (va_A (CW ct C) sz)) ∧ (∀ sz, Met l yX10_restore wsX10_restore (zRm 1 21) (va_Pc [.ref (j_ma M 0)] (zW g ct (MWd ct M) sz)) (zEi (S := Unit) g (fun _ => MWd ct M2) a (va_A (MWd ct M) sz)) 0 0 (va_A (MWd ct M) sz)) := by
  obtain ⟨ba, ad, bd, sn, v, tv, old, many, r, len, ch, te, lv⟩ := C
  have hS : SR v (j_n M) (j_re M) := hR.1
  have h0 : old < 5 ∧ many ≤ 5 ∧ j_kp M = many := hR.2.2.1
  obtain ⟨ma, n, hy, sl, sp, re, rh, rs, kp, fl, tn, tx, pa, rn, rd⟩ := M
  rcases hR.2.2.2.2.1 with hs | ⟨q, hs1, hs2, hs3, hs4⟩
  · have hs0 : sn = none := hs.1
    subst hs0
    have hf0 : fl = 0 := hs.2
    subst hf0
    refine ⟨-5, (ma, n, hy, sl, sp, re, rh, rs, kp, 0, tn, tx, pa, rn, rd), rfl, fun sz => ?_, fun sz => ?_⟩
    · exact lc_Ri (C := ((ba, ad, bd, none, v, tv, old, many, r, len, ch, te, lv) : CT)) (wd := (hstW ct (ba 1) (ba 2) old many r ++ (txW ct (ba 3) (ba 4) (ba 5) len ch te lv ++ stW ct bd tv))) ⟨rfl, Rel_m (by omega) hR⟩ (List.Perm.refl _) (c_X9_restore_n l g ct (ba 0) (bd 0) (ba 1) (ba 3) ad v) (Nat.le_of_ble_eq_true rfl) (Nat.le_of_ble_eq_true rfl) (Nat.le_of_ble_eq_true rfl) (Nat.le_of_ble_eq_true rfl)
    · exact lm_Ri (M := (ma, n, hy, sl, sp, re, rh, rs, kp, 0, tn, tx, pa, rn, rd)) (c_X10_restore_n l g ct (ma 0) (ma 1) (ma 2) (ma 3) (ma 4) (ma 5) (ma 6) (ma 7) (ma 8) (ma 9) n hy sl sp re rh rs kp tn tx pa rn rd) (Nat.le_of_ble_eq_true rfl) (Nat.le_of_ble_eq_true rfl) (Nat.le_of_ble_eq_true rfl) (Nat.le_of_ble_eq_true rfl)
  · have hs0 : sn = some q := hs1
    subst hs0
    have hf0 : fl = 1 := hs2
    subst hf0
    have hkp : kp = many := h0.2.2
    refine ⟨nI (v_h q.2), j_rec (ma, n, hy, sl, sp, re, rh, rs, kp, 1, tn, tx, pa, rn, rd) (cp0 n sl 108) (cp0 re rs 33), rfl, fun sz => ?_, fun sz => ?_⟩
    · refine z_consi (wr := (txW ct (ba 3) (ba 4) (ba 5) len ch te lv ++ stW ct bd tv)) (c_X9_restore_b l g ct sz (ba 0) (bd 0) (ba 1) (ba 3) ad v (ba 2) old many r h0.1 h0.2.1 (lt_01 hS) q.1 q.2 (lt_01 hs3)) ?_ (fun u => ⟨⟨k_rec ((ba, ad, bd, some q, v, tv, old, many, r, len, ch, te, lv) : CT) q.2 u, rfl, Rel_rec hR (by omega) (SR_c hs3 (fun j hj => cp0_at _ _ hj) (fun j hj => cp0_at _ _ hj)) (Nat.le_trans hs4 (by omega)) u⟩, ?_⟩) (Nat.le_of_ble_eq_true rfl) (Nat.le_of_ble_eq_true rfl) (Nat.le_of_ble_eq_true rfl) (Nat.le_of_ble_eq_true rfl) (Nat.le_refl _) (Nat.le_refl _)
      · exact pm_r (A := (zO (ba 0) 8 [.ref (ad 0), .ref (bd 0), .ref (ba 1), .ref (ba 3), .ref (q.1 0)] :: (stW ct ad v ++ hstW ct (ba 1) (ba 2) old many r))) (U := stW ct q.1 q.2) (B := (txW ct (ba 3) (ba 4) (ba 5) len ch te lv ++ stW ct bd tv)) (K := bank ct r)
      · exact (pm_r (A := (zO (ba 0) 8 [.ref (ad 0), .ref (bd 0), .ref (ba 1), .ref (ba 3), .ref (q.1 0)] :: (stW ct ad q.2 ++ hstW ct (ba 1) (ba 2) (recO old many) (recM many) (recR r old many u v)))) (U := stW ct q.1 q.2) (B := (txW ct (ba 3) (ba 4) (ba 5) len ch te lv ++ stW ct bd tv)) (K := bank ct (recR r old many u v))).symm
    · have hm := c_X10_restore_b l g ct sz (ma 0) (ma 1) (ma 2) (ma 3) (ma 4) (ma 5) (ma 6) (ma 7) (ma 8) (ma 9) n hy sl sp re rh rs kp tn tx pa rn rd (by omega)
      rw [show (cp0 n sl 108 0).toInt32 = nI (v_h q.2) by
        have e := hs3.2.2.2.2.1.1
        have e : sl 0 = lN (v_h q.2) := e
        rw [cp0_at _ _ (by omega), e, lN_i]] at hm
      exact lm_Wi (M := (ma, n, hy, sl, sp, re, rh, rs, kp, 1, tn, tx, pa, rn, rd)) hm (Nat.le_of_ble_eq_true rfl) (Nat.le_of_ble_eq_true rfl) (Nat.le_of_ble_eq_true rfl) (Nat.le_of_ble_eq_true rfl)
