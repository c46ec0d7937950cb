theorem SR_tides {v : SVT} {n : Nat → Int64} {re : Nat → UInt64} (h : SR v n re) {t rd : Nat → Int32} {k m : Nat} (hk : k + m ≤ 24) (hs : ∀ i, i < m → t i = rd i ∧ lvOk (btL (t i))) : SR (v_nS v, v_wi v, v_cr v, v_ho v, v_li v, v_co v, v_le v, v_cs v, v_nD v, v_we v, v_cl v, v_nT v, v_sw v, v_nP v, v_lim v, v_idl v, v_po v, v_pw v, v_on v, v_ra v, v_ar v, v_vo v, v_fi v, v_fo v, v_fv v, v_br v, v_pu v, (lp (fun i f => vp_updL f (k + i) (btL (t i))) m (v_td v)), v_al v, v_h v, v_od v, v_cb v, v_dl v) n (mrtR re rd k m) := by
  obtain ⟨a, b, c, d, e, f, w, hsec, hinv, huni, hdis, hstr, hpum, hal, htd, hcr, h01⟩ := h
  have q := td_eq htd m hk hs
  exact ⟨a, b, c, d, e, f, w, hsec, hinv, huni, hdis, hstr, hpum, ⟨(q.2 0 (Or.inl rfl)).trans hal.1, hal.2⟩, q.1, fun j hj => ⟨(q.2 _ (Or.inr (by omega))).trans (hcr j hj).1, (hcr j hj).2⟩, h01⟩
theorem pm_g {f0 : Nat × va_E} {S Hh X B : va_W} : List.Perm (f0 :: (S ++ (Hh ++ (X ++ B)))) ((f0 :: (S ++ X)) ++ (Hh ++ B)) := by
  refine List.Perm.cons f0 ?_
  show List.Perm (S ++ (Hh ++ (X ++ B))) ((S ++ X) ++ (Hh ++ B))
  rw [List.append_assoc]
  exact List.Perm.append_left S (List.perm_append_comm_assoc Hh X B)

set_option maxHeartbeats 4000000 in
set_option maxRecDepth 100000 in
theorem op_readTides (l : Launch) (g : va_G) (ct : Nat → ClassId) {T : Nat} {C : CT} {M : MT} (hR : Rel T C M) (x : Int32) : ∃ (a : Int32) (M2 : MT), j_ma M2 = j_ma M ∧ (∀ sz, Met l yX9_readTides wsX9_readTides (zRc 4 21 158 95) (va_Pc [.ref (k_ba C 0), .int x] (zW g ct (CW ct C) sz)) (zEi (S := {u : CT // k_ba u = k_ba C ∧ Rel (T + 48) u M2}) g (fun u => CW ct u.1) a (va_A (CW ct C) sz)) 21 158 (va_A (CW ct C) sz)) ∧ (∀ sz, Met l yX10_readTides wsX10_readTides (zRm 3 68) (va_Pc [.ref (j_ma M 0), .int x] (zW g ct (MWd ct M) sz)) (zEi (S := Unit) g (fun _ => MWd ct M2) a (va_A (MWd ct M) sz)) 0 0 (va_A (MWd ct M) sz)) := by
  have hS := hR.1
  have h0 := hR.2.2.1
  have ht := hR.2.2.2.2.2
  obtain ⟨ma, n, hy, sl, sp, re, rh, rs, kp, fl, tn, tx, pa, rn, rd⟩ := M
  have htn : tn = k_len C := ht.2.1
  subst htn
  have he : ∀ i, i < k_len C → tx i = k_ch C i := ht.2.2
  have hlen : k_len C ≤ 60 := ht.1
  have hkp : kp ≤ 5 := by have h1 := h0.2.1; have h2 : kp = k_many C := h0.2.2; omega
  by_cases hh : hdP x
  · obtain ⟨k, hk, rfl⟩ := hd_N hh
    obtain ⟨K, hK, hIV, hgo, hst⟩ := rt_iter (te := k_te C) (rd := rd) he hlen
    have hIK := hIV K (Nat.le_refl _)
    by_cases hz : rlZ tx (k_len C) (rsT tx (k_len C) rd K).1
    · have hl : ¬ rlA tx (k_len C) (rsT tx (k_len C) rd K).1 < k_len C := fun z => hst ⟨hz, z⟩
      obtain ⟨k1, k2, k3, k4, k5⟩ := rt_ok he hlen hIK hz hl
      by_cases hact : ¬ k + (rtE (k_ch C) (k_te C) (k_len C)).2 > 24 ∧ ¬ lwI (rtE (k_ch C) (k_te C) (k_len C)).1 (rtE (k_ch C) (k_te C) (k_len C)).2 < -50
      · have hv : ∀ i, i < K + 1 → (rtE (k_ch C) (k_te C) (k_len C)).1 i = (rsT tx (k_len C) rd (K + 1)).2.2 i ∧ lvOk (btL ((rtE (k_ch C) (k_te C) (k_len C)).1 i)) := fun i hi => ⟨(k5 i hi).1, bt_ok (fun z => hact.2 (lw_lt.mpr ⟨i, by omega, z⟩)) (k5 i hi).2.2⟩
        have hS2 := SR_tides (t := (rtE (k_ch C) (k_te C) (k_len C)).1) (rd := (rsT tx (k_len C) rd (K + 1)).2.2) (k := k) (m := (rtE (k_ch C) (k_te C) (k_len C)).2) hS (by omega) (fun i hi => hv i (by omega))
        refine ⟨nI (rtE (k_ch C) (k_te C) (k_len C)).2, ((ma, n, mhy hy n kp, sl, sp, mrtR re (rsT tx (k_len C) rd (K + 1)).2.2 k (rtE (k_ch C) (k_te C) (k_len C)).2, mrh rh re kp, rs, mkp kp, fl, k_len C, tx, (rsT tx (k_len C) rd (K + 1)).1, (rtE (k_ch C) (k_te C) (k_len C)).2, (rsT tx (k_len C) rd (K + 1)).2.2) : MT), rfl, fun sz => ?_, fun sz => ?_⟩
        · exact lc_Qi (C3 := fun u => ((k_ba C, k_ad C, k_bd C, k_sn C, (v_nS (k_v C), v_wi (k_v C), v_cr (k_v C), v_ho (k_v C), v_li (k_v C), v_co (k_v C), v_le (k_v C), v_cs (k_v C), v_nD (k_v C), v_we (k_v C), v_cl (k_v C), v_nT (k_v C), v_sw (k_v C), v_nP (k_v C), v_lim (k_v C), v_idl (k_v C), v_po (k_v C), v_pw (k_v C), v_on (k_v C), v_ra (k_v C), v_ar (k_v C), v_vo (k_v C), v_fi (k_v C), v_fo (k_v C), v_fv (k_v C), v_br (k_v C), v_pu (k_v C), (lp (fun i f => vp_updL f (k + i) (btL ((rtE (k_ch C) (k_te C) (k_len C)).1 i))) (rtE (k_ch C) (k_te C) (k_len C)).2 (v_td (k_v C))), v_al (k_v C), v_h (k_v C), v_od (k_v C), v_cb (k_v C), v_dl (k_v C)), k_tv C, recO (k_old C) (k_many C), recM (k_many C), recR (k_r C) (k_old C) (k_many C) u (k_v C), k_len C, k_ch C, (rtE (k_ch C) (k_te C) (k_len C)).1, (rtE (k_ch C) (k_te C) (k_len C)).2) : CT)) (wd := stW ct (k_bd C) (k_tv C)) (fun u => ⟨rfl, Rel_rec (C := ((k_ba C, k_ad C, k_bd C, k_sn C, k_v C, k_tv C, k_old C, k_many C, k_r C, k_len C, k_ch C, (rtE (k_ch C) (k_te C) (k_len C)).1, (rtE (k_ch C) (k_te C) (k_len C)).2) : CT)) (M := ((ma, n, hy, sl, sp, re, rh, rs, kp, fl, k_len C, tx, pa, rn, rd) : MT)) hR (by omega) hS2 (Nat.le_trans hR.2.1 (by omega)) u⟩) (fun _ => rfl) (fun _ => rfl) (List.Perm.refl _) (fun _ => List.Perm.refl _) (c_X9_readTides_b l g ct sz (k_ba C 0) (k_bd C 0) (k_ba C 1) (k_ba C 3) (snV (k_sn C)) (k_ad C) (k_v C) (k_ba C 2) (k_old C) (k_many C) (k_r C) h0.1 h0.2.1 (lt_01 hS) (k_ba C 4) (k_ba C 5) (k_len C) (k_ch C) (k_te C) (k_lv C) hlen k hk k1 hact (fun i hi => (k5 i (by omega)).2)) (Nat.le_of_ble_eq_true rfl) (Nat.le_of_ble_eq_true rfl) (Nat.le_of_ble_eq_true rfl) (Nat.le_of_ble_eq_true rfl)
        · have hm := c_X10_readTides_b l g ct sz (ma 0) (ma 1) (ma 2) (ma 3) (ma 4) (ma 5) (ma 6) (ma 7) (ma 8) (ma 9) n hy sl sp re rh rs kp fl (k_len C) tx pa rn rd hkp hlen k hk K (fun j hj => by have := (hIV j hj).2.1; omega) hgo ⟨hz, hl⟩ (by omega) (by omega) (fun i hi => by
            have z := k5 i (by omega)
            rw [← z.1]
            exact Int32.not_lt.mp (fun y => hact.2 (lw_lt.mpr ⟨i, by omega, y⟩))) (fun i hi => by
            have z := hv i (by omega)
            rw [← z.1]
            exact bt_nn z.2)
          rw [show (rsT tx (k_len C) rd (K + 1)).2.1 = (rtE (k_ch C) (k_te C) (k_len C)).2 by omega] at hm
          exact lm_Wi (M := ((ma, n, hy, sl, sp, re, rh, rs, kp, fl, k_len C, tx, pa, rn, rd) : MT)) (M2 := ((ma, n, mhy hy n kp, sl, sp, mrtR re (rsT tx (k_len C) rd (K + 1)).2.2 k (rtE (k_ch C) (k_te C) (k_len C)).2, mrh rh re kp, rs, mkp kp, fl, k_len C, tx, (rsT tx (k_len C) rd (K + 1)).1, (rtE (k_ch C) (k_te C) (k_len C)).2, (rsT tx (k_len C) rd (K + 1)).2.2) : MT)) hm (Nat.le_of_ble_eq_true rfl) (Nat.le_of_ble_eq_true rfl) (Nat.le_of_ble_eq_true rfl) (Nat.le_of_ble_eq_true rfl)
      · refine ⟨if k + (rtE (k_ch C) (k_te C) (k_len C)).2 > 24 then -3 else -4, ((ma, n, hy, sl, sp, re, rh, rs, kp, fl, k_len C, tx, (rsT tx (k_len C) rd (K + 1)).1, (rsT tx (k_len C) rd (K + 1)).2.1, (rsT tx (k_len C) rd (K + 1)).2.2) : MT), rfl, fun sz => ?_, fun sz => ?_⟩
        · have hR2 : Rel (T + 48) ((k_ba C, k_ad C, k_bd C, k_sn C, k_v C, k_tv C, k_old C, k_many C, k_r C, k_len C, k_ch C, (rtE (k_ch C) (k_te C) (k_len C)).1, (rtE (k_ch C) (k_te C) (k_len C)).2) : CT) ((ma, n, hy, sl, sp, re, rh, rs, kp, fl, k_len C, tx, (rsT tx (k_len C) rd (K + 1)).1, (rsT tx (k_len C) rd (K + 1)).2.1, (rsT tx (k_len C) rd (K + 1)).2.2) : MT) := Rel_m (by omega : T ≤ T + 48) hR
          exact lc_Wi (C2 := ((k_ba C, k_ad C, k_bd C, k_sn C, k_v C, k_tv C, k_old C, k_many C, k_r C, k_len C, k_ch C, (rtE (k_ch C) (k_te C) (k_len C)).1, (rtE (k_ch C) (k_te C) (k_len C)).2) : CT)) (wd := hstW ct (k_ba C 1) (k_ba C 2) (k_old C) (k_many C) (k_r C) ++ stW ct (k_bd C) (k_tv C)) ⟨rfl, hR2⟩ rfl rfl pm_g pm_g (c_X9_readTides_e l g ct sz (k_ba C 0) (k_bd C 0) (k_ba C 1) (k_ba C 3) (snV (k_sn C)) (k_ad C) (k_v C) (k_ba C 4) (k_ba C 5) (k_len C) (k_ch C) (k_te C) (k_lv C) hlen k hk k1 hact) (Nat.le_of_ble_eq_true rfl) (Nat.le_of_ble_eq_true rfl) (Nat.le_of_ble_eq_true rfl) (Nat.le_of_ble_eq_true rfl)
        · by_cases c : k + (rtE (k_ch C) (k_te C) (k_len C)).2 > 24
          · have hm := c_X10_readTides_e l g ct sz (ma 0) (ma 1) (ma 2) (ma 3) (ma 4) (ma 5) (ma 6) (ma 7) (ma 8) (ma 9) n hy sl sp re rh rs kp fl (k_len C) tx pa rn rd hlen k hk K (fun j hj => by have := (hIV j hj).2.1; omega) hgo ⟨hz, hl⟩ (by omega) (by omega)
            rw [if_pos c]
            exact lm_Wi (M := ((ma, n, hy, sl, sp, re, rh, rs, kp, fl, k_len C, tx, pa, rn, rd) : MT)) (M2 := ((ma, n, hy, sl, sp, re, rh, rs, kp, fl, k_len C, tx, (rsT tx (k_len C) rd (K + 1)).1, (rsT tx (k_len C) rd (K + 1)).2.1, (rsT tx (k_len C) rd (K + 1)).2.2) : MT)) hm (Nat.le_of_ble_eq_true rfl) (Nat.le_of_ble_eq_true rfl) (Nat.le_of_ble_eq_true rfl) (Nat.le_of_ble_eq_true rfl)
          · obtain ⟨i, hi, hlw⟩ := lw_lt.mp (Classical.not_not.mp (fun z => hact ⟨c, z⟩))
            have hm := c_X10_readTides_l l g ct sz (ma 0) (ma 1) (ma 2) (ma 3) (ma 4) (ma 5) (ma 6) (ma 7) (ma 8) (ma 9) n hy sl sp re rh rs kp fl (k_len C) tx pa rn rd hlen k hk K (fun j hj => by have := (hIV j hj).2.1; omega) hgo ⟨hz, hl⟩ (by omega) (by omega) ⟨i, by omega, fun z => by
              have y := k5 i (by omega)
              rw [← y.1] at z
              exact absurd hlw (Int32.not_lt.mpr z)⟩
            rw [if_neg c]
            exact lm_Wi (M := ((ma, n, hy, sl, sp, re, rh, rs, kp, fl, k_len C, tx, pa, rn, rd) : MT)) (M2 := ((ma, n, hy, sl, sp, re, rh, rs, kp, fl, k_len C, tx, (rsT tx (k_len C) rd (K + 1)).1, (rsT tx (k_len C) rd (K + 1)).2.1, (rsT tx (k_len C) rd (K + 1)).2.2) : MT)) hm (Nat.le_of_ble_eq_true rfl) (Nat.le_of_ble_eq_true rfl) (Nat.le_of_ble_eq_true rfl) (Nat.le_of_ble_eq_true rfl)
    · obtain ⟨k1, k2⟩ := rt_fault he hIK hz
      have k3 : ¬ ftI (k_ch C) (k_len C) = -5 := by
        rw [k1]
        intro z
        have z := congrArg Int32.toInt z
        rw [nI_toInt (by omega), show Int32.toInt (-5) = -5 from rfl] at z
        omega
      have hR2 : Rel (T + 48) C ((ma, n, hy, sl, sp, re, rh, rs, kp, fl, k_len C, tx, rlA tx (k_len C) (rsT tx (k_len C) rd K).1, rlC tx (k_len C) (rsT tx (k_len C) rd K).1 (rsT tx (k_len C) rd K).2.1, rlD tx (k_len C) (rsT tx (k_len C) rd K).1 (rsT tx (k_len C) rd K).2.1 (rsT tx (k_len C) rd K).2.2) : MT) := Rel_m (by omega : T ≤ T + 48) hR
      refine ⟨-100 - ftI (k_ch C) (k_len C), ((ma, n, hy, sl, sp, re, rh, rs, kp, fl, k_len C, tx, rlA tx (k_len C) (rsT tx (k_len C) rd K).1, rlC tx (k_len C) (rsT tx (k_len C) rd K).1 (rsT tx (k_len C) rd K).2.1, rlD tx (k_len C) (rsT tx (k_len C) rd K).1 (rsT tx (k_len C) rd K).2.1 (rsT tx (k_len C) rd K).2.2) : MT), rfl, fun sz => ?_, fun sz => ?_⟩
      · exact lc_Ri (wd := hstW ct (k_ba C 1) (k_ba C 2) (k_old C) (k_many C) (k_r C) ++ stW ct (k_bd C) (k_tv C)) ⟨rfl, hR2⟩ pm_g (c_X9_readTides_f l g ct (k_ba C 0) (k_bd C 0) (k_ba C 1) (k_ba C 3) (snV (k_sn C)) (k_ad C) (k_v C) (k_ba C 4) (k_ba C 5) (k_len C) (k_ch C) (k_te C) (k_lv C) hlen k hk k3) (Nat.le_of_ble_eq_true rfl) (Nat.le_of_ble_eq_true rfl) (Nat.le_of_ble_eq_true rfl) (Nat.le_of_ble_eq_true rfl)
      · have hm := c_X10_readTides_f l g ct sz (ma 0) (ma 1) (ma 2) (ma 3) (ma 4) (ma 5) (ma 6) (ma 7) (ma 8) (ma 9) n hy sl sp re rh rs kp fl (k_len C) tx pa rn rd hlen k hk K (fun j hj => by have := (hIV j hj).2.1; omega) hgo hz
        rw [k1]
        exact lm_Wi (M := ((ma, n, hy, sl, sp, re, rh, rs, kp, fl, k_len C, tx, pa, rn, rd) : MT)) (M2 := ((ma, n, hy, sl, sp, re, rh, rs, kp, fl, k_len C, tx, rlA tx (k_len C) (rsT tx (k_len C) rd K).1, rlC tx (k_len C) (rsT tx (k_len C) rd K).1 (rsT tx (k_len C) rd K).2.1, rlD tx (k_len C) (rsT tx (k_len C) rd K).1 (rsT tx (k_len C) rd K).2.1 (rsT tx (k_len C) rd K).2.2) : MT)) hm (Nat.le_of_ble_eq_true rfl) (Nat.le_of_ble_eq_true rfl) (Nat.le_of_ble_eq_true rfl) (Nat.le_of_ble_eq_true rfl)
  · refine ⟨-2, ((ma, n, hy, sl, sp, re, rh, rs, kp, fl, k_len C, tx, pa, rn, rd) : MT), rfl, fun sz => ?_, fun sz => ?_⟩
    · exact lc_Ri (wd := hstW ct (k_ba C 1) (k_ba C 2) (k_old C) (k_many C) (k_r C) ++ stW ct (k_bd C) (k_tv C)) ⟨rfl, Rel_m (by omega) hR⟩ pm_g (c_X9_readTides_u l g ct (k_ba C 0) (k_bd C 0) (k_ba C 1) (k_ba C 3) (snV (k_sn C)) (k_ad C) (k_v C) (k_ba C 4) (k_ba C 5) (k_len C) (k_ch C) (k_te C) (k_lv C) hlen x hh) (Nat.le_of_ble_eq_true rfl) (Nat.le_of_ble_eq_true rfl) (Nat.le_of_ble_eq_true rfl) (Nat.le_of_ble_eq_true rfl)
    · exact lm_Ri (M := ((ma, n, hy, sl, sp, re, rh, rs, kp, fl, k_len C, tx, pa, rn, rd) : MT)) (c_X10_readTides_u l g ct (ma 0) (ma 1) (ma 2) (ma 3) (ma 4) (ma 5) (ma 6) (ma 7) (ma 8) (ma 9) n hy sl sp re rh rs kp fl (k_len C) tx pa rn rd x (fun q => hh ((hd_in x).mp q))) (Nat.le_of_ble_eq_true rfl) (Nat.le_of_ble_eq_true rfl) (Nat.le_of_ble_eq_true rfl) (Nat.le_of_ble_eq_true rfl)
