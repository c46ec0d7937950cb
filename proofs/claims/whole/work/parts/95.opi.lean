theorem st_eq {v : SVT} {n : Nat → Int64} {re : Nat → UInt64} (h : SR v n re) (w : Int32) : mstI n w (v_nS v) = cntI (v_co v) w (v_nS v) := by
  refine lp_congr _ (fun k hk a => ?_)
  have h1 := (h.2.2.2.2.2.2.2.1 k hk).2.2.2.1
  show (if (n (20 + 6 * k + 3)).toInt32 = w then a + 1 else a + 0) = if v_co v k = w then a + 1 else a
  rw [h1, Int32.add_zero]
def cN (f : Nat → Int32) (w : Int32) (n : Nat) : Nat := lp (fun k r => if f k = w then r + 1 else r) n 0
theorem cN_s (f : Nat → Int32) (w : Int32) (n : Nat) : cN f w (n + 1) = if f n = w then cN f w n + 1 else cN f w n := rfl
theorem cN_I (f : Nat → Int32) (w : Int32) (n : Nat) : cntI f w n = nI (cN f w n) := by
  induction n with
  | zero => rfl
  | succ n ih =>
    show (if f n = w then cntI f w n + 1 else cntI f w n) = _
    rw [cN_s, ih]
    by_cases c : f n = w
    · rw [if_pos c, if_pos c]; exact nI_add _ 1
    · rw [if_neg c, if_neg c]
theorem cN_le (f : Nat → Int32) (w : Int32) (n : Nat) : cN f w n ≤ n := by
  induction n with
  | zero => exact Nat.le_refl _
  | succ n ih => rw [cN_s]; split <;> omega
theorem cN_all {f : Nat → Int32} (n : Nat) (h : ∀ k, k < n → f k = 0 ∨ f k = 1 ∨ f k = 2 ∨ f k = 3 ∨ f k = 4) : cN f 0 n + cN f 1 n + cN f 2 n + cN f 3 n + cN f 4 n = n := by
  induction n with
  | zero => rfl
  | succ n ih =>
    have i1 := ih (fun k hk => h k (by omega))
    rw [cN_s, cN_s, cN_s, cN_s, cN_s]
    have h1 := h n (by omega)
    generalize f n = x at h1 ⊢
    rcases h1 with q | q | q | q | q <;> (subst q; simp only [show ((0 : Int32) = 1) = False from by decide, show ((0 : Int32) = 2) = False from by decide, show ((0 : Int32) = 3) = False from by decide, show ((0 : Int32) = 4) = False from by decide, show ((1 : Int32) = 0) = False from by decide, show ((1 : Int32) = 2) = False from by decide, show ((1 : Int32) = 3) = False from by decide, show ((1 : Int32) = 4) = False from by decide, show ((2 : Int32) = 0) = False from by decide, show ((2 : Int32) = 1) = False from by decide, show ((2 : Int32) = 3) = False from by decide, show ((2 : Int32) = 4) = False from by decide, show ((3 : Int32) = 0) = False from by decide, show ((3 : Int32) = 1) = False from by decide, show ((3 : Int32) = 2) = False from by decide, show ((3 : Int32) = 4) = False from by decide, show ((4 : Int32) = 0) = False from by decide, show ((4 : Int32) = 1) = False from by decide, show ((4 : Int32) = 2) = False from by decide, show ((4 : Int32) = 3) = False from by decide, if_false, if_true]; omega)
theorem cN_0 {f : Nat → Int32} {w : Int32} (n : Nat) : cN f w n = 0 ↔ ∀ k, k < n → ¬ f k = w := by
  induction n with
  | zero => exact ⟨fun _ k hk => absurd hk (Nat.not_lt_zero k), fun _ => rfl⟩
  | succ n ih =>
    rw [cN_s]
    by_cases c : f n = w
    · rw [if_pos c]
      exact ⟨fun q => by omega, fun q => absurd c (q n (by omega))⟩
    · rw [if_neg c, ih]
      refine ⟨fun q k hk => ?_, fun q k hk => q k (by omega)⟩
      by_cases d : k = n
      · rw [d]; exact c
      · exact q k (by omega)
theorem co_all {v : SVT} {n : Nat → Int64} {re : Nat → UInt64} (h : SR v n re) : ∀ k, k < v_nS v → v_co v k = 0 ∨ v_co v k = 1 ∨ v_co v k = 2 ∨ v_co v k = 3 ∨ v_co v k = 4 := fun k hk => (h.2.2.2.2.2.2.2.2.1 k hk).2.2.1
theorem shut_eq {v : SVT} {n : Nat → Int64} {re : Nat → UInt64} (h : SR v n re) : mstI n 0 (v_nS v) + mstI n 1 (v_nS v) + mstI n 3 (v_nS v) = 0 ↔ cntI (v_co v) 2 (v_nS v) + cntI (v_co v) 4 (v_nS v) = nI (v_nS v) := by
  have z0 : ∀ a : Nat, a < 2 ^ 31 → (nI a = 0 ↔ a = 0) := fun a ha => nI_eq (b := 0) ha (by omega)
  have l0 := cN_le (v_co v) 0 (v_nS v)
  have l1 := cN_le (v_co v) 1 (v_nS v)
  have l3 := cN_le (v_co v) 3 (v_nS v)
  have ha := cN_all _ (co_all h)
  have hn := (lt_nS h).1
  rw [st_eq h, st_eq h, st_eq h, cN_I, cN_I, cN_I, cN_I, cN_I, nI_add, nI_add, nI_add, z0 _ (by omega), nI_eq (by omega) (by omega)]
  omega
theorem no_mv {co : Nat → Int32} {n : Nat} (hn : n ≤ 8) : mvI co n = -5 ↔ ∀ k, k < n → ¬ (co k = 1 ∨ co k = 3) := by
  constructor
  · intro h k hk q
    have hc : fst_ (fun k => co k = 1 ∨ co k = 3) n < n := Classical.not_not.mp (fun z => fst_nn z k hk q)
    have e : mvI co n = nI (fst_ (fun k => co k = 1 ∨ co k = 3) n) := if_pos hc
    rw [e] at h
    have := congrArg Int32.toInt h
    rw [nI_toInt (by omega), show Int32.toInt (-5) = -5 from rfl] at this
    omega
  · exact fun h => (fI_none h).symm
theorem opn_eq {v : SVT} {n : Nat → Int64} {re : Nat → UInt64} (h : SR v n re) : mstI n 2 (v_nS v) + mstI n 1 (v_nS v) + mstI n 3 (v_nS v) = 0 ↔ cntI (v_co v) 2 (v_nS v) = 0 ∧ mvI (v_co v) (v_nS v) = -5 := by
  have ha := cN_all _ (co_all h)
  have hn := (lt_nS h).1
  have e1 := cN_0 (f := v_co v) (w := 1) (v_nS v)
  have e3 := cN_0 (f := v_co v) (w := 3) (v_nS v)
  rw [st_eq h, st_eq h, st_eq h, cN_I, cN_I, cN_I, nI_add, nI_add, show (0 : Int32) = nI 0 from rfl, nI_eq (by omega) (by omega), nI_eq (by omega) (by omega), no_mv hn]
  constructor
  · intro q
    refine ⟨by omega, fun k hk z => ?_⟩
    rcases z with z | z
    · exact e1.mp (by omega) k hk z
    · exact e3.mp (by omega) k hk z
  · intro q
    have h1 := e1.mpr (fun k hk z => q.2 k hk (Or.inl z))
    have h3 := e3.mpr (fun k hk z => q.2 k hk (Or.inr z))
    omega
theorem od_eq {v : SVT} {n : Nat → Int64} {re : Nat → UInt64} (h : SR v n re) : (n 1 = 0 ↔ v_od v = 0) ∧ (n 1 = 1 ↔ v_od v = 1) ∧ (n 1 = 2 ↔ v_od v = 2) := by
  have e := h.2.2.2.2.1
  rw [e.2.1]
  rcases e.2.2.1 with q | q | q <;> (rw [q]; decide)

theorem SR_close {v : SVT} {n : Nat → Int64} {re : Nat → UInt64} (h : SR v n re)   : SR (v_nS v, v_wi v, v_cr v, v_ho v, v_li v, v_co v, v_le v, v_cs v, v_nD v, v_we v, v_cl v, v_nT v, v_sw v, v_nP v, v_lim v, v_idl v, v_po v, v_pw v, v_on v, v_ra v, v_ar v, v_vo v, v_fi v, v_fo v, v_fv v, v_br v, v_pu v, v_td v, v_al v, v_h v, (1), (v_cb v + 1), (if 0 ≤ Op.cmpValue (FP.dcmp (v_td v (v_h v % 24)).toUInt64 (v_al v).toUInt64) CmpOp.g then v_dl v else v_dl v + 1)) (vp_updL (vp_updL (vp_updL n 1 1) 3 ((vp_updL n 1 1) 3 + 1)) 4 ((vp_updL (vp_updL n 1 1) 3 ((vp_updL n 1 1) 3 + 1)) 4 + if ¬ 0 ≤ Op.cmpValue (FP.dcmp (re (1 + v_h v % 24)) (re 0)) CmpOp.g then 1 else 0)) re := by
  have kk : ∀ j, j ≠ 1 → j ≠ 3 → j ≠ 4 → (vp_updL (vp_updL (vp_updL n 1 1) 3 ((vp_updL n 1 1) 3 + 1)) 4 ((vp_updL (vp_updL n 1 1) 3 ((vp_updL n 1 1) 3 + 1)) 4 + if ¬ 0 ≤ Op.cmpValue (FP.dcmp (re (1 + v_h v % 24)) (re 0)) CmpOp.g then 1 else 0)) j = n j := fun j h0 h1 h2 => by rw [pk_uLn (by omega), pk_uLn (by omega), pk_uLn (by omega)]
  obtain ⟨a, b, c, d, e, f, w, hsec, hinv, huni, hdis, hstr, hpum, hal, htd, hcr, h01⟩ := h
  have ha := a.1
  have hb := b.1
  have hc := c.1
  have hd := d.1
  exact ⟨⟨ha, (kk 7 (by omega) (by omega) (by omega)).trans a.2⟩, ⟨hb, (kk 8 (by omega) (by omega) (by omega)).trans b.2⟩, ⟨hc, (kk 9 (by omega) (by omega) (by omega)).trans c.2⟩, ⟨hd, (kk 10 (by omega) (by omega) (by omega)).trans d.2⟩, ⟨(kk 0 (by omega) (by omega) (by omega)).trans e.1, by rw [pk_uLn (by omega), pk_uLn (by omega), pk_uLs]; rfl, Or.inr (Or.inl rfl), (kk 2 (by omega) (by omega) (by omega)).trans e.2.2.2.1, by rw [pk_uLn (by omega), pk_uLs, pk_uLn (by omega), Int64.toInt32_add, e.2.2.2.2.1]; rfl, by
    rw [pk_uLs, pk_uLn (by omega), pk_uLn (by omega), Int64.toInt32_add, e.2.2.2.2.2, (htd (v_h v % 24) (by omega)).1, hal.1]
    show _ = if 0 ≤ Op.cmpValue (FP.dcmp (v_td v (v_h v % 24)).toUInt64 (v_al v).toUInt64) CmpOp.g then v_dl v else v_dl v + 1
    by_cases q : 0 ≤ Op.cmpValue (FP.dcmp (v_td v (v_h v % 24)).toUInt64 (v_al v).toUInt64) CmpOp.g
    · rw [if_pos q, if_neg (fun z => z q)]; exact Int32.add_zero _
    · rw [if_neg q, if_pos q]; rfl⟩, ⟨(kk 5 (by omega) (by omega) (by omega)).trans f.1, f.2.1, (kk 6 (by omega) (by omega) (by omega)).trans f.2.2.1, by rw [kk 11 (by omega) (by omega) (by omega)]; exact f.2.2.2⟩, ⟨(kk 12 (by omega) (by omega) (by omega)).trans w.1, (kk 13 (by omega) (by omega) (by omega)).trans w.2.1, (kk 14 (by omega) (by omega) (by omega)).trans w.2.2.1, (kk 15 (by omega) (by omega) (by omega)).trans w.2.2.2.1, (kk 16 (by omega) (by omega) (by omega)).trans w.2.2.2.2.1, (kk 17 (by omega) (by omega) (by omega)).trans w.2.2.2.2.2⟩, fun k hk => by have hk : k < v_nS v := hk; rw [kk _ (by omega) (by omega) (by omega), kk _ (by omega) (by omega) (by omega), kk _ (by omega) (by omega) (by omega), kk _ (by omega) (by omega) (by omega), kk _ (by omega) (by omega) (by omega), kk _ (by omega) (by omega) (by omega)]; exact hsec k hk, hinv, huni, fun k hk => by have hk : k < v_nD v := hk; rw [kk _ (by omega) (by omega) (by omega), kk _ (by omega) (by omega) (by omega)]; exact hdis k hk, fun k hk => by have hk : k < v_nT v := hk; rw [kk _ (by omega) (by omega) (by omega)]; exact hstr k hk, fun k hk => by have hk : k < v_nP v := hk; rw [kk _ (by omega) (by omega) (by omega), kk _ (by omega) (by omega) (by omega), kk _ (by omega) (by omega) (by omega), kk _ (by omega) (by omega) (by omega)]; exact hpum k hk, hal, htd, hcr, h01⟩

set_option maxHeartbeats 4000000 in
set_option maxRecDepth 100000 in
theorem op_close (l : Launch) (g : va_G) (ct : Nat → ClassId) {T : Nat} {C : CT} {M : MT} (hR : Rel T C M) (hT : T < 1000000000)  : ∃ (a : Int32) (M2 : MT), j_ma M2 = j_ma M ∧ (∀ sz, Met l yX9_close wsX9_close (zRc 5 21 158 118) (va_Pc [.ref (k_ba C 0)] (zW g ct (CW ct C) sz)) (zEi (S := {u : CT // k_ba u = k_ba C ∧ Rel (T + 48) u M2}) g (fun u => CW ct u.1) a (va_A (CW ct C) sz)) 21 158 (va_A (CW ct C) sz)) ∧ (∀ sz, Met l yX10_close wsX10_close (zRm 4 86) (va_Pc [.ref (j_ma M 0)] (zW g ct (MWd ct M) sz)) (zEi (S := Unit) g (fun _ => MWd ct M2) a (va_A (MWd ct M) sz)) 0 0 (va_A (MWd ct M) sz)) := by
  have hS := hR.1
  have hD := lt_nS hS
  have hE := lt_nD hS
  have h0 := hR.2.2.1
  have e1 := shut_eq hS
  have e2 := wc_eq hS
  have e3 := wa_eq hS
  have e4 := (od_eq hS).2.1
  have htd := hS.2.2.2.2.2.2.2.2.2.2.2.2.2.2.1
  have hal := hS.2.2.2.2.2.2.2.2.2.2.2.2.2.1
  have hv := hR.2.1
  by_cases h1 : ¬ 2 * wcI (v_cl (k_v C)) (v_we (k_v C)) (v_nD (k_v C)) ≤ waI (v_we (k_v C)) (v_nD (k_v C)) ∧ ¬ cntI (v_co (k_v C)) 2 (v_nS (k_v C)) + cntI (v_co (k_v C)) 4 (v_nS (k_v C)) = nI (v_nS (k_v C)) ∧ ¬ v_od (k_v C) = 1
  · refine ⟨if ¬ 0 ≤ Op.cmpValue (FP.dcmp (v_td (k_v C) (v_h (k_v C) % 24)).toUInt64 (v_al (k_v C)).toUInt64) CmpOp.g then 1 else 0, j_rec M (vp_updL (vp_updL (vp_updL (j_n M) 1 1) 3 ((vp_updL (j_n M) 1 1) 3 + 1)) 4 ((vp_updL (vp_updL (j_n M) 1 1) 3 ((vp_updL (j_n M) 1 1) 3 + 1)) 4 + if ¬ 0 ≤ Op.cmpValue (FP.dcmp (j_re M (1 + v_h (k_v C) % 24)) (j_re M 0)) CmpOp.g then 1 else 0)) (j_re M), rfl, fun sz => ?_, fun sz => ?_⟩
    · exact lc_Qi (C3 := fun u => k_rec C (v_nS (k_v C), v_wi (k_v C), v_cr (k_v C), v_ho (k_v C), v_li (k_v C), v_co (k_v C), v_le (k_v C), v_cs (k_v C), v_nD (k_v C), v_we (k_v C), v_cl (k_v C), v_nT (k_v C), v_sw (k_v C), v_nP (k_v C), v_lim (k_v C), v_idl (k_v C), v_po (k_v C), v_pw (k_v C), v_on (k_v C), v_ra (k_v C), v_ar (k_v C), v_vo (k_v C), v_fi (k_v C), v_fo (k_v C), v_fv (k_v C), v_br (k_v C), v_pu (k_v C), v_td (k_v C), v_al (k_v C), v_h (k_v C), (1), (v_cb (k_v C) + 1), (if 0 ≤ Op.cmpValue (FP.dcmp (v_td (k_v C) (v_h (k_v C) % 24)).toUInt64 (v_al (k_v C)).toUInt64) CmpOp.g then v_dl (k_v C) else v_dl (k_v C) + 1)) u) (wd := txW ct (k_ba C 3) (k_ba C 4) (k_ba C 5) (k_len C) (k_ch C) (k_te C) (k_lv C) ++ stW ct (k_bd C) (k_tv C)) (fun u => ⟨rfl, Rel_rec hR (by omega) (SR_close hS) (Nat.le_trans hR.2.1 (by omega)) u⟩) (fun _ => rfl) (fun _ => rfl) (List.Perm.refl _) (fun _ => List.Perm.refl _) (c_X9_close_b l g ct sz (k_ba C 0) (k_bd C 0) (k_ba C 1) (k_ba C 3) (snV (k_sn C)) (k_ad C) (k_v C) (k_ba C 2) (k_old C) (k_many C) (k_r C) h0.1 h0.2.1 (lt_01 hS) hD.1 hE.1 (by omega) (fun i hi => (htd i hi).2) hal.2 h1) (Nat.le_of_ble_eq_true rfl) (Nat.le_of_ble_eq_true rfl) (Nat.le_of_ble_eq_true rfl) (Nat.le_of_ble_eq_true rfl)
    · have hm := c_X10_close_b l g ct sz (j_ma M 0) (j_ma M 1) (j_ma M 2) (j_ma M 3) (j_ma M 4) (j_ma M 5) (j_ma M 6) (j_ma M 7) (j_ma M 8) (j_ma M 9) (j_n M) (j_hy M) (j_sl M) (j_sp M) (j_re M) (j_rh M) (j_rs M) (j_kp M) (j_fl M) (j_tn M) (j_tx M) (j_pa M) (j_rn M) (j_rd M) (by have := h0.2.1; have := h0.2.2; omega) (v_nS (k_v C)) hD.1 hD.2 (v_nD (k_v C)) hE.1 hE.2 (v_h (k_v C)) (by omega) hS.2.2.2.2.1.1 ⟨by rw [e2, e3]; exact h1.1, fun z => h1.2.1 (e1.mp z), fun z => h1.2.2 (e4.mp z)⟩
      have e5 : (if ¬ 0 ≤ Op.cmpValue (FP.dcmp (j_re M (1 + v_h (k_v C) % 24)) (j_re M 0)) CmpOp.g then (1 : Int32) else 0) = if ¬ 0 ≤ Op.cmpValue (FP.dcmp (v_td (k_v C) (v_h (k_v C) % 24)).toUInt64 (v_al (k_v C)).toUInt64) CmpOp.g then 1 else 0 := by
        rw [(htd (v_h (k_v C) % 24) (by omega)).1, hal.1]
      rw [e5] at hm
      exact lm_Wi hm (Nat.le_of_ble_eq_true rfl) (Nat.le_of_ble_eq_true rfl) (Nat.le_of_ble_eq_true rfl) (Nat.le_of_ble_eq_true rfl)
  · refine ⟨if ¬ (¬ 2 * wcI (v_cl (k_v C)) (v_we (k_v C)) (v_nD (k_v C)) ≤ waI (v_we (k_v C)) (v_nD (k_v C))) ∨ cntI (v_co (k_v C)) 2 (v_nS (k_v C)) + cntI (v_co (k_v C)) 4 (v_nS (k_v C)) = nI (v_nS (k_v C)) then -4 else -5, M, rfl, fun sz => ?_, fun sz => ?_⟩
    · exact lc_Ri (wd := hstW ct (k_ba C 1) (k_ba C 2) (k_old C) (k_many C) (k_r C) ++ (txW ct (k_ba C 3) (k_ba C 4) (k_ba C 5) (k_len C) (k_ch C) (k_te C) (k_lv C) ++ stW ct (k_bd C) (k_tv C))) ⟨rfl, Rel_m (by omega) hR⟩ (List.Perm.refl _) (c_X9_close_a l g ct (k_ba C 0) (k_bd C 0) (k_ba C 1) (k_ba C 3) (snV (k_sn C)) (k_ad C) (k_v C) hD.1 hE.1 h1) (Nat.le_of_ble_eq_true rfl) (Nat.le_of_ble_eq_true rfl) (Nat.le_of_ble_eq_true rfl) (Nat.le_of_ble_eq_true rfl)
    · have hm := c_X10_close_a l g ct (j_ma M 0) (j_ma M 1) (j_ma M 2) (j_ma M 3) (j_ma M 4) (j_ma M 5) (j_ma M 6) (j_ma M 7) (j_ma M 8) (j_ma M 9) (j_n M) (j_hy M) (j_sl M) (j_sp M) (j_re M) (j_rh M) (j_rs M) (j_kp M) (j_fl M) (j_tn M) (j_tx M) (j_pa M) (j_rn M) (j_rd M) (v_nS (k_v C)) hD.1 hD.2 (v_nD (k_v C)) hE.1 hE.2 (fun q => h1 ⟨by rw [← e2, ← e3]; exact q.1, fun z => q.2.1 (e1.mpr z), fun z => q.2.2 (e4.mpr z)⟩)
      have e6 : (if 2 * mwcI (j_n M) (v_nD (k_v C)) ≤ mwaI (j_n M) (v_nD (k_v C)) ∨ mstI (j_n M) 0 (v_nS (k_v C)) + mstI (j_n M) 1 (v_nS (k_v C)) + mstI (j_n M) 3 (v_nS (k_v C)) = 0 then (-4 : Int32) else -5) = if ¬ (¬ 2 * wcI (v_cl (k_v C)) (v_we (k_v C)) (v_nD (k_v C)) ≤ waI (v_we (k_v C)) (v_nD (k_v C))) ∨ cntI (v_co (k_v C)) 2 (v_nS (k_v C)) + cntI (v_co (k_v C)) 4 (v_nS (k_v C)) = nI (v_nS (k_v C)) then -4 else -5 := by
        rw [e2, e3]
        by_cases q : 2 * wcI (v_cl (k_v C)) (v_we (k_v C)) (v_nD (k_v C)) ≤ waI (v_we (k_v C)) (v_nD (k_v C)) ∨ mstI (j_n M) 0 (v_nS (k_v C)) + mstI (j_n M) 1 (v_nS (k_v C)) + mstI (j_n M) 3 (v_nS (k_v C)) = 0
        · rw [if_pos q, if_pos (q.elim (fun z => Or.inl (fun y => y z)) (fun z => Or.inr (e1.mp z)))]
        · rw [if_neg q, if_neg (fun z => z.elim (fun y => q (Or.inl (Classical.not_not.mp y))) (fun y => q (Or.inr (e1.mpr y))))]
      rw [e6] at hm
      exact lm_Ri hm (Nat.le_of_ble_eq_true rfl) (Nat.le_of_ble_eq_true rfl) (Nat.le_of_ble_eq_true rfl) (Nat.le_of_ble_eq_true rfl)

theorem SR_open2 {v : SVT} {n : Nat → Int64} {re : Nat → UInt64} (h : SR v n re)   : SR (v_nS v, v_wi v, v_cr v, v_ho v, v_li v, v_co v, v_le v, v_cs v, v_nD v, v_we v, v_cl v, v_nT v, v_sw v, v_nP v, v_lim v, v_idl v, v_po v, v_pw v, v_on v, v_ra v, v_ar v, v_vo v, v_fi v, v_fo v, v_fv v, v_br v, v_pu v, v_td v, v_al v, v_h v, 2, v_cb v, v_dl v) (vp_updL n 1 2) re := by
  have kk : ∀ j, j ≠ 1 → (vp_updL n 1 2) j = n j := fun j h0 => by rw [pk_uLn (by omega)]
  obtain ⟨a, b, c, d, e, f, w, hsec, hinv, huni, hdis, hstr, hpum, hal, htd, hcr, h01⟩ := h
  have ha := a.1
  have hb := b.1
  have hc := c.1
  have hd := d.1
  exact ⟨⟨ha, (kk 7 (by omega)).trans a.2⟩, ⟨hb, (kk 8 (by omega)).trans b.2⟩, ⟨hc, (kk 9 (by omega)).trans c.2⟩, ⟨hd, (kk 10 (by omega)).trans d.2⟩, ⟨(kk 0 (by omega)).trans e.1, pk_uLs, Or.inr (Or.inr rfl), (kk 2 (by omega)).trans e.2.2.2.1, by rw [kk 3 (by omega)]; exact e.2.2.2.2.1, by rw [kk 4 (by omega)]; exact e.2.2.2.2.2⟩, ⟨(kk 5 (by omega)).trans f.1, f.2.1, (kk 6 (by omega)).trans f.2.2.1, by rw [kk 11 (by omega)]; exact f.2.2.2⟩, ⟨(kk 12 (by omega)).trans w.1, (kk 13 (by omega)).trans w.2.1, (kk 14 (by omega)).trans w.2.2.1, (kk 15 (by omega)).trans w.2.2.2.1, (kk 16 (by omega)).trans w.2.2.2.2.1, (kk 17 (by omega)).trans w.2.2.2.2.2⟩, fun k hk => by have hk : k < v_nS v := hk; rw [kk _ (by omega), kk _ (by omega), kk _ (by omega), kk _ (by omega), kk _ (by omega), kk _ (by omega)]; exact hsec k hk, hinv, huni, fun k hk => by have hk : k < v_nD v := hk; rw [kk _ (by omega), kk _ (by omega)]; exact hdis k hk, fun k hk => by have hk : k < v_nT v := hk; rw [kk _ (by omega)]; exact hstr k hk, fun k hk => by have hk : k < v_nP v := hk; rw [kk _ (by omega), kk _ (by omega), kk _ (by omega), kk _ (by omega)]; exact hpum k hk, hal, htd, hcr, h01⟩

set_option maxHeartbeats 4000000 in
set_option maxRecDepth 100000 in
theorem op_open (l : Launch) (g : va_G) (ct : Nat → ClassId) {T : Nat} {C : CT} {M : MT} (hR : Rel T C M)  : ∃ (a : Int32) (M2 : MT), j_ma M2 = j_ma M ∧ (∀ sz, Met l yX9_open wsX9_open (zRc 4 21 158 95) (va_Pc [.ref (k_ba C 0)] (zW g ct (CW ct C) sz)) (zEi (S := {u : CT // k_ba u = k_ba C ∧ Rel (T + 48) u M2}) g (fun u => CW ct u.1) a (va_A (CW ct C) sz)) 21 158 (va_A (CW ct C) sz)) ∧ (∀ sz, Met l yX10_open wsX10_open (zRm 3 66) (va_Pc [.ref (j_ma M 0)] (zW g ct (MWd ct M) sz)) (zEi (S := Unit) g (fun _ => MWd ct M2) a (va_A (MWd ct M) sz)) 0 0 (va_A (MWd ct M) sz)) := by
  have hS := hR.1
  have hD := lt_nS hS
  have h0 := hR.2.2.1
  have e1 := opn_eq hS
  have e4 := (od_eq hS).2.2
  by_cases h1 : (¬ (cntI (v_co (k_v C)) 2 (v_nS (k_v C)) = 0 ∧ mvI (v_co (k_v C)) (v_nS (k_v C)) = -5)) ∧ ¬ v_od (k_v C) = 2
  · have hS2 := SR_open2 hS
    refine ⟨cntI (v_co (k_v C)) 2 (v_nS (k_v C)), j_rec M (vp_updL (j_n M) 1 2) (j_re M), rfl, fun sz => ?_, fun sz => ?_⟩
    · exact lc_Qi (C3 := fun u => k_rec C (v_nS (k_v C), v_wi (k_v C), v_cr (k_v C), v_ho (k_v C), v_li (k_v C), v_co (k_v C), v_le (k_v C), v_cs (k_v C), v_nD (k_v C), v_we (k_v C), v_cl (k_v C), v_nT (k_v C), v_sw (k_v C), v_nP (k_v C), v_lim (k_v C), v_idl (k_v C), v_po (k_v C), v_pw (k_v C), v_on (k_v C), v_ra (k_v C), v_ar (k_v C), v_vo (k_v C), v_fi (k_v C), v_fo (k_v C), v_fv (k_v C), v_br (k_v C), v_pu (k_v C), v_td (k_v C), v_al (k_v C), v_h (k_v C), 2, v_cb (k_v C), v_dl (k_v C)) u) (wd := txW ct (k_ba C 3) (k_ba C 4) (k_ba C 5) (k_len C) (k_ch C) (k_te C) (k_lv C) ++ stW ct (k_bd C) (k_tv C)) (fun u => ⟨rfl, Rel_rec hR (by omega) (hS2) (Nat.le_trans hR.2.1 (by omega)) u⟩) (fun _ => rfl) (fun _ => rfl) (List.Perm.refl _) (fun _ => List.Perm.refl _) (c_X9_open_b l g ct sz (k_ba C 0) (k_bd C 0) (k_ba C 1) (k_ba C 3) (snV (k_sn C)) (k_ad C) (k_v C) (k_ba C 2) (k_old C) (k_many C) (k_r C) h0.1 h0.2.1 (lt_01 hS) hD.1 h1) (Nat.le_of_ble_eq_true rfl) (Nat.le_of_ble_eq_true rfl) (Nat.le_of_ble_eq_true rfl) (Nat.le_of_ble_eq_true rfl)
    · have hm := c_X10_open_b l g ct sz (j_ma M 0) (j_ma M 1) (j_ma M 2) (j_ma M 3) (j_ma M 4) (j_ma M 5) (j_ma M 6) (j_ma M 7) (j_ma M 8) (j_ma M 9) (j_n M) (j_hy M) (j_sl M) (j_sp M) (j_re M) (j_rh M) (j_rs M) (j_kp M) (j_fl M) (j_tn M) (j_tx M) (j_pa M) (j_rn M) (j_rd M) (by have := h0.2.1; have := h0.2.2; omega) (v_nS (k_v C)) hD.1 hD.2 ⟨fun z => h1.1 (e1.mp z), fun z => h1.2 (e4.mp z)⟩
      have e5 := st_eq hS2 2
      exact lm_Wi (e5 ▸ hm) (Nat.le_of_ble_eq_true rfl) (Nat.le_of_ble_eq_true rfl) (Nat.le_of_ble_eq_true rfl) (Nat.le_of_ble_eq_true rfl)
  · refine ⟨if cntI (v_co (k_v C)) 2 (v_nS (k_v C)) = 0 ∧ mvI (v_co (k_v C)) (v_nS (k_v C)) = -5 then -4 else -5, M, rfl, fun sz => ?_, fun sz => ?_⟩
    · exact lc_Ri (wd := hstW ct (k_ba C 1) (k_ba C 2) (k_old C) (k_many C) (k_r C) ++ (txW ct (k_ba C 3) (k_ba C 4) (k_ba C 5) (k_len C) (k_ch C) (k_te C) (k_lv C) ++ stW ct (k_bd C) (k_tv C))) ⟨rfl, Rel_m (by omega) hR⟩ (List.Perm.refl _) (c_X9_open_a l g ct (k_ba C 0) (k_bd C 0) (k_ba C 1) (k_ba C 3) (snV (k_sn C)) (k_ad C) (k_v C) hD.1 h1) (Nat.le_of_ble_eq_true rfl) (Nat.le_of_ble_eq_true rfl) (Nat.le_of_ble_eq_true rfl) (Nat.le_of_ble_eq_true rfl)
    · have hm := c_X10_open_a l g ct (j_ma M 0) (j_ma M 1) (j_ma M 2) (j_ma M 3) (j_ma M 4) (j_ma M 5) (j_ma M 6) (j_ma M 7) (j_ma M 8) (j_ma M 9) (j_n M) (j_hy M) (j_sl M) (j_sp M) (j_re M) (j_rh M) (j_rs M) (j_kp M) (j_fl M) (j_tn M) (j_tx M) (j_pa M) (j_rn M) (j_rd M) (v_nS (k_v C)) hD.1 hD.2 (fun q => h1 ⟨fun z => q.1 (e1.mpr z), fun z => q.2 (e4.mpr z)⟩)
      have e6 : (if mstI (j_n M) 2 (v_nS (k_v C)) + mstI (j_n M) 1 (v_nS (k_v C)) + mstI (j_n M) 3 (v_nS (k_v C)) = 0 then (-4 : Int32) else -5) = if cntI (v_co (k_v C)) 2 (v_nS (k_v C)) = 0 ∧ mvI (v_co (k_v C)) (v_nS (k_v C)) = -5 then -4 else -5 := by
        by_cases q : mstI (j_n M) 2 (v_nS (k_v C)) + mstI (j_n M) 1 (v_nS (k_v C)) + mstI (j_n M) 3 (v_nS (k_v C)) = 0
        · rw [if_pos q, if_pos (e1.mp q)]
        · rw [if_neg q, if_neg (fun z => q (e1.mpr z))]
      rw [e6] at hm
      exact lm_Ri hm (Nat.le_of_ble_eq_true rfl) (Nat.le_of_ble_eq_true rfl) (Nat.le_of_ble_eq_true rfl) (Nat.le_of_ble_eq_true rfl)
