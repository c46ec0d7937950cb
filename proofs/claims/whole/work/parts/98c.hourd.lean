theorem i16 {x : Int32} (h : 1 ≤ x ∧ x ≤ 6) : x = 1 ∨ x = 2 ∨ x = 3 ∨ x = 4 ∨ x = 5 ∨ x = 6 := by
  obtain ⟨h1, h2⟩ := h
  rw [Int32.le_iff_toInt_le, show Int32.toInt 1 = 1 from rfl] at h1
  rw [Int32.le_iff_toInt_le, show Int32.toInt 6 = 6 from rfl] at h2
  have : x.toInt = 1 ∨ x.toInt = 2 ∨ x.toInt = 3 ∨ x.toInt = 4 ∨ x.toInt = 5 ∨ x.toInt = 6 := by omega
  rcases this with q | q | q | q | q | q
  · exact Or.inl (Int32.toInt_inj.mp q)
  · exact Or.inr (Or.inl (Int32.toInt_inj.mp q))
  · exact Or.inr (Or.inr (Or.inl (Int32.toInt_inj.mp q)))
  · exact Or.inr (Or.inr (Or.inr (Or.inl (Int32.toInt_inj.mp q))))
  · exact Or.inr (Or.inr (Or.inr (Or.inr (Or.inl (Int32.toInt_inj.mp q)))))
  · exact Or.inr (Or.inr (Or.inr (Or.inr (Or.inr (Int32.toInt_inj.mp q)))))
theorem i16d {x : Int32} (h : 1 ≤ x ∧ x ≤ 6) : (x - 1 ≤ 0 ↔ x - 1 = 0) ∧ (¬ x - 1 = 0 → 1 ≤ x - 1 ∧ x - 1 ≤ 6) := by
  rcases i16 h with q | q | q | q | q | q <;> (subst q; decide)
theorem mgoF_x (a : Nat → Int64) (r : Nat) : mgoF a r = if (a (20 + 6 * r + 4)).toInt32 - 1 = 0 then (if (a (20 + 6 * r + 3)).toInt32 = 1 then vp_updL (vp_updL (vp_updL (vp_updL a (20 + 6 * r + 4) ((a (20 + 6 * r + 4)).toInt32 - 1).toInt64) (20 + 6 * r + 3) (2 : Int32).toInt64) (20 + 6 * r + 5) ((a (20 + 6 * r + 5)).toInt32 + 1).toInt64) 2 0 else vp_updL (vp_updL (vp_updL (vp_updL a (20 + 6 * r + 4) ((a (20 + 6 * r + 4)).toInt32 - 1).toInt64) (20 + 6 * r + 3) (0 : Int32).toInt64) (20 + 6 * r + 5) ((a (20 + 6 * r + 5)).toInt32 + 0).toInt64) 2 0) else vp_updL a (20 + 6 * r + 4) ((a (20 + 6 * r + 4)).toInt32 - 1).toInt64 := by
  unfold mgoF
  rw [pk_uLs, toI_id, pk_uLn (f := a) (by omega), pk_uLn (by omega), pk_uLn (by omega), pk_uLn (by omega), pk_uLn (by omega)]
set_option maxHeartbeats 4000000 in
theorem SR_move {v : SVT} {n : Nat → Int64} {re : Nat → UInt64} (h : SR v n re) : SR (v_nS v, v_wi v, v_cr v, v_ho v, v_li v, gOco (v_co v) (v_le v) (v_nS v), gOle (v_co v) (v_le v) (v_nS v), gOcs (v_co v) (v_le v) (v_cs v) (v_nS v), v_nD v, v_we v, v_cl v, v_nT v, v_sw v, v_nP v, v_lim v, v_idl v, v_po v, v_pw v, v_on v, v_ra v, v_ar v, v_vo v, v_fi v, v_fo v, v_fv v, v_br v, v_pu v, v_td v, v_al v, v_h v, v_od v, v_cb v, v_dl v) (mgoE n) re := by
  have hn := (lt_nS h).1
  have ho := h.2.2.2.2.1
  have hu := h.2.2.2.2.2.2.2.2.2.1
  unfold gOco gOle gOcs
  by_cases c : mvN (v_co v) (v_nS v) < v_nS v
  · have hm := mv_sp c
    have hs := h.2.2.2.2.2.2.2.1 _ c
    have hv := h.2.2.2.2.2.2.2.2.1 _ c
    have e2 : n 2 = lN (mvN (v_co v) (v_nS v) + 1) := by rw [ho.2.2.2.1, if_pos c]
    have eE : mgoE n = mgoF n (mvN (v_co v) (v_nS v)) := by
      unfold mgoE
      rw [e2, cl_lN (by omega), if_neg (by omega)]
      rfl
    rw [eE, if_pos c, if_pos c, if_pos c]
    generalize mvN (v_co v) (v_nS v) = m at c hm hs hv e2
    have hl := i16d (hv.2.2.2 hm)
    have eF := mgoF_x n m
    rw [hs.2.2.2.2.1, hs.2.2.2.1, hs.2.2.2.2.2] at eF
    rw [eF]
    have oth : ∀ j, j < v_nS v → j ≠ m → ¬ (v_co v j = 1 ∨ v_co v j = 3) := fun j hj q z => q (hu j m hj c z hm)
    by_cases d : v_le v m - 1 = 0
    · rw [if_pos (hl.1.mpr d), if_pos (hl.1.mpr d), if_pos d]
      have stop : ∀ w0 : Int32, ¬ (w0 = 1 ∨ w0 = 3) → mvN (upd (v_co v) m w0) (v_nS v) = v_nS v := fun w0 hw => mv_no (fun j hj z => by
        by_cases q : j = m
        · rw [q, pk_us] at z
          exact hw z
        · rw [pk_un q] at z
          exact oth j hj q z)
      by_cases c1 : v_co v m = 1
      · rw [if_pos c1, if_pos c1, if_pos c1]
        refine SR_sec1 h c (fun j h1 h2 h3 h4 h5 => by rw [pk_uLn h2, pk_uLn h5, pk_uLn h3, pk_uLn h4]) (by rw [pk_uLn (by omega), pk_uLn (by omega), pk_uLn (by omega), pk_uLn (by omega)]; exact ho.2.1) ho.2.2.1 (by rw [pk_uLs, stop 2 (by decide), if_neg (Nat.lt_irrefl _)]) (by rw [pk_uLn (by omega), pk_uLn (by omega), pk_uLs, toI_id]) (by rw [pk_uLn (by omega), pk_uLn (by omega), pk_uLn (by omega), pk_uLs, toI_id]) (by rw [pk_uLn (by omega), pk_uLs, toI_id]) (by decide) (fun z => absurd z (by decide)) (fun z => absurd z (by decide))
      · rw [if_neg c1, if_neg c1, if_neg c1]
        have q := SR_sec1 (cc := 0) (ll := v_le v m - 1) (ss := v_cs v m) (od2 := v_od v) (n2 := vp_updL (vp_updL (vp_updL (vp_updL n (20 + 6 * m + 4) (v_le v m - 1).toInt64) (20 + 6 * m + 3) (0 : Int32).toInt64) (20 + 6 * m + 5) (v_cs v m + 0).toInt64) 2 0) h c (fun j h1 h2 h3 h4 h5 => by rw [pk_uLn h2, pk_uLn h5, pk_uLn h3, pk_uLn h4]) (by rw [pk_uLn (by omega), pk_uLn (by omega), pk_uLn (by omega), pk_uLn (by omega)]; exact ho.2.1) ho.2.2.1 (by rw [pk_uLs, stop 0 (by decide), if_neg (Nat.lt_irrefl _)]) (by rw [pk_uLn (by omega), pk_uLn (by omega), pk_uLs, toI_id]) (by rw [pk_uLn (by omega), pk_uLn (by omega), pk_uLn (by omega), pk_uLs, toI_id]) (by rw [pk_uLn (by omega), pk_uLs, toI_id, Int32.add_zero]) (by decide) (fun z => absurd z (by decide)) (fun z => absurd z (by decide))
        rw [upd_id] at q
        exact q
    · rw [if_neg (fun z => d (hl.1.mp z)), if_neg (fun z => d (hl.1.mp z)), if_neg d]
      have q := SR_sec1 (cc := v_co v m) (ll := v_le v m - 1) (ss := v_cs v m) (od2 := v_od v) (n2 := vp_updL n (20 + 6 * m + 4) (v_le v m - 1).toInt64) h c (fun j h1 h2 h3 h4 h5 => pk_uLn h4) (by rw [pk_uLn (by omega)]; exact ho.2.1) ho.2.2.1 (by
        rw [pk_uLn (by omega), upd_id]
        exact ho.2.2.2.1) (by rw [pk_uLn (by omega)]; exact hs.2.2.2.1) (by rw [pk_uLs, toI_id]) (by rw [pk_uLn (by omega)]; exact hs.2.2.2.2.2) hv.2.2.1 (fun _ => hl.2 d) (fun _ j hj q => oth j hj q)
      rw [upd_id, upd_id] at q
      exact q
  · have e0 : mgoE n = n := by
      unfold mgoE
      rw [no_2 h c]
      exact if_pos rfl
    rw [e0, if_neg c, if_neg c, if_neg c]
    exact h
abbrev hvV (v : SVT) : HV := (v_co v, v_le v, v_cs v, v_od v, v_h v, v_vo v, v_fi v, v_fo v, v_fv v, v_br v, v_pu v, v_idl v, v_ra v)
abbrev hvS (v : SVT) (t : HV) : SVT := (v_nS v, v_wi v, v_cr v, v_ho v, v_li v, h_co t, h_le t, h_cs t, v_nD v, v_we v, v_cl v, v_nT v, v_sw v, v_nP v, v_lim v, h_id t, v_po v, v_pw v, v_on v, h_ra t, v_ar v, h_vo t, h_fi t, h_fo t, h_fv t, h_br t, h_pu t, v_td v, v_al v, h_h t, h_od t, v_cb v, v_dl v)
theorem SR_hour {v : SVT} {n : Nat → Int64} {re : Nat → UInt64} (h : SR v n re) : SR (hvS v (psS (v_nS v) (v_wi v) (v_cr v) (v_ho v) (v_li v) (v_nT v) (v_sw v) (v_nP v) (v_lim v) (v_po v) (v_pw v) (v_on v) (v_ar v) (v_td v) (hvV v))) (mgoN n re (v_nS v) (v_nT v) (v_nP v) (v_h v)) re := by
  have h1 := (SR_fol h).1
  have h2 := SR_flow h1
  have h3 := SR_pump h2
  have h4 := SR_move h3
  have h5 := SR_hour1 (n2 := mgoN n re (v_nS v) (v_nT v) (v_nP v) (v_h v)) h4 (fun j hj => pk_uLn hj) pk_uLs
  exact h5
theorem psL_s (nS : Nat) (wi : Nat → Int32) (cr : Nat → Int64) (ho li : Nat → Int32) (nT : Nat) (sw : Nat → Int32) (nP : Nat) (lim : Int32) (po pw on : Nat → Int32) (ar : Int32) (td : Nat → Int64) (t : HV) (k : Nat) : psL nS wi cr ho li nT sw nP lim po pw on ar td t (k + 1) = psS nS wi cr ho li nT sw nP lim po pw on ar td (psL nS wi cr ho li nT sw nP lim po pw on ar td t k) := rfl
theorem SR_hours {v : SVT} {n : Nat → Int64} {re : Nat → UInt64} (h : SR v n re) (k : Nat) : SR (hvS v (psL (v_nS v) (v_wi v) (v_cr v) (v_ho v) (v_li v) (v_nT v) (v_sw v) (v_nP v) (v_lim v) (v_po v) (v_pw v) (v_on v) (v_ar v) (v_td v) (hvV v) k)) (mpsN n re (v_nS v) (v_nT v) (v_nP v) (v_h v) k) re := by
  induction k with
  | zero => exact h
  | succ k ih =>
    have q := SR_hour ih
    have e := h_h_psL (v_nS v) (v_wi v) (v_cr v) (v_ho v) (v_li v) (v_nT v) (v_sw v) (v_nP v) (v_lim v) (v_po v) (v_pw v) (v_on v) (v_ar v) (v_td v) (hvV v) k
    rw [psL_s, mpsN_s]
    have q : SR (hvS v (psS (v_nS v) (v_wi v) (v_cr v) (v_ho v) (v_li v) (v_nT v) (v_sw v) (v_nP v) (v_lim v) (v_po v) (v_pw v) (v_on v) (v_ar v) (v_td v) (psL (v_nS v) (v_wi v) (v_cr v) (v_ho v) (v_li v) (v_nT v) (v_sw v) (v_nP v) (v_lim v) (v_po v) (v_pw v) (v_on v) (v_ar v) (v_td v) (hvV v) k))) (mgoN (mpsN n re (v_nS v) (v_nT v) (v_nP v) (v_h v) k) re (v_nS v) (v_nT v) (v_nP v) (h_h (psL (v_nS v) (v_wi v) (v_cr v) (v_ho v) (v_li v) (v_nT v) (v_sw v) (v_nP v) (v_lim v) (v_po v) (v_pw v) (v_on v) (v_ar v) (v_td v) (hvV v) k))) re := q
    rw [e] at q
    exact q
theorem SR_jams {v : SVT} {n : Nat → Int64} {re : Nat → UInt64} (h : SR v n re) (k : Nat) : mpsJ n re (v_nS v) (v_nT v) (v_nP v) (v_h v) k = psJ (v_nS v) (v_wi v) (v_cr v) (v_ho v) (v_li v) (v_nT v) (v_sw v) (v_nP v) (v_lim v) (v_po v) (v_pw v) (v_on v) (v_ar v) (v_td v) (hvV v) k := by
  induction k with
  | zero => rfl
  | succ k ih =>
    have q := (SR_fol (SR_hours h k)).2
    have q : snJ (h_od (psL (v_nS v) (v_wi v) (v_cr v) (v_ho v) (v_li v) (v_nT v) (v_sw v) (v_nP v) (v_lim v) (v_po v) (v_pw v) (v_on v) (v_ar v) (v_td v) (hvV v) k)) (v_li v) (h_co (psL (v_nS v) (v_wi v) (v_cr v) (v_ho v) (v_li v) (v_nT v) (v_sw v) (v_nP v) (v_lim v) (v_po v) (v_pw v) (v_on v) (v_ar v) (v_td v) (hvV v) k)) (h_cs (psL (v_nS v) (v_wi v) (v_cr v) (v_ho v) (v_li v) (v_nT v) (v_sw v) (v_nP v) (v_lim v) (v_po v) (v_pw v) (v_on v) (v_ar v) (v_td v) (hvV v) k)) (v_nS v) ↔ folJ (mpsN n re (v_nS v) (v_nT v) (v_nP v) (v_h v) k) (v_nS v) := q
    rw [psJ_s, mpsJ_s, ih]
    by_cases c : folJ (mpsN n re (v_nS v) (v_nT v) (v_nP v) (v_h v) k) (v_nS v)
    · rw [if_pos c, if_pos (q.mpr c)]
    · rw [if_neg c, if_neg (fun z => c (q.mp z)), Int32.add_zero]
theorem SR_mok {v : SVT} {n : Nat → Int64} {re : Nat → UInt64} (h : SR v n re) : mok n re (v_nS v) := by
  have hsec := h.2.2.2.2.2.2.2.1
  have hinv := h.2.2.2.2.2.2.2.2.1
  have har := h.2.2.2.2.2.1.2.1
  have htd := h.2.2.2.2.2.2.2.2.2.2.2.2.2.2.1
  have hcr := h.2.2.2.2.2.2.2.2.2.2.2.2.2.2.2.1
  refine ⟨fun w => by rw [inn_eq h]; exact nn_inn har w, fun w j hj => by rw [inn_eq h, (htd j hj).1]; exact nn_sub (htd j hj).2 har w, fun k hk => ?_, fun k w j hk hj => ?_, fun k j hk hj => ?_⟩
  · have e : mwI n k = v_wi v k := (hsec k hk).1
    rw [e]
    exact ⟨(nn_mul (hinv k hk).1 (htd 0 (by omega)).2 har 0).1, (nn_ov (hinv k hk).1 (htd 0 (by omega)).2 (htd 0 (by omega)).2).2.1⟩
  · have e : mwI n k = v_wi v k := (hsec k hk).1
    rw [e, inn_eq h, (htd j hj).1]
    exact (nn_mul (hinv k hk).1 (htd j hj).2 har w).2
  · have e : mwI n k = v_wi v k := (hsec k hk).1
    rw [e, (htd j hj).1, (hcr k hk).1]
    have z := nn_ov (hinv k hk).1 (htd j hj).2 (hcr k hk).2
    exact ⟨z.1, z.2.2⟩
theorem SR_mv {v : SVT} {n : Nat → Int64} {re : Nat → UInt64} (h : SR v n re) : ∃ q, q ≤ v_nS v ∧ n 2 = lN q := by
  by_cases c : mvN (v_co v) (v_nS v) < v_nS v
  · exact ⟨mvN (v_co v) (v_nS v) + 1, c, by rw [h.2.2.2.2.1.2.2.2.1, if_pos c]⟩
  · exact ⟨0, Nat.zero_le _, no_2 h c⟩
