theorem isF_tk (n : Nat → Int64) (x : Int64) : isF n x = tkL x (n 12) := by
  unfold isF tkL
  by_cases c : n 12 < x
  · rw [if_pos c, if_pos (Int64.le_of_lt c)]
  · by_cases d : n 12 ≤ x
    · rw [if_pos d, if_neg c]
      exact Int64.le_antisymm d (Int64.not_lt.mp c)
    · rw [if_neg d, if_neg c]
theorem finN_at (n : Nat → Int64) (x : Int64) {w : Nat} (hw : w ≠ 12) : finN n x w 12 = n 12 + x ∧ finN n x w w = n w + x := by
  unfold finN
  exact ⟨by rw [pk_uLn (Ne.symm hw), pk_uLs], by rw [pk_uLs, pk_uLn hw]⟩
theorem foutN_at (n : Nat → Int64) (x : Int64) {w : Nat} (hw : w ≠ 12) : foutN n x w 12 = n 12 - tkL x (n 12) ∧ foutN n x w w = n w + tkL x (n 12) := by
  unfold foutN
  rw [isF_tk]
  exact ⟨by rw [pk_uLn (Ne.symm hw), pk_uLs], by rw [pk_uLs, pk_uLn hw]⟩
theorem fl_a {wi co : Nat → Int32} {n : Nat → Int64} {nS : Nat} (hs : ∀ k, k < nS → (n (20 + 6 * k + 0)).toInt32 = wi k ∧ (n (20 + 6 * k + 3)).toInt32 = co k) (o i : UInt64) (k : Nat) (hk : k ≤ nS) : mflA o i n k 12 = (lp (ltS wi co o i) k (n 12, n 13, n 14)).1 ∧ mflA o i n k 13 = (lp (ltS wi co o i) k (n 12, n 13, n 14)).2.1 ∧ mflA o i n k 14 = (lp (ltS wi co o i) k (n 12, n 13, n 14)).2.2 := by
  induction k with
  | zero => exact ⟨rfl, rfl, rfl⟩
  | succ k ih =>
    obtain ⟨i1, i2, i3⟩ := ih (by omega)
    have h0 := (hs k (by omega)).1
    have h3 := (hs k (by omega)).2
    rw [mflA_s, lp_s]
    generalize hm : mflA o i n k = m at i1 i2 i3 ⊢
    generalize lp (ltS wi co o i) k (n 12, n 13, n 14) = t at i1 i2 i3 ⊢
    have e0 : (m (20 + 6 * k + 0)).toInt32 = wi k := by rw [← hm, mflA_n (by omega) (by omega) (by omega)]; exact h0
    have e3 : (m (20 + 6 * k + 3)).toInt32 = co k := by rw [← hm, mflA_n (by omega) (by omega) (by omega)]; exact h3
    unfold mflS ltS
    rw [e0, e3]
    by_cases c : co k = 2
    · rw [if_pos c, if_pos c]
      exact ⟨i1, i2, i3⟩
    · rw [if_neg c, if_neg c]
      show (if thrW (wi k) (FP.dsub o i) ≤ 0 then foutN m (-thrW (wi k) (FP.dsub o i)) 14 else finN m (thrW (wi k) (FP.dsub o i)) 13) 12 = _ ∧ (if thrW (wi k) (FP.dsub o i) ≤ 0 then foutN m (-thrW (wi k) (FP.dsub o i)) 14 else finN m (thrW (wi k) (FP.dsub o i)) 13) 13 = _ ∧ (if thrW (wi k) (FP.dsub o i) ≤ 0 then foutN m (-thrW (wi k) (FP.dsub o i)) 14 else finN m (thrW (wi k) (FP.dsub o i)) 13) 14 = _
      unfold flT
      generalize thrW (wi k) (FP.dsub o i) = x
      by_cases d : x ≤ 0
      · rw [if_pos d, if_pos d, ← i1, ← i2, ← i3]
        exact ⟨(foutN_at m (-x) (by decide)).1, foutN_n (by decide) (by decide), (foutN_at m (-x) (by decide)).2⟩
      · rw [if_neg d, if_neg d, ← i1, ← i2, ← i3]
        exact ⟨(finN_at m x (by decide)).1, (finN_at m x (by decide)).2, finN_n (by decide) (by decide)⟩
theorem fl_b {wi co : Nat → Int32} {cr : Nat → Int64} {re : Nat → UInt64} {n : Nat → Int64} {nS : Nat} (hs : ∀ k, k < nS → (n (20 + 6 * k + 0)).toInt32 = wi k ∧ (n (20 + 6 * k + 3)).toInt32 = co k ∧ re (25 + k) = (cr k).toUInt64) (o : UInt64) (k : Nat) (hk : k ≤ nS) : mflB re o n k 12 = (lp (ovS wi cr co o) k (n 12, n 15)).1 ∧ mflB re o n k 15 = (lp (ovS wi cr co o) k (n 12, n 15)).2 := by
  induction k with
  | zero => exact ⟨rfl, rfl⟩
  | succ k ih =>
    obtain ⟨i1, i2⟩ := ih (by omega)
    have h0 := (hs k (by omega)).1
    have h3 := (hs k (by omega)).2.1
    rw [mflB_s, lp_s]
    generalize hm : mflB re o n k = m at i1 i2 ⊢
    generalize lp (ovS wi cr co o) k (n 12, n 15) = t at i1 i2 ⊢
    have e0 : (m (20 + 6 * k + 0)).toInt32 = wi k := by rw [← hm, mflB_n (by omega) (by omega)]; exact h0
    have e3 : (m (20 + 6 * k + 3)).toInt32 = co k := by rw [← hm, mflB_n (by omega) (by omega)]; exact h3
    unfold movS ovS
    rw [e0, e3, (hs k (by omega)).2.2]
    by_cases c : co k = 2
    · rw [if_pos c, if_pos c]
      by_cases d : 0 ≤ Op.cmpValue (FP.dcmp (cr k).toUInt64 o) CmpOp.g
      · rw [if_pos d, if_pos d]
        exact ⟨i1, i2⟩
      · rw [if_neg d, if_neg d]
        show finN m (ovW (wi k) (FP.dsub o (cr k).toUInt64)) 15 12 = _ ∧ finN m (ovW (wi k) (FP.dsub o (cr k).toUInt64)) 15 15 = _
        generalize ovW (wi k) (FP.dsub o (cr k).toUInt64) = x
        rw [← i1, ← i2]
        exact finN_at m x (by decide)
    · rw [if_neg c, if_neg c]
      exact ⟨i1, i2⟩
theorem fl_c {sw : Nat → Int32} {n : Nat → Int64} {nT : Nat} (hs : ∀ k, k < nT → n (80 + k) = (sw k).toInt64) (k : Nat) (hk : k ≤ nT) : mflC n k 12 = (lp (brS sw) k (n 12, n 16)).1 ∧ mflC n k 16 = (lp (brS sw) k (n 12, n 16)).2 := by
  induction k with
  | zero => exact ⟨rfl, rfl⟩
  | succ k ih =>
    obtain ⟨i1, i2⟩ := ih (by omega)
    rw [mflC_s, lp_s]
    generalize hm : mflC n k = m at i1 i2 ⊢
    generalize lp (brS sw) k (n 12, n 16) = t at i1 i2 ⊢
    have e0 : m (80 + k) = (sw k).toInt64 := by rw [← hm, mflC_n (by omega) (by omega)]; exact hs k (by omega)
    unfold mbrS brS
    rw [e0, ← i1, ← i2]
    exact finN_at m _ (by decide)

set_option maxHeartbeats 4000000 in
theorem SR_flow {v : SVT} {n : Nat → Int64} {re : Nat → UInt64} (h : SR v n re) : SR (v_nS v, v_wi v, v_cr v, v_ho v, v_li v, v_co v, v_le v, v_cs v, v_nD v, v_we v, v_cl v, v_nT v, v_sw v, v_nP v, v_lim v, v_idl v, v_po v, v_pw v, v_on v, v_ra v, v_ar v, (lp (brS (v_sw v)) (v_nT v) ((lp (ovS (v_wi v) (v_cr v) (v_co v) (v_td v (v_h v % 24)).toUInt64) (v_nS v) ((lp (ltS (v_wi v) (v_co v) (v_td v (v_h v % 24)).toUInt64 (FP.ddiv (FP.l2d (v_vo v)) (FP.i2d (v_ar v)))) (v_nS v) (v_vo v, v_fi v, v_fo v)).1, v_fv v)).1, v_br v)).1, (lp (ltS (v_wi v) (v_co v) (v_td v (v_h v % 24)).toUInt64 (FP.ddiv (FP.l2d (v_vo v)) (FP.i2d (v_ar v)))) (v_nS v) (v_vo v, v_fi v, v_fo v)).2.1, (lp (ltS (v_wi v) (v_co v) (v_td v (v_h v % 24)).toUInt64 (FP.ddiv (FP.l2d (v_vo v)) (FP.i2d (v_ar v)))) (v_nS v) (v_vo v, v_fi v, v_fo v)).2.2, (lp (ovS (v_wi v) (v_cr v) (v_co v) (v_td v (v_h v % 24)).toUInt64) (v_nS v) ((lp (ltS (v_wi v) (v_co v) (v_td v (v_h v % 24)).toUInt64 (FP.ddiv (FP.l2d (v_vo v)) (FP.i2d (v_ar v)))) (v_nS v) (v_vo v, v_fi v, v_fo v)).1, v_fv v)).2, (lp (brS (v_sw v)) (v_nT v) ((lp (ovS (v_wi v) (v_cr v) (v_co v) (v_td v (v_h v % 24)).toUInt64) (v_nS v) ((lp (ltS (v_wi v) (v_co v) (v_td v (v_h v % 24)).toUInt64 (FP.ddiv (FP.l2d (v_vo v)) (FP.i2d (v_ar v)))) (v_nS v) (v_vo v, v_fi v, v_fo v)).1, v_fv v)).1, v_br v)).2, v_pu v, v_td v, v_al v, v_h v, v_od v, v_cb v, v_dl v) (mflN n re (v_nS v) (v_nT v) (v_h v)) re := by
  have hw := h.2.2.2.2.2.2.1
  have hsec := h.2.2.2.2.2.2.2.1
  have hcr := h.2.2.2.2.2.2.2.2.2.2.2.2.2.2.2.1
  have htd := h.2.2.2.2.2.2.2.2.2.2.2.2.2.2.1
  have hst := h.2.2.2.2.2.2.2.2.2.2.2.1
  have eo : re (1 + v_h v % 24) = (v_td v (v_h v % 24)).toUInt64 := (htd _ (m24 _)).1
  have ei : miD n (n 12) = FP.ddiv (FP.l2d (v_vo v)) (FP.i2d (v_ar v)) := by rw [inn_eq h, hw.1]
  have q1 := fl_a (fun k hk => ⟨(hsec k hk).1, (hsec k hk).2.2.2.1⟩) (re (1 + v_h v % 24)) (miD n (n 12)) (v_nS v) (Nat.le_refl _)
  rw [hw.1, hw.2.1, hw.2.2.1] at q1
  have q2 := fl_b (n := mflA (re (1 + v_h v % 24)) (miD n (n 12)) n (v_nS v)) (re := re) (wi := v_wi v) (co := v_co v) (cr := v_cr v) (nS := v_nS v) (fun k hk => ⟨by rw [mflA_n (by omega) (by omega) (by omega)]; exact (hsec k hk).1, by rw [mflA_n (by omega) (by omega) (by omega)]; exact (hsec k hk).2.2.2.1, (hcr k hk).1⟩) (re (1 + v_h v % 24)) (v_nS v) (Nat.le_refl _)
  rw [hw.1] at q2
  rw [q1.1, mflA_n (j := 15) (by decide) (by decide) (by decide), hw.2.2.2.1] at q2
  have q3 := fl_c (n := mflB re (re (1 + v_h v % 24)) (mflA (re (1 + v_h v % 24)) (miD n (n 12)) n (v_nS v)) (v_nS v)) (sw := v_sw v) (nT := v_nT v) (fun k hk => by have := (lt_nT h).1; rw [mflB_n (by omega) (by omega), mflA_n (by omega) (by omega) (by omega)]; exact hst k hk) (v_nT v) (Nat.le_refl _)
  rw [hw.1] at q3
  rw [q2.1, mflB_n (j := 16) (by decide) (by decide), mflA_n (j := 16) (by decide) (by decide) (by decide), hw.2.2.2.2.1] at q3
  have q4 : miD n (v_vo v) = FP.ddiv (FP.l2d (v_vo v)) (FP.i2d (v_ar v)) := inn_eq h _
  rw [eo, q4] at q1 q2 q3
  have hN : mflN n re (v_nS v) (v_nT v) (v_h v) = mflC (mflB re (v_td v (v_h v % 24)).toUInt64 (mflA (v_td v (v_h v % 24)).toUInt64 (FP.ddiv (FP.l2d (v_vo v)) (FP.i2d (v_ar v))) n (v_nS v)) (v_nS v)) (v_nT v) := by
    unfold mflN
    rw [eo, ei]
  refine SR_water h (fun j hj => mflN_n hj) ?_ ?_ ?_ ?_ ?_
  · rw [hN]; exact q3.1
  · rw [hN, mflC_n (by decide) (by decide), mflB_n (by decide) (by decide)]; exact q1.2.1
  · rw [hN, mflC_n (by decide) (by decide), mflB_n (by decide) (by decide)]; exact q1.2.2
  · rw [hN, mflC_n (by decide) (by decide)]; exact q2.2
  · rw [hN]; exact q3.2

theorem mdr_c {n m : Nat → Int64} (h6 : m 6 = n 6) {nP : Nat} (h : ∀ k, k < nP → m (84 + 4 * k + 0) = n (84 + 4 * k + 0) ∧ m (84 + 4 * k + 2) = n (84 + 4 * k + 2)) (k : Nat) (hk : k ≤ nP) : mdr m k = mdr n k := by
  induction k with
  | zero => exact (lp_0 _ _).trans (lp_0 _ _).symm
  | succ k ih =>
    have h1 := h k (by omega)
    have i1 := ih (by omega)
    have e : mrP m (mdr n k) k ↔ mrP n (mdr n k) k := by
      unfold mrP
      rw [h6, h1.1, h1.2]
    rw [mdr_s2, mdr_s2, i1]
    by_cases c : mrP n (mdr n k) k
    · rw [if_pos c, if_pos (e.mpr c), h1.1]
    · rw [if_neg c, if_neg (fun z => c (e.mp z))]
theorem ru_eq {n : Nat → Int64} {on po pw ra : Nat → Int32} {lim : Int32} {nP : Nat} (hP : nP ≤ 6) (h6 : n 6 = lim.toInt64) (hs : ∀ k, k < nP → (n (84 + 4 * k + 0)).toInt32 = po k ∧ (n (84 + 4 * k + 1)).toInt32 = pw k ∧ (n (84 + 4 * k + 2)).toInt32 = on k ∧ (on k = 0 ∨ on k = 1) ∧ (n (84 + 4 * k + 3)).toInt32 = ra k) (k : Nat) (hk : k ≤ nP) :
    (lp (ruS on po pw lim) k (0, 0, ra, n 12, n 17)).1 = drN on po lim k ∧ (mpuN n k 11).toInt32 = (lp (ruS on po pw lim) k (0, 0, ra, n 12, n 17)).2.1 ∧ (∀ j, j < nP → (mpuN n k (84 + 4 * j + 3)).toInt32 = (lp (ruS on po pw lim) k (0, 0, ra, n 12, n 17)).2.2.1 j) ∧ mpuN n k 12 = (lp (ruS on po pw lim) k (0, 0, ra, n 12, n 17)).2.2.2.1 ∧ mpuN n k 17 = (lp (ruS on po pw lim) k (0, 0, ra, n 12, n 17)).2.2.2.2 := by
  induction k with
  | zero =>
    refine ⟨rfl, by show (vp_updL n 11 0 11).toInt32 = 0; rw [pk_uLs]; rfl, fun j hj => by show (vp_updL n 11 0 (84 + 4 * j + 3)).toInt32 = ra j; rw [pk_uLn (by omega)]; exact (hs j hj).2.2.2.2, by show vp_updL n 11 0 12 = n 12; rw [pk_uLn (by omega)], by show vp_updL n 11 0 17 = n 17; rw [pk_uLn (by omega)]⟩
  | succ k ih =>
    obtain ⟨i0, i1, i2, i3, i4⟩ := ih (by omega)
    have hk1 := hs k (by omega)
    have m6 : mpuN n k 6 = n 6 := mpuN_n (by omega) (by omega) (by omega) (fun i hi => by omega)
    have mc : ∀ j, j < nP → mpuN n k (84 + 4 * j + 0) = n (84 + 4 * j + 0) ∧ mpuN n k (84 + 4 * j + 2) = n (84 + 4 * j + 2) := fun j hj => ⟨mpuN_n (by omega) (by omega) (by omega) (fun i hi => by omega), mpuN_n (by omega) (by omega) (by omega) (fun i hi => by omega)⟩
    have m1 : mpuN n k (84 + 4 * k + 1) = n (84 + 4 * k + 1) := mpuN_n (by omega) (by omega) (by omega) (fun i hi => by omega)
    have md : mdr (mpuN n k) k = drN on po lim k := by
      rw [mdr_c m6 mc k (by omega)]
      exact dr_eq h6 (fun j hj => ⟨(hs j hj).1, (hs j hj).2.2.1, (hs j hj).2.2.2.1⟩) k (by omega)
    have hr := rb_eq (n := mpuN n k) (on := on) (po := po) (lim := lim) (k := k) (by rw [m6]; exact h6) (by rw [(mc k (by omega)).1]; exact hk1.1) (by rw [(mc k (by omega)).2]; exact hk1.2.2.1) hk1.2.2.2.1 (drN on po lim k)
    rw [mpuN_s, lp_s, drN_s]
    generalize mpuN n k = m at i1 i2 i3 i4 m1 md hr ⊢
    generalize lp (ruS on po pw lim) k (0, 0, ra, n 12, n 17) = t at i0 i1 i2 i3 i4 ⊢
    unfold mpuS ruS
    rw [md, i0]
    by_cases c : rbP on po lim (drN on po lim k) k
    · rw [if_pos c, if_pos c, if_pos (hr.mpr c)]
      have e1 : (vp_updL m (84 + 4 * k + 3) (m (84 + 4 * k + 3) + 1) (84 + 4 * k + 1)).toInt32.toInt64 = (pw k).toInt64 := by rw [pk_uLn (by omega), m1, hk1.2.1]
      rw [e1]
      generalize hm2 : vp_updL m (84 + 4 * k + 3) (m (84 + 4 * k + 3) + 1) = m2
      have e12 : m2 12 = m 12 := by rw [← hm2, pk_uLn (by omega)]
      have e17 : m2 17 = m 17 := by rw [← hm2, pk_uLn (by omega)]
      have hf := foutN_at m2 (pw k).toInt64 (w := 17) (by decide)
      rw [e12, e17, i3, i4] at hf
      refine ⟨rfl, ?_, fun j hj => ?_, hf.1, hf.2⟩
      · rw [foutN_n (by decide) (by decide), ← hm2, pk_uLn (by omega)]
        exact i1
      · rw [foutN_n (by omega) (by omega), ← hm2]
        show _ = upd t.2.2.1 k (t.2.2.1 k + 1) j
        by_cases d : j = k
        · subst d
          rw [pk_us, pk_uLs, Int64.toInt32_add, i2 j hj]
          rfl
        · rw [pk_un d, pk_uLn (by omega)]
          exact i2 j hj
    · rw [if_neg c, if_neg c, if_neg (fun z => c (hr.mp z))]
      refine ⟨rfl, ?_, fun j hj => ?_, ?_, ?_⟩
      · rw [pk_uLs, Int64.toInt32_add, i1]; rfl
      · rw [pk_uLn (by omega)]; exact i2 j hj
      · rw [pk_uLn (by omega)]; exact i3
      · rw [pk_uLn (by omega)]; exact i4

set_option maxHeartbeats 4000000 in
theorem SR_pump {v : SVT} {n : Nat → Int64} {re : Nat → UInt64} (h : SR v n re) : SR (v_nS v, v_wi v, v_cr v, v_ho v, v_li v, v_co v, v_le v, v_cs v, v_nD v, v_we v, v_cl v, v_nT v, v_sw v, v_nP v, v_lim v, (lp (ruS (v_on v) (v_po v) (v_pw v) (v_lim v)) (v_nP v) (0, 0, v_ra v, v_vo v, v_pu v)).2.1, v_po v, v_pw v, v_on v, (lp (ruS (v_on v) (v_po v) (v_pw v) (v_lim v)) (v_nP v) (0, 0, v_ra v, v_vo v, v_pu v)).2.2.1, v_ar v, (lp (ruS (v_on v) (v_po v) (v_pw v) (v_lim v)) (v_nP v) (0, 0, v_ra v, v_vo v, v_pu v)).2.2.2.1, v_fi v, v_fo v, v_fv v, v_br v, (lp (ruS (v_on v) (v_po v) (v_pw v) (v_lim v)) (v_nP v) (0, 0, v_ra v, v_vo v, v_pu v)).2.2.2.2, v_td v, v_al v, v_h v, v_od v, v_cb v, v_dl v) (mpuN n (v_nP v)) re := by
  have hw := h.2.2.2.2.2.2.1
  have hP := (lt_nP h).1
  have hp := SR_p h
  have q := ru_eq (ra := v_ra v) (pw := v_pw v) hP hp.1 (fun k hk => have z := h.2.2.2.2.2.2.2.2.2.2.2.2.1 k hk; ⟨z.1, z.2.1, z.2.2.1, (hp.2 k hk).2.2, z.2.2.2⟩) (v_nP v) (Nat.le_refl _)
  rw [hw.1, hw.2.2.2.2.2] at q
  exact SR_pumped h (fun j h1 h2 h3 h4 => mpuN_n h2 h3 h1 h4) q.2.1 q.2.2.2.1 q.2.2.2.2 q.2.2.1
