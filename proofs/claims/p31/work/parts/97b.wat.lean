/-! the account of all water in an hour; what holds after hours -/
section WAT
def W5 (vo fi fo fv br pu : Int64) : Prop := vo = fi - fo + fv + br - pu
theorem w5_out {vo fi fo fv br pu : Int64} (h : W5 vo fi fo fv br pu) (x : Int64) : W5 (vo - x) fi (fo + x) fv br pu := by
  unfold W5 at *
  rw [h]
  simp only [Int64.sub_eq_add_neg, Int64.neg_add]
  ac_rfl
theorem w5_in {vo fi fo fv br pu : Int64} (h : W5 vo fi fo fv br pu) (x : Int64) : W5 (vo + x) (fi + x) fo fv br pu := by
  unfold W5 at *
  rw [h]
  simp only [Int64.sub_eq_add_neg]
  ac_rfl
theorem w5_ov {vo fi fo fv br pu : Int64} (h : W5 vo fi fo fv br pu) (x : Int64) : W5 (vo + x) fi fo (fv + x) br pu := by
  unfold W5 at *
  rw [h]
  simp only [Int64.sub_eq_add_neg]
  ac_rfl
theorem w5_br {vo fi fo fv br pu : Int64} (h : W5 vo fi fo fv br pu) (x : Int64) : W5 (vo + x) fi fo fv (br + x) pu := by
  unfold W5 at *
  rw [h]
  simp only [Int64.sub_eq_add_neg]
  ac_rfl
theorem w5_pu {vo fi fo fv br pu : Int64} (h : W5 vo fi fo fv br pu) (x : Int64) : W5 (vo - x) fi fo fv br (pu + x) := by
  unfold W5 at *
  rw [h]
  simp only [Int64.sub_eq_add_neg, Int64.neg_add]
  ac_rfl
theorem l_add {a b : Int64} (h1 : -9223372036854775808 ≤ a.toInt + b.toInt) (h2 : a.toInt + b.toInt < 9223372036854775808) : (a + b).toInt = a.toInt + b.toInt := by
  rw [Int64.toInt_add]
  exact Int.bmod_eq_of_le (by omega) (by omega)
theorem l_sub {a b : Int64} (h1 : -9223372036854775808 ≤ a.toInt - b.toInt) (h2 : a.toInt - b.toInt < 9223372036854775808) : (a - b).toInt = a.toInt - b.toInt := by
  rw [Int64.toInt_sub]
  exact Int.bmod_eq_of_le (by omega) (by omega)
theorem l_neg {a : Int64} (h1 : -9000000000000000000 < a.toInt) : (-a).toInt = -a.toInt := FP.Core.int64_neg (by omega)
theorem tk_b {w v : Int64} (hw : 0 ≤ w.toInt) (hv : 0 ≤ v.toInt) : 0 ≤ (tkL w v).toInt ∧ (tkL w v).toInt ≤ v.toInt := by
  unfold tkL
  by_cases h : v < w
  · rw [if_pos h]; omega
  · rw [if_neg h]
    rw [Int64.lt_iff_toInt_lt] at h
    omega
theorem tk_s {w v : Int64} (hw : 0 ≤ w.toInt) (hv : 0 ≤ v.toInt) : 0 ≤ (v - tkL w v).toInt ∧ (v - tkL w v).toInt ≤ v.toInt := by
  obtain ⟨h1, h2⟩ := tk_b hw hv
  have h3 := Int64.toInt_lt v
  rw [l_sub (by omega) (by omega)]
  omega
theorem fl_b {w : Int64} {t : Int64 × Int64 × Int64} {fv br pu : Int64} (h : W5 t.1 t.2.1 t.2.2 fv br pu) (h0 : 0 ≤ t.1.toInt) (h1 : t.1.toInt ≤ 1000000000000) (hw : -(144115188075855872 : Int) ≤ w.toInt ∧ w.toInt ≤ 450000) : W5 (flT w t).1 (flT w t).2.1 (flT w t).2.2 fv br pu ∧ 0 ≤ (flT w t).1.toInt ∧ (flT w t).1.toInt ≤ t.1.toInt + 450000 := by
  unfold flT
  by_cases q : w ≤ 0
  · rw [if_pos q]
    rw [Int64.le_iff_toInt_le] at q
    have z : Int64.toInt 0 = 0 := rfl
    have hn : (-w).toInt = -w.toInt := l_neg (by omega)
    obtain ⟨a, b⟩ := tk_s (w := -w) (v := t.1) (by omega) h0
    exact ⟨w5_out h _, a, by show (t.1 - tkL (-w) t.1).toInt ≤ _; omega⟩
  · rw [if_neg q]
    rw [Int64.le_iff_toInt_le] at q
    have z : Int64.toInt 0 = 0 := rfl
    refine ⟨w5_in h _, ?_⟩
    show 0 ≤ (t.1 + w).toInt ∧ (t.1 + w).toInt ≤ _
    rw [l_add (by omega) (by omega)]
    omega
theorem lt_w {wi co : Nat → Int32} {out inn : UInt64} {n : Nat} (hn : n ≤ 8) (hw : ∀ k, k < n → -(144115188075855872 : Int) ≤ (thrW (wi k) (FP.dsub out inn)).toInt ∧ (thrW (wi k) (FP.dsub out inn)).toInt ≤ 450000) {vo fi fo fv br pu : Int64} (h : W5 vo fi fo fv br pu) (h0 : 0 ≤ vo.toInt) (h1 : vo.toInt ≤ 100000000000) (k : Nat) (hk : k ≤ n) : W5 (lp (ltS wi co out inn) k (vo, fi, fo)).1 (lp (ltS wi co out inn) k (vo, fi, fo)).2.1 (lp (ltS wi co out inn) k (vo, fi, fo)).2.2 fv br pu ∧ 0 ≤ (lp (ltS wi co out inn) k (vo, fi, fo)).1.toInt ∧ (lp (ltS wi co out inn) k (vo, fi, fo)).1.toInt ≤ vo.toInt + 450000 * (k : Int) := by
  induction k with
  | zero => exact ⟨h, h0, by show vo.toInt ≤ _; omega⟩
  | succ k ih =>
    obtain ⟨i1, i2, i3⟩ := ih (by omega)
    rw [lp_s]
    generalize lp (ltS wi co out inn) k (vo, fi, fo) = t at *
    unfold ltS
    by_cases q : co k = 2
    · rw [if_pos q]
      exact ⟨i1, i2, by omega⟩
    · rw [if_neg q]
      obtain ⟨j1, j2, j3⟩ := fl_b i1 i2 (by omega) (hw k (by omega))
      exact ⟨j1, j2, by omega⟩
theorem ov_w {wi co : Nat → Int32} {cr : Nat → Int64} {out : UInt64} {n : Nat} (hn : n ≤ 8) (hw : ∀ k, k < n → ¬ 0 ≤ Op.cmpValue (FP.dcmp (cr k).toUInt64 out) CmpOp.g → 0 ≤ (ovW (wi k) (FP.dsub out (cr k).toUInt64)).toInt ∧ (ovW (wi k) (FP.dsub out (cr k).toUInt64)).toInt ≤ 225000) {vo fi fo fv br pu : Int64} (h : W5 vo fi fo fv br pu) (h0 : 0 ≤ vo.toInt) (h1 : vo.toInt ≤ 200000000000) (k : Nat) (hk : k ≤ n) : W5 (lp (ovS wi cr co out) k (vo, fv)).1 fi fo (lp (ovS wi cr co out) k (vo, fv)).2 br pu ∧ 0 ≤ (lp (ovS wi cr co out) k (vo, fv)).1.toInt ∧ (lp (ovS wi cr co out) k (vo, fv)).1.toInt ≤ vo.toInt + 225000 * (k : Int) := by
  induction k with
  | zero => exact ⟨h, h0, by show vo.toInt ≤ _; omega⟩
  | succ k ih =>
    obtain ⟨i1, i2, i3⟩ := ih (by omega)
    rw [lp_s]
    generalize lp (ovS wi cr co out) k (vo, fv) = t at *
    unfold ovS
    by_cases q : co k = 2
    · rw [if_pos q]
      by_cases q2 : 0 ≤ Op.cmpValue (FP.dcmp (cr k).toUInt64 out) CmpOp.g
      · rw [if_pos q2]
        exact ⟨i1, i2, by omega⟩
      · rw [if_neg q2]
        have := hw k (by omega) q2
        refine ⟨w5_ov i1 _, ?_⟩
        show 0 ≤ (t.1 + _).toInt ∧ (t.1 + _).toInt ≤ _
        rw [l_add (by omega) (by omega)]
        omega
    · rw [if_neg q]
      exact ⟨i1, i2, by omega⟩
theorem br_w {sw : Nat → Int32} {n : Nat} (hn : n ≤ 4) (hw : ∀ k, k < n → 0 ≤ (sw k).toInt ∧ (sw k).toInt ≤ 99999) {vo fi fo fv br pu : Int64} (h : W5 vo fi fo fv br pu) (h0 : 0 ≤ vo.toInt) (h1 : vo.toInt ≤ 300000000000) (k : Nat) (hk : k ≤ n) : W5 (lp (brS sw) k (vo, br)).1 fi fo fv (lp (brS sw) k (vo, br)).2 pu ∧ 0 ≤ (lp (brS sw) k (vo, br)).1.toInt ∧ (lp (brS sw) k (vo, br)).1.toInt ≤ vo.toInt + 99999 * (k : Int) := by
  induction k with
  | zero => exact ⟨h, h0, by show vo.toInt ≤ _; omega⟩
  | succ k ih =>
    obtain ⟨i1, i2, i3⟩ := ih (by omega)
    rw [lp_s]
    generalize lp (brS sw) k (vo, br) = t at *
    have hs := hw k (by omega)
    have e : (sw k).toInt64.toInt = (sw k).toInt := Int32.toInt_toInt64 _
    refine ⟨w5_br i1 _, ?_⟩
    show 0 ≤ (t.1 + (sw k).toInt64).toInt ∧ (t.1 + (sw k).toInt64).toInt ≤ _
    rw [l_add (by omega) (by omega)]
    omega
theorem ru_w {on po pw : Nat → Int32} {lim : Int32} {n : Nat} (hn : n ≤ 6) {ra : Nat → Int32} {hh : Nat} (hp : pI n po pw ra hh) (hhh : hh ≤ 2000) {vo fi fo fv br pu : Int64} (h : W5 vo fi fo fv br pu) (h0 : 0 ≤ vo.toInt) (k : Nat) (hk : k ≤ n) : W5 (lp (ruS on po pw lim) k (0, 0, ra, vo, pu)).2.2.2.1 fi fo fv br (lp (ruS on po pw lim) k (0, 0, ra, vo, pu)).2.2.2.2 ∧ (0 ≤ (lp (ruS on po pw lim) k (0, 0, ra, vo, pu)).2.2.2.1.toInt ∧ (lp (ruS on po pw lim) k (0, 0, ra, vo, pu)).2.2.2.1.toInt ≤ vo.toInt) ∧ (0 ≤ (lp (ruS on po pw lim) k (0, 0, ra, vo, pu)).2.1.toInt ∧ (lp (ruS on po pw lim) k (0, 0, ra, vo, pu)).2.1.toInt ≤ (k : Int)) ∧ ∀ j, j < n → (j < k → 0 ≤ ((lp (ruS on po pw lim) k (0, 0, ra, vo, pu)).2.2.1 j).toInt ∧ ((lp (ruS on po pw lim) k (0, 0, ra, vo, pu)).2.2.1 j).toInt ≤ (hh : Int) + 1) ∧ (k ≤ j → (lp (ruS on po pw lim) k (0, 0, ra, vo, pu)).2.2.1 j = ra j) := by
  induction k with
  | zero => exact ⟨h, ⟨h0, Int.le_refl _⟩, ⟨(show (0 : Int) ≤ Int32.toInt 0 by decide), (show Int32.toInt 0 ≤ ((0 : Nat) : Int) by decide)⟩, fun j hj => ⟨fun q => absurd q (Nat.not_lt_zero j), fun _ => rfl⟩⟩
  | succ k ih =>
    obtain ⟨i1, i2, i3, i4⟩ := ih (by omega)
    rw [lp_s]
    generalize lp (ruS on po pw lim) k (0, 0, ra, vo, pu) = t at *
    have hpk := hp k (by omega)
    have e : (pw k).toInt64.toInt = (pw k).toInt := Int32.toInt_toInt64 _
    unfold ruS
    by_cases q : rbP on po lim t.1 k
    · rw [if_pos q]
      obtain ⟨b1, b2⟩ := tk_s (w := (pw k).toInt64) (v := t.2.2.2.1) (by omega) i2.1
      refine ⟨w5_pu i1 _, ⟨b1, by show (t.2.2.2.1 - tkL (pw k).toInt64 t.2.2.2.1).toInt ≤ _; omega⟩, ⟨i3.1, by show t.2.1.toInt ≤ _; have := i3.2; omega⟩, fun j hj => ⟨fun hjk => ?_, fun hkj => ?_⟩⟩
      · show 0 ≤ (upd t.2.2.1 k (t.2.2.1 k + 1) j).toInt ∧ (upd t.2.2.1 k (t.2.2.1 k + 1) j).toInt ≤ _
        by_cases z : j = k
        · subst z
          rw [pk_us, (i4 j hj).2 (Nat.le_refl _), i1_add hpk.2.2.1 (by omega)]
          omega
        · rw [pk_un z]
          exact (i4 j hj).1 (by omega)
      · show upd t.2.2.1 k (t.2.2.1 k + 1) j = _
        rw [pk_un (by omega)]
        exact (i4 j hj).2 (by omega)
    · rw [if_neg q]
      refine ⟨i1, i2, ?_, fun j hj => ⟨fun hjk => ?_, fun hkj => (i4 j hj).2 (by omega)⟩⟩
      · show 0 ≤ (t.2.1 + 1).toInt ∧ (t.2.1 + 1).toInt ≤ _
        rw [i1_add i3.1 (by omega)]
        omega
      · show 0 ≤ (t.2.2.1 j).toInt ∧ (t.2.2.1 j).toInt ≤ _
        by_cases z : j = k
        · subst z
          rw [(i4 j hj).2 (Nat.le_refl _)]
          omega
        · exact (i4 j hj).1 (by omega)
theorem sn_od {od : Int32} {co : Nat → Int32} {n : Nat} (h : od = 0 ∨ od = 1 ∨ od = 2) : snOd od co n = 0 ∨ snOd od co n = 1 ∨ snOd od co n = 2 := by
  have key : snOd od co n = od ∨ snOd od co n = 0 := by
    unfold snOd
    by_cases h0 : od = 0
    · rw [if_pos h0]; exact Or.inl rfl
    rw [if_neg h0]
    by_cases h1 : mvI co n = -5
    · rw [if_pos h1]
      by_cases h2 : od = 1
      · rw [if_pos h2]
        by_cases h3 : fst_ (fun k => co k = 0) n < n
        · rw [if_pos h3]; exact Or.inl rfl
        · rw [if_neg h3]; exact Or.inr rfl
      · rw [if_neg h2]
        by_cases h3 : fst_ (fun k => co (n - 1 - k) = 2) n < n
        · rw [if_pos h3]; exact Or.inl rfl
        · rw [if_neg h3]; exact Or.inr rfl
    · rw [if_neg h1]; exact Or.inl rfl
  rcases key with q | q
  · rw [q]; exact h
  · rw [q]; exact Or.inl rfl
theorem iv_h1 {v : SVT} {T T2 : Nat} (h : IV v T) (hT : T ≤ T2) (hT2 : T2 ≤ 100) (hh : v_h v + 1 ≤ 14 * T2) : IV (hrS v 1) T2 ∧ cntI (v_co (hrS v 1)) 4 (v_nS v) = cntI (v_co v) 4 (v_nS v) + hrJ v 1 := by
  have h7 := iv_h h
  obtain ⟨a, b, c, d, e, ⟨f1, f2⟩, g1, g2, g3, g4, g5, g6, g7⟩ := h
  obtain ⟨s1, s2⟩ := sn_I a.1 (od := v_od v) f2
  obtain ⟨m1, m2⟩ := go_I a.1 s1
  obtain ⟨w0, w1, w2⟩ := g6
  have hlv := e.2.1 _ (Nat.mod_lt (v_h v) (show 0 < 24 by decide))
  obtain ⟨t1, t2, t3⟩ := lt_w (co := snCo (v_od v) (v_li v) (v_co v) (v_cs v) (v_nS v)) (out := (v_td v (v_h v % 24)).toUInt64) (inn := FP.ddiv (FP.l2d (v_vo v)) (FP.i2d (v_ar v))) a.1 (fun k hk => fp_thr (f1 k hk) hlv w1 (by omega) c) w0 w1 (by omega) (v_nS v) (Nat.le_refl _)
  generalize hq1 : lp (ltS (v_wi v) (snCo (v_od v) (v_li v) (v_co v) (v_cs v) (v_nS v)) (v_td v (v_h v % 24)).toUInt64 (FP.ddiv (FP.l2d (v_vo v)) (FP.i2d (v_ar v)))) (v_nS v) (v_vo v, v_fi v, v_fo v) = q1 at *
  have ha1 := a.1
  have ha3 := a.2.2.1
  have ha4 := a.2.2.2
  obtain ⟨u1, u2, u3⟩ := ov_w (wi := v_wi v) (co := snCo (v_od v) (v_li v) (v_co v) (v_cs v) (v_nS v)) (cr := v_cr v) (out := (v_td v (v_h v % 24)).toUInt64) a.1 (fun k hk hc => fp_ov (f1 k hk) hlv (e.2.2 k hk) hc) t1 t2 (by omega) (v_nS v) (Nat.le_refl _)
  generalize hq2 : lp (ovS (v_wi v) (v_cr v) (snCo (v_od v) (v_li v) (v_co v) (v_cs v) (v_nS v)) (v_td v (v_h v % 24)).toUInt64) (v_nS v) (q1.1, v_fv v) = q2 at *
  obtain ⟨x1, x2, x3⟩ := br_w (sw := v_sw v) ha3 g2 u1 u2 (by omega) (v_nT v) (Nat.le_refl _)
  generalize hq3 : lp (brS (v_sw v)) (v_nT v) (q2.1, v_br v) = q3 at *
  obtain ⟨y1, y2, y3, y4⟩ := ru_w (on := v_on v) (lim := v_lim v) ha4 g3 (by omega) x1 x2 (v_nP v) (Nat.le_refl _)
  generalize hq4 : lp (ruS (v_on v) (v_po v) (v_pw v) (v_lim v)) (v_nP v) (0, 0, v_ra v, q3.1, v_pu v) = q4 at *
  have key : hrS v 1 = hvS v (gOco (snCo (v_od v) (v_li v) (v_co v) (v_cs v) (v_nS v)) (snLe (v_od v) (v_ho v) (v_li v) (v_co v) (v_le v) (v_cs v) (v_nS v)) (v_nS v), gOle (snCo (v_od v) (v_li v) (v_co v) (v_cs v) (v_nS v)) (snLe (v_od v) (v_ho v) (v_li v) (v_co v) (v_le v) (v_cs v) (v_nS v)) (v_nS v), gOcs (snCo (v_od v) (v_li v) (v_co v) (v_cs v) (v_nS v)) (snLe (v_od v) (v_ho v) (v_li v) (v_co v) (v_le v) (v_cs v) (v_nS v)) (v_cs v) (v_nS v), snOd (v_od v) (v_co v) (v_nS v), v_h v + 1, q4.2.2.2.1, q1.2.1, q1.2.2, q2.2, q3.2, q4.2.2.2.2, q4.2.1, q4.2.2.1) := by
    rw [← hq4, ← hq3, ← hq2, ← hq1]
    rfl
  rw [key]
  refine ⟨⟨a, b, c, sn_od d, e, ⟨f1, m1⟩, g1, g2, ?_, ⟨g4.1, y3⟩, ⟨g5.1, g5.2.1, Int.le_trans g5.2.2 (by omega)⟩, ⟨y1, y2.1, ?_⟩, ?_⟩, ?_⟩
  · intro k hk
    exact ⟨(g3 k hk).1, (g3 k hk).2.1, by have := (y4 k hk).1 hk; show 0 ≤ (q4.2.2.1 k).toInt ∧ (q4.2.2.1 k).toInt ≤ ((v_h v + 1 : Nat) : Int); omega⟩
  · show q4.2.2.2.1.toInt ≤ 10000000 * ((v_h v + 1 : Nat) : Int)
    omega
  · show v_h v + 1 ≤ 14 * T2
    omega
  · exact m2.trans s2
theorem hr_0v (v : SVT) : hrS v 0 = v := rfl
theorem iv_hrn {v : SVT} {T T2 : Nat} (h : IV v T) (hT : T ≤ T2) (hT2 : T2 ≤ 100) (k : Nat) (hk : v_h v + k ≤ 14 * T2) : IV (hrS v k) T2 ∧ cntI (v_co (hrS v k)) 4 (v_nS v) = cntI (v_co v) 4 (v_nS v) + hrJ v k := by
  induction k with
  | zero =>
    rw [hr_0v, hj_0, Int32.add_zero]
    exact ⟨iv_m h hT, rfl⟩
  | succ k ih =>
    obtain ⟨i1, i2⟩ := ih (by omega)
    obtain ⟨j1, j2⟩ := iv_h1 i1 (Nat.le_refl _) hT2 (by rw [hr_h]; omega)
    rw [hr_add] at j1 j2
    refine ⟨j1, ?_⟩
    have j2 : cntI (v_co (hrS v (k + 1))) 4 (v_nS v) = cntI (v_co (hrS v k)) 4 (v_nS v) + hrJ (hrS v k) 1 := j2
    rw [j2, i2, hj_s v k, Int32.add_assoc]
theorem iv_hr {v : SVT} {T : Nat} (h : IV v T) (hT : T + 1 ≤ 100) (k : Nat) (hk : v_h v + k ≤ 14 * (T + 1)) : IV (hrS v k) (T + 1) := (iv_hrn h (Nat.le_succ T) hT k hk).1
theorem jm_n {v : SVT} {T : Nat} (h : IV v T) (hT : T + 1 ≤ 100) (k : Nat) (hk : v_h v + k ≤ 14 * (T + 1)) : cntI (v_co (hrS v k)) 4 (v_nS v) = cntI (v_co v) 4 (v_nS v) + hrJ v k := (iv_hrn h (Nat.le_succ T) hT k hk).2
end WAT
