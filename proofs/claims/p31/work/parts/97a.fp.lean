/-! how much water flows: bounds -/
section FPB
theorem ma1 (k x o : Nat) : k * (x * o) * o = k * o * (x * o) := by ac_rfl
theorem ma2 (a b o : Nat) : a * o * (b * o) = a * b * o * o := by ac_rfl
abbrev zM (a : UInt64) : Nat := FP.Core.zmag FP.Core.b64 (FP.Core.val64 a)
abbrev zV (a : UInt64) : Int := FP.Core.zval FP.Core.b64 (FP.Core.val64 a)
abbrev zG (a : UInt64) : Bool := FP.Core.sgn (FP.Core.val64 a)
theorem zV_eq (a : UInt64) : zV a = if zG a then -(zM a : Int) else (zM a : Int) := rfl
theorem fp_qmin : FP.Core.b64.qmin = -1074 := by decide
theorem fp_quo {a b V : UInt64} (ha : FP.Core.DFin a) (hb : FP.Core.DFin b) (hb0 : zM b ≠ 0) (hV : FP.Core.val64 V ≠ .nan) (h : zM a * FP.Core.one64 ≤ zM V * zM b) : zM (FP.ddiv a b) ≤ zM V ∧ zG (FP.ddiv a b) = (zG a != zG b) := by
  obtain ⟨s, c, q, ea⟩ := ha
  obtain ⟨t, d, r, eb⟩ := hb
  have fa := FP.Core.val64_fits a
  have fb := FP.Core.val64_fits b
  unfold zM at h hb0
  unfold zM zG
  have hq := fp_qmin
  rw [ea] at fa h
  rw [eb] at fb h hb0
  have hd : d ≠ 0 := by
    intro z
    apply hb0
    show d * 2 ^ _ = 0
    rw [z, Nat.zero_mul]
  have e : FP.Core.val64 (FP.ddiv a b) = FP.Core.roundRatio FP.Core.b64 (s != t) c d (q - r) := by
    show FP.Core.val64 (FP.Core.ddiv a b) = _
    rw [FP.Core.val64_ddiv, ea, eb]
    show (if d = 0 then (if c = 0 then FP.Core.Datum.nan else .inf (s != t)) else FP.Core.roundRatio FP.Core.b64 (s != t) c d (q - r)) = _
    rw [if_neg hd]
  have f1 := fa.2.1
  have f2 := fb.2.1
  rw [e, ea, eb]
  refine ⟨FP.Core.zmag_roundRatio_le FP.Core.good_b64 (e0 := FP.Core.b64.qmin - (r - FP.Core.b64.qmin)) (Nat.pos_of_ne_zero hd) (FP.Core.val64_fits V) hV (by omega) (by omega) ?_, FP.Core.sgn_roundRatio _ _ _ _ _⟩
  have h : c * 2 ^ (q - FP.Core.b64.qmin).toNat * 2 ^ 1074 ≤ FP.Core.zmag FP.Core.b64 (FP.Core.val64 V) * (d * 2 ^ (r - FP.Core.b64.qmin).toNat) := h
  show c * 2 ^ (q - r - (FP.Core.b64.qmin - (r - FP.Core.b64.qmin))).toNat ≤ _
  rw [show (q - r - (FP.Core.b64.qmin - (r - FP.Core.b64.qmin))).toNat = (q - FP.Core.b64.qmin).toNat + 1074 by omega, show (FP.Core.b64.qmin - (FP.Core.b64.qmin - (r - FP.Core.b64.qmin))).toNat = (r - FP.Core.b64.qmin).toNat by omega, Nat.pow_add, ← Nat.mul_assoc, Nat.mul_assoc (FP.Core.zmag FP.Core.b64 (FP.Core.val64 V)), Nat.mul_comm _ d]
  exact h
theorem fp_mul {a b V : UInt64} (ha : FP.Core.DFin a) (hb : FP.Core.DFin b) (hV : FP.Core.val64 V ≠ .nan) (h : zM a * zM b ≤ zM V * FP.Core.one64) : zM (FP.dmul a b) ≤ zM V ∧ zG (FP.dmul a b) = (zG a != zG b) := by
  obtain ⟨s, c, q, ea⟩ := ha
  obtain ⟨t, d, r, eb⟩ := hb
  have fa := FP.Core.val64_fits a
  have fb := FP.Core.val64_fits b
  unfold zM at h
  unfold zM zG
  have hq := fp_qmin
  rw [ea] at fa h
  rw [eb] at fb h
  obtain ⟨p1, p2, p3⟩ := FP.Core.product_units fa fb
  have e : FP.Core.val64 (FP.dmul a b) = FP.Core.roundRatio FP.Core.b64 (s != t) (c * d) 1 (q + r) := by
    show FP.Core.val64 (FP.Core.dmul a b) = _
    rw [FP.Core.val64_dmul, ea, eb, p1]
    rfl
  rw [e, ea, eb]
  refine ⟨FP.Core.zmag_roundRatio_le FP.Core.good_b64 (e0 := 2 * FP.Core.b64.qmin) (by decide) (FP.Core.val64_fits V) hV (by omega) p2 ?_, FP.Core.sgn_roundRatio _ _ _ _ _⟩
  rw [p3, Nat.mul_one, show (FP.Core.b64.qmin - 2 * FP.Core.b64.qmin).toNat = (-FP.Core.b64.qmin).toNat by omega, FP.Core.pow_qmin64]
  exact h
theorem fp_neg {b : UInt64} (hb : FP.Core.DFin b) : ∃ s c q, FP.Core.negate (FP.Core.val64 b) = .fin s c q := by
  obtain ⟨t, d, r, eb⟩ := hb
  rw [eb]
  exact ⟨_, _, _, rfl⟩
theorem fp_sub_le {a b V : UInt64} (ha : FP.Core.DFin a) (hb : FP.Core.DFin b) (hV : FP.Core.val64 V ≠ .nan) (h : zV a - zV b ≤ zV V) : zV (FP.dsub a b) ≤ zV V := by
  show FP.Core.zval FP.Core.b64 (FP.Core.val64 (FP.Core.dsub a b)) ≤ _
  rw [FP.Core.val64_dsub]
  refine FP.Core.sum_le FP.Core.good_b64 ha (fp_neg hb) (FP.Core.val64_fits a) (FP.Core.negate_fits (FP.Core.val64_fits b)) (FP.Core.val64_fits V) hV ?_
  rw [FP.Core.zval_negate]
  unfold zV at h
  omega
theorem fp_sub_ge {a b V : UInt64} (ha : FP.Core.DFin a) (hb : FP.Core.DFin b) (hV : FP.Core.val64 V ≠ .nan) (h : zV V ≤ zV a - zV b) : zV V ≤ zV (FP.dsub a b) := by
  show _ ≤ FP.Core.zval FP.Core.b64 (FP.Core.val64 (FP.Core.dsub a b))
  rw [FP.Core.val64_dsub]
  refine FP.Core.sum_ge FP.Core.good_b64 ha (fp_neg hb) (FP.Core.val64_fits a) (FP.Core.negate_fits (FP.Core.val64_fits b)) (FP.Core.val64_fits V) hV ?_
  rw [FP.Core.zval_negate]
  unfold zV at h
  omega
theorem fp_l2d {a : Int64} (h0 : 0 ≤ a.toInt) (h1 : a.toInt < 9007199254740992) : zM (FP.l2d a) = a.toInt.toNat * FP.Core.one64 ∧ zG (FP.l2d a) = false := by
  have hw := FP.Core.whole_zval FP.Core.good_b64 (FP.Core.val64_fits (FP.l2d a)) (FP.Core.l2d_whole (a := a) ⟨by omega, h1⟩)
  rw [FP.Core.pow_qmin64] at hw
  obtain ⟨c, q, e⟩ := FP.Core.l2d_shape a
  have hg : zG (FP.l2d a) = false := by
    show FP.Core.sgn (FP.Core.val64 (FP.Core.l2d a)) = false
    rw [e]
    exact decide_eq_false (by omega)
  have hv := zV_eq (FP.l2d a)
  rw [hg] at hv
  have hv : zV (FP.l2d a) = (zM (FP.l2d a) : Int) := hv
  have hw : zV (FP.l2d a) = a.toInt * (FP.Core.one64 : Int) := hw
  rw [hw] at hv
  have e2 : ((a.toInt.toNat * FP.Core.one64 : Nat) : Int) = a.toInt * (FP.Core.one64 : Int) := by
    rw [Int.natCast_mul, Int.toNat_of_nonneg h0]
  exact ⟨(Int.ofNat.inj (e2.trans hv)).symm, hg⟩
theorem fp_i2d {x : Int32} (h0 : 0 ≤ x.toInt) : zM (FP.i2d x) = x.toInt.toNat * FP.Core.one64 ∧ zG (FP.i2d x) = false := by
  have e : x.toInt64.toInt = x.toInt := Int32.toInt_toInt64 x
  have h := fp_l2d (a := x.toInt64) (by rw [e]; exact h0) (by rw [e]; have := Int32.toInt_lt x; omega)
  rw [e] at h
  have e2 : FP.i2d x = FP.l2d x.toInt64 := FP.Core.i2d_l2d x
  rw [e2]
  exact h
/-- whole units -/
theorem fp_kg {n : Nat} {V : UInt64} (h : FP.l2d (Int64.ofNat n) = V) (hn : n < 9007199254740992) : zM V = n * FP.Core.one64 ∧ zG V = false := by
  have e : (Int64.ofNat n).toInt = (n : Int) := Int64.toInt_ofNat_of_lt (by omega)
  have q := fp_l2d (a := Int64.ofNat n) (by omega) (by omega)
  rw [e, h] at q
  exact q
theorem fp_fin {x : UInt64} (hn : FP.Core.val64 x ≠ .nan) (h : zM x ≤ 2199023255552 * FP.Core.one64) : FP.Core.DFin x := by
  cases hv : FP.Core.val64 x with
  | nan => exact absurd hv hn
  | fin s c q => exact ⟨s, c, q, hv⟩
  | inf s =>
    exfalso
    have : zM x = FP.Core.b64.tails * 2 ^ (FP.Core.b64.exps - 2) := by
      unfold zM
      rw [hv]
      rfl
    rw [this] at h
    exact absurd h (by decide +kernel)
theorem fp_inn {vo : Int64} (h0 : 0 ≤ vo.toInt) (h1 : vo.toInt ≤ 1099511627776) {ar : Int32} (har : arOk ar) : zM (FP.ddiv (FP.l2d vo) (FP.i2d ar)) ≤ 1099511627776 * FP.Core.one64 ∧ zG (FP.ddiv (FP.l2d vo) (FP.i2d ar)) = false ∧ FP.Core.DFin (FP.ddiv (FP.l2d vo) (FP.i2d ar)) := by
  have ha1 : (1000 : Int) ≤ ar.toInt := Int32.le_iff_toInt_le.mp har.1
  obtain ⟨m1, g1⟩ := fp_l2d h0 (by omega)
  obtain ⟨m2, g2⟩ := fp_i2d (x := ar) (by omega)
  obtain ⟨m3, g3⟩ := fp_kg (n := 1099511627776) (V := 4787326403894837248) (by decide +kernel) (by decide)
  have hp := FP.Core.one64_pos
  have hb0 : zM (FP.i2d ar) ≠ 0 := by
    rw [m2]
    exact Nat.ne_of_gt (Nat.mul_pos (by omega) hp)
  obtain ⟨r1, r2⟩ := fp_quo (V := 4787326403894837248) (FP.Core.l2d_fin vo) (FP.Core.i2d_fin ar) hb0 (by decide +kernel) (by
    rw [m1, m2, m3]
    have : vo.toInt.toNat * FP.Core.one64 ≤ 1099511627776 * (ar.toInt.toNat * FP.Core.one64) := by
      rw [← Nat.mul_assoc]
      exact Nat.mul_le_mul_right _ (by omega)
    calc vo.toInt.toNat * FP.Core.one64 * FP.Core.one64 ≤ 1099511627776 * (ar.toInt.toNat * FP.Core.one64) * FP.Core.one64 := Nat.mul_le_mul_right _ this
      _ = 1099511627776 * FP.Core.one64 * (ar.toInt.toNat * FP.Core.one64) := ma1 1099511627776 ar.toInt.toNat FP.Core.one64)
  rw [m3] at r1
  rw [g1, g2] at r2
  exact ⟨r1, r2, fp_fin ((FP.Core.notNaN_iff _).mp (nu_inn har vo)) (Nat.le_trans r1 (Nat.mul_le_mul_right _ (by decide)))⟩
theorem fp_out {out : Int64} (h : lvS out) : FP.Core.DFin out.toUInt64 ∧ zV out.toUInt64 ≤ 10 * (FP.Core.one64 : Int) ∧ -(10 * (FP.Core.one64 : Int)) ≤ zV out.toUInt64 := by
  refine ⟨nu_lvF (lvS_ok h), ?_⟩
  rcases h with rfl | rfl | rfl | rfl | rfl | rfl | rfl <;> decide +kernel
theorem fp_w : ∀ i : Fin 50, zM (FP.dmul (FP.i2d (nI (i.val + 1))) 4651127699538968576) ≤ 45000 * FP.Core.one64 ∧ zG (FP.dmul (FP.i2d (nI (i.val + 1))) 4651127699538968576) = false := by decide +kernel
theorem wi_nat {w : Int32} (hw : 1 ≤ w ∧ w ≤ 50) : ∃ i : Fin 50, w = nI (i.val + 1) := by
  have h1 : (1 : Int) ≤ w.toInt := Int32.le_iff_toInt_le.mp hw.1
  have h2 : w.toInt ≤ 50 := Int32.le_iff_toInt_le.mp hw.2
  refine ⟨⟨(w.toInt - 1).toNat, by omega⟩, ?_⟩
  apply Int32.toInt_inj.mp
  rw [nI_toInt (by show (w.toInt - 1).toNat + 1 < 2 ^ 31; omega)]
  show w.toInt = (((w.toInt - 1).toNat + 1 : Nat) : Int)
  omega
theorem fp_d2l {p : UInt64} (hp : FP.Core.val64 p ≠ .nan) {a b : Nat} (hb : b < 9000000000000000000) (h1 : zG p = false → zM p ≤ a * FP.Core.one64) (ha : a < 9000000000000000000) (h2 : zM p ≤ b * FP.Core.one64) : -(b : Int) ≤ (FP.d2l p).toInt ∧ (FP.d2l p).toInt ≤ (a : Int) := by
  have e : (FP.d2l p).toInt = max (-2 ^ 63) (min (2 ^ 63 - 1) (if zG p then -((zM p / FP.Core.one64 : Nat) : Int) else ((zM p / FP.Core.one64 : Nat) : Int))) := FP.Core.d2l_val hp
  rw [e]
  have hq := FP.Core.one64_pos
  have q2 : zM p / FP.Core.one64 ≤ b := Nat.div_le_of_le_mul (by rw [Nat.mul_comm]; exact h2)
  cases hg : zG p with
  | true =>
    show -(b : Int) ≤ max (-2 ^ 63) (min (2 ^ 63 - 1) (-((zM p / FP.Core.one64 : Nat) : Int))) ∧ max (-2 ^ 63) (min (2 ^ 63 - 1) (-((zM p / FP.Core.one64 : Nat) : Int))) ≤ (a : Int)
    generalize zM p / FP.Core.one64 = z at *
    omega
  | false =>
    have q1 : zM p / FP.Core.one64 ≤ a := Nat.div_le_of_le_mul (by rw [Nat.mul_comm]; exact h1 hg)
    show -(b : Int) ≤ max (-2 ^ 63) (min (2 ^ 63 - 1) ((zM p / FP.Core.one64 : Nat) : Int)) ∧ max (-2 ^ 63) (min (2 ^ 63 - 1) ((zM p / FP.Core.one64 : Nat) : Int)) ≤ (a : Int)
    generalize zM p / FP.Core.one64 = z at *
    omega
theorem fp_thr {w : Int32} (hw : 1 ≤ w ∧ w ≤ 50) {out : Int64} (ho : lvS out) {vo : Int64} (h0 : 0 ≤ vo.toInt) (h1 : vo.toInt ≤ 1099511627776) {ar : Int32} (har : arOk ar) : -(144115188075855872 : Int) ≤ (thrW w (FP.dsub out.toUInt64 (FP.ddiv (FP.l2d vo) (FP.i2d ar)))).toInt ∧ (thrW w (FP.dsub out.toUInt64 (FP.ddiv (FP.l2d vo) (FP.i2d ar)))).toInt ≤ 450000 := by
  obtain ⟨i, rfl⟩ := wi_nat hw
  obtain ⟨m1, g1⟩ := fp_w i
  have hm := (nu_w _ hw).1.1
  obtain ⟨i1, i2, i3⟩ := fp_inn h0 h1 har
  obtain ⟨o1, o2, o3⟩ := fp_out ho
  have hnd := nu_sub (lvS_ok ho) har vo
  have hnp : FP.Core.val64 (FP.dmul (FP.dmul (FP.i2d (nI (i.val + 1))) 4651127699538968576) (FP.dsub out.toUInt64 (FP.ddiv (FP.l2d vo) (FP.i2d ar)))) ≠ .nan := (FP.Core.notNaN_iff _).mp (nu_mulc (nu_w _ hw).1 hnd)
  have hnd : FP.Core.val64 (FP.dsub out.toUInt64 (FP.ddiv (FP.l2d vo) (FP.i2d ar))) ≠ .nan := (FP.Core.notNaN_iff _).mp hnd
  unfold thrW
  generalize FP.dmul (FP.i2d (nI (i.val + 1))) 4651127699538968576 = mw at *
  generalize FP.ddiv (FP.l2d vo) (FP.i2d ar) = inn at *
  have zi : zV inn = (zM inn : Int) := by rw [zV_eq, i2]; rfl
  have zi2 : (zM inn : Int) ≤ 1099511627776 * (FP.Core.one64 : Int) := by
    have := Int.ofNat_le.mpr i1
    rw [Int.natCast_mul] at this
    exact this
  have v10 : zV 4621819117588971520 = 10 * (FP.Core.one64 : Int) := by decide +kernel
  have v41 : zV 14015202040376983552 = -(2199023255552 * (FP.Core.one64 : Int)) := by decide +kernel
  have z0 : (0 : Int) ≤ (zM inn : Int) := Int.natCast_nonneg _
  have hp := FP.Core.one64_pos
  have s1 := fp_sub_le (V := 4621819117588971520) o1 i3 (by decide +kernel) (by rw [v10, zi]; omega)
  have s2 := fp_sub_ge (V := 14015202040376983552) o1 i3 (by decide +kernel) (by rw [v41, zi]; omega)
  generalize hd : FP.dsub out.toUInt64 inn = d at *
  rw [v10] at s1
  rw [v41] at s2
  have zd := zV_eq d
  have m41 : zM d ≤ 2199023255552 * FP.Core.one64 := by
    cases hg : zG d with
    | true =>
      rw [hg] at zd
      have zd : zV d = -(zM d : Int) := zd
      omega
    | false =>
      rw [hg] at zd
      have zd : zV d = (zM d : Int) := zd
      omega
  have m10 : zG d = false → zM d ≤ 10 * FP.Core.one64 := by
    intro hg
    rw [hg] at zd
    have zd : zV d = (zM d : Int) := zd
    omega
  have hfd := fp_fin hnd m41
  have m57 : zM 4863887597560135680 = 144115188075855872 * FP.Core.one64 := by decide +kernel
  have m45 : zM 4691474553598115840 = 450000 * FP.Core.one64 := by decide +kernel
  obtain ⟨p1, p2⟩ := fp_mul (V := 4863887597560135680) hm hfd (by decide +kernel) (by
    rw [m57]
    calc zM mw * zM d ≤ 45000 * FP.Core.one64 * (2199023255552 * FP.Core.one64) := Nat.mul_le_mul m1 m41
      _ = 45000 * 2199023255552 * FP.Core.one64 * FP.Core.one64 := ma2 45000 2199023255552 FP.Core.one64
      _ ≤ 144115188075855872 * FP.Core.one64 * FP.Core.one64 := Nat.mul_le_mul_right _ (Nat.mul_le_mul_right _ (by decide)))
  rw [m57] at p1
  rw [g1] at p2
  refine fp_d2l (a := 450000) (b := 144115188075855872) hnp (by decide) (fun hg => ?_) (by decide) p1
  have hgd : zG d = false := by
    rw [hg] at p2
    cases h : zG d with
    | false => rfl
    | true => rw [h] at p2; exact absurd p2 (by decide)
  obtain ⟨q1, q2⟩ := fp_mul (V := 4691474553598115840) hm hfd (by decide +kernel) (by
    rw [m45]
    calc zM mw * zM d ≤ 45000 * FP.Core.one64 * (10 * FP.Core.one64) := Nat.mul_le_mul m1 (m10 hgd)
      _ = 45000 * 10 * FP.Core.one64 * FP.Core.one64 := ma2 45000 10 FP.Core.one64
      _ ≤ 450000 * FP.Core.one64 * FP.Core.one64 := Nat.mul_le_mul_right _ (Nat.mul_le_mul_right _ (by decide)))
  rw [m45] at q1
  exact q1
theorem fp_ovw : ∀ i : Fin 50, ∀ a : Fin 7, ∀ b : Fin 2, Op.cmpValue (FP.dcmp (([4607182418800017408, 4616189618054758400] : List Int64).getD b.val 0).toUInt64 (([0, 4612811918334230528, -4613937818241073152, 4616189618054758400, 4607182418800017408, 4619004367821864960, 4611686018427387904] : List Int64).getD a.val 0).toUInt64) CmpOp.g < 0 → 0 ≤ (ovW (nI (i.val + 1)) (FP.dsub (([0, 4612811918334230528, -4613937818241073152, 4616189618054758400, 4607182418800017408, 4619004367821864960, 4611686018427387904] : List Int64).getD a.val 0).toUInt64 (([4607182418800017408, 4616189618054758400] : List Int64).getD b.val 0).toUInt64)).toInt ∧ (ovW (nI (i.val + 1)) (FP.dsub (([0, 4612811918334230528, -4613937818241073152, 4616189618054758400, 4607182418800017408, 4619004367821864960, 4611686018427387904] : List Int64).getD a.val 0).toUInt64 (([4607182418800017408, 4616189618054758400] : List Int64).getD b.val 0).toUInt64)).toInt ≤ 225000 := by decide +kernel
theorem fp_ov {w : Int32} (hw : 1 ≤ w ∧ w ≤ 50) {out cr : Int64} (ho : lvS out) (hc : crS cr) (h : ¬ 0 ≤ Op.cmpValue (FP.dcmp cr.toUInt64 out.toUInt64) CmpOp.g) : 0 ≤ (ovW w (FP.dsub out.toUInt64 cr.toUInt64)).toInt ∧ (ovW w (FP.dsub out.toUInt64 cr.toUInt64)).toInt ≤ 225000 := by
  obtain ⟨i, rfl⟩ := wi_nat hw
  have h := Int32.not_le.mp h
  rcases ho with rfl | rfl | rfl | rfl | rfl | rfl | rfl <;> rcases hc with rfl | rfl
  · exact fp_ovw i 0 0 h
  · exact fp_ovw i 0 1 h
  · exact fp_ovw i 1 0 h
  · exact fp_ovw i 1 1 h
  · exact fp_ovw i 2 0 h
  · exact fp_ovw i 2 1 h
  · exact fp_ovw i 3 0 h
  · exact fp_ovw i 3 1 h
  · exact fp_ovw i 4 0 h
  · exact fp_ovw i 4 1 h
  · exact fp_ovw i 5 0 h
  · exact fp_ovw i 5 1 h
  · exact fp_ovw i 6 0 h
  · exact fp_ovw i 6 1 h
end FPB
