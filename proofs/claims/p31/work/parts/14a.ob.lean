/-! levels from their bits: numbers of 53 digits, halved exactly -/
section OB
def nrmA (w t : Nat) : Nat := if w = 0 then 1074 - t else min (52 - w.log2) (1074 - t)
def nrm (w t : Nat) : FP.Core.Datum := FP.Core.Datum.fin false (w * 2 ^ nrmA w t) (-((t + nrmA w t : Nat) : Int))
theorem nrm_fits {w t : Nat} (hw : w < 2 ^ 53) (ht : t ≤ 1074) : FP.Core.fits FP.Core.b64 (nrm w t) := by
  show w * 2 ^ nrmA w t < 2 ^ 53 ∧ (-1074 : Int) ≤ -((t + nrmA w t : Nat) : Int) ∧ -((t + nrmA w t : Nat) : Int) ≤ 971 ∧ (-((t + nrmA w t : Nat) : Int) = -1074 ∨ 2 ^ 52 ≤ w * 2 ^ nrmA w t)
  by_cases h0 : w = 0
  · subst h0
    have : nrmA 0 t = 1074 - t := if_pos rfl
    rw [this]
    refine ⟨by rw [Nat.zero_mul]; decide, by omega, by omega, Or.inl (by omega)⟩
  · have ha : nrmA w t = min (52 - w.log2) (1074 - t) := if_neg h0
    have h1 := Nat.log2_self_le h0
    have h2 := @Nat.lt_log2_self w
    have h3 : w.log2 < 53 := (Nat.log2_lt h0).mpr hw
    have h4 : w * 2 ^ nrmA w t < 2 ^ 53 := by
      have : w * 2 ^ nrmA w t < 2 ^ (w.log2 + 1) * 2 ^ nrmA w t := Nat.mul_lt_mul_of_pos_right h2 (Nat.two_pow_pos _)
      rw [← Nat.pow_add] at this
      exact Nat.lt_of_lt_of_le this (Nat.pow_le_pow_right (by decide) (by omega))
    refine ⟨h4, by omega, by omega, ?_⟩
    by_cases c : 52 - w.log2 ≤ 1074 - t
    · right
      rw [ha, Nat.min_eq_left c]
      have : 2 ^ w.log2 * 2 ^ (52 - w.log2) ≤ w * 2 ^ (52 - w.log2) := Nat.mul_le_mul_right _ h1
      rw [← Nat.pow_add, show w.log2 + (52 - w.log2) = 52 by omega] at this
      exact this
    · left
      omega
theorem nrm_of {w : Nat} (hw : w < 2 ^ 53) : FP.Core.round FP.Core.b64 (FP.Core.ofInt (w : Int)) = nrm w 0 := by
  show FP.Core.roundRatio FP.Core.b64 (decide ((w : Int) < 0)) (w : Int).natAbs 1 0 = _
  rw [show decide ((w : Int) < 0) = false from by simp, show (w : Int).natAbs = w from rfl]
  refine FP.Core.roundRatio_exact FP.Core.good_b64 (by decide) (nrm_fits hw (by decide)) ?_
  rw [show (0 - -((0 + nrmA w 0 : Nat) : Int)).toNat = nrmA w 0 by omega, show (-((0 + nrmA w 0 : Nat) : Int) - 0).toNat = 0 by omega]
  simp
theorem nrm_half {w t h : Nat} (hw : w < 2 ^ 53) (ht : t + h ≤ 1074) : FP.Core.quotient FP.Core.b64 (nrm w t) (FP.Core.Datum.fin false (2 ^ 52) ((h : Int) - 52)) = nrm w (t + h) := by
  show (if (2 ^ 52 : Nat) = 0 then (if w * 2 ^ nrmA w t = 0 then FP.Core.Datum.nan else .inf (false != false)) else FP.Core.roundRatio FP.Core.b64 (false != false) (w * 2 ^ nrmA w t) (2 ^ 52) (-((t + nrmA w t : Nat) : Int) - ((h : Int) - 52))) = _
  rw [if_neg (by decide)]
  refine FP.Core.roundRatio_exact FP.Core.good_b64 (by decide) (nrm_fits hw ht) ?_
  by_cases h0 : w = 0
  · subst h0; simp
  · have ha : nrmA w t ≤ 52 := by unfold nrmA; rw [if_neg h0]; omega
    have hb : nrmA w (t + h) ≤ nrmA w t := by unfold nrmA; rw [if_neg h0, if_neg h0]; omega
    rw [show (-((t + nrmA w t : Nat) : Int) - ((h : Int) - 52) - -((t + h + nrmA w (t + h) : Nat) : Int)).toNat = 52 + nrmA w (t + h) - nrmA w t by omega,
      show (-((t + h + nrmA w (t + h) : Nat) : Int) - (-((t + nrmA w t : Nat) : Int) - ((h : Int) - 52))).toNat = 0 by omega]
    rw [Nat.mul_assoc, ← Nat.pow_add, show nrmA w t + (52 + nrmA w (t + h) - nrmA w t) = nrmA w (t + h) + 52 by omega, Nat.pow_add]
    simp [Nat.mul_assoc]
/-- the number that bits below the sign are -/
def obE (x : Int64) : Nat := x.toUInt64.toNat % 2 ^ 63 / 2 ^ 52
def obW (x : Int64) : Nat := if obE x = 0 then x.toUInt64.toNat % 2 ^ 52 else x.toUInt64.toNat % 2 ^ 52 + 2 ^ 52
def obH (x : Int64) : Nat := 1075 - max (obE x) 1
def obY (x : Int64) : UInt64 := UInt64.ofNat (x.toUInt64.toNat % 2 ^ 63)
def obL (x : Int64) : Int64 := Int64.ofNat (obW x)
def obR (x : Int64) (k : Nat) : UInt64 := lp (fun _ r => FP.ddiv r 4751297606875873280) k (FP.l2d (obL x))
theorem obE_le {x : Int64} (hx : lvOk x) : obE x ≤ 1026 := by
  have := nu_lv hx
  unfold obE
  omega
theorem obW_lt (x : Int64) : obW x < 2 ^ 53 := by
  unfold obW
  split <;> omega
theorem obY_val {x : Int64} (hx : lvOk x) : FP.Core.val64 (obY x) = nrm (obW x) (obH x) := by
  have he := obE_le hx
  have hn : (obY x).toNat = x.toUInt64.toNat % 2 ^ 63 := by
    show (UInt64.ofNat _).toNat = _
    rw [UInt64.toNat_ofNat']
    omega
  have hT : FP.Core.fieldT FP.Core.b64 (obY x).toNat = x.toUInt64.toNat % 2 ^ 52 := by
    show (obY x).toNat % 2 ^ 52 = _
    rw [hn]; omega
  have hE : FP.Core.fieldE FP.Core.b64 (obY x).toNat = obE x := by
    show (obY x).toNat / 2 ^ 52 % 2 ^ 11 = _
    rw [hn]
    have : x.toUInt64.toNat % 2 ^ 63 / 2 ^ 52 = obE x := rfl
    omega
  have hS : FP.Core.fieldS FP.Core.b64 (obY x).toNat = false := by
    show ((obY x).toNat / 2 ^ 52 / 2 ^ 11 % 2 == 1) = false
    rw [hn, show x.toUInt64.toNat % 2 ^ 63 / 2 ^ 52 / 2 ^ 11 % 2 = 0 by omega]
    rfl
  show FP.Core.decode FP.Core.b64 (obY x).toNat = _
  unfold FP.Core.decode
  rw [hE, hT, hS, if_neg (by show ¬ obE x = 2047; omega)]
  by_cases c : obE x = 0
  · rw [if_pos c]
    have hw : obW x = x.toUInt64.toNat % 2 ^ 52 := if_pos c
    have hh : obH x = 1074 := by unfold obH; omega
    have ha : nrmA (obW x) 1074 = 0 := by unfold nrmA; split <;> omega
    rw [hh]
    unfold nrm
    rw [ha, hw]
    simp
    rfl
  · rw [if_neg c]
    have hw : obW x = x.toUInt64.toNat % 2 ^ 52 + 2 ^ 52 := if_neg c
    have hl : (obW x).log2 = 52 := by
      apply Nat.le_antisymm
      · exact Nat.lt_succ_iff.mp ((Nat.log2_lt (by omega)).mpr (by omega))
      · exact (Nat.le_log2 (by omega)).mpr (by omega)
    have ha : nrmA (obW x) (obH x) = 0 := by unfold nrmA; rw [if_neg (by omega), hl]; omega
    unfold nrm
    rw [ha, hw]
    have hh : obH x = 1075 - obE x := by unfold obH; omega
    show FP.Core.Datum.fin false (2 ^ 52 + x.toUInt64.toNat % 2 ^ 52) ((-1074 : Int) + ((obE x : Int) - 1)) = _
    congr 1
    · omega
    · rw [hh]; omega
theorem ob_l2d (x : Int64) : FP.Core.val64 (FP.l2d (obL x)) = nrm (obW x) 0 := by
  show FP.Core.val64 (FP.Core.l2d (obL x)) = _
  rw [FP.Core.val64_l2d, ← nrm_of (obW_lt x)]
  have : (obL x).toInt = (obW x : Int) := by
    unfold obL
    rw [Int64.toInt_ofNat_of_lt]
    have := obW_lt x
    omega
  rw [this]
theorem ob_32 : FP.Core.val64 4751297606875873280 = FP.Core.Datum.fin false (2 ^ 52) (((32 : Nat) : Int) - 52) := by decide +kernel
theorem ob_R {x : Int64} (hx : lvOk x) {k : Nat} (hk : 32 * k ≤ obH x) : FP.Core.val64 (obR x k) = nrm (obW x) (32 * k) := by
  have hh : obH x ≤ 1074 := by unfold obH; omega
  induction k with
  | zero => exact ob_l2d x
  | succ k ih =>
    show FP.Core.val64 (FP.Core.ddiv (obR x k) 4751297606875873280) = _
    rw [FP.Core.val64_ddiv, ih (by omega), ob_32, nrm_half (obW_lt x) (by omega)]
    rfl
theorem ob_sh : ∀ h : Fin 33, FP.Core.val64 (FP.l2d ((1 : Int64) <<< ((nI h.val).toInt64 &&& 63))) = FP.Core.Datum.fin false (2 ^ 52) ((h.val : Int) - 52) := by decide +kernel
theorem nrm_nn (w t : Nat) : nrm w t ≠ FP.Core.Datum.nan := fun h => FP.Core.Datum.noConfusion h
theorem ob_nn {r : UInt64} {w t : Nat} (h : FP.Core.val64 r = nrm w t) : vf_n64 r := nu_n64 ((FP.Core.notNaN_iff r).mpr (by rw [h]; exact nrm_nn w t))
theorem ob_fv {x : Int64} (hx : lvOk x) {k : Nat} (hk : 32 * k ≤ obH x) (h : ¬ obH x - 32 * k > 32) : FP.Core.val64 (FP.ddiv (obR x k) (FP.l2d ((1 : Int64) <<< ((nI (obH x - 32 * k)).toInt64 &&& 63)))) = nrm (obW x) (obH x) := by
  have hh : obH x ≤ 1074 := by unfold obH; omega
  show FP.Core.val64 (FP.Core.ddiv _ _) = _
  have e : FP.Core.val64 (FP.l2d ((1 : Int64) <<< ((nI (obH x - 32 * k)).toInt64 &&& 63))) = FP.Core.Datum.fin false (2 ^ 52) (((obH x - 32 * k : Nat) : Int) - 52) := ob_sh ⟨obH x - 32 * k, by omega⟩
  rw [FP.Core.val64_ddiv, ob_R hx hk, e, nrm_half (obW_lt x) (by omega), show 32 * k + (obH x - 32 * k) = obH x by omega]
theorem ob_fin {x : Int64} (hx : lvOk x) {k : Nat} (hk : 32 * k ≤ obH x) (h : ¬ obH x - 32 * k > 32) : FP.ddiv (obR x k) (FP.l2d ((1 : Int64) <<< ((nI (obH x - 32 * k)).toInt64 &&& 63))) = obY x :=
  FP.Core.val64_inj (by rw [ob_fv hx hk h]; exact nrm_nn _ _) (by rw [ob_fv hx hk h, obY_val hx])
theorem ob_pos {x : Int64} (h : 0 ≤ x) : obY x = x.toUInt64 := by
  have := (nu_nn x).mp h
  apply UInt64.toNat_inj.mp
  show (UInt64.ofNat _).toNat = _
  rw [UInt64.toNat_ofNat']
  omega
theorem nu_xor {y : Nat} (h1 : 2 ^ 63 ≤ y) (h2 : y < 2 ^ 64) : (y % 2 ^ 63) ^^^ 2 ^ 63 = y := by
  apply Nat.eq_of_testBit_eq
  intro i
  rw [Nat.testBit_xor, Nat.testBit_two_pow, Nat.testBit_mod_two_pow]
  rcases Nat.lt_trichotomy i 63 with c | c | c
  · simp [c, show ¬ 63 = i by omega]
  · subst c
    have : y.testBit 63 = true := by
      rw [Nat.testBit_eq_decide_div_mod_eq]
      exact decide_eq_true (by omega)
    rw [this]
    rfl
  · have : y.testBit i = false := Nat.testBit_lt_two_pow (Nat.lt_of_lt_of_le h2 (Nat.pow_le_pow_right (by decide) (by omega)))
    rw [this]
    simp [show ¬ 63 = i by omega]
theorem nu_ext {a b : Int64} (h : a.toUInt64.toNat = b.toUInt64.toNat) : a = b := Int64.toInt_inj.mp (by rw [nu_int, nu_int, h])
theorem nu_of {w : Nat} (h : w < 2 ^ 64) : (Int64.ofNat w).toUInt64.toNat = w := by
  show (UInt64.ofNat w).toNat = w
  rw [UInt64.toNat_ofNat']
  omega
theorem ob_neg {x : Int64} (h : ¬ 0 ≤ x) : FP.dneg (obY x) = x.toUInt64 := by
  have h1 : ¬ x.toUInt64.toNat < 2 ^ 63 := fun q => h ((nu_nn x).mpr q)
  have h2 := nu_lt x
  apply UInt64.toNat_inj.mp
  show (obY x ^^^ 0x8000000000000000).toNat = _
  have hy : (obY x).toNat = x.toUInt64.toNat % 2 ^ 63 := by
    show (UInt64.ofNat _).toNat = _
    rw [UInt64.toNat_ofNat']
    omega
  rw [UInt64.toNat_xor, hy, show (0x8000000000000000 : UInt64).toNat = 2 ^ 63 from rfl]
  exact nu_xor (by omega) h2
theorem ob_e (x : Int64) : ((x &&& 9223372036854775807).toUInt64 >>> ((52 : Int32).toInt64.toUInt64 &&& Int64.toUInt64 63)).toInt64.toInt32 = nI (obE x) := by
  have e : (((x &&& 9223372036854775807).toUInt64 >>> ((52 : Int32).toInt64.toUInt64 &&& Int64.toUInt64 63))).toNat = obE x := by
    rw [UInt64.toNat_shiftRight, nu_mask, show (((52 : Int32).toInt64.toUInt64 &&& Int64.toUInt64 63)).toNat % 64 = 52 from by decide, Nat.shiftRight_eq_div_pow]
    rfl
  have : ((x &&& 9223372036854775807).toUInt64 >>> ((52 : Int32).toInt64.toUInt64 &&& Int64.toUInt64 63)).toInt64 = lN (obE x) := by
    apply nu_ext
    show ((x &&& 9223372036854775807).toUInt64 >>> ((52 : Int32).toInt64.toUInt64 &&& Int64.toUInt64 63)).toNat = (Int64.ofNat (obE x)).toUInt64.toNat
    rw [e, nu_of (by unfold obE; omega)]
  rw [this, lN_i]
theorem ob_fr (x : Int64) : (x &&& 4503599627370495).toUInt64.toNat = x.toUInt64.toNat % 2 ^ 52 := by
  show (x.toUInt64 &&& 4503599627370495).toNat = _
  rw [UInt64.toNat_and]
  exact Nat.and_two_pow_sub_one_eq_mod x.toUInt64.toNat 52
theorem ob_w0 {x : Int64} (h : obE x = 0) : x &&& 4503599627370495 = obL x := by
  apply nu_ext
  rw [ob_fr]
  unfold obL
  rw [nu_of (by have := obW_lt x; omega)]
  exact (if_pos h).symm
theorem ob_w1 {x : Int64} (h : ¬ obE x = 0) : x &&& 4503599627370495 ||| 4503599627370496 = obL x := by
  apply nu_ext
  show ((x &&& 4503599627370495).toUInt64 ||| 4503599627370496).toNat = _
  rw [UInt64.toNat_or, ob_fr]
  unfold obL
  rw [nu_of (by have := obW_lt x; omega)]
  show x.toUInt64.toNat % 2 ^ 52 ||| 4503599627370496 = if obE x = 0 then _ else _
  rw [if_neg h, Nat.or_comm]
  have := Nat.two_pow_add_eq_or_of_lt (i := 52) (b := x.toUInt64.toNat % 2 ^ 52) (by omega) 1
  rw [Nat.mul_one] at this
  rw [show (4503599627370496 : Nat) = 2 ^ 52 from rfl, ← this, Nat.add_comm]
theorem ob_h {x : Int64} (hx : lvOk x) : 1075 - (if nI (obE x) < 1 then 1 else nI (obE x)) = nI (obH x) := by
  have he := obE_le hx
  by_cases c : obE x = 0
  · unfold obH; rw [c]; rfl
  · rw [if_neg (by rw [show (1 : Int32) = nI 1 from rfl]; exact fun q => absurd ((nI_ltI (by omega) (by omega)).mp q) (by omega))]
    rw [show (1075 : Int32) = nI 1075 from rfl, pk_sub (by omega)]
    unfold obH
    rw [show max (obE x) 1 = obE x by omega]
theorem ob_dn {a b : Nat} (h : b + 32 ≤ a) : nI (a - (b + 32)) = nI (a - b) + (-32) := by
  have := pk_sub (a := a - b) (b := 32) (by omega)
  rw [show a - (b + 32) = a - b - 32 by omega, ← this, Int32.sub_eq_add_neg]
  rfl
end OB
