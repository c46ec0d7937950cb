/-! compares of numbers by their bits -/
theorem ky_cmp {a b : UInt64} (ha : FP.Core.dIsNaN a = false) (hb : FP.Core.dIsNaN b = false) (op : CmpOp) : (Op.cmpValue (FP.dcmp a b) op < 0 ↔ FP.Core.dkey a < FP.Core.dkey b) ∧ (0 < Op.cmpValue (FP.dcmp a b) op ↔ FP.Core.dkey b < FP.Core.dkey a) ∧ (Op.cmpValue (FP.dcmp a b) op = 0 ↔ FP.Core.dkey a = FP.Core.dkey b) := by
  have na := (FP.Core.notNaN_iff a).mp ha
  have nb := (FP.Core.notNaN_iff b).mp hb
  rcases Int.lt_trichotomy (FP.Core.dkey a) (FP.Core.dkey b) with h | h | h
  · have : FP.dcmp a b = some .lt := (FP.Core.dcmp_lt_key na nb).mpr h
    rw [this]
    exact ⟨⟨fun _ => h, fun _ => (by cases op <;> decide)⟩, ⟨fun q => absurd q (by cases op <;> decide), fun q => by omega⟩, ⟨fun q => absurd q (by cases op <;> decide), fun q => by omega⟩⟩
  · have : FP.dcmp a b = some .eq := (FP.Core.dcmp_eq_key na nb).mpr h
    rw [this]
    exact ⟨⟨fun q => absurd q (by cases op <;> decide), fun q => by omega⟩, ⟨fun q => absurd q (by cases op <;> decide), fun q => by omega⟩, ⟨fun _ => h, fun _ => (by cases op <;> decide)⟩⟩
  · have : FP.dcmp a b = some .gt := (FP.Core.dcmp_gt_key na nb).mpr h
    rw [this]
    exact ⟨⟨fun q => absurd q (by cases op <;> decide), fun q => by omega⟩, ⟨fun _ => h, fun _ => (by cases op <;> decide)⟩, ⟨fun q => absurd q (by cases op <;> decide), fun q => by omega⟩⟩
theorem ky_of (a : UInt64) : FP.Core.dkey a = if 2 ^ 63 ≤ a.toNat then ((2 ^ 63 : Nat) : Int) - (a.toNat : Int) else (a.toNat : Int) := rfl
theorem ky_lv {x : Int64} : isLvP x 13840687554816376832 4621819117588971520 ↔ lvOk x := by
  have hb := nu_lt x
  have hm := nu_mle (x := x) (c := 9218868437227405312) (by decide)
  constructor
  · rintro ⟨h1, h2, h3⟩
    have h1 := hm.mp h1
    have hn : FP.Core.dIsNaN x.toUInt64 = false := nu_not h1
    have k1 := (ky_cmp hn (b := 13840687554816376832) (by decide +kernel) CmpOp.l).1
    have k2 := (ky_cmp hn (b := 4621819117588971520) (by decide +kernel) CmpOp.g).2.1
    rw [k1, show FP.Core.dkey 13840687554816376832 = -4617315517961601024 from by decide +kernel, ky_of] at h2
    rw [k2, show FP.Core.dkey 4621819117588971520 = 4621819117588971520 from by decide +kernel, ky_of] at h3
    refine ⟨fun q => ?_, fun q => ?_⟩
    · have q := (nu_nn x).mp q
      rw [if_neg (by omega)] at h3
      exact (nu_le (c := 4621819117588971520) (by decide) q).mpr (by omega)
    · have q : ¬ x.toUInt64.toNat < 2 ^ 63 := fun z => q ((nu_nn x).mpr z)
      rw [if_pos (by omega)] at h2
      exact (nu_mle (c := 4617315517961601024) (by decide)).mpr (by omega)
  · intro h
    have h0 := nu_lv h
    have hn : FP.Core.dIsNaN x.toUInt64 = false := nu_not (by omega)
    have k1 := (ky_cmp hn (b := 13840687554816376832) (by decide +kernel) CmpOp.l).1
    have k2 := (ky_cmp hn (b := 4621819117588971520) (by decide +kernel) CmpOp.g).2.1
    refine ⟨hm.mpr (by omega), ?_, ?_⟩
    · rw [k1, show FP.Core.dkey 13840687554816376832 = -4617315517961601024 from by decide +kernel, ky_of]
      by_cases c : 2 ^ 63 ≤ x.toUInt64.toNat
      · rw [if_pos c]
        have := (nu_mle (c := 4617315517961601024) (by decide)).mp (h.2 (fun z => by have := (nu_nn x).mp z; omega))
        omega
      · rw [if_neg c]; omega
    · rw [k2, show FP.Core.dkey 4621819117588971520 = 4621819117588971520 from by decide +kernel, ky_of]
      by_cases c : 2 ^ 63 ≤ x.toUInt64.toNat
      · rw [if_pos c]; omega
      · rw [if_neg c]
        have := (nu_le (c := 4621819117588971520) (by decide) (by omega)).mp (h.1 ((nu_nn x).mpr (by omega)))
        omega
theorem ky_cr {x : Int64} : (¬ x < 0 ∧ isLvP x FP.dconst0 4621819117588971520) ↔ crOk x := by
  have hb := nu_lt x
  have hm := nu_mle (x := x) (c := 9218868437227405312) (by decide)
  constructor
  · rintro ⟨h0, h1, h2, h3⟩
    have h1 := hm.mp h1
    have hn : FP.Core.dIsNaN x.toUInt64 = false := nu_not h1
    have k2 := (ky_cmp hn (b := 4621819117588971520) (by decide +kernel) CmpOp.g).2.1
    rw [k2, show FP.Core.dkey 4621819117588971520 = 4621819117588971520 from by decide +kernel, ky_of] at h3
    have q := (nu_nn x).mp (Int64.not_lt.mp h0)
    rw [if_neg (by omega)] at h3
    exact ⟨h0, (nu_le (c := 4621819117588971520) (by decide) q).mpr (by omega)⟩
  · rintro ⟨h0, h1⟩
    have q := (nu_nn x).mp (Int64.not_lt.mp h0)
    have h2 := (nu_le (c := 4621819117588971520) (by decide) q).mp h1
    have hn : FP.Core.dIsNaN x.toUInt64 = false := nu_not (by omega)
    have k1 := (ky_cmp hn (b := FP.dconst0) (by decide +kernel) CmpOp.l).1
    have k2 := (ky_cmp hn (b := 4621819117588971520) (by decide +kernel) CmpOp.g).2.1
    refine ⟨h0, hm.mpr (by omega), ?_, ?_⟩
    · rw [k1, show FP.Core.dkey FP.dconst0 = 0 from by decide +kernel, ky_of, if_neg (by omega)]; omega
    · rw [k2, show FP.Core.dkey 4621819117588971520 = 4621819117588971520 from by decide +kernel, ky_of, if_neg (by omega)]; omega
theorem ky_self {x : Int64} (h : lvOk x) : Op.cmpValue (FP.dcmp x.toUInt64 x.toUInt64) CmpOp.l = 0 :=
  have hn : FP.Core.dIsNaN x.toUInt64 = false := nu_not (by have := nu_lv h; omega)
  (ky_cmp hn hn CmpOp.l).2.2.mpr rfl
theorem ky_same {x y : Int64} (hx : lvOk x) (hy : lvOk y) : Op.cmpValue (FP.dcmp x.toUInt64 y.toUInt64) CmpOp.l = 0 ↔ smL y x := by
  have h1 := nu_lv hx
  have h2 := nu_lv hy
  have b1 := nu_lt x
  have b2 := nu_lt y
  rw [(ky_cmp (nu_not (by omega)) (nu_not (by omega)) CmpOp.l).2.2, ky_of, ky_of]
  have ho : (y ||| x) &&& 9223372036854775807 = 0 ↔ y.toUInt64.toNat % 2 ^ 63 = 0 ∧ x.toUInt64.toNat % 2 ^ 63 = 0 := by
    have e : ((y ||| x) &&& 9223372036854775807).toUInt64.toNat = (y.toUInt64.toNat % 2 ^ 63) ||| (x.toUInt64.toNat % 2 ^ 63) := by
      rw [nu_mask, show (y ||| x).toUInt64.toNat = y.toUInt64.toNat ||| x.toUInt64.toNat from UInt64.toNat_or _ _, Nat.or_mod_two_pow]
    constructor
    · intro h
      rw [h] at e
      have e : (y.toUInt64.toNat % 2 ^ 63) ||| (x.toUInt64.toNat % 2 ^ 63) = 0 := e.symm
      exact Nat.or_eq_zero_iff.mp e
    · rintro ⟨h, h'⟩
      apply nu_ext
      rw [e, h, h']
      rfl
  unfold smL
  rw [ho]
  constructor
  · intro h
    by_cases c : x.toUInt64.toNat = y.toUInt64.toNat
    · exact Or.inl (nu_ext c.symm)
    · right
      split at h <;> split at h <;> omega
  · rintro (h | ⟨h, h'⟩)
    · rw [h]
    · split <;> split <;> omega
