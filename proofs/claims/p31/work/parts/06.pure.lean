/-! words for what the methods answer -/
def cntI (f : Nat → Int32) (w : Int32) (n : Nat) : Int32 := lp (fun k r => if f k = w then r + 1 else r) n 0
noncomputable def fI (P : Nat → Prop) (n : Nat) : Int32 := if fst_ P n < n then nI (fst_ P n) else -5
theorem fI_some {P : Nat → Prop} {k n : Nat} (hk : k < n) (h : ∀ j, j < k → ¬ P j) (hp : P k) : nI k = fI P n := by
  unfold fI
  rw [fst_some hk h hp, if_pos hk]
theorem fI_none {P : Nat → Prop} {n : Nat} (h : ∀ j, j < n → ¬ P j) : -5 = fI P n := by
  unfold fI
  rw [fst_none n h, if_neg (Nat.lt_irrefl n)]
theorem fI_nat {P : Nat → Prop} {n : Nat} (h : ¬ fI P n < 0) : fst_ P n < n ∧ fI P n = nI (fst_ P n) := by
  unfold fI at h ⊢
  by_cases c : fst_ P n < n
  · rw [if_pos c]; exact ⟨c, rfl⟩
  · rw [if_neg c] at h; exact absurd (by decide) h
theorem fI_neg {P : Nat → Prop} {n : Nat} (hn : n < 2 ^ 31) (h : fI P n < 0) : ¬ fst_ P n < n := by
  unfold fI at h
  intro c
  rw [if_pos c] at h
  exact nI_pos (by omega) h
theorem fst_spec {P : Nat → Prop} {n : Nat} (h : fst_ P n < n) : P (fst_ P n) ∧ ∀ j, j < fst_ P n → ¬ P j := by
  by_cases e : ∃ k, k < n ∧ P k
  · obtain ⟨k, h1, h2⟩ := pk_least (fun k => k < n ∧ P k) e
    have hm : ∀ j, j < k → ¬ P j := fun j hj q => h2 j hj ⟨by omega, q⟩
    rw [fst_some h1.1 hm h1.2]
    exact ⟨h1.2, hm⟩
  · rw [fst_none n (fun j hj q => e ⟨j, hj, q⟩)] at h
    exact absurd h (Nat.lt_irrefl n)
/-- the section that moves, by its number, or n -/
noncomputable def mvN (co : Nat → Int32) (n : Nat) : Nat := fst_ (fun k => co k = 1 ∨ co k = 3) n
noncomputable def mvI (co : Nat → Int32) (n : Nat) : Int32 := fI (fun k => co k = 1 ∨ co k = 3) n
/-- the last one of which P holds, from above -/
noncomputable def lI (P : Nat → Prop) (n : Nat) : Int32 := if fst_ (fun k => P (n - 1 - k)) n < n then nI (n - 1 - fst_ (fun k => P (n - 1 - k)) n) else -5
theorem lI_some {P : Nat → Prop} {k n : Nat} (hk : k < n) (h : ∀ j, j < k → ¬ P (n - 1 - j)) (hp : P (n - 1 - k)) : nI (n - 1 - k) = lI P n := by
  unfold lI
  rw [fst_some (P := fun k => P (n - 1 - k)) hk h hp, if_pos hk]
theorem lI_none {P : Nat → Prop} {n : Nat} (h : ∀ j, j < n → ¬ P (n - 1 - j)) : -5 = lI P n := by
  unfold lI
  rw [fst_none (P := fun k => P (n - 1 - k)) n h, if_neg (Nat.lt_irrefl n)]
/-- a number that counts down -/
theorem z_dn {n k : Nat} (hk : k ≤ n) (hn : n < 2 ^ 31) (h : ¬ nI (n - k) + (-1) < 0) : k < n ∧ nI (n - k) + (-1) = nI (n - 1 - k) := by
  rcases Nat.lt_or_ge k n with q | q
  · refine ⟨q, ?_⟩
    rw [show n - k = (n - 1 - k) + 1 by omega, pk_m1]
  · rw [show n - k = 0 by omega] at h
    exact absurd (by decide) h
theorem z_dn0 {n k : Nat} (hk : k ≤ n) (hn : n < 2 ^ 31) (h : nI (n - k) + (-1) < 0) : n = k := by
  rcases Nat.lt_or_ge k n with q | q
  · rw [show n - k = (n - 1 - k) + 1 by omega, pk_m1] at h
    exact absurd h (nI_pos (by omega))
  · omega
/-- what a section's step makes of hours left, state, times -/
noncomputable def gOle (co le : Nat → Int32) (n : Nat) : Nat → Int32 := if mvN co n < n then upd le (mvN co n) (le (mvN co n) - 1) else le
noncomputable def gOco (co le : Nat → Int32) (n : Nat) : Nat → Int32 := if mvN co n < n then (if le (mvN co n) - 1 ≤ 0 then (if co (mvN co n) = 1 then upd co (mvN co n) 2 else upd co (mvN co n) 0) else co) else co
noncomputable def gOcs (co le cs : Nat → Int32) (n : Nat) : Nat → Int32 := if mvN co n < n then (if le (mvN co n) - 1 ≤ 0 then (if co (mvN co n) = 1 then upd cs (mvN co n) (cs (mvN co n) + 1) else cs) else cs) else cs
/-- water: so much, or as much as there is -/
def tkL (w v : Int64) : Int64 := if v < w then v else w
/-- volume, in, out: water through a section -/
def flT (w : Int64) (t : Int64 × Int64 × Int64) : Int64 × Int64 × Int64 := if w ≤ 0 then (t.1 - tkL (-w) t.1, t.2.1, t.2.2 + tkL (-w) t.1) else (t.1 + w, t.2.1 + w, t.2.2)
abbrev dGe (x y : UInt64) : Prop := 0 ≤ Op.cmpValue (FP.dcmp x y) CmpOp.g
def thrW (wi : Int32) (d : UInt64) : Int64 := FP.d2l (FP.dmul (FP.dmul (FP.i2d wi) 4651127699538968576) d)
def ltS (wi co : Nat → Int32) (out inn : UInt64) (k : Nat) (t : Int64 × Int64 × Int64) : Int64 × Int64 × Int64 := if co k = 2 then t else flT (thrW (wi k) (FP.dsub out inn)) t
def ovW (wi : Int32) (d : UInt64) : Int64 := FP.d2l (FP.dmul (FP.dmul (FP.i2d wi) 4646624099911598080) d)
def ovS (wi : Nat → Int32) (cr : Nat → Int64) (co : Nat → Int32) (out : UInt64) (k : Nat) (t : Int64 × Int64) : Int64 × Int64 := if co k = 2 then (if 0 ≤ Op.cmpValue (FP.dcmp (cr k).toUInt64 out) CmpOp.g then t else (t.1 + ovW (wi k) (FP.dsub out (cr k).toUInt64), t.2 + ovW (wi k) (FP.dsub out (cr k).toUInt64))) else t
def wcI (cl we : Nat → Int32) (n : Nat) : Int32 := lp (fun k r => if cl k = 0 then r else r + we k) n 0
def waI (we : Nat → Int32) (n : Nat) : Int32 := lp (fun k r => r + we k) n 0
def onI (on : Nat → Int32) (n : Nat) : Int32 := lp (fun k r => if on k = 0 then r else r + 1) n 0
def brS (wa : Nat → Int32) (k : Nat) (t : Int64 × Int64) : Int64 × Int64 := (t.1 + (wa k).toInt64, t.2 + (wa k).toInt64)
abbrev rbP (on po : Nat → Int32) (lim dr : Int32) (k : Nat) : Prop := ¬ on k = 0 ∧ ¬ lim < dr + po k
def drN (on po : Nat → Int32) (lim : Int32) (n : Nat) : Int32 := lp (fun j d => if rbP on po lim d j then d + po j else d) n 0
/-- the pumps' step: power drawn, idle, hours run, volume, pumped -/
def ruS (on po wa : Nat → Int32) (lim : Int32) (k : Nat) (t : Int32 × Int32 × (Nat → Int32) × Int64 × Int64) : Int32 × Int32 × (Nat → Int32) × Int64 × Int64 :=
  if rbP on po lim t.1 k then (t.1 + po k, t.2.1, upd t.2.2.1 k (t.2.2.1 k + 1), t.2.2.2.1 - tkL (wa k).toInt64 t.2.2.2.1, t.2.2.2.2 + tkL (wa k).toInt64 t.2.2.2.1)
  else (t.1, t.2.1 + 1, t.2.2.1, t.2.2.2.1, t.2.2.2.2)
theorem z_uDs {f : Nat → UInt64} {k : Nat} {x : UInt64} : vf_upd f k x k = x := by simp [vf_upd]
theorem drN_s (on po : Nat → Int32) (lim : Int32) (k : Nat) : drN on po lim (k + 1) = if rbP on po lim (drN on po lim k) k then drN on po lim k + po k else drN on po lim k := rfl
abbrev lvOk (x : Int64) : Prop := (0 ≤ x → x ≤ 4621819117588971520) ∧ (¬ 0 ≤ x → x &&& 9223372036854775807 ≤ 4617315517961601024)
abbrev crOk (x : Int64) : Prop := ¬ x < 0 ∧ x ≤ 4621819117588971520
abbrev smL (x y : Int64) : Prop := x = y ∨ (x ||| y) &&& 9223372036854775807 = 0
theorem xor_nn {x y : Nat} (hx : x < 2 ^ 31) (hy : y < 2 ^ 31) : 0 ≤ nI x ^^^ nI y := by
  have e : nI x ^^^ nI y = nI (x ^^^ y) := by
    apply Int32.toBitVec_inj.mp
    rw [Int32.toBitVec_xor]
    apply BitVec.eq_of_toNat_eq
    rw [BitVec.toNat_xor, pk_tn (by omega), pk_tn (by omega), pk_tn (Nat.lt_of_lt_of_le (Nat.xor_lt_two_pow hx hy) (by decide))]
  rw [e]
  exact nI_pos' (Nat.xor_lt_two_pow hx hy)
/-- what an hour's first step makes of states, hours left, order; whether one jams -/
noncomputable def snCo (od : Int32) (li co cs : Nat → Int32) (n : Nat) : Nat → Int32 :=
  if od = 0 then co else if mvI co n = -5 then
    (if od = 1 then (if fst_ (fun k => co k = 0) n < n then (if cs (fst_ (fun k => co k = 0) n) < li (fst_ (fun k => co k = 0) n) then upd co (fst_ (fun k => co k = 0) n) 1 else upd co (fst_ (fun k => co k = 0) n) 4) else co)
    else (if fst_ (fun k => co (n - 1 - k) = 2) n < n then upd co (n - 1 - fst_ (fun k => co (n - 1 - k) = 2) n) 3 else co)) else co
noncomputable def snLe (od : Int32) (ho li co le cs : Nat → Int32) (n : Nat) : Nat → Int32 :=
  if od = 0 then le else if mvI co n = -5 then
    (if od = 1 then (if fst_ (fun k => co k = 0) n < n then (if cs (fst_ (fun k => co k = 0) n) < li (fst_ (fun k => co k = 0) n) then upd le (fst_ (fun k => co k = 0) n) (ho (fst_ (fun k => co k = 0) n)) else le) else le)
    else (if fst_ (fun k => co (n - 1 - k) = 2) n < n then upd le (n - 1 - fst_ (fun k => co (n - 1 - k) = 2) n) (ho (n - 1 - fst_ (fun k => co (n - 1 - k) = 2) n)) else le)) else le
noncomputable def snOd (od : Int32) (co : Nat → Int32) (n : Nat) : Int32 :=
  if od = 0 then od else if mvI co n = -5 then
    (if od = 1 then (if fst_ (fun k => co k = 0) n < n then od else 0)
    else (if fst_ (fun k => co (n - 1 - k) = 2) n < n then od else 0)) else od
abbrev snJ (od : Int32) (li co cs : Nat → Int32) (n : Nat) : Prop := ¬ od = 0 ∧ mvI co n = -5 ∧ od = 1 ∧ fst_ (fun k => co k = 0) n < n ∧ ¬ cs (fst_ (fun k => co k = 0) n) < li (fst_ (fun k => co k = 0) n)
theorem lI_nat {P : Nat → Prop} {n : Nat} (h : ¬ lI P n < 0) : fst_ (fun k => P (n - 1 - k)) n < n ∧ lI P n = nI (n - 1 - fst_ (fun k => P (n - 1 - k)) n) := by
  unfold lI at h ⊢
  by_cases c : fst_ (fun k => P (n - 1 - k)) n < n
  · rw [if_pos c]; exact ⟨c, rfl⟩
  · rw [if_neg c] at h; exact absurd (by decide) h
theorem lI_neg {P : Nat → Prop} {n : Nat} (hn : n < 2 ^ 31) (h : lI P n < 0) : ¬ fst_ (fun k => P (n - 1 - k)) n < n := by
  unfold lI at h
  intro c
  rw [if_pos c] at h
  exact nI_pos (by omega) h
theorem i_nlt {x : Int32} (h : 0 ≤ x) : ¬ x < 0 := fun q => absurd (Int32.not_le.mpr q) (fun r => r h)
theorem i_lt {x : Int32} (h : ¬ 0 ≤ x) : x < 0 := Int32.not_le.mp h
/-- what hours change: states, hours left, times; order, hour; volume, in, out, over, brought, pumped; idle, hours run -/
abbrev HV : Type := (Nat → Int32) × (Nat → Int32) × (Nat → Int32) × Int32 × Nat × Int64 × Int64 × Int64 × Int64 × Int64 × Int64 × Int32 × (Nat → Int32)
def h_co (v : HV) : Nat → Int32 := v.1
def h_le (v : HV) : Nat → Int32 := v.2.1
def h_cs (v : HV) : Nat → Int32 := v.2.2.1
def h_od (v : HV) : Int32 := v.2.2.2.1
def h_h (v : HV) : Nat := v.2.2.2.2.1
def h_vo (v : HV) : Int64 := v.2.2.2.2.2.1
def h_fi (v : HV) : Int64 := v.2.2.2.2.2.2.1
def h_fo (v : HV) : Int64 := v.2.2.2.2.2.2.2.1
def h_fv (v : HV) : Int64 := v.2.2.2.2.2.2.2.2.1
def h_br (v : HV) : Int64 := v.2.2.2.2.2.2.2.2.2.1
def h_pu (v : HV) : Int64 := v.2.2.2.2.2.2.2.2.2.2.1
def h_id (v : HV) : Int32 := v.2.2.2.2.2.2.2.2.2.2.2.1
def h_ra (v : HV) : Nat → Int32 := v.2.2.2.2.2.2.2.2.2.2.2.2
def innD (ar : Int32) (vo : Int64) : UInt64 := FP.ddiv (FP.l2d vo) (FP.i2d ar)
/-- an hour -/
noncomputable def psS (nS : Nat) (wi : Nat → Int32) (cr : Nat → Int64) (ho li : Nat → Int32) (nT : Nat) (sw : Nat → Int32) (nP : Nat) (lim : Int32) (po pw on : Nat → Int32) (ar : Int32) (td : Nat → Int64) (v : HV) : HV :=
  let co1 := snCo (h_od v) li (h_co v) (h_cs v) nS
  let le1 := snLe (h_od v) ho li (h_co v) (h_le v) (h_cs v) nS
  let t1 := lp (ltS wi co1 (td (h_h v % 24)).toUInt64 (FP.ddiv (FP.l2d (h_vo v)) (FP.i2d ar))) nS (h_vo v, h_fi v, h_fo v)
  let t2 := lp (ovS wi cr co1 (td (h_h v % 24)).toUInt64) nS (t1.1, h_fv v)
  let t3 := lp (brS sw) nT (t2.1, h_br v)
  let t4 := lp (ruS on po pw lim) nP (0, 0, h_ra v, t3.1, h_pu v)
  (gOco co1 le1 nS, gOle co1 le1 nS, gOcs co1 le1 (h_cs v) nS, snOd (h_od v) (h_co v) nS, h_h v + 1, t4.2.2.2.1, t1.2.1, t1.2.2, t2.2, t3.2, t4.2.2.2.2, t4.2.1, t4.2.2.1)
/-- hours, one after the other; how many jam -/
noncomputable def psL (nS : Nat) (wi : Nat → Int32) (cr : Nat → Int64) (ho li : Nat → Int32) (nT : Nat) (sw : Nat → Int32) (nP : Nat) (lim : Int32) (po pw on : Nat → Int32) (ar : Int32) (td : Nat → Int64) (v : HV) (k : Nat) : HV := lp (fun _ t => psS nS wi cr ho li nT sw nP lim po pw on ar td t) k v
noncomputable def psJ (nS : Nat) (wi : Nat → Int32) (cr : Nat → Int64) (ho li : Nat → Int32) (nT : Nat) (sw : Nat → Int32) (nP : Nat) (lim : Int32) (po pw on : Nat → Int32) (ar : Int32) (td : Nat → Int64) (v : HV) (k : Nat) : Int32 :=
  lp (fun j r => @ite Int32 (snJ (h_od (psL nS wi cr ho li nT sw nP lim po pw on ar td v j)) li (h_co (psL nS wi cr ho li nT sw nP lim po pw on ar td v j)) (h_cs (psL nS wi cr ho li nT sw nP lim po pw on ar td v j)) nS) (Classical.propDecidable _) (r + 1) r) k 0
theorem h_h_psL (nS : Nat) (wi : Nat → Int32) (cr : Nat → Int64) (ho li : Nat → Int32) (nT : Nat) (sw : Nat → Int32) (nP : Nat) (lim : Int32) (po pw on : Nat → Int32) (ar : Int32) (td : Nat → Int64) (v : HV) (k : Nat) : h_h (psL nS wi cr ho li nT sw nP lim po pw on ar td v k) = h_h v + k := by
  induction k with
  | zero => rfl
  | succ k ih => show h_h (psL nS wi cr ho li nT sw nP lim po pw on ar td v k) + 1 = _; omega
/-- numbers that are none would spoil an hour: none comes -/
abbrev wiOk (wi : Nat → Int32) (n : Nat) : Prop := ∀ k, k < n → 1 ≤ wi k ∧ wi k ≤ 50
abbrev arOk (ar : Int32) : Prop := 1000 ≤ ar ∧ ar ≤ 1000000
/-! numbers: which results are numbers -/
theorem nu_and (r : UInt64) : (r &&& 0x7fffffffffffffff).toNat = r.toNat % 2 ^ 63 := by
  rw [UInt64.toNat_and]
  exact Nat.and_two_pow_sub_one_eq_mod r.toNat 63
theorem nu_n64 {r : UInt64} (h : FP.Core.dIsNaN r = false) : vf_n64 r := by
  unfold vf_n64
  rw [UInt64.le_iff_toNat_le, nu_and]
  exact (FP.Core.ne_nan r).mp ((FP.Core.notNaN_iff r).mp h)
theorem nu_not {r : UInt64} (h : r.toNat % 2 ^ 63 ≤ 9218868437227405312) : FP.Core.dIsNaN r = false := (FP.Core.notNaN_iff r).mpr ((FP.Core.ne_nan r).mpr h)
theorem nu_fin {r : UInt64} (h : r.toNat % 2 ^ 63 < 9218868437227405312) : FP.Core.DFin r := (FP.Core.fin_bits r).mpr h
theorem nu_int (x : Int64) : x.toInt = if 2 * x.toUInt64.toNat < 2 ^ 64 then (x.toUInt64.toNat : Int) else (x.toUInt64.toNat : Int) - (2 ^ 64 : Nat) := BitVec.toInt_eq_toNat_cond x.toBitVec
theorem nu_lt (x : Int64) : x.toUInt64.toNat < 2 ^ 64 := x.toUInt64.toNat_lt
theorem nu_mask (x : Int64) : (x &&& 9223372036854775807).toUInt64.toNat = x.toUInt64.toNat % 2 ^ 63 := nu_and x.toUInt64
/-- the compares of longs by their bits -/
theorem nu_nn (x : Int64) : 0 ≤ x ↔ x.toUInt64.toNat < 2 ^ 63 := by
  rw [Int64.le_iff_toInt_le, nu_int x, show Int64.toInt 0 = 0 from rfl]
  have := nu_lt x
  split <;> omega
theorem nu_le {x : Int64} {c : Nat} (hc : c < 2 ^ 63) (hx : x.toUInt64.toNat < 2 ^ 63) : x ≤ Int64.ofNat c ↔ x.toUInt64.toNat ≤ c := by
  have e : (Int64.ofNat c).toUInt64.toNat = c := by
    show (UInt64.ofNat c).toNat = c
    rw [UInt64.toNat_ofNat']
    omega
  rw [Int64.le_iff_toInt_le, nu_int x, nu_int (Int64.ofNat c), e, if_pos (by omega), if_pos (by omega)]
  omega
theorem nu_mle {x : Int64} {c : Nat} (hc : c < 2 ^ 63) : x &&& 9223372036854775807 ≤ Int64.ofNat c ↔ x.toUInt64.toNat % 2 ^ 63 ≤ c := by
  have h := nu_mask x
  rw [nu_le hc (by omega), h]
/-- a level's bits are a number's -/
theorem nu_lv {x : Int64} (hx : lvOk x) : x.toUInt64.toNat % 2 ^ 63 ≤ 4621819117588971520 := by
  by_cases c : 0 ≤ x
  · have c2 := (nu_nn x).mp c
    have := (nu_le (c := 4621819117588971520) (by decide) c2).mp (hx.1 c)
    omega
  · have := (nu_mle (c := 4617315517961601024) (by decide)).mp (hx.2 c)
    omega
theorem nu_lvF {x : Int64} (hx : lvOk x) : FP.Core.DFin x.toUInt64 := nu_fin (by have := nu_lv hx; omega)
theorem nu_i2z {a : Int32} (h : a ≠ 0) : ¬ FP.Core.DZero (FP.i2d a) := by
  rintro ⟨s, q, e⟩
  have hw : FP.Core.Whole a.toInt64.toInt (FP.Core.val64 (FP.Core.l2d a.toInt64)) := FP.Core.l2d_whole (by
    unfold FP.Core.Small53
    rw [Int32.toInt_toInt64]
    have := a.le_toInt
    have := a.toInt_lt
    omega)
  rw [← FP.Core.i2d_l2d, show FP.Core.val64 (FP.Core.i2d a) = _ from e] at hw
  have := (FP.Core.whole_zero hw).mp rfl
  rw [Int32.toInt_toInt64] at this
  exact h (Int32.toInt_inj.mp this)
theorem nu_ar {ar : Int32} (h : arOk ar) : ar ≠ 0 := by
  rintro rfl
  exact absurd h.1 (by decide)
theorem nu_inn {ar : Int32} (h : arOk ar) (vo : Int64) : FP.Core.dIsNaN (FP.ddiv (FP.l2d vo) (FP.i2d ar)) = false :=
  FP.Core.ddiv_out (FP.Core.l2d_fin vo).notNaN (FP.Core.i2d_fin ar) (nu_i2z (nu_ar h))
theorem nu_sub {x : Int64} (hx : lvOk x) {ar : Int32} (h : arOk ar) (vo : Int64) : FP.Core.dIsNaN (FP.dsub x.toUInt64 (FP.ddiv (FP.l2d vo) (FP.i2d ar))) = false :=
  FP.Core.dsub_out' (nu_lvF hx) (nu_inn h vo)
/-- widths times 900 and 450: numbers and no zeros, by trying all fifty -/
theorem nu_w (w : Int32) (hw : 1 ≤ w ∧ w ≤ 50) : (FP.Core.DFin (FP.dmul (FP.i2d w) 4651127699538968576) ∧ ¬ FP.Core.DZero (FP.dmul (FP.i2d w) 4651127699538968576)) ∧ (FP.Core.DFin (FP.dmul (FP.i2d w) 4646624099911598080) ∧ ¬ FP.Core.DZero (FP.dmul (FP.i2d w) 4646624099911598080)) := by
  obtain ⟨k, hk, rfl⟩ : ∃ k : Nat, k < 50 ∧ w = nI (k + 1) := by
    have h1 := Int32.le_iff_toInt_le.mp hw.1
    have h2 := Int32.le_iff_toInt_le.mp hw.2
    rw [show Int32.toInt 1 = 1 from rfl] at h1
    rw [show Int32.toInt 50 = 50 from rfl] at h2
    refine ⟨w.toInt.toNat - 1, by omega, ?_⟩
    apply Int32.toInt_inj.mp
    rw [show nI (w.toInt.toNat - 1 + 1) = Int32.ofNat (w.toInt.toNat - 1 + 1) from rfl, Int32.toInt_ofNat_of_lt (by omega)]
    omega
  simp only [FP.Core.fin_bits, FP.Core.zero_bits2]
  have : ∀ k : Fin 50, ((FP.dmul (FP.i2d (nI (k.val + 1))) 4651127699538968576).toNat % 2 ^ 63 < 9218868437227405312 ∧ ¬ (FP.dmul (FP.i2d (nI (k.val + 1))) 4651127699538968576).toNat % 2 ^ 63 = 0) ∧ ((FP.dmul (FP.i2d (nI (k.val + 1))) 4646624099911598080).toNat % 2 ^ 63 < 9218868437227405312 ∧ ¬ (FP.dmul (FP.i2d (nI (k.val + 1))) 4646624099911598080).toNat % 2 ^ 63 = 0) := by decide +kernel
  exact this ⟨k, hk⟩
theorem nu_mulc {a b : UInt64} (ha : FP.Core.DFin a ∧ ¬ FP.Core.DZero a) (hb : FP.Core.dIsNaN b = false) : FP.Core.dIsNaN (FP.dmul a b) = false := by
  show FP.Core.dIsNaN (FP.Core.dmul a b) = false
  rw [FP.Core.dmul_comm]
  exact FP.Core.dmul_out' hb ha.1 ha.2
theorem nn_inn {ar : Int32} (h : arOk ar) (vo : Int64) : vf_n64 (FP.ddiv (FP.l2d vo) (FP.i2d ar)) := nu_n64 (nu_inn h vo)
theorem nn_sub {x : Int64} (hx : lvOk x) {ar : Int32} (h : arOk ar) (vo : Int64) : vf_n64 (FP.dsub x.toUInt64 (FP.ddiv (FP.l2d vo) (FP.i2d ar))) := nu_n64 (nu_sub hx h vo)
theorem nn_mul {w : Int32} (hw : 1 ≤ w ∧ w ≤ 50) {x : Int64} (hx : lvOk x) {ar : Int32} (h : arOk ar) (vo : Int64) : vf_n64 (FP.dmul (FP.i2d w) 4651127699538968576) ∧ vf_n64 (FP.dmul (FP.dmul (FP.i2d w) 4651127699538968576) (FP.dsub x.toUInt64 (FP.ddiv (FP.l2d vo) (FP.i2d ar)))) :=
  ⟨nu_n64 (nu_w w hw).1.1.notNaN, nu_n64 (nu_mulc (nu_w w hw).1 (nu_sub hx h vo))⟩
theorem nn_ov {w : Int32} (hw : 1 ≤ w ∧ w ≤ 50) {x y : Int64} (hx : lvOk x) (hy : lvOk y) : vf_n64 (FP.dsub x.toUInt64 y.toUInt64) ∧ vf_n64 (FP.dmul (FP.i2d w) 4646624099911598080) ∧ vf_n64 (FP.dmul (FP.dmul (FP.i2d w) 4646624099911598080) (FP.dsub x.toUInt64 y.toUInt64)) :=
  have h := FP.Core.dsub_out' (nu_lvF hx) (nu_lvF hy).notNaN
  ⟨nu_n64 h, nu_n64 (nu_w w hw).2.1.notNaN, nu_n64 (nu_mulc (nu_w w hw).2 h)⟩
theorem psJ_s (nS : Nat) (wi : Nat → Int32) (cr : Nat → Int64) (ho li : Nat → Int32) (nT : Nat) (sw : Nat → Int32) (nP : Nat) (lim : Int32) (po pw on : Nat → Int32) (ar : Int32) (td : Nat → Int64) (v : HV) (k : Nat) : psJ nS wi cr ho li nT sw nP lim po pw on ar td v (k + 1) =
  @ite Int32 (snJ (h_od (psL nS wi cr ho li nT sw nP lim po pw on ar td v k)) li (h_co (psL nS wi cr ho li nT sw nP lim po pw on ar td v k)) (h_cs (psL nS wi cr ho li nT sw nP lim po pw on ar td v k)) nS) (Classical.propDecidable _) (psJ nS wi cr ho li nT sw nP lim po pw on ar td v k + 1) (psJ nS wi cr ho li nT sw nP lim po pw on ar td v k) := rfl
/-! the text -/
abbrev dgP (x : Int32) : Prop := ¬ x < 48 ∧ ¬ 57 < x
def plB (q x : Int32) : Int32 := if q = 0 then (if x = 45 then 1 else if dgP x then 2 else -5) else if q = 1 then (if dgP x then 2 else -5) else if q = 2 then (if x = 46 then 3 else -5) else if q = 3 then (if dgP x then 4 else -5) else (if x = 44 then 0 else -5)
def plK (ch : Nat → Int32) (k : Nat) : Int32 := lp (fun j q => plB q (ch j)) k 0
theorem plK_s (ch : Nat → Int32) (k : Nat) : plK ch (k + 1) = plB (plK ch k) (ch k) := rfl
noncomputable def ftI (ch : Nat → Int32) (len : Nat) : Int32 := if fst_ (fun j => plK ch (j + 1) = -5) len < len then nI (fst_ (fun j => plK ch (j + 1) = -5) len) else if plK ch len = 4 then -5 else nI len
theorem ftI_some {ch : Nat → Int32} {k len : Nat} (hk : k < len) (h : ∀ j, j < k → ¬ plK ch (j + 1) = -5) (hp : plK ch (k + 1) = -5) : nI k = ftI ch len := by
  unfold ftI
  rw [fst_some (P := fun j => plK ch (j + 1) = -5) hk h hp, if_pos hk]
theorem ftI_4 {ch : Nat → Int32} {len : Nat} (h : ∀ j, j < len → ¬ plK ch (j + 1) = -5) (hp : plK ch len = 4) : -5 = ftI ch len := by
  unfold ftI
  rw [fst_none (P := fun j => plK ch (j + 1) = -5) len h, if_neg (Nat.lt_irrefl len), if_pos hp]
theorem ftI_n {ch : Nat → Int32} {len : Nat} (h : ∀ j, j < len → ¬ plK ch (j + 1) = -5) (hp : ¬ plK ch len = 4) : nI len = ftI ch len := by
  unfold ftI
  rw [fst_none (P := fun j => plK ch (j + 1) = -5) len h, if_neg (Nat.lt_irrefl len), if_neg hp]
def adL (v : Int32) (t : (Nat → Int32) × Nat) : (Nat → Int32) × Nat := if t.2 < 15 then (upd t.1 t.2 v, t.2 + 1) else t
theorem adL_le (v : Int32) (t : (Nat → Int32) × Nat) (h : t.2 ≤ 15) : (adL v t).2 ≤ 15 := by
  unfold adL
  by_cases q : t.2 < 15
  · rw [if_pos q]; exact q
  · rw [if_neg q]; exact h
def rtS (ch : Nat → Int32) (k : Nat) (t : Int32 × Int32 × (Nat → Int32) × Nat) : Int32 × Int32 × (Nat → Int32) × Nat :=
  if ch k = 45 then (t.1, 1, t.2.2) else if dgP (ch k) then (t.1 * 10 + (ch k - 48), t.2) else if ch k = 44 then (0, 0, adL (if t.2.1 = 0 then t.1 else -t.1) t.2.2) else t
theorem rt_le (ch te : Nat → Int32) (k : Nat) : (lp (rtS ch) k (0, 0, te, 0)).2.2.2 ≤ 15 := by
  induction k with
  | zero => exact Nat.zero_le _
  | succ k ih =>
    rw [lp_s]
    unfold rtS
    split
    · exact ih
    · split
      · exact ih
      · split
        · exact adL_le _ _ ih
        · exact ih
/-- the levels of a text without a fault -/
def rtE (ch te : Nat → Int32) (len : Nat) : (Nat → Int32) × Nat := adL (if (lp (rtS ch) len (0, 0, te, 0)).2.1 = 0 then (lp (rtS ch) len (0, 0, te, 0)).1 else -(lp (rtS ch) len (0, 0, te, 0)).1) (lp (rtS ch) len (0, 0, te, 0)).2.2
def lwI (te : Nat → Int32) (n : Nat) : Int32 := lp (fun k r => if te k < r then te k else r) n 0
