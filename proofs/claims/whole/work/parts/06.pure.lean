/-! words for what the methods answer -/
def cntI (f : Nat → Int32) (w : Int32) (n : Nat) : Int32 := lp (fun k r => if f k = w then r + 1 else r) n 0
noncomputable def fI (P : Nat → Prop) (n : Nat) : Int32 := if fst_ P n < n then nI (fst_ P n) else -5
theorem fI_some {P : Nat → Prop} {k n : Nat} (hk : k < n) (h : ∀ j, j < k → ¬ P j) (hp : P k) : nI k = fI P n := by
  unfold fI
  rw [fst_some hk h hp, if_pos hk]
theorem fI_none {P : Nat → Prop} {n : Nat} (h : ∀ j, j < n → ¬ P j) : -5 = fI P n := by
  unfold fI
  rw [fst_none n h, if_neg (Nat.lt_irrefl n)]
theorem fI_nat {P : Nat → Prop} {n : Nat} (h : ¬ fI P n < 0) : fst_ P n < n ∧ fI P n = nI (fst_ P n) := by
  unfold fI at h ⊢
  by_cases c : fst_ P n < n
  · rw [if_pos c]; exact ⟨c, rfl⟩
  · rw [if_neg c] at h; exact absurd (by decide) h
theorem fI_neg {P : Nat → Prop} {n : Nat} (hn : n < 2 ^ 31) (h : fI P n < 0) : ¬ fst_ P n < n := by
  unfold fI at h
  intro c
  rw [if_pos c] at h
  exact nI_pos (by omega) h
theorem fst_spec {P : Nat → Prop} {n : Nat} (h : fst_ P n < n) : P (fst_ P n) ∧ ∀ j, j < fst_ P n → ¬ P j := by
  by_cases e : ∃ k, k < n ∧ P k
  · obtain ⟨k, h1, h2⟩ := pk_least (fun k => k < n ∧ P k) e
    have hm : ∀ j, j < k → ¬ P j := fun j hj q => h2 j hj ⟨by omega, q⟩
    rw [fst_some h1.1 hm h1.2]
    exact ⟨h1.2, hm⟩
  · rw [fst_none n (fun j hj q => e ⟨j, hj, q⟩)] at h
    exact absurd h (Nat.lt_irrefl n)
/-- the section that moves, by its number, or n -/
noncomputable def mvN (co : Nat → Int32) (n : Nat) : Nat := fst_ (fun k => co k = 1 ∨ co k = 3) n
noncomputable def mvI (co : Nat → Int32) (n : Nat) : Int32 := fI (fun k => co k = 1 ∨ co k = 3) n
/-- the last one of which P holds, from above -/
noncomputable def lI (P : Nat → Prop) (n : Nat) : Int32 := if fst_ (fun k => P (n - 1 - k)) n < n then nI (n - 1 - fst_ (fun k => P (n - 1 - k)) n) else -5
theorem lI_some {P : Nat → Prop} {k n : Nat} (hk : k < n) (h : ∀ j, j < k → ¬ P (n - 1 - j)) (hp : P (n - 1 - k)) : nI (n - 1 - k) = lI P n := by
  unfold lI
  rw [fst_some (P := fun k => P (n - 1 - k)) hk h hp, if_pos hk]
theorem lI_none {P : Nat → Prop} {n : Nat} (h : ∀ j, j < n → ¬ P (n - 1 - j)) : -5 = lI P n := by
  unfold lI
  rw [fst_none (P := fun k => P (n - 1 - k)) n h, if_neg (Nat.lt_irrefl n)]
/-- a number that counts down -/
theorem z_dn {n k : Nat} (hk : k ≤ n) (hn : n < 2 ^ 31) (h : ¬ nI (n - k) + (-1) < 0) : k < n ∧ nI (n - k) + (-1) = nI (n - 1 - k) := by
  rcases Nat.lt_or_ge k n with q | q
  · refine ⟨q, ?_⟩
    rw [show n - k = (n - 1 - k) + 1 by omega, pk_m1]
  · rw [show n - k = 0 by omega] at h
    exact absurd (by decide) h
theorem z_dn0 {n k : Nat} (hk : k ≤ n) (hn : n < 2 ^ 31) (h : nI (n - k) + (-1) < 0) : n = k := by
  rcases Nat.lt_or_ge k n with q | q
  · rw [show n - k = (n - 1 - k) + 1 by omega, pk_m1] at h
    exact absurd h (nI_pos (by omega))
  · omega
/-- what a section's step makes of hours left, state, times -/
noncomputable def gOle (co le : Nat → Int32) (n : Nat) : Nat → Int32 := if mvN co n < n then upd le (mvN co n) (le (mvN co n) - 1) else le
noncomputable def gOco (co le : Nat → Int32) (n : Nat) : Nat → Int32 := if mvN co n < n then (if le (mvN co n) - 1 ≤ 0 then (if co (mvN co n) = 1 then upd co (mvN co n) 2 else upd co (mvN co n) 0) else co) else co
noncomputable def gOcs (co le cs : Nat → Int32) (n : Nat) : Nat → Int32 := if mvN co n < n then (if le (mvN co n) - 1 ≤ 0 then (if co (mvN co n) = 1 then upd cs (mvN co n) (cs (mvN co n) + 1) else cs) else cs) else cs
/-- water: so much, or as much as there is -/
def tkL (w v : Int64) : Int64 := if v < w then v else w
/-- volume, in, out: water through a section -/
def flT (w : Int64) (t : Int64 × Int64 × Int64) : Int64 × Int64 × Int64 := if w ≤ 0 then (t.1 - tkL (-w) t.1, t.2.1, t.2.2 + tkL (-w) t.1) else (t.1 + w, t.2.1 + w, t.2.2)
abbrev dGe (x y : UInt64) : Prop := 0 ≤ Op.cmpValue (FP.dcmp x y) CmpOp.g
def thrW (wi : Int32) (d : UInt64) : Int64 := FP.d2l (FP.dmul (FP.dmul (FP.i2d wi) 4651127699538968576) d)
def ltS (wi co : Nat → Int32) (out inn : UInt64) (k : Nat) (t : Int64 × Int64 × Int64) : Int64 × Int64 × Int64 := if co k = 2 then t else flT (thrW (wi k) (FP.dsub out inn)) t
def ovW (wi : Int32) (d : UInt64) : Int64 := FP.d2l (FP.dmul (FP.dmul (FP.i2d wi) 4646624099911598080) d)
def ovS (wi : Nat → Int32) (cr : Nat → Int64) (co : Nat → Int32) (out : UInt64) (k : Nat) (t : Int64 × Int64) : Int64 × Int64 := if co k = 2 then (if 0 ≤ Op.cmpValue (FP.dcmp (cr k).toUInt64 out) CmpOp.g then t else (t.1 + ovW (wi k) (FP.dsub out (cr k).toUInt64), t.2 + ovW (wi k) (FP.dsub out (cr k).toUInt64))) else t
def wcI (cl we : Nat → Int32) (n : Nat) : Int32 := lp (fun k r => if cl k = 0 then r else r + we k) n 0
def waI (we : Nat → Int32) (n : Nat) : Int32 := lp (fun k r => r + we k) n 0
def onI (on : Nat → Int32) (n : Nat) : Int32 := lp (fun k r => if on k = 0 then r else r + 1) n 0
def brS (wa : Nat → Int32) (k : Nat) (t : Int64 × Int64) : Int64 × Int64 := (t.1 + (wa k).toInt64, t.2 + (wa k).toInt64)
abbrev rbP (on po : Nat → Int32) (lim dr : Int32) (k : Nat) : Prop := ¬ on k = 0 ∧ ¬ lim < dr + po k
def drN (on po : Nat → Int32) (lim : Int32) (n : Nat) : Int32 := lp (fun j d => if rbP on po lim d j then d + po j else d) n 0
/-- the pumps' step: power drawn, idle, hours run, volume, pumped -/
def ruS (on po wa : Nat → Int32) (lim : Int32) (k : Nat) (t : Int32 × Int32 × (Nat → Int32) × Int64 × Int64) : Int32 × Int32 × (Nat → Int32) × Int64 × Int64 :=
  if rbP on po lim t.1 k then (t.1 + po k, t.2.1, upd t.2.2.1 k (t.2.2.1 k + 1), t.2.2.2.1 - tkL (wa k).toInt64 t.2.2.2.1, t.2.2.2.2 + tkL (wa k).toInt64 t.2.2.2.1)
  else (t.1, t.2.1 + 1, t.2.2.1, t.2.2.2.1, t.2.2.2.2)
theorem z_uDs {f : Nat → UInt64} {k : Nat} {x : UInt64} : vf_upd f k x k = x := by simp [vf_upd]
theorem drN_s (on po : Nat → Int32) (lim : Int32) (k : Nat) : drN on po lim (k + 1) = if rbP on po lim (drN on po lim k) k then drN on po lim k + po k else drN on po lim k := rfl
abbrev lvOk (x : Int64) : Prop := (0 ≤ x → x ≤ 4621819117588971520) ∧ (¬ 0 ≤ x → x &&& 9223372036854775807 ≤ 4617315517961601024)
abbrev crOk (x : Int64) : Prop := ¬ x < 0 ∧ x ≤ 4621819117588971520
abbrev smL (x y : Int64) : Prop := x = y ∨ (x ||| y) &&& 9223372036854775807 = 0
