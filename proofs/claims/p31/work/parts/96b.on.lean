/-! pumps that are on; votes -/
def onS (on : Nat → Int32) (k : Nat) : Int32 := lp (fun k r => r + (if on k = 0 then 0 else 1)) k 0
theorem onS_I (on : Nat → Int32) (k : Nat) : onS on k = onI on k := by
  induction k with
  | zero => rfl
  | succ k ih =>
    show onS on k + (if on k = 0 then 0 else 1) = if on k = 0 then onI on k else onI on k + 1
    rw [ih]
    by_cases h : on k = 0
    · rw [if_pos h, if_pos h, Int32.add_zero]
    · rw [if_neg h, if_neg h]
def b3 (x : Int32) : Int32 := if ¬ x &&& 3 ≤ 0 then 1 else 0
theorem b3_01 (x : Int32) : b3 x = 0 ∨ b3 x = 1 := by
  unfold b3
  by_cases h : ¬ x &&& 3 ≤ 0
  · rw [if_pos h]; exact Or.inr rfl
  · rw [if_neg h]; exact Or.inl rfl
theorem on_b {x b : Int32} (hx : x = 0 ∨ x = 1) : (if (if x = 0 then (0 : Int32) else 1) = 1 then (1 : Int32) else 0) = b ↔ x = b := by
  rcases hx with rfl | rfl
  · exact Iff.rfl
  · exact Iff.rfl
theorem ss_ge {x : Int32} (h : 0 ≤ x.toInt) : ¬ x < -5 := by
  rw [Int32.lt_iff_toInt_lt]
  show ¬ _ < (-5 : Int)
  omega
