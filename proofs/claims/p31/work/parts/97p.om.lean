/-! passes -/
def OM (C : CT) : Prop := k_old C < 5 ∧ k_many C ≤ 5
theorem om_rec {C : CT} {v2 : SVT} {U : Nat → Nat} (h : OM C) : OM (k_rec C v2 U) := by
  have h1 := h.1
  have h2 := h.2
  show recO (k_old C) (k_many C) < 5 ∧ recM (k_many C) ≤ 5
  unfold recO recM
  by_cases q : k_many C < 5
  · rw [if_pos q, if_pos q]; omega
  · rw [if_neg q, if_neg q]; omega
