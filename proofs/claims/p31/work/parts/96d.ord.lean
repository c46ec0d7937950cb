/-! orders -/
theorem rd_cl4 (l : Launch) (g : va_G) (ct : Nat → ClassId) {T : Nat} (C : CT) (hIV : IV (k_v C) T) (h : 2 * wcI (v_cl (k_v C)) (v_we (k_v C)) (v_nD (k_v C)) ≤ waI (v_we (k_v C)) (v_nD (k_v C)) ∨ shP (k_v C)) : Met l yX9_close wsX9_close (zRm 2 43) (va_Pc [.ref (k_ba C 0)] (zR g ct (CW ct C))) (vp_Si (fun r => r = -4)) 0 0 (fun _ => False) := by
  have q := rd_close_a l g ct C (iv_nS hIV) (iv_nD hIV) (fun q => h.elim q.1 q.2.1)
  rw [if_pos (h.elim (fun z => Or.inl (fun q => q z)) Or.inr)] at q
  exact q
theorem rd_cl5 (l : Launch) (g : va_G) (ct : Nat → ClassId) {T : Nat} (C : CT) (hIV : IV (k_v C) T) (h1 : ¬ 2 * wcI (v_cl (k_v C)) (v_we (k_v C)) (v_nD (k_v C)) ≤ waI (v_we (k_v C)) (v_nD (k_v C))) (h2 : ¬ shP (k_v C)) (h3 : v_od (k_v C) = 1) : Met l yX9_close wsX9_close (zRm 2 43) (va_Pc [.ref (k_ba C 0)] (zR g ct (CW ct C))) (vp_Si (fun r => r = -5)) 0 0 (fun _ => False) := by
  have q := rd_close_a l g ct C (iv_nS hIV) (iv_nD hIV) (fun q => q.2.2 h3)
  rw [if_neg (fun z => z.elim (fun y => y h1) h2)] at q
  exact q
theorem rd_op4 (l : Launch) (g : va_G) (ct : Nat → ClassId) {T : Nat} (C : CT) (hIV : IV (k_v C) T) (h : cntI (v_co (k_v C)) 2 (v_nS (k_v C)) = 0 ∧ mvI (v_co (k_v C)) (v_nS (k_v C)) = -5) : Met l yX9_open wsX9_open (zRm 2 42) (va_Pc [.ref (k_ba C 0)] (zR g ct (CW ct C))) (vp_Si (fun r => r = -4)) 0 0 (fun _ => False) := by
  have q := rd_open_a l g ct C (iv_nS hIV) (fun q => q.1 h)
  rw [if_pos h] at q
  exact q
theorem rd_op5 (l : Launch) (g : va_G) (ct : Nat → ClassId) {T : Nat} (C : CT) (hIV : IV (k_v C) T) (h : ¬ (cntI (v_co (k_v C)) 2 (v_nS (k_v C)) = 0 ∧ mvI (v_co (k_v C)) (v_nS (k_v C)) = -5)) (h2 : v_od (k_v C) = 2) : Met l yX9_open wsX9_open (zRm 2 42) (va_Pc [.ref (k_ba C 0)] (zR g ct (CW ct C))) (vp_Si (fun r => r = -5)) 0 0 (fun _ => False) := by
  have q := rd_open_a l g ct C (iv_nS hIV) (fun q => q.2 h2)
  rw [if_neg h] at q
  exact q
theorem rd_sv4 (l : Launch) (g : va_G) (ct : Nat → ClassId) {T : Nat} (C : CT) (hIV : IV (k_v C) T) (k : Nat) (hk : k < v_nS (k_v C)) (h : (v_co (k_v C) k = 1 ∨ v_co (k_v C) k = 3) ∨ v_co (k_v C) k = 2) : Met l yX9_service wsX9_service (zRm 1 21) (va_Pc [.ref (k_ba C 0), .int (nI k)] (zR g ct (CW ct C))) (vp_Si (fun r => r = -4)) 0 0 (fun _ => False) := by
  have q := rd_service_a l g ct C (iv_nS hIV) k hk (fun q => h.elim q.1 q.2.1)
  rw [if_pos h] at q
  exact q
theorem rd_sv5 (l : Launch) (g : va_G) (ct : Nat → ClassId) {T : Nat} (C : CT) (hIV : IV (k_v C) T) (k : Nat) (hk : k < v_nS (k_v C)) (h : ¬ ((v_co (k_v C) k = 1 ∨ v_co (k_v C) k = 3) ∨ v_co (k_v C) k = 2)) (h2 : v_co (k_v C) k = 0 ∧ v_cs (k_v C) k = 0) : Met l yX9_service wsX9_service (zRm 1 21) (va_Pc [.ref (k_ba C 0), .int (nI k)] (zR g ct (CW ct C))) (vp_Si (fun r => r = -5)) 0 0 (fun _ => False) := by
  have q := rd_service_a l g ct C (iv_nS hIV) k hk (fun q => q.2.2 h2)
  rw [if_neg h] at q
  exact q
theorem ne5 {x : Int32} (h : 0 ≤ x.toInt) : ¬ x = -5 := by
  intro q
  rw [q] at h
  exact absurd h (by decide)
theorem wc_up {cl we : Nat → Int32} {n k : Nat} {b : Int32} (hn : n ≤ 6) (h : ∀ k, k < n → 1 ≤ (we k).toInt ∧ (we k).toInt ≤ 99) (j : Nat) (hj : j ≤ n) : (wcI (upd cl k b) we j).toInt = (wcI cl we j).toInt + (if k < j then (if b = 0 then 0 else (we k).toInt) - (if cl k = 0 then 0 else (we k).toInt) else 0) := by
  have add : ∀ (c : Nat → Int32) (j : Nat), j < n → (wcI c we (j + 1)).toInt = (wcI c we j).toInt + (if c j = 0 then 0 else (we j).toInt) := by
    intro c j hj
    obtain ⟨h1, h2, h3⟩ := wc_sum (cl := c) hn h j (by omega)
    have hw := h j hj
    show (if c j = 0 then wcI c we j else wcI c we j + we j).toInt = _
    by_cases q : c j = 0
    · rw [if_pos q, if_pos q]; omega
    · rw [if_neg q, if_neg q, Int32.toInt_add]
      exact Int.bmod_eq_of_le (by omega) (by omega)
  induction j with
  | zero => rw [if_neg (Nat.not_lt_zero k)]; rfl
  | succ j ih =>
    rw [add _ j (by omega), add _ j (by omega), ih (by omega)]
    by_cases q : j = k
    · subst q
      rw [pk_us, if_neg (Nat.lt_irrefl j), if_pos (Nat.lt_succ_self j)]
      omega
    · rw [pk_un q]
      by_cases z : k < j
      · rw [if_pos z, if_pos (show k < j + 1 by omega)]; omega
      · rw [if_neg z, if_neg (show ¬ k < j + 1 by omega)]; omega
theorem vt_0 {v : SVT} {T : Nat} (hIV : IV v T) {k : Nat} (hk : k < v_nD v) {b : Int32} (hb : b = 0) (hc : ¬ v_cl v k = b) : ¬ wcI (v_cl v) (v_we v) (v_nD v) ≤ wcI (upd (v_cl v) k b) (v_we v) (v_nD v) := by
  have e := wc_up (cl := v_cl v) (k := k) (b := b) (iv_nD hIV) (iv_we hIV) (v_nD v) (Nat.le_refl _)
  have hw := iv_we hIV k hk
  rw [hb] at hc
  rw [if_pos hk, if_pos hb, if_neg hc] at e
  rw [Int32.le_iff_toInt_le, e]
  omega
theorem vt_1 {v : SVT} {T : Nat} (hIV : IV v T) {k : Nat} (hk : k < v_nD v) {b : Int32} (h01 : b = 0 ∨ b = 1) (hb : ¬ b = 0) (hc : ¬ v_cl v k = b) : ¬ wcI (upd (v_cl v) k b) (v_we v) (v_nD v) ≤ wcI (v_cl v) (v_we v) (v_nD v) := by
  have e := wc_up (cl := v_cl v) (k := k) (b := b) (iv_nD hIV) (iv_we hIV) (v_nD v) (Nat.le_refl _)
  have hw := iv_we hIV k hk
  have hc0 : v_cl v k = 0 := by
    rcases (iv_01 hIV).1 k (by have := iv_nD hIV; omega) with q | q
    · exact q
    · rcases h01 with z | z
      · exact absurd z hb
      · exact absurd (q.trans z.symm) hc
  rw [if_pos hk, if_neg hb, if_pos hc0] at e
  rw [Int32.le_iff_toInt_le, e]
  omega
theorem vt_5 {v : SVT} {T : Nat} (hIV : IV v T) (c : Nat → Int32) : ¬ wcI c (v_we v) (v_nD v) = -5 :=
  ne5 (wc_sum (cl := c) (iv_nD hIV) (iv_we hIV) (v_nD v) (Nat.le_refl _)).1
theorem op_x {v : SVT} {T : Nat} (hIV : IV v T) (h : ¬ (cntI (v_co v) 2 (v_nS v) = 0 ∧ mvI (v_co v) (v_nS v) = -5)) (h2 : ¬ 0 < cntI (v_co v) 2 (v_nS v)) : ¬ mvI (v_co v) (v_nS v) < 0 := by
  intro q
  have hn := iv_nS hIV
  obtain ⟨a, b, c, h1, h3, h4, h5⟩ := fr_sum (co := v_co v) (n := v_nS v) (fun k hk => ((iv_s hIV).1 k hk).2.2.2.1) (v_nS v) (Nat.le_refl _)
  have hb : b = 0 := by
    rw [h3, Int32.lt_iff_toInt_lt, nI_toInt (by omega)] at h2
    have z : Int32.toInt 0 = 0 := rfl
    omega
  have hm : ¬ fst_ (fun k => v_co v k = 1 ∨ v_co v k = 3) (v_nS v) < v_nS v := fI_neg (by omega) q
  exact h ⟨by rw [h3, hb]; rfl, if_neg hm⟩
theorem dlx {P : Prop} {d1 : Decidable P} {d2 : Decidable (¬ P)} {d : Int32} : (if P then d else d + 1) = d + (if ¬ P then 1 else 0) := by
  by_cases h : P
  · rw [if_pos h, if_neg (fun q => q h), Int32.add_zero]
  · rw [if_neg h, if_pos h]
theorem sv_x {co : Int32} (h : (co = 1 ∨ co = 3) ∨ co = 2) : ¬ co = 0 ∧ ¬ co = 4 := by
  rcases h with (rfl | rfl) | rfl <;> decide
theorem sv_y {co : Int32} (h5 : co = 0 ∨ co = 1 ∨ co = 2 ∨ co = 3 ∨ co = 4) (h : ¬ ((co = 1 ∨ co = 3) ∨ co = 2)) (h0 : ¬ co = 0) : co = 4 := by
  rcases h5 with q | q | q | q | q
  · exact absurd q h0
  · exact absurd (Or.inl (Or.inl q)) h
  · exact absurd (Or.inr q) h
  · exact absurd (Or.inl (Or.inr q)) h
  · exact q
