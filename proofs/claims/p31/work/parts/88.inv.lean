/-! what holds of every state that the law meets -/
abbrev lvS (x : Int64) : Prop := x = 0 ∨ x = 4612811918334230528 ∨ x = -4613937818241073152 ∨ x = 4616189618054758400 ∨ x = 4607182418800017408 ∨ x = 4619004367821864960 ∨ x = 4611686018427387904
theorem lvS_ok {x : Int64} (h : lvS x) : lvOk x := by
  rcases h with rfl | rfl | rfl | rfl | rfl | rfl | rfl <;> decide +kernel
abbrev crS (x : Int64) : Prop := x = 4607182418800017408 ∨ x = 4616189618054758400
theorem crS_ok {x : Int64} (h : crS x) : lvOk x := by
  rcases h with rfl | rfl <;> decide +kernel
/-- one section -/
def s1I (ho li co le cs : Int32) : Prop :=
  (1 ≤ ho.toInt ∧ ho.toInt ≤ 6) ∧ (1 ≤ li.toInt ∧ li.toInt ≤ 20) ∧ (0 ≤ cs.toInt ∧ cs.toInt ≤ li.toInt) ∧ (co = 0 ∨ co = 1 ∨ co = 2 ∨ co = 3 ∨ co = 4) ∧
  ((co = 1 ∨ co = 3) → 1 ≤ le.toInt ∧ le.toInt ≤ ho.toInt) ∧ (co = 1 → cs.toInt < li.toInt) ∧ (co = 2 → 1 ≤ cs.toInt) ∧ (co = 4 → li.toInt ≤ cs.toInt)
def sI (n : Nat) (ho li co le cs : Nat → Int32) : Prop :=
  (∀ k, k < n → s1I (ho k) (li k) (co k) (le k) (cs k)) ∧ (∀ i j, i < n → j < n → (co i = 1 ∨ co i = 3) → (co j = 1 ∨ co j = 3) → i = j)
def wI (vo fi fo fv br pu : Int64) (h : Nat) : Prop := vo = fi - fo + fv + br - pu ∧ 0 ≤ vo.toInt ∧ vo.toInt ≤ 10000000 * (h : Int)
def pI (nP : Nat) (po pw ra : Nat → Int32) (h : Nat) : Prop := ∀ k, k < nP → (1 ≤ (po k).toInt ∧ (po k).toInt ≤ 99) ∧ (1 ≤ (pw k).toInt ∧ (pw k).toInt ≤ 99999) ∧ 0 ≤ (ra k).toInt ∧ (ra k).toInt ≤ (h : Int)
def IV (v : SVT) (T : Nat) : Prop :=
  (v_nS v ≤ 8 ∧ v_nD v ≤ 6 ∧ v_nT v ≤ 4 ∧ v_nP v ≤ 6) ∧ v01 v ∧ arOk (v_ar v) ∧ (v_od v = 0 ∨ v_od v = 1 ∨ v_od v = 2) ∧
  (lvS (v_al v) ∧ (∀ i, i < 24 → lvS (v_td v i)) ∧ (∀ k, k < v_nS v → crS (v_cr v k))) ∧
  (wiOk (v_wi v) (v_nS v) ∧ sI (v_nS v) (v_ho v) (v_li v) (v_co v) (v_le v) (v_cs v)) ∧
  (∀ k, k < v_nD v → 1 ≤ (v_we v k).toInt ∧ (v_we v k).toInt ≤ 99) ∧
  (∀ k, k < v_nT v → 0 ≤ (v_sw v k).toInt ∧ (v_sw v k).toInt ≤ 99999) ∧
  pI (v_nP v) (v_po v) (v_pw v) (v_ra v) (v_h v) ∧
  ((0 ≤ (v_lim v).toInt ∧ (v_lim v).toInt ≤ 600) ∧ 0 ≤ (v_idl v).toInt ∧ (v_idl v).toInt ≤ (v_nP v : Int)) ∧
  (0 ≤ (v_dl v).toInt ∧ (v_dl v).toInt ≤ (v_cb v).toInt ∧ (v_cb v).toInt ≤ (T : Int)) ∧
  wI (v_vo v) (v_fi v) (v_fo v) (v_fv v) (v_br v) (v_pu v) (v_h v) ∧ v_h v ≤ 14 * T
/-- .. and of the object -/
def CK (C : CT) (T : Nat) : Prop := IV (k_v C) T ∧ k_old C < 5 ∧ k_many C ≤ 5 ∧ T ≤ 100
section IVS
variable {v : SVT} {T : Nat}
theorem iv_nS (h : IV v T) : v_nS v ≤ 8 := h.1.1
theorem iv_nD (h : IV v T) : v_nD v ≤ 6 := h.1.2.1
theorem iv_nT (h : IV v T) : v_nT v ≤ 4 := h.1.2.2.1
theorem iv_nP (h : IV v T) : v_nP v ≤ 6 := h.1.2.2.2
theorem iv_01 (h : IV v T) : v01 v := h.2.1
theorem iv_ar (h : IV v T) : arOk (v_ar v) := h.2.2.1
theorem iv_od (h : IV v T) : v_od v = 0 ∨ v_od v = 1 ∨ v_od v = 2 := h.2.2.2.1
theorem iv_alS (h : IV v T) : lvS (v_al v) := h.2.2.2.2.1.1
theorem iv_tdS (h : IV v T) : ∀ i, i < 24 → lvS (v_td v i) := h.2.2.2.2.1.2.1
theorem iv_al (h : IV v T) : lvOk (v_al v) := lvS_ok (iv_alS h)
theorem iv_td (h : IV v T) : ∀ i, i < 24 → lvOk (v_td v i) := fun i hi => lvS_ok (iv_tdS h i hi)
theorem iv_crS (h : IV v T) : ∀ k, k < v_nS v → crS (v_cr v k) := h.2.2.2.2.1.2.2
theorem iv_cr (h : IV v T) : ∀ k, k < v_nS v → lvOk (v_cr v k) := fun k hk => crS_ok (iv_crS h k hk)
theorem iv_wi (h : IV v T) : wiOk (v_wi v) (v_nS v) := h.2.2.2.2.2.1.1
theorem iv_s (h : IV v T) : sI (v_nS v) (v_ho v) (v_li v) (v_co v) (v_le v) (v_cs v) := h.2.2.2.2.2.1.2
theorem iv_we (h : IV v T) : ∀ k, k < v_nD v → 1 ≤ (v_we v k).toInt ∧ (v_we v k).toInt ≤ 99 := h.2.2.2.2.2.2.1
theorem iv_sw (h : IV v T) : ∀ k, k < v_nT v → 0 ≤ (v_sw v k).toInt ∧ (v_sw v k).toInt ≤ 99999 := h.2.2.2.2.2.2.2.1
theorem iv_p (h : IV v T) : pI (v_nP v) (v_po v) (v_pw v) (v_ra v) (v_h v) := h.2.2.2.2.2.2.2.2.1
theorem iv_l (h : IV v T) : (0 ≤ (v_lim v).toInt ∧ (v_lim v).toInt ≤ 600) ∧ 0 ≤ (v_idl v).toInt ∧ (v_idl v).toInt ≤ (v_nP v : Int) := h.2.2.2.2.2.2.2.2.2.1
theorem iv_d (h : IV v T) : 0 ≤ (v_dl v).toInt ∧ (v_dl v).toInt ≤ (v_cb v).toInt ∧ (v_cb v).toInt ≤ (T : Int) := h.2.2.2.2.2.2.2.2.2.2.1
theorem iv_w (h : IV v T) : wI (v_vo v) (v_fi v) (v_fo v) (v_fv v) (v_br v) (v_pu v) (v_h v) := h.2.2.2.2.2.2.2.2.2.2.2.1
theorem iv_h (h : IV v T) : v_h v ≤ 14 * T := h.2.2.2.2.2.2.2.2.2.2.2.2
theorem iv_m {T2 : Nat} (h : IV v T) (hT : T ≤ T2) : IV v T2 := by
  obtain ⟨a1, a2, a3, a4, a5, a6, a7, a8, a9, a10, a11, a12, a13⟩ := h
  exact ⟨a1, a2, a3, a4, a5, a6, a7, a8, a9, a10, ⟨a11.1, a11.2.1, by have := a11.2.2; omega⟩, a12, by omega⟩
end IVS
theorem rd_count_0 (l : Launch) (g : va_G) (ct : Nat → ClassId) {T : Nat} (C : CT) (hI : IV (k_v C) T) : Met l yX9_count wsX9_count (zRm 2 42) (va_Pc [.ref (k_ba C 0), .int 0] (zR g ct (CW ct C))) (vp_Si (fun r => r = nI (v_h (k_v C)))) 0 0 (fun _ => False) := by
  have h := rd_count_a l g ct C (iv_nS hI) (iv_nD hI) 0
  rw [if_pos rfl] at h
  exact h
theorem rd_count_1 (l : Launch) (g : va_G) (ct : Nat → ClassId) {T : Nat} (C : CT) (hI : IV (k_v C) T) : Met l yX9_count wsX9_count (zRm 2 42) (va_Pc [.ref (k_ba C 0), .int 1] (zR g ct (CW ct C))) (vp_Si (fun r => r = v_od (k_v C))) 0 0 (fun _ => False) := by
  have h := rd_count_a l g ct C (iv_nS hI) (iv_nD hI) 1
  rw [if_neg (show ¬ (1 : Int32) = 0 by decide), if_pos rfl] at h
  exact h
theorem rd_count_2 (l : Launch) (g : va_G) (ct : Nat → ClassId) {T : Nat} (C : CT) (hI : IV (k_v C) T) : Met l yX9_count wsX9_count (zRm 2 42) (va_Pc [.ref (k_ba C 0), .int 2] (zR g ct (CW ct C))) (vp_Si (fun r => r = mvI (v_co (k_v C)) (v_nS (k_v C)))) 0 0 (fun _ => False) := by
  have h := rd_count_a l g ct C (iv_nS hI) (iv_nD hI) 2
  rw [if_neg (show ¬ (2 : Int32) = 0 by decide), if_neg (show ¬ (2 : Int32) = 1 by decide), if_pos rfl] at h
  exact h
theorem rd_count_3 (l : Launch) (g : va_G) (ct : Nat → ClassId) {T : Nat} (C : CT) (hI : IV (k_v C) T) : Met l yX9_count wsX9_count (zRm 2 42) (va_Pc [.ref (k_ba C 0), .int 3] (zR g ct (CW ct C))) (vp_Si (fun r => r = cntI (v_co (k_v C)) 2 (v_nS (k_v C)))) 0 0 (fun _ => False) := by
  have h := rd_count_a l g ct C (iv_nS hI) (iv_nD hI) 3
  rw [if_neg (show ¬ (3 : Int32) = 0 by decide), if_neg (show ¬ (3 : Int32) = 1 by decide), if_neg (show ¬ (3 : Int32) = 2 by decide), if_pos rfl] at h
  exact h
theorem rd_count_4 (l : Launch) (g : va_G) (ct : Nat → ClassId) {T : Nat} (C : CT) (hI : IV (k_v C) T) : Met l yX9_count wsX9_count (zRm 2 42) (va_Pc [.ref (k_ba C 0), .int 4] (zR g ct (CW ct C))) (vp_Si (fun r => r = cntI (v_co (k_v C)) 4 (v_nS (k_v C)))) 0 0 (fun _ => False) := by
  have h := rd_count_a l g ct C (iv_nS hI) (iv_nD hI) 4
  rw [if_neg (show ¬ (4 : Int32) = 0 by decide), if_neg (show ¬ (4 : Int32) = 1 by decide), if_neg (show ¬ (4 : Int32) = 2 by decide), if_neg (show ¬ (4 : Int32) = 3 by decide), if_pos rfl] at h
  exact h
theorem rd_count_5 (l : Launch) (g : va_G) (ct : Nat → ClassId) {T : Nat} (C : CT) (hI : IV (k_v C) T) : Met l yX9_count wsX9_count (zRm 2 42) (va_Pc [.ref (k_ba C 0), .int 5] (zR g ct (CW ct C))) (vp_Si (fun r => r = wcI (v_cl (k_v C)) (v_we (k_v C)) (v_nD (k_v C)))) 0 0 (fun _ => False) := by
  have h := rd_count_a l g ct C (iv_nS hI) (iv_nD hI) 5
  rw [if_neg (show ¬ (5 : Int32) = 0 by decide), if_neg (show ¬ (5 : Int32) = 1 by decide), if_neg (show ¬ (5 : Int32) = 2 by decide), if_neg (show ¬ (5 : Int32) = 3 by decide), if_neg (show ¬ (5 : Int32) = 4 by decide), if_pos rfl] at h
  exact h
theorem rd_count_6 (l : Launch) (g : va_G) (ct : Nat → ClassId) {T : Nat} (C : CT) (hI : IV (k_v C) T) : Met l yX9_count wsX9_count (zRm 2 42) (va_Pc [.ref (k_ba C 0), .int 6] (zR g ct (CW ct C))) (vp_Si (fun r => r = waI (v_we (k_v C)) (v_nD (k_v C)))) 0 0 (fun _ => False) := by
  have h := rd_count_a l g ct C (iv_nS hI) (iv_nD hI) 6
  rw [if_neg (show ¬ (6 : Int32) = 0 by decide), if_neg (show ¬ (6 : Int32) = 1 by decide), if_neg (show ¬ (6 : Int32) = 2 by decide), if_neg (show ¬ (6 : Int32) = 3 by decide), if_neg (show ¬ (6 : Int32) = 4 by decide), if_neg (show ¬ (6 : Int32) = 5 by decide), if_pos rfl] at h
  exact h
theorem rd_count_7 (l : Launch) (g : va_G) (ct : Nat → ClassId) {T : Nat} (C : CT) (hI : IV (k_v C) T) : Met l yX9_count wsX9_count (zRm 2 42) (va_Pc [.ref (k_ba C 0), .int 7] (zR g ct (CW ct C))) (vp_Si (fun r => r = v_cb (k_v C))) 0 0 (fun _ => False) := by
  have h := rd_count_a l g ct C (iv_nS hI) (iv_nD hI) 7
  rw [if_neg (show ¬ (7 : Int32) = 0 by decide), if_neg (show ¬ (7 : Int32) = 1 by decide), if_neg (show ¬ (7 : Int32) = 2 by decide), if_neg (show ¬ (7 : Int32) = 3 by decide), if_neg (show ¬ (7 : Int32) = 4 by decide), if_neg (show ¬ (7 : Int32) = 5 by decide), if_neg (show ¬ (7 : Int32) = 6 by decide), if_pos rfl] at h
  exact h
theorem rd_count_8 (l : Launch) (g : va_G) (ct : Nat → ClassId) {T : Nat} (C : CT) (hI : IV (k_v C) T) : Met l yX9_count wsX9_count (zRm 2 42) (va_Pc [.ref (k_ba C 0), .int 8] (zR g ct (CW ct C))) (vp_Si (fun r => r = v_dl (k_v C))) 0 0 (fun _ => False) := by
  have h := rd_count_a l g ct C (iv_nS hI) (iv_nD hI) 8
  rw [if_neg (show ¬ (8 : Int32) = 0 by decide), if_neg (show ¬ (8 : Int32) = 1 by decide), if_neg (show ¬ (8 : Int32) = 2 by decide), if_neg (show ¬ (8 : Int32) = 3 by decide), if_neg (show ¬ (8 : Int32) = 4 by decide), if_neg (show ¬ (8 : Int32) = 5 by decide), if_neg (show ¬ (8 : Int32) = 6 by decide), if_neg (show ¬ (8 : Int32) = 7 by decide), if_pos rfl] at h
  exact h
theorem rd_count_9 (l : Launch) (g : va_G) (ct : Nat → ClassId) {T : Nat} (C : CT) (hI : IV (k_v C) T) : Met l yX9_count wsX9_count (zRm 2 42) (va_Pc [.ref (k_ba C 0), .int 9] (zR g ct (CW ct C))) (vp_Si (fun r => r = v_ar (k_v C))) 0 0 (fun _ => False) := by
  have h := rd_count_a l g ct C (iv_nS hI) (iv_nD hI) 9
  rw [if_neg (show ¬ (9 : Int32) = 0 by decide), if_neg (show ¬ (9 : Int32) = 1 by decide), if_neg (show ¬ (9 : Int32) = 2 by decide), if_neg (show ¬ (9 : Int32) = 3 by decide), if_neg (show ¬ (9 : Int32) = 4 by decide), if_neg (show ¬ (9 : Int32) = 5 by decide), if_neg (show ¬ (9 : Int32) = 6 by decide), if_neg (show ¬ (9 : Int32) = 7 by decide), if_neg (show ¬ (9 : Int32) = 8 by decide), if_pos rfl] at h
  exact h
theorem rd_count_10 (l : Launch) (g : va_G) (ct : Nat → ClassId) {T : Nat} (C : CT) (hI : IV (k_v C) T) : Met l yX9_count wsX9_count (zRm 2 42) (va_Pc [.ref (k_ba C 0), .int 10] (zR g ct (CW ct C))) (vp_Si (fun r => r = v_lim (k_v C))) 0 0 (fun _ => False) := by
  have h := rd_count_a l g ct C (iv_nS hI) (iv_nD hI) 10
  rw [if_neg (show ¬ (10 : Int32) = 0 by decide), if_neg (show ¬ (10 : Int32) = 1 by decide), if_neg (show ¬ (10 : Int32) = 2 by decide), if_neg (show ¬ (10 : Int32) = 3 by decide), if_neg (show ¬ (10 : Int32) = 4 by decide), if_neg (show ¬ (10 : Int32) = 5 by decide), if_neg (show ¬ (10 : Int32) = 6 by decide), if_neg (show ¬ (10 : Int32) = 7 by decide), if_neg (show ¬ (10 : Int32) = 8 by decide), if_neg (show ¬ (10 : Int32) = 9 by decide), if_pos rfl] at h
  exact h
theorem rd_count_11 (l : Launch) (g : va_G) (ct : Nat → ClassId) {T : Nat} (C : CT) (hI : IV (k_v C) T) : Met l yX9_count wsX9_count (zRm 2 42) (va_Pc [.ref (k_ba C 0), .int 11] (zR g ct (CW ct C))) (vp_Si (fun r => r = nI (v_nS (k_v C)))) 0 0 (fun _ => False) := by
  have h := rd_count_a l g ct C (iv_nS hI) (iv_nD hI) 11
  rw [if_neg (show ¬ (11 : Int32) = 0 by decide), if_neg (show ¬ (11 : Int32) = 1 by decide), if_neg (show ¬ (11 : Int32) = 2 by decide), if_neg (show ¬ (11 : Int32) = 3 by decide), if_neg (show ¬ (11 : Int32) = 4 by decide), if_neg (show ¬ (11 : Int32) = 5 by decide), if_neg (show ¬ (11 : Int32) = 6 by decide), if_neg (show ¬ (11 : Int32) = 7 by decide), if_neg (show ¬ (11 : Int32) = 8 by decide), if_neg (show ¬ (11 : Int32) = 9 by decide), if_neg (show ¬ (11 : Int32) = 10 by decide), if_pos rfl] at h
  exact h
theorem rd_count_12 (l : Launch) (g : va_G) (ct : Nat → ClassId) {T : Nat} (C : CT) (hI : IV (k_v C) T) : Met l yX9_count wsX9_count (zRm 2 42) (va_Pc [.ref (k_ba C 0), .int 12] (zR g ct (CW ct C))) (vp_Si (fun r => r = nI (v_nD (k_v C)))) 0 0 (fun _ => False) := by
  have h := rd_count_a l g ct C (iv_nS hI) (iv_nD hI) 12
  rw [if_neg (show ¬ (12 : Int32) = 0 by decide), if_neg (show ¬ (12 : Int32) = 1 by decide), if_neg (show ¬ (12 : Int32) = 2 by decide), if_neg (show ¬ (12 : Int32) = 3 by decide), if_neg (show ¬ (12 : Int32) = 4 by decide), if_neg (show ¬ (12 : Int32) = 5 by decide), if_neg (show ¬ (12 : Int32) = 6 by decide), if_neg (show ¬ (12 : Int32) = 7 by decide), if_neg (show ¬ (12 : Int32) = 8 by decide), if_neg (show ¬ (12 : Int32) = 9 by decide), if_neg (show ¬ (12 : Int32) = 10 by decide), if_neg (show ¬ (12 : Int32) = 11 by decide), if_pos rfl] at h
  exact h
theorem rd_count_13 (l : Launch) (g : va_G) (ct : Nat → ClassId) {T : Nat} (C : CT) (hI : IV (k_v C) T) : Met l yX9_count wsX9_count (zRm 2 42) (va_Pc [.ref (k_ba C 0), .int 13] (zR g ct (CW ct C))) (vp_Si (fun r => r = nI (v_nT (k_v C)))) 0 0 (fun _ => False) := by
  have h := rd_count_a l g ct C (iv_nS hI) (iv_nD hI) 13
  rw [if_neg (show ¬ (13 : Int32) = 0 by decide), if_neg (show ¬ (13 : Int32) = 1 by decide), if_neg (show ¬ (13 : Int32) = 2 by decide), if_neg (show ¬ (13 : Int32) = 3 by decide), if_neg (show ¬ (13 : Int32) = 4 by decide), if_neg (show ¬ (13 : Int32) = 5 by decide), if_neg (show ¬ (13 : Int32) = 6 by decide), if_neg (show ¬ (13 : Int32) = 7 by decide), if_neg (show ¬ (13 : Int32) = 8 by decide), if_neg (show ¬ (13 : Int32) = 9 by decide), if_neg (show ¬ (13 : Int32) = 10 by decide), if_neg (show ¬ (13 : Int32) = 11 by decide), if_neg (show ¬ (13 : Int32) = 12 by decide), if_pos rfl] at h
  exact h
theorem rd_count_14 (l : Launch) (g : va_G) (ct : Nat → ClassId) {T : Nat} (C : CT) (hI : IV (k_v C) T) : Met l yX9_count wsX9_count (zRm 2 42) (va_Pc [.ref (k_ba C 0), .int 14] (zR g ct (CW ct C))) (vp_Si (fun r => r = nI (v_nP (k_v C)))) 0 0 (fun _ => False) := by
  have h := rd_count_a l g ct C (iv_nS hI) (iv_nD hI) 14
  rw [if_neg (show ¬ (14 : Int32) = 0 by decide), if_neg (show ¬ (14 : Int32) = 1 by decide), if_neg (show ¬ (14 : Int32) = 2 by decide), if_neg (show ¬ (14 : Int32) = 3 by decide), if_neg (show ¬ (14 : Int32) = 4 by decide), if_neg (show ¬ (14 : Int32) = 5 by decide), if_neg (show ¬ (14 : Int32) = 6 by decide), if_neg (show ¬ (14 : Int32) = 7 by decide), if_neg (show ¬ (14 : Int32) = 8 by decide), if_neg (show ¬ (14 : Int32) = 9 by decide), if_neg (show ¬ (14 : Int32) = 10 by decide), if_neg (show ¬ (14 : Int32) = 11 by decide), if_neg (show ¬ (14 : Int32) = 12 by decide), if_neg (show ¬ (14 : Int32) = 13 by decide), if_pos rfl] at h
  exact h
theorem rd_count_15 (l : Launch) (g : va_G) (ct : Nat → ClassId) {T : Nat} (C : CT) (hI : IV (k_v C) T) : Met l yX9_count wsX9_count (zRm 2 42) (va_Pc [.ref (k_ba C 0), .int 15] (zR g ct (CW ct C))) (vp_Si (fun r => r = nI (k_many C))) 0 0 (fun _ => False) := by
  have h := rd_count_a l g ct C (iv_nS hI) (iv_nD hI) 15
  rw [if_neg (show ¬ (15 : Int32) = 0 by decide), if_neg (show ¬ (15 : Int32) = 1 by decide), if_neg (show ¬ (15 : Int32) = 2 by decide), if_neg (show ¬ (15 : Int32) = 3 by decide), if_neg (show ¬ (15 : Int32) = 4 by decide), if_neg (show ¬ (15 : Int32) = 5 by decide), if_neg (show ¬ (15 : Int32) = 6 by decide), if_neg (show ¬ (15 : Int32) = 7 by decide), if_neg (show ¬ (15 : Int32) = 8 by decide), if_neg (show ¬ (15 : Int32) = 9 by decide), if_neg (show ¬ (15 : Int32) = 10 by decide), if_neg (show ¬ (15 : Int32) = 11 by decide), if_neg (show ¬ (15 : Int32) = 12 by decide), if_neg (show ¬ (15 : Int32) = 13 by decide), if_neg (show ¬ (15 : Int32) = 14 by decide), if_pos rfl] at h
  exact h
theorem rd_count_16 (l : Launch) (g : va_G) (ct : Nat → ClassId) {T : Nat} (C : CT) (hI : IV (k_v C) T) : Met l yX9_count wsX9_count (zRm 2 42) (va_Pc [.ref (k_ba C 0), .int 16] (zR g ct (CW ct C))) (vp_Si (fun r => r = nI (k_len C))) 0 0 (fun _ => False) := by
  have h := rd_count_a l g ct C (iv_nS hI) (iv_nD hI) 16
  rw [if_neg (show ¬ (16 : Int32) = 0 by decide), if_neg (show ¬ (16 : Int32) = 1 by decide), if_neg (show ¬ (16 : Int32) = 2 by decide), if_neg (show ¬ (16 : Int32) = 3 by decide), if_neg (show ¬ (16 : Int32) = 4 by decide), if_neg (show ¬ (16 : Int32) = 5 by decide), if_neg (show ¬ (16 : Int32) = 6 by decide), if_neg (show ¬ (16 : Int32) = 7 by decide), if_neg (show ¬ (16 : Int32) = 8 by decide), if_neg (show ¬ (16 : Int32) = 9 by decide), if_neg (show ¬ (16 : Int32) = 10 by decide), if_neg (show ¬ (16 : Int32) = 11 by decide), if_neg (show ¬ (16 : Int32) = 12 by decide), if_neg (show ¬ (16 : Int32) = 13 by decide), if_neg (show ¬ (16 : Int32) = 14 by decide), if_neg (show ¬ (16 : Int32) = 15 by decide), if_pos rfl] at h
  exact h
theorem rd_count_17 (l : Launch) (g : va_G) (ct : Nat → ClassId) {T : Nat} (C : CT) (hI : IV (k_v C) T) : Met l yX9_count wsX9_count (zRm 2 42) (va_Pc [.ref (k_ba C 0), .int 17] (zR g ct (CW ct C))) (vp_Si (fun r => r = v_idl (k_v C))) 0 0 (fun _ => False) := by
  have h := rd_count_a l g ct C (iv_nS hI) (iv_nD hI) 17
  rw [if_neg (show ¬ (17 : Int32) = 0 by decide), if_neg (show ¬ (17 : Int32) = 1 by decide), if_neg (show ¬ (17 : Int32) = 2 by decide), if_neg (show ¬ (17 : Int32) = 3 by decide), if_neg (show ¬ (17 : Int32) = 4 by decide), if_neg (show ¬ (17 : Int32) = 5 by decide), if_neg (show ¬ (17 : Int32) = 6 by decide), if_neg (show ¬ (17 : Int32) = 7 by decide), if_neg (show ¬ (17 : Int32) = 8 by decide), if_neg (show ¬ (17 : Int32) = 9 by decide), if_neg (show ¬ (17 : Int32) = 10 by decide), if_neg (show ¬ (17 : Int32) = 11 by decide), if_neg (show ¬ (17 : Int32) = 12 by decide), if_neg (show ¬ (17 : Int32) = 13 by decide), if_neg (show ¬ (17 : Int32) = 14 by decide), if_neg (show ¬ (17 : Int32) = 15 by decide), if_neg (show ¬ (17 : Int32) = 16 by decide), if_pos rfl] at h
  exact h
theorem rd_count_18 (l : Launch) (g : va_G) (ct : Nat → ClassId) {T : Nat} (C : CT) (hI : IV (k_v C) T) : Met l yX9_count wsX9_count (zRm 2 42) (va_Pc [.ref (k_ba C 0), .int 18] (zR g ct (CW ct C))) (vp_Si (fun r => r = -2)) 0 0 (fun _ => False) := by
  have h := rd_count_a l g ct C (iv_nS hI) (iv_nD hI) 18
  rw [if_neg (show ¬ (18 : Int32) = 0 by decide), if_neg (show ¬ (18 : Int32) = 1 by decide), if_neg (show ¬ (18 : Int32) = 2 by decide), if_neg (show ¬ (18 : Int32) = 3 by decide), if_neg (show ¬ (18 : Int32) = 4 by decide), if_neg (show ¬ (18 : Int32) = 5 by decide), if_neg (show ¬ (18 : Int32) = 6 by decide), if_neg (show ¬ (18 : Int32) = 7 by decide), if_neg (show ¬ (18 : Int32) = 8 by decide), if_neg (show ¬ (18 : Int32) = 9 by decide), if_neg (show ¬ (18 : Int32) = 10 by decide), if_neg (show ¬ (18 : Int32) = 11 by decide), if_neg (show ¬ (18 : Int32) = 12 by decide), if_neg (show ¬ (18 : Int32) = 13 by decide), if_neg (show ¬ (18 : Int32) = 14 by decide), if_neg (show ¬ (18 : Int32) = 15 by decide), if_neg (show ¬ (18 : Int32) = 16 by decide), if_neg (show ¬ (18 : Int32) = 17 by decide)] at h
  exact h
theorem rd_section_0 (l : Launch) (g : va_G) (ct : Nat → ClassId) {T : Nat} (C : CT) (hI : IV (k_v C) T) (k : Nat) (hk : k < v_nS (k_v C)) : Met l yX9_section wsX9_section (zRm 1 21) (va_Pc [.ref (k_ba C 0), .int (nI k), .int 0] (zR g ct (CW ct C))) (vp_Si (fun r => r = v_wi (k_v C) k)) 0 0 (fun _ => False) := by
  have h := rd_section_a l g ct C (iv_nS hI) k hk 0
  rw [if_pos rfl] at h
  exact h
theorem rd_section_1 (l : Launch) (g : va_G) (ct : Nat → ClassId) {T : Nat} (C : CT) (hI : IV (k_v C) T) (k : Nat) (hk : k < v_nS (k_v C)) : Met l yX9_section wsX9_section (zRm 1 21) (va_Pc [.ref (k_ba C 0), .int (nI k), .int 1] (zR g ct (CW ct C))) (vp_Si (fun r => r = v_ho (k_v C) k)) 0 0 (fun _ => False) := by
  have h := rd_section_a l g ct C (iv_nS hI) k hk 1
  rw [if_neg (show ¬ (1 : Int32) = 0 by decide), if_pos rfl] at h
  exact h
theorem rd_section_2 (l : Launch) (g : va_G) (ct : Nat → ClassId) {T : Nat} (C : CT) (hI : IV (k_v C) T) (k : Nat) (hk : k < v_nS (k_v C)) : Met l yX9_section wsX9_section (zRm 1 21) (va_Pc [.ref (k_ba C 0), .int (nI k), .int 2] (zR g ct (CW ct C))) (vp_Si (fun r => r = v_li (k_v C) k)) 0 0 (fun _ => False) := by
  have h := rd_section_a l g ct C (iv_nS hI) k hk 2
  rw [if_neg (show ¬ (2 : Int32) = 0 by decide), if_neg (show ¬ (2 : Int32) = 1 by decide), if_pos rfl] at h
  exact h
theorem rd_section_3 (l : Launch) (g : va_G) (ct : Nat → ClassId) {T : Nat} (C : CT) (hI : IV (k_v C) T) (k : Nat) (hk : k < v_nS (k_v C)) : Met l yX9_section wsX9_section (zRm 1 21) (va_Pc [.ref (k_ba C 0), .int (nI k), .int 3] (zR g ct (CW ct C))) (vp_Si (fun r => r = v_co (k_v C) k)) 0 0 (fun _ => False) := by
  have h := rd_section_a l g ct C (iv_nS hI) k hk 3
  rw [if_neg (show ¬ (3 : Int32) = 0 by decide), if_neg (show ¬ (3 : Int32) = 1 by decide), if_neg (show ¬ (3 : Int32) = 2 by decide), if_pos rfl] at h
  exact h
theorem rd_section_4 (l : Launch) (g : va_G) (ct : Nat → ClassId) {T : Nat} (C : CT) (hI : IV (k_v C) T) (k : Nat) (hk : k < v_nS (k_v C)) : Met l yX9_section wsX9_section (zRm 1 21) (va_Pc [.ref (k_ba C 0), .int (nI k), .int 4] (zR g ct (CW ct C))) (vp_Si (fun r => r = if v_co (k_v C) k = 1 ∨ v_co (k_v C) k = 3 then v_le (k_v C) k else -5)) 0 0 (fun _ => False) := by
  have h := rd_section_a l g ct C (iv_nS hI) k hk 4
  rw [if_neg (show ¬ (4 : Int32) = 0 by decide), if_neg (show ¬ (4 : Int32) = 1 by decide), if_neg (show ¬ (4 : Int32) = 2 by decide), if_neg (show ¬ (4 : Int32) = 3 by decide), if_pos rfl] at h
  exact h
theorem rd_section_5 (l : Launch) (g : va_G) (ct : Nat → ClassId) {T : Nat} (C : CT) (hI : IV (k_v C) T) (k : Nat) (hk : k < v_nS (k_v C)) : Met l yX9_section wsX9_section (zRm 1 21) (va_Pc [.ref (k_ba C 0), .int (nI k), .int 5] (zR g ct (CW ct C))) (vp_Si (fun r => r = v_cs (k_v C) k)) 0 0 (fun _ => False) := by
  have h := rd_section_a l g ct C (iv_nS hI) k hk 5
  rw [if_neg (show ¬ (5 : Int32) = 0 by decide), if_neg (show ¬ (5 : Int32) = 1 by decide), if_neg (show ¬ (5 : Int32) = 2 by decide), if_neg (show ¬ (5 : Int32) = 3 by decide), if_neg (show ¬ (5 : Int32) = 4 by decide), if_pos rfl] at h
  exact h
theorem rd_section_6 (l : Launch) (g : va_G) (ct : Nat → ClassId) {T : Nat} (C : CT) (hI : IV (k_v C) T) (k : Nat) (hk : k < v_nS (k_v C)) : Met l yX9_section wsX9_section (zRm 1 21) (va_Pc [.ref (k_ba C 0), .int (nI k), .int 6] (zR g ct (CW ct C))) (vp_Si (fun r => r = -2)) 0 0 (fun _ => False) := by
  have h := rd_section_a l g ct C (iv_nS hI) k hk 6
  rw [if_neg (show ¬ (6 : Int32) = 0 by decide), if_neg (show ¬ (6 : Int32) = 1 by decide), if_neg (show ¬ (6 : Int32) = 2 by decide), if_neg (show ¬ (6 : Int32) = 3 by decide), if_neg (show ¬ (6 : Int32) = 4 by decide), if_neg (show ¬ (6 : Int32) = 5 by decide)] at h
  exact h
theorem rd_pump_0 (l : Launch) (g : va_G) (ct : Nat → ClassId) {T : Nat} (C : CT) (hI : IV (k_v C) T) (k : Nat) (hk : k < v_nP (k_v C)) : Met l yX9_pump wsX9_pump (zRm 2 45) (va_Pc [.ref (k_ba C 0), .int (nI k), .int 0] (zR g ct (CW ct C))) (vp_Si (fun r => r = v_po (k_v C) k)) 0 0 (fun _ => False) := by
  have h := rd_pump_a l g ct C (iv_nP hI) k hk 0
  rw [if_pos rfl] at h
  exact h
theorem rd_pump_1 (l : Launch) (g : va_G) (ct : Nat → ClassId) {T : Nat} (C : CT) (hI : IV (k_v C) T) (k : Nat) (hk : k < v_nP (k_v C)) : Met l yX9_pump wsX9_pump (zRm 2 45) (va_Pc [.ref (k_ba C 0), .int (nI k), .int 1] (zR g ct (CW ct C))) (vp_Si (fun r => r = v_pw (k_v C) k)) 0 0 (fun _ => False) := by
  have h := rd_pump_a l g ct C (iv_nP hI) k hk 1
  rw [if_neg (show ¬ (1 : Int32) = 0 by decide), if_pos rfl] at h
  exact h
theorem rd_pump_2 (l : Launch) (g : va_G) (ct : Nat → ClassId) {T : Nat} (C : CT) (hI : IV (k_v C) T) (k : Nat) (hk : k < v_nP (k_v C)) : Met l yX9_pump wsX9_pump (zRm 2 45) (va_Pc [.ref (k_ba C 0), .int (nI k), .int 2] (zR g ct (CW ct C))) (vp_Si (fun r => r = if v_on (k_v C) k = 0 then 0 else 1)) 0 0 (fun _ => False) := by
  have h := rd_pump_a l g ct C (iv_nP hI) k hk 2
  rw [if_neg (show ¬ (2 : Int32) = 0 by decide), if_neg (show ¬ (2 : Int32) = 1 by decide), if_pos rfl] at h
  exact h
theorem rd_pump_3 (l : Launch) (g : va_G) (ct : Nat → ClassId) {T : Nat} (C : CT) (hI : IV (k_v C) T) (k : Nat) (hk : k < v_nP (k_v C)) : Met l yX9_pump wsX9_pump (zRm 2 45) (va_Pc [.ref (k_ba C 0), .int (nI k), .int 3] (zR g ct (CW ct C))) (vp_Si (fun r => r = if rbP (v_on (k_v C)) (v_po (k_v C)) (v_lim (k_v C)) (drN (v_on (k_v C)) (v_po (k_v C)) (v_lim (k_v C)) k) k then 1 else 0)) 0 0 (fun _ => False) := by
  have h := rd_pump_a l g ct C (iv_nP hI) k hk 3
  rw [if_neg (show ¬ (3 : Int32) = 0 by decide), if_neg (show ¬ (3 : Int32) = 1 by decide), if_neg (show ¬ (3 : Int32) = 2 by decide), if_pos rfl] at h
  exact h
theorem rd_pump_4 (l : Launch) (g : va_G) (ct : Nat → ClassId) {T : Nat} (C : CT) (hI : IV (k_v C) T) (k : Nat) (hk : k < v_nP (k_v C)) : Met l yX9_pump wsX9_pump (zRm 2 45) (va_Pc [.ref (k_ba C 0), .int (nI k), .int 4] (zR g ct (CW ct C))) (vp_Si (fun r => r = v_ra (k_v C) k)) 0 0 (fun _ => False) := by
  have h := rd_pump_a l g ct C (iv_nP hI) k hk 4
  rw [if_neg (show ¬ (4 : Int32) = 0 by decide), if_neg (show ¬ (4 : Int32) = 1 by decide), if_neg (show ¬ (4 : Int32) = 2 by decide), if_neg (show ¬ (4 : Int32) = 3 by decide), if_pos rfl] at h
  exact h
theorem rd_water_0 (l : Launch) (g : va_G) (ct : Nat → ClassId) {T : Nat} (C : CT) (hI : IV (k_v C) T) : Met l yX9_water wsX9_water (zRm 0 0) (va_Pc [.ref (k_ba C 0), .int 0] (zR g ct (CW ct C))) (vp_Sl (fun r => r = v_vo (k_v C))) 0 0 (fun _ => False) := by
  have h := rd_water_a l g ct C 0
  rw [if_pos rfl] at h
  exact h
theorem rd_water_1 (l : Launch) (g : va_G) (ct : Nat → ClassId) {T : Nat} (C : CT) (hI : IV (k_v C) T) : Met l yX9_water wsX9_water (zRm 0 0) (va_Pc [.ref (k_ba C 0), .int 1] (zR g ct (CW ct C))) (vp_Sl (fun r => r = v_fi (k_v C))) 0 0 (fun _ => False) := by
  have h := rd_water_a l g ct C 1
  rw [if_neg (show ¬ (1 : Int32) = 0 by decide), if_pos rfl] at h
  exact h
theorem rd_water_2 (l : Launch) (g : va_G) (ct : Nat → ClassId) {T : Nat} (C : CT) (hI : IV (k_v C) T) : Met l yX9_water wsX9_water (zRm 0 0) (va_Pc [.ref (k_ba C 0), .int 2] (zR g ct (CW ct C))) (vp_Sl (fun r => r = v_fo (k_v C))) 0 0 (fun _ => False) := by
  have h := rd_water_a l g ct C 2
  rw [if_neg (show ¬ (2 : Int32) = 0 by decide), if_neg (show ¬ (2 : Int32) = 1 by decide), if_pos rfl] at h
  exact h
theorem rd_water_3 (l : Launch) (g : va_G) (ct : Nat → ClassId) {T : Nat} (C : CT) (hI : IV (k_v C) T) : Met l yX9_water wsX9_water (zRm 0 0) (va_Pc [.ref (k_ba C 0), .int 3] (zR g ct (CW ct C))) (vp_Sl (fun r => r = v_fv (k_v C))) 0 0 (fun _ => False) := by
  have h := rd_water_a l g ct C 3
  rw [if_neg (show ¬ (3 : Int32) = 0 by decide), if_neg (show ¬ (3 : Int32) = 1 by decide), if_neg (show ¬ (3 : Int32) = 2 by decide), if_pos rfl] at h
  exact h
theorem rd_water_4 (l : Launch) (g : va_G) (ct : Nat → ClassId) {T : Nat} (C : CT) (hI : IV (k_v C) T) : Met l yX9_water wsX9_water (zRm 0 0) (va_Pc [.ref (k_ba C 0), .int 4] (zR g ct (CW ct C))) (vp_Sl (fun r => r = v_br (k_v C))) 0 0 (fun _ => False) := by
  have h := rd_water_a l g ct C 4
  rw [if_neg (show ¬ (4 : Int32) = 0 by decide), if_neg (show ¬ (4 : Int32) = 1 by decide), if_neg (show ¬ (4 : Int32) = 2 by decide), if_neg (show ¬ (4 : Int32) = 3 by decide), if_pos rfl] at h
  exact h
theorem rd_water_5 (l : Launch) (g : va_G) (ct : Nat → ClassId) {T : Nat} (C : CT) (hI : IV (k_v C) T) : Met l yX9_water wsX9_water (zRm 0 0) (va_Pc [.ref (k_ba C 0), .int 5] (zR g ct (CW ct C))) (vp_Sl (fun r => r = v_pu (k_v C))) 0 0 (fun _ => False) := by
  have h := rd_water_a l g ct C 5
  rw [if_neg (show ¬ (5 : Int32) = 0 by decide), if_neg (show ¬ (5 : Int32) = 1 by decide), if_neg (show ¬ (5 : Int32) = 2 by decide), if_neg (show ¬ (5 : Int32) = 3 by decide), if_neg (show ¬ (5 : Int32) = 4 by decide), if_pos rfl] at h
  exact h
theorem rd_water_6 (l : Launch) (g : va_G) (ct : Nat → ClassId) {T : Nat} (C : CT) (hI : IV (k_v C) T) : Met l yX9_water wsX9_water (zRm 0 0) (va_Pc [.ref (k_ba C 0), .int 6] (zR g ct (CW ct C))) (vp_Sl (fun r => r = -2)) 0 0 (fun _ => False) := by
  have h := rd_water_a l g ct C 6
  rw [if_neg (show ¬ (6 : Int32) = 0 by decide), if_neg (show ¬ (6 : Int32) = 1 by decide), if_neg (show ¬ (6 : Int32) = 2 by decide), if_neg (show ¬ (6 : Int32) = 3 by decide), if_neg (show ¬ (6 : Int32) = 4 by decide), if_neg (show ¬ (6 : Int32) = 5 by decide)] at h
  exact h
theorem rd_level_0 (l : Launch) (g : va_G) (ct : Nat → ClassId) {T : Nat} (C : CT) (hI : IV (k_v C) T) (hT : T ≤ 100) : Met l yX9_level wsX9_level (zRm 4 97) (va_Pc [.ref (k_ba C 0), .int 0] (zR g ct (CW ct C))) (vp_Sd (fun r => r = (v_td (k_v C) (v_h (k_v C) % 24)).toUInt64)) 0 0 (fun _ => False) := by
  have h := rd_level_a l g ct C (by have := iv_h hI; omega) (iv_td hI) (iv_al hI) (iv_ar hI) 0
  rw [if_pos rfl] at h
  exact h
theorem rd_level_1 (l : Launch) (g : va_G) (ct : Nat → ClassId) {T : Nat} (C : CT) (hI : IV (k_v C) T) (hT : T ≤ 100) : Met l yX9_level wsX9_level (zRm 4 97) (va_Pc [.ref (k_ba C 0), .int 1] (zR g ct (CW ct C))) (vp_Sd (fun r => r = FP.ddiv (FP.l2d (v_vo (k_v C))) (FP.i2d (v_ar (k_v C))))) 0 0 (fun _ => False) := by
  have h := rd_level_a l g ct C (by have := iv_h hI; omega) (iv_td hI) (iv_al hI) (iv_ar hI) 1
  rw [if_neg (show ¬ (1 : Int32) = 0 by decide), if_pos rfl] at h
  exact h
theorem rd_level_2 (l : Launch) (g : va_G) (ct : Nat → ClassId) {T : Nat} (C : CT) (hI : IV (k_v C) T) (hT : T ≤ 100) : Met l yX9_level wsX9_level (zRm 4 97) (va_Pc [.ref (k_ba C 0), .int 2] (zR g ct (CW ct C))) (vp_Sd (fun r => r = (v_al (k_v C)).toUInt64)) 0 0 (fun _ => False) := by
  have h := rd_level_a l g ct C (by have := iv_h hI; omega) (iv_td hI) (iv_al hI) (iv_ar hI) 2
  rw [if_neg (show ¬ (2 : Int32) = 0 by decide), if_neg (show ¬ (2 : Int32) = 1 by decide), if_pos rfl] at h
  exact h
theorem rd_level_3 (l : Launch) (g : va_G) (ct : Nat → ClassId) {T : Nat} (C : CT) (hI : IV (k_v C) T) (hT : T ≤ 100) : Met l yX9_level wsX9_level (zRm 4 97) (va_Pc [.ref (k_ba C 0), .int 3] (zR g ct (CW ct C))) (vp_Sd (fun r => r = 9221120237041090560)) 0 0 (fun _ => False) := by
  have h := rd_level_a l g ct C (by have := iv_h hI; omega) (iv_td hI) (iv_al hI) (iv_ar hI) 3
  rw [if_neg (show ¬ (3 : Int32) = 0 by decide), if_neg (show ¬ (3 : Int32) = 1 by decide), if_neg (show ¬ (3 : Int32) = 2 by decide)] at h
  exact h
theorem ac_forecastI (l : Launch) (g : va_G) (ct : Nat → ClassId) (sz : Nat) {T : Nat} (C : CT) (hI : IV (k_v C) T) (hT : T ≤ 100) (k : Nat) (hk : k ≤ 48) : Met l yX9_forecast wsX9_forecast (zRm 5 122) (va_Pc [.ref (k_ba C 0), .int (nI k)] (zW g ct (CW ct C) sz)) (zEd (S := {u : CT // Sm C u}) g (fun u => CW ct u.1) (FP.ddiv (FP.l2d (v_vo (hrS (k_v C) k))) (FP.i2d (v_ar (k_v C)))) (va_A (CW ct C) sz)) 0 0 (va_A (CW ct C) sz) :=
  ac_forecast l g ct sz C (iv_01 hI) (iv_nS hI) (iv_nT hI) (iv_nP hI) (iv_wi hI) (iv_cr hI) (iv_td hI) (iv_ar hI) k (by have := iv_h hI; omega) hk
theorem ac_shutInI (l : Launch) (g : va_G) (ct : Nat → ClassId) (sz : Nat) {T : Nat} (C : CT) (hI : IV (k_v C) T) (hT : T ≤ 100) : Met l yX9_shutIn wsX9_shutIn (zRm 5 122) (va_Pc [.ref (k_ba C 0)] (zW g ct (CW ct C) sz)) (zEi (S := {u : CT // Sm C u}) g (fun u => CW ct u.1) (shI (k_v C)) (va_A (CW ct C) sz)) 0 0 (va_A (CW ct C) sz) :=
  ac_shutIn l g ct sz C (iv_01 hI) (iv_nS hI) (iv_nT hI) (iv_nP hI) (iv_wi hI) (iv_cr hI) (iv_td hI) (iv_ar hI) (by have := iv_h hI; omega)
