/-! facts that the law's methods ask for -/
theorem lw_and (x : Int32) : x &&& 2147483647 = nI (x.toUInt32.toNat % 2 ^ 31) := by
  apply Int32.toInt_inj.mp
  have h1 : (x &&& 2147483647).toUInt32.toNat = x.toUInt32.toNat % 2 ^ 31 := by
    show (x.toUInt32 &&& 2147483647).toNat = _
    rw [UInt32.toNat_and]
    exact Nat.and_two_pow_sub_one_eq_mod x.toUInt32.toNat 31
  have h2 : (x &&& 2147483647).toInt = if 2 * (x &&& 2147483647).toUInt32.toNat < 2 ^ 32 then ((x &&& 2147483647).toUInt32.toNat : Int) else ((x &&& 2147483647).toUInt32.toNat : Int) - (2 ^ 32 : Nat) := BitVec.toInt_eq_toNat_cond (x &&& 2147483647).toBitVec
  rw [h2, h1, if_pos (by omega), nI_toInt (by omega)]
def lowN (x : Int32) (n : Nat) : Nat := x.toUInt32.toNat % 2 ^ 31 % n
theorem lowN_lt (x : Int32) {n : Nat} (h : 0 < n) : lowN x n < n := Nat.mod_lt _ h
def btS (k : Nat) : Int64 := if k = 0 then 0 else if k = 1 then 4612811918334230528 else if k = 2 then -4613937818241073152 else if k = 3 then 4616189618054758400 else if k = 4 then 4607182418800017408 else 4619004367821864960
theorem btS_lv (k : Nat) : lvS (btS k) := by
  unfold btS
  by_cases h0 : k = 0
  · rw [if_pos h0]; exact Or.inl rfl
  rw [if_neg h0]
  by_cases h1 : k = 1
  · rw [if_pos h1]; exact Or.inr (Or.inl rfl)
  rw [if_neg h1]
  by_cases h2 : k = 2
  · rw [if_pos h2]; exact Or.inr (Or.inr (Or.inl rfl))
  rw [if_neg h2]
  by_cases h3 : k = 3
  · rw [if_pos h3]; exact Or.inr (Or.inr (Or.inr (Or.inl rfl)))
  rw [if_neg h3]
  by_cases h4 : k = 4
  · rw [if_pos h4]; exact Or.inr (Or.inr (Or.inr (Or.inr (Or.inl rfl))))
  rw [if_neg h4]; exact Or.inr (Or.inr (Or.inr (Or.inr (Or.inr (Or.inl rfl)))))
/-- what a state tells by number -/
noncomputable def ctV (v : SVT) (k : Nat) : Int32 := if k = 0 then nI (v_h v) else if k = 1 then v_od v else if k = 2 then mvI (v_co v) (v_nS v) else if k = 3 then cntI (v_co v) 2 (v_nS v) else if k = 4 then cntI (v_co v) 4 (v_nS v) else if k = 5 then wcI (v_cl v) (v_we v) (v_nD v) else if k = 6 then waI (v_we v) (v_nD v) else if k = 7 then v_cb v else if k = 8 then v_dl v else if k = 9 then v_ar v else if k = 10 then v_lim v else if k = 11 then nI (v_nS v) else if k = 12 then nI (v_nD v) else if k = 13 then nI (v_nT v) else if k = 14 then nI (v_nP v) else v_idl v
def wtV (v : SVT) (k : Nat) : Int64 := if k = 0 then v_vo v else if k = 1 then v_fi v else if k = 2 then v_fo v else if k = 3 then v_fv v else if k = 4 then v_br v else v_pu v
def scV (v : SVT) (k j : Nat) : Int32 := if j = 0 then v_wi v k else if j = 1 then v_ho v k else if j = 2 then v_li v k else if j = 3 then v_co v k else if j = 4 then (if v_co v k = 1 ∨ v_co v k = 3 then v_le v k else -5) else v_cs v k
def puV (v : SVT) (k j : Nat) : Int32 := if j = 0 then v_po v k else if j = 1 then v_pw v k else if j = 2 then (if v_on v k = 0 then 0 else 1) else if j = 3 then (if rbP (v_on v) (v_po v) (v_lim v) (drN (v_on v) (v_po v) (v_lim v) k) k then 1 else 0) else v_ra v k
theorem rd_count_v (l : Launch) (g : va_G) (ct : Nat → ClassId) {T : Nat} (C : CT) (hI : IV (k_v C) T) (k : Nat) (hk : k < 18) (h15 : ¬ k = 15) (h16 : ¬ k = 16) : Met l yX9_count wsX9_count (zRm 2 42) (va_Pc [.ref (k_ba C 0), .int (nI k)] (zR g ct (CW ct C))) (vp_Si (fun r => r = ctV (k_v C) k)) 0 0 (fun _ => False) := by
  rcases (show k = 0 ∨ k = 1 ∨ k = 2 ∨ k = 3 ∨ k = 4 ∨ k = 5 ∨ k = 6 ∨ k = 7 ∨ k = 8 ∨ k = 9 ∨ k = 10 ∨ k = 11 ∨ k = 12 ∨ k = 13 ∨ k = 14 ∨ k = 17 by omega) with rfl | rfl | rfl | rfl | rfl | rfl | rfl | rfl | rfl | rfl | rfl | rfl | rfl | rfl | rfl | rfl
  · exact rd_count_0 l g ct C hI
  · exact rd_count_1 l g ct C hI
  · exact rd_count_2 l g ct C hI
  · exact rd_count_3 l g ct C hI
  · exact rd_count_4 l g ct C hI
  · exact rd_count_5 l g ct C hI
  · exact rd_count_6 l g ct C hI
  · exact rd_count_7 l g ct C hI
  · exact rd_count_8 l g ct C hI
  · exact rd_count_9 l g ct C hI
  · exact rd_count_10 l g ct C hI
  · exact rd_count_11 l g ct C hI
  · exact rd_count_12 l g ct C hI
  · exact rd_count_13 l g ct C hI
  · exact rd_count_14 l g ct C hI
  · exact rd_count_17 l g ct C hI
theorem rd_water_v (l : Launch) (g : va_G) (ct : Nat → ClassId) {T : Nat} (C : CT) (hI : IV (k_v C) T) (k : Nat) (hk : k < 6) : Met l yX9_water wsX9_water (zRm 0 0) (va_Pc [.ref (k_ba C 0), .int (nI k)] (zR g ct (CW ct C))) (vp_Sl (fun r => r = wtV (k_v C) k)) 0 0 (fun _ => False) := by
  rcases (show k = 0 ∨ k = 1 ∨ k = 2 ∨ k = 3 ∨ k = 4 ∨ k = 5 by omega) with rfl | rfl | rfl | rfl | rfl | rfl
  · exact rd_water_0 l g ct C hI
  · exact rd_water_1 l g ct C hI
  · exact rd_water_2 l g ct C hI
  · exact rd_water_3 l g ct C hI
  · exact rd_water_4 l g ct C hI
  · exact rd_water_5 l g ct C hI
theorem rd_section_v (l : Launch) (g : va_G) (ct : Nat → ClassId) {T : Nat} (C : CT) (hI : IV (k_v C) T) (i : Nat) (hi : i < v_nS (k_v C)) (k : Nat) (hk : k < 6) : Met l yX9_section wsX9_section (zRm 1 21) (va_Pc [.ref (k_ba C 0), .int (nI i), .int (nI k)] (zR g ct (CW ct C))) (vp_Si (fun r => r = scV (k_v C) i k)) 0 0 (fun _ => False) := by
  rcases (show k = 0 ∨ k = 1 ∨ k = 2 ∨ k = 3 ∨ k = 4 ∨ k = 5 by omega) with rfl | rfl | rfl | rfl | rfl | rfl
  · exact rd_section_0 l g ct C hI i hi
  · exact rd_section_1 l g ct C hI i hi
  · exact rd_section_2 l g ct C hI i hi
  · exact rd_section_3 l g ct C hI i hi
  · exact rd_section_4 l g ct C hI i hi
  · exact rd_section_5 l g ct C hI i hi
theorem rd_pump_v (l : Launch) (g : va_G) (ct : Nat → ClassId) {T : Nat} (C : CT) (hI : IV (k_v C) T) (i : Nat) (hi : i < v_nP (k_v C)) (k : Nat) (hk : k < 5) : Met l yX9_pump wsX9_pump (zRm 2 45) (va_Pc [.ref (k_ba C 0), .int (nI i), .int (nI k)] (zR g ct (CW ct C))) (vp_Si (fun r => r = puV (k_v C) i k)) 0 0 (fun _ => False) := by
  rcases (show k = 0 ∨ k = 1 ∨ k = 2 ∨ k = 3 ∨ k = 4 by omega) with rfl | rfl | rfl | rfl | rfl
  · exact rd_pump_0 l g ct C hI i hi
  · exact rd_pump_1 l g ct C hI i hi
  · exact rd_pump_2 l g ct C hI i hi
  · exact rd_pump_3 l g ct C hI i hi
  · exact rd_pump_4 l g ct C hI i hi
/-- all that a state tells, as one number -/
noncomputable def dgA (v : SVT) (k : Nat) : Int64 := lp (fun k h => 31 * h + (if k = 15 ∨ k = 16 then (0 : Int32) else ctV v k).toInt64) k 113
noncomputable def dgB (v : SVT) (k : Nat) : Int64 := lp (fun k h => 31 * h + wtV v k) k (dgA v 18)
noncomputable def dgS (v : SVT) (i k : Nat) (h : Int64) : Int64 := lp (fun k h => 31 * h + (scV v i k).toInt64) k h
noncomputable def dgC (v : SVT) (k : Nat) : Int64 := lp (fun i h => dgS v i 6 h) k (dgB v 6)
noncomputable def dgQ (v : SVT) (i k : Nat) (h : Int64) : Int64 := lp (fun k h => 31 * h + (puV v i k).toInt64) k h
noncomputable def dgD (v : SVT) (k : Nat) : Int64 := lp (fun i h => dgQ v i 5 h) k (dgC v (v_nS v))
noncomputable def dgE (v : SVT) (k : Nat) : Int64 := lp (fun i h => 31 * h + v_td v i) k (dgD v (v_nP v))
noncomputable def dgV (v : SVT) : Int64 := 31 * dgE v 24 + (shI v).toInt64
/-- sections -/
def frI (co : Nat → Int32) (n : Nat) : Int32 := lp (fun k r => r + (if (co k = 1 ∨ co k = 3) ∨ co k = 0 then 1 else 0)) n 0
theorem cnt_s (f : Nat → Int32) (w : Int32) (k : Nat) : cntI f w (k + 1) = cntI f w k + (if f k = w then 1 else 0) := by
  show (if f k = w then cntI f w k + 1 else cntI f w k) = _
  by_cases h : f k = w
  · rw [if_pos h, if_pos h]
  · rw [if_neg h, if_neg h, Int32.add_zero]
theorem mv_0 (co : Nat → Int32) : mvI co 0 = -5 := (fI_none (P := fun k => co k = 1 ∨ co k = 3) (fun j hj => absurd hj (Nat.not_lt_zero j))).symm
theorem mv_s1 {co : Nat → Int32} {k n : Nat} (hu : ∀ i j, i < n → j < n → (co i = 1 ∨ co i = 3) → (co j = 1 ∨ co j = 3) → i = j) (hk : k < n) (h : co k = 1 ∨ co k = 3) : mvI co (k + 1) = nI k ∧ mvI co k = -5 := by
  have hn : ∀ j, j < k → ¬ (co j = 1 ∨ co j = 3) := fun j hj q => by have := hu j k (by omega) hk q h; omega
  exact ⟨(fI_some (P := fun k => co k = 1 ∨ co k = 3) (by omega) hn h).symm, (fI_none (P := fun k => co k = 1 ∨ co k = 3) hn).symm⟩
theorem mv_s0 {co : Nat → Int32} {k : Nat} (h : ¬ (co k = 1 ∨ co k = 3)) : mvI co (k + 1) = mvI co k := by
  by_cases q : fst_ (fun k => co k = 1 ∨ co k = 3) k < k
  · obtain ⟨a, b⟩ := fst_spec q
    have e1 := fI_some (P := fun k => co k = 1 ∨ co k = 3) (n := k) q b a
    have e2 := fI_some (P := fun k => co k = 1 ∨ co k = 3) (n := k + 1) (by omega) b a
    exact e2.symm.trans e1
  · have hn : ∀ j, j < k → ¬ (co j = 1 ∨ co j = 3) := by
      intro j hj w
      obtain ⟨i, h1, h2⟩ := pk_least (fun i => i < k ∧ (co i = 1 ∨ co i = 3)) ⟨j, hj, w⟩
      rw [fst_some h1.1 (fun a ha r => h2 a ha ⟨by omega, r⟩) h1.2] at q
      exact q h1.1
    have e1 := fI_none (P := fun k => co k = 1 ∨ co k = 3) hn
    have e2 := fI_none (P := fun k => co k = 1 ∨ co k = 3) (n := k + 1) (fun j hj w => by
      by_cases e : j = k
      · subst e; exact h w
      · exact hn j (by omega) w)
    exact e2.symm.trans e1
theorem on1 {x : Int32} : (if x = 0 then (0 : Int32) else 1) = 1 ↔ ¬ x = 0 := by
  by_cases h : x = 0
  · rw [if_pos h]; exact ⟨fun q => absurd q (by decide), fun q => absurd h q⟩
  · rw [if_neg h]; exact ⟨fun _ => h, fun _ => rfl⟩
theorem ie {P Q : Prop} {d1 : Decidable P} {d2 : Decidable Q} (h : P ↔ Q) : (if P then (1 : Int32) else 0) = (if Q then (1 : Int32) else 0) := by
  by_cases p : P
  · rw [if_pos p, if_pos (h.mp p)]
  · rw [if_neg p, if_neg (fun q => p (h.mpr q))]
theorem le5 {co le : Int32} (h : (co = 1 ∨ co = 3) → 1 ≤ le.toInt) : (co = 1 ∨ co = 3) ↔ ¬ (if co = 1 ∨ co = 3 then le else -5) ≤ 0 := by
  by_cases q : co = 1 ∨ co = 3
  · rw [if_pos q, Int32.le_iff_toInt_le]
    refine ⟨fun _ => ?_, fun _ => q⟩
    have := h q
    show ¬ _ ≤ (0 : Int)
    omega
  · rw [if_neg q]
    exact ⟨fun z => absurd z q, fun z => absurd (by decide) z⟩
theorem fr_sum {co : Nat → Int32} {n : Nat} (h : ∀ k, k < n → co k = 0 ∨ co k = 1 ∨ co k = 2 ∨ co k = 3 ∨ co k = 4) (k : Nat) (hk : k ≤ n) : ∃ a b c : Nat, frI co k = nI a ∧ cntI co 2 k = nI b ∧ cntI co 4 k = nI c ∧ a + b + c = k := by
  induction k with
  | zero => exact ⟨0, 0, 0, rfl, rfl, rfl, rfl⟩
  | succ k ih =>
    obtain ⟨a, b, c, h1, h2, h3, h4⟩ := ih (by omega)
    have e : frI co (k + 1) = frI co k + (if (co k = 1 ∨ co k = 3) ∨ co k = 0 then 1 else 0) := rfl
    rw [e, cnt_s, cnt_s, h1, h2, h3]
    have z : ∀ i : Nat, nI i + 0 = nI i := fun i => Int32.add_zero _
    have o : ∀ i : Nat, nI i + 1 = nI (i + 1) := fun i => nI_add i 1
    rcases h k (by omega) with q | q | q | q | q <;> rw [q]
    · refine ⟨a + 1, b, c, ?_, ?_, ?_, by omega⟩
      · rw [if_pos (by decide)]; exact o a
      · rw [if_neg (by decide)]; exact z b
      · rw [if_neg (by decide)]; exact z c
    · refine ⟨a + 1, b, c, ?_, ?_, ?_, by omega⟩
      · rw [if_pos (by decide)]; exact o a
      · rw [if_neg (by decide)]; exact z b
      · rw [if_neg (by decide)]; exact z c
    · refine ⟨a, b + 1, c, ?_, ?_, ?_, by omega⟩
      · rw [if_neg (by decide)]; exact z a
      · rw [if_pos (by decide)]; exact o b
      · rw [if_neg (by decide)]; exact z c
    · refine ⟨a + 1, b, c, ?_, ?_, ?_, by omega⟩
      · rw [if_pos (by decide)]; exact o a
      · rw [if_neg (by decide)]; exact z b
      · rw [if_neg (by decide)]; exact z c
    · refine ⟨a, b, c + 1, ?_, ?_, ?_, by omega⟩
      · rw [if_neg (by decide)]; exact z a
      · rw [if_neg (by decide)]; exact z b
      · rw [if_pos (by decide)]; exact o c
theorem hr_0 (v : SVT) : shP (hrS v 0) ↔ shP v := Iff.rfl
theorem sh_0 (v : SVT) : shI v = 0 ↔ shP v := by
  by_cases h : shP v
  · have e : nI 0 = shI v := fI_some (P := fun k => shP (hrS v k)) (n := 49) (k := 0) (by decide) (fun j hj => absurd hj (Nat.not_lt_zero j)) ((hr_0 v).mpr h)
    exact ⟨fun _ => h, fun _ => e.symm⟩
  · refine ⟨fun q => ?_, fun q => absurd q h⟩
    have h2 : ¬ shI v < 0 := by rw [q]; decide
    obtain ⟨a, b⟩ := fI_nat h2
    have b : shI v = nI (fst_ (fun k => shP (hrS v k)) 49) := b
    rw [b] at q
    have c : fst_ (fun k => shP (hrS v k)) 49 = 0 := by
      have := congrArg Int32.toInt q
      rw [nI_toInt (by omega)] at this
      have z : Int32.toInt 0 = 0 := rfl
      rw [z] at this
      omega
    have d := (fst_spec a).1
    rw [c] at d
    exact absurd ((hr_0 v).mp d) h
theorem sh_fr {v : SVT} {T : Nat} (hIV : IV v T) : shI v = 0 ↔ frI (v_co v) (v_nS v) = 0 := by
  rw [sh_0]
  have hn := iv_nS hIV
  obtain ⟨a, b, c, h1, h2, h3, h4⟩ := fr_sum (co := v_co v) (n := v_nS v) (fun k hk => ((iv_s hIV).1 k hk).2.2.2.1) (v_nS v) (Nat.le_refl _)
  show cntI (v_co v) 2 (v_nS v) + cntI (v_co v) 4 (v_nS v) = nI (v_nS v) ↔ _
  rw [h1, h2, h3, nI_add]
  constructor
  · intro q
    have q := congrArg Int32.toInt q
    rw [nI_toInt (by omega), nI_toInt (by omega)] at q
    rw [show a = 0 by omega]
    rfl
  · intro q
    have q := congrArg Int32.toInt q
    rw [nI_toInt (by omega), show Int32.toInt 0 = 0 from rfl] at q
    rw [show b + c = v_nS v by omega]
theorem fs_ho {v : SVT} {T : Nat} (hIV : IV v T) {k : Nat} (hk : k < v_nS v) : ¬ v_ho v k < (if v_co v k = 1 ∨ v_co v k = 3 then v_le v k else -5) := by
  obtain ⟨h1, h2, h3, h4, h5, h6, h7, h8⟩ := (iv_s hIV).1 k hk
  by_cases q : v_co v k = 1 ∨ v_co v k = 3
  · rw [if_pos q, Int32.lt_iff_toInt_lt]
    have := h5 q
    omega
  · rw [if_neg q, Int32.lt_iff_toInt_lt]
    show ¬ _ < (-5 : Int)
    omega
theorem fs_li {v : SVT} {T : Nat} (hIV : IV v T) {k : Nat} (hk : k < v_nS v) : ¬ v_li v k < v_cs v k := by
  obtain ⟨h1, h2, h3, h4, h5, h6, h7, h8⟩ := (iv_s hIV).1 k hk
  rw [Int32.lt_iff_toInt_lt]
  omega
theorem fs_4 {v : SVT} {T : Nat} (hIV : IV v T) {k : Nat} (hk : k < v_nS v) (h : v_co v k = 4) : ¬ v_cs v k < v_li v k := by
  obtain ⟨h1, h2, h3, h4, h5, h6, h7, h8⟩ := (iv_s hIV).1 k hk
  rw [Int32.lt_iff_toInt_lt]
  have := h8 h
  omega
theorem fs_2 {v : SVT} {T : Nat} (hIV : IV v T) {k : Nat} (hk : k < v_nS v) (h : v_co v k = 2) : ¬ v_cs v k = 0 := by
  obtain ⟨h1, h2, h3, h4, h5, h6, h7, h8⟩ := (iv_s hIV).1 k hk
  intro q
  have := h7 h
  rw [q] at this
  exact absurd this (by decide)
theorem fs_le {v : SVT} {T : Nat} (hIV : IV v T) {k : Nat} (hk : k < v_nS v) : (v_co v k = 1 ∨ v_co v k = 3) ↔ ¬ (if v_co v k = 1 ∨ v_co v k = 3 then v_le v k else -5) ≤ 0 :=
  le5 (fun q => (((iv_s hIV).1 k hk).2.2.2.2.1 q).1)
/-- water -/
theorem drN_s2 (on po : Nat → Int32) (lim : Int32) (k : Nat) : drN on po lim (k + 1) = drN on po lim k + (if rbP on po lim (drN on po lim k) k then po k else 0) := by
  rw [drN_s]
  by_cases h : rbP on po lim (drN on po lim k) k
  · rw [if_pos h, if_pos h]
  · rw [if_neg h, if_neg h, Int32.add_zero]
theorem dc_refl {x : UInt64} (h : FP.Core.dIsNaN x = false) : Op.cmpValue (FP.dcmp x x) CmpOp.l = 0 := by
  have e : FP.dcmp x x = some .eq := FP.Core.dcmp_refl h
  rw [e]
  rfl
theorem fw_ra {v : SVT} {T : Nat} (hIV : IV v T) (hT : T ≤ 100) {k : Nat} (hk : k < v_nP v) : v_ra v k ≤ nI (v_h v) := by
  have h1 := (iv_p hIV k hk).2.2.2
  have h2 := iv_h hIV
  rw [Int32.le_iff_toInt_le, nI_toInt (by omega)]
  exact h1
theorem fw_nn {v : SVT} {T : Nat} (hIV : IV v T) : ¬ v_fi v - v_fo v + v_fv v + v_br v - v_pu v < 0 := by
  have h := iv_w hIV
  rw [← h.1, Int64.lt_iff_toInt_lt]
  have := h.2.1
  show ¬ _ < (0 : Int)
  omega
theorem fw_dl {v : SVT} {T : Nat} (hIV : IV v T) : ¬ v_cb v < v_dl v := by
  have h := iv_d hIV
  rw [Int32.lt_iff_toInt_lt]
  omega
theorem fw_id {v : SVT} {T : Nat} (hIV : IV v T) : ¬ nI (v_nP v) < v_idl v := by
  have h := (iv_l hIV).2
  have h2 := iv_nP hIV
  rw [Int32.lt_iff_toInt_lt, nI_toInt (by omega)]
  omega
/-- sums of weights: small numbers -/
theorem wc_sum {cl we : Nat → Int32} {n : Nat} (hn : n ≤ 6) (h : ∀ k, k < n → 1 ≤ (we k).toInt ∧ (we k).toInt ≤ 99) (k : Nat) (hk : k ≤ n) : 0 ≤ (wcI cl we k).toInt ∧ (wcI cl we k).toInt ≤ (waI we k).toInt ∧ (waI we k).toInt ≤ 99 * (k : Int) := by
  induction k with
  | zero => exact ⟨(show (0 : Int) ≤ Int32.toInt 0 by decide), Int.le_refl _, (show Int32.toInt 0 ≤ 99 * ((0 : Nat) : Int) by decide)⟩
  | succ k ih =>
    obtain ⟨h1, h2, h3⟩ := ih (by omega)
    have hw := h k (by omega)
    have e1 : waI we (k + 1) = waI we k + we k := rfl
    have e2 : wcI cl we (k + 1) = if cl k = 0 then wcI cl we k else wcI cl we k + we k := rfl
    have a1 : (waI we k + we k).toInt = (waI we k).toInt + (we k).toInt := by
      rw [Int32.toInt_add]
      exact Int.bmod_eq_of_le (by omega) (by omega)
    rw [e1, a1, e2]
    by_cases q : cl k = 0
    · rw [if_pos q]; omega
    · rw [if_neg q]
      have a2 : (wcI cl we k + we k).toInt = (wcI cl we k).toInt + (we k).toInt := by
        rw [Int32.toInt_add]
        exact Int.bmod_eq_of_le (by omega) (by omega)
      rw [a2]
      omega
theorem fw_wc {v : SVT} {T : Nat} (hIV : IV v T) : ¬ waI (v_we v) (v_nD v) < wcI (v_cl v) (v_we v) (v_nD v) := by
  have h := (wc_sum (cl := v_cl v) (iv_nD hIV) (iv_we hIV) (v_nD v) (Nat.le_refl _)).2.1
  rw [Int32.lt_iff_toInt_lt]
  omega
