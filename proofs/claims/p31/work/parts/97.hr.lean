/-! hours -/
theorem lp_add {α : Type} (f : α → α) (a b : Nat) (x : α) : lp (fun _ t => f t) (a + b) x = lp (fun _ t => f t) b (lp (fun _ t => f t) a x) := by
  induction b with
  | zero => rfl
  | succ b ih =>
    show f (lp (fun _ t => f t) (a + b) x) = f (lp (fun _ t => f t) b (lp (fun _ t => f t) a x))
    rw [ih]
theorem hr_add (v : SVT) (a b : Nat) : hrS (hrS v a) b = hrS v (a + b) := by
  show hvS v (psL (v_nS v) (v_wi v) (v_cr v) (v_ho v) (v_li v) (v_nT v) (v_sw v) (v_nP v) (v_lim v) (v_po v) (v_pw v) (v_on v) (v_ar v) (v_td v) (psL (v_nS v) (v_wi v) (v_cr v) (v_ho v) (v_li v) (v_nT v) (v_sw v) (v_nP v) (v_lim v) (v_po v) (v_pw v) (v_on v) (v_ar v) (v_td v) (hvV v) a) b) = hvS v (psL (v_nS v) (v_wi v) (v_cr v) (v_ho v) (v_li v) (v_nT v) (v_sw v) (v_nP v) (v_lim v) (v_po v) (v_pw v) (v_on v) (v_ar v) (v_td v) (hvV v) (a + b))
  exact congrArg (hvS v) (lp_add (fun t => psS (v_nS v) (v_wi v) (v_cr v) (v_ho v) (v_li v) (v_nT v) (v_sw v) (v_nP v) (v_lim v) (v_po v) (v_pw v) (v_on v) (v_ar v) (v_td v) t) a b (hvV v)).symm
theorem hr_h (v : SVT) (k : Nat) : v_h (hrS v k) = v_h v + k := h_h_psL (v_nS v) (v_wi v) (v_cr v) (v_ho v) (v_li v) (v_nT v) (v_sw v) (v_nP v) (v_lim v) (v_po v) (v_pw v) (v_on v) (v_ar v) (v_td v) (hvV v) k
theorem hj_s (v : SVT) (k : Nat) : hrJ v (k + 1) = hrJ v k + hrJ (hrS v k) 1 := by
  show @ite Int32 (snJ (v_od (hrS v k)) (v_li v) (v_co (hrS v k)) (v_cs (hrS v k)) (v_nS v)) (Classical.propDecidable _) (hrJ v k + 1) (hrJ v k) = hrJ v k + @ite Int32 (snJ (v_od (hrS v k)) (v_li v) (v_co (hrS v k)) (v_cs (hrS v k)) (v_nS v)) (Classical.propDecidable _) (0 + 1) 0
  by_cases h : snJ (v_od (hrS v k)) (v_li v) (v_co (hrS v k)) (v_cs (hrS v k)) (v_nS v)
  · rw [if_pos h, if_pos h, Int32.zero_add]
  · rw [if_neg h, if_neg h, Int32.add_zero]
theorem hj_0 (v : SVT) : hrJ v 0 = 0 := rfl
theorem hj_add (v : SVT) (a b : Nat) : hrJ v a + hrJ (hrS v a) b = hrJ v (a + b) := by
  induction b with
  | zero => rw [hj_0, Int32.add_zero]; rfl
  | succ b ih =>
    rw [hj_s, ← Int32.add_assoc, ih, hr_add]
    exact (hj_s v (a + b)).symm
/-- when all are shut -/
theorem sh_at {v : SVT} {n : Nat} (hn : n < 49) (h : shI v = nI n) : shI (hrS v n) = 0 := by
  rw [sh_0]
  have h2 : ¬ shI v < 0 := by
    rw [h, Int32.lt_iff_toInt_lt, nI_toInt (by omega)]
    show ¬ _ < (0 : Int)
    omega
  obtain ⟨a, b⟩ := fI_nat h2
  have b : shI v = nI (fst_ (fun k => shP (hrS v k)) 49) := b
  rw [h] at b
  have c := congrArg Int32.toInt b
  rw [nI_toInt (by omega), nI_toInt (by omega)] at c
  have d := (fst_spec a).1
  rw [show fst_ (fun k => shP (hrS v k)) 49 = n by omega] at d
  exact d
theorem sh_gt {v : SVT} {n : Nat} (hn : n < 49) (h : shI v < 0 ∨ ¬ shI v ≤ nI n) : ¬ shI (hrS v n) = 0 := by
  intro q
  rw [sh_0] at q
  obtain ⟨j, h1, h2⟩ := pk_least (fun k => shP (hrS v k)) ⟨n, q⟩
  have hj : j ≤ n := Nat.not_lt.mp (fun w => h2 n w q)
  have e : nI j = shI v := fI_some (P := fun k => shP (hrS v k)) (n := 49) (by omega) h2 h1
  rw [← e] at h
  rcases h with h | h
  · rw [Int32.lt_iff_toInt_lt, nI_toInt (by omega)] at h
    have z : Int32.toInt 0 = 0 := rfl
    omega
  · rw [Int32.le_iff_toInt_le, nI_toInt (by omega), nI_toInt (by omega)] at h
    omega
/-- sections in an hour -/
theorem mv_none {co : Nat → Int32} {n : Nat} (hn : n ≤ 8) (h : mvI co n = -5) : ∀ j, j < n → ¬ (co j = 1 ∨ co j = 3) := by
  intro j hj q
  obtain ⟨i, h1, h2⟩ := pk_least (fun i => i < n ∧ (co i = 1 ∨ co i = 3)) ⟨j, hj, q⟩
  have e : nI i = mvI co n := fI_some (P := fun k => co k = 1 ∨ co k = 3) h1.1 (fun a ha r => h2 a ha ⟨by omega, r⟩) h1.2
  rw [h] at e
  have c := congrArg Int32.toInt e
  rw [nI_toInt (by omega)] at c
  have z : Int32.toInt (-5) = -5 := rfl
  omega
theorem up_sI {n : Nat} {ho li co le cs co2 le2 cs2 : Nat → Int32} (h : sI n ho li co le cs) {i : Nat} (hi : i < n) (hoth : ∀ j, j < n → j ≠ i → co2 j = co j ∧ le2 j = le j ∧ cs2 j = cs j) (h1 : s1I (ho i) (li i) (co2 i) (le2 i) (cs2 i)) (hu : (co2 i = 1 ∨ co2 i = 3) → ∀ j, j < n → j ≠ i → ¬ (co j = 1 ∨ co j = 3)) : sI n ho li co2 le2 cs2 := by
  refine ⟨fun k hk => ?_, fun a b ha hb h2 h3 => ?_⟩
  · by_cases q : k = i
    · subst q; exact h1
    · obtain ⟨e1, e2, e3⟩ := hoth k hk q
      rw [e1, e2, e3]; exact h.1 k hk
  · by_cases qa : a = i
    · by_cases qb : b = i
      · rw [qa, qb]
      · subst qa
        rw [(hoth b hb qb).1] at h3
        exact absurd h3 (hu h2 b hb qb)
    · rw [(hoth a ha qa).1] at h2
      by_cases qb : b = i
      · subst qb
        exact absurd h2 (hu h3 a ha qa)
      · rw [(hoth b hb qb).1] at h3
        exact h.2 a b ha hb h2 h3
theorem not4 {co : Int32} (h : co = 0 ∨ co = 1 ∨ co = 2 ∨ co = 3) : ¬ co = 4 := by
  rcases h with rfl | rfl | rfl | rfl <;> decide
/-- one section turned: how many are of a kind -/
theorem cnt_un {f : Nat → Int32} {w x : Int32} {i : Nat} : ∀ k, k ≤ i → cntI (upd f i x) w k = cntI f w k := by
  intro k hk
  induction k with
  | zero => rfl
  | succ k ih => rw [cnt_s, cnt_s, ih (by omega), pk_un (by omega)]
theorem cnt_up {f : Nat → Int32} {w x : Int32} {i n : Nat} (hi : i < n) (h0 : ¬ f i = w) : cntI (upd f i x) w n = cntI f w n + (if x = w then 1 else 0) := by
  obtain ⟨d, rfl⟩ : ∃ d, n = i + 1 + d := ⟨n - (i + 1), by omega⟩
  induction d with
  | zero =>
    show cntI (upd f i x) w (i + 1) = cntI f w (i + 1) + _
    rw [cnt_s, cnt_s, cnt_un i (Nat.le_refl _), pk_us, if_neg h0, Int32.add_zero]
  | succ d ih =>
    show cntI (upd f i x) w ((i + 1 + d) + 1) = cntI f w ((i + 1 + d) + 1) + _
    rw [cnt_s, cnt_s, ih (by omega), pk_un (by omega), Int32.add_assoc, Int32.add_assoc, Int32.add_comm (if x = w then 1 else 0)]
theorem sn_I {n : Nat} (hn : n ≤ 8) {od : Int32} {ho li co le cs : Nat → Int32} (h : sI n ho li co le cs) : sI n ho li (snCo od li co cs n) (snLe od ho li co le cs n) cs ∧ cntI (snCo od li co cs n) 4 n = cntI co 4 n + @ite Int32 (snJ od li co cs n) (Classical.propDecidable _) (0 + 1) 0 := by
  unfold snCo snLe
  by_cases h0 : od = 0
  · rw [if_pos h0, if_pos h0, if_neg (show ¬ snJ od li co cs n from fun q => q.1 h0), Int32.add_zero]
    exact ⟨h, rfl⟩
  rw [if_neg h0, if_neg h0]
  by_cases h1 : mvI co n = -5
  · rw [if_pos h1, if_pos h1]
    have hno := mv_none hn h1
    by_cases h2 : od = 1
    · rw [if_pos h2, if_pos h2]
      by_cases h3 : fst_ (fun k => co k = 0) n < n
      · have hs := (fst_spec h3).1
        rw [if_pos h3, if_pos h3]
        generalize hlow : fst_ (fun k => co k = 0) n = low at *
        obtain ⟨a1, a2, a3, a4, a5, a6, a7, a8⟩ := h.1 low h3
        by_cases h4 : cs low < li low
        · rw [if_pos h4, if_pos h4, if_neg (show ¬ snJ od li co cs n from fun q => q.2.2.2.2 (by rw [hlow]; exact h4)), cnt_up h3 (by rw [hs]; decide), if_neg (by decide)]
          refine ⟨up_sI h h3 (fun j hj hne => ⟨pk_un hne, pk_un hne, rfl⟩) ?_ (fun _ j hj _ => hno j hj), rfl⟩
          rw [pk_us, pk_us]
          rw [Int32.lt_iff_toInt_lt] at h4
          exact ⟨a1, a2, a3, Or.inr (Or.inl rfl), fun _ => ⟨a1.1, Int.le_refl _⟩, fun _ => h4, fun q => absurd q (by decide), fun q => absurd q (by decide)⟩
        · rw [if_neg h4, if_neg h4, if_pos (show snJ od li co cs n from ⟨h0, h1, h2, by rw [hlow]; exact h3, by rw [hlow]; exact h4⟩), cnt_up h3 (by rw [hs]; decide), if_pos rfl]
          refine ⟨up_sI h h3 (fun j hj hne => ⟨pk_un hne, rfl, rfl⟩) ?_ (fun q => absurd q (by rw [pk_us]; decide)), rfl⟩
          rw [pk_us]
          rw [Int32.lt_iff_toInt_lt] at h4
          exact ⟨a1, a2, a3, Or.inr (Or.inr (Or.inr (Or.inr rfl))), fun q => absurd q (by decide), fun q => absurd q (by decide), fun q => absurd q (by decide), fun _ => by omega⟩
      · rw [if_neg h3, if_neg h3, if_neg (show ¬ snJ od li co cs n from fun q => h3 q.2.2.2.1), Int32.add_zero]
        exact ⟨h, rfl⟩
    · rw [if_neg h2, if_neg h2, if_neg (show ¬ snJ od li co cs n from fun q => h2 q.2.2.1), Int32.add_zero]
      by_cases h3 : fst_ (fun k => co (n - 1 - k) = 2) n < n
      · have hs := (fst_spec h3).1
        rw [if_pos h3, if_pos h3]
        generalize hhi : n - 1 - fst_ (fun k => co (n - 1 - k) = 2) n = hi at *
        have hlt : hi < n := by omega
        obtain ⟨a1, a2, a3, a4, a5, a6, a7, a8⟩ := h.1 hi hlt
        rw [cnt_up hlt (by rw [hs]; decide), if_neg (by decide), Int32.add_zero]
        refine ⟨up_sI h hlt (fun j hj hne => ⟨pk_un hne, pk_un hne, rfl⟩) ?_ (fun _ j hj _ => hno j hj), rfl⟩
        rw [pk_us, pk_us]
        exact ⟨a1, a2, a3, Or.inr (Or.inr (Or.inr (Or.inl rfl))), fun _ => ⟨a1.1, Int.le_refl _⟩, fun q => absurd q (by decide), fun q => absurd q (by decide), fun q => absurd q (by decide)⟩
      · rw [if_neg h3, if_neg h3]
        exact ⟨h, rfl⟩
  · rw [if_neg h1, if_neg h1, if_neg (show ¬ snJ od li co cs n from fun q => h1 q.2.1), Int32.add_zero]
    exact ⟨h, rfl⟩
theorem i1_sub {x : Int32} (h1 : 1 ≤ x.toInt) (h2 : x.toInt ≤ 6) : (x - 1).toInt = x.toInt - 1 := by
  rw [Int32.toInt_sub, show Int32.toInt 1 = 1 from rfl]
  exact Int.bmod_eq_of_le (by omega) (by omega)
theorem i1_add {x : Int32} (h1 : 0 ≤ x.toInt) (h2 : x.toInt ≤ 100000) : (x + 1).toInt = x.toInt + 1 := by
  rw [Int32.toInt_add, show Int32.toInt 1 = 1 from rfl]
  exact Int.bmod_eq_of_le (by omega) (by omega)
theorem go_I {n : Nat} (hn : n ≤ 8) {ho li co le cs : Nat → Int32} (h : sI n ho li co le cs) : sI n ho li (gOco co le n) (gOle co le n) (gOcs co le cs n) ∧ cntI (gOco co le n) 4 n = cntI co 4 n := by
  unfold gOco gOle gOcs
  by_cases h0 : mvN co n < n
  · rw [if_pos h0, if_pos h0, if_pos h0]
    have hs := (fst_spec (P := fun k => co k = 1 ∨ co k = 3) h0).1
    generalize hi : mvN co n = i at *
    have hs : co i = 1 ∨ co i = 3 := by
      have e : fst_ (fun k => co k = 1 ∨ co k = 3) n = i := hi
      rw [e] at hs; exact hs
    have hu : ∀ j, j < n → j ≠ i → ¬ (co j = 1 ∨ co j = 3) := fun j hj hne q => hne (h.2 j i hj h0 q hs)
    obtain ⟨a1, a2, a3, a4, a5, a6, a7, a8⟩ := h.1 i h0
    have hle := a5 hs
    have hsub := i1_sub hle.1 (by omega)
    by_cases h1 : le i - 1 ≤ 0
    · rw [if_pos h1, if_pos h1]
      by_cases h2 : co i = 1
      · rw [if_pos h2, if_pos h2, cnt_up h0 (by rw [h2]; decide), if_neg (by decide), Int32.add_zero]
        refine ⟨up_sI h h0 (fun j hj hne => ⟨pk_un hne, pk_un hne, pk_un hne⟩) ?_ (fun q => absurd q (by rw [pk_us]; decide)), rfl⟩
        rw [pk_us, pk_us, pk_us]
        have hadd := i1_add a3.1 (by omega)
        have h6 := a6 h2
        exact ⟨a1, a2, by rw [hadd]; omega, Or.inr (Or.inr (Or.inl rfl)), fun q => absurd q (by decide), fun q => absurd q (by decide), fun _ => by rw [hadd]; omega, fun q => absurd q (by decide)⟩
      · have h3 : co i = 3 := hs.resolve_left h2
        rw [if_neg h2, if_neg h2, cnt_up h0 (by rw [h3]; decide), if_neg (by decide), Int32.add_zero]
        refine ⟨up_sI h h0 (fun j hj hne => ⟨pk_un hne, pk_un hne, rfl⟩) ?_ (fun q => absurd q (by rw [pk_us]; decide)), rfl⟩
        rw [pk_us, pk_us]
        exact ⟨a1, a2, a3, Or.inl rfl, fun q => absurd q (by decide), fun q => absurd q (by decide), fun q => absurd q (by decide), fun q => absurd q (by decide)⟩
    · rw [if_neg h1, if_neg h1]
      refine ⟨up_sI h h0 (fun j hj hne => ⟨rfl, pk_un hne, rfl⟩) ?_ (fun _ => hu), rfl⟩
      rw [pk_us]
      rw [Int32.le_iff_toInt_le, hsub] at h1
      have z : Int32.toInt 0 = 0 := rfl
      exact ⟨a1, a2, a3, a4, fun _ => by rw [hsub]; omega, a6, a7, a8⟩
  · rw [if_neg h0, if_neg h0, if_neg h0]
    exact ⟨h, rfl⟩
