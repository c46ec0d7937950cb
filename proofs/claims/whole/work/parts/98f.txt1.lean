/-! the levels of a text, one after the other, on both sides -/
def IvP (ch te tx : Nat → Int32) (len : Nat) (rd : Nat → Int32) (j : Nat) : Prop := (rsT tx len rd j).1 ≤ len ∧ (rsT tx len rd j).2.1 = j ∧ 4 * j ≤ (rsT tx len rd j).1 ∧ (∀ i, i < (rsT tx len rd j).1 → ¬ plK ch (i + 1) = -5) ∧ ∃ tj : Nat → Int32, StP ch te (rsT tx len rd j).1 0 0 0 (tj, j) ∧ ∀ i, i < j → tj i = (rsT tx len rd j).2.2 i ∧ (-100 < tj i ∧ tj i < 100)
theorem Iv_0 (ch te tx : Nat → Int32) (len : Nat) (rd : Nat → Int32) : IvP ch te tx len rd 0 :=
  ⟨Nat.zero_le _, rfl, Nat.le_refl _, fun i hi => absurd hi (Nat.not_lt_zero i), te, ⟨rfl, rfl⟩, fun i hi => absurd hi (Nat.not_lt_zero i)⟩
theorem adL_at {x : Int32} {t : Nat → Int32} {j : Nat} (h : j < 15) : adL x (t, j) = (upd t j x, j + 1) := if_pos h
theorem Iv_s {ch te tx rd : Nat → Int32} {len : Nat} (he : ∀ i, i < len → tx i = ch i) (hlen : len ≤ 60) {j : Nat} (h : IvP ch te tx len rd j) (hz : rlZ tx len (rsT tx len rd j).1) (hl : rlA tx len (rsT tx len rd j).1 < len) : IvP ch te tx len rd (j + 1) := by
  obtain ⟨h1, h2, h3, h4, tj, h5, h6⟩ := h
  obtain ⟨x, ⟨k1, k2, k3, k4, k5, vl, ng, k6, k7⟩, k8, k9⟩ := (lvl_1 he h1 h5).2.2 hz
  have hc : ch (rlA tx len (rsT tx len rd j).1) = 44 := by
    rcases k4 with z | z
    · omega
    · exact z
  have s := St_c k6 hc
  rw [k7, adL_at (by omega)] at s
  have e := rsT_s tx len rd j
  rw [if_pos hl, k8, k9, h2] at e
  unfold IvP
  rw [e]
  refine ⟨by show _ + 1 ≤ len; omega, rfl, by show 4 * (j + 1) ≤ _ + 1; omega, fun i hi => ?_, upd tj j x, s, fun i hi => ?_⟩
  · have hi : i < rlA tx len (rsT tx len rd j).1 + 1 := hi
    by_cases d : i < (rsT tx len rd j).1
    · exact h4 i d
    · by_cases d2 : i < rlA tx len (rsT tx len rd j).1
      · exact k1 i (by omega) d2
      · rw [show i = rlA tx len (rsT tx len rd j).1 by omega, s.1]
        decide
  · show upd tj j x i = upd (rsT tx len rd j).2.2 j x i ∧ _
    by_cases d : i = j
    · rw [d, pk_us, pk_us]
      exact ⟨rfl, k5⟩
    · rw [pk_un d, pk_un d]
      exact h6 i (by omega)
theorem rt_iter {ch te tx rd : Nat → Int32} {len : Nat} (he : ∀ i, i < len → tx i = ch i) (hlen : len ≤ 60) : ∃ K, K ≤ 15 ∧ (∀ j, j ≤ K → IvP ch te tx len rd j) ∧ (∀ j, j < K → rlZ tx len (rsT tx len rd j).1 ∧ rlA tx len (rsT tx len rd j).1 < len) ∧ ¬ (rlZ tx len (rsT tx len rd K).1 ∧ rlA tx len (rsT tx len rd K).1 < len) := by
  have hall : ∀ K, (∀ j, j < K → rlZ tx len (rsT tx len rd j).1 ∧ rlA tx len (rsT tx len rd j).1 < len) → ∀ j, j ≤ K → IvP ch te tx len rd j := by
    intro K hg j
    induction j with
    | zero => exact fun _ => Iv_0 ch te tx len rd
    | succ j ih => exact fun hj => Iv_s he hlen (ih (by omega)) (hg j (by omega)).1 (hg j (by omega)).2
  have hex : ∃ K, ¬ (rlZ tx len (rsT tx len rd K).1 ∧ rlA tx len (rsT tx len rd K).1 < len) := by
    apply Classical.byContradiction
    intro q
    have hg : ∀ j, rlZ tx len (rsT tx len rd j).1 ∧ rlA tx len (rsT tx len rd j).1 < len := fun j => Classical.not_not.mp (fun z => q ⟨j, z⟩)
    have h := hall 16 (fun j _ => hg j) 16 (Nat.le_refl _)
    have h1 := h.1
    have h3 := h.2.2.1
    omega
  obtain ⟨K, q1, q2⟩ := pk_least (fun K => ¬ (rlZ tx len (rsT tx len rd K).1 ∧ rlA tx len (rsT tx len rd K).1 < len)) hex
  have hg : ∀ j, j < K → rlZ tx len (rsT tx len rd j).1 ∧ rlA tx len (rsT tx len rd j).1 < len := fun j hj => Classical.not_not.mp (q2 j hj)
  have h := hall K hg
  have h1 := (h K (Nat.le_refl _)).1
  have h3 := (h K (Nat.le_refl _)).2.2.1
  exact ⟨K, by omega, h, hg, q1⟩
theorem rt_fault {ch te tx rd : Nat → Int32} {len : Nat} (he : ∀ i, i < len → tx i = ch i) {K : Nat} (h : IvP ch te tx len rd K) (hz : ¬ rlZ tx len (rsT tx len rd K).1) : ftI ch len = nI (rlA tx len (rsT tx len rd K).1) ∧ rlA tx len (rsT tx len rd K).1 ≤ len := by
  obtain ⟨h1, h2, h3, h4, tj, h5, h6⟩ := h
  obtain ⟨k1, k2⟩ := (lvl_1 he h1 h5).2.1 hz
  have hno : ∀ j, j < rlA tx len (rsT tx len rd K).1 → ¬ plK ch (j + 1) = -5 := fun j hj => by
    by_cases d : j < (rsT tx len rd K).1
    · exact h4 j d
    · exact k1 j (by omega) hj
  rcases k2 with ⟨a, b⟩ | ⟨a, b⟩
  · exact ⟨(ftI_some a hno b).symm, Nat.le_of_lt a⟩
  · rw [a] at hno
    rw [a]
    exact ⟨(ftI_n hno b).symm, Nat.le_refl _⟩
theorem rt_ok {ch te tx rd : Nat → Int32} {len : Nat} (he : ∀ i, i < len → tx i = ch i) (hlen : len ≤ 60) {K : Nat} (h : IvP ch te tx len rd K) (hz : rlZ tx len (rsT tx len rd K).1) (hl : ¬ rlA tx len (rsT tx len rd K).1 < len) : ftI ch len = -5 ∧ K ≤ 14 ∧ (rtE ch te len).2 = K + 1 ∧ (rsT tx len rd (K + 1)).2.1 = K + 1 ∧ ∀ i, i < K + 1 → (rtE ch te len).1 i = (rsT tx len rd (K + 1)).2.2 i ∧ (-100 < (rtE ch te len).1 i ∧ (rtE ch te len).1 i < 100) := by
  obtain ⟨h1, h2, h3, h4, tj, h5, h6⟩ := h
  obtain ⟨x, ⟨k1, k2, k3, k4, k5, vl, ng, k6, k7⟩, k8, k9⟩ := (lvl_1 he h1 h5).2.2 hz
  have e0 : rlA tx len (rsT tx len rd K).1 = len := by omega
  have hno : ∀ j, j < len → ¬ plK ch (j + 1) = -5 := fun j hj => by
    by_cases d : j < (rsT tx len rd K).1
    · exact h4 j d
    · exact k1 j (by omega) (by omega)
  rw [e0] at k6
  have e := rsT_s tx len rd K
  rw [if_neg hl, k8, k9, h2] at e
  have eE : rtE ch te len = (upd tj K x, K + 1) := by
    unfold rtE
    rw [k6.2]
    show adL (if ng = 0 then vl else -vl) (tj, K) = _
    rw [k7, adL_at (by omega)]
  rw [eE, e]
  refine ⟨(ftI_4 hno k6.1).symm, by omega, rfl, rfl, fun i hi => ?_⟩
  show upd tj K x i = upd (rsT tx len rd K).2.2 K x i ∧ (-100 < upd tj K x i ∧ upd tj K x i < 100)
  by_cases d : i = K
  · rw [d, pk_us, pk_us]
    exact ⟨rfl, k5⟩
  · rw [pk_un d, pk_un d]
    exact h6 i (by omega)
theorem lw_lt {t : Nat → Int32} {n : Nat} : lwI t n < -50 ↔ ∃ i, i < n ∧ t i < -50 := by
  induction n with
  | zero => exact ⟨fun q => absurd (show (0 : Int32) < -50 from q) (by decide), fun ⟨i, hi, _⟩ => absurd hi (Nat.not_lt_zero i)⟩
  | succ n ih =>
    have e : lwI t (n + 1) = if t n < lwI t n then t n else lwI t n := rfl
    rw [e]
    by_cases c : t n < lwI t n
    · rw [if_pos c]
      constructor
      · exact fun q => ⟨n, by omega, q⟩
      · rintro ⟨i, hi, q⟩
        by_cases d : i = n
        · rw [d] at q; exact q
        · exact Int32.lt_trans c (ih.mpr ⟨i, by omega, q⟩)
    · rw [if_neg c]
      constructor
      · intro q
        obtain ⟨i, hi, z⟩ := ih.mp q
        exact ⟨i, by omega, z⟩
      · rintro ⟨i, hi, q⟩
        by_cases d : i = n
        · rw [d] at q; exact Int32.lt_of_le_of_lt (Int32.not_lt.mp c) q
        · exact ih.mpr ⟨i, by omega, q⟩
theorem bt_fin : ∀ i : Fin 150, lvOk (btL (Int32.ofInt ((i.val : Int) - 50))) := by decide +kernel
theorem bt_ok {x : Int32} (h1 : ¬ x < -50) (h2 : x < 100) : lvOk (btL x) := by
  rw [Int32.lt_iff_toInt_lt, show Int32.toInt (-50) = -50 from rfl] at h1
  rw [Int32.lt_iff_toInt_lt, show Int32.toInt 100 = 100 from rfl] at h2
  have e : x = Int32.ofInt ((((x.toInt + 50).toNat : Nat) : Int) - 50) := by
    rw [show (((x.toInt + 50).toNat : Nat) : Int) - 50 = x.toInt by omega]
    exact (Int32.ofInt_toInt x).symm
  have h := bt_fin ⟨(x.toInt + 50).toNat, by omega⟩
  rw [e]
  exact h
theorem bt_u (x : Int32) : (btL x).toUInt64 = FP.ddiv (FP.i2d x) 4621819117588971520 := by
  unfold btL
  simp
theorem bt_nn {x : Int32} (h : lvOk (btL x)) : vf_n64 (FP.ddiv (FP.i2d x) 4621819117588971520) := by
  rw [← bt_u]
  exact nu_n64 (nu_not (by have := nu_lv h; omega))
theorem td_eq {td : Nat → Int64} {re : Nat → UInt64} {t rd : Nat → Int32} {k : Nat} (htd : ∀ i, i < 24 → re (1 + i) = (td i).toUInt64 ∧ lvOk (td i)) (m : Nat) (hk : k + m ≤ 24) (hs : ∀ i, i < m → t i = rd i ∧ lvOk (btL (t i))) : (∀ i, i < 24 → mrtR re rd k m (1 + i) = (lp (fun i f => vp_updL f (k + i) (btL (t i))) m td i).toUInt64 ∧ lvOk (lp (fun i f => vp_updL f (k + i) (btL (t i))) m td i)) ∧ ∀ j, j = 0 ∨ 24 < j → mrtR re rd k m j = re j := by
  induction m with
  | zero => exact ⟨htd, fun j _ => rfl⟩
  | succ m ih =>
    obtain ⟨i1, i2⟩ := ih (by omega) (fun i hi => hs i (by omega))
    have h1 := hs m (by omega)
    have kk : ∀ j, j ≠ 1 + k + m → vf_upd (mrtR re rd k m) (1 + k + m) (FP.ddiv (FP.i2d (rd m)) 4621819117588971520) j = mrtR re rd k m j := fun j q => by unfold vf_upd; rw [if_neg q]
    rw [mrtR_s]
    refine ⟨fun i hi => ?_, fun j hj => ?_⟩
    · rw [lp_s]
      by_cases d : i = k + m
      · rw [d, show 1 + (k + m) = 1 + k + m by omega, z_uDs, pk_uLs, bt_u, h1.1]
        rw [h1.1] at h1
        exact ⟨rfl, h1.2⟩
      · rw [kk _ (by omega), pk_uLn d]
        exact i1 i hi
    · rw [kk _ (by omega)]
      exact i2 j hj
