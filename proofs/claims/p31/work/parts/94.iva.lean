/-! acts keep what holds of every state -/
theorem os_i {x lo hi : Int32} (h : ¬ osP x lo hi) : lo.toInt ≤ x.toInt ∧ x.toInt ≤ hi.toInt := by
  have h1 : ¬ x < lo := fun q => h (Or.inl q)
  have h2 : ¬ hi < x := fun q => h (Or.inr q)
  rw [Int32.lt_iff_toInt_lt] at h1 h2
  omega
theorem os_n {a lo hi : Nat} (h : lo ≤ a ∧ a ≤ hi) (hh : hi < 2 ^ 31) : ¬ osP (nI a) (nI lo) (nI hi) := by
  rintro (q | q)
  · rw [Int32.lt_iff_toInt_lt, nI_toInt (by omega), nI_toInt (by omega)] at q; omega
  · rw [Int32.lt_iff_toInt_lt, nI_toInt (by omega), nI_toInt (by omega)] at q; omega
theorem iv_addSection {v : SVT} {T : Nat} (h : IV v T) {x z w : Int32} {y : Int64} (hn : ¬ 8 ≤ v_nS v) (hx : ¬ osP x 1 50) (hy : crS y) (hz : ¬ osP z 1 6) (hw : ¬ osP w 1 20) : IV (nv_addSection_b v x y z w) T := by
  obtain ⟨⟨a1, a2, a3, a4⟩, b, c, d, ⟨e1, e2, e3⟩, ⟨f1, f2, f3⟩, g⟩ := h
  have hxi : (1 : Int) ≤ x.toInt ∧ x.toInt ≤ 50 := os_i hx
  have hzi : (1 : Int) ≤ z.toInt ∧ z.toInt ≤ 6 := os_i hz
  have hwi : (1 : Int) ≤ w.toInt ∧ w.toInt ≤ 20 := os_i hw
  refine ⟨⟨?_, a2, a3, a4⟩, b, c, d, ⟨e1, e2, ?_⟩, ⟨?_, ?_, ?_⟩, g⟩
  · show v_nS v + 1 ≤ 8
    omega
  · intro k hk
    have hk : k < v_nS v + 1 := hk
    show crS (vp_updL (v_cr v) (v_nS v) y k)
    by_cases q : k = v_nS v
    · subst q; rw [pk_uLs]; exact hy
    · rw [pk_uLn q]; exact e3 k (by omega)
  · intro k hk
    have hk : k < v_nS v + 1 := hk
    show 1 ≤ upd (v_wi v) (v_nS v) x k ∧ upd (v_wi v) (v_nS v) x k ≤ 50
    by_cases q : k = v_nS v
    · subst q; rw [pk_us, Int32.le_iff_toInt_le, Int32.le_iff_toInt_le]; exact hxi
    · rw [pk_un q]; exact f1 k (by omega)
  · intro k hk
    have hk : k < v_nS v + 1 := hk
    show s1I (upd (v_ho v) (v_nS v) z k) (upd (v_li v) (v_nS v) w k) (upd (v_co v) (v_nS v) 0 k) (upd (v_le v) (v_nS v) 0 k) (upd (v_cs v) (v_nS v) 0 k)
    by_cases q : k = v_nS v
    · subst q
      rw [pk_us, pk_us, pk_us, pk_us, pk_us]
      exact ⟨hzi, hwi, ⟨by decide, (by show (0 : Int) ≤ w.toInt; omega)⟩, Or.inl rfl, fun q => absurd q (by decide), fun q => absurd q (by decide), fun q => absurd q (by decide), fun q => absurd q (by decide)⟩
    · rw [pk_un q, pk_un q, pk_un q, pk_un q, pk_un q]; exact f2 k (by omega)
  · intro i j hi hj h1 h2
    have hi : i < v_nS v + 1 := hi
    have hj : j < v_nS v + 1 := hj
    have h1 : upd (v_co v) (v_nS v) 0 i = 1 ∨ upd (v_co v) (v_nS v) 0 i = 3 := h1
    have h2 : upd (v_co v) (v_nS v) 0 j = 1 ∨ upd (v_co v) (v_nS v) 0 j = 3 := h2
    by_cases qi : i = v_nS v
    · rw [qi, pk_us] at h1; exact absurd h1 (by decide)
    · by_cases qj : j = v_nS v
      · rw [qj, pk_us] at h2; exact absurd h2 (by decide)
      · rw [pk_un qi] at h1
        rw [pk_un qj] at h2
        exact f3 i j (by omega) (by omega) h1 h2
theorem u01 {f : Nat → Int32} {n : Nat} {x : Int32} (h : ∀ i, i < 6 → f i = 0 ∨ f i = 1) (hx : x = 0 ∨ x = 1) : ∀ i, i < 6 → upd f n x i = 0 ∨ upd f n x i = 1 := by
  intro i hi
  by_cases q : i = n
  · subst q; rw [pk_us]; exact hx
  · rw [pk_un q]; exact h i hi
theorem iv_addDistrict {v : SVT} {T : Nat} (h : IV v T) {x : Int32} (hn : ¬ 6 ≤ v_nD v) (hx : ¬ osP x 1 99) : IV (nv_addDistrict_b v x) T := by
  obtain ⟨⟨a1, a2, a3, a4⟩, b, c, d, e, f, g1, g⟩ := h
  have hxi : (1 : Int) ≤ x.toInt ∧ x.toInt ≤ 99 := os_i hx
  refine ⟨⟨a1, ?_, a3, a4⟩, ⟨u01 b.1 (Or.inl rfl), b.2⟩, c, d, e, f, ?_, g⟩
  · show v_nD v + 1 ≤ 6
    omega
  · intro k hk
    have hk : k < v_nD v + 1 := hk
    show 1 ≤ (upd (v_we v) (v_nD v) x k).toInt ∧ (upd (v_we v) (v_nD v) x k).toInt ≤ 99
    by_cases q : k = v_nD v
    · subst q; rw [pk_us]; exact hxi
    · rw [pk_un q]; exact g1 k (by omega)
theorem iv_addStream {v : SVT} {T : Nat} (h : IV v T) {x : Int32} (hn : ¬ 4 ≤ v_nT v) (hx : ¬ osP x 0 99999) : IV (nv_addStream_b v x) T := by
  obtain ⟨⟨a1, a2, a3, a4⟩, b, c, d, e, f, g1, g2, g⟩ := h
  have hxi : (0 : Int) ≤ x.toInt ∧ x.toInt ≤ 99999 := os_i hx
  refine ⟨⟨a1, a2, ?_, a4⟩, b, c, d, e, f, g1, ?_, g⟩
  · show v_nT v + 1 ≤ 4
    omega
  · intro k hk
    have hk : k < v_nT v + 1 := hk
    show 0 ≤ (upd (v_sw v) (v_nT v) x k).toInt ∧ (upd (v_sw v) (v_nT v) x k).toInt ≤ 99999
    by_cases q : k = v_nT v
    · subst q; rw [pk_us]; exact hxi
    · rw [pk_un q]; exact g2 k (by omega)
theorem iv_setStream {v : SVT} {T : Nat} (h : IV v T) {i : Nat} {x : Int32} (hx : ¬ osP x 0 99999) : IV (nv_setStream_b v i x) T := by
  obtain ⟨a, b, c, d, e, f, g1, g2, g⟩ := h
  have hxi : (0 : Int) ≤ x.toInt ∧ x.toInt ≤ 99999 := os_i hx
  refine ⟨a, b, c, d, e, f, g1, ?_, g⟩
  intro k hk
  show 0 ≤ (upd (v_sw v) i x k).toInt ∧ (upd (v_sw v) i x k).toInt ≤ 99999
  by_cases q : k = i
  · subst q; rw [pk_us]; exact hxi
  · rw [pk_un q]; exact g2 k hk
theorem iv_addPump {v : SVT} {T : Nat} (h : IV v T) {x y : Int32} (hn : ¬ 6 ≤ v_nP v) (hx : ¬ osP x 1 99) (hy : ¬ osP y 1 99999) : IV (nv_addPump_b v x y) T := by
  obtain ⟨⟨a1, a2, a3, a4⟩, b, c, d, e, f, g1, g2, g3, g4, g⟩ := h
  have hxi : (1 : Int) ≤ x.toInt ∧ x.toInt ≤ 99 := os_i hx
  have hyi : (1 : Int) ≤ y.toInt ∧ y.toInt ≤ 99999 := os_i hy
  refine ⟨⟨a1, a2, a3, ?_⟩, ⟨b.1, u01 b.2 (Or.inl rfl)⟩, c, d, e, f, g1, g2, ?_, ⟨g4.1, g4.2.1, ?_⟩, g⟩
  · show v_nP v + 1 ≤ 6
    omega
  · intro k hk
    have hk : k < v_nP v + 1 := hk
    show (1 ≤ (upd (v_po v) (v_nP v) x k).toInt ∧ (upd (v_po v) (v_nP v) x k).toInt ≤ 99) ∧ (1 ≤ (upd (v_pw v) (v_nP v) y k).toInt ∧ (upd (v_pw v) (v_nP v) y k).toInt ≤ 99999) ∧ 0 ≤ (upd (v_ra v) (v_nP v) 0 k).toInt ∧ (upd (v_ra v) (v_nP v) 0 k).toInt ≤ (v_h v : Int)
    by_cases q : k = v_nP v
    · subst q
      rw [pk_us, pk_us, pk_us]
      exact ⟨hxi, hyi, by decide, (by show (0 : Int) ≤ _; omega)⟩
    · rw [pk_un q, pk_un q, pk_un q]; exact g3 k (by omega)
  · have := g4.2.2
    show (v_idl v).toInt ≤ ((v_nP v + 1 : Nat) : Int)
    omega
theorem iv_switchPump {v : SVT} {T : Nat} (h : IV v T) {i : Nat} {x : Int32} (hx : x = 0 ∨ x = 1) : IV (nv_switchPump_b v i x) T := by
  obtain ⟨a, b, g⟩ := h
  exact ⟨a, ⟨b.1, u01 b.2 hx⟩, g⟩
theorem iv_vote {v : SVT} {T : Nat} (h : IV v T) {i : Nat} {x : Int32} (hx : x = 0 ∨ x = 1) : IV (nv_vote_b v i x) T := by
  obtain ⟨a, b, g⟩ := h
  exact ⟨a, ⟨u01 b.1 hx, b.2⟩, g⟩
theorem iv_setAlarm {v : SVT} {T : Nat} (h : IV v T) {y : Int64} (hy : lvS y) : IV (nv_setAlarm_b v y) T := by
  obtain ⟨a, b, c, d, e, g⟩ := h
  exact ⟨a, b, c, d, ⟨hy, e.2⟩, g⟩
theorem iv_setTide {v : SVT} {T : Nat} (h : IV v T) {i : Nat} {y : Int64} (hy : lvS y) : IV (nv_setTide_b v i y) T := by
  obtain ⟨a, b, c, d, ⟨e1, e2, e3⟩, g⟩ := h
  refine ⟨a, b, c, d, ⟨e1, ?_, e3⟩, g⟩
  intro k hk
  show lvS (vp_updL (v_td v) i y k)
  by_cases q : k = i
  · subst q; rw [pk_uLs]; exact hy
  · rw [pk_uLn q]; exact e2 k hk
theorem iv_close {v : SVT} {T : Nat} (h : IV v T) (hT : T ≤ 100) : IV (nv_close_b v) (T + 1) := by
  obtain ⟨a, b, c, d, e, f, g1, g2, g3, g4, g5, g6, g7⟩ := h
  refine ⟨a, b, c, Or.inr (Or.inl rfl), e, f, g1, g2, g3, g4, ?_, g6, ?_⟩
  · have e1 : (v_cb v + 1).toInt = (v_cb v).toInt + 1 := by
      rw [Int32.toInt_add]
      exact Int.bmod_eq_of_le (by show _ ≤ (v_cb v).toInt + 1; omega) (by show (v_cb v).toInt + 1 < _; omega)
    have e2 : (v_dl v + 1).toInt = (v_dl v).toInt + 1 := by
      rw [Int32.toInt_add]
      exact Int.bmod_eq_of_le (by show _ ≤ (v_dl v).toInt + 1; omega) (by show (v_dl v).toInt + 1 < _; omega)
    have key : ∀ d2 : Int32, d2 = v_dl v ∨ d2 = v_dl v + 1 → 0 ≤ d2.toInt ∧ d2.toInt ≤ (v_cb v + 1).toInt ∧ (v_cb v + 1).toInt ≤ ((T + 1 : Nat) : Int) := by
      rintro d2 (rfl | rfl)
      · rw [e1]; omega
      · rw [e1, e2]; omega
    refine key _ ?_
    show (if 0 ≤ Op.cmpValue (FP.dcmp (v_td v (v_h v % 24)).toUInt64 (v_al v).toUInt64) CmpOp.g then v_dl v else v_dl v + 1) = v_dl v ∨ (if 0 ≤ Op.cmpValue (FP.dcmp (v_td v (v_h v % 24)).toUInt64 (v_al v).toUInt64) CmpOp.g then v_dl v else v_dl v + 1) = v_dl v + 1
    by_cases q : 0 ≤ Op.cmpValue (FP.dcmp (v_td v (v_h v % 24)).toUInt64 (v_al v).toUInt64) CmpOp.g
    · rw [if_pos q]; exact Or.inl rfl
    · rw [if_neg q]; exact Or.inr rfl
  · show v_h v ≤ 14 * (T + 1)
    omega
theorem iv_open {v : SVT} {T : Nat} (h : IV v T) : IV (nv_open_b v) T := by
  obtain ⟨a, b, c, d, g⟩ := h
  exact ⟨a, b, c, Or.inr (Or.inr rfl), g⟩
theorem iv_service {v : SVT} {T : Nat} (h : IV v T) {i : Nat} : IV (nv_service_b v i) T := by
  obtain ⟨a, b, c, d, e, ⟨f1, f2, f3⟩, g⟩ := h
  refine ⟨a, b, c, d, e, ⟨f1, ?_, ?_⟩, g⟩
  · intro k hk
    show s1I (v_ho v k) (v_li v k) (upd (v_co v) i 0 k) (v_le v k) (upd (v_cs v) i 0 k)
    by_cases q : k = i
    · subst q
      rw [pk_us, pk_us]
      have h := f2 k hk
      exact ⟨h.1, h.2.1, ⟨by decide, (by show (0 : Int) ≤ _; have := h.2.1; omega)⟩, Or.inl rfl, fun q => absurd q (by decide), fun q => absurd q (by decide), fun q => absurd q (by decide), fun q => absurd q (by decide)⟩
    · rw [pk_un q, pk_un q]; exact f2 k hk
  · intro a b ha hb h1 h2
    have h1 : upd (v_co v) i 0 a = 1 ∨ upd (v_co v) i 0 a = 3 := h1
    have h2 : upd (v_co v) i 0 b = 1 ∨ upd (v_co v) i 0 b = 3 := h2
    by_cases qi : a = i
    · rw [qi, pk_us] at h1; exact absurd h1 (by decide)
    · by_cases qj : b = i
      · rw [qj, pk_us] at h2; exact absurd h2 (by decide)
      · rw [pk_un qi] at h1
        rw [pk_un qj] at h2
        exact f3 a b ha hb h1 h2
theorem iv_set0 {v : SVT} {T : Nat} (h : IV v T) {y : Int32} (hy : ¬ osP y 1000 1000000) : IV (nv_set_b0 v y) T := by
  obtain ⟨a, b, c, g⟩ := h
  have hyi : (1000 : Int) ≤ y.toInt ∧ y.toInt ≤ 1000000 := os_i hy
  exact ⟨a, b, ⟨Int32.le_iff_toInt_le.mpr hyi.1, Int32.le_iff_toInt_le.mpr hyi.2⟩, g⟩
theorem iv_set1 {v : SVT} {T : Nat} (h : IV v T) {y : Int32} (hy : ¬ osP y 0 600) : IV (nv_set_b1 v y) T := by
  obtain ⟨a, b, c, d, e, f, g1, g2, g3, g4, g⟩ := h
  have hyi : (0 : Int) ≤ y.toInt ∧ y.toInt ≤ 600 := os_i hy
  exact ⟨a, b, c, d, e, f, g1, g2, g3, ⟨hyi, g4.2⟩, g⟩
