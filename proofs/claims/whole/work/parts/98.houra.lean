/-! one hour keeps the two states alike -/
theorem upd_id {f : Nat → Int32} {k : Nat} : upd f k (f k) = f := by
  funext j
  by_cases q : j = k
  · rw [q, pk_us]
  · rw [pk_un q]

theorem SR_sec1 {v : SVT} {n n2 : Nat → Int64} {re : Nat → UInt64} (h : SR v n re) {i : Nat} {cc ll ss od2 : Int32} (hi : i < v_nS v) (kk : ∀ j, j ≠ 1 → j ≠ 2 → j ≠ 20 + 6 * i + 3 → j ≠ 20 + 6 * i + 4 → j ≠ 20 + 6 * i + 5 → n2 j = n j) (h1 : n2 1 = od2.toInt64) (hod : od2 = 0 ∨ od2 = 1 ∨ od2 = 2) (h2 : n2 2 = if mvN (upd (v_co v) i cc) (v_nS v) < v_nS v then lN (mvN (upd (v_co v) i cc) (v_nS v) + 1) else 0) (h3 : (n2 (20 + 6 * i + 3)).toInt32 = cc) (h4 : (n2 (20 + 6 * i + 4)).toInt32 = ll) (h5 : (n2 (20 + 6 * i + 5)).toInt32 = ss) (hcc : cc = 0 ∨ cc = 1 ∨ cc = 2 ∨ cc = 3 ∨ cc = 4) (hll : cc = 1 ∨ cc = 3 → 1 ≤ ll ∧ ll ≤ 6) (huu : cc = 1 ∨ cc = 3 → ∀ j, j < v_nS v → j ≠ i → ¬ (v_co v j = 1 ∨ v_co v j = 3)) : SR (v_nS v, v_wi v, v_cr v, v_ho v, v_li v, upd (v_co v) i cc, upd (v_le v) i ll, upd (v_cs v) i ss, v_nD v, v_we v, v_cl v, v_nT v, v_sw v, v_nP v, v_lim v, v_idl v, v_po v, v_pw v, v_on v, v_ra v, v_ar v, v_vo v, v_fi v, v_fo v, v_fv v, v_br v, v_pu v, v_td v, v_al v, v_h v, od2, v_cb v, v_dl v) n2 re := by
  obtain ⟨a, b, c, d, e, f, w, hsec, hinv, huni, hdis, hstr, hpum, hal, htd, hcr, h01⟩ := h
  have ha := a.1
  have hb := b.1
  have hc := c.1
  have hd := d.1
  exact ⟨⟨ha, (kk 7 (by omega) (by omega) (by omega) (by omega) (by omega)).trans a.2⟩,
    ⟨hb, (kk 8 (by omega) (by omega) (by omega) (by omega) (by omega)).trans b.2⟩,
    ⟨hc, (kk 9 (by omega) (by omega) (by omega) (by omega) (by omega)).trans c.2⟩,
    ⟨hd, (kk 10 (by omega) (by omega) (by omega) (by omega) (by omega)).trans d.2⟩,
    ⟨(kk 0 (by omega) (by omega) (by omega) (by omega) (by omega)).trans e.1, h1, hod, h2, by rw [kk 3 (by omega) (by omega) (by omega) (by omega) (by omega)]; exact e.2.2.2.2.1, by rw [kk 4 (by omega) (by omega) (by omega) (by omega) (by omega)]; exact e.2.2.2.2.2⟩,
    ⟨(kk 5 (by omega) (by omega) (by omega) (by omega) (by omega)).trans f.1, f.2.1, (kk 6 (by omega) (by omega) (by omega) (by omega) (by omega)).trans f.2.2.1, by rw [kk 11 (by omega) (by omega) (by omega) (by omega) (by omega)]; exact f.2.2.2⟩,
    ⟨(kk 12 (by omega) (by omega) (by omega) (by omega) (by omega)).trans w.1, (kk 13 (by omega) (by omega) (by omega) (by omega) (by omega)).trans w.2.1, (kk 14 (by omega) (by omega) (by omega) (by omega) (by omega)).trans w.2.2.1, (kk 15 (by omega) (by omega) (by omega) (by omega) (by omega)).trans w.2.2.2.1, (kk 16 (by omega) (by omega) (by omega) (by omega) (by omega)).trans w.2.2.2.2.1, (kk 17 (by omega) (by omega) (by omega) (by omega) (by omega)).trans w.2.2.2.2.2⟩,
    fun k hk => by
    have hk : k < v_nS v := hk
    have h1 := hsec k hk
    show _ = v_wi v k ∧ _ = v_ho v k ∧ _ = v_li v k ∧ _ = upd (v_co v) i cc k ∧ _ = upd (v_le v) i ll k ∧ _ = upd (v_cs v) i ss k
    by_cases q : k = i
    · subst q
      rw [pk_us, pk_us, pk_us, kk (20 + 6 * k + 0) (by omega) (by omega) (by omega) (by omega) (by omega), kk (20 + 6 * k + 1) (by omega) (by omega) (by omega) (by omega) (by omega), kk (20 + 6 * k + 2) (by omega) (by omega) (by omega) (by omega) (by omega)]
      exact ⟨h1.1, h1.2.1, h1.2.2.1, h3, h4, h5⟩
    · rw [pk_un q, pk_un q, pk_un q, kk (20 + 6 * k + 0) (by omega) (by omega) (by omega) (by omega) (by omega), kk (20 + 6 * k + 1) (by omega) (by omega) (by omega) (by omega) (by omega), kk (20 + 6 * k + 2) (by omega) (by omega) (by omega) (by omega) (by omega), kk (20 + 6 * k + 3) (by omega) (by omega) (by omega) (by omega) (by omega), kk (20 + 6 * k + 4) (by omega) (by omega) (by omega) (by omega) (by omega), kk (20 + 6 * k + 5) (by omega) (by omega) (by omega) (by omega) (by omega)]
      exact h1,
    fun k hk => by
    have hk : k < v_nS v := hk
    have h1 := hinv k hk
    show (1 ≤ v_wi v k ∧ v_wi v k ≤ 50) ∧ (1 ≤ v_ho v k ∧ v_ho v k ≤ 6) ∧ (upd (v_co v) i cc k = 0 ∨ upd (v_co v) i cc k = 1 ∨ upd (v_co v) i cc k = 2 ∨ upd (v_co v) i cc k = 3 ∨ upd (v_co v) i cc k = 4) ∧ (upd (v_co v) i cc k = 1 ∨ upd (v_co v) i cc k = 3 → 1 ≤ upd (v_le v) i ll k ∧ upd (v_le v) i ll k ≤ 6)
    by_cases q : k = i
    · subst q
      rw [pk_us, pk_us]
      exact ⟨h1.1, h1.2.1, hcc, hll⟩
    · rw [pk_un q, pk_un q]
      exact h1,
    fun k j hk hj q1 q2 => by
    have hk : k < v_nS v := hk
    have hj : j < v_nS v := hj
    have q1 : upd (v_co v) i cc k = 1 ∨ upd (v_co v) i cc k = 3 := q1
    have q2 : upd (v_co v) i cc j = 1 ∨ upd (v_co v) i cc j = 3 := q2
    by_cases d1 : k = i
    · by_cases d2 : j = i
      · rw [d1, d2]
      · rw [d1, pk_us] at q1
        rw [pk_un d2] at q2
        exact (huu q1 j hj d2 q2).elim
    · by_cases d2 : j = i
      · rw [d2, pk_us] at q2
        rw [pk_un d1] at q1
        exact (huu q2 k hk d1 q1).elim
      · rw [pk_un d1] at q1
        rw [pk_un d2] at q2
        exact huni k j hk hj q1 q2,
    fun k hk => by have hk : k < v_nD v := hk; rw [kk (68 + 2 * k) (by omega) (by omega) (by omega) (by omega) (by omega), kk (68 + 2 * k + 1) (by omega) (by omega) (by omega) (by omega) (by omega)]; exact hdis k hk,
    fun k hk => by have hk : k < v_nT v := hk; rw [kk (80 + k) (by omega) (by omega) (by omega) (by omega) (by omega)]; exact hstr k hk,
    fun k hk => by have hk : k < v_nP v := hk; rw [kk (84 + 4 * k + 0) (by omega) (by omega) (by omega) (by omega) (by omega), kk (84 + 4 * k + 1) (by omega) (by omega) (by omega) (by omega) (by omega), kk (84 + 4 * k + 2) (by omega) (by omega) (by omega) (by omega) (by omega), kk (84 + 4 * k + 3) (by omega) (by omega) (by omega) (by omega) (by omega)]; exact hpum k hk,
    hal,
    htd,
    hcr,
    h01⟩

theorem SR_ord {v : SVT} {n n2 : Nat → Int64} {re : Nat → UInt64} (h : SR v n re) {od2 : Int32} (kk : ∀ j, j ≠ 1 → n2 j = n j) (h1 : n2 1 = od2.toInt64) (hod : od2 = 0 ∨ od2 = 1 ∨ od2 = 2) : SR (v_nS v, v_wi v, v_cr v, v_ho v, v_li v, v_co v, v_le v, v_cs v, v_nD v, v_we v, v_cl v, v_nT v, v_sw v, v_nP v, v_lim v, v_idl v, v_po v, v_pw v, v_on v, v_ra v, v_ar v, v_vo v, v_fi v, v_fo v, v_fv v, v_br v, v_pu v, v_td v, v_al v, v_h v, od2, v_cb v, v_dl v) n2 re := by
  obtain ⟨a, b, c, d, e, f, w, hsec, hinv, huni, hdis, hstr, hpum, hal, htd, hcr, h01⟩ := h
  have ha := a.1
  have hb := b.1
  have hc := c.1
  have hd := d.1
  exact ⟨⟨ha, (kk 7 (by omega)).trans a.2⟩,
    ⟨hb, (kk 8 (by omega)).trans b.2⟩,
    ⟨hc, (kk 9 (by omega)).trans c.2⟩,
    ⟨hd, (kk 10 (by omega)).trans d.2⟩,
    ⟨(kk 0 (by omega)).trans e.1, h1, hod, (kk 2 (by omega)).trans e.2.2.2.1, by rw [kk 3 (by omega)]; exact e.2.2.2.2.1, by rw [kk 4 (by omega)]; exact e.2.2.2.2.2⟩,
    ⟨(kk 5 (by omega)).trans f.1, f.2.1, (kk 6 (by omega)).trans f.2.2.1, by rw [kk 11 (by omega)]; exact f.2.2.2⟩,
    ⟨(kk 12 (by omega)).trans w.1, (kk 13 (by omega)).trans w.2.1, (kk 14 (by omega)).trans w.2.2.1, (kk 15 (by omega)).trans w.2.2.2.1, (kk 16 (by omega)).trans w.2.2.2.2.1, (kk 17 (by omega)).trans w.2.2.2.2.2⟩,
    fun k hk => by have hk : k < v_nS v := hk; rw [kk (20 + 6 * k + 0) (by omega), kk (20 + 6 * k + 1) (by omega), kk (20 + 6 * k + 2) (by omega), kk (20 + 6 * k + 3) (by omega), kk (20 + 6 * k + 4) (by omega), kk (20 + 6 * k + 5) (by omega)]; exact hsec k hk,
    hinv,
    huni,
    fun k hk => by have hk : k < v_nD v := hk; rw [kk (68 + 2 * k) (by omega), kk (68 + 2 * k + 1) (by omega)]; exact hdis k hk,
    fun k hk => by have hk : k < v_nT v := hk; rw [kk (80 + k) (by omega)]; exact hstr k hk,
    fun k hk => by have hk : k < v_nP v := hk; rw [kk (84 + 4 * k + 0) (by omega), kk (84 + 4 * k + 1) (by omega), kk (84 + 4 * k + 2) (by omega), kk (84 + 4 * k + 3) (by omega)]; exact hpum k hk,
    hal,
    htd,
    hcr,
    h01⟩

theorem SR_water {v : SVT} {n n2 : Nat → Int64} {re : Nat → UInt64} (h : SR v n re) {vo2 fi2 fo2 fv2 br2 : Int64} (kk : ∀ j, j < 12 ∨ 16 < j → n2 j = n j) (h12 : n2 12 = vo2) (h13 : n2 13 = fi2) (h14 : n2 14 = fo2) (h15 : n2 15 = fv2) (h16 : n2 16 = br2) : SR (v_nS v, v_wi v, v_cr v, v_ho v, v_li v, v_co v, v_le v, v_cs v, v_nD v, v_we v, v_cl v, v_nT v, v_sw v, v_nP v, v_lim v, v_idl v, v_po v, v_pw v, v_on v, v_ra v, v_ar v, vo2, fi2, fo2, fv2, br2, v_pu v, v_td v, v_al v, v_h v, v_od v, v_cb v, v_dl v) n2 re := by
  obtain ⟨a, b, c, d, e, f, w, hsec, hinv, huni, hdis, hstr, hpum, hal, htd, hcr, h01⟩ := h
  have ha := a.1
  have hb := b.1
  have hc := c.1
  have hd := d.1
  exact ⟨⟨ha, (kk 7 (by omega)).trans a.2⟩,
    ⟨hb, (kk 8 (by omega)).trans b.2⟩,
    ⟨hc, (kk 9 (by omega)).trans c.2⟩,
    ⟨hd, (kk 10 (by omega)).trans d.2⟩,
    ⟨(kk 0 (by omega)).trans e.1, (kk 1 (by omega)).trans e.2.1, e.2.2.1, (kk 2 (by omega)).trans e.2.2.2.1, by rw [kk 3 (by omega)]; exact e.2.2.2.2.1, by rw [kk 4 (by omega)]; exact e.2.2.2.2.2⟩,
    ⟨(kk 5 (by omega)).trans f.1, f.2.1, (kk 6 (by omega)).trans f.2.2.1, by rw [kk 11 (by omega)]; exact f.2.2.2⟩,
    ⟨h12, h13, h14, h15, h16, (kk 17 (by omega)).trans w.2.2.2.2.2⟩,
    fun k hk => by have hk : k < v_nS v := hk; rw [kk (20 + 6 * k + 0) (by omega), kk (20 + 6 * k + 1) (by omega), kk (20 + 6 * k + 2) (by omega), kk (20 + 6 * k + 3) (by omega), kk (20 + 6 * k + 4) (by omega), kk (20 + 6 * k + 5) (by omega)]; exact hsec k hk,
    hinv,
    huni,
    fun k hk => by have hk : k < v_nD v := hk; rw [kk (68 + 2 * k) (by omega), kk (68 + 2 * k + 1) (by omega)]; exact hdis k hk,
    fun k hk => by have hk : k < v_nT v := hk; rw [kk (80 + k) (by omega)]; exact hstr k hk,
    fun k hk => by have hk : k < v_nP v := hk; rw [kk (84 + 4 * k + 0) (by omega), kk (84 + 4 * k + 1) (by omega), kk (84 + 4 * k + 2) (by omega), kk (84 + 4 * k + 3) (by omega)]; exact hpum k hk,
    hal,
    htd,
    hcr,
    h01⟩

theorem SR_pumped {v : SVT} {n n2 : Nat → Int64} {re : Nat → UInt64} (h : SR v n re) {vo2 pu2 : Int64} {id2 : Int32} {ra2 : Nat → Int32} (kk : ∀ j, j ≠ 11 → j ≠ 12 → j ≠ 17 → (∀ i, i < v_nP v → j ≠ 84 + 4 * i + 3) → n2 j = n j) (h11 : (n2 11).toInt32 = id2) (h12 : n2 12 = vo2) (h17 : n2 17 = pu2) (hra : ∀ i, i < v_nP v → (n2 (84 + 4 * i + 3)).toInt32 = ra2 i) : SR (v_nS v, v_wi v, v_cr v, v_ho v, v_li v, v_co v, v_le v, v_cs v, v_nD v, v_we v, v_cl v, v_nT v, v_sw v, v_nP v, v_lim v, id2, v_po v, v_pw v, v_on v, ra2, v_ar v, vo2, v_fi v, v_fo v, v_fv v, v_br v, pu2, v_td v, v_al v, v_h v, v_od v, v_cb v, v_dl v) n2 re := by
  obtain ⟨a, b, c, d, e, f, w, hsec, hinv, huni, hdis, hstr, hpum, hal, htd, hcr, h01⟩ := h
  have ha := a.1
  have hb := b.1
  have hc := c.1
  have hd := d.1
  exact ⟨⟨ha, (kk 7 (by omega) (by omega) (by omega) (fun i hi => by omega)).trans a.2⟩,
    ⟨hb, (kk 8 (by omega) (by omega) (by omega) (fun i hi => by omega)).trans b.2⟩,
    ⟨hc, (kk 9 (by omega) (by omega) (by omega) (fun i hi => by omega)).trans c.2⟩,
    ⟨hd, (kk 10 (by omega) (by omega) (by omega) (fun i hi => by omega)).trans d.2⟩,
    ⟨(kk 0 (by omega) (by omega) (by omega) (fun i hi => by omega)).trans e.1, (kk 1 (by omega) (by omega) (by omega) (fun i hi => by omega)).trans e.2.1, e.2.2.1, (kk 2 (by omega) (by omega) (by omega) (fun i hi => by omega)).trans e.2.2.2.1, by rw [kk 3 (by omega) (by omega) (by omega) (fun i hi => by omega)]; exact e.2.2.2.2.1, by rw [kk 4 (by omega) (by omega) (by omega) (fun i hi => by omega)]; exact e.2.2.2.2.2⟩,
    ⟨(kk 5 (by omega) (by omega) (by omega) (fun i hi => by omega)).trans f.1, f.2.1, (kk 6 (by omega) (by omega) (by omega) (fun i hi => by omega)).trans f.2.2.1, h11⟩,
    ⟨h12, (kk 13 (by omega) (by omega) (by omega) (fun i hi => by omega)).trans w.2.1, (kk 14 (by omega) (by omega) (by omega) (fun i hi => by omega)).trans w.2.2.1, (kk 15 (by omega) (by omega) (by omega) (fun i hi => by omega)).trans w.2.2.2.1, (kk 16 (by omega) (by omega) (by omega) (fun i hi => by omega)).trans w.2.2.2.2.1, h17⟩,
    fun k hk => by have hk : k < v_nS v := hk; rw [kk (20 + 6 * k + 0) (by omega) (by omega) (by omega) (fun i hi => by omega), kk (20 + 6 * k + 1) (by omega) (by omega) (by omega) (fun i hi => by omega), kk (20 + 6 * k + 2) (by omega) (by omega) (by omega) (fun i hi => by omega), kk (20 + 6 * k + 3) (by omega) (by omega) (by omega) (fun i hi => by omega), kk (20 + 6 * k + 4) (by omega) (by omega) (by omega) (fun i hi => by omega), kk (20 + 6 * k + 5) (by omega) (by omega) (by omega) (fun i hi => by omega)]; exact hsec k hk,
    hinv,
    huni,
    fun k hk => by have hk : k < v_nD v := hk; rw [kk (68 + 2 * k) (by omega) (by omega) (by omega) (fun i hi => by omega), kk (68 + 2 * k + 1) (by omega) (by omega) (by omega) (fun i hi => by omega)]; exact hdis k hk,
    fun k hk => by have hk : k < v_nT v := hk; rw [kk (80 + k) (by omega) (by omega) (by omega) (fun i hi => by omega)]; exact hstr k hk,
    fun k hk => by have hk : k < v_nP v := hk; have z := hpum k hk; rw [kk (84 + 4 * k + 0) (by omega) (by omega) (by omega) (fun i hi => by omega), kk (84 + 4 * k + 1) (by omega) (by omega) (by omega) (fun i hi => by omega), kk (84 + 4 * k + 2) (by omega) (by omega) (by omega) (fun i hi => by omega)]; exact ⟨z.1, z.2.1, z.2.2.1, hra k hk⟩,
    hal,
    htd,
    hcr,
    h01⟩

theorem SR_hour1 {v : SVT} {n n2 : Nat → Int64} {re : Nat → UInt64} (h : SR v n re)  (kk : ∀ j, j ≠ 0 → n2 j = n j) (h0 : n2 0 = n 0 + 1) : SR (v_nS v, v_wi v, v_cr v, v_ho v, v_li v, v_co v, v_le v, v_cs v, v_nD v, v_we v, v_cl v, v_nT v, v_sw v, v_nP v, v_lim v, v_idl v, v_po v, v_pw v, v_on v, v_ra v, v_ar v, v_vo v, v_fi v, v_fo v, v_fv v, v_br v, v_pu v, v_td v, v_al v, v_h v + 1, v_od v, v_cb v, v_dl v) n2 re := by
  obtain ⟨a, b, c, d, e, f, w, hsec, hinv, huni, hdis, hstr, hpum, hal, htd, hcr, h01⟩ := h
  have ha := a.1
  have hb := b.1
  have hc := c.1
  have hd := d.1
  exact ⟨⟨ha, (kk 7 (by omega)).trans a.2⟩,
    ⟨hb, (kk 8 (by omega)).trans b.2⟩,
    ⟨hc, (kk 9 (by omega)).trans c.2⟩,
    ⟨hd, (kk 10 (by omega)).trans d.2⟩,
    ⟨by rw [h0, e.1]; exact lN_1 _, (kk 1 (by omega)).trans e.2.1, e.2.2.1, (kk 2 (by omega)).trans e.2.2.2.1, by rw [kk 3 (by omega)]; exact e.2.2.2.2.1, by rw [kk 4 (by omega)]; exact e.2.2.2.2.2⟩,
    ⟨(kk 5 (by omega)).trans f.1, f.2.1, (kk 6 (by omega)).trans f.2.2.1, by rw [kk 11 (by omega)]; exact f.2.2.2⟩,
    ⟨(kk 12 (by omega)).trans w.1, (kk 13 (by omega)).trans w.2.1, (kk 14 (by omega)).trans w.2.2.1, (kk 15 (by omega)).trans w.2.2.2.1, (kk 16 (by omega)).trans w.2.2.2.2.1, (kk 17 (by omega)).trans w.2.2.2.2.2⟩,
    fun k hk => by have hk : k < v_nS v := hk; rw [kk (20 + 6 * k + 0) (by omega), kk (20 + 6 * k + 1) (by omega), kk (20 + 6 * k + 2) (by omega), kk (20 + 6 * k + 3) (by omega), kk (20 + 6 * k + 4) (by omega), kk (20 + 6 * k + 5) (by omega)]; exact hsec k hk,
    hinv,
    huni,
    fun k hk => by have hk : k < v_nD v := hk; rw [kk (68 + 2 * k) (by omega), kk (68 + 2 * k + 1) (by omega)]; exact hdis k hk,
    fun k hk => by have hk : k < v_nT v := hk; rw [kk (80 + k) (by omega)]; exact hstr k hk,
    fun k hk => by have hk : k < v_nP v := hk; rw [kk (84 + 4 * k + 0) (by omega), kk (84 + 4 * k + 1) (by omega), kk (84 + 4 * k + 2) (by omega), kk (84 + 4 * k + 3) (by omega)]; exact hpum k hk,
    hal,
    htd,
    hcr,
    h01⟩
