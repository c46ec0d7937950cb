/-! the relation of the two sides: cells beyond the rows do not matter; the ring and the history -/
theorem SR_c {v : SVT} {n n2 : Nat → Int64} {re re2 : Nat → UInt64} (h : SR v n re) (hn : ∀ j, j < 108 → n2 j = n j) (hr : ∀ j, j < 33 → re2 j = re j) : SR v n2 re2 := by
  obtain ⟨a, b, c, d, e, f, w, hsec, hinv, huni, hdis, hstr, hpum, hal, htd, hcr, h01⟩ := h
  have ha := a.1
  have hb := b.1
  have hc := c.1
  have hd := d.1
  refine ⟨⟨ha, (hn 7 (by omega)).trans a.2⟩, ⟨hb, (hn 8 (by omega)).trans b.2⟩, ⟨hc, (hn 9 (by omega)).trans c.2⟩, ⟨hd, (hn 10 (by omega)).trans d.2⟩, ⟨(hn 0 (by omega)).trans e.1, (hn 1 (by omega)).trans e.2.1, e.2.2.1, (hn 2 (by omega)).trans e.2.2.2.1, by rw [hn 3 (by omega)]; exact e.2.2.2.2.1, by rw [hn 4 (by omega)]; exact e.2.2.2.2.2⟩, ⟨(hn 5 (by omega)).trans f.1, f.2.1, (hn 6 (by omega)).trans f.2.2.1, by rw [hn 11 (by omega)]; exact f.2.2.2⟩, ⟨(hn 12 (by omega)).trans w.1, (hn 13 (by omega)).trans w.2.1, (hn 14 (by omega)).trans w.2.2.1, (hn 15 (by omega)).trans w.2.2.2.1, (hn 16 (by omega)).trans w.2.2.2.2.1, (hn 17 (by omega)).trans w.2.2.2.2.2⟩, fun k hk => ?_, hinv, huni, fun k hk => ?_, fun k hk => ?_, fun k hk => ?_, ⟨(hr 0 (by omega)).trans hal.1, hal.2⟩, fun i hi => ⟨(hr _ (by omega)).trans (htd i hi).1, (htd i hi).2⟩, fun k hk => ⟨(hr _ (by omega)).trans (hcr k hk).1, (hcr k hk).2⟩, h01⟩
  · rw [hn _ (by omega), hn _ (by omega), hn _ (by omega), hn _ (by omega), hn _ (by omega), hn _ (by omega)]; exact hsec k hk
  · rw [hn _ (by omega), hn _ (by omega)]; exact hdis k hk
  · rw [hn _ (by omega)]; exact hstr k hk
  · rw [hn _ (by omega), hn _ (by omega), hn _ (by omega), hn _ (by omega)]; exact hpum k hk
def RgP (old many : Nat) (r : RgT) (hy : Nat → Int64) (rh : Nat → UInt64) (T : Nat) : Prop := ∀ i, i < many → ∃ q, r ((old + i) % 5) = some q ∧ SR q.2 (fun j => hy (108 * i + j)) (fun j => rh (33 * i + j)) ∧ v_h q.2 ≤ T
theorem RgP_rec {old many : Nat} {r : RgT} {hy : Nat → Int64} {rh : Nat → UInt64} {T : Nat} {v : SVT} {n : Nat → Int64} {re : Nat → UInt64} (hold : old < 5) (hm : many ≤ 5) (hR : RgP old many r hy rh T) (hS : SR v n re) (hT : v_h v ≤ T) (u : Nat → Nat) :
    RgP (recO old many) (recM many) (recR r old many u v) (mhy hy n many) (mrh rh re many) T ∧ recM many = mkp many ∧ recO old many < 5 ∧ recM many ≤ 5 := by
  by_cases c : many = 5
  · subst c
    have e1 : recO old 5 = (old + 1) % 5 := if_neg (by decide)
    have e2 : recM 5 = 5 := if_neg (by decide)
    have e3 : mhy hy n 5 = cpb (shb hy 108 432) n (108 * 4) 108 := if_pos rfl
    have e4 : mrh rh re 5 = cpb (shb rh 33 132) re (33 * 4) 33 := if_pos rfl
    rw [e1, e2, e3, e4]
    refine ⟨fun i hi => ?_, (if_pos rfl : mkp 5 = 5).symm, by omega, by omega⟩
    by_cases d : i = 4
    · subst d
      refine ⟨(u, v), ?_, SR_c hS (fun j hj => ?_) (fun j hj => ?_), hT⟩
      · show (if ((old + 1) % 5 + 4) % 5 = (old + 5) % 5 then _ else _) = _
        rw [if_pos (by omega)]
      · show (if 108 * 4 ≤ 108 * 4 + j ∧ 108 * 4 + j < 108 * 4 + 108 then n (108 * 4 + j - 108 * 4) else _) = n j
        rw [if_pos (by omega), show 108 * 4 + j - 108 * 4 = j by omega]
      · show (if 33 * 4 ≤ 33 * 4 + j ∧ 33 * 4 + j < 33 * 4 + 33 then re (33 * 4 + j - 33 * 4) else _) = re j
        rw [if_pos (by omega), show 33 * 4 + j - 33 * 4 = j by omega]
    · obtain ⟨q, h1, h2, h3⟩ := hR (i + 1) (by omega)
      refine ⟨q, ?_, SR_c h2 (fun j hj => ?_) (fun j hj => ?_), h3⟩
      · show (if ((old + 1) % 5 + i) % 5 = (old + 5) % 5 then _ else r (((old + 1) % 5 + i) % 5)) = _
        rw [if_neg (by omega), show ((old + 1) % 5 + i) % 5 = (old + (i + 1)) % 5 by omega, h1]
      · show (if 108 * 4 ≤ 108 * i + j ∧ 108 * i + j < 108 * 4 + 108 then _ else (if 108 * i + j < 432 then hy (108 * i + j + 108) else _)) = hy (108 * (i + 1) + j)
        rw [if_neg (by omega), if_pos (by omega), show 108 * i + j + 108 = 108 * (i + 1) + j by omega]
      · show (if 33 * 4 ≤ 33 * i + j ∧ 33 * i + j < 33 * 4 + 33 then _ else (if 33 * i + j < 132 then rh (33 * i + j + 33) else _)) = rh (33 * (i + 1) + j)
        rw [if_neg (by omega), if_pos (by omega), show 33 * i + j + 33 = 33 * (i + 1) + j by omega]
  · have e1 : recO old many = old := if_pos (by omega)
    have e2 : recM many = many + 1 := if_pos (by omega)
    have e3 : mhy hy n many = cpb hy n (108 * many) 108 := if_neg c
    have e4 : mrh rh re many = cpb rh re (33 * many) 33 := if_neg c
    rw [e1, e2, e3, e4]
    refine ⟨fun i hi => ?_, (if_neg c : mkp many = many + 1).symm, by omega, by omega⟩
    by_cases d : i = many
    · subst d
      refine ⟨(u, v), ?_, SR_c hS (fun j hj => ?_) (fun j hj => ?_), hT⟩
      · show (if (old + i) % 5 = (old + i) % 5 then _ else _) = _
        rw [if_pos rfl]
      · show (if 108 * i ≤ 108 * i + j ∧ 108 * i + j < 108 * i + 108 then n (108 * i + j - 108 * i) else _) = n j
        rw [if_pos (by omega), show 108 * i + j - 108 * i = j by omega]
      · show (if 33 * i ≤ 33 * i + j ∧ 33 * i + j < 33 * i + 33 then re (33 * i + j - 33 * i) else _) = re j
        rw [if_pos (by omega), show 33 * i + j - 33 * i = j by omega]
    · obtain ⟨q, h1, h2, h3⟩ := hR i (by omega)
      refine ⟨q, ?_, SR_c h2 (fun j hj => ?_) (fun j hj => ?_), h3⟩
      · show (if (old + i) % 5 = (old + many) % 5 then _ else r ((old + i) % 5)) = _
        rw [if_neg (by omega), h1]
      · show (if 108 * many ≤ 108 * i + j ∧ 108 * i + j < 108 * many + 108 then _ else hy (108 * i + j)) = hy (108 * i + j)
        rw [if_neg (by omega)]
      · show (if 33 * many ≤ 33 * i + j ∧ 33 * i + j < 33 * many + 33 then _ else rh (33 * i + j)) = rh (33 * i + j)
        rw [if_neg (by omega)]
