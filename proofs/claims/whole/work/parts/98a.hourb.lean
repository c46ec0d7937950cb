theorem toI_id (x : Int32) : x.toInt64.toInt32 = x := by simp
theorem mvs_at {n : Nat → Int64} {k : Nat} {w : Int32} : (mvsN n k w (20 + 6 * k + 3)).toInt32 = w ∧ (mvsN n k w (20 + 6 * k + 4)).toInt32 = (n (20 + 6 * k + 1)).toInt32 ∧ mvsN n k w 2 = lN k + 1 := by
  unfold mvsN
  refine ⟨?_, ?_, ?_⟩
  · rw [pk_uLn (by omega), pk_uLn (by omega), pk_uLs, toI_id]
  · rw [pk_uLn (by omega), pk_uLs, pk_uLn (by omega), toI_id]
  · rw [pk_uLs]
theorem no_2 {v : SVT} {n : Nat → Int64} {re : Nat → UInt64} (h : SR v n re) (c : ¬ mvN (v_co v) (v_nS v) < v_nS v) : n 2 = 0 := by
  rw [h.2.2.2.2.1.2.2.2.1, if_neg c]
theorem go_2 {v : SVT} {n : Nat → Int64} {re : Nat → UInt64} (h : SR v n re) (c : mvN (v_co v) (v_nS v) < v_nS v) : 0 < n 2 := by
  have hn := (lt_nS h).1
  rw [h.2.2.2.2.1.2.2.2.1, if_pos c, show (0 : Int64) = lN 0 from rfl]
  exact (lN_lt (by omega) (by omega)).mpr (by omega)
theorem mvI_n {co : Nat → Int32} {n : Nat} (hn : n ≤ 8) : mvI co n = -5 ↔ ¬ mvN co n < n := by
  rw [no_mv hn]
  constructor
  · intro q c
    exact q _ c (mv_sp c)
  · exact fun c => mv_nn c
theorem mf0_eq {v : SVT} {n : Nat → Int64} {re : Nat → UInt64} (h : SR v n re) : mf0 n (v_nS v) = fst_ (fun k => v_co v k = 0) (v_nS v) := by
  unfold mf0
  by_cases c : fst_ (fun k => v_co v k = 0) (v_nS v) < v_nS v
  · have q := fst_spec c
    exact fst_some c (fun j hj z => q.2 j hj (by rw [← (h.2.2.2.2.2.2.2.1 j (by omega)).2.2.2.1]; exact z)) (by rw [(h.2.2.2.2.2.2.2.1 _ c).2.2.2.1]; exact q.1)
  · have q := fst_nn c
    rw [fst_none _ (fun j hj z => q j hj (by rw [← (h.2.2.2.2.2.2.2.1 j hj).2.2.2.1]; exact z)), fst_none _ q]
theorem mf2_eq {v : SVT} {n : Nat → Int64} {re : Nat → UInt64} (h : SR v n re) : mf2 n (v_nS v) = fst_ (fun k => v_co v (v_nS v - 1 - k) = 2) (v_nS v) := by
  unfold mf2
  by_cases c : fst_ (fun k => v_co v (v_nS v - 1 - k) = 2) (v_nS v) < v_nS v
  · have q := fst_spec c
    exact fst_some c (fun j hj z => q.2 j hj (by rw [← (h.2.2.2.2.2.2.2.1 (v_nS v - 1 - j) (by omega)).2.2.2.1]; exact z)) (by rw [(h.2.2.2.2.2.2.2.1 _ (by omega)).2.2.2.1]; exact q.1)
  · have q := fst_nn c
    rw [fst_none _ (fun j hj z => q j hj (by rw [← (h.2.2.2.2.2.2.2.1 (v_nS v - 1 - j) (by omega)).2.2.2.1]; exact z)), fst_none _ q]
theorem SR_start {v : SVT} {n : Nat → Int64} {re : Nat → UInt64} (h : SR v n re) {i : Nat} (hi : i < v_nS v) (c : ¬ mvN (v_co v) (v_nS v) < v_nS v) {w0 : Int32} (hw0 : w0 = 1 ∨ w0 = 3) : SR (v_nS v, v_wi v, v_cr v, v_ho v, v_li v, upd (v_co v) i w0, upd (v_le v) i (v_ho v i), v_cs v, v_nD v, v_we v, v_cl v, v_nT v, v_sw v, v_nP v, v_lim v, v_idl v, v_po v, v_pw v, v_on v, v_ra v, v_ar v, v_vo v, v_fi v, v_fo v, v_fv v, v_br v, v_pu v, v_td v, v_al v, v_h v, v_od v, v_cb v, v_dl v) (mvsN n i w0) re := by
  have hn := (lt_nS h).1
  have hs := h.2.2.2.2.2.2.2.1 i hi
  have hv := (h.2.2.2.2.2.2.2.2.1 i hi).2.1
  have ho := h.2.2.2.2.1
  have hm := mv_nn c
  have q := SR_sec1 (n2 := mvsN n i w0) (i := i) (cc := w0) (ll := v_ho v i) (ss := v_cs v i) (od2 := v_od v) h hi (fun j h1 h2 h3 h4 h5 => mvsN_n h2 h3 h4) (by rw [mvsN_n (by omega) (by omega) (by omega)]; exact ho.2.1) ho.2.2.1 (by
      have e : mvN (upd (v_co v) i w0) (v_nS v) = i := mv_is hi (by rw [pk_us]; exact hw0) (fun j hj z => by
        by_cases d : j = i
        · exact d
        · rw [pk_un d] at z
          exact (hm j hj z).elim)
      rw [e, if_pos hi, mvs_at.2.2, lN_1]) mvs_at.1 (by rw [mvs_at.2.1]; exact hs.2.1) (by rw [mvsN_n (by omega) (by omega) (by omega)]; exact hs.2.2.2.2.2) (by rcases hw0 with z | z <;> (subst z; decide)) (fun _ => hv) (fun _ j hj _ => hm j hj)
  rw [upd_id] at q
  exact q
theorem SR_jam {v : SVT} {n : Nat → Int64} {re : Nat → UInt64} (h : SR v n re) {i : Nat} (hi : i < v_nS v) (c : ¬ mvN (v_co v) (v_nS v) < v_nS v) : SR (v_nS v, v_wi v, v_cr v, v_ho v, v_li v, upd (v_co v) i 4, v_le v, v_cs v, v_nD v, v_we v, v_cl v, v_nT v, v_sw v, v_nP v, v_lim v, v_idl v, v_po v, v_pw v, v_on v, v_ra v, v_ar v, v_vo v, v_fi v, v_fo v, v_fv v, v_br v, v_pu v, v_td v, v_al v, v_h v, v_od v, v_cb v, v_dl v) (vp_updL n (20 + 6 * i + 3) (4 : Int32).toInt64) re := by
  have hn := (lt_nS h).1
  have hs := h.2.2.2.2.2.2.2.1 i hi
  have ho := h.2.2.2.2.1
  have hm := mv_nn c
  have q := SR_sec1 (n2 := vp_updL n (20 + 6 * i + 3) (4 : Int32).toInt64) (i := i) (cc := 4) (ll := v_le v i) (ss := v_cs v i) (od2 := v_od v) h hi (fun j h1 h2 h3 h4 h5 => pk_uLn h3) (by rw [pk_uLn (by omega)]; exact ho.2.1) ho.2.2.1 (by
      have e : mvN (upd (v_co v) i 4) (v_nS v) = v_nS v := mv_no (fun j hj z => by
        by_cases d : j = i
        · rw [d, pk_us] at z
          exact absurd z (by decide)
        · rw [pk_un d] at z
          exact hm j hj z)
      rw [e, if_neg (Nat.lt_irrefl _), pk_uLn (by omega)]
      exact no_2 h c) (by rw [pk_uLs, toI_id]) (by rw [pk_uLn (by omega)]; exact hs.2.2.2.2.1) (by rw [pk_uLn (by omega)]; exact hs.2.2.2.2.2) (by decide) (fun z => absurd z (by decide)) (fun z => absurd z (by decide))
  rw [upd_id, upd_id] at q
  exact q
set_option maxHeartbeats 4000000 in
theorem SR_fol {v : SVT} {n : Nat → Int64} {re : Nat → UInt64} (h : SR v n re) : SR (v_nS v, v_wi v, v_cr v, v_ho v, v_li v, snCo (v_od v) (v_li v) (v_co v) (v_cs v) (v_nS v), snLe (v_od v) (v_ho v) (v_li v) (v_co v) (v_le v) (v_cs v) (v_nS v), v_cs v, v_nD v, v_we v, v_cl v, v_nT v, v_sw v, v_nP v, v_lim v, v_idl v, v_po v, v_pw v, v_on v, v_ra v, v_ar v, v_vo v, v_fi v, v_fo v, v_fv v, v_br v, v_pu v, v_td v, v_al v, v_h v, snOd (v_od v) (v_co v) (v_nS v), v_cb v, v_dl v) (folN n (v_nS v)) re ∧ (snJ (v_od v) (v_li v) (v_co v) (v_cs v) (v_nS v) ↔ folJ n (v_nS v)) := by
  have hn := (lt_nS h).1
  have ho := od_eq h
  have e0 := mf0_eq h
  have e2 := mf2_eq h
  have hmi := mvI_n (co := v_co v) hn
  unfold snCo snLe snOd folN snJ folJ
  by_cases c0 : v_od v = 0
  · rw [if_pos c0, if_pos c0, if_pos c0]
    have q : (if 0 < n 2 then n else if n 1 = 0 then n else if n 1 = 1 then (if mf0 n (v_nS v) < v_nS v then (if (n (20 + 6 * mf0 n (v_nS v) + 5)).toInt32 < (n (20 + 6 * mf0 n (v_nS v) + 2)).toInt32 then mvsN n (mf0 n (v_nS v)) 1 else vp_updL n (20 + 6 * mf0 n (v_nS v) + 3) (4 : Int32).toInt64) else vp_updL n 1 0) else (if mf2 n (v_nS v) < v_nS v then mvsN n (v_nS v - 1 - mf2 n (v_nS v)) 3 else vp_updL n 1 0)) = n := by
      by_cases d : 0 < n 2
      · rw [if_pos d]
      · rw [if_neg d, if_pos (ho.1.mpr c0)]
    rw [q]
    exact ⟨h, ⟨fun z => absurd c0 z.1, fun z => absurd (ho.1.mpr c0) z.2.1⟩⟩
  · have d0 : ¬ n 1 = 0 := fun z => c0 (ho.1.mp z)
    rw [if_neg c0, if_neg c0, if_neg c0]
    by_cases c : mvN (v_co v) (v_nS v) < v_nS v
    · have m5 : ¬ mvI (v_co v) (v_nS v) = -5 := fun z => (hmi.mp z) c
      have d2 := go_2 h c
      rw [if_neg m5, if_neg m5, if_neg m5, if_pos d2]
      exact ⟨h, ⟨fun z => absurd z.2.1 m5, fun z => absurd d2 z.1⟩⟩
    · have m5 : mvI (v_co v) (v_nS v) = -5 := hmi.mpr c
      have d2 : ¬ 0 < n 2 := by rw [no_2 h c]; decide
      rw [if_pos m5, if_pos m5, if_pos m5, if_neg d2, if_neg d0]
      by_cases c1 : v_od v = 1
      · rw [if_pos c1, if_pos c1, if_pos c1, if_pos (ho.2.1.mpr c1), e0]
        by_cases cf : fst_ (fun k => v_co v k = 0) (v_nS v) < v_nS v
        · have hs := h.2.2.2.2.2.2.2.1 _ cf
          rw [if_pos cf, if_pos cf, if_pos cf, if_pos cf, hs.2.2.2.2.2, hs.2.2.1]
          by_cases ct : v_cs v (fst_ (fun k => v_co v k = 0) (v_nS v)) < v_li v (fst_ (fun k => v_co v k = 0) (v_nS v))
          · rw [if_pos ct, if_pos ct, if_pos ct]
            exact ⟨SR_start h cf c (Or.inl rfl), ⟨fun z => absurd ct z.2.2.2.2, fun z => absurd ct z.2.2.2.2⟩⟩
          · rw [if_neg ct, if_neg ct, if_neg ct]
            exact ⟨SR_jam h cf c, ⟨fun z => ⟨d2, d0, ho.2.1.mpr c1, cf, ct⟩, fun z => ⟨c0, m5, c1, cf, ct⟩⟩⟩
        · rw [if_neg cf, if_neg cf, if_neg cf, if_neg cf]
          exact ⟨SR_ord h (fun j hj => pk_uLn hj) pk_uLs (Or.inl rfl), ⟨fun z => absurd z.2.2.2.1 cf, fun z => absurd z.2.2.2.1 cf⟩⟩
      · have d1 : ¬ n 1 = 1 := fun z => c1 (ho.2.1.mp z)
        rw [if_neg c1, if_neg c1, if_neg c1, if_neg d1, e2]
        have hj : (¬ v_od v = 0 ∧ mvI (v_co v) (v_nS v) = -5 ∧ v_od v = 1 ∧ fst_ (fun k => v_co v k = 0) (v_nS v) < v_nS v ∧ ¬ v_cs v (fst_ (fun k => v_co v k = 0) (v_nS v)) < v_li v (fst_ (fun k => v_co v k = 0) (v_nS v))) ↔ (¬ 0 < n 2 ∧ ¬ n 1 = 0 ∧ n 1 = 1 ∧ mf0 n (v_nS v) < v_nS v ∧ ¬ (n (20 + 6 * mf0 n (v_nS v) + 5)).toInt32 < (n (20 + 6 * mf0 n (v_nS v) + 2)).toInt32) := ⟨fun z => absurd z.2.2.1 c1, fun z => absurd z.2.2.1 d1⟩
        refine ⟨?_, hj⟩
        by_cases cf : fst_ (fun k => v_co v (v_nS v - 1 - k) = 2) (v_nS v) < v_nS v
        · rw [if_pos cf, if_pos cf, if_pos cf, if_pos cf]
          exact SR_start h (by omega) c (Or.inr rfl)
        · rw [if_neg cf, if_neg cf, if_neg cf, if_neg cf]
          exact SR_ord h (fun j hj => pk_uLn hj) pk_uLs (Or.inl rfl)
