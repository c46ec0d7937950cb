theorem mgoF_n {a : Nat → Int64} {r j : Nat} (h : j ≠ 2) (h3 : j ≠ 20 + 6 * r + 3) (h4 : j ≠ 20 + 6 * r + 4) (h5 : j ≠ 20 + 6 * r + 5) : mgoF a r j = a j := by
  unfold mgoF
  split
  · split
    · rw [pk_uLn (by omega), pk_uLn (by omega), pk_uLn (by omega), pk_uLn (by omega)]
    · rw [pk_uLn (by omega), pk_uLn (by omega), pk_uLn (by omega), pk_uLn (by omega)]
  · rw [pk_uLn (by omega)]
theorem mgoF_2 (a : Nat → Int64) (r : Nat) : mgoF a r 2 = 0 ∨ mgoF a r 2 = a 2 := by
  unfold mgoF
  split
  · split
    · exact Or.inl pk_uLs
    · exact Or.inl pk_uLs
  · exact Or.inr (pk_uLn (by omega))
section MGO
variable {n : Nat → Int64} {re : Nat → UInt64} {nS nT nP hr0 mv : Nat}
theorem mgoN_n {j : Nat} (hS : nS ≤ 8) (hm : mv ≤ nS) (h2 : n 2 = lN mv) (h0 : 2 < j) (h1 : j < 11 ∨ 17 < j) (hs : ∀ k, k < nS → j ≠ 20 + 6 * k + 3 ∧ j ≠ 20 + 6 * k + 4 ∧ j ≠ 20 + 6 * k + 5) (hp : ∀ k, k < nP → j ≠ 84 + 4 * k + 3) : mgoN n re nS nT nP hr0 j = n j := by
  obtain ⟨q, hq, hA⟩ := mgA_2 (re := re) (nT := nT) (nP := nP) (hr0 := hr0) hS hm h2
  have hf : folN n nS j = n j := folN_n (by omega) (by omega) (fun k hk => (hs k hk).1) (fun k hk => (hs k hk).2.1)
  rcases Nat.eq_zero_or_pos q with c | c
  · rw [mgoN_0 hA c, pk_uLn (by omega), mgA_n (by omega) hp, hf]
  · obtain ⟨r, hr⟩ : ∃ r, q = r + 1 := ⟨q - 1, by omega⟩
    have := hs r (by omega)
    rw [mgoN_s hA (by omega) hr, pk_uLn (by omega), mgoF_n (by omega) this.1 this.2.1 this.2.2, mgA_n (by omega) hp, hf]
theorem mgoN_h (hS : nS ≤ 8) (hm : mv ≤ nS) (h2 : n 2 = lN mv) (h0 : n 0 = lN hr0) : mgoN n re nS nT nP hr0 0 = lN (hr0 + 1) := by
  obtain ⟨q, hq, hA⟩ := mgA_2 (re := re) (nT := nT) (nP := nP) (hr0 := hr0) hS hm h2
  have hf : folN n nS 0 = n 0 := folN_n (by omega) (by omega) (fun k _ => by omega) (fun k _ => by omega)
  rcases Nat.eq_zero_or_pos q with c | c
  · rw [mgoN_0 hA c, pk_uLs, mgA_n (by omega) (fun k _ => by omega), hf, h0, lN_1]
  · obtain ⟨r, hr⟩ : ∃ r, q = r + 1 := ⟨q - 1, by omega⟩
    rw [mgoN_s hA (by omega) hr, pk_uLs, mgoF_n (by omega) (by omega) (by omega) (by omega), mgA_n (by omega) (fun k _ => by omega), hf, h0, lN_1]
theorem mgoN_2 (hS : nS ≤ 8) (hm : mv ≤ nS) (h2 : n 2 = lN mv) : ∃ q, q ≤ nS ∧ mgoN n re nS nT nP hr0 2 = lN q := by
  obtain ⟨q, hq, hA⟩ := mgA_2 (re := re) (nT := nT) (nP := nP) (hr0 := hr0) hS hm h2
  rcases Nat.eq_zero_or_pos q with c | c
  · exact ⟨q, hq, by rw [mgoN_0 hA c, pk_uLn (by omega), hA]⟩
  · obtain ⟨r, hr⟩ : ∃ r, q = r + 1 := ⟨q - 1, by omega⟩
    rw [mgoN_s hA (by omega) hr, pk_uLn (by omega)]
    rcases mgoF_2 (mpuN (mflN (folN n nS) re nS nT hr0) nP) r with e | e
    · exact ⟨0, by omega, by rw [e]; rfl⟩
    · exact ⟨q, hq, by rw [e, hA]⟩
end MGO
noncomputable def mpsN (n : Nat → Int64) (re : Nat → UInt64) (nS nT nP hr0 k : Nat) : Nat → Int64 := lp (fun j m => mgoN m re nS nT nP (hr0 + j)) k n
theorem mpsN_s (n : Nat → Int64) (re : Nat → UInt64) (nS nT nP hr0 k : Nat) : mpsN n re nS nT nP hr0 (k + 1) = mgoN (mpsN n re nS nT nP hr0 k) re nS nT nP (hr0 + k) := rfl
noncomputable def mpsJ (n : Nat → Int64) (re : Nat → UInt64) (nS nT nP hr0 k : Nat) : Int32 := lp (fun j r => @ite Int32 (folJ (mpsN n re nS nT nP hr0 j) nS) (Classical.propDecidable _) (r + 1) (r + 0)) k 0
theorem mpsJ_s (n : Nat → Int64) (re : Nat → UInt64) (nS nT nP hr0 k : Nat) : mpsJ n re nS nT nP hr0 (k + 1) = mpsJ n re nS nT nP hr0 k + if folJ (mpsN n re nS nT nP hr0 k) nS then 1 else 0 := by
  show @ite Int32 _ (Classical.propDecidable _) _ _ = _
  by_cases c : folJ (mpsN n re nS nT nP hr0 k) nS
  · rw [if_pos c, if_pos c]; rfl
  · rw [if_neg c, if_neg c]; rfl
section MPS
variable {n : Nat → Int64} {re : Nat → UInt64} {nS nT nP hr0 mv : Nat}
/-- what an hour keeps -/
def mkeep (n m : Nat → Int64) (nS nP hr0 : Nat) : Prop := (∀ j, 2 < j → (j < 11 ∨ 17 < j) → (∀ k, k < nS → j ≠ 20 + 6 * k + 3 ∧ j ≠ 20 + 6 * k + 4 ∧ j ≠ 20 + 6 * k + 5) → (∀ k, k < nP → j ≠ 84 + 4 * k + 3) → m j = n j) ∧ m 0 = lN hr0 ∧ ∃ q, q ≤ nS ∧ m 2 = lN q
theorem mps_keep (hS : nS ≤ 8) (hm : mv ≤ nS) (h2 : n 2 = lN mv) (h0 : n 0 = lN hr0) (k : Nat) : mkeep n (mpsN n re nS nT nP hr0 k) nS nP (hr0 + k) := by
  induction k with
  | zero => exact ⟨fun _ _ _ _ _ => rfl, h0, mv, hm, h2⟩
  | succ k ih =>
    obtain ⟨h, hh, q, hq, hq2⟩ := ih
    rw [mpsN_s]
    exact ⟨fun j a b c d => by rw [mgoN_n hS hq hq2 a b c d, h j a b c d], mgoN_h hS hq hq2 hh, mgoN_2 hS hq hq2⟩
theorem mkeep_w {m : Nat → Int64} (h : mkeep n m nS nP hr0) (hS : nS ≤ 8) : ∀ k, k < nS → m (20 + 6 * k + 0) = n (20 + 6 * k + 0) := fun k hk => h.1 _ (by omega) (by omega) (fun i hi => by omega) (fun i hi => by omega)
theorem mkeep_c {m : Nat → Int64} (h : mkeep n m nS nP hr0) {j : Nat} (h0 : 2 < j) (h1 : j < 11) : m j = n j := h.1 j h0 (Or.inl h1) (fun i hi => by omega) (fun i hi => by omega)
theorem mkeep_ok {m : Nat → Int64} (h : mkeep n m nS nP hr0) (hS : nS ≤ 8) (hok : mok n re nS) : mok m re nS := mok_c hok (mkeep_c h (by omega) (by omega)) (mkeep_w h hS)
end MPS
theorem inP_48 {k : Nat} {a : Nat} (ha : a ≤ 1) (h1 : a ≤ k) (hk : k ≤ 48) : inP (lN k) (lN a) 48 := ⟨fun q => absurd ((lN_lt (by omega) (by omega)).mp q) (by omega), fun q => absurd ((lN_lt (a := 48) (by decide) (by omega)).mp q) (by omega)⟩
