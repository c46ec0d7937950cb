/-! the history over its ring -/
abbrev hstW (ct : Nat → ClassId) (h0 h1 old many : Nat) (r : RgT) : va_W := [zO h0 2 [.ref h1, .int (nI old), .int (nI many)], zQ ct h1 5 (rgA r)]
def recO (old many : Nat) : Nat := if many < 5 then old else (old + 1) % 5
def recM (many : Nat) : Nat := if many < 5 then many + 1 else many
def recR (r : RgT) (old many : Nat) (u : Nat → Nat) (v : SVT) : RgT := rgS r ((old + many) % 5) (some (u, v))
theorem rgS_none {r : RgT} {k : Nat} (h : r k = none) : rgS r k none = r := by
  funext i
  unfold rgS
  by_cases e : i = k
  · rw [if_pos e, e, h]
  · rw [if_neg e]
theorem rgA_put (r : RgT) (k : Nat) (u : Nat → Nat) (v : SVT) : rgA (rgS r k (some (u, v))) = va_up (rgA r) k (some (u 0)) := by
  funext i
  unfold rgA rgS va_up
  by_cases e : i = k
  · rw [if_pos e, if_pos e]; rfl
  · rw [if_neg e, if_neg e]
theorem rgA_same (r : RgT) (k : Nat) (q : (Nat → Nat) × SVT) (v : SVT) (h : r k = some q) : rgA (rgS r k (some (q.1, v))) = rgA r := by
  rw [rgA_put]
  funext i
  unfold va_up
  by_cases e : i = k
  · rw [if_pos e, e]; unfold rgA; rw [h]; rfl
  · rw [if_neg e]
set_option maxHeartbeats 4000000 in
set_option maxRecDepth 100000 in
theorem c_record (l : Launch) (g : va_G) (ct : Nat → ClassId) (sz h0 h1 : Nat) (ad : Nat → Nat) (v : SVT) (old many : Nat) (r : RgT) (hold : old < 5) (hm : many ≤ 5) (hv : v01 v) :
    Met l yX2_record wsX2_record (zRc 3 21 158 72) (va_Pc [.ref h0, .ref (ad 0)] (zW g ct ((stW ct ad v ++ hstW ct h0 h1 old many r) ++ bank ct r) sz))
      (zEv (S := Nat → Nat) g (fun u => (stW ct ad v ++ hstW ct h0 h1 (recO old many) (recM many) (recR r old many u v)) ++ bank ct (recR r old many u v)) (va_A ((stW ct ad v ++ hstW ct h0 h1 old many r) ++ bank ct r) sz)) 21 158 (va_A ((stW ct ad v ++ hstW ct h0 h1 old many r) ++ bank ct r) sz) := by
  have hk : (old + many) % 5 < 5 := by omega
  cases hr : r ((old + many) % 5) with
  | none =>
    have base := c_X2_record_n l g ct sz h0 h1 ad v old many hold hm (rgA r) (by unfold rgA; rw [hr]; rfl) hv (bank ct r)
    refine z_consv (wr := []) (rm2 := zRc 3 21 158 72) base ?_ (fun u => ⟨u, ?_⟩) (Nat.le_refl _) (Nat.le_of_ble_eq_true rfl) (Nat.le_refl _) (Nat.le_refl _) (Nat.le_refl _) (Nat.le_refl _)
    · rw [List.append_nil]; exact List.Perm.refl _
    · rw [List.append_nil]
      have h1 := bank_put ct r ((old + many) % 5) hk (u, v)
      rw [rgS_none hr] at h1
      unfold recR hstW
      rw [rgA_put]
      refine List.Perm.trans ?_ (List.Perm.append_left _ h1.symm)
      rw [← List.append_assoc]
      exact List.Perm.refl _
  | some q =>
    have base := c_X2_record_s l g ct sz h0 h1 ad q.1 v q.2 old many hold hm (rgA r) (by unfold rgA; rw [hr]; rfl) hv (bank ct (rgS r ((old + many) % 5) none))
    have h1 := bank_perm ct r ((old + many) % 5) hk
    rw [hr] at h1
    have h2 := bank_put ct r ((old + many) % 5) hk (q.1, v)
    refine z_consv (wr := []) (rm2 := zRc 3 21 158 72) base ?_ (fun u => ⟨q.1, ?_⟩) (Nat.le_refl _) (Nat.le_of_ble_eq_true rfl) (Nat.zero_le _) (Nat.zero_le _) (Nat.zero_le _) (Nat.zero_le _)
    · rw [List.append_nil]
      refine List.Perm.trans (List.Perm.append_left _ h1) ?_
      rw [← List.append_assoc]
      exact List.Perm.refl _
    · rw [List.append_nil]
      unfold recR hstW
      rw [rgA_same r _ q v hr]
      refine List.Perm.trans ?_ (List.Perm.append_left _ h2.symm)
      rw [← List.append_assoc]
      exact List.Perm.refl _
set_option maxHeartbeats 4000000 in
set_option maxRecDepth 100000 in
theorem c_takeLatest (l : Launch) (g : va_G) (ct : Nat → ClassId) (sz h0 h1 : Nat) (ad : Nat → Nat) (v : SVT) (old many : Nat) (r : RgT) (q : (Nat → Nat) × SVT) (hold : old < 5) (hm : many ≤ 5) (hm0 : 0 < many) (hr : r ((old + many - 1) % 5) = some q) (hv : v01 q.2) :
    Met l yX2_takeLatest wsX2_takeLatest (zRm 3 72) (va_Pc [.ref h0, .ref (ad 0)] (zW g ct ((stW ct ad v ++ hstW ct h0 h1 old many r) ++ bank ct r) sz))
      (zQi g ((stW ct ad q.2 ++ hstW ct h0 h1 old (many - 1) r) ++ bank ct r) 1 (va_A ((stW ct ad v ++ hstW ct h0 h1 old many r) ++ bank ct r) sz)) 0 0 (va_A ((stW ct ad v ++ hstW ct h0 h1 old many r) ++ bank ct r) sz) := by
  have hk : (old + many - 1) % 5 < 5 := by omega
  have base := c_X2_takeLatest_s l g ct sz h0 h1 ad q.1 v q.2 old many hold hm (rgA r) hm0 (by unfold rgA; rw [hr]; rfl) hv
  have h1 := bank_perm ct r ((old + many - 1) % 5) hk
  rw [hr] at h1
  refine z_consi (wr := bank ct (rgS r ((old + many - 1) % 5) none)) (rm2 := zRm 3 72) base ?_ (fun u => ⟨u, ?_⟩) (Nat.le_refl _) (Nat.le_of_ble_eq_true rfl) (Nat.zero_le _) (Nat.zero_le _) (Nat.zero_le _) (Nat.zero_le _)
  · refine List.Perm.trans (List.Perm.append_left _ h1) ?_
    rw [← List.append_assoc]
    exact List.Perm.refl _
  · refine List.Perm.trans ?_ (List.Perm.append_left _ h1.symm)
    rw [← List.append_assoc]
    exact List.Perm.refl _
