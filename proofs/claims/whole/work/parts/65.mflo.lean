def mwI (n : Nat → Int64) (k : Nat) : Int32 := (n (20 + 6 * k + 0)).toInt32
def miD (n : Nat → Int64) (v : Int64) : UInt64 := FP.ddiv (FP.l2d v) (FP.l2d (n 5))
/-- what keeps the reference's numbers numbers -/
def mok (n : Nat → Int64) (re : Nat → UInt64) (nS : Nat) : Prop := (∀ v, vf_n64 (miD n v)) ∧ (∀ v h, h < 24 → vf_n64 (FP.dsub (re (1 + h)) (miD n v))) ∧ (∀ k, k < nS → vf_n64 (FP.dmul (FP.i2d (mwI n k)) 4651127699538968576) ∧ vf_n64 (FP.dmul (FP.i2d (mwI n k)) 4646624099911598080)) ∧ (∀ k v h, k < nS → h < 24 → vf_n64 (FP.dmul (FP.dmul (FP.i2d (mwI n k)) 4651127699538968576) (FP.dsub (re (1 + h)) (miD n v)))) ∧ (∀ k h, k < nS → h < 24 → vf_n64 (FP.dsub (re (1 + h)) (re (25 + k))) ∧ vf_n64 (FP.dmul (FP.dmul (FP.i2d (mwI n k)) 4646624099911598080) (FP.dsub (re (1 + h)) (re (25 + k)))))
theorem mok_c {n n2 : Nat → Int64} {re : Nat → UInt64} {nS : Nat} (h : mok n re nS) (h5 : n2 5 = n 5) (hw : ∀ k, k < nS → n2 (20 + 6 * k + 0) = n (20 + 6 * k + 0)) : mok n2 re nS := by
  have e : ∀ v, miD n2 v = miD n v := fun v => by unfold miD; rw [h5]
  have w : ∀ k, k < nS → mwI n2 k = mwI n k := fun k hk => by unfold mwI; rw [hw k hk]
  refine ⟨fun v => by rw [e]; exact h.1 v, fun v q hq => by rw [e]; exact h.2.1 v q hq, fun k hk => by rw [w k hk]; exact h.2.2.1 k hk, fun k v q hk hq => by rw [e, w k hk]; exact h.2.2.2.1 k v q hk hq, fun k q hk hq => by rw [w k hk]; exact h.2.2.2.2 k q hk hq⟩
abbrev mthW (n : Nat → Int64) (o i : UInt64) (k : Nat) : Int64 := FP.d2l (FP.dmul (FP.dmul (FP.i2d (n (20 + 6 * k + 0)).toInt32) 4651127699538968576) (FP.dsub o i))
def mflS (o i : UInt64) (k : Nat) (n : Nat → Int64) : Nat → Int64 := if (n (20 + 6 * k + 3)).toInt32 = 2 then n else if FP.d2l (FP.dmul (FP.dmul (FP.i2d (n (20 + 6 * k + 0)).toInt32) 4651127699538968576) (FP.dsub o i)) ≤ 0 then foutN n (-FP.d2l (FP.dmul (FP.dmul (FP.i2d (n (20 + 6 * k + 0)).toInt32) 4651127699538968576) (FP.dsub o i))) 14 else finN n (FP.d2l (FP.dmul (FP.dmul (FP.i2d (n (20 + 6 * k + 0)).toInt32) 4651127699538968576) (FP.dsub o i))) 13
def movS (re : Nat → UInt64) (o : UInt64) (k : Nat) (n : Nat → Int64) : Nat → Int64 := if (n (20 + 6 * k + 3)).toInt32 = 2 then (if 0 ≤ Op.cmpValue (FP.dcmp (re (25 + k)) o) CmpOp.g then n else finN n (FP.d2l (FP.dmul (FP.dmul (FP.i2d (n (20 + 6 * k + 0)).toInt32) 4646624099911598080) (FP.dsub o (re (25 + k))))) 15) else n
def mbrS (k : Nat) (n : Nat → Int64) : Nat → Int64 := finN n (n (80 + k)) 16
def mflA (o i : UInt64) (n : Nat → Int64) (k : Nat) : Nat → Int64 := lp (mflS o i) k n
def mflB (re : Nat → UInt64) (o : UInt64) (n : Nat → Int64) (k : Nat) : Nat → Int64 := lp (movS re o) k n
def mflC (n : Nat → Int64) (k : Nat) : Nat → Int64 := lp mbrS k n
theorem mflA_s (o i : UInt64) (n : Nat → Int64) (k : Nat) : mflA o i n (k + 1) = mflS o i k (mflA o i n k) := rfl
theorem mflB_s (re : Nat → UInt64) (o : UInt64) (n : Nat → Int64) (k : Nat) : mflB re o n (k + 1) = movS re o k (mflB re o n k) := rfl
theorem mflC_s (n : Nat → Int64) (k : Nat) : mflC n (k + 1) = mbrS k (mflC n k) := rfl
theorem mflA_n {o i : UInt64} {n : Nat → Int64} {m j : Nat} (h : j ≠ 12) (h2 : j ≠ 13) (h3 : j ≠ 14) : mflA o i n m j = n j := by
  induction m with
  | zero => rfl
  | succ m ih =>
    rw [mflA_s]; unfold mflS
    by_cases c : (mflA o i n m (20 + 6 * m + 3)).toInt32 = 2
    · rw [if_pos c, ih]
    · rw [if_neg c]
      by_cases c2 : mthW (mflA o i n m) o i m ≤ 0
      · rw [if_pos c2, foutN_n h h3, ih]
      · rw [if_neg c2, finN_n h h2, ih]
theorem mflB_n {re : Nat → UInt64} {o : UInt64} {n : Nat → Int64} {m j : Nat} (h : j ≠ 12) (h2 : j ≠ 15) : mflB re o n m j = n j := by
  induction m with
  | zero => rfl
  | succ m ih =>
    rw [mflB_s]; unfold movS
    by_cases c : (mflB re o n m (20 + 6 * m + 3)).toInt32 = 2
    · rw [if_pos c]
      by_cases c2 : 0 ≤ Op.cmpValue (FP.dcmp (re (25 + m)) o) CmpOp.g
      · rw [if_pos c2, ih]
      · rw [if_neg c2, finN_n h h2, ih]
    · rw [if_neg c, ih]
theorem mflC_n {n : Nat → Int64} {m j : Nat} (h : j ≠ 12) (h2 : j ≠ 16) : mflC n m j = n j := by
  induction m with
  | zero => rfl
  | succ m ih => rw [mflC_s]; unfold mbrS; rw [finN_n h h2, ih]
/-- an hour's water -/
def mflN (n : Nat → Int64) (re : Nat → UInt64) (nS nT hr0 : Nat) : Nat → Int64 := mflC (mflB re (re (1 + hr0 % 24)) (mflA (re (1 + hr0 % 24)) (miD n (n 12)) n nS) nS) nT
theorem mflN_n {n : Nat → Int64} {re : Nat → UInt64} {nS nT hr0 j : Nat} (h : j < 12 ∨ 16 < j) : mflN n re nS nT hr0 j = n j := by
  unfold mflN
  rw [mflC_n (by omega) (by omega), mflB_n (by omega) (by omega), mflA_n (by omega) (by omega) (by omega)]
theorem m24 (h : Nat) : h % 24 < 24 := Nat.mod_lt _ (by decide)

set_option maxHeartbeats 4000000 in
set_option maxRecDepth 100000 in
theorem c_X10_flow (l : Launch) (g : va_G) (ct : Nat → ClassId) (sz : Nat) (m0 m1 m2 m3 m4 m5 m6 m7 m8 m9 : Nat) (n hy sl sp : Nat → Int64) (re rh rs : Nat → UInt64) (kp : Nat) (fl : Int32) (tn : Nat) (tx : Nat → Int32) (pa rn : Nat) (rd : Nat → Int32) (nS : Nat) (hnS : nS ≤ 8) (hn7 : n 7 = lN nS) (nT : Nat) (hnT : nT ≤ 4) (hn9 : n 9 = lN nT) (hr0 : Nat) (hh0 : hr0 < 2 ^ 31) (hn0 : n 0 = lN hr0) (hok : mok n re nS) : Met l yX10_flow wsX10_flow (zRm 2 43) (va_Pc [.ref m0] (zW g ct [zO m0 9 [.ref m1, .ref m2, .ref m3, .ref m4, .ref m5, .ref m6, .ref m7, .int (nI kp), .int fl, .int (nI tn), .ref m8, .int (nI pa), .int (nI rn), .ref m9], zL ct m1 108 n, zL ct m2 540 hy, zL ct m3 108 sl, zL ct m4 108 sp, zD ct m5 33 re, zD ct m6 165 rh, zD ct m7 33 rs, zC ct m8 60 tx, zI ct m9 17 rd] sz)) (zQv g [zO m0 9 [.ref m1, .ref m2, .ref m3, .ref m4, .ref m5, .ref m6, .ref m7, .int (nI kp), .int fl, .int (nI tn), .ref m8, .int (nI pa), .int (nI rn), .ref m9], zL ct m1 108 (mflN n re nS nT hr0), zL ct m2 540 hy, zL ct m3 108 sl, zL ct m4 108 sp, zD ct m5 33 re, zD ct m6 165 rh, zD ct m7 33 rs, zC ct m8 60 tx, zI ct m9 17 rd] (va_A [zO m0 9 [.ref m1, .ref m2, .ref m3, .ref m4, .ref m5, .ref m6, .ref m7, .int (nI kp), .int fl, .int (nI tn), .ref m8, .int (nI pa), .int (nI rn), .ref m9], zL ct m1 108 n, zL ct m2 540 hy, zL ct m3 108 sl, zL ct m4 108 sp, zD ct m5 33 re, zD ct m6 165 rh, zD ct m7 33 rs, zC ct m8 60 tx, zI ct m9 17 rd] sz)) 0 0 (va_A [zO m0 9 [.ref m1, .ref m2, .ref m3, .ref m4, .ref m5, .ref m6, .ref m7, .int (nI kp), .int fl, .int (nI tn), .ref m8, .int (nI pa), .int (nI rn), .ref m9], zL ct m1 108 n, zL ct m2 540 hy, zL ct m3 108 sl, zL ct m4 108 sp, zD ct m5 33 re, zD ct m6 165 rh, zD ct m7 33 rs, zC ct m8 60 tx, zI ct m9 17 rd] sz) := by
  refine z_write (QA := zQv g [zO m0 9 [.ref m1, .ref m2, .ref m3, .ref m4, .ref m5, .ref m6, .ref m7, .int (nI kp), .int fl, .int (nI tn), .ref m8, .int (nI pa), .int (nI rn), .ref m9], zL ct m1 108 (mflN n re nS nT hr0), zL ct m2 540 hy, zL ct m3 108 sl, zL ct m4 108 sp, zD ct m5 33 re, zD ct m6 165 rh, zD ct m7 33 rs, zC ct m8 60 tx, zI ct m9 17 rd]) (cc := cX10_flow) (maxL := 8) (ret := none) (by decide) rfl (Nat.le_of_ble_eq_true rfl) ?_
  intro p e s m below meth c ls A hx hb hr hml hts hown hlocks hin hP hK hD hNW hA hS hl
  have hown : s.vm.findClass RX10 = some m.cls := hown
  have hl : lv_has ls 8 [(0, .ref m0)] := hl
  have hi_wsX100 : ∀ w ∈ wsX100, w ∈ wsX10_flow := fun w h => List.mem_cons_of_mem _ (List.mem_append_right _ h)
  refine lv_aload_n hx hb dX10_flow_0 rfl (lv_at hl 0 rfl) ?_
  refine z_cVd (wc := [zO m0 9 [.ref m1, .ref m2, .ref m3, .ref m4, .ref m5, .ref m6, .ref m7, .int (nI kp), .int fl, .int (nI tn), .ref m8, .int (nI pa), .int (nI rn), .ref m9], zL ct m1 108 n, zL ct m2 540 hy, zL ct m3 108 sl, zL ct m4 108 sp, zD ct m5 33 re, zD ct m6 165 rh, zD ct m7 33 rs, zC ct m8 60 tx, zI ct m9 17 rd]) (As := []) (rest := []) ⟨hx, hb, hml, hown, hts⟩ hK hP [0, 1, 2, 3, 4, 5, 6, 7, 8, 9] rfl (c_X10_outer l g ct m0 m1 m2 m3 m4 m5 m6 m7 m8 m9 n hy sl sp re rh rs kp fl tn tx pa rn rd hr0 (by omega) hn0) (cwV 0 hts gX10_flow_X10_outer rfl rfl rfl (by decide +kernel) ⟨Nat.le_of_ble_eq_true rfl, Nat.le_of_ble_eq_true rfl⟩) 0 rfl rfl rfl hl.1 rfl (Nat.le_of_ble_eq_true rfl) dX10_flow_1 ⟨Nat.zero_le _, Nat.zero_le _⟩ ?_
  refine lv_dstore_n (lv' := [(1, .double (re (1 + hr0 % 24))), (0, .ref m0)]) hx hb dX10_flow_4 rfl hl (by decide) rfl (fun ls hl => ?_)
  refine lv_aload_n hx hb dX10_flow_5 rfl (lv_at hl 1 rfl) ?_
  refine z_cVd (wc := [zO m0 9 [.ref m1, .ref m2, .ref m3, .ref m4, .ref m5, .ref m6, .ref m7, .int (nI kp), .int fl, .int (nI tn), .ref m8, .int (nI pa), .int (nI rn), .ref m9], zL ct m1 108 n, zL ct m2 540 hy, zL ct m3 108 sl, zL ct m4 108 sp, zD ct m5 33 re, zD ct m6 165 rh, zD ct m7 33 rs, zC ct m8 60 tx, zI ct m9 17 rd]) (As := []) (rest := []) ⟨hx, hb, hml, hown, hts⟩ hK hP [0, 1, 2, 3, 4, 5, 6, 7, 8, 9] rfl (c_X10_inner l g ct m0 m1 m2 m3 m4 m5 m6 m7 m8 m9 n hy sl sp re rh rs kp fl tn tx pa rn rd (hok.1 _)) (cwV 0 hts gX10_flow_X10_inner rfl rfl rfl (by decide +kernel) ⟨Nat.le_of_ble_eq_true rfl, Nat.le_of_ble_eq_true rfl⟩) 0 rfl rfl rfl hl.1 rfl (Nat.le_of_ble_eq_true rfl) dX10_flow_6 ⟨Nat.zero_le _, Nat.zero_le _⟩ ?_
  rw [show FP.ddiv (FP.l2d (n 12)) (FP.l2d (n 5)) = miD n (n 12) from rfl]
  refine lv_dstore_n (lv' := [(3, .double (miD n (n 12))), (1, .double (re (1 + hr0 % 24))), (0, .ref m0)]) hx hb dX10_flow_9 rfl hl (by decide) rfl (fun ls hl => ?_)
  refine lv_iconst (v := 0) hx hb dX10_flow_10 (by decide) ?_
  refine lv_istore (lv' := [(5, .int 0), (3, .double (miD n (n 12))), (1, .double (re (1 + hr0 % 24))), (0, .ref m0)]) hx hb dX10_flow_11 hl (by decide) rfl (fun ls hl => ?_)
  refine z_loop nS (fun k1 H locs ls => va_P g vwCl [zO m0 9 [.ref m1, .ref m2, .ref m3, .ref m4, .ref m5, .ref m6, .ref m7, .int (nI kp), .int fl, .int (nI tn), .ref m8, .int (nI pa), .int (nI rn), .ref m9], zL ct m1 108 (mflA (re (1 + hr0 % 24)) (miD n (n 12)) n k1), zL ct m2 540 hy, zL ct m3 108 sl, zL ct m4 108 sp, zD ct m5 33 re, zD ct m6 165 rh, zD ct m7 33 rs, zC ct m8 60 tx, zI ct m9 17 rd] H ∧ va_D A [zO m0 9 [.ref m1, .ref m2, .ref m3, .ref m4, .ref m5, .ref m6, .ref m7, .int (nI kp), .int fl, .int (nI tn), .ref m8, .int (nI pa), .int (nI rn), .ref m9], zL ct m1 108 (mflA (re (1 + hr0 % 24)) (miD n (n 12)) n k1), zL ct m2 540 hy, zL ct m3 108 sl, zL ct m4 108 sp, zD ct m5 33 re, zD ct m6 165 rh, zD ct m7 33 rs, zC ct m8 60 tx, zI ct m9 17 rd] ∧ va_S A s.heap H locs ∧ lv_has ls 8 [(0, .ref m0), (1, .double (re (1 + hr0 % 24))), (3, .double (miD n (n 12))), (5, .int (nI k1))]) ⟨hP, hD, hS, lv_sub hl [3, 2, 1, 0] rfl⟩ ?_
  intro k1 H locs ls hkk1 hI ihk1
  obtain ⟨hP, hD, hS, hl⟩ := hI
  refine lv_iload hx hb dX10_flow_13 (lv_at hl 3 rfl) ?_
  refine lv_i2l (v := lN k1) hx hb dX10_flow_15 (nI_l (by omega)) ?_
  refine lv_aload_n hx hb dX10_flow_16 rfl (lv_at hl 0 rfl) ?_
  refine va_get (D := g) (ci := 9) (v := .ref m1) (C := RX10) (T := TX10) (N := 14) hx hb hts hi_wsX100 hown hK hP 0 rfl rfl 0 (by decide) (hts (.fieldLink RX10 7 "FloodBarrierModel" "now" "[J") (List.mem_of_getElem? (i := 1) rfl)) (fun _ h9 => h9) rfl dX10_flow_17 ?_
  refine lv_bipush (v := 7) hx hb dX10_flow_20 (by decide) ?_
  refine z_lald (ct := ct) (f := (mflA (re (1 + hr0 % 24)) (miD n (n 12)) n k1)) (k := 7) hx hb hK hP 1 rfl (by omega) (by decide) dX10_flow_22 ?_
  rw [(show (mflA (re (1 + hr0 % 24)) (miD n (n 12)) n k1) 7 = lN nS from by rw [mflA_n (by omega) (by omega) (by omega)]; exact hn7)]
  refine z_lcN_ge (x := k1) (y := nS) (tgt := 90) hx hb (by omega) (by omega) dX10_flow_23 dX10_flow_24 (by decide) (fun c_1 => ?_) (fun c_1 => ?_)
  · have hkn : nS = k1 := by omega
    subst hkn
    refine lv_iconst (v := 0) hx hb dX10_flow_90 (by decide) ?_
    refine lv_istore (lv' := [(5, .int 0), (0, .ref m0), (1, .double (re (1 + hr0 % 24))), (3, .double (miD n (n 12)))]) hx hb dX10_flow_91 hl (by decide) rfl (fun ls hl => ?_)
    refine z_loop nS (fun k2 H locs ls => va_P g vwCl [zO m0 9 [.ref m1, .ref m2, .ref m3, .ref m4, .ref m5, .ref m6, .ref m7, .int (nI kp), .int fl, .int (nI tn), .ref m8, .int (nI pa), .int (nI rn), .ref m9], zL ct m1 108 (mflB re (re (1 + hr0 % 24)) (mflA (re (1 + hr0 % 24)) (miD n (n 12)) n nS) k2), zL ct m2 540 hy, zL ct m3 108 sl, zL ct m4 108 sp, zD ct m5 33 re, zD ct m6 165 rh, zD ct m7 33 rs, zC ct m8 60 tx, zI ct m9 17 rd] H ∧ va_D A [zO m0 9 [.ref m1, .ref m2, .ref m3, .ref m4, .ref m5, .ref m6, .ref m7, .int (nI kp), .int fl, .int (nI tn), .ref m8, .int (nI pa), .int (nI rn), .ref m9], zL ct m1 108 (mflB re (re (1 + hr0 % 24)) (mflA (re (1 + hr0 % 24)) (miD n (n 12)) n nS) k2), zL ct m2 540 hy, zL ct m3 108 sl, zL ct m4 108 sp, zD ct m5 33 re, zD ct m6 165 rh, zD ct m7 33 rs, zC ct m8 60 tx, zI ct m9 17 rd] ∧ va_S A s.heap H locs ∧ lv_has ls 8 [(0, .ref m0), (1, .double (re (1 + hr0 % 24))), (3, .double (miD n (n 12))), (5, .int (nI k2))]) ⟨hP, hD, hS, lv_sub hl [1, 2, 3, 0] rfl⟩ ?_
    intro k2 H locs ls hkk2 hI ihk2
    obtain ⟨hP, hD, hS, hl⟩ := hI
    refine lv_iload hx hb dX10_flow_93 (lv_at hl 3 rfl) ?_
    refine lv_i2l (v := lN k2) hx hb dX10_flow_95 (nI_l (by omega)) ?_
    refine lv_aload_n hx hb dX10_flow_96 rfl (lv_at hl 0 rfl) ?_
    refine va_get (D := g) (ci := 9) (v := .ref m1) (C := RX10) (T := TX10) (N := 14) hx hb hts hi_wsX100 hown hK hP 0 rfl rfl 0 (by decide) (hts (.fieldLink RX10 7 "FloodBarrierModel" "now" "[J") (List.mem_of_getElem? (i := 1) rfl)) (fun _ h9 => h9) rfl dX10_flow_97 ?_
    refine lv_bipush (v := 7) hx hb dX10_flow_100 (by decide) ?_
    refine z_lald (ct := ct) (f := (mflB re (re (1 + hr0 % 24)) (mflA (re (1 + hr0 % 24)) (miD n (n 12)) n nS) k2)) (k := 7) hx hb hK hP 1 rfl (by omega) (by decide) dX10_flow_102 ?_
    rw [(show (mflB re (re (1 + hr0 % 24)) (mflA (re (1 + hr0 % 24)) (miD n (n 12)) n nS) k2) 7 = lN nS from by rw [mflB_n (by omega) (by omega), mflA_n (by omega) (by omega) (by omega)]; exact hn7)]
    refine z_lcN_ge (x := k2) (y := nS) (tgt := 171) hx hb (by omega) (by omega) dX10_flow_103 dX10_flow_104 (by decide) (fun c_2 => ?_) (fun c_2 => ?_)
    · have hkn : nS = k2 := by omega
      subst hkn
      refine lv_iconst (v := 0) hx hb dX10_flow_171 (by decide) ?_
      refine lv_istore (lv' := [(5, .int 0), (0, .ref m0), (1, .double (re (1 + hr0 % 24))), (3, .double (miD n (n 12)))]) hx hb dX10_flow_172 hl (by decide) rfl (fun ls hl => ?_)
      refine z_loop nT (fun k3 H locs ls => va_P g vwCl [zO m0 9 [.ref m1, .ref m2, .ref m3, .ref m4, .ref m5, .ref m6, .ref m7, .int (nI kp), .int fl, .int (nI tn), .ref m8, .int (nI pa), .int (nI rn), .ref m9], zL ct m1 108 (mflC (mflB re (re (1 + hr0 % 24)) (mflA (re (1 + hr0 % 24)) (miD n (n 12)) n nS) nS) k3), zL ct m2 540 hy, zL ct m3 108 sl, zL ct m4 108 sp, zD ct m5 33 re, zD ct m6 165 rh, zD ct m7 33 rs, zC ct m8 60 tx, zI ct m9 17 rd] H ∧ va_D A [zO m0 9 [.ref m1, .ref m2, .ref m3, .ref m4, .ref m5, .ref m6, .ref m7, .int (nI kp), .int fl, .int (nI tn), .ref m8, .int (nI pa), .int (nI rn), .ref m9], zL ct m1 108 (mflC (mflB re (re (1 + hr0 % 24)) (mflA (re (1 + hr0 % 24)) (miD n (n 12)) n nS) nS) k3), zL ct m2 540 hy, zL ct m3 108 sl, zL ct m4 108 sp, zD ct m5 33 re, zD ct m6 165 rh, zD ct m7 33 rs, zC ct m8 60 tx, zI ct m9 17 rd] ∧ va_S A s.heap H locs ∧ lv_has ls 8 [(0, .ref m0), (1, .double (re (1 + hr0 % 24))), (3, .double (miD n (n 12))), (5, .int (nI k3))]) ⟨hP, hD, hS, lv_sub hl [1, 2, 3, 0] rfl⟩ ?_
      intro k3 H locs ls hkk3 hI ihk3
      obtain ⟨hP, hD, hS, hl⟩ := hI
      refine lv_iload hx hb dX10_flow_174 (lv_at hl 3 rfl) ?_
      refine lv_i2l (v := lN k3) hx hb dX10_flow_176 (nI_l (by omega)) ?_
      refine lv_aload_n hx hb dX10_flow_177 rfl (lv_at hl 0 rfl) ?_
      refine va_get (D := g) (ci := 9) (v := .ref m1) (C := RX10) (T := TX10) (N := 14) hx hb hts hi_wsX100 hown hK hP 0 rfl rfl 0 (by decide) (hts (.fieldLink RX10 7 "FloodBarrierModel" "now" "[J") (List.mem_of_getElem? (i := 1) rfl)) (fun _ h9 => h9) rfl dX10_flow_178 ?_
      refine lv_bipush (v := 9) hx hb dX10_flow_181 (by decide) ?_
      refine z_lald (ct := ct) (f := (mflC (mflB re (re (1 + hr0 % 24)) (mflA (re (1 + hr0 % 24)) (miD n (n 12)) n nS) nS) k3)) (k := 9) hx hb hK hP 1 rfl (by omega) (by decide) dX10_flow_183 ?_
      rw [(show (mflC (mflB re (re (1 + hr0 % 24)) (mflA (re (1 + hr0 % 24)) (miD n (n 12)) n nS) nS) k3) 9 = lN nT from by rw [mflC_n (by omega) (by omega), mflB_n (by omega) (by omega), mflA_n (by omega) (by omega) (by omega)]; exact hn9)]
      refine z_lcN_ge (x := k3) (y := nT) (tgt := 210) hx hb (by omega) (by omega) dX10_flow_184 dX10_flow_185 (by decide) (fun c_3 => ?_) (fun c_3 => ?_)
      · have hkn : nT = k3 := by omega
        subst hkn
        exact z_vretW hx hb hr hlocks hS hP hD rfl (Nat.le_refl _) (Nat.le_refl _) dX10_flow_210
      · refine lv_aload_n hx hb dX10_flow_188 rfl (lv_at hl 0 rfl) ?_
        refine lv_aload_n hx hb dX10_flow_189 rfl (lv_at hl 0 rfl) ?_
        refine va_get (D := g) (ci := 9) (v := .ref m1) (C := RX10) (T := TX10) (N := 14) hx hb hts hi_wsX100 hown hK hP 0 rfl rfl 0 (by decide) (hts (.fieldLink RX10 7 "FloodBarrierModel" "now" "[J") (List.mem_of_getElem? (i := 1) rfl)) (fun _ h9 => h9) rfl dX10_flow_190 ?_
        refine lv_bipush (v := 80) hx hb dX10_flow_193 (by decide) ?_
        refine lv_iload hx hb dX10_flow_195 (lv_at hl 3 rfl) ?_
        refine z_iaddN (x := 80) (y := k3) hx hb dX10_flow_197 ?_
        refine z_lald (ct := ct) (f := (mflC (mflB re (re (1 + hr0 % 24)) (mflA (re (1 + hr0 % 24)) (miD n (n 12)) n nS) nS) k3)) (k := (80 + k3)) hx hb hK hP 1 rfl (by omega) (by decide) dX10_flow_198 ?_
        refine lv_bipush (v := 16) hx hb dX10_flow_199 (by decide) ?_
        refine z_wVv (wc := [zO m0 9 [.ref m1, .ref m2, .ref m3, .ref m4, .ref m5, .ref m6, .ref m7, .int (nI kp), .int fl, .int (nI tn), .ref m8, .int (nI pa), .int (nI rn), .ref m9], zL ct m1 108 (mflC (mflB re (re (1 + hr0 % 24)) (mflA (re (1 + hr0 % 24)) (miD n (n 12)) n nS) nS) k3), zL ct m2 540 hy, zL ct m3 108 sl, zL ct m4 108 sp, zD ct m5 33 re, zD ct m6 165 rh, zD ct m7 33 rs, zC ct m8 60 tx, zI ct m9 17 rd]) (wr := []) (w2 := [zO m0 9 [.ref m1, .ref m2, .ref m3, .ref m4, .ref m5, .ref m6, .ref m7, .int (nI kp), .int fl, .int (nI tn), .ref m8, .int (nI pa), .int (nI rn), .ref m9], zL ct m1 108 (finN (mflC (mflB re (re (1 + hr0 % 24)) (mflA (re (1 + hr0 % 24)) (miD n (n 12)) n nS) nS) k3) ((mflC (mflB re (re (1 + hr0 % 24)) (mflA (re (1 + hr0 % 24)) (miD n (n 12)) n nS) nS) k3) (80 + k3)) 16), zL ct m2 540 hy, zL ct m3 108 sl, zL ct m4 108 sp, zD ct m5 33 re, zD ct m6 165 rh, zD ct m7 33 rs, zC ct m8 60 tx, zI ct m9 17 rd]) (As := [.long ((mflC (mflB re (re (1 + hr0 % 24)) (mflA (re (1 + hr0 % 24)) (miD n (n 12)) n nS) nS) k3) (80 + k3)), .int 16]) (rest := []) ⟨hx, hb, hml, hown, hts⟩ hK hP hD hS hNW hA [0, 1, 2, 3, 4, 5, 6, 7, 8, 9] [] [0, 1, 2, 3, 4, 5, 6, 7, 8, 9] rfl rfl rfl rfl rfl rfl (by decide) (c_X10_flowsIn l g ct _ m0 m1 m2 m3 m4 m5 m6 m7 m8 m9 (mflC (mflB re (re (1 + hr0 % 24)) (mflA (re (1 + hr0 % 24)) (miD n (n 12)) n nS) nS) k3) hy sl sp re rh rs kp fl tn tx pa rn rd ((mflC (mflB re (re (1 + hr0 % 24)) (mflA (re (1 + hr0 % 24)) (miD n (n 12)) n nS) nS) k3) (80 + k3)) 16 (by omega)) (cwV 2 hts gX10_flow_X10_flowsIn rfl rfl rfl (by decide +kernel) ⟨Nat.le_of_ble_eq_true rfl, Nat.le_of_ble_eq_true rfl⟩) 0 rfl rfl rfl hl.1 rfl (Nat.le_of_ble_eq_true rfl) dX10_flow_201 ⟨Nat.zero_le _, Nat.zero_le _⟩ (fun H locs hP hD hS => ?_)
        refine lv_iinc (v := nI (k3 + 1)) (lv' := [(5, .int (nI (k3 + 1))), (0, .ref m0), (1, .double (re (1 + hr0 % 24))), (3, .double (miD n (n 12)))]) hx hb dX10_flow_204 hl (k := 3) rfl (nI_add k3 1) (by decide) rfl (fun ls hl => ?_)
        refine lv_goto (tgt := 174) hx hb dX10_flow_207 (by decide) ?_
        exact ihk3 _ _ _ (by omega) ⟨(by first | exact hP | (simp only [lp_s, mflC_s, mbrS, if_neg c_1, if_neg c_2, if_pos c_3]; exact hP)), (by first | exact hD | (simp only [lp_s, mflC_s, mbrS, if_neg c_1, if_neg c_2, if_pos c_3]; exact hD)), hS, (by first | exact lv_sub hl [1, 2, 3, 0] rfl | (simp only [lp_s, mflC_s, mbrS, if_neg c_1, if_neg c_2, if_pos c_3]; exact lv_sub hl [1, 2, 3, 0] rfl))⟩
    · refine lv_aload_n hx hb dX10_flow_107 rfl (lv_at hl 0 rfl) ?_
      refine lv_iload hx hb dX10_flow_108 (lv_at hl 3 rfl) ?_
      refine lv_iconst (v := 3) hx hb dX10_flow_110 (by decide) ?_
      refine z_cVi (wc := [zO m0 9 [.ref m1, .ref m2, .ref m3, .ref m4, .ref m5, .ref m6, .ref m7, .int (nI kp), .int fl, .int (nI tn), .ref m8, .int (nI pa), .int (nI rn), .ref m9], zL ct m1 108 (mflB re (re (1 + hr0 % 24)) (mflA (re (1 + hr0 % 24)) (miD n (n 12)) n nS) k2), zL ct m2 540 hy, zL ct m3 108 sl, zL ct m4 108 sp, zD ct m5 33 re, zD ct m6 165 rh, zD ct m7 33 rs, zC ct m8 60 tx, zI ct m9 17 rd]) (As := [.int (nI k2), .int 3]) (rest := []) ⟨hx, hb, hml, hown, hts⟩ hK hP [0, 1, 2, 3, 4, 5, 6, 7, 8, 9] rfl (c_X10_of l g ct m0 m1 m2 m3 m4 m5 m6 m7 m8 m9 (mflB re (re (1 + hr0 % 24)) (mflA (re (1 + hr0 % 24)) (miD n (n 12)) n nS) k2) hy sl sp re rh rs kp fl tn tx pa rn rd k2 3 (by omega) (by omega)) (cwV 2 hts gX10_flow_X10_of rfl rfl rfl (by decide +kernel) ⟨Nat.le_of_ble_eq_true rfl, Nat.le_of_ble_eq_true rfl⟩) 0 rfl rfl rfl hl.1 rfl (Nat.le_of_ble_eq_true rfl) dX10_flow_111 ⟨Nat.zero_le _, Nat.zero_le _⟩ ?_
      refine lv_iconst (v := 2) hx hb dX10_flow_114 (by decide) ?_
      refine lv_icmp_ne (tgt := 165) hx hb dX10_flow_115 (by decide) (fun c_4 => ?_) (fun c_4 => ?_)
      · refine lv_iinc (v := nI (k2 + 1)) (lv' := [(5, .int (nI (k2 + 1))), (0, .ref m0), (1, .double (re (1 + hr0 % 24))), (3, .double (miD n (n 12)))]) hx hb dX10_flow_165 hl (k := 3) rfl (nI_add k2 1) (by decide) rfl (fun ls hl => ?_)
        refine lv_goto (tgt := 93) hx hb dX10_flow_168 (by decide) ?_
        exact ihk2 _ _ _ (by omega) ⟨(by first | exact hP | (simp only [lp_s, mflB_s, movS, if_neg c_1, if_pos c_2, if_neg c_4]; exact hP)), (by first | exact hD | (simp only [lp_s, mflB_s, movS, if_neg c_1, if_pos c_2, if_neg c_4]; exact hD)), hS, (by first | exact lv_sub hl [1, 2, 3, 0] rfl | (simp only [lp_s, mflB_s, movS, if_neg c_1, if_pos c_2, if_neg c_4]; exact lv_sub hl [1, 2, 3, 0] rfl))⟩
      · refine lv_aload_n hx hb dX10_flow_118 rfl (lv_at hl 0 rfl) ?_
        refine va_get (D := g) (ci := 9) (v := .ref m5) (C := RX10) (T := TX10) (N := 14) hx hb hts hi_wsX100 hown hK hP 0 rfl rfl 4 (by decide) (hts (.fieldLink RX10 22 "FloodBarrierModel" "real" "[D") (List.mem_of_getElem? (i := 3) rfl)) (fun _ h9 => h9) rfl dX10_flow_119 ?_
        refine lv_bipush (v := 25) hx hb dX10_flow_122 (by decide) ?_
        refine lv_iload hx hb dX10_flow_124 (lv_at hl 3 rfl) ?_
        refine z_iaddN (x := 25) (y := k2) hx hb dX10_flow_126 ?_
        refine z_dald (ct := ct) (f := re) (k := (25 + k2)) hx hb hK hP 5 rfl (by omega) (by decide) dX10_flow_127 ?_
        refine lv_dload_n hx hb dX10_flow_128 rfl (lv_at hl 1 rfl) ?_
        refine lv_dcmp hx hb dX10_flow_129 ?_
        refine lv_if_ge (tgt := 165) hx hb dX10_flow_130 (by decide) (fun c_5 => ?_) (fun c_5 => ?_)
        · refine lv_iinc (v := nI (k2 + 1)) (lv' := [(5, .int (nI (k2 + 1))), (0, .ref m0), (1, .double (re (1 + hr0 % 24))), (3, .double (miD n (n 12)))]) hx hb dX10_flow_165 hl (k := 3) rfl (nI_add k2 1) (by decide) rfl (fun ls hl => ?_)
          refine lv_goto (tgt := 93) hx hb dX10_flow_168 (by decide) ?_
          exact ihk2 _ _ _ (by omega) ⟨(by first | exact hP | (simp only [lp_s, mflB_s, movS, if_neg c_1, if_pos c_2, if_pos c_4, if_pos c_5]; exact hP)), (by first | exact hD | (simp only [lp_s, mflB_s, movS, if_neg c_1, if_pos c_2, if_pos c_4, if_pos c_5]; exact hD)), hS, (by first | exact lv_sub hl [1, 2, 3, 0] rfl | (simp only [lp_s, mflB_s, movS, if_neg c_1, if_pos c_2, if_pos c_4, if_pos c_5]; exact lv_sub hl [1, 2, 3, 0] rfl))⟩
        · refine lv_aload_n hx hb dX10_flow_133 rfl (lv_at hl 0 rfl) ?_
          refine lv_aload_n hx hb dX10_flow_134 rfl (lv_at hl 0 rfl) ?_
          refine lv_iload hx hb dX10_flow_135 (lv_at hl 3 rfl) ?_
          refine lv_iconst (v := 0) hx hb dX10_flow_137 (by decide) ?_
          refine z_cVi (wc := [zO m0 9 [.ref m1, .ref m2, .ref m3, .ref m4, .ref m5, .ref m6, .ref m7, .int (nI kp), .int fl, .int (nI tn), .ref m8, .int (nI pa), .int (nI rn), .ref m9], zL ct m1 108 (mflB re (re (1 + hr0 % 24)) (mflA (re (1 + hr0 % 24)) (miD n (n 12)) n nS) k2), zL ct m2 540 hy, zL ct m3 108 sl, zL ct m4 108 sp, zD ct m5 33 re, zD ct m6 165 rh, zD ct m7 33 rs, zC ct m8 60 tx, zI ct m9 17 rd]) (As := [.int (nI k2), .int 0]) (rest := [.ref m0]) ⟨hx, hb, hml, hown, hts⟩ hK hP [0, 1, 2, 3, 4, 5, 6, 7, 8, 9] rfl (c_X10_of l g ct m0 m1 m2 m3 m4 m5 m6 m7 m8 m9 (mflB re (re (1 + hr0 % 24)) (mflA (re (1 + hr0 % 24)) (miD n (n 12)) n nS) k2) hy sl sp re rh rs kp fl tn tx pa rn rd k2 0 (by omega) (by omega)) (cwV 2 hts gX10_flow_X10_of rfl rfl rfl (by decide +kernel) ⟨Nat.le_of_ble_eq_true rfl, Nat.le_of_ble_eq_true rfl⟩) 0 rfl rfl rfl hl.1 rfl (Nat.le_of_ble_eq_true rfl) dX10_flow_138 ⟨Nat.zero_le _, Nat.zero_le _⟩ ?_
          refine lv_i2d hx hb dX10_flow_141 ?_
          refine lv_ldc2d (v := 4646624099911598080) hx hb hown (hts (.constantDouble RX10 160 (4646624099911598080)) (List.mem_of_getElem? (i := 4) rfl)) dX10_flow_142 ?_
          refine lv_dmul hx hb dX10_flow_145 (by rw [mflB_n (by omega) (by omega), mflA_n (by omega) (by omega) (by omega)]; exact (hok.2.2.1 k2 (by omega)).2) ?_
          refine lv_dload_n hx hb dX10_flow_146 rfl (lv_at hl 1 rfl) ?_
          refine lv_aload_n hx hb dX10_flow_147 rfl (lv_at hl 0 rfl) ?_
          refine va_get (D := g) (ci := 9) (v := .ref m5) (C := RX10) (T := TX10) (N := 14) hx hb hts hi_wsX100 hown hK hP 0 rfl rfl 4 (by decide) (hts (.fieldLink RX10 22 "FloodBarrierModel" "real" "[D") (List.mem_of_getElem? (i := 3) rfl)) (fun _ h9 => h9) rfl dX10_flow_148 ?_
          refine lv_bipush (v := 25) hx hb dX10_flow_151 (by decide) ?_
          refine lv_iload hx hb dX10_flow_153 (lv_at hl 3 rfl) ?_
          refine z_iaddN (x := 25) (y := k2) hx hb dX10_flow_155 ?_
          refine z_dald (ct := ct) (f := re) (k := (25 + k2)) hx hb hK hP 5 rfl (by omega) (by decide) dX10_flow_156 ?_
          refine lv_dsub hx hb dX10_flow_157 (hok.2.2.2.2 k2 _ (by omega) (m24 _)).1 ?_
          refine lv_dmul hx hb dX10_flow_158 (by rw [mflB_n (by omega) (by omega), mflA_n (by omega) (by omega) (by omega)]; exact (hok.2.2.2.2 k2 _ (by omega) (m24 _)).2) ?_
          refine lv_d2l hx hb dX10_flow_159 ?_
          refine lv_bipush (v := 15) hx hb dX10_flow_160 (by decide) ?_
          refine z_wVv (wc := [zO m0 9 [.ref m1, .ref m2, .ref m3, .ref m4, .ref m5, .ref m6, .ref m7, .int (nI kp), .int fl, .int (nI tn), .ref m8, .int (nI pa), .int (nI rn), .ref m9], zL ct m1 108 (mflB re (re (1 + hr0 % 24)) (mflA (re (1 + hr0 % 24)) (miD n (n 12)) n nS) k2), zL ct m2 540 hy, zL ct m3 108 sl, zL ct m4 108 sp, zD ct m5 33 re, zD ct m6 165 rh, zD ct m7 33 rs, zC ct m8 60 tx, zI ct m9 17 rd]) (wr := []) (w2 := [zO m0 9 [.ref m1, .ref m2, .ref m3, .ref m4, .ref m5, .ref m6, .ref m7, .int (nI kp), .int fl, .int (nI tn), .ref m8, .int (nI pa), .int (nI rn), .ref m9], zL ct m1 108 (finN (mflB re (re (1 + hr0 % 24)) (mflA (re (1 + hr0 % 24)) (miD n (n 12)) n nS) k2) (FP.d2l (FP.dmul (FP.dmul (FP.i2d (((mflB re (re (1 + hr0 % 24)) (mflA (re (1 + hr0 % 24)) (miD n (n 12)) n nS) k2) (20 + 6 * k2 + 0)).toInt32)) 4646624099911598080) (FP.dsub (re (1 + hr0 % 24)) (re (25 + k2))))) 15), zL ct m2 540 hy, zL ct m3 108 sl, zL ct m4 108 sp, zD ct m5 33 re, zD ct m6 165 rh, zD ct m7 33 rs, zC ct m8 60 tx, zI ct m9 17 rd]) (As := [.long (FP.d2l (FP.dmul (FP.dmul (FP.i2d (((mflB re (re (1 + hr0 % 24)) (mflA (re (1 + hr0 % 24)) (miD n (n 12)) n nS) k2) (20 + 6 * k2 + 0)).toInt32)) 4646624099911598080) (FP.dsub (re (1 + hr0 % 24)) (re (25 + k2))))), .int 15]) (rest := []) ⟨hx, hb, hml, hown, hts⟩ hK hP hD hS hNW hA [0, 1, 2, 3, 4, 5, 6, 7, 8, 9] [] [0, 1, 2, 3, 4, 5, 6, 7, 8, 9] rfl rfl rfl rfl rfl rfl (by decide) (c_X10_flowsIn l g ct _ m0 m1 m2 m3 m4 m5 m6 m7 m8 m9 (mflB re (re (1 + hr0 % 24)) (mflA (re (1 + hr0 % 24)) (miD n (n 12)) n nS) k2) hy sl sp re rh rs kp fl tn tx pa rn rd (FP.d2l (FP.dmul (FP.dmul (FP.i2d (((mflB re (re (1 + hr0 % 24)) (mflA (re (1 + hr0 % 24)) (miD n (n 12)) n nS) k2) (20 + 6 * k2 + 0)).toInt32)) 4646624099911598080) (FP.dsub (re (1 + hr0 % 24)) (re (25 + k2))))) 15 (by omega)) (cwV 2 hts gX10_flow_X10_flowsIn rfl rfl rfl (by decide +kernel) ⟨Nat.le_of_ble_eq_true rfl, Nat.le_of_ble_eq_true rfl⟩) 0 rfl rfl rfl hl.1 rfl (Nat.le_of_ble_eq_true rfl) dX10_flow_162 ⟨Nat.zero_le _, Nat.zero_le _⟩ (fun H locs hP hD hS => ?_)
          refine lv_iinc (v := nI (k2 + 1)) (lv' := [(5, .int (nI (k2 + 1))), (0, .ref m0), (1, .double (re (1 + hr0 % 24))), (3, .double (miD n (n 12)))]) hx hb dX10_flow_165 hl (k := 3) rfl (nI_add k2 1) (by decide) rfl (fun ls hl => ?_)
          refine lv_goto (tgt := 93) hx hb dX10_flow_168 (by decide) ?_
          exact ihk2 _ _ _ (by omega) ⟨(by first | exact hP | (simp only [lp_s, mflB_s, movS, if_neg c_1, if_pos c_2, if_pos c_4, if_neg c_5]; exact hP)), (by first | exact hD | (simp only [lp_s, mflB_s, movS, if_neg c_1, if_pos c_2, if_pos c_4, if_neg c_5]; exact hD)), hS, (by first | exact lv_sub hl [1, 2, 3, 0] rfl | (simp only [lp_s, mflB_s, movS, if_neg c_1, if_pos c_2, if_pos c_4, if_neg c_5]; exact lv_sub hl [1, 2, 3, 0] rfl))⟩
  · refine lv_aload_n hx hb dX10_flow_27 rfl (lv_at hl 0 rfl) ?_
    refine lv_iload hx hb dX10_flow_28 (lv_at hl 3 rfl) ?_
    refine lv_iconst (v := 3) hx hb dX10_flow_30 (by decide) ?_
    refine z_cVi (wc := [zO m0 9 [.ref m1, .ref m2, .ref m3, .ref m4, .ref m5, .ref m6, .ref m7, .int (nI kp), .int fl, .int (nI tn), .ref m8, .int (nI pa), .int (nI rn), .ref m9], zL ct m1 108 (mflA (re (1 + hr0 % 24)) (miD n (n 12)) n k1), zL ct m2 540 hy, zL ct m3 108 sl, zL ct m4 108 sp, zD ct m5 33 re, zD ct m6 165 rh, zD ct m7 33 rs, zC ct m8 60 tx, zI ct m9 17 rd]) (As := [.int (nI k1), .int 3]) (rest := []) ⟨hx, hb, hml, hown, hts⟩ hK hP [0, 1, 2, 3, 4, 5, 6, 7, 8, 9] rfl (c_X10_of l g ct m0 m1 m2 m3 m4 m5 m6 m7 m8 m9 (mflA (re (1 + hr0 % 24)) (miD n (n 12)) n k1) hy sl sp re rh rs kp fl tn tx pa rn rd k1 3 (by omega) (by omega)) (cwV 2 hts gX10_flow_X10_of rfl rfl rfl (by decide +kernel) ⟨Nat.le_of_ble_eq_true rfl, Nat.le_of_ble_eq_true rfl⟩) 0 rfl rfl rfl hl.1 rfl (Nat.le_of_ble_eq_true rfl) dX10_flow_31 ⟨Nat.zero_le _, Nat.zero_le _⟩ ?_
    refine lv_iconst (v := 2) hx hb dX10_flow_34 (by decide) ?_
    refine lv_icmp_eq (tgt := 84) hx hb dX10_flow_35 (by decide) (fun c_6 => ?_) (fun c_6 => ?_)
    · refine lv_iinc (v := nI (k1 + 1)) (lv' := [(5, .int (nI (k1 + 1))), (0, .ref m0), (1, .double (re (1 + hr0 % 24))), (3, .double (miD n (n 12)))]) hx hb dX10_flow_84 hl (k := 3) rfl (nI_add k1 1) (by decide) rfl (fun ls hl => ?_)
      refine lv_goto (tgt := 13) hx hb dX10_flow_87 (by decide) ?_
      exact ihk1 _ _ _ (by omega) ⟨(by first | exact hP | (simp only [lp_s, mflA_s, mflS, if_pos c_1, if_pos c_6]; exact hP)), (by first | exact hD | (simp only [lp_s, mflA_s, mflS, if_pos c_1, if_pos c_6]; exact hD)), hS, (by first | exact lv_sub hl [1, 2, 3, 0] rfl | (simp only [lp_s, mflA_s, mflS, if_pos c_1, if_pos c_6]; exact lv_sub hl [1, 2, 3, 0] rfl))⟩
    · refine lv_aload_n hx hb dX10_flow_38 rfl (lv_at hl 0 rfl) ?_
      refine lv_iload hx hb dX10_flow_39 (lv_at hl 3 rfl) ?_
      refine lv_iconst (v := 0) hx hb dX10_flow_41 (by decide) ?_
      refine z_cVi (wc := [zO m0 9 [.ref m1, .ref m2, .ref m3, .ref m4, .ref m5, .ref m6, .ref m7, .int (nI kp), .int fl, .int (nI tn), .ref m8, .int (nI pa), .int (nI rn), .ref m9], zL ct m1 108 (mflA (re (1 + hr0 % 24)) (miD n (n 12)) n k1), zL ct m2 540 hy, zL ct m3 108 sl, zL ct m4 108 sp, zD ct m5 33 re, zD ct m6 165 rh, zD ct m7 33 rs, zC ct m8 60 tx, zI ct m9 17 rd]) (As := [.int (nI k1), .int 0]) (rest := []) ⟨hx, hb, hml, hown, hts⟩ hK hP [0, 1, 2, 3, 4, 5, 6, 7, 8, 9] rfl (c_X10_of l g ct m0 m1 m2 m3 m4 m5 m6 m7 m8 m9 (mflA (re (1 + hr0 % 24)) (miD n (n 12)) n k1) hy sl sp re rh rs kp fl tn tx pa rn rd k1 0 (by omega) (by omega)) (cwV 2 hts gX10_flow_X10_of rfl rfl rfl (by decide +kernel) ⟨Nat.le_of_ble_eq_true rfl, Nat.le_of_ble_eq_true rfl⟩) 0 rfl rfl rfl hl.1 rfl (Nat.le_of_ble_eq_true rfl) dX10_flow_42 ⟨Nat.zero_le _, Nat.zero_le _⟩ ?_
      refine lv_i2d hx hb dX10_flow_45 ?_
      refine lv_ldc2d (v := 4651127699538968576) hx hb hown (hts (.constantDouble RX10 151 (4651127699538968576)) (List.mem_of_getElem? (i := 2) rfl)) dX10_flow_46 ?_
      refine lv_dmul hx hb dX10_flow_49 (by rw [mflA_n (by omega) (by omega) (by omega)]; exact (hok.2.2.1 k1 (by omega)).1) ?_
      refine lv_dload_n hx hb dX10_flow_50 rfl (lv_at hl 1 rfl) ?_
      refine lv_dload_n hx hb dX10_flow_51 rfl (lv_at hl 2 rfl) ?_
      refine lv_dsub hx hb dX10_flow_52 (hok.2.1 _ _ (m24 _)) ?_
      refine lv_dmul hx hb dX10_flow_53 (by rw [mflA_n (by omega) (by omega) (by omega)]; exact hok.2.2.2.1 k1 _ _ (by omega) (m24 _)) ?_
      refine lv_d2l hx hb dX10_flow_54 ?_
      refine lv_lstore (lv' := [(6, .long (FP.d2l (FP.dmul (FP.dmul (FP.i2d (((mflA (re (1 + hr0 % 24)) (miD n (n 12)) n k1) (20 + 6 * k1 + 0)).toInt32)) 4651127699538968576) (FP.dsub (re (1 + hr0 % 24)) (miD n (n 12)))))), (0, .ref m0), (1, .double (re (1 + hr0 % 24))), (3, .double (miD n (n 12))), (5, .int (nI k1))]) hx hb dX10_flow_55 hl (by decide) rfl (fun ls hl => ?_)
      refine lv_lload hx hb dX10_flow_57 (lv_at hl 0 rfl) ?_
      refine lv_lconst (v := 0) hx hb dX10_flow_59 (by decide) ?_
      refine z_lif_le (tgt := 75) hx hb dX10_flow_60 dX10_flow_61 (by decide) (fun c_7 => ?_) (fun c_7 => ?_)
      · refine lv_aload_n hx hb dX10_flow_75 rfl (lv_at hl 1 rfl) ?_
        refine lv_lload hx hb dX10_flow_76 (lv_at hl 0 rfl) ?_
        refine lv_lneg hx hb dX10_flow_78 ?_
        refine lv_bipush (v := 14) hx hb dX10_flow_79 (by decide) ?_
        refine z_wVv (wc := [zO m0 9 [.ref m1, .ref m2, .ref m3, .ref m4, .ref m5, .ref m6, .ref m7, .int (nI kp), .int fl, .int (nI tn), .ref m8, .int (nI pa), .int (nI rn), .ref m9], zL ct m1 108 (mflA (re (1 + hr0 % 24)) (miD n (n 12)) n k1), zL ct m2 540 hy, zL ct m3 108 sl, zL ct m4 108 sp, zD ct m5 33 re, zD ct m6 165 rh, zD ct m7 33 rs, zC ct m8 60 tx, zI ct m9 17 rd]) (wr := []) (w2 := [zO m0 9 [.ref m1, .ref m2, .ref m3, .ref m4, .ref m5, .ref m6, .ref m7, .int (nI kp), .int fl, .int (nI tn), .ref m8, .int (nI pa), .int (nI rn), .ref m9], zL ct m1 108 (foutN (mflA (re (1 + hr0 % 24)) (miD n (n 12)) n k1) (-(FP.d2l (FP.dmul (FP.dmul (FP.i2d (((mflA (re (1 + hr0 % 24)) (miD n (n 12)) n k1) (20 + 6 * k1 + 0)).toInt32)) 4651127699538968576) (FP.dsub (re (1 + hr0 % 24)) (miD n (n 12)))))) 14), zL ct m2 540 hy, zL ct m3 108 sl, zL ct m4 108 sp, zD ct m5 33 re, zD ct m6 165 rh, zD ct m7 33 rs, zC ct m8 60 tx, zI ct m9 17 rd]) (As := [.long (-(FP.d2l (FP.dmul (FP.dmul (FP.i2d (((mflA (re (1 + hr0 % 24)) (miD n (n 12)) n k1) (20 + 6 * k1 + 0)).toInt32)) 4651127699538968576) (FP.dsub (re (1 + hr0 % 24)) (miD n (n 12)))))), .int 14]) (rest := []) ⟨hx, hb, hml, hown, hts⟩ hK hP hD hS hNW hA [0, 1, 2, 3, 4, 5, 6, 7, 8, 9] [] [0, 1, 2, 3, 4, 5, 6, 7, 8, 9] rfl rfl rfl rfl rfl rfl (by decide) (c_X10_flowsOut l g ct _ m0 m1 m2 m3 m4 m5 m6 m7 m8 m9 (mflA (re (1 + hr0 % 24)) (miD n (n 12)) n k1) hy sl sp re rh rs kp fl tn tx pa rn rd (-(FP.d2l (FP.dmul (FP.dmul (FP.i2d (((mflA (re (1 + hr0 % 24)) (miD n (n 12)) n k1) (20 + 6 * k1 + 0)).toInt32)) 4651127699538968576) (FP.dsub (re (1 + hr0 % 24)) (miD n (n 12)))))) 14 (by omega)) (cwV 2 hts gX10_flow_X10_flowsOut rfl rfl rfl (by decide +kernel) ⟨Nat.le_of_ble_eq_true rfl, Nat.le_of_ble_eq_true rfl⟩) 0 rfl rfl rfl hl.1 rfl (Nat.le_of_ble_eq_true rfl) dX10_flow_81 ⟨Nat.zero_le _, Nat.zero_le _⟩ (fun H locs hP hD hS => ?_)
        refine lv_iinc (v := nI (k1 + 1)) (lv' := [(5, .int (nI (k1 + 1))), (6, .long (FP.d2l (FP.dmul (FP.dmul (FP.i2d (((mflA (re (1 + hr0 % 24)) (miD n (n 12)) n k1) (20 + 6 * k1 + 0)).toInt32)) 4651127699538968576) (FP.dsub (re (1 + hr0 % 24)) (miD n (n 12)))))), (0, .ref m0), (1, .double (re (1 + hr0 % 24))), (3, .double (miD n (n 12)))]) hx hb dX10_flow_84 hl (k := 4) rfl (nI_add k1 1) (by decide) rfl (fun ls hl => ?_)
        refine lv_goto (tgt := 13) hx hb dX10_flow_87 (by decide) ?_
        exact ihk1 _ _ _ (by omega) ⟨(by first | exact hP | (simp only [lp_s, mflA_s, mflS, if_pos c_1, if_neg c_6, if_pos c_7]; exact hP)), (by first | exact hD | (simp only [lp_s, mflA_s, mflS, if_pos c_1, if_neg c_6, if_pos c_7]; exact hD)), hS, (by first | exact lv_sub hl [2, 3, 4, 0] rfl | (simp only [lp_s, mflA_s, mflS, if_pos c_1, if_neg c_6, if_pos c_7]; exact lv_sub hl [2, 3, 4, 0] rfl))⟩
      · refine lv_aload_n hx hb dX10_flow_64 rfl (lv_at hl 1 rfl) ?_
        refine lv_lload hx hb dX10_flow_65 (lv_at hl 0 rfl) ?_
        refine lv_bipush (v := 13) hx hb dX10_flow_67 (by decide) ?_
        refine z_wVv (wc := [zO m0 9 [.ref m1, .ref m2, .ref m3, .ref m4, .ref m5, .ref m6, .ref m7, .int (nI kp), .int fl, .int (nI tn), .ref m8, .int (nI pa), .int (nI rn), .ref m9], zL ct m1 108 (mflA (re (1 + hr0 % 24)) (miD n (n 12)) n k1), zL ct m2 540 hy, zL ct m3 108 sl, zL ct m4 108 sp, zD ct m5 33 re, zD ct m6 165 rh, zD ct m7 33 rs, zC ct m8 60 tx, zI ct m9 17 rd]) (wr := []) (w2 := [zO m0 9 [.ref m1, .ref m2, .ref m3, .ref m4, .ref m5, .ref m6, .ref m7, .int (nI kp), .int fl, .int (nI tn), .ref m8, .int (nI pa), .int (nI rn), .ref m9], zL ct m1 108 (finN (mflA (re (1 + hr0 % 24)) (miD n (n 12)) n k1) (FP.d2l (FP.dmul (FP.dmul (FP.i2d (((mflA (re (1 + hr0 % 24)) (miD n (n 12)) n k1) (20 + 6 * k1 + 0)).toInt32)) 4651127699538968576) (FP.dsub (re (1 + hr0 % 24)) (miD n (n 12))))) 13), zL ct m2 540 hy, zL ct m3 108 sl, zL ct m4 108 sp, zD ct m5 33 re, zD ct m6 165 rh, zD ct m7 33 rs, zC ct m8 60 tx, zI ct m9 17 rd]) (As := [.long (FP.d2l (FP.dmul (FP.dmul (FP.i2d (((mflA (re (1 + hr0 % 24)) (miD n (n 12)) n k1) (20 + 6 * k1 + 0)).toInt32)) 4651127699538968576) (FP.dsub (re (1 + hr0 % 24)) (miD n (n 12))))), .int 13]) (rest := []) ⟨hx, hb, hml, hown, hts⟩ hK hP hD hS hNW hA [0, 1, 2, 3, 4, 5, 6, 7, 8, 9] [] [0, 1, 2, 3, 4, 5, 6, 7, 8, 9] rfl rfl rfl rfl rfl rfl (by decide) (c_X10_flowsIn l g ct _ m0 m1 m2 m3 m4 m5 m6 m7 m8 m9 (mflA (re (1 + hr0 % 24)) (miD n (n 12)) n k1) hy sl sp re rh rs kp fl tn tx pa rn rd (FP.d2l (FP.dmul (FP.dmul (FP.i2d (((mflA (re (1 + hr0 % 24)) (miD n (n 12)) n k1) (20 + 6 * k1 + 0)).toInt32)) 4651127699538968576) (FP.dsub (re (1 + hr0 % 24)) (miD n (n 12))))) 13 (by omega)) (cwV 2 hts gX10_flow_X10_flowsIn rfl rfl rfl (by decide +kernel) ⟨Nat.le_of_ble_eq_true rfl, Nat.le_of_ble_eq_true rfl⟩) 0 rfl rfl rfl hl.1 rfl (Nat.le_of_ble_eq_true rfl) dX10_flow_69 ⟨Nat.zero_le _, Nat.zero_le _⟩ (fun H locs hP hD hS => ?_)
        refine lv_goto (tgt := 84) hx hb dX10_flow_72 (by decide) ?_
        refine lv_iinc (v := nI (k1 + 1)) (lv' := [(5, .int (nI (k1 + 1))), (6, .long (FP.d2l (FP.dmul (FP.dmul (FP.i2d (((mflA (re (1 + hr0 % 24)) (miD n (n 12)) n k1) (20 + 6 * k1 + 0)).toInt32)) 4651127699538968576) (FP.dsub (re (1 + hr0 % 24)) (miD n (n 12)))))), (0, .ref m0), (1, .double (re (1 + hr0 % 24))), (3, .double (miD n (n 12)))]) hx hb dX10_flow_84 hl (k := 4) rfl (nI_add k1 1) (by decide) rfl (fun ls hl => ?_)
        refine lv_goto (tgt := 13) hx hb dX10_flow_87 (by decide) ?_
        exact ihk1 _ _ _ (by omega) ⟨(by first | exact hP | (simp only [lp_s, mflA_s, mflS, if_pos c_1, if_neg c_6, if_neg c_7]; exact hP)), (by first | exact hD | (simp only [lp_s, mflA_s, mflS, if_pos c_1, if_neg c_6, if_neg c_7]; exact hD)), hS, (by first | exact lv_sub hl [2, 3, 4, 0] rfl | (simp only [lp_s, mflA_s, mflS, if_pos c_1, if_neg c_6, if_neg c_7]; exact lv_sub hl [2, 3, 4, 0] rfl))⟩
