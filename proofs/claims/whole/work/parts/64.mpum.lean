abbrev mrP (n : Nat → Int64) (d : Int32) (k : Nat) : Prop := (n (84 + 4 * k + 2)).toInt32 = 1 ∧ ¬ n 6 < (d + (n (84 + 4 * k + 0)).toInt32).toInt64
def mdr (n : Nat → Int64) (k : Nat) : Int32 := lp (fun j d => if (n (84 + 4 * j + 2)).toInt32 = 1 then (if n 6 < (d + (n (84 + 4 * j + 0)).toInt32).toInt64 then d + 0 else d + (n (84 + 4 * j + 0)).toInt32) else d + 0) k 0
theorem mdr_s (n : Nat → Int64) (j : Nat) : mdr n (j + 1) = if (n (84 + 4 * j + 2)).toInt32 = 1 then (if n 6 < (mdr n j + (n (84 + 4 * j + 0)).toInt32).toInt64 then mdr n j + 0 else mdr n j + (n (84 + 4 * j + 0)).toInt32) else mdr n j + 0 := rfl

set_option maxHeartbeats 4000000 in
set_option maxRecDepth 100000 in
theorem c_X10_runs (l : Launch) (g : va_G) (ct : Nat → ClassId) (m0 m1 m2 m3 m4 m5 m6 m7 m8 m9 : Nat) (n hy sl sp : Nat → Int64) (re rh rs : Nat → UInt64) (kp : Nat) (fl : Int32) (tn : Nat) (tx : Nat → Int32) (pa rn : Nat) (rd : Nat → Int32) (k : Nat) (hk : k < 6) : Met l yX10_runs wsX10_runs (zRm 2 43) (va_Pc [.ref m0, .int (nI k)] (zR g ct [zO m0 9 [.ref m1, .ref m2, .ref m3, .ref m4, .ref m5, .ref m6, .ref m7, .int (nI kp), .int fl, .int (nI tn), .ref m8, .int (nI pa), .int (nI rn), .ref m9], zL ct m1 108 n, zL ct m2 540 hy, zL ct m3 108 sl, zL ct m4 108 sp, zD ct m5 33 re, zD ct m6 165 rh, zD ct m7 33 rs, zC ct m8 60 tx, zI ct m9 17 rd])) (vp_Si (fun r => r = if mrP n (mdr n k) k then 1 else 0)) 0 0 (fun _ => False) := by
  refine z_read (cc := cX10_runs) (maxL := 5) (ret := some .boolean) (by decide) rfl (Nat.le_of_ble_eq_true rfl) ?_
  intro p e s m below meth c ls hx hb hr hml hts hown hlocks hP hK hl
  have hown : s.vm.findClass RX10 = some m.cls := hown
  have hl : lv_has ls 5 [(0, .ref m0), (1, .int (nI k))] := hl
  have hi_wsX100 : ∀ w ∈ wsX100, w ∈ wsX10_runs := fun w h => List.mem_cons_of_mem _ (List.mem_append_right _ h)
  refine lv_iconst (v := 0) hx hb dX10_runs_0 (by decide) ?_
  refine lv_istore_n (lv' := [(2, .int 0), (0, .ref m0), (1, .int (nI k))]) hx hb dX10_runs_1 rfl hl (by decide) rfl (fun ls hl => ?_)
  refine lv_iconst (v := 0) hx hb dX10_runs_2 (by decide) ?_
  refine lv_istore_n (lv' := [(3, .int 0), (2, .int 0), (0, .ref m0), (1, .int (nI k))]) hx hb dX10_runs_3 rfl hl (by decide) rfl (fun ls hl => ?_)
  refine z_loop k (fun k1 H2 locs2 ls => H2 = s.heap ∧ locs2 = [] ∧ lv_has ls 5 [(0, .ref m0), (1, .int (nI k)), (2, .int (mdr n k1)), (3, .int (nI k1))]) ⟨rfl, rfl, lv_sub hl [2, 3, 1, 0] rfl⟩ ?_
  intro k1 H2 locs2 ls hkk1 hI ihk1
  obtain ⟨rfl, rfl, hl⟩ := hI
  refine lv_iload_n hx hb dX10_runs_4 rfl (lv_at hl 3 rfl) ?_
  refine lv_iload_n hx hb dX10_runs_5 rfl (lv_at hl 1 rfl) ?_
  refine z_icN_gt (x := k1) (y := k) (tgt := 78) hx hb (by omega) (by omega) dX10_runs_6 (by decide) (fun c_1 => ?_) (fun c_1 => ?_)
  · exact absurd c_1 (by omega)
  · refine lv_aload_n hx hb dX10_runs_9 rfl (lv_at hl 0 rfl) ?_
    refine lv_iload_n hx hb dX10_runs_10 rfl (lv_at hl 3 rfl) ?_
    refine lv_iconst (v := 2) hx hb dX10_runs_11 (by decide) ?_
    refine z_cVi (wc := [zO m0 9 [.ref m1, .ref m2, .ref m3, .ref m4, .ref m5, .ref m6, .ref m7, .int (nI kp), .int fl, .int (nI tn), .ref m8, .int (nI pa), .int (nI rn), .ref m9], zL ct m1 108 n, zL ct m2 540 hy, zL ct m3 108 sl, zL ct m4 108 sp, zD ct m5 33 re, zD ct m6 165 rh, zD ct m7 33 rs, zC ct m8 60 tx, zI ct m9 17 rd]) (As := [.int (nI k1), .int 2]) (rest := []) ⟨hx, hb, hml, hown, hts⟩ hK hP [0, 1, 2, 3, 4, 5, 6, 7, 8, 9] rfl (c_X10_ofPump l g ct m0 m1 m2 m3 m4 m5 m6 m7 m8 m9 n hy sl sp re rh rs kp fl tn tx pa rn rd k1 2 (by omega) (by omega)) (cwV 2 hts gX10_runs_X10_ofPump rfl rfl rfl (by decide +kernel) ⟨Nat.le_of_ble_eq_true rfl, Nat.le_of_ble_eq_true rfl⟩) 0 rfl rfl rfl hl.1 rfl (Nat.le_of_ble_eq_true rfl) dX10_runs_12 ⟨Nat.zero_le _, Nat.zero_le _⟩ ?_
    refine lv_iconst (v := 1) hx hb dX10_runs_15 (by decide) ?_
    refine lv_icmp_ne (tgt := 43) hx hb dX10_runs_16 (by decide) (fun c_2 => ?_) (fun c_2 => ?_)
    · refine lv_iconst (v := 0) hx hb dX10_runs_43 (by decide) ?_
      refine lv_istore (lv' := [(4, .int 0), (0, .ref m0), (1, .int (nI k)), (2, .int (mdr n k1)), (3, .int (nI k1))]) hx hb dX10_runs_44 hl (by decide) rfl (fun ls hl => ?_)
      refine lv_iload_n hx hb dX10_runs_46 rfl (lv_at hl 4 rfl) ?_
      refine lv_iload_n hx hb dX10_runs_47 rfl (lv_at hl 2 rfl) ?_
      refine z_icN_ne (x := k1) (y := k) (tgt := 54) hx hb (by omega) (by omega) dX10_runs_48 (by decide) (fun c_3 => ?_) (fun c_3 => ?_)
      · refine lv_iload_n hx hb dX10_runs_54 rfl (lv_at hl 3 rfl) ?_
        refine lv_iload hx hb dX10_runs_55 (lv_at hl 0 rfl) ?_
        refine lv_if_eq (tgt := 69) hx hb dX10_runs_57 (by decide) (fun _ => ?_) (fun h => absurd h (by decide))
        refine lv_iconst (v := 0) hx hb dX10_runs_69 (by decide) ?_
        refine lv_iadd hx hb dX10_runs_70 ?_
        refine lv_istore_n (lv' := [(2, .int ((mdr n k1) + 0)), (4, .int 0), (0, .ref m0), (1, .int (nI k)), (3, .int (nI k1))]) hx hb dX10_runs_71 rfl hl (by decide) rfl (fun ls hl => ?_)
        refine lv_iinc (v := nI (k1 + 1)) (lv' := [(3, .int (nI (k1 + 1))), (2, .int ((mdr n k1) + 0)), (4, .int 0), (0, .ref m0), (1, .int (nI k))]) hx hb dX10_runs_72 hl (k := 4) rfl (nI_add k1 1) (by decide) rfl (fun ls hl => ?_)
        refine lv_goto (tgt := 4) hx hb dX10_runs_75 (by decide) ?_
        exact ihk1 _ _ _ (by omega) ⟨rfl, rfl, (by first | exact lv_sub hl [3, 4, 1, 0] rfl | (simp only [lp_s, mdr_s, if_neg c_1, if_neg c_2, if_neg c_3]; exact lv_sub hl [3, 4, 1, 0] rfl))⟩
      · refine lv_iload hx hb dX10_runs_51 (lv_at hl 0 rfl) ?_
        exact z_zretR hx hb hr hlocks rfl rfl (by subst c_3; exact (if_neg (fun q => c_2 q.1)).symm) dX10_runs_53
    · refine lv_iload_n hx hb dX10_runs_19 rfl (lv_at hl 2 rfl) ?_
      refine lv_aload_n hx hb dX10_runs_20 rfl (lv_at hl 0 rfl) ?_
      refine lv_iload_n hx hb dX10_runs_21 rfl (lv_at hl 3 rfl) ?_
      refine lv_iconst (v := 0) hx hb dX10_runs_22 (by decide) ?_
      refine z_cVi (wc := [zO m0 9 [.ref m1, .ref m2, .ref m3, .ref m4, .ref m5, .ref m6, .ref m7, .int (nI kp), .int fl, .int (nI tn), .ref m8, .int (nI pa), .int (nI rn), .ref m9], zL ct m1 108 n, zL ct m2 540 hy, zL ct m3 108 sl, zL ct m4 108 sp, zD ct m5 33 re, zD ct m6 165 rh, zD ct m7 33 rs, zC ct m8 60 tx, zI ct m9 17 rd]) (As := [.int (nI k1), .int 0]) (rest := [.int (mdr n k1)]) ⟨hx, hb, hml, hown, hts⟩ hK hP [0, 1, 2, 3, 4, 5, 6, 7, 8, 9] rfl (c_X10_ofPump l g ct m0 m1 m2 m3 m4 m5 m6 m7 m8 m9 n hy sl sp re rh rs kp fl tn tx pa rn rd k1 0 (by omega) (by omega)) (cwV 2 hts gX10_runs_X10_ofPump rfl rfl rfl (by decide +kernel) ⟨Nat.le_of_ble_eq_true rfl, Nat.le_of_ble_eq_true rfl⟩) 0 rfl rfl rfl hl.1 rfl (Nat.le_of_ble_eq_true rfl) dX10_runs_23 ⟨Nat.zero_le _, Nat.zero_le _⟩ ?_
      refine lv_iadd hx hb dX10_runs_26 ?_
      refine lv_i2l (v := ((mdr n k1) + ((n (84 + 4 * k1 + 0)).toInt32)).toInt64) hx hb dX10_runs_27 rfl ?_
      refine lv_aload_n hx hb dX10_runs_28 rfl (lv_at hl 0 rfl) ?_
      refine va_get (D := g) (ci := 9) (v := .ref m1) (C := RX10) (T := TX10) (N := 14) hx hb hts hi_wsX100 hown hK hP 0 rfl rfl 0 (by decide) (hts (.fieldLink RX10 7 "FloodBarrierModel" "now" "[J") (List.mem_of_getElem? (i := 1) rfl)) (fun _ h9 => h9) rfl dX10_runs_29 ?_
      refine lv_bipush (v := 6) hx hb dX10_runs_32 (by decide) ?_
      refine z_lald (ct := ct) (f := n) (k := 6) hx hb hK hP 1 rfl (by omega) (by decide) dX10_runs_34 ?_
      refine z_lif_gt (tgt := 43) hx hb dX10_runs_35 dX10_runs_36 (by decide) (fun c_4 => ?_) (fun c_4 => ?_)
      · refine lv_iconst (v := 0) hx hb dX10_runs_43 (by decide) ?_
        refine lv_istore (lv' := [(4, .int 0), (0, .ref m0), (1, .int (nI k)), (2, .int (mdr n k1)), (3, .int (nI k1))]) hx hb dX10_runs_44 hl (by decide) rfl (fun ls hl => ?_)
        refine lv_iload_n hx hb dX10_runs_46 rfl (lv_at hl 4 rfl) ?_
        refine lv_iload_n hx hb dX10_runs_47 rfl (lv_at hl 2 rfl) ?_
        refine z_icN_ne (x := k1) (y := k) (tgt := 54) hx hb (by omega) (by omega) dX10_runs_48 (by decide) (fun c_5 => ?_) (fun c_5 => ?_)
        · refine lv_iload_n hx hb dX10_runs_54 rfl (lv_at hl 3 rfl) ?_
          refine lv_iload hx hb dX10_runs_55 (lv_at hl 0 rfl) ?_
          refine lv_if_eq (tgt := 69) hx hb dX10_runs_57 (by decide) (fun _ => ?_) (fun h => absurd h (by decide))
          refine lv_iconst (v := 0) hx hb dX10_runs_69 (by decide) ?_
          refine lv_iadd hx hb dX10_runs_70 ?_
          refine lv_istore_n (lv' := [(2, .int ((mdr n k1) + 0)), (4, .int 0), (0, .ref m0), (1, .int (nI k)), (3, .int (nI k1))]) hx hb dX10_runs_71 rfl hl (by decide) rfl (fun ls hl => ?_)
          refine lv_iinc (v := nI (k1 + 1)) (lv' := [(3, .int (nI (k1 + 1))), (2, .int ((mdr n k1) + 0)), (4, .int 0), (0, .ref m0), (1, .int (nI k))]) hx hb dX10_runs_72 hl (k := 4) rfl (nI_add k1 1) (by decide) rfl (fun ls hl => ?_)
          refine lv_goto (tgt := 4) hx hb dX10_runs_75 (by decide) ?_
          exact ihk1 _ _ _ (by omega) ⟨rfl, rfl, (by first | exact lv_sub hl [3, 4, 1, 0] rfl | (simp only [lp_s, mdr_s, if_neg c_1, if_pos c_2, if_pos c_4, if_neg c_5]; exact lv_sub hl [3, 4, 1, 0] rfl))⟩
        · refine lv_iload hx hb dX10_runs_51 (lv_at hl 0 rfl) ?_
          exact z_zretR hx hb hr hlocks rfl rfl (by subst c_5; exact (if_neg (fun q => q.2 c_4)).symm) dX10_runs_53
      · refine lv_iconst (v := 1) hx hb dX10_runs_39 (by decide) ?_
        refine lv_goto (tgt := 44) hx hb dX10_runs_40 (by decide) ?_
        refine lv_istore (lv' := [(4, .int 1), (0, .ref m0), (1, .int (nI k)), (2, .int (mdr n k1)), (3, .int (nI k1))]) hx hb dX10_runs_44 hl (by decide) rfl (fun ls hl => ?_)
        refine lv_iload_n hx hb dX10_runs_46 rfl (lv_at hl 4 rfl) ?_
        refine lv_iload_n hx hb dX10_runs_47 rfl (lv_at hl 2 rfl) ?_
        refine z_icN_ne (x := k1) (y := k) (tgt := 54) hx hb (by omega) (by omega) dX10_runs_48 (by decide) (fun c_6 => ?_) (fun c_6 => ?_)
        · refine lv_iload_n hx hb dX10_runs_54 rfl (lv_at hl 3 rfl) ?_
          refine lv_iload hx hb dX10_runs_55 (lv_at hl 0 rfl) ?_
          refine lv_if_eq (tgt := 69) hx hb dX10_runs_57 (by decide) (fun h => absurd h (by decide)) (fun _ => ?_)
          refine lv_aload_n hx hb dX10_runs_60 rfl (lv_at hl 1 rfl) ?_
          refine lv_iload_n hx hb dX10_runs_61 rfl (lv_at hl 4 rfl) ?_
          refine lv_iconst (v := 0) hx hb dX10_runs_62 (by decide) ?_
          refine z_cVi (wc := [zO m0 9 [.ref m1, .ref m2, .ref m3, .ref m4, .ref m5, .ref m6, .ref m7, .int (nI kp), .int fl, .int (nI tn), .ref m8, .int (nI pa), .int (nI rn), .ref m9], zL ct m1 108 n, zL ct m2 540 hy, zL ct m3 108 sl, zL ct m4 108 sp, zD ct m5 33 re, zD ct m6 165 rh, zD ct m7 33 rs, zC ct m8 60 tx, zI ct m9 17 rd]) (As := [.int (nI k1), .int 0]) (rest := [.int (mdr n k1)]) ⟨hx, hb, hml, hown, hts⟩ hK hP [0, 1, 2, 3, 4, 5, 6, 7, 8, 9] rfl (c_X10_ofPump l g ct m0 m1 m2 m3 m4 m5 m6 m7 m8 m9 n hy sl sp re rh rs kp fl tn tx pa rn rd k1 0 (by omega) (by omega)) (cwV 2 hts gX10_runs_X10_ofPump rfl rfl rfl (by decide +kernel) ⟨Nat.le_of_ble_eq_true rfl, Nat.le_of_ble_eq_true rfl⟩) 0 rfl rfl rfl hl.1 rfl (Nat.le_of_ble_eq_true rfl) dX10_runs_63 ⟨Nat.zero_le _, Nat.zero_le _⟩ ?_
          refine lv_goto (tgt := 70) hx hb dX10_runs_66 (by decide) ?_
          refine lv_iadd hx hb dX10_runs_70 ?_
          refine lv_istore_n (lv' := [(2, .int ((mdr n k1) + ((n (84 + 4 * k1 + 0)).toInt32))), (4, .int 1), (0, .ref m0), (1, .int (nI k)), (3, .int (nI k1))]) hx hb dX10_runs_71 rfl hl (by decide) rfl (fun ls hl => ?_)
          refine lv_iinc (v := nI (k1 + 1)) (lv' := [(3, .int (nI (k1 + 1))), (2, .int ((mdr n k1) + ((n (84 + 4 * k1 + 0)).toInt32))), (4, .int 1), (0, .ref m0), (1, .int (nI k))]) hx hb dX10_runs_72 hl (k := 4) rfl (nI_add k1 1) (by decide) rfl (fun ls hl => ?_)
          refine lv_goto (tgt := 4) hx hb dX10_runs_75 (by decide) ?_
          exact ihk1 _ _ _ (by omega) ⟨rfl, rfl, (by first | exact lv_sub hl [3, 4, 1, 0] rfl | (simp only [lp_s, mdr_s, if_neg c_1, if_pos c_2, if_neg c_4, if_neg c_6]; exact lv_sub hl [3, 4, 1, 0] rfl))⟩
        · refine lv_iload hx hb dX10_runs_51 (lv_at hl 0 rfl) ?_
          exact z_zretR hx hb hr hlocks rfl rfl (by subst c_6; exact (if_pos ⟨c_2, c_4⟩).symm) dX10_runs_53

def mpuS (k : Nat) (n : Nat → Int64) : Nat → Int64 :=
  if mrP n (mdr n k) k then foutN (vp_updL n (84 + 4 * k + 3) (n (84 + 4 * k + 3) + 1)) ((vp_updL n (84 + 4 * k + 3) (n (84 + 4 * k + 3) + 1)) (84 + 4 * k + 1)).toInt32.toInt64 17 else vp_updL n 11 (n 11 + 1)
def mpuN (n : Nat → Int64) (k : Nat) : Nat → Int64 := lp mpuS k (vp_updL n 11 0)
theorem mpuN_s (n : Nat → Int64) (k : Nat) : mpuN n (k + 1) = mpuS k (mpuN n k) := rfl
theorem finN_n {n : Nat → Int64} {x : Int64} {w j : Nat} (h : j ≠ 12) (h2 : j ≠ w) : finN n x w j = n j := by
  unfold finN
  rw [pk_uLn (by omega), pk_uLn (by omega)]
theorem foutN_n {n : Nat → Int64} {x : Int64} {w j : Nat} (h : j ≠ 12) (h2 : j ≠ w) : foutN n x w j = n j := by
  unfold foutN
  rw [pk_uLn (by omega), pk_uLn (by omega)]
theorem mpuS_n {n : Nat → Int64} {k j : Nat} (h : j ≠ 12) (h2 : j ≠ 17) (h3 : j ≠ 11) (h4 : j ≠ 84 + 4 * k + 3) : mpuS k n j = n j := by
  unfold mpuS
  by_cases c : mrP n (mdr n k) k
  · rw [if_pos c, foutN_n h h2, pk_uLn (by omega)]
  · rw [if_neg c, pk_uLn (by omega)]
theorem mpuN_n {n : Nat → Int64} {m j : Nat} (h : j ≠ 12) (h2 : j ≠ 17) (h3 : j ≠ 11) (h4 : ∀ k, k < m → j ≠ 84 + 4 * k + 3) : mpuN n m j = n j := by
  unfold mpuN
  induction m with
  | zero => exact pk_uLn (by omega)
  | succ m ih => rw [lp_s, mpuS_n h h2 h3 (h4 m (by omega)), ih (fun k hk => h4 k (by omega))]

set_option maxHeartbeats 4000000 in
set_option maxRecDepth 100000 in
theorem c_X10_pumps (l : Launch) (g : va_G) (ct : Nat → ClassId) (sz : Nat) (m0 m1 m2 m3 m4 m5 m6 m7 m8 m9 : Nat) (n hy sl sp : Nat → Int64) (re rh rs : Nat → UInt64) (kp : Nat) (fl : Int32) (tn : Nat) (tx : Nat → Int32) (pa rn : Nat) (rd : Nat → Int32) (nP : Nat) (hnP : nP ≤ 6) (hn10 : n 10 = lN nP) : Met l yX10_pumps wsX10_pumps (zRm 3 67) (va_Pc [.ref m0] (zW g ct [zO m0 9 [.ref m1, .ref m2, .ref m3, .ref m4, .ref m5, .ref m6, .ref m7, .int (nI kp), .int fl, .int (nI tn), .ref m8, .int (nI pa), .int (nI rn), .ref m9], zL ct m1 108 n, zL ct m2 540 hy, zL ct m3 108 sl, zL ct m4 108 sp, zD ct m5 33 re, zD ct m6 165 rh, zD ct m7 33 rs, zC ct m8 60 tx, zI ct m9 17 rd] sz)) (zQv g [zO m0 9 [.ref m1, .ref m2, .ref m3, .ref m4, .ref m5, .ref m6, .ref m7, .int (nI kp), .int fl, .int (nI tn), .ref m8, .int (nI pa), .int (nI rn), .ref m9], zL ct m1 108 (mpuN n nP), zL ct m2 540 hy, zL ct m3 108 sl, zL ct m4 108 sp, zD ct m5 33 re, zD ct m6 165 rh, zD ct m7 33 rs, zC ct m8 60 tx, zI ct m9 17 rd] (va_A [zO m0 9 [.ref m1, .ref m2, .ref m3, .ref m4, .ref m5, .ref m6, .ref m7, .int (nI kp), .int fl, .int (nI tn), .ref m8, .int (nI pa), .int (nI rn), .ref m9], zL ct m1 108 n, zL ct m2 540 hy, zL ct m3 108 sl, zL ct m4 108 sp, zD ct m5 33 re, zD ct m6 165 rh, zD ct m7 33 rs, zC ct m8 60 tx, zI ct m9 17 rd] sz)) 0 0 (va_A [zO m0 9 [.ref m1, .ref m2, .ref m3, .ref m4, .ref m5, .ref m6, .ref m7, .int (nI kp), .int fl, .int (nI tn), .ref m8, .int (nI pa), .int (nI rn), .ref m9], zL ct m1 108 n, zL ct m2 540 hy, zL ct m3 108 sl, zL ct m4 108 sp, zD ct m5 33 re, zD ct m6 165 rh, zD ct m7 33 rs, zC ct m8 60 tx, zI ct m9 17 rd] sz) := by
  refine z_write (QA := zQv g [zO m0 9 [.ref m1, .ref m2, .ref m3, .ref m4, .ref m5, .ref m6, .ref m7, .int (nI kp), .int fl, .int (nI tn), .ref m8, .int (nI pa), .int (nI rn), .ref m9], zL ct m1 108 (mpuN n nP), zL ct m2 540 hy, zL ct m3 108 sl, zL ct m4 108 sp, zD ct m5 33 re, zD ct m6 165 rh, zD ct m7 33 rs, zC ct m8 60 tx, zI ct m9 17 rd]) (cc := cX10_pumps) (maxL := 2) (ret := none) (by decide) rfl (Nat.le_of_ble_eq_true rfl) ?_
  intro p e s m below meth c ls A hx hb hr hml hts hown hlocks hin hP hK hD hNW hA hS hl
  have hown : s.vm.findClass RX10 = some m.cls := hown
  have hl : lv_has ls 2 [(0, .ref m0)] := hl
  have hi_wsX100 : ∀ w ∈ wsX100, w ∈ wsX10_pumps := fun w h => List.mem_cons_of_mem _ (List.mem_append_right _ h)
  refine lv_aload_n hx hb dX10_pumps_0 rfl (lv_at hl 0 rfl) ?_
  refine va_get (D := g) (ci := 9) (v := .ref m1) (C := RX10) (T := TX10) (N := 14) hx hb hts hi_wsX100 hown hK hP 0 rfl rfl 0 (by decide) (hts (.fieldLink RX10 7 "FloodBarrierModel" "now" "[J") (List.mem_of_getElem? (i := 1) rfl)) (fun _ h9 => h9) rfl dX10_pumps_1 ?_
  refine lv_bipush (v := 11) hx hb dX10_pumps_4 (by decide) ?_
  refine lv_lconst (v := 0) hx hb dX10_pumps_6 (by decide) ?_
  refine z_last (ct := ct) (f := n) (k := 11) (x := 0) hx hb hK hP hD hS 1 rfl (by omega) (by decide) dX10_pumps_7 (fun H locs hP hD hS => ?_)
  have hP : va_P g vwCl [zO m0 9 [.ref m1, .ref m2, .ref m3, .ref m4, .ref m5, .ref m6, .ref m7, .int (nI kp), .int fl, .int (nI tn), .ref m8, .int (nI pa), .int (nI rn), .ref m9], zL ct m1 108 (vp_updL n 11 0), zL ct m2 540 hy, zL ct m3 108 sl, zL ct m4 108 sp, zD ct m5 33 re, zD ct m6 165 rh, zD ct m7 33 rs, zC ct m8 60 tx, zI ct m9 17 rd] H := hP
  have hD : va_D A [zO m0 9 [.ref m1, .ref m2, .ref m3, .ref m4, .ref m5, .ref m6, .ref m7, .int (nI kp), .int fl, .int (nI tn), .ref m8, .int (nI pa), .int (nI rn), .ref m9], zL ct m1 108 (vp_updL n 11 0), zL ct m2 540 hy, zL ct m3 108 sl, zL ct m4 108 sp, zD ct m5 33 re, zD ct m6 165 rh, zD ct m7 33 rs, zC ct m8 60 tx, zI ct m9 17 rd] := hD
  refine lv_iconst (v := 0) hx hb dX10_pumps_8 (by decide) ?_
  refine lv_istore_n (lv' := [(1, .int 0), (0, .ref m0)]) hx hb dX10_pumps_9 rfl hl (by decide) rfl (fun ls hl => ?_)
  refine z_loop nP (fun k1 H locs ls => va_P g vwCl [zO m0 9 [.ref m1, .ref m2, .ref m3, .ref m4, .ref m5, .ref m6, .ref m7, .int (nI kp), .int fl, .int (nI tn), .ref m8, .int (nI pa), .int (nI rn), .ref m9], zL ct m1 108 (mpuN n k1), zL ct m2 540 hy, zL ct m3 108 sl, zL ct m4 108 sp, zD ct m5 33 re, zD ct m6 165 rh, zD ct m7 33 rs, zC ct m8 60 tx, zI ct m9 17 rd] H ∧ va_D A [zO m0 9 [.ref m1, .ref m2, .ref m3, .ref m4, .ref m5, .ref m6, .ref m7, .int (nI kp), .int fl, .int (nI tn), .ref m8, .int (nI pa), .int (nI rn), .ref m9], zL ct m1 108 (mpuN n k1), zL ct m2 540 hy, zL ct m3 108 sl, zL ct m4 108 sp, zD ct m5 33 re, zD ct m6 165 rh, zD ct m7 33 rs, zC ct m8 60 tx, zI ct m9 17 rd] ∧ va_S A s.heap H locs ∧ lv_has ls 2 [(0, .ref m0), (1, .int (nI k1))]) ⟨hP, hD, hS, lv_sub hl [1, 0] rfl⟩ ?_
  intro k1 H locs ls hkk1 hI ihk1
  obtain ⟨hP, hD, hS, hl⟩ := hI
  refine lv_iload_n hx hb dX10_pumps_10 rfl (lv_at hl 1 rfl) ?_
  refine lv_i2l (v := lN k1) hx hb dX10_pumps_11 (nI_l (by omega)) ?_
  refine lv_aload_n hx hb dX10_pumps_12 rfl (lv_at hl 0 rfl) ?_
  refine va_get (D := g) (ci := 9) (v := .ref m1) (C := RX10) (T := TX10) (N := 14) hx hb hts hi_wsX100 hown hK hP 0 rfl rfl 0 (by decide) (hts (.fieldLink RX10 7 "FloodBarrierModel" "now" "[J") (List.mem_of_getElem? (i := 1) rfl)) (fun _ h9 => h9) rfl dX10_pumps_13 ?_
  refine lv_bipush (v := 10) hx hb dX10_pumps_16 (by decide) ?_
  refine z_lald (ct := ct) (f := (mpuN n k1)) (k := 10) hx hb hK hP 1 rfl (by omega) (by decide) dX10_pumps_18 ?_
  rw [(show (mpuN n k1) 10 = lN nP from by rw [mpuN_n (by decide) (by decide) (by decide) (fun k _ => by omega)]; exact hn10)]
  refine z_lcN_ge (x := k1) (y := nP) (tgt := 81) hx hb (by omega) (by omega) dX10_pumps_19 dX10_pumps_20 (by decide) (fun c_1 => ?_) (fun c_1 => ?_)
  · have hkn : nP = k1 := by omega
    subst hkn
    exact z_vretW hx hb hr hlocks hS hP hD rfl (Nat.le_refl _) (Nat.le_refl _) dX10_pumps_81
  · refine lv_aload_n hx hb dX10_pumps_23 rfl (lv_at hl 0 rfl) ?_
    refine lv_iload_n hx hb dX10_pumps_24 rfl (lv_at hl 1 rfl) ?_
    refine z_cVi (wc := [zO m0 9 [.ref m1, .ref m2, .ref m3, .ref m4, .ref m5, .ref m6, .ref m7, .int (nI kp), .int fl, .int (nI tn), .ref m8, .int (nI pa), .int (nI rn), .ref m9], zL ct m1 108 (mpuN n k1), zL ct m2 540 hy, zL ct m3 108 sl, zL ct m4 108 sp, zD ct m5 33 re, zD ct m6 165 rh, zD ct m7 33 rs, zC ct m8 60 tx, zI ct m9 17 rd]) (As := [.int (nI k1)]) (rest := []) ⟨hx, hb, hml, hown, hts⟩ hK hP [0, 1, 2, 3, 4, 5, 6, 7, 8, 9] rfl (c_X10_runs l g ct m0 m1 m2 m3 m4 m5 m6 m7 m8 m9 (mpuN n k1) hy sl sp re rh rs kp fl tn tx pa rn rd k1 (by omega)) (cwV 1 hts gX10_pumps_X10_runs rfl rfl rfl (by decide +kernel) ⟨Nat.le_of_ble_eq_true rfl, Nat.le_of_ble_eq_true rfl⟩) 0 rfl rfl rfl hl.1 rfl (Nat.le_of_ble_eq_true rfl) dX10_pumps_25 ⟨Nat.zero_le _, Nat.zero_le _⟩ ?_
    refine z_bif_eq (P := (mrP (mpuN n k1) (mdr (mpuN n k1) k1) k1)) (tgt := 64) hx hb dX10_pumps_28 (by decide) (fun c_2 => ?_) (fun c_2 => ?_)
    · refine lv_aload_n hx hb dX10_pumps_64 rfl (lv_at hl 0 rfl) ?_
      refine va_get (D := g) (ci := 9) (v := .ref m1) (C := RX10) (T := TX10) (N := 14) hx hb hts hi_wsX100 hown hK hP 0 rfl rfl 0 (by decide) (hts (.fieldLink RX10 7 "FloodBarrierModel" "now" "[J") (List.mem_of_getElem? (i := 1) rfl)) (fun _ h9 => h9) rfl dX10_pumps_65 ?_
      refine lv_bipush (v := 11) hx hb dX10_pumps_68 (by decide) ?_
      refine lv_dup2_11 hx hb dX10_pumps_70 rfl rfl ?_
      refine z_lald (ct := ct) (f := (mpuN n k1)) (k := 11) hx hb hK hP 1 rfl (by omega) (by decide) dX10_pumps_71 ?_
      refine lv_lconst (v := 1) hx hb dX10_pumps_72 (by decide) ?_
      refine lv_ladd hx hb dX10_pumps_73 ?_
      refine z_last (ct := ct) (f := (mpuN n k1)) (k := 11) (x := (((mpuN n k1) 11) + 1)) hx hb hK hP hD hS 1 rfl (by omega) (by decide) dX10_pumps_74 (fun H locs hP hD hS => ?_)
      have hP : va_P g vwCl [zO m0 9 [.ref m1, .ref m2, .ref m3, .ref m4, .ref m5, .ref m6, .ref m7, .int (nI kp), .int fl, .int (nI tn), .ref m8, .int (nI pa), .int (nI rn), .ref m9], zL ct m1 108 (vp_updL (mpuN n k1) 11 (((mpuN n k1) 11) + 1)), zL ct m2 540 hy, zL ct m3 108 sl, zL ct m4 108 sp, zD ct m5 33 re, zD ct m6 165 rh, zD ct m7 33 rs, zC ct m8 60 tx, zI ct m9 17 rd] H := hP
      have hD : va_D A [zO m0 9 [.ref m1, .ref m2, .ref m3, .ref m4, .ref m5, .ref m6, .ref m7, .int (nI kp), .int fl, .int (nI tn), .ref m8, .int (nI pa), .int (nI rn), .ref m9], zL ct m1 108 (vp_updL (mpuN n k1) 11 (((mpuN n k1) 11) + 1)), zL ct m2 540 hy, zL ct m3 108 sl, zL ct m4 108 sp, zD ct m5 33 re, zD ct m6 165 rh, zD ct m7 33 rs, zC ct m8 60 tx, zI ct m9 17 rd] := hD
      refine lv_iinc (v := nI (k1 + 1)) (lv' := [(1, .int (nI (k1 + 1))), (0, .ref m0)]) hx hb dX10_pumps_75 hl (k := 1) rfl (nI_add k1 1) (by decide) rfl (fun ls hl => ?_)
      refine lv_goto (tgt := 10) hx hb dX10_pumps_78 (by decide) ?_
      exact ihk1 _ _ _ (by omega) ⟨(by first | exact hP | (simp only [lp_s, mpuN_s, mpuS, if_pos c_1, if_neg c_2]; exact hP)), (by first | exact hD | (simp only [lp_s, mpuN_s, mpuS, if_pos c_1, if_neg c_2]; exact hD)), hS, (by first | exact lv_sub hl [1, 0] rfl | (simp only [lp_s, mpuN_s, mpuS, if_pos c_1, if_neg c_2]; exact lv_sub hl [1, 0] rfl))⟩
    · refine lv_aload_n hx hb dX10_pumps_31 rfl (lv_at hl 0 rfl) ?_
      refine va_get (D := g) (ci := 9) (v := .ref m1) (C := RX10) (T := TX10) (N := 14) hx hb hts hi_wsX100 hown hK hP 0 rfl rfl 0 (by decide) (hts (.fieldLink RX10 7 "FloodBarrierModel" "now" "[J") (List.mem_of_getElem? (i := 1) rfl)) (fun _ h9 => h9) rfl dX10_pumps_32 ?_
      refine lv_bipush (v := 84) hx hb dX10_pumps_35 (by decide) ?_
      refine lv_iconst (v := 4) hx hb dX10_pumps_37 (by decide) ?_
      refine lv_iload_n hx hb dX10_pumps_38 rfl (lv_at hl 1 rfl) ?_
      refine z_imulN (x := 4) (y := k1) hx hb dX10_pumps_39 ?_
      refine z_iaddN (x := 84) (y := (4 * k1)) hx hb dX10_pumps_40 ?_
      refine lv_iconst (v := 3) hx hb dX10_pumps_41 (by decide) ?_
      refine z_iaddN (x := (84 + (4 * k1))) (y := 3) hx hb dX10_pumps_42 ?_
      refine lv_dup2_11 hx hb dX10_pumps_43 rfl rfl ?_
      refine z_lald (ct := ct) (f := (mpuN n k1)) (k := ((84 + (4 * k1)) + 3)) hx hb hK hP 1 rfl (by omega) (by decide) dX10_pumps_44 ?_
      refine lv_lconst (v := 1) hx hb dX10_pumps_45 (by decide) ?_
      refine lv_ladd hx hb dX10_pumps_46 ?_
      refine z_last (ct := ct) (f := (mpuN n k1)) (k := ((84 + (4 * k1)) + 3)) (x := (((mpuN n k1) ((84 + (4 * k1)) + 3)) + 1)) hx hb hK hP hD hS 1 rfl (by omega) (by decide) dX10_pumps_47 (fun H locs hP hD hS => ?_)
      have hP : va_P g vwCl [zO m0 9 [.ref m1, .ref m2, .ref m3, .ref m4, .ref m5, .ref m6, .ref m7, .int (nI kp), .int fl, .int (nI tn), .ref m8, .int (nI pa), .int (nI rn), .ref m9], zL ct m1 108 (vp_updL (mpuN n k1) ((84 + (4 * k1)) + 3) (((mpuN n k1) ((84 + (4 * k1)) + 3)) + 1)), zL ct m2 540 hy, zL ct m3 108 sl, zL ct m4 108 sp, zD ct m5 33 re, zD ct m6 165 rh, zD ct m7 33 rs, zC ct m8 60 tx, zI ct m9 17 rd] H := hP
      have hD : va_D A [zO m0 9 [.ref m1, .ref m2, .ref m3, .ref m4, .ref m5, .ref m6, .ref m7, .int (nI kp), .int fl, .int (nI tn), .ref m8, .int (nI pa), .int (nI rn), .ref m9], zL ct m1 108 (vp_updL (mpuN n k1) ((84 + (4 * k1)) + 3) (((mpuN n k1) ((84 + (4 * k1)) + 3)) + 1)), zL ct m2 540 hy, zL ct m3 108 sl, zL ct m4 108 sp, zD ct m5 33 re, zD ct m6 165 rh, zD ct m7 33 rs, zC ct m8 60 tx, zI ct m9 17 rd] := hD
      refine lv_aload_n hx hb dX10_pumps_48 rfl (lv_at hl 0 rfl) ?_
      refine lv_aload_n hx hb dX10_pumps_49 rfl (lv_at hl 0 rfl) ?_
      refine lv_iload_n hx hb dX10_pumps_50 rfl (lv_at hl 1 rfl) ?_
      refine lv_iconst (v := 1) hx hb dX10_pumps_51 (by decide) ?_
      refine z_cVi (wc := [zO m0 9 [.ref m1, .ref m2, .ref m3, .ref m4, .ref m5, .ref m6, .ref m7, .int (nI kp), .int fl, .int (nI tn), .ref m8, .int (nI pa), .int (nI rn), .ref m9], zL ct m1 108 (vp_updL (mpuN n k1) ((84 + (4 * k1)) + 3) (((mpuN n k1) ((84 + (4 * k1)) + 3)) + 1)), zL ct m2 540 hy, zL ct m3 108 sl, zL ct m4 108 sp, zD ct m5 33 re, zD ct m6 165 rh, zD ct m7 33 rs, zC ct m8 60 tx, zI ct m9 17 rd]) (As := [.int (nI k1), .int 1]) (rest := [.ref m0]) ⟨hx, hb, hml, hown, hts⟩ hK hP [0, 1, 2, 3, 4, 5, 6, 7, 8, 9] rfl (c_X10_ofPump l g ct m0 m1 m2 m3 m4 m5 m6 m7 m8 m9 (vp_updL (mpuN n k1) ((84 + (4 * k1)) + 3) (((mpuN n k1) ((84 + (4 * k1)) + 3)) + 1)) hy sl sp re rh rs kp fl tn tx pa rn rd k1 1 (by omega) (by omega)) (cwV 2 hts gX10_pumps_X10_ofPump rfl rfl rfl (by decide +kernel) ⟨Nat.le_of_ble_eq_true rfl, Nat.le_of_ble_eq_true rfl⟩) 0 rfl rfl rfl hl.1 rfl (Nat.le_of_ble_eq_true rfl) dX10_pumps_52 ⟨Nat.zero_le _, Nat.zero_le _⟩ ?_
      refine lv_i2l (v := (((vp_updL (mpuN n k1) ((84 + (4 * k1)) + 3) (((mpuN n k1) ((84 + (4 * k1)) + 3)) + 1)) (84 + 4 * k1 + 1)).toInt32).toInt64) hx hb dX10_pumps_55 rfl ?_
      refine lv_bipush (v := 17) hx hb dX10_pumps_56 (by decide) ?_
      refine z_wVv (wc := [zO m0 9 [.ref m1, .ref m2, .ref m3, .ref m4, .ref m5, .ref m6, .ref m7, .int (nI kp), .int fl, .int (nI tn), .ref m8, .int (nI pa), .int (nI rn), .ref m9], zL ct m1 108 (vp_updL (mpuN n k1) ((84 + (4 * k1)) + 3) (((mpuN n k1) ((84 + (4 * k1)) + 3)) + 1)), zL ct m2 540 hy, zL ct m3 108 sl, zL ct m4 108 sp, zD ct m5 33 re, zD ct m6 165 rh, zD ct m7 33 rs, zC ct m8 60 tx, zI ct m9 17 rd]) (wr := []) (w2 := [zO m0 9 [.ref m1, .ref m2, .ref m3, .ref m4, .ref m5, .ref m6, .ref m7, .int (nI kp), .int fl, .int (nI tn), .ref m8, .int (nI pa), .int (nI rn), .ref m9], zL ct m1 108 (foutN (vp_updL (mpuN n k1) ((84 + (4 * k1)) + 3) (((mpuN n k1) ((84 + (4 * k1)) + 3)) + 1)) ((((vp_updL (mpuN n k1) ((84 + (4 * k1)) + 3) (((mpuN n k1) ((84 + (4 * k1)) + 3)) + 1)) (84 + 4 * k1 + 1)).toInt32).toInt64) 17), zL ct m2 540 hy, zL ct m3 108 sl, zL ct m4 108 sp, zD ct m5 33 re, zD ct m6 165 rh, zD ct m7 33 rs, zC ct m8 60 tx, zI ct m9 17 rd]) (As := [.long ((((vp_updL (mpuN n k1) ((84 + (4 * k1)) + 3) (((mpuN n k1) ((84 + (4 * k1)) + 3)) + 1)) (84 + 4 * k1 + 1)).toInt32).toInt64), .int 17]) (rest := []) ⟨hx, hb, hml, hown, hts⟩ hK hP hD hS hNW hA [0, 1, 2, 3, 4, 5, 6, 7, 8, 9] [] [0, 1, 2, 3, 4, 5, 6, 7, 8, 9] rfl rfl rfl rfl rfl rfl (by decide) (c_X10_flowsOut l g ct _ m0 m1 m2 m3 m4 m5 m6 m7 m8 m9 (vp_updL (mpuN n k1) ((84 + (4 * k1)) + 3) (((mpuN n k1) ((84 + (4 * k1)) + 3)) + 1)) hy sl sp re rh rs kp fl tn tx pa rn rd ((((vp_updL (mpuN n k1) ((84 + (4 * k1)) + 3) (((mpuN n k1) ((84 + (4 * k1)) + 3)) + 1)) (84 + 4 * k1 + 1)).toInt32).toInt64) 17 (by omega)) (cwV 2 hts gX10_pumps_X10_flowsOut rfl rfl rfl (by decide +kernel) ⟨Nat.le_of_ble_eq_true rfl, Nat.le_of_ble_eq_true rfl⟩) 0 rfl rfl rfl hl.1 rfl (Nat.le_of_ble_eq_true rfl) dX10_pumps_58 ⟨Nat.zero_le _, Nat.zero_le _⟩ (fun H locs hP hD hS => ?_)
      refine lv_goto (tgt := 75) hx hb dX10_pumps_61 (by decide) ?_
      refine lv_iinc (v := nI (k1 + 1)) (lv' := [(1, .int (nI (k1 + 1))), (0, .ref m0)]) hx hb dX10_pumps_75 hl (k := 1) rfl (nI_add k1 1) (by decide) rfl (fun ls hl => ?_)
      refine lv_goto (tgt := 10) hx hb dX10_pumps_78 (by decide) ?_
      exact ihk1 _ _ _ (by omega) ⟨(by first | exact hP | (simp only [lp_s, mpuN_s, mpuS, if_pos c_1, if_pos c_2]; exact hP)), (by first | exact hD | (simp only [lp_s, mpuN_s, mpuS, if_pos c_1, if_pos c_2]; exact hD)), hS, (by first | exact lv_sub hl [1, 0] rfl | (simp only [lp_s, mpuN_s, mpuS, if_pos c_1, if_pos c_2]; exact lv_sub hl [1, 0] rfl))⟩
