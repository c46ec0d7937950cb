def mhy (hy n : Nat → Int64) (kp : Nat) : Nat → Int64 := if kp = 5 then cpb (shb hy 108 432) n (108 * 4) 108 else cpb hy n (108 * kp) 108
def mrh (rh re : Nat → UInt64) (kp : Nat) : Nat → UInt64 := if kp = 5 then cpb (shb rh 33 132) re (33 * 4) 33 else cpb rh re (33 * kp) 33
def mkp (kp : Nat) : Nat := if kp = 5 then 5 else kp + 1

set_option maxHeartbeats 4000000 in
set_option maxRecDepth 100000 in
theorem c_X10_record (l : Launch) (g : va_G) (ct : Nat → ClassId) (sz : Nat) (m0 m1 m2 m3 m4 m5 m6 m7 m8 m9 : Nat) (n hy sl sp : Nat → Int64) (re rh rs : Nat → UInt64) (kp : Nat) (fl : Int32) (tn : Nat) (tx : Nat → Int32) (pa rn : Nat) (rd : Nat → Int32) (hkp : kp ≤ 5) : Met l yX10_record wsX10_record (zRm 0 0) (va_Pc [.ref m0] (zW g ct [zO m0 9 [.ref m1, .ref m2, .ref m3, .ref m4, .ref m5, .ref m6, .ref m7, .int (nI kp), .int fl, .int (nI tn), .ref m8, .int (nI pa), .int (nI rn), .ref m9], zL ct m1 108 n, zL ct m2 540 hy, zL ct m3 108 sl, zL ct m4 108 sp, zD ct m5 33 re, zD ct m6 165 rh, zD ct m7 33 rs, zC ct m8 60 tx, zI ct m9 17 rd] sz)) (zQv g [zO m0 9 [.ref m1, .ref m2, .ref m3, .ref m4, .ref m5, .ref m6, .ref m7, .int (nI (mkp kp)), .int fl, .int (nI tn), .ref m8, .int (nI pa), .int (nI rn), .ref m9], zL ct m1 108 n, zL ct m2 540 (mhy hy n kp), zL ct m3 108 sl, zL ct m4 108 sp, zD ct m5 33 re, zD ct m6 165 (mrh rh re kp), zD ct m7 33 rs, zC ct m8 60 tx, zI ct m9 17 rd] (va_A [zO m0 9 [.ref m1, .ref m2, .ref m3, .ref m4, .ref m5, .ref m6, .ref m7, .int (nI kp), .int fl, .int (nI tn), .ref m8, .int (nI pa), .int (nI rn), .ref m9], zL ct m1 108 n, zL ct m2 540 hy, zL ct m3 108 sl, zL ct m4 108 sp, zD ct m5 33 re, zD ct m6 165 rh, zD ct m7 33 rs, zC ct m8 60 tx, zI ct m9 17 rd] sz)) 0 0 (va_A [zO m0 9 [.ref m1, .ref m2, .ref m3, .ref m4, .ref m5, .ref m6, .ref m7, .int (nI kp), .int fl, .int (nI tn), .ref m8, .int (nI pa), .int (nI rn), .ref m9], zL ct m1 108 n, zL ct m2 540 hy, zL ct m3 108 sl, zL ct m4 108 sp, zD ct m5 33 re, zD ct m6 165 rh, zD ct m7 33 rs, zC ct m8 60 tx, zI ct m9 17 rd] sz) := by
  by_cases h : kp = 5
  · subst h
    have e1 : mhy hy n 5 = cpb (shb hy 108 432) n (108 * 4) 108 := if_pos rfl
    have e2 : mrh rh re 5 = cpb (shb rh 33 132) re (33 * 4) 33 := if_pos rfl
    have e3 : mkp 5 = 4 + 1 := if_pos rfl
    rw [e1, e2, e3]
    exact c_X10_record_5 l g ct sz m0 m1 m2 m3 m4 m5 m6 m7 m8 m9 n hy sl sp re rh rs fl tn tx pa rn rd
  · have e1 : mhy hy n kp = cpb hy n (108 * kp) 108 := if_neg h
    have e2 : mrh rh re kp = cpb rh re (33 * kp) 33 := if_neg h
    have e3 : mkp kp = kp + 1 := if_neg h
    rw [e1, e2, e3]
    exact c_X10_record_l l g ct sz m0 m1 m2 m3 m4 m5 m6 m7 m8 m9 n hy sl sp re rh rs kp fl tn tx pa rn rd (by omega)

theorem z_snl {x : Int64} (h : x &&& 9223372036854775807 ≤ 9218868437227405312) : vn_snl2d x = false := by
  have h1 := (nu_mle (c := 9218868437227405312) (by decide)).mp h
  have h2 : ¬ (x.toUInt64 &&& 0x7fffffffffffffff > 0x7ff0000000000000) := by
    rw [gt_iff_lt, UInt64.lt_iff_toNat_lt, nu_and]
    exact Nat.not_lt.mpr h1
  unfold vn_snl2d
  simp only [h2, decide_false, Bool.false_and]
abbrev isLvP (x : Int64) (lo hi : UInt64) : Prop := x &&& 9223372036854775807 ≤ 9218868437227405312 ∧ ¬ Op.cmpValue (FP.dcmp x.toUInt64 lo) CmpOp.l < 0 ∧ ¬ 0 < Op.cmpValue (FP.dcmp x.toUInt64 hi) CmpOp.g

set_option maxHeartbeats 4000000 in
set_option maxRecDepth 100000 in
theorem c_X10_isLevel (l : Launch) (x : Int64) (lo hi : UInt64) : Met l yX10_isLevel wsX10_isLevel (zRm 1 25) (va_Pc [.long x, .double lo, .double hi] (fun _ => True)) (vp_Si (fun r => r = if isLvP x lo hi then 1 else 0)) 0 0 (fun _ => False) := by
  refine z_stat (cc := cX10_isLevel) (maxL := 8) (ret := some .boolean) (by decide) rfl (Nat.le_of_ble_eq_true rfl) ?_
  intro p e s m below meth c ls hx hb hr hml hts hown hlocks hl
  have hown : s.vm.findClass RX10 = some m.cls := hown
  have hl : lv_has ls 8 [(0, .long x), (2, .double lo), (4, .double hi)] := hl
  refine lv_lload_n hx hb dX10_isLevel_0 rfl (lv_at hl 0 rfl) ?_
  refine lv_ldc2 (v := 9223372036854775807) hx hb hown (hts (.constantLong RX10 58 (9223372036854775807)) (List.mem_of_getElem? (i := 1) rfl)) dX10_isLevel_1 ?_
  refine lv_land hx hb dX10_isLevel_4 ?_
  refine lv_ldc2 (v := 9218868437227405312) hx hb hown (hts (.constantLong RX10 60 (9218868437227405312)) (List.mem_of_getElem? (i := 2) rfl)) dX10_isLevel_5 ?_
  refine z_lif_le (tgt := 14) hx hb dX10_isLevel_8 dX10_isLevel_9 (by decide) (fun c_1 => ?_) (fun c_1 => ?_)
  · refine lv_lload_n hx hb dX10_isLevel_14 rfl (lv_at hl 0 rfl) ?_
    refine vn_l2d hx hb (hml.trans hl.1.symm) hown (hts (.methodLink RX10 62 ⟨"java/lang/Double", "longBitsToDouble", "(J)D"⟩) (List.mem_of_getElem? (i := 3) rfl)) (hts (.native ⟨"java/lang/Double", "longBitsToDouble", "(J)D"⟩) (List.mem_of_getElem? (i := 4) rfl)) (hts (.static ⟨"java/lang/Double", "longBitsToDouble", "(J)D"⟩) (List.mem_of_getElem? (i := 5) rfl)) (hts (.initialized "java/lang/Double") (List.mem_of_getElem? (i := 6) rfl)) (z_snl c_1) (Nat.le_of_ble_eq_true rfl) (Nat.le_of_ble_eq_true rfl) dX10_isLevel_15 ?_
    refine lv_dstore (lv' := [(6, .double x.toUInt64), (0, .long x), (2, .double lo), (4, .double hi)]) hx hb dX10_isLevel_18 hl (by decide) rfl (fun ls hl => ?_)
    refine lv_dload hx hb dX10_isLevel_20 (lv_at hl 0 rfl) ?_
    refine lv_dload_n hx hb dX10_isLevel_22 rfl (lv_at hl 2 rfl) ?_
    refine lv_dcmp hx hb dX10_isLevel_23 ?_
    refine lv_if_lt (tgt := 39) hx hb dX10_isLevel_24 (by decide) (fun c_2 => ?_) (fun c_2 => ?_)
    · refine lv_iconst (v := 0) hx hb dX10_isLevel_39 (by decide) ?_
      exact z_zretR hx hb hr hlocks rfl rfl (by simp [c_1, c_2]) dX10_isLevel_40
    · refine lv_dload hx hb dX10_isLevel_27 (lv_at hl 0 rfl) ?_
      refine lv_dload hx hb dX10_isLevel_29 (lv_at hl 3 rfl) ?_
      refine lv_dcmp hx hb dX10_isLevel_31 ?_
      refine lv_if_gt (tgt := 39) hx hb dX10_isLevel_32 (by decide) (fun c_3 => ?_) (fun c_3 => ?_)
      · refine lv_iconst (v := 0) hx hb dX10_isLevel_39 (by decide) ?_
        exact z_zretR hx hb hr hlocks rfl rfl (by simp [c_1, c_2, c_3]) dX10_isLevel_40
      · refine lv_iconst (v := 1) hx hb dX10_isLevel_35 (by decide) ?_
        refine lv_goto (tgt := 40) hx hb dX10_isLevel_36 (by decide) ?_
        exact z_zretR hx hb hr hlocks rfl rfl (by simp [c_1, c_2, c_3]) dX10_isLevel_40
  · refine lv_iconst (v := 0) hx hb dX10_isLevel_12 (by decide) ?_
    exact z_zretR hx hb hr hlocks rfl rfl (by simp [c_1]) dX10_isLevel_13
