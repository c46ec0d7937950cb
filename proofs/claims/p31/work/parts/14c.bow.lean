def boW (x : Int32) (j : Nat) : UInt64 := lp (fun _ w => FP.dmul w 4611686018427387904) j (FP.dmul (FP.ddiv (FP.i2d (if 0 ≤ x then x else 0 - x)) 4621819117588971520) (FP.l2d ((1 : Int64) <<< ((49 : Int32).toInt64 &&& 63))))
def boS (x : Int32) (K : Nat) : Int64 := (1075 - nI (49 + K)).toInt64 <<< ((52 : Int32).toInt64 &&& 63) ||| FP.d2l (boW x K) &&& 4503599627370495
def boZ (x : Int32) (K : Nat) : Int64 := if 0 ≤ x then boS x K else boS x K ||| (-9223372036854775808)
def boK (x : Int32) : Nat := if 80 ≤ (if 0 ≤ x then x else 0 - x) then 0 else if 40 ≤ (if 0 ≤ x then x else 0 - x) then 1 else if 20 ≤ (if 0 ≤ x then x else 0 - x) then 2 else if 10 ≤ (if 0 ≤ x then x else 0 - x) then 3 else if 5 ≤ (if 0 ≤ x then x else 0 - x) then 4 else if 3 ≤ (if 0 ≤ x then x else 0 - x) then 5 else if 2 ≤ (if 0 ≤ x then x else 0 - x) then 6 else 7
abbrev boN (r : UInt64) : Prop := r &&& 0x7fffffffffffffff ≤ 0x7ff0000000000000
abbrev boD (x : Int32) (j : Nat) : Prop := 0 ≤ Op.cmpValue (FP.dcmp (boW x j) 4841369599423283200) CmpOp.g
theorem bo_all : ∀ i : Fin 199, ¬ nI i.val - 99 = 0 → boK (nI i.val - 99) ≤ 11 ∧ (∀ j, j < boK (nI i.val - 99) → ¬ boD (nI i.val - 99) j) ∧ boD (nI i.val - 99) (boK (nI i.val - 99)) ∧ boN (FP.ddiv (FP.i2d (if 0 ≤ nI i.val - 99 then nI i.val - 99 else 0 - (nI i.val - 99))) 4621819117588971520) ∧ (∀ j, j < boK (nI i.val - 99) + 1 → boN (boW (nI i.val - 99) j)) ∧ boZ (nI i.val - 99) (boK (nI i.val - 99)) = (FP.ddiv (FP.i2d (nI i.val - 99)) 4621819117588971520).toInt64 := by decide +kernel
theorem bo_x {x : Int32} (h : -100 < x ∧ x < 100) : ∃ i : Fin 199, x = nI i.val - 99 := by
  have h1 := Int32.lt_iff_toInt_lt.mp h.1
  have h2 := Int32.lt_iff_toInt_lt.mp h.2
  rw [show Int32.toInt (-100) = -100 from rfl] at h1
  rw [show Int32.toInt 100 = 100 from rfl] at h2
  refine ⟨⟨(x.toInt + 99).toNat, by omega⟩, ?_⟩
  apply Int32.toInt_inj.mp
  rw [show (99 : Int32) = nI 99 from rfl, pk_sub_toInt (by show (x.toInt + 99).toNat < 2 ^ 30; omega) (by decide)]
  show x.toInt = (((x.toInt + 99).toNat : Nat) : Int) - 99
  omega

set_option maxHeartbeats 4000000 in
set_option maxRecDepth 100000 in
theorem c_X3_bo2 (l : Launch) (x : Int32) (K : Nat) (hK : K ≤ 11) (hlt : ∀ j, j < K → ¬ boD x j) (hge : boD x K) (hn0 : vf_n64 (FP.ddiv (FP.i2d (if 0 ≤ x then x else 0 - x)) 4621819117588971520)) (hn2 : ∀ j, j < K + 1 → vf_n64 (boW x j)) (hz : ¬ x = 0) (hfin : boZ x K = (FP.ddiv (FP.i2d x) 4621819117588971520).toInt64) : Met l yX3_bitsOfTenths wsX3_bitsOfTenths (zRm 1 25) (va_Pc [.int x] (fun _ => True)) (vp_Sl (fun r => r = (FP.ddiv (FP.i2d x) 4621819117588971520).toInt64)) 0 0 (fun _ => False) := by
  refine z_stat (cc := cX3_bitsOfTenths) (maxL := 8) (ret := some .long) (by decide) rfl (Nat.le_of_ble_eq_true rfl) ?_
  intro p e s m below meth c ls hx hb hr hml hts hown hlocks hl
  have hown : s.vm.findClass RX3 = some m.cls := hown
  have hl : lv_has ls 8 [(0, .int x)] := hl
  refine lv_iload_n hx hb dX3_bitsOfTenths_0 rfl (lv_at hl 0 rfl) ?_
  refine lv_if_ne (tgt := 6) hx hb dX3_bitsOfTenths_1 (by decide) (fun c_1 => ?_) (fun c_1 => ?_)
  · refine lv_bipush (v := 49) hx hb dX3_bitsOfTenths_6 (by decide) ?_
    refine lv_istore_n (lv' := [(1, .int 49), (0, .int x)]) hx hb dX3_bitsOfTenths_8 rfl hl (by decide) rfl (fun ls hl => ?_)
    refine lv_iload_n hx hb dX3_bitsOfTenths_9 rfl (lv_at hl 1 rfl) ?_
    refine va_mabs hx hb (hml.trans hl.1.symm) hown (hts (.methodLink RX3 31 Lib.Math.abs.name) (List.mem_of_getElem? (i := 1) rfl)) (hts (.static Lib.Math.abs.name) (List.mem_of_getElem? (i := 2) rfl)) (hts (.initialized "java/lang/Math") (List.mem_of_getElem? (i := 3) rfl)) (hts (.code Lib.Math.abs.name Lib.Math.abs.code 1 (some .int)) (List.mem_of_getElem? (i := 4) rfl)) (Nat.le_of_ble_eq_true rfl) (Nat.le_of_ble_eq_true rfl) (Nat.zero_le _) (Nat.zero_le _) dX3_bitsOfTenths_10 ?_
    refine lv_i2d hx hb dX3_bitsOfTenths_13 ?_
    refine lv_ldc2d (v := 4621819117588971520) hx hb hown (hts (.constantDouble RX3 35 (4621819117588971520)) (List.mem_of_getElem? (i := 5) rfl)) dX3_bitsOfTenths_14 ?_
    refine lv_ddiv hx hb dX3_bitsOfTenths_17 hn0 ?_
    refine lv_lconst (v := 1) hx hb dX3_bitsOfTenths_18 (by decide) ?_
    refine lv_iload_n hx hb dX3_bitsOfTenths_19 rfl (lv_at hl 0 rfl) ?_
    refine lv_lshl hx hb dX3_bitsOfTenths_20 rfl ?_
    refine lv_l2d hx hb dX3_bitsOfTenths_21 ?_
    refine lv_dmul hx hb dX3_bitsOfTenths_22 (hn2 0 (by omega)) ?_
    rw [show FP.dmul (FP.ddiv (FP.i2d (if 0 ≤ x then x else 0 - x)) 4621819117588971520) (FP.l2d ((1 : Int64) <<< ((49 : Int32).toInt64 &&& 63))) = boW x 0 from rfl]
    refine lv_dstore_n (lv' := [(2, .double (boW x 0)), (1, .int 49), (0, .int x)]) hx hb dX3_bitsOfTenths_23 rfl hl (by decide) rfl (fun ls hl => ?_)
    refine z_loop K (fun k1 H2 locs2 ls => H2 = s.heap ∧ locs2 = [] ∧ lv_has ls 8 [(0, .int x), (1, .int (nI (49 + k1))), (2, .double (boW x k1))]) ⟨rfl, rfl, lv_sub hl [2, 1, 0] rfl⟩ ?_
    intro k1 H2 locs2 ls hkk1 hI ihk1
    obtain ⟨rfl, rfl, hl⟩ := hI
    refine lv_iload_n hx hb dX3_bitsOfTenths_24 rfl (lv_at hl 1 rfl) ?_
    refine lv_bipush (v := 60) hx hb dX3_bitsOfTenths_25 (by decide) ?_
    refine z_icN_ge (x := (49 + k1)) (y := 60) (tgt := 50) hx hb (by omega) (by omega) dX3_bitsOfTenths_27 (by decide) (fun c_2 => ?_) (fun c_2 => ?_)
    · have hkK : k1 = K := by omega
      subst hkK
      refine lv_sipush (v := 1075) hx hb dX3_bitsOfTenths_50 (by decide) ?_
      refine lv_iload_n hx hb dX3_bitsOfTenths_53 rfl (lv_at hl 1 rfl) ?_
      refine lv_isub hx hb dX3_bitsOfTenths_54 ?_
      refine lv_i2l (v := (1075 - (nI (49 + k1))).toInt64) hx hb dX3_bitsOfTenths_55 rfl ?_
      refine lv_lstore (lv' := [(4, .long ((1075 - (nI (49 + k1))).toInt64)), (0, .int x), (1, .int (nI (49 + k1))), (2, .double (boW x k1))]) hx hb dX3_bitsOfTenths_56 hl (by decide) rfl (fun ls hl => ?_)
      refine lv_lload hx hb dX3_bitsOfTenths_58 (lv_at hl 0 rfl) ?_
      refine lv_bipush (v := 52) hx hb dX3_bitsOfTenths_60 (by decide) ?_
      refine lv_lshl hx hb dX3_bitsOfTenths_62 rfl ?_
      refine lv_dload_n hx hb dX3_bitsOfTenths_63 rfl (lv_at hl 3 rfl) ?_
      refine lv_d2l hx hb dX3_bitsOfTenths_64 ?_
      refine lv_ldc2 (v := 4503599627370495) hx hb hown (hts (.constantLong RX3 19 (4503599627370495)) (List.mem_of_getElem? (i := 8) rfl)) dX3_bitsOfTenths_65 ?_
      refine lv_land hx hb dX3_bitsOfTenths_68 ?_
      refine lv_lor hx hb dX3_bitsOfTenths_69 ?_
      refine lv_lstore (lv' := [(6, .long ((((1075 - (nI (49 + k1))).toInt64) <<< (((52 : Int32)).toInt64 &&& 63)) ||| ((FP.d2l (boW x k1)) &&& 4503599627370495))), (4, .long ((1075 - (nI (49 + k1))).toInt64)), (0, .int x), (1, .int (nI (49 + k1))), (2, .double (boW x k1))]) hx hb dX3_bitsOfTenths_70 hl (by decide) rfl (fun ls hl => ?_)
      refine lv_iload_n hx hb dX3_bitsOfTenths_72 rfl (lv_at hl 2 rfl) ?_
      refine lv_if_ge (tgt := 85) hx hb dX3_bitsOfTenths_73 (by decide) (fun c_3 => ?_) (fun c_3 => ?_)
      · refine lv_lload hx hb dX3_bitsOfTenths_85 (lv_at hl 0 rfl) ?_
        exact z_lretR hx hb hr hlocks rfl (by rw [← hfin]; exact (if_pos c_3).symm) dX3_bitsOfTenths_87
      · refine lv_lload hx hb dX3_bitsOfTenths_76 (lv_at hl 0 rfl) ?_
        refine lv_ldc2 (v := (-9223372036854775808)) hx hb hown (hts (.constantLong RX3 41 (-9223372036854775808)) (List.mem_of_getElem? (i := 9) rfl)) dX3_bitsOfTenths_78 ?_
        refine lv_lor hx hb dX3_bitsOfTenths_81 ?_
        refine lv_goto (tgt := 87) hx hb dX3_bitsOfTenths_82 (by decide) ?_
        exact z_lretR hx hb hr hlocks rfl (by rw [← hfin]; exact (if_neg c_3).symm) dX3_bitsOfTenths_87
    · refine lv_dload_n hx hb dX3_bitsOfTenths_30 rfl (lv_at hl 2 rfl) ?_
      refine lv_ldc2d (v := 4841369599423283200) hx hb hown (hts (.constantDouble RX3 37 (4841369599423283200)) (List.mem_of_getElem? (i := 6) rfl)) dX3_bitsOfTenths_31 ?_
      refine lv_dcmp hx hb dX3_bitsOfTenths_34 ?_
      refine lv_if_ge (tgt := 50) hx hb dX3_bitsOfTenths_35 (by decide) (fun c_4 => ?_) (fun c_4 => ?_)
      · have hkK : k1 = K := (Nat.lt_or_ge k1 K).elim (fun q => absurd c_4 (hlt k1 q)) (fun q => by omega)
        subst hkK
        refine lv_sipush (v := 1075) hx hb dX3_bitsOfTenths_50 (by decide) ?_
        refine lv_iload_n hx hb dX3_bitsOfTenths_53 rfl (lv_at hl 1 rfl) ?_
        refine lv_isub hx hb dX3_bitsOfTenths_54 ?_
        refine lv_i2l (v := (1075 - (nI (49 + k1))).toInt64) hx hb dX3_bitsOfTenths_55 rfl ?_
        refine lv_lstore (lv' := [(4, .long ((1075 - (nI (49 + k1))).toInt64)), (0, .int x), (1, .int (nI (49 + k1))), (2, .double (boW x k1))]) hx hb dX3_bitsOfTenths_56 hl (by decide) rfl (fun ls hl => ?_)
        refine lv_lload hx hb dX3_bitsOfTenths_58 (lv_at hl 0 rfl) ?_
        refine lv_bipush (v := 52) hx hb dX3_bitsOfTenths_60 (by decide) ?_
        refine lv_lshl hx hb dX3_bitsOfTenths_62 rfl ?_
        refine lv_dload_n hx hb dX3_bitsOfTenths_63 rfl (lv_at hl 3 rfl) ?_
        refine lv_d2l hx hb dX3_bitsOfTenths_64 ?_
        refine lv_ldc2 (v := 4503599627370495) hx hb hown (hts (.constantLong RX3 19 (4503599627370495)) (List.mem_of_getElem? (i := 8) rfl)) dX3_bitsOfTenths_65 ?_
        refine lv_land hx hb dX3_bitsOfTenths_68 ?_
        refine lv_lor hx hb dX3_bitsOfTenths_69 ?_
        refine lv_lstore (lv' := [(6, .long ((((1075 - (nI (49 + k1))).toInt64) <<< (((52 : Int32)).toInt64 &&& 63)) ||| ((FP.d2l (boW x k1)) &&& 4503599627370495))), (4, .long ((1075 - (nI (49 + k1))).toInt64)), (0, .int x), (1, .int (nI (49 + k1))), (2, .double (boW x k1))]) hx hb dX3_bitsOfTenths_70 hl (by decide) rfl (fun ls hl => ?_)
        refine lv_iload_n hx hb dX3_bitsOfTenths_72 rfl (lv_at hl 2 rfl) ?_
        refine lv_if_ge (tgt := 85) hx hb dX3_bitsOfTenths_73 (by decide) (fun c_5 => ?_) (fun c_5 => ?_)
        · refine lv_lload hx hb dX3_bitsOfTenths_85 (lv_at hl 0 rfl) ?_
          exact z_lretR hx hb hr hlocks rfl (by rw [← hfin]; exact (if_pos c_5).symm) dX3_bitsOfTenths_87
        · refine lv_lload hx hb dX3_bitsOfTenths_76 (lv_at hl 0 rfl) ?_
          refine lv_ldc2 (v := (-9223372036854775808)) hx hb hown (hts (.constantLong RX3 41 (-9223372036854775808)) (List.mem_of_getElem? (i := 9) rfl)) dX3_bitsOfTenths_78 ?_
          refine lv_lor hx hb dX3_bitsOfTenths_81 ?_
          refine lv_goto (tgt := 87) hx hb dX3_bitsOfTenths_82 (by decide) ?_
          exact z_lretR hx hb hr hlocks rfl (by rw [← hfin]; exact (if_neg c_5).symm) dX3_bitsOfTenths_87
      · have hkK : k1 < K := (Nat.lt_or_ge k1 K).resolve_right (fun q => c_4 (by rw [show k1 = K by omega]; exact hge))
        refine lv_dload_n hx hb dX3_bitsOfTenths_38 rfl (lv_at hl 2 rfl) ?_
        refine lv_ldc2d (v := 4611686018427387904) hx hb hown (hts (.constantDouble RX3 39 (4611686018427387904)) (List.mem_of_getElem? (i := 7) rfl)) dX3_bitsOfTenths_39 ?_
        refine lv_dmul hx hb dX3_bitsOfTenths_42 (hn2 (k1 + 1) (by omega)) ?_
        refine lv_dstore_n (lv' := [(2, .double (FP.dmul (boW x k1) 4611686018427387904)), (0, .int x), (1, .int (nI (49 + k1)))]) hx hb dX3_bitsOfTenths_43 rfl hl (by decide) rfl (fun ls hl => ?_)
        refine lv_iinc (v := nI ((49 + k1) + 1)) (lv' := [(1, .int (nI ((49 + k1) + 1))), (2, .double (FP.dmul (boW x k1) 4611686018427387904)), (0, .int x)]) hx hb dX3_bitsOfTenths_44 hl (k := 2) rfl (nI_add (49 + k1) 1) (by decide) rfl (fun ls hl => ?_)
        refine lv_goto (tgt := 24) hx hb dX3_bitsOfTenths_47 (by decide) ?_
        exact ihk1 _ _ _ (by omega) ⟨rfl, rfl, (by first | exact lv_sub hl [2, 0, 1] rfl | (simp only [lp_s, if_neg c_1, if_pos c_2, if_neg c_4]; exact lv_sub hl [2, 0, 1] rfl))⟩
  · exact absurd c_1 hz

set_option maxHeartbeats 4000000 in
set_option maxRecDepth 100000 in
theorem c_X3_bo0 (l : Launch) (z : Nat) : Met l yX3_bitsOfTenths wsX3_bitsOfTenths (zRm 1 25) (va_Pc [.int 0] (fun _ => True)) (vp_Sl (fun r => r = (FP.ddiv (FP.i2d 0) 4621819117588971520).toInt64)) 0 0 (fun _ => False) := by
  refine z_stat (cc := cX3_bitsOfTenths) (maxL := 8) (ret := some .long) (by decide) rfl (Nat.le_of_ble_eq_true rfl) ?_
  intro p e s m below meth c ls hx hb hr hml hts hown hlocks hl
  have hown : s.vm.findClass RX3 = some m.cls := hown
  have hl : lv_has ls 8 [(0, .int 0)] := hl
  refine lv_iload_n hx hb dX3_bitsOfTenths_0 rfl (lv_at hl 0 rfl) ?_
  refine lv_if_ne (tgt := 6) hx hb dX3_bitsOfTenths_1 (by decide) (fun h => absurd h (by decide)) (fun _ => ?_)
  refine lv_lconst (v := 0) hx hb dX3_bitsOfTenths_4 (by decide) ?_
  exact z_lretR hx hb hr hlocks rfl (by decide +kernel) dX3_bitsOfTenths_5

theorem c_X3_bitsOfTenths (l : Launch) (x : Int32) (hx : -100 < x ∧ x < 100) : Met l yX3_bitsOfTenths wsX3_bitsOfTenths (zRm 1 25) (va_Pc [.int x] (fun _ => True)) (vp_Sl (fun r => r = (FP.ddiv (FP.i2d x) 4621819117588971520).toInt64)) 0 0 (fun _ => False) := by
  by_cases hz : x = 0
  · subst hz; exact c_X3_bo0 l 0
  obtain ⟨i, rfl⟩ := bo_x hx
  obtain ⟨h1, h2, h3, h4, h5, h6⟩ := bo_all i hz
  exact c_X3_bo2 l _ _ h1 h2 h3 h4 h5 hz h6
