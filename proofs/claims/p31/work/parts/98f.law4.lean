set_option maxHeartbeats 4000000 in
set_option maxRecDepth 100000 in
theorem law_pre {p : Program} {e : Env} {s : State} {m : MethodId} {below : List Frame} {meth : Method} {c : Code} {b L : Nat} {xs : Nat → Int32} {Q : State → Prop} {g : va_G} {ct : Nat → ClassId} {H : Heap} {locs : List Loc} {cells slots : Nat} {ls : Array Slot} (l : Launch) (h : LX p s m c b L xs g ct) {C : CT} (hC : CK C 0) (hmany : k_many C = 0) (hsn : k_sn C = none) (hlen : k_len C = 0) (hnS : v_nS (k_v C) = 0) (hnD : v_nD (k_v C) = 0) (har : v_ar (k_v C) = 100000) (hal : v_al (k_v C) = 4611686018427387904) (hcs : cells ≤ 600000 ∧ slots ≤ 7302250) (hP : va_P g vwCl (CW ct C) H) (hD : va_D (AL s) (CW ct C)) (hS : va_S (AL s) s.heap H locs) (hl : lv_has ls 11 [(1, .ref (k_ba C 0)), (0, .ref b)]) (kk : ∀ (u2 : CT) (H2 : Heap) (locs2 : List Loc) (ls2 : Array Slot), CK u2 0 → va_P g vwCl (CW ct u2) H2 → va_D (AL s) (CW ct u2) → va_S (AL s) s.heap H2 locs2 → lv_has ls2 11 [(2, .int (nI 0)), (1, .ref (k_ba u2 0)), (0, .ref b)] → W p l e room_1 s m #[Value.ref b] below meth c H2 locs2 cells slots Q (F0 m 108 ls2 [])) : W p l e room_1 s m #[Value.ref b] below meth c H locs cells slots Q (F0 m 8 ls []) := by
  obtain ⟨hx, hb, hml, hown, hts, hX, hbl, hK, hNW, hL⟩ := id h
  have hA : ∀ q : Nat, s.heap.size ≤ q → AL s q := fun _ h => h
  have hIV := hC.1
  refine lv_aload_n hx hb dL_law_8 rfl (lv_at hl 0 rfl) ?_
  refine z_rVi (C := C) (v := -5) (As := []) (rest := []) ⟨hx, hb, hml, hown, hts⟩ hK hP (rd_undo_a l g ct C hmany) (cwV 0 hts gL_law_X9_undo rfl rfl rfl (by decide +kernel) ⟨Nat.le_of_ble_eq_true rfl, Nat.le_of_ble_eq_true rfl⟩) rfl hl.1 rfl (Nat.le_of_ble_eq_true rfl) dL_law_9 ⟨(r_c (by omega)), (r_s (by omega))⟩ ?_
  refine lv_bipush (v := (-5)) hx hb dL_law_12 (by decide) ?_
  refine lv_icmp_ne (tgt := 104) hx hb dL_law_14 (by decide) (fun h => absurd h (by decide)) (fun _ => ?_)
  refine lv_aload_n hx hb dL_law_17 rfl (lv_at hl 0 rfl) ?_
  refine z_rVi (C := C) (v := -5) (As := []) (rest := []) ⟨hx, hb, hml, hown, hts⟩ hK hP (rd_restore_n l g ct C hsn) (cwV 0 hts gL_law_X9_restore rfl rfl rfl (by decide +kernel) ⟨Nat.le_of_ble_eq_true rfl, Nat.le_of_ble_eq_true rfl⟩) rfl hl.1 rfl (Nat.le_of_ble_eq_true rfl) dL_law_18 ⟨(r_c (by omega)), (r_s (by omega))⟩ ?_
  refine lv_bipush (v := (-5)) hx hb dL_law_21 (by decide) ?_
  refine lv_icmp_ne (tgt := 104) hx hb dL_law_23 (by decide) (fun h => absurd h (by decide)) (fun _ => ?_)
  refine lv_aload_n hx hb dL_law_26 rfl (lv_at hl 0 rfl) ?_
  refine lv_iconst (v := 0) hx hb dL_law_27 (by decide) ?_
  refine z_rVi (C := C) (v := -100) (As := [.int 0]) (rest := []) ⟨hx, hb, hml, hown, hts⟩ hK hP (rd_rt0 l g ct C hlen) (cwV 1 hts gL_law_X9_readTides rfl rfl rfl (by decide +kernel) ⟨Nat.le_of_ble_eq_true rfl, Nat.le_of_ble_eq_true rfl⟩) rfl hl.1 rfl (Nat.le_of_ble_eq_true rfl) dL_law_28 ⟨(r_c (by omega)), (r_s (by omega))⟩ ?_
  refine lv_bipush (v := (-100)) hx hb dL_law_31 (by decide) ?_
  refine lv_icmp_ne (tgt := 104) hx hb dL_law_33 (by decide) (fun h => absurd h (by decide)) (fun _ => ?_)
  refine lv_aload_n hx hb dL_law_36 rfl (lv_at hl 0 rfl) ?_
  refine lv_bipush (v := 24) hx hb dL_law_37 (by decide) ?_
  refine z_rVi (C := C) (v := -2) (As := [.int 24]) (rest := []) ⟨hx, hb, hml, hown, hts⟩ hK hP (rd_readTides_u l g ct C (by omega) 24 (by decide)) (cwV 1 hts gL_law_X9_readTides rfl rfl rfl (by decide +kernel) ⟨Nat.le_of_ble_eq_true rfl, Nat.le_of_ble_eq_true rfl⟩) rfl hl.1 rfl (Nat.le_of_ble_eq_true rfl) dL_law_39 ⟨(r_c (by omega)), (r_s (by omega))⟩ ?_
  refine lv_bipush (v := (-2)) hx hb dL_law_42 (by decide) ?_
  refine lv_icmp_ne (tgt := 104) hx hb dL_law_44 (by decide) (fun h => absurd h (by decide)) (fun _ => ?_)
  refine lv_aload_n hx hb dL_law_47 rfl (lv_at hl 0 rfl) ?_
  refine z_rVi (C := C) (v := -4) (As := []) (rest := []) ⟨hx, hb, hml, hown, hts⟩ hK hP (rd_cl4 l g ct C hIV (Or.inl (by rw [hnD]; show (2 : Int32) * 0 ≤ 0; decide))) (cwV 0 hts gL_law_X9_close rfl rfl rfl (by decide +kernel) ⟨Nat.le_of_ble_eq_true rfl, Nat.le_of_ble_eq_true rfl⟩) rfl hl.1 rfl (Nat.le_of_ble_eq_true rfl) dL_law_48 ⟨(r_c (by omega)), (r_s (by omega))⟩ ?_
  refine lv_bipush (v := (-4)) hx hb dL_law_51 (by decide) ?_
  refine lv_icmp_ne (tgt := 104) hx hb dL_law_53 (by decide) (fun h => absurd h (by decide)) (fun _ => ?_)
  refine lv_aload_n hx hb dL_law_56 rfl (lv_at hl 0 rfl) ?_
  refine z_rVi (C := C) (v := -4) (As := []) (rest := []) ⟨hx, hb, hml, hown, hts⟩ hK hP (rd_op4 l g ct C hIV ⟨by rw [hnS]; rfl, by rw [hnS]; exact mv_0 _⟩) (cwV 0 hts gL_law_X9_open rfl rfl rfl (by decide +kernel) ⟨Nat.le_of_ble_eq_true rfl, Nat.le_of_ble_eq_true rfl⟩) rfl hl.1 rfl (Nat.le_of_ble_eq_true rfl) dL_law_57 ⟨(r_c (by omega)), (r_s (by omega))⟩ ?_
  refine lv_bipush (v := (-4)) hx hb dL_law_60 (by decide) ?_
  refine lv_icmp_ne (tgt := 104) hx hb dL_law_62 (by decide) (fun h => absurd h (by decide)) (fun _ => ?_)
  refine lv_aload_n hx hb dL_law_65 rfl (lv_at hl 0 rfl) ?_
  refine lv_iconst (v := 0) hx hb dL_law_66 (by decide) ?_
  refine z_rVi (C := C) (v := -1) (As := [.int 0]) (rest := []) ⟨hx, hb, hml, hown, hts⟩ hK hP (rd_service_u l g ct C (iv_nS hIV) 0 (fun q => absurd q.2 (by rw [hnS]; decide))) (cwV 1 hts gL_law_X9_service rfl rfl rfl (by decide +kernel) ⟨Nat.le_of_ble_eq_true rfl, Nat.le_of_ble_eq_true rfl⟩) rfl hl.1 rfl (Nat.le_of_ble_eq_true rfl) dL_law_67 ⟨(r_c (by omega)), (r_s (by omega))⟩ ?_
  refine lv_iconst (v := (-1)) hx hb dL_law_70 (by decide) ?_
  refine lv_icmp_ne (tgt := 104) hx hb dL_law_71 (by decide) (fun h => absurd h (by decide)) (fun _ => ?_)
  refine lv_aload_n hx hb dL_law_74 rfl (lv_at hl 0 rfl) ?_
  refine z_oVi (C := C) (K := fun u => Sm C u) (v := shI (k_v C)) (As := []) (rest := []) ⟨hx, hb, hml, hown, hts⟩ hK hP hD hS hNW hA (ac_shutInI l g ct _ C hIV (by omega)) (cwV 0 hts gL_law_X9_shutIn rfl rfl rfl (by decide +kernel) ⟨Nat.le_of_ble_eq_true rfl, Nat.le_of_ble_eq_true rfl⟩) rfl hl.1 rfl (Nat.le_of_ble_eq_true rfl) dL_law_75 ⟨(r_c (by omega)), (r_s (by omega))⟩ (fun u_1 H locs hu_2 hP hD hS => ?_)
  obtain ⟨tv_3, rfl⟩ := hu_2
  refine lv_if_ne (tgt := 104) hx hb dL_law_78 (by decide) (fun c_4 => ?_) (fun c_4 => ?_)
  · exact absurd ((sh_0 _).mpr (by show cntI _ 2 _ + cntI _ 4 _ = _; rw [hnS]; rfl)) c_4
  · refine lv_aload_n hx hb dL_law_81 rfl (lv_at hl 0 rfl) ?_
    refine lv_bipush (v := 9) hx hb dL_law_82 (by decide) ?_
    refine z_rVi (C := (k_tvS C tv_3)) (v := v_ar (k_v C)) (As := [.int 9]) (rest := []) ⟨hx, hb, hml, hown, hts⟩ hK hP (rd_count_9 l g ct ((k_tvS C tv_3)) hIV) (cwV 1 hts gL_law_X9_count rfl rfl rfl (by decide +kernel) ⟨Nat.le_of_ble_eq_true rfl, Nat.le_of_ble_eq_true rfl⟩) rfl hl.1 rfl (Nat.le_of_ble_eq_true rfl) dL_law_84 ⟨(r_c (by omega)), (r_s (by omega))⟩ ?_
    refine lv_ldc (v := 100000) hx hb hown (hts (.constant RL 99 (100000)) (List.mem_of_getElem? (i := 3) rfl)) dL_law_87 ?_
    refine lv_icmp_ne (tgt := 104) hx hb dL_law_89 (by decide) (fun c_5 => ?_) (fun c_5 => ?_)
    · exact absurd har c_5
    · refine lv_aload_n hx hb dL_law_92 rfl (lv_at hl 0 rfl) ?_
      refine lv_iconst (v := 2) hx hb dL_law_93 (by decide) ?_
      refine z_rVd (C := (k_tvS C tv_3)) (v := (v_al (k_v C)).toUInt64) (As := [.int 2]) (rest := []) ⟨hx, hb, hml, hown, hts⟩ hK hP (rd_level_2 l g ct ((k_tvS C tv_3)) hIV (by omega)) (cwV 1 hts gL_law_X9_level rfl rfl rfl (by decide +kernel) ⟨Nat.le_of_ble_eq_true rfl, Nat.le_of_ble_eq_true rfl⟩) rfl hl.1 rfl (Nat.le_of_ble_eq_true rfl) dL_law_94 ⟨(r_c (by omega)), (r_s (by omega))⟩ ?_
      refine lv_ldc2d (v := 4611686018427387904) hx hb hown (hts (.constantDouble RL 132 (4611686018427387904)) (List.mem_of_getElem? (i := 4) rfl)) dL_law_97 ?_
      refine lv_dcmp hx hb dL_law_100 ?_
      refine lv_if_eq (tgt := 106) hx hb dL_law_101 (by decide) (fun c_6 => ?_) (fun c_6 => ?_)
      · refine lv_iconst (v := 0) hx hb dL_law_106 (by decide) ?_
        refine lv_istore_n (lv' := [(2, .int 0), (1, .ref (k_ba C 0)), (0, .ref b)]) hx hb dL_law_107 rfl hl (by decide) rfl (fun ls hl => ?_)
        exact kk _ _ _ _ (show CK (k_tvS C tv_3) 0 from hC) hP hD hS (lv_sub hl [0, 1, 2] rfl)
      · exact absurd (by rw [hal]; decide +kernel) c_6

set_option maxRecDepth 100000 in
theorem law_all {p : Program} {e : Env} {s : State} {m : MethodId} {below : List Frame} {meth : Method} {c : Code} {b L : Nat} {xs : Nat → Int32} {Q : State → Prop} {g : va_G} {ct : Nat → ClassId} (l : Launch) (h : LX p s m c b L xs g ct) (kend : ∀ (cells slots : Nat) (H : Heap) (locs : List Loc) (ls : Array Slot), cells ≤ 600000 → slots ≤ 7302250 → va_S (AL s) s.heap H locs → W p l e room_1 s m #[Value.ref b] below meth c H locs cells slots Q (F0 m 392 ls [])) : ∀ (d k : Nat) (C : CT) (H : Heap) (locs : List Loc) (ls : Array Slot) (cells slots : Nat), k + d = 30 → CK C k → cells ≤ 100 + 105 * k → slots ≤ 3000 + 790 * k → va_P g vwCl (CW ct C) H → va_D (AL s) (CW ct C) → va_S (AL s) s.heap H locs → lv_has ls 11 [(2, .int (nI k)), (1, .ref (k_ba C 0)), (0, .ref b)] → W p l e room_1 s m #[Value.ref b] below meth c H locs cells slots Q (F0 m 108 ls []) := by
  intro d
  have hx := h.1
  have hb := h.2.1
  induction d with
  | zero =>
    intro k C H locs ls cells slots hk hC hc hs hP hD hS hl
    refine lv_iload_n hx hb dL_law_108 rfl (lv_at hl 0 rfl) ?_
    refine lv_bipush (v := 30) hx hb dL_law_109 (by decide) ?_
    refine z_icN_ge (x := k) (y := 30) (tgt := 392) hx hb (by omega) (by omega) dL_law_111 (by decide) (fun _ => ?_) (fun q => absurd q (by omega))
    exact kend cells slots H locs ls (by omega) (by omega) hS
  | succ d ih =>
    intro k C H locs ls cells slots hk hC hc hs hP hD hS hl
    refine lv_iload_n hx hb dL_law_108 rfl (lv_at hl 0 rfl) ?_
    refine lv_bipush (v := 30) hx hb dL_law_109 (by decide) ?_
    refine z_icN_ge (x := k) (y := 30) (tgt := 392) hx hb (by omega) (by omega) dL_law_111 (by decide) (fun q => absurd (show k < 30 by omega) q) (fun q => ?_)
    refine law_body l h q hC ⟨by omega, by omega⟩ hP hD hS hl (fun u2 H2 locs2 ls2 c2 s2 a1 a2 a3 a4 a5 a6 a7 => ?_)
    have b1 : (k + 1) + d = 30 := by omega
    have b2 : c2 ≤ 100 + 105 * (k + 1) := by omega
    have b3 : s2 ≤ 3000 + 790 * (k + 1) := by omega
    exact ih (k + 1) u2 H2 locs2 ls2 c2 s2 b1 a3 b2 b3 a4 a5 a6 a7
