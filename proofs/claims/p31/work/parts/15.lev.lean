set_option maxHeartbeats 4000000 in
set_option maxRecDepth 100000 in
theorem c_X3_isLevel (l : Launch) (x : Int64) : Met l yX3_isLevel wsX3_isLevel (zRm 0 0) (va_Pc [.long x] (fun _ => True)) (vp_Si (fun r => r = if lvOk x then 1 else 0)) 0 0 (fun _ => False) := by
  refine z_stat (cc := cX3_isLevel) (maxL := 2) (ret := some .boolean) (by decide) rfl (Nat.le_of_ble_eq_true rfl) ?_
  intro p e s m below meth c ls hx hb hr hml hts hown hlocks hl
  have hown : s.vm.findClass RX3 = some m.cls := hown
  have hl : lv_has ls 2 [(0, .long x)] := hl
  refine lv_lload_n hx hb dX3_isLevel_0 rfl (lv_at hl 0 rfl) ?_
  refine lv_lconst (v := 0) hx hb dX3_isLevel_1 (by decide) ?_
  refine z_lif_ge (tgt := 26) hx hb dX3_isLevel_2 dX3_isLevel_3 (by decide) (fun c_1 => ?_) (fun c_1 => ?_)
  · refine lv_lload_n hx hb dX3_isLevel_26 rfl (lv_at hl 0 rfl) ?_
    refine lv_ldc2 (v := 4621819117588971520) hx hb hown (hts (.constantLong RX3 13 (4621819117588971520)) (List.mem_of_getElem? (i := 3) rfl)) dX3_isLevel_27 ?_
    refine z_lif_gt (tgt := 38) hx hb dX3_isLevel_30 dX3_isLevel_31 (by decide) (fun c_2 => ?_) (fun c_2 => ?_)
    · refine lv_iconst (v := 0) hx hb dX3_isLevel_38 (by decide) ?_
      exact z_zretR hx hb hr hlocks rfl rfl (by simp [c_1, c_2]) dX3_isLevel_39
    · refine lv_iconst (v := 1) hx hb dX3_isLevel_34 (by decide) ?_
      refine lv_goto (tgt := 39) hx hb dX3_isLevel_35 (by decide) ?_
      exact z_zretR hx hb hr hlocks rfl rfl (by simp [c_1, c_2]) dX3_isLevel_39
  · refine lv_lload_n hx hb dX3_isLevel_6 rfl (lv_at hl 0 rfl) ?_
    refine lv_ldc2 (v := 9223372036854775807) hx hb hown (hts (.constantLong RX3 9 (9223372036854775807)) (List.mem_of_getElem? (i := 1) rfl)) dX3_isLevel_7 ?_
    refine lv_land hx hb dX3_isLevel_10 ?_
    refine lv_ldc2 (v := 4617315517961601024) hx hb hown (hts (.constantLong RX3 11 (4617315517961601024)) (List.mem_of_getElem? (i := 2) rfl)) dX3_isLevel_11 ?_
    refine z_lif_gt (tgt := 22) hx hb dX3_isLevel_14 dX3_isLevel_15 (by decide) (fun c_3 => ?_) (fun c_3 => ?_)
    · refine lv_iconst (v := 0) hx hb dX3_isLevel_22 (by decide) ?_
      refine lv_goto (tgt := 39) hx hb dX3_isLevel_23 (by decide) ?_
      exact z_zretR hx hb hr hlocks rfl rfl (by simp [c_1, c_3]) dX3_isLevel_39
    · refine lv_iconst (v := 1) hx hb dX3_isLevel_18 (by decide) ?_
      refine lv_goto (tgt := 39) hx hb dX3_isLevel_19 (by decide) ?_
      exact z_zretR hx hb hr hlocks rfl rfl (by simp [c_1, c_3]) dX3_isLevel_39

set_option maxHeartbeats 4000000 in
set_option maxRecDepth 100000 in
theorem c_X3_isCrest (l : Launch) (x : Int64) : Met l yX3_isCrest wsX3_isCrest (zRm 0 0) (va_Pc [.long x] (fun _ => True)) (vp_Si (fun r => r = if crOk x then 1 else 0)) 0 0 (fun _ => False) := by
  refine z_stat (cc := cX3_isCrest) (maxL := 2) (ret := some .boolean) (by decide) rfl (Nat.le_of_ble_eq_true rfl) ?_
  intro p e s m below meth c ls hx hb hr hml hts hown hlocks hl
  have hown : s.vm.findClass RX3 = some m.cls := hown
  have hl : lv_has ls 2 [(0, .long x)] := hl
  refine lv_lload_n hx hb dX3_isCrest_0 rfl (lv_at hl 0 rfl) ?_
  refine lv_lconst (v := 0) hx hb dX3_isCrest_1 (by decide) ?_
  refine z_lif_lt (tgt := 18) hx hb dX3_isCrest_2 dX3_isCrest_3 (by decide) (fun c_1 => ?_) (fun c_1 => ?_)
  · refine lv_iconst (v := 0) hx hb dX3_isCrest_18 (by decide) ?_
    exact z_zretR hx hb hr hlocks rfl rfl (by simp [c_1]) dX3_isCrest_19
  · refine lv_lload_n hx hb dX3_isCrest_6 rfl (lv_at hl 0 rfl) ?_
    refine lv_ldc2 (v := 4621819117588971520) hx hb hown (hts (.constantLong RX3 13 (4621819117588971520)) (List.mem_of_getElem? (i := 1) rfl)) dX3_isCrest_7 ?_
    refine z_lif_gt (tgt := 18) hx hb dX3_isCrest_10 dX3_isCrest_11 (by decide) (fun c_2 => ?_) (fun c_2 => ?_)
    · refine lv_iconst (v := 0) hx hb dX3_isCrest_18 (by decide) ?_
      exact z_zretR hx hb hr hlocks rfl rfl (by simp [c_1, c_2]) dX3_isCrest_19
    · refine lv_iconst (v := 1) hx hb dX3_isCrest_14 (by decide) ?_
      refine lv_goto (tgt := 19) hx hb dX3_isCrest_15 (by decide) ?_
      exact z_zretR hx hb hr hlocks rfl rfl (by simp [c_1, c_2]) dX3_isCrest_19

set_option maxHeartbeats 4000000 in
set_option maxRecDepth 100000 in
theorem c_X3_isSame (l : Launch) (x : Int64) (y : Int64) : Met l yX3_isSame wsX3_isSame (zRm 0 0) (va_Pc [.long x, .long y] (fun _ => True)) (vp_Si (fun r => r = if smL x y then 1 else 0)) 0 0 (fun _ => False) := by
  refine z_stat (cc := cX3_isSame) (maxL := 4) (ret := some .boolean) (by decide) rfl (Nat.le_of_ble_eq_true rfl) ?_
  intro p e s m below meth c ls hx hb hr hml hts hown hlocks hl
  have hown : s.vm.findClass RX3 = some m.cls := hown
  have hl : lv_has ls 4 [(0, .long x), (2, .long y)] := hl
  refine lv_lload_n hx hb dX3_isSame_0 rfl (lv_at hl 0 rfl) ?_
  refine lv_lload_n hx hb dX3_isSame_1 rfl (lv_at hl 1 rfl) ?_
  refine z_lif_eq (tgt := 18) hx hb dX3_isSame_2 dX3_isSame_3 (by decide) (fun c_1 => ?_) (fun c_1 => ?_)
  · refine lv_iconst (v := 1) hx hb dX3_isSame_18 (by decide) ?_
    refine lv_goto (tgt := 23) hx hb dX3_isSame_19 (by decide) ?_
    exact z_zretR hx hb hr hlocks rfl rfl (by simp [c_1]) dX3_isSame_23
  · refine lv_lload_n hx hb dX3_isSame_6 rfl (lv_at hl 0 rfl) ?_
    refine lv_lload_n hx hb dX3_isSame_7 rfl (lv_at hl 1 rfl) ?_
    refine lv_lor hx hb dX3_isSame_8 ?_
    refine lv_ldc2 (v := 9223372036854775807) hx hb hown (hts (.constantLong RX3 9 (9223372036854775807)) (List.mem_of_getElem? (i := 1) rfl)) dX3_isSame_9 ?_
    refine lv_land hx hb dX3_isSame_12 ?_
    refine lv_lconst (v := 0) hx hb dX3_isSame_13 (by decide) ?_
    refine z_lif_ne (tgt := 22) hx hb dX3_isSame_14 dX3_isSame_15 (by decide) (fun c_2 => ?_) (fun c_2 => ?_)
    · refine lv_iconst (v := 0) hx hb dX3_isSame_22 (by decide) ?_
      exact z_zretR hx hb hr hlocks rfl rfl (by simp [c_1, c_2]) dX3_isSame_23
    · refine lv_iconst (v := 1) hx hb dX3_isSame_18 (by decide) ?_
      refine lv_goto (tgt := 23) hx hb dX3_isSame_19 (by decide) ?_
      exact z_zretR hx hb hr hlocks rfl rfl (by simp [c_1, c_2]) dX3_isSame_23


