set_option maxHeartbeats 4000000 in
set_option maxRecDepth 100000 in
theorem c_X0_inner (l : Launch) (g : va_G) (ct : Nat → ClassId) (b0 : Nat) (ar : Int32) (vo fi fo fv br pu : Int64) (hq : vf_n64 (FP.ddiv (FP.l2d vo) (FP.i2d ar))) : Met l yX0_inner wsX0_inner (zRm 0 0) (va_Pc [.ref b0] (zR g ct [zO b0 0 [.int ar, .long vo, .long fi, .long fo, .long fv, .long br, .long pu]])) (vp_Sd (fun r => r = FP.ddiv (FP.l2d vo) (FP.i2d ar))) 0 0 (fun _ => False) := by
  refine z_read (cc := cX0_inner) (maxL := 1) (ret := some .double) (by decide) rfl (Nat.le_of_ble_eq_true rfl) ?_
  intro p e s m below meth c ls hx hb hr hml hts hown hlocks hP hK hl
  have hown : s.vm.findClass RX0 = some m.cls := hown
  have hl : lv_has ls 1 [(0, .ref b0)] := hl
  have hi_wsX00 : ∀ w ∈ wsX00, w ∈ wsX0_inner := fun w h => List.mem_cons_of_mem _ (List.mem_append_right _ h)
  refine lv_aload_n hx hb dX0_inner_0 rfl (lv_at hl 0 rfl) ?_
  refine va_get (D := g) (ci := 0) (v := .long vo) (C := RX0) (T := TX0) (N := 7) hx hb hts hi_wsX00 hown hK hP 0 rfl rfl 1 (by decide) (hts (.fieldLink RX0 14 "FloodBarrier$Basin" "volume" "J") (List.mem_of_getElem? (i := 1) rfl)) (fun _ h9 => h9) rfl dX0_inner_1 ?_
  refine lv_l2d hx hb dX0_inner_4 ?_
  refine lv_aload_n hx hb dX0_inner_5 rfl (lv_at hl 0 rfl) ?_
  refine va_get (D := g) (ci := 0) (v := .int ar) (C := RX0) (T := TX0) (N := 7) hx hb hts hi_wsX00 hown hK hP 0 rfl rfl 0 (by decide) (hts (.fieldLink RX0 8 "FloodBarrier$Basin" "area" "I") (List.mem_of_getElem? (i := 2) rfl)) (fun _ h9 => h9) rfl dX0_inner_6 ?_
  refine lv_i2d hx hb dX0_inner_9 ?_
  refine lv_ddiv hx hb dX0_inner_10 hq ?_
  exact z_dretR hx hb hr hlocks rfl rfl dX0_inner_11

set_option maxHeartbeats 4000000 in
set_option maxRecDepth 100000 in
theorem c_X0_take (l : Launch) (g : va_G) (ct : Nat → ClassId) (sz : Nat) (b0 : Nat) (ar : Int32) (vo fi fo fv br pu : Int64) (w : Int64) : Met l yX0_take wsX0_take (zRm 1 27) (va_Pc [.ref b0, .long w] (zW g ct [zO b0 0 [.int ar, .long vo, .long fi, .long fo, .long fv, .long br, .long pu]] sz)) (zQl g [zO b0 0 [.int ar, .long (vo - tkL w vo), .long fi, .long fo, .long fv, .long br, .long pu]] (tkL w vo) (va_A [zO b0 0 [.int ar, .long vo, .long fi, .long fo, .long fv, .long br, .long pu]] sz)) 0 0 (va_A [zO b0 0 [.int ar, .long vo, .long fi, .long fo, .long fv, .long br, .long pu]] sz) := by
  refine z_write (QA := zQl g [zO b0 0 [.int ar, .long (vo - tkL w vo), .long fi, .long fo, .long fv, .long br, .long pu]] (tkL w vo)) (cc := cX0_take) (maxL := 5) (ret := some .long) (by decide) rfl (Nat.le_of_ble_eq_true rfl) ?_
  intro p e s m below meth c ls A hx hb hr hml hts hown hlocks hin hP hK hD hNW hA hS hl
  have hown : s.vm.findClass RX0 = some m.cls := hown
  have hl : lv_has ls 5 [(0, .ref b0), (1, .long w)] := hl
  have hi_wsX00 : ∀ w ∈ wsX00, w ∈ wsX0_take := fun w h => List.mem_cons_of_mem _ (List.mem_append_right _ h)
  refine lv_lload_n hx hb dX0_take_0 rfl (lv_at hl 1 rfl) ?_
  refine lv_aload_n hx hb dX0_take_1 rfl (lv_at hl 0 rfl) ?_
  refine va_get (D := g) (ci := 0) (v := .long vo) (C := RX0) (T := TX0) (N := 7) hx hb hts hi_wsX00 hown hK hP 0 rfl rfl 1 (by decide) (hts (.fieldLink RX0 14 "FloodBarrier$Basin" "volume" "J") (List.mem_of_getElem? (i := 1) rfl)) (fun _ h9 => h9) rfl dX0_take_2 ?_
  refine va_mmin_long hx hb (hml.trans hl.1.symm) hown (hts (.methodLink RX0 37 Lib.MathLoose.min_long.x) (List.mem_of_getElem? (i := 2) rfl)) (hts (.static Lib.MathLoose.min_long.x) (List.mem_of_getElem? (i := 3) rfl)) (hts (.initialized "java/lang/Math") (List.mem_of_getElem? (i := 4) rfl)) (hts (.code Lib.MathLoose.min_long.x Lib.MathLoose.min_long.code 4 (some .long)) (List.mem_of_getElem? (i := 5) rfl)) (Nat.le_of_ble_eq_true rfl) (Nat.le_of_ble_eq_true rfl) (Nat.zero_le _) (Nat.zero_le _) dX0_take_5 ?_
  refine lv_lstore_n (lv' := [(3, .long (if vo < w then vo else w)), (0, .ref b0), (1, .long w)]) hx hb dX0_take_8 rfl hl (by decide) rfl (fun ls hl => ?_)
  refine lv_aload_n hx hb dX0_take_9 rfl (lv_at hl 1 rfl) ?_
  refine lv_dup hx hb dX0_take_10 rfl ?_
  refine va_get (D := g) (ci := 0) (v := .long vo) (C := RX0) (T := TX0) (N := 7) hx hb hts hi_wsX00 hown hK hP 0 rfl rfl 1 (by decide) (hts (.fieldLink RX0 14 "FloodBarrier$Basin" "volume" "J") (List.mem_of_getElem? (i := 1) rfl)) (fun _ h9 => h9) rfl dX0_take_11 ?_
  refine lv_lload_n hx hb dX0_take_14 rfl (lv_at hl 0 rfl) ?_
  refine lv_lsub hx hb dX0_take_15 ?_
  refine va_put (D := g) (ci := 0) (v := .long (vo - (if vo < w then vo else w))) (C := RX0) (T := TX0) (N := 7) hx hb hts hi_wsX00 tyX0 tyX0_ok nmX0 hown hK hP hD hS 0 rfl rfl 1 (by decide) (hts (.fieldLink RX0 14 "FloodBarrier$Basin" "volume" "J") (List.mem_of_getElem? (i := 1) rfl)) (fun _ h9 => h9) rfl (tyX0_ok 1 (by decide)) rfl rfl (Nat.le_of_ble_eq_true rfl) dX0_take_16 (fun H locs hP hD hS => ?_)
  have hP : va_P g vwCl [zO b0 0 [.int ar, .long (vo - (if vo < w then vo else w)), .long fi, .long fo, .long fv, .long br, .long pu]] H := hP
  have hD : va_D A [zO b0 0 [.int ar, .long (vo - (if vo < w then vo else w)), .long fi, .long fo, .long fv, .long br, .long pu]] := hD
  refine lv_lload_n hx hb dX0_take_19 rfl (lv_at hl 0 rfl) ?_
  exact z_lretW hx hb hr hlocks hS hP hD rfl rfl (Nat.le_refl _) (Nat.le_refl _) dX0_take_20

set_option maxHeartbeats 4000000 in
set_option maxRecDepth 100000 in
theorem c_X0_flowOver (l : Launch) (g : va_G) (ct : Nat → ClassId) (sz : Nat) (b0 : Nat) (ar : Int32) (vo fi fo fv br pu : Int64) (w : Int64) : Met l yX0_flowOver wsX0_flowOver (zRm 0 0) (va_Pc [.ref b0, .long w] (zW g ct [zO b0 0 [.int ar, .long vo, .long fi, .long fo, .long fv, .long br, .long pu]] sz)) (zQv g [zO b0 0 [.int ar, .long (vo + w), .long fi, .long fo, .long (fv + w), .long br, .long pu]] (va_A [zO b0 0 [.int ar, .long vo, .long fi, .long fo, .long fv, .long br, .long pu]] sz)) 0 0 (va_A [zO b0 0 [.int ar, .long vo, .long fi, .long fo, .long fv, .long br, .long pu]] sz) := by
  refine z_write (QA := zQv g [zO b0 0 [.int ar, .long (vo + w), .long fi, .long fo, .long (fv + w), .long br, .long pu]]) (cc := cX0_flowOver) (maxL := 3) (ret := none) (by decide) rfl (Nat.le_of_ble_eq_true rfl) ?_
  intro p e s m below meth c ls A hx hb hr hml hts hown hlocks hin hP hK hD hNW hA hS hl
  have hown : s.vm.findClass RX0 = some m.cls := hown
  have hl : lv_has ls 3 [(0, .ref b0), (1, .long w)] := hl
  have hi_wsX00 : ∀ w ∈ wsX00, w ∈ wsX0_flowOver := fun w h => List.mem_cons_of_mem _ (List.mem_append_right _ h)
  refine lv_aload_n hx hb dX0_flowOver_0 rfl (lv_at hl 0 rfl) ?_
  refine lv_dup hx hb dX0_flowOver_1 rfl ?_
  refine va_get (D := g) (ci := 0) (v := .long vo) (C := RX0) (T := TX0) (N := 7) hx hb hts hi_wsX00 hown hK hP 0 rfl rfl 1 (by decide) (hts (.fieldLink RX0 14 "FloodBarrier$Basin" "volume" "J") (List.mem_of_getElem? (i := 1) rfl)) (fun _ h9 => h9) rfl dX0_flowOver_2 ?_
  refine lv_lload_n hx hb dX0_flowOver_5 rfl (lv_at hl 1 rfl) ?_
  refine lv_ladd hx hb dX0_flowOver_6 ?_
  refine va_put (D := g) (ci := 0) (v := .long (vo + w)) (C := RX0) (T := TX0) (N := 7) hx hb hts hi_wsX00 tyX0 tyX0_ok nmX0 hown hK hP hD hS 0 rfl rfl 1 (by decide) (hts (.fieldLink RX0 14 "FloodBarrier$Basin" "volume" "J") (List.mem_of_getElem? (i := 1) rfl)) (fun _ h9 => h9) rfl (tyX0_ok 1 (by decide)) rfl rfl (Nat.le_of_ble_eq_true rfl) dX0_flowOver_7 (fun H locs hP hD hS => ?_)
  have hP : va_P g vwCl [zO b0 0 [.int ar, .long (vo + w), .long fi, .long fo, .long fv, .long br, .long pu]] H := hP
  have hD : va_D A [zO b0 0 [.int ar, .long (vo + w), .long fi, .long fo, .long fv, .long br, .long pu]] := hD
  refine lv_aload_n hx hb dX0_flowOver_10 rfl (lv_at hl 0 rfl) ?_
  refine lv_dup hx hb dX0_flowOver_11 rfl ?_
  refine va_get (D := g) (ci := 0) (v := .long fv) (C := RX0) (T := TX0) (N := 7) hx hb hts hi_wsX00 hown hK hP 0 rfl rfl 4 (by decide) (hts (.fieldLink RX0 24 "FloodBarrier$Basin" "flowedOver" "J") (List.mem_of_getElem? (i := 2) rfl)) (fun _ h9 => h9) rfl dX0_flowOver_12 ?_
  refine lv_lload_n hx hb dX0_flowOver_15 rfl (lv_at hl 1 rfl) ?_
  refine lv_ladd hx hb dX0_flowOver_16 ?_
  refine va_put (D := g) (ci := 0) (v := .long (fv + w)) (C := RX0) (T := TX0) (N := 7) hx hb hts hi_wsX00 tyX0 tyX0_ok nmX0 hown hK hP hD hS 0 rfl rfl 4 (by decide) (hts (.fieldLink RX0 24 "FloodBarrier$Basin" "flowedOver" "J") (List.mem_of_getElem? (i := 2) rfl)) (fun _ h9 => h9) rfl (tyX0_ok 4 (by decide)) rfl rfl (Nat.le_of_ble_eq_true rfl) dX0_flowOver_17 (fun H locs hP hD hS => ?_)
  have hP : va_P g vwCl [zO b0 0 [.int ar, .long (vo + w), .long fi, .long fo, .long (fv + w), .long br, .long pu]] H := hP
  have hD : va_D A [zO b0 0 [.int ar, .long (vo + w), .long fi, .long fo, .long (fv + w), .long br, .long pu]] := hD
  exact z_vretW hx hb hr hlocks hS hP hD rfl (Nat.le_refl _) (Nat.le_refl _) dX0_flowOver_20

set_option maxHeartbeats 4000000 in
set_option maxRecDepth 100000 in
theorem c_X0_bring (l : Launch) (g : va_G) (ct : Nat → ClassId) (sz : Nat) (b0 : Nat) (ar : Int32) (vo fi fo fv br pu : Int64) (w : Int64) : Met l yX0_bring wsX0_bring (zRm 0 0) (va_Pc [.ref b0, .long w] (zW g ct [zO b0 0 [.int ar, .long vo, .long fi, .long fo, .long fv, .long br, .long pu]] sz)) (zQv g [zO b0 0 [.int ar, .long (vo + w), .long fi, .long fo, .long fv, .long (br + w), .long pu]] (va_A [zO b0 0 [.int ar, .long vo, .long fi, .long fo, .long fv, .long br, .long pu]] sz)) 0 0 (va_A [zO b0 0 [.int ar, .long vo, .long fi, .long fo, .long fv, .long br, .long pu]] sz) := by
  refine z_write (QA := zQv g [zO b0 0 [.int ar, .long (vo + w), .long fi, .long fo, .long fv, .long (br + w), .long pu]]) (cc := cX0_bring) (maxL := 3) (ret := none) (by decide) rfl (Nat.le_of_ble_eq_true rfl) ?_
  intro p e s m below meth c ls A hx hb hr hml hts hown hlocks hin hP hK hD hNW hA hS hl
  have hown : s.vm.findClass RX0 = some m.cls := hown
  have hl : lv_has ls 3 [(0, .ref b0), (1, .long w)] := hl
  have hi_wsX00 : ∀ w ∈ wsX00, w ∈ wsX0_bring := fun w h => List.mem_cons_of_mem _ (List.mem_append_right _ h)
  refine lv_aload_n hx hb dX0_bring_0 rfl (lv_at hl 0 rfl) ?_
  refine lv_dup hx hb dX0_bring_1 rfl ?_
  refine va_get (D := g) (ci := 0) (v := .long vo) (C := RX0) (T := TX0) (N := 7) hx hb hts hi_wsX00 hown hK hP 0 rfl rfl 1 (by decide) (hts (.fieldLink RX0 14 "FloodBarrier$Basin" "volume" "J") (List.mem_of_getElem? (i := 1) rfl)) (fun _ h9 => h9) rfl dX0_bring_2 ?_
  refine lv_lload_n hx hb dX0_bring_5 rfl (lv_at hl 1 rfl) ?_
  refine lv_ladd hx hb dX0_bring_6 ?_
  refine va_put (D := g) (ci := 0) (v := .long (vo + w)) (C := RX0) (T := TX0) (N := 7) hx hb hts hi_wsX00 tyX0 tyX0_ok nmX0 hown hK hP hD hS 0 rfl rfl 1 (by decide) (hts (.fieldLink RX0 14 "FloodBarrier$Basin" "volume" "J") (List.mem_of_getElem? (i := 1) rfl)) (fun _ h9 => h9) rfl (tyX0_ok 1 (by decide)) rfl rfl (Nat.le_of_ble_eq_true rfl) dX0_bring_7 (fun H locs hP hD hS => ?_)
  have hP : va_P g vwCl [zO b0 0 [.int ar, .long (vo + w), .long fi, .long fo, .long fv, .long br, .long pu]] H := hP
  have hD : va_D A [zO b0 0 [.int ar, .long (vo + w), .long fi, .long fo, .long fv, .long br, .long pu]] := hD
  refine lv_aload_n hx hb dX0_bring_10 rfl (lv_at hl 0 rfl) ?_
  refine lv_dup hx hb dX0_bring_11 rfl ?_
  refine va_get (D := g) (ci := 0) (v := .long br) (C := RX0) (T := TX0) (N := 7) hx hb hts hi_wsX00 hown hK hP 0 rfl rfl 5 (by decide) (hts (.fieldLink RX0 27 "FloodBarrier$Basin" "brought" "J") (List.mem_of_getElem? (i := 2) rfl)) (fun _ h9 => h9) rfl dX0_bring_12 ?_
  refine lv_lload_n hx hb dX0_bring_15 rfl (lv_at hl 1 rfl) ?_
  refine lv_ladd hx hb dX0_bring_16 ?_
  refine va_put (D := g) (ci := 0) (v := .long (br + w)) (C := RX0) (T := TX0) (N := 7) hx hb hts hi_wsX00 tyX0 tyX0_ok nmX0 hown hK hP hD hS 0 rfl rfl 5 (by decide) (hts (.fieldLink RX0 27 "FloodBarrier$Basin" "brought" "J") (List.mem_of_getElem? (i := 2) rfl)) (fun _ h9 => h9) rfl (tyX0_ok 5 (by decide)) rfl rfl (Nat.le_of_ble_eq_true rfl) dX0_bring_17 (fun H locs hP hD hS => ?_)
  have hP : va_P g vwCl [zO b0 0 [.int ar, .long (vo + w), .long fi, .long fo, .long fv, .long (br + w), .long pu]] H := hP
  have hD : va_D A [zO b0 0 [.int ar, .long (vo + w), .long fi, .long fo, .long fv, .long (br + w), .long pu]] := hD
  exact z_vretW hx hb hr hlocks hS hP hD rfl (Nat.le_refl _) (Nat.le_refl _) dX0_bring_20

set_option maxHeartbeats 4000000 in
set_option maxRecDepth 100000 in
theorem c_X0_pumpOut (l : Launch) (g : va_G) (ct : Nat → ClassId) (sz : Nat) (b0 : Nat) (ar : Int32) (vo fi fo fv br pu : Int64) (w : Int64) : Met l yX0_pumpOut wsX0_pumpOut (zRm 2 51) (va_Pc [.ref b0, .long w] (zW g ct [zO b0 0 [.int ar, .long vo, .long fi, .long fo, .long fv, .long br, .long pu]] sz)) (zQv g [zO b0 0 [.int ar, .long (vo - tkL w vo), .long fi, .long fo, .long fv, .long br, .long (pu + tkL w vo)]] (va_A [zO b0 0 [.int ar, .long vo, .long fi, .long fo, .long fv, .long br, .long pu]] sz)) 0 0 (va_A [zO b0 0 [.int ar, .long vo, .long fi, .long fo, .long fv, .long br, .long pu]] sz) := by
  refine z_write (QA := zQv g [zO b0 0 [.int ar, .long (vo - tkL w vo), .long fi, .long fo, .long fv, .long br, .long (pu + tkL w vo)]]) (cc := cX0_pumpOut) (maxL := 3) (ret := none) (by decide) rfl (Nat.le_of_ble_eq_true rfl) ?_
  intro p e s m below meth c ls A hx hb hr hml hts hown hlocks hin hP hK hD hNW hA hS hl
  have hown : s.vm.findClass RX0 = some m.cls := hown
  have hl : lv_has ls 3 [(0, .ref b0), (1, .long w)] := hl
  have hi_wsX00 : ∀ w ∈ wsX00, w ∈ wsX0_pumpOut := fun w h => List.mem_cons_of_mem _ (List.mem_append_right _ h)
  refine lv_aload_n hx hb dX0_pumpOut_0 rfl (lv_at hl 0 rfl) ?_
  refine lv_dup hx hb dX0_pumpOut_1 rfl ?_
  refine va_get (D := g) (ci := 0) (v := .long pu) (C := RX0) (T := TX0) (N := 7) hx hb hts hi_wsX00 hown hK hP 0 rfl rfl 6 (by decide) (hts (.fieldLink RX0 30 "FloodBarrier$Basin" "pumped" "J") (List.mem_of_getElem? (i := 1) rfl)) (fun _ h9 => h9) rfl dX0_pumpOut_2 ?_
  refine lv_aload_n hx hb dX0_pumpOut_5 rfl (lv_at hl 0 rfl) ?_
  refine lv_lload_n hx hb dX0_pumpOut_6 rfl (lv_at hl 1 rfl) ?_
  refine z_wVl (wc := [zO b0 0 [.int ar, .long vo, .long fi, .long fo, .long fv, .long br, .long pu]]) (wr := []) (w2 := [zO b0 0 [.int ar, .long (vo - tkL w vo), .long fi, .long fo, .long fv, .long br, .long pu]]) (As := [.long w]) (rest := [.long pu, .ref b0]) ⟨hx, hb, hml, hown, hts⟩ hK hP hD hS hNW hA [0] [] [0] rfl rfl rfl rfl rfl rfl (by decide) (c_X0_take l g ct _ b0 ar vo fi fo fv br pu w) (cwV 1 hts gX0_pumpOut_X0_take rfl rfl rfl (by decide +kernel) ⟨Nat.le_of_ble_eq_true rfl, Nat.le_of_ble_eq_true rfl⟩) 0 rfl rfl rfl hl.1 rfl (Nat.le_of_ble_eq_true rfl) dX0_pumpOut_7 ⟨Nat.zero_le _, Nat.zero_le _⟩ (fun H locs hP hD hS => ?_)
  refine lv_ladd hx hb dX0_pumpOut_10 ?_
  refine va_put (D := g) (ci := 0) (v := .long (pu + (tkL w vo))) (C := RX0) (T := TX0) (N := 7) hx hb hts hi_wsX00 tyX0 tyX0_ok nmX0 hown hK hP hD hS 0 rfl rfl 6 (by decide) (hts (.fieldLink RX0 30 "FloodBarrier$Basin" "pumped" "J") (List.mem_of_getElem? (i := 1) rfl)) (fun _ h9 => h9) rfl (tyX0_ok 6 (by decide)) rfl rfl (Nat.le_of_ble_eq_true rfl) dX0_pumpOut_11 (fun H locs hP hD hS => ?_)
  have hP : va_P g vwCl [zO b0 0 [.int ar, .long (vo - tkL w vo), .long fi, .long fo, .long fv, .long br, .long (pu + (tkL w vo))]] H := hP
  have hD : va_D A [zO b0 0 [.int ar, .long (vo - tkL w vo), .long fi, .long fo, .long fv, .long br, .long (pu + (tkL w vo))]] := hD
  exact z_vretW hx hb hr hlocks hS hP hD rfl (Nat.le_refl _) (Nat.le_refl _) dX0_pumpOut_14

set_option maxHeartbeats 4000000 in
set_option maxRecDepth 100000 in
theorem c_X0_flowThrough (l : Launch) (g : va_G) (ct : Nat → ClassId) (sz : Nat) (b0 : Nat) (ar : Int32) (vo fi fo fv br pu : Int64) (w : Int64) : Met l yX0_flowThrough wsX0_flowThrough (zRm 2 51) (va_Pc [.ref b0, .long w] (zW g ct [zO b0 0 [.int ar, .long vo, .long fi, .long fo, .long fv, .long br, .long pu]] sz)) (zQv g [zO b0 0 [.int ar, .long ((flT w (vo, fi, fo)).1), .long ((flT w (vo, fi, fo)).2.1), .long ((flT w (vo, fi, fo)).2.2), .long fv, .long br, .long pu]] (va_A [zO b0 0 [.int ar, .long vo, .long fi, .long fo, .long fv, .long br, .long pu]] sz)) 0 0 (va_A [zO b0 0 [.int ar, .long vo, .long fi, .long fo, .long fv, .long br, .long pu]] sz) := by
  refine z_write (QA := zQv g [zO b0 0 [.int ar, .long ((flT w (vo, fi, fo)).1), .long ((flT w (vo, fi, fo)).2.1), .long ((flT w (vo, fi, fo)).2.2), .long fv, .long br, .long pu]]) (cc := cX0_flowThrough) (maxL := 3) (ret := none) (by decide) rfl (Nat.le_of_ble_eq_true rfl) ?_
  intro p e s m below meth c ls A hx hb hr hml hts hown hlocks hin hP hK hD hNW hA hS hl
  have hown : s.vm.findClass RX0 = some m.cls := hown
  have hl : lv_has ls 3 [(0, .ref b0), (1, .long w)] := hl
  have hi_wsX00 : ∀ w ∈ wsX00, w ∈ wsX0_flowThrough := fun w h => List.mem_cons_of_mem _ (List.mem_append_right _ h)
  refine lv_lload_n hx hb dX0_flowThrough_0 rfl (lv_at hl 1 rfl) ?_
  refine lv_lconst (v := 0) hx hb dX0_flowThrough_1 (by decide) ?_
  refine z_lif_le (tgt := 29) hx hb dX0_flowThrough_2 dX0_flowThrough_3 (by decide) (fun c_1 => ?_) (fun c_1 => ?_)
  · refine lv_aload_n hx hb dX0_flowThrough_29 rfl (lv_at hl 0 rfl) ?_
    refine lv_dup hx hb dX0_flowThrough_30 rfl ?_
    refine va_get (D := g) (ci := 0) (v := .long fo) (C := RX0) (T := TX0) (N := 7) hx hb hts hi_wsX00 hown hK hP 0 rfl rfl 3 (by decide) (hts (.fieldLink RX0 21 "FloodBarrier$Basin" "flowedOut" "J") (List.mem_of_getElem? (i := 3) rfl)) (fun _ h9 => h9) rfl dX0_flowThrough_31 ?_
    refine lv_aload_n hx hb dX0_flowThrough_34 rfl (lv_at hl 0 rfl) ?_
    refine lv_lload_n hx hb dX0_flowThrough_35 rfl (lv_at hl 1 rfl) ?_
    refine lv_lneg hx hb dX0_flowThrough_36 ?_
    refine z_wVl (wc := [zO b0 0 [.int ar, .long vo, .long fi, .long fo, .long fv, .long br, .long pu]]) (wr := []) (w2 := [zO b0 0 [.int ar, .long (vo - tkL (-w) vo), .long fi, .long fo, .long fv, .long br, .long pu]]) (As := [.long (-w)]) (rest := [.long fo, .ref b0]) ⟨hx, hb, hml, hown, hts⟩ hK hP hD hS hNW hA [0] [] [0] rfl rfl rfl rfl rfl rfl (by decide) (c_X0_take l g ct _ b0 ar vo fi fo fv br pu (-w)) (cwV 1 hts gX0_flowThrough_X0_take rfl rfl rfl (by decide +kernel) ⟨Nat.le_of_ble_eq_true rfl, Nat.le_of_ble_eq_true rfl⟩) 0 rfl rfl rfl hl.1 rfl (Nat.le_of_ble_eq_true rfl) dX0_flowThrough_37 ⟨Nat.zero_le _, Nat.zero_le _⟩ (fun H locs hP hD hS => ?_)
    refine lv_ladd hx hb dX0_flowThrough_40 ?_
    refine va_put (D := g) (ci := 0) (v := .long (fo + (tkL (-w) vo))) (C := RX0) (T := TX0) (N := 7) hx hb hts hi_wsX00 tyX0 tyX0_ok nmX0 hown hK hP hD hS 0 rfl rfl 3 (by decide) (hts (.fieldLink RX0 21 "FloodBarrier$Basin" "flowedOut" "J") (List.mem_of_getElem? (i := 3) rfl)) (fun _ h9 => h9) rfl (tyX0_ok 3 (by decide)) rfl rfl (Nat.le_of_ble_eq_true rfl) dX0_flowThrough_41 (fun H locs hP hD hS => ?_)
    have hP : va_P g vwCl [zO b0 0 [.int ar, .long (vo - tkL (-w) vo), .long fi, .long (fo + (tkL (-w) vo)), .long fv, .long br, .long pu]] H := hP
    have hD : va_D A [zO b0 0 [.int ar, .long (vo - tkL (-w) vo), .long fi, .long (fo + (tkL (-w) vo)), .long fv, .long br, .long pu]] := hD
    exact z_vretW hx hb hr hlocks hS hP hD (by first | rfl | (simp only [flT, if_pos c_1]) | (simp [flT, c_1])) (Nat.le_refl _) (Nat.le_refl _) dX0_flowThrough_44
  · refine lv_aload_n hx hb dX0_flowThrough_6 rfl (lv_at hl 0 rfl) ?_
    refine lv_dup hx hb dX0_flowThrough_7 rfl ?_
    refine va_get (D := g) (ci := 0) (v := .long vo) (C := RX0) (T := TX0) (N := 7) hx hb hts hi_wsX00 hown hK hP 0 rfl rfl 1 (by decide) (hts (.fieldLink RX0 14 "FloodBarrier$Basin" "volume" "J") (List.mem_of_getElem? (i := 1) rfl)) (fun _ h9 => h9) rfl dX0_flowThrough_8 ?_
    refine lv_lload_n hx hb dX0_flowThrough_11 rfl (lv_at hl 1 rfl) ?_
    refine lv_ladd hx hb dX0_flowThrough_12 ?_
    refine va_put (D := g) (ci := 0) (v := .long (vo + w)) (C := RX0) (T := TX0) (N := 7) hx hb hts hi_wsX00 tyX0 tyX0_ok nmX0 hown hK hP hD hS 0 rfl rfl 1 (by decide) (hts (.fieldLink RX0 14 "FloodBarrier$Basin" "volume" "J") (List.mem_of_getElem? (i := 1) rfl)) (fun _ h9 => h9) rfl (tyX0_ok 1 (by decide)) rfl rfl (Nat.le_of_ble_eq_true rfl) dX0_flowThrough_13 (fun H locs hP hD hS => ?_)
    have hP : va_P g vwCl [zO b0 0 [.int ar, .long (vo + w), .long fi, .long fo, .long fv, .long br, .long pu]] H := hP
    have hD : va_D A [zO b0 0 [.int ar, .long (vo + w), .long fi, .long fo, .long fv, .long br, .long pu]] := hD
    refine lv_aload_n hx hb dX0_flowThrough_16 rfl (lv_at hl 0 rfl) ?_
    refine lv_dup hx hb dX0_flowThrough_17 rfl ?_
    refine va_get (D := g) (ci := 0) (v := .long fi) (C := RX0) (T := TX0) (N := 7) hx hb hts hi_wsX00 hown hK hP 0 rfl rfl 2 (by decide) (hts (.fieldLink RX0 18 "FloodBarrier$Basin" "flowedIn" "J") (List.mem_of_getElem? (i := 2) rfl)) (fun _ h9 => h9) rfl dX0_flowThrough_18 ?_
    refine lv_lload_n hx hb dX0_flowThrough_21 rfl (lv_at hl 1 rfl) ?_
    refine lv_ladd hx hb dX0_flowThrough_22 ?_
    refine va_put (D := g) (ci := 0) (v := .long (fi + w)) (C := RX0) (T := TX0) (N := 7) hx hb hts hi_wsX00 tyX0 tyX0_ok nmX0 hown hK hP hD hS 0 rfl rfl 2 (by decide) (hts (.fieldLink RX0 18 "FloodBarrier$Basin" "flowedIn" "J") (List.mem_of_getElem? (i := 2) rfl)) (fun _ h9 => h9) rfl (tyX0_ok 2 (by decide)) rfl rfl (Nat.le_of_ble_eq_true rfl) dX0_flowThrough_23 (fun H locs hP hD hS => ?_)
    have hP : va_P g vwCl [zO b0 0 [.int ar, .long (vo + w), .long (fi + w), .long fo, .long fv, .long br, .long pu]] H := hP
    have hD : va_D A [zO b0 0 [.int ar, .long (vo + w), .long (fi + w), .long fo, .long fv, .long br, .long pu]] := hD
    refine lv_goto (tgt := 44) hx hb dX0_flowThrough_26 (by decide) ?_
    exact z_vretW hx hb hr hlocks hS hP hD (by first | rfl | (simp only [flT, if_neg c_1]) | (simp [flT, c_1])) (Nat.le_refl _) (Nat.le_refl _) dX0_flowThrough_44

set_option maxHeartbeats 4000000 in
set_option maxRecDepth 100000 in
theorem c_X0_copyFrom (l : Launch) (g : va_G) (ct : Nat → ClassId) (sz : Nat) (b0 : Nat) (ar : Int32) (vo fi fo fv br pu : Int64) (d0 : Nat) (ar2 : Int32) (vo2 fi2 fo2 fv2 br2 pu2 : Int64) : Met l yX0_copyFrom wsX0_copyFrom (zRm 0 0) (va_Pc [.ref b0, .ref d0] (zW g ct [zO b0 0 [.int ar, .long vo, .long fi, .long fo, .long fv, .long br, .long pu], zO d0 0 [.int ar2, .long vo2, .long fi2, .long fo2, .long fv2, .long br2, .long pu2]] sz)) (zQv g [zO b0 0 [.int ar2, .long vo2, .long fi2, .long fo2, .long fv2, .long br2, .long pu2], zO d0 0 [.int ar2, .long vo2, .long fi2, .long fo2, .long fv2, .long br2, .long pu2]] (va_A [zO b0 0 [.int ar, .long vo, .long fi, .long fo, .long fv, .long br, .long pu], zO d0 0 [.int ar2, .long vo2, .long fi2, .long fo2, .long fv2, .long br2, .long pu2]] sz)) 0 0 (va_A [zO b0 0 [.int ar, .long vo, .long fi, .long fo, .long fv, .long br, .long pu], zO d0 0 [.int ar2, .long vo2, .long fi2, .long fo2, .long fv2, .long br2, .long pu2]] sz) := by
  refine z_write (QA := zQv g [zO b0 0 [.int ar2, .long vo2, .long fi2, .long fo2, .long fv2, .long br2, .long pu2], zO d0 0 [.int ar2, .long vo2, .long fi2, .long fo2, .long fv2, .long br2, .long pu2]]) (cc := cX0_copyFrom) (maxL := 2) (ret := none) (by decide) rfl (Nat.le_of_ble_eq_true rfl) ?_
  intro p e s m below meth c ls A hx hb hr hml hts hown hlocks hin hP hK hD hNW hA hS hl
  have hown : s.vm.findClass RX0 = some m.cls := hown
  have hl : lv_has ls 2 [(0, .ref b0), (1, .ref d0)] := hl
  have hi_wsX00 : ∀ w ∈ wsX00, w ∈ wsX0_copyFrom := fun w h => List.mem_cons_of_mem _ (List.mem_append_right _ h)
  refine lv_aload_n hx hb dX0_copyFrom_0 rfl (lv_at hl 0 rfl) ?_
  refine lv_aload_n hx hb dX0_copyFrom_1 rfl (lv_at hl 1 rfl) ?_
  refine va_get (D := g) (ci := 0) (v := .int ar2) (C := RX0) (T := TX0) (N := 7) hx hb hts hi_wsX00 hown hK hP 1 rfl rfl 0 (by decide) (hts (.fieldLink RX0 8 "FloodBarrier$Basin" "area" "I") (List.mem_of_getElem? (i := 1) rfl)) (fun _ h9 => h9) rfl dX0_copyFrom_2 ?_
  refine va_put (D := g) (ci := 0) (v := .int ar2) (C := RX0) (T := TX0) (N := 7) hx hb hts hi_wsX00 tyX0 tyX0_ok nmX0 hown hK hP hD hS 0 rfl rfl 0 (by decide) (hts (.fieldLink RX0 8 "FloodBarrier$Basin" "area" "I") (List.mem_of_getElem? (i := 1) rfl)) (fun _ h9 => h9) rfl (tyX0_ok 0 (by decide)) rfl rfl (Nat.le_of_ble_eq_true rfl) dX0_copyFrom_5 (fun H locs hP hD hS => ?_)
  have hP : va_P g vwCl [zO b0 0 [.int ar2, .long vo, .long fi, .long fo, .long fv, .long br, .long pu], zO d0 0 [.int ar2, .long vo2, .long fi2, .long fo2, .long fv2, .long br2, .long pu2]] H := hP
  have hD : va_D A [zO b0 0 [.int ar2, .long vo, .long fi, .long fo, .long fv, .long br, .long pu], zO d0 0 [.int ar2, .long vo2, .long fi2, .long fo2, .long fv2, .long br2, .long pu2]] := hD
  refine lv_aload_n hx hb dX0_copyFrom_8 rfl (lv_at hl 0 rfl) ?_
  refine lv_aload_n hx hb dX0_copyFrom_9 rfl (lv_at hl 1 rfl) ?_
  refine va_get (D := g) (ci := 0) (v := .long vo2) (C := RX0) (T := TX0) (N := 7) hx hb hts hi_wsX00 hown hK hP 1 rfl rfl 1 (by decide) (hts (.fieldLink RX0 14 "FloodBarrier$Basin" "volume" "J") (List.mem_of_getElem? (i := 2) rfl)) (fun _ h9 => h9) rfl dX0_copyFrom_10 ?_
  refine va_put (D := g) (ci := 0) (v := .long vo2) (C := RX0) (T := TX0) (N := 7) hx hb hts hi_wsX00 tyX0 tyX0_ok nmX0 hown hK hP hD hS 0 rfl rfl 1 (by decide) (hts (.fieldLink RX0 14 "FloodBarrier$Basin" "volume" "J") (List.mem_of_getElem? (i := 2) rfl)) (fun _ h9 => h9) rfl (tyX0_ok 1 (by decide)) rfl rfl (Nat.le_of_ble_eq_true rfl) dX0_copyFrom_13 (fun H locs hP hD hS => ?_)
  have hP : va_P g vwCl [zO b0 0 [.int ar2, .long vo2, .long fi, .long fo, .long fv, .long br, .long pu], zO d0 0 [.int ar2, .long vo2, .long fi2, .long fo2, .long fv2, .long br2, .long pu2]] H := hP
  have hD : va_D A [zO b0 0 [.int ar2, .long vo2, .long fi, .long fo, .long fv, .long br, .long pu], zO d0 0 [.int ar2, .long vo2, .long fi2, .long fo2, .long fv2, .long br2, .long pu2]] := hD
  refine lv_aload_n hx hb dX0_copyFrom_16 rfl (lv_at hl 0 rfl) ?_
  refine lv_aload_n hx hb dX0_copyFrom_17 rfl (lv_at hl 1 rfl) ?_
  refine va_get (D := g) (ci := 0) (v := .long fi2) (C := RX0) (T := TX0) (N := 7) hx hb hts hi_wsX00 hown hK hP 1 rfl rfl 2 (by decide) (hts (.fieldLink RX0 18 "FloodBarrier$Basin" "flowedIn" "J") (List.mem_of_getElem? (i := 3) rfl)) (fun _ h9 => h9) rfl dX0_copyFrom_18 ?_
  refine va_put (D := g) (ci := 0) (v := .long fi2) (C := RX0) (T := TX0) (N := 7) hx hb hts hi_wsX00 tyX0 tyX0_ok nmX0 hown hK hP hD hS 0 rfl rfl 2 (by decide) (hts (.fieldLink RX0 18 "FloodBarrier$Basin" "flowedIn" "J") (List.mem_of_getElem? (i := 3) rfl)) (fun _ h9 => h9) rfl (tyX0_ok 2 (by decide)) rfl rfl (Nat.le_of_ble_eq_true rfl) dX0_copyFrom_21 (fun H locs hP hD hS => ?_)
  have hP : va_P g vwCl [zO b0 0 [.int ar2, .long vo2, .long fi2, .long fo, .long fv, .long br, .long pu], zO d0 0 [.int ar2, .long vo2, .long fi2, .long fo2, .long fv2, .long br2, .long pu2]] H := hP
  have hD : va_D A [zO b0 0 [.int ar2, .long vo2, .long fi2, .long fo, .long fv, .long br, .long pu], zO d0 0 [.int ar2, .long vo2, .long fi2, .long fo2, .long fv2, .long br2, .long pu2]] := hD
  refine lv_aload_n hx hb dX0_copyFrom_24 rfl (lv_at hl 0 rfl) ?_
  refine lv_aload_n hx hb dX0_copyFrom_25 rfl (lv_at hl 1 rfl) ?_
  refine va_get (D := g) (ci := 0) (v := .long fo2) (C := RX0) (T := TX0) (N := 7) hx hb hts hi_wsX00 hown hK hP 1 rfl rfl 3 (by decide) (hts (.fieldLink RX0 21 "FloodBarrier$Basin" "flowedOut" "J") (List.mem_of_getElem? (i := 4) rfl)) (fun _ h9 => h9) rfl dX0_copyFrom_26 ?_
  refine va_put (D := g) (ci := 0) (v := .long fo2) (C := RX0) (T := TX0) (N := 7) hx hb hts hi_wsX00 tyX0 tyX0_ok nmX0 hown hK hP hD hS 0 rfl rfl 3 (by decide) (hts (.fieldLink RX0 21 "FloodBarrier$Basin" "flowedOut" "J") (List.mem_of_getElem? (i := 4) rfl)) (fun _ h9 => h9) rfl (tyX0_ok 3 (by decide)) rfl rfl (Nat.le_of_ble_eq_true rfl) dX0_copyFrom_29 (fun H locs hP hD hS => ?_)
  have hP : va_P g vwCl [zO b0 0 [.int ar2, .long vo2, .long fi2, .long fo2, .long fv, .long br, .long pu], zO d0 0 [.int ar2, .long vo2, .long fi2, .long fo2, .long fv2, .long br2, .long pu2]] H := hP
  have hD : va_D A [zO b0 0 [.int ar2, .long vo2, .long fi2, .long fo2, .long fv, .long br, .long pu], zO d0 0 [.int ar2, .long vo2, .long fi2, .long fo2, .long fv2, .long br2, .long pu2]] := hD
  refine lv_aload_n hx hb dX0_copyFrom_32 rfl (lv_at hl 0 rfl) ?_
  refine lv_aload_n hx hb dX0_copyFrom_33 rfl (lv_at hl 1 rfl) ?_
  refine va_get (D := g) (ci := 0) (v := .long fv2) (C := RX0) (T := TX0) (N := 7) hx hb hts hi_wsX00 hown hK hP 1 rfl rfl 4 (by decide) (hts (.fieldLink RX0 24 "FloodBarrier$Basin" "flowedOver" "J") (List.mem_of_getElem? (i := 5) rfl)) (fun _ h9 => h9) rfl dX0_copyFrom_34 ?_
  refine va_put (D := g) (ci := 0) (v := .long fv2) (C := RX0) (T := TX0) (N := 7) hx hb hts hi_wsX00 tyX0 tyX0_ok nmX0 hown hK hP hD hS 0 rfl rfl 4 (by decide) (hts (.fieldLink RX0 24 "FloodBarrier$Basin" "flowedOver" "J") (List.mem_of_getElem? (i := 5) rfl)) (fun _ h9 => h9) rfl (tyX0_ok 4 (by decide)) rfl rfl (Nat.le_of_ble_eq_true rfl) dX0_copyFrom_37 (fun H locs hP hD hS => ?_)
  have hP : va_P g vwCl [zO b0 0 [.int ar2, .long vo2, .long fi2, .long fo2, .long fv2, .long br, .long pu], zO d0 0 [.int ar2, .long vo2, .long fi2, .long fo2, .long fv2, .long br2, .long pu2]] H := hP
  have hD : va_D A [zO b0 0 [.int ar2, .long vo2, .long fi2, .long fo2, .long fv2, .long br, .long pu], zO d0 0 [.int ar2, .long vo2, .long fi2, .long fo2, .long fv2, .long br2, .long pu2]] := hD
  refine lv_aload_n hx hb dX0_copyFrom_40 rfl (lv_at hl 0 rfl) ?_
  refine lv_aload_n hx hb dX0_copyFrom_41 rfl (lv_at hl 1 rfl) ?_
  refine va_get (D := g) (ci := 0) (v := .long br2) (C := RX0) (T := TX0) (N := 7) hx hb hts hi_wsX00 hown hK hP 1 rfl rfl 5 (by decide) (hts (.fieldLink RX0 27 "FloodBarrier$Basin" "brought" "J") (List.mem_of_getElem? (i := 6) rfl)) (fun _ h9 => h9) rfl dX0_copyFrom_42 ?_
  refine va_put (D := g) (ci := 0) (v := .long br2) (C := RX0) (T := TX0) (N := 7) hx hb hts hi_wsX00 tyX0 tyX0_ok nmX0 hown hK hP hD hS 0 rfl rfl 5 (by decide) (hts (.fieldLink RX0 27 "FloodBarrier$Basin" "brought" "J") (List.mem_of_getElem? (i := 6) rfl)) (fun _ h9 => h9) rfl (tyX0_ok 5 (by decide)) rfl rfl (Nat.le_of_ble_eq_true rfl) dX0_copyFrom_45 (fun H locs hP hD hS => ?_)
  have hP : va_P g vwCl [zO b0 0 [.int ar2, .long vo2, .long fi2, .long fo2, .long fv2, .long br2, .long pu], zO d0 0 [.int ar2, .long vo2, .long fi2, .long fo2, .long fv2, .long br2, .long pu2]] H := hP
  have hD : va_D A [zO b0 0 [.int ar2, .long vo2, .long fi2, .long fo2, .long fv2, .long br2, .long pu], zO d0 0 [.int ar2, .long vo2, .long fi2, .long fo2, .long fv2, .long br2, .long pu2]] := hD
  refine lv_aload_n hx hb dX0_copyFrom_48 rfl (lv_at hl 0 rfl) ?_
  refine lv_aload_n hx hb dX0_copyFrom_49 rfl (lv_at hl 1 rfl) ?_
  refine va_get (D := g) (ci := 0) (v := .long pu2) (C := RX0) (T := TX0) (N := 7) hx hb hts hi_wsX00 hown hK hP 1 rfl rfl 6 (by decide) (hts (.fieldLink RX0 30 "FloodBarrier$Basin" "pumped" "J") (List.mem_of_getElem? (i := 7) rfl)) (fun _ h9 => h9) rfl dX0_copyFrom_50 ?_
  refine va_put (D := g) (ci := 0) (v := .long pu2) (C := RX0) (T := TX0) (N := 7) hx hb hts hi_wsX00 tyX0 tyX0_ok nmX0 hown hK hP hD hS 0 rfl rfl 6 (by decide) (hts (.fieldLink RX0 30 "FloodBarrier$Basin" "pumped" "J") (List.mem_of_getElem? (i := 7) rfl)) (fun _ h9 => h9) rfl (tyX0_ok 6 (by decide)) rfl rfl (Nat.le_of_ble_eq_true rfl) dX0_copyFrom_53 (fun H locs hP hD hS => ?_)
  have hP : va_P g vwCl [zO b0 0 [.int ar2, .long vo2, .long fi2, .long fo2, .long fv2, .long br2, .long pu2], zO d0 0 [.int ar2, .long vo2, .long fi2, .long fo2, .long fv2, .long br2, .long pu2]] H := hP
  have hD : va_D A [zO b0 0 [.int ar2, .long vo2, .long fi2, .long fo2, .long fv2, .long br2, .long pu2], zO d0 0 [.int ar2, .long vo2, .long fi2, .long fo2, .long fv2, .long br2, .long pu2]] := hD
  exact z_vretW hx hb hr hlocks hS hP hD rfl (Nat.le_refl _) (Nat.le_refl _) dX0_copyFrom_56
