/-! the law: its loop -/
section ZEI
variable {p : Program} {l : Launch} {e : Env} {R : Room} {s : State} {m : MethodId} {args : Array Value} {below : List Frame} {meth : Method} {c : Code} {H : Heap} {locs : List Loc} {cells slots : Nat} {Q : State → Prop}
variable {cc : ByteArray} {pc nL : Nat} {ls : Array Slot} {rest st : List Value} {g : va_G} {A : Nat → Prop} {ct : Nat → ClassId} {ws wc wr w2 : va_W} {H0 : Heap}
variable {y : MethodName} {bytes : ByteArray} {maxL n index ci N mc ms : Nat} {ret : Option FieldType} {wsC Ts : List Cond} {rm : Room} {own C : String} {b : Nat} {As : List Value} {T : u_T} {fs : List Value}
theorem z_eIp {S : Type} {w1 : S → va_W} (S0 : CallFix p m c cc nL s args Ts own) (hK : va_K g vwCl (zT ct) s) (hP : va_P g vwCl ws H) (hD : va_D A ws) (hS : va_S A H0 H locs) (hN : zNW s) (hA : ∀ q, H0.size ≤ q → A q)
    (isC isR : List Nat) (hC : isC.map (fun i => ws[i]?) = wc.map some) (hR : isR.map (fun i => ws[i]?) = wr.map some) (hnC : va_nd isC = true) (hnR : va_nd isR = true) (hdis : ∀ i ∈ isR, i ∉ isC)
    (hM : Met l y wsC rm (va_Pc (.ref b :: As) (zW g ct wc H.size)) (zEv g w1 (va_A wc H.size)) mc ms (va_A wc H.size)) (cw : CallB R s args own index y bytes maxL none wsC rm mc ms n ∧ y.name = "<init>" ∧ (Cond.instanceMethod y).before args s = true)
    (hn : As.length = n) (hsize : ls.size = nL) (hst : st = As.reverse ++ .ref b :: rest) (hW : (rest.map fun v => v.category).sum ≤ 8) (hdg : decode cc pc = .ok (.invokespecial index, 3)) (hf : cells + mc ≤ R.cells ∧ slots + ms ≤ R.slots)
    (kk : ∀ (u : S) (H1 : Heap) (locs1 : List Loc), va_P g vwCl (wr ++ w1 u) H1 → va_D A (wr ++ w1 u) → va_S A H0 H1 locs1 → W p l e R s m args below meth c H1 locs1 (cells + mc) (slots + ms) Q (F0 m (pc + 3) ls (rest))) : W p l e R s m args below meth c H locs cells slots Q (F0 m pc ls st) := by
  subst hst
  have hPc : va_P g vwCl wc H := (hP.by (fun k => (isC[k]?).getD 0) (fun k q hk => by
    obtain ⟨i, h1, h2⟩ := va_in_of isC hC hk
    rw [h1]
    exact h2))
  have hDc := hD.sub isC hnC hC
  have hFc := va_free hD hS hA isC hC
  refine va_callv (va_runI S0 hM cw ⟨zW_blind, fun U hU hW1 => ⟨rfl, by rw [hU], by rw [hU]; exact hPc, va_K.moved hW1.alike hK, hDc.weaken (fun _ _ _ _ => trivial), zNW_warm hW1 hN⟩⟩ rfl hn hsize rfl (lv_room hW) hdg hf) hS (fun q _ h => hFc q h) hFc (fun  u t H1 locs1 ht hvm hw hB hz1 hk1 hS1 => ?_)
  obtain ⟨hP1, hD1⟩ := hB
  rw [ht] at hP1
  obtain ⟨hP2, hD2⟩ := va_join hP hD isC isR hC hR hnR hdis hk1 hFc hP1 hD1
  exact kk u H1 locs1 hP2 hD2 hS1
end ZEI

set_option maxHeartbeats 4000000 in
set_option maxRecDepth 100000 in
theorem law_loop {p : Program} {e : Env} {s : State} {m : MethodId} {below : List Frame} {meth : Method} {c : Code} {b L : Nat} {xs : Nat → Int32} {Q : State → Prop} {g : va_G} {ct : Nat → ClassId} (l : Launch) (h : LX p s m c b L xs g ct)
    (kend : ∀ (cells slots : Nat) (H : Heap) (locs : List Loc) (ls : Array Slot), cells ≤ 600000 → slots ≤ 7302250 → va_S (AL s) s.heap H locs → W p l e room_1 s m #[Value.ref b] below meth c H locs cells slots Q (F0 m 1032 ls [])) :
    ∀ (n j T : Nat) (C : CT) (M : MT) (H : Heap) (locs : List Loc) (ls : Array Slot), n + j = 513 → j ≤ 512 → T = 48 * j → Rel T C M → va_P g vwCl (CW ct C ++ MWd ct M) H → va_D (AL s) (CW ct C ++ MWd ct M) → va_S (AL s) s.heap H locs → lv_has ls 8 [(3, .int (nI (6 * j))), (2, .ref (j_ma M 0)), (1, .ref (k_ba C 0)), (0, .ref b)] → W p l e room_1 s m #[Value.ref b] below meth c H locs (60 + 21 * j) (1600 + 158 * j) Q (F0 m 18 ls []) := by
  obtain ⟨hx, hb, hml, hown, hts, hX, hbl, hK, hNW, hL⟩ := id h
  have hcl : Cond.constantLong RL 13 (4294967295) ∈ wsL_law := List.mem_of_getElem? (i := 6) rfl
  intro n
  induction n with
  | zero =>
    intro j T C M H locs ls hn hj
    exact absurd hj (by omega)
  | succ n ih =>
    intro j T C M H locs ls hn hj hT hR hP hD hS hl
    refine lv_iload_n hx hb dL_law_18 rfl (lv_at hl 0 rfl) ?_
    refine lv_aload_n hx hb dL_law_19 rfl (lv_at hl 3 rfl) ?_
    refine va_slen (A := AL s) hx hb hX hbl (Nat.not_le.mpr hbl) hS dL_law_20 ?_
    refine lv_bipush (v := 6) hx hb dL_law_21 (by decide) ?_
    refine lv_isub hx hb dL_law_23 ?_
    refine lv_icmp_gt (tgt := 1032) hx hb dL_law_24 (by decide) (fun q => ?_) (fun q => ?_)
    · exact kend _ _ _ _ _ (by omega) (by omega) hS
    · have q : ¬ nI L - 6 < nI (6 * j) := q
      have hi : 6 * j + 6 ≤ L := by
        rw [Int32.lt_iff_toInt_lt, six_le hL, nI_toInt (by omega)] at q
        omega
      refine lv_aload_n hx hb dL_law_27 rfl (lv_at hl 3 rfl) ?_
      refine lv_iload_n hx hb dL_law_28 rfl (lv_at hl 0 rfl) ?_
      refine z_sld h hS (k := 6 * j) (by omega) dL_law_29 ?_
      refine lv_bipush (v := 31) hx hb dL_law_30 (by decide) ?_
      refine lv_iand hx hb dL_law_32 ?_
      have kk : ∀ (C2 : CT) (M2 : MT) (H2 : Heap) (locs2 : List Loc) (ls2 : Array Slot), Rel (T + 48) C2 M2 → va_P g vwCl (CW ct C2 ++ MWd ct M2) H2 → va_D (AL s) (CW ct C2 ++ MWd ct M2) → va_S (AL s) s.heap H2 locs2 → lv_has ls2 8 [(3, .int (nI (6 * j))), (2, .ref (j_ma M2 0)), (1, .ref (k_ba C2 0)), (0, .ref b)] → W p l e room_1 s m #[Value.ref b] below meth c H2 locs2 (60 + 21 * j + 21) (1600 + 158 * j + 158) Q (F0 m 1026 ls2 []) := by
        intro C2 M2 H2 locs2 ls2 hR2 hP2 hD2 hS2 hl2
        refine lv_iinc (v := nI (6 * j + 6)) (lv' := [(3, .int (nI (6 * j + 6))), (2, .ref (j_ma M2 0)), (1, .ref (k_ba C2 0)), (0, .ref b)]) hx hb dL_law_1026 hl2 (k := 0) rfl (nI_add (6 * j) 6) (by decide) rfl (fun ls3 hl3 => ?_)
        refine lv_goto (tgt := 18) hx hb dL_law_1029 (by decide) ?_
        have z := ih (j + 1) (T + 48) C2 M2 H2 locs2 ls3 (by omega) (by omega) (by omega) hR2 hP2 hD2 hS2 hl3
        rw [show 60 + 21 * (j + 1) = 60 + 21 * j + 21 by omega, show 1600 + 158 * (j + 1) = 1600 + 158 * j + 158 by omega] at z
        exact z
      generalize xs (6 * j) &&& 31 = x
      by_cases e0 : x = 0
      · refine lv_tableIn (off := 127) (tgt := 160) hx hb dL_law_33 (by rw [e0]; decide) (by rw [e0]; decide) (by rw [e0]; rfl) (by decide) ?_
        exact cs_addSection l h hcl hi (by omega) hR ⟨by omega, by omega⟩ hP hD hS hl kk
      by_cases e1 : x = 1
      · refine lv_tableIn (off := 210) (tgt := 243) hx hb dL_law_33 (by rw [e1]; decide) (by rw [e1]; decide) (by rw [e1]; rfl) (by decide) ?_
        exact cs_addDistrict l h hcl hi (by omega) hR ⟨by omega, by omega⟩ hP hD hS hl kk
      by_cases e2 : x = 2
      · refine lv_tableIn (off := 233) (tgt := 266) hx hb dL_law_33 (by rw [e2]; decide) (by rw [e2]; decide) (by rw [e2]; rfl) (by decide) ?_
        exact cs_addStream l h hcl hi (by omega) hR ⟨by omega, by omega⟩ hP hD hS hl kk
      by_cases e3 : x = 3
      · refine lv_tableIn (off := 256) (tgt := 289) hx hb dL_law_33 (by rw [e3]; decide) (by rw [e3]; decide) (by rw [e3]; rfl) (by decide) ?_
        exact cs_addPump l h hcl hi (by omega) hR ⟨by omega, by omega⟩ hP hD hS hl kk
      by_cases e4 : x = 4
      · refine lv_tableIn (off := 289) (tgt := 322) hx hb dL_law_33 (by rw [e4]; decide) (by rw [e4]; decide) (by rw [e4]; rfl) (by decide) ?_
        exact cs_setStream l h hcl hi (by omega) hR ⟨by omega, by omega⟩ hP hD hS hl kk
      by_cases e5 : x = 5
      · refine lv_tableIn (off := 322) (tgt := 355) hx hb dL_law_33 (by rw [e5]; decide) (by rw [e5]; decide) (by rw [e5]; rfl) (by decide) ?_
        exact cs_switchPump l h hcl hi (by omega) hR ⟨by omega, by omega⟩ hP hD hS hl kk
      by_cases e6 : x = 6
      · refine lv_tableIn (off := 371) (tgt := 404) hx hb dL_law_33 (by rw [e6]; decide) (by rw [e6]; decide) (by rw [e6]; rfl) (by decide) ?_
        exact cs_set l h hcl hi (by omega) hR ⟨by omega, by omega⟩ hP hD hS hl kk
      by_cases e7 : x = 7
      · refine lv_tableIn (off := 404) (tgt := 437) hx hb dL_law_33 (by rw [e7]; decide) (by rw [e7]; decide) (by rw [e7]; rfl) (by decide) ?_
        exact cs_setAlarm l h hcl hi (by omega) hR ⟨by omega, by omega⟩ hP hD hS hl kk
      by_cases e8 : x = 8
      · refine lv_tableIn (off := 457) (tgt := 490) hx hb dL_law_33 (by rw [e8]; decide) (by rw [e8]; decide) (by rw [e8]; rfl) (by decide) ?_
        exact cs_setTide l h hcl hi (by omega) hR ⟨by omega, by omega⟩ hP hD hS hl kk
      by_cases e9 : x = 9
      · refine lv_tableIn (off := 520) (tgt := 553) hx hb dL_law_33 (by rw [e9]; decide) (by rw [e9]; decide) (by rw [e9]; rfl) (by decide) ?_
        exact cs_vote l h hcl hi (by omega) hR ⟨by omega, by omega⟩ hP hD hS hl kk
      by_cases e10 : x = 10
      · refine lv_tableIn (off := 569) (tgt := 602) hx hb dL_law_33 (by rw [e10]; decide) (by rw [e10]; decide) (by rw [e10]; rfl) (by decide) ?_
        exact cs_close l h hcl hi (by omega) hR ⟨by omega, by omega⟩ hP hD hS hl kk
      by_cases e11 : x = 11
      · refine lv_tableIn (off := 582) (tgt := 615) hx hb dL_law_33 (by rw [e11]; decide) (by rw [e11]; decide) (by rw [e11]; rfl) (by decide) ?_
        exact cs_open l h hcl hi (by omega) hR ⟨by omega, by omega⟩ hP hD hS hl kk
      by_cases e12 : x = 12
      · refine lv_tableIn (off := 595) (tgt := 628) hx hb dL_law_33 (by rw [e12]; decide) (by rw [e12]; decide) (by rw [e12]; rfl) (by decide) ?_
        exact cs_service l h hcl hi (by omega) hR ⟨by omega, by omega⟩ hP hD hS hl kk
      by_cases e13 : x = 13
      · refine lv_tableIn (off := 618) (tgt := 651) hx hb dL_law_33 (by rw [e13]; decide) (by rw [e13]; decide) (by rw [e13]; rfl) (by decide) ?_
        exact cs_pass l h hcl hi (by omega) hR ⟨by omega, by omega⟩ hP hD hS hl kk
      by_cases e14 : x = 14
      · refine lv_tableIn (off := 641) (tgt := 674) hx hb dL_law_33 (by rw [e14]; decide) (by rw [e14]; decide) (by rw [e14]; rfl) (by decide) ?_
        exact cs_type l h hcl hi (by omega) hR ⟨by omega, by omega⟩ hP hD hS hl kk
      by_cases e15 : x = 15
      · refine lv_tableIn (off := 666) (tgt := 699) hx hb dL_law_33 (by rw [e15]; decide) (by rw [e15]; decide) (by rw [e15]; rfl) (by decide) ?_
        exact cs_clearText l h hcl hi (by omega) hR ⟨by omega, by omega⟩ hP hD hS hl kk
      by_cases e16 : x = 16
      · refine lv_tableIn (off := 679) (tgt := 712) hx hb dL_law_33 (by rw [e16]; decide) (by rw [e16]; decide) (by rw [e16]; rfl) (by decide) ?_
        exact cs_readTides l h hcl hi (by omega) hR ⟨by omega, by omega⟩ hP hD hS hl kk
      by_cases e17 : x = 17
      · refine lv_tableIn (off := 702) (tgt := 735) hx hb dL_law_33 (by rw [e17]; decide) (by rw [e17]; decide) (by rw [e17]; rfl) (by decide) ?_
        exact cs_undo l h hcl hi (by omega) hR ⟨by omega, by omega⟩ hP hD hS hl kk
      by_cases e18 : x = 18
      · refine lv_tableIn (off := 715) (tgt := 748) hx hb dL_law_33 (by rw [e18]; decide) (by rw [e18]; decide) (by rw [e18]; rfl) (by decide) ?_
        exact cs_keep l h hcl hi (by omega) hR ⟨by omega, by omega⟩ hP hD hS hl kk
      by_cases e19 : x = 19
      · refine lv_tableIn (off := 728) (tgt := 761) hx hb dL_law_33 (by rw [e19]; decide) (by rw [e19]; decide) (by rw [e19]; rfl) (by decide) ?_
        exact cs_restore l h hcl hi (by omega) hR ⟨by omega, by omega⟩ hP hD hS hl kk
      by_cases e20 : x = 20
      · refine lv_tableIn (off := 741) (tgt := 774) hx hb dL_law_33 (by rw [e20]; decide) (by rw [e20]; decide) (by rw [e20]; rfl) (by decide) ?_
        exact cs_section l h hcl hi (by omega) hR ⟨by omega, by omega⟩ hP hD hS hl kk
      by_cases e21 : x = 21
      · refine lv_tableIn (off := 774) (tgt := 807) hx hb dL_law_33 (by rw [e21]; decide) (by rw [e21]; decide) (by rw [e21]; rfl) (by decide) ?_
        exact cs_pump l h hcl hi (by omega) hR ⟨by omega, by omega⟩ hP hD hS hl kk
      by_cases e22 : x = 22
      · refine lv_tableIn (off := 807) (tgt := 840) hx hb dL_law_33 (by rw [e22]; decide) (by rw [e22]; decide) (by rw [e22]; rfl) (by decide) ?_
        exact cs_level l h hcl hi (by omega) hR ⟨by omega, by omega⟩ hP hD hS hl kk
      by_cases e23 : x = 23
      · refine lv_tableIn (off := 858) (tgt := 891) hx hb dL_law_33 (by rw [e23]; decide) (by rw [e23]; decide) (by rw [e23]; rfl) (by decide) ?_
        exact cs_water l h hcl hi (by omega) hR ⟨by omega, by omega⟩ hP hD hS hl kk
      by_cases e24 : x = 24
      · refine lv_tableIn (off := 882) (tgt := 915) hx hb dL_law_33 (by rw [e24]; decide) (by rw [e24]; decide) (by rw [e24]; rfl) (by decide) ?_
        exact cs_forecast l h hcl hi (by omega) hR ⟨by omega, by omega⟩ hP hD hS hl kk
      by_cases e25 : x = 25
      · refine lv_tableIn (off := 933) (tgt := 966) hx hb dL_law_33 (by rw [e25]; decide) (by rw [e25]; decide) (by rw [e25]; rfl) (by decide) ?_
        exact cs_shutIn l h hcl hi (by omega) hR ⟨by omega, by omega⟩ hP hD hS hl kk
      by_cases e26 : x = 26
      · refine lv_tableIn (off := 946) (tgt := 979) hx hb dL_law_33 (by rw [e26]; decide) (by rw [e26]; decide) (by rw [e26]; rfl) (by decide) ?_
        exact cs_tide l h hcl hi (by omega) hR ⟨by omega, by omega⟩ hP hD hS hl kk
      by_cases e27 : x = 27
      · refine lv_tableIn (off := 970) (tgt := 1003) hx hb dL_law_33 (by rw [e27]; decide) (by rw [e27]; decide) (by rw [e27]; rfl) (by decide) ?_
        exact cs_count l h hcl hi (by omega) hR ⟨by omega, by omega⟩ hP hD hS hl kk
      · refine lv_tableOut (tgt := 1026) hx hb dL_law_33 (by
        have q0 : x.toInt ≠ 0 := fun q => e0 (Int32.toInt_inj.mp (q.trans (by decide)))
        have q1 : x.toInt ≠ 1 := fun q => e1 (Int32.toInt_inj.mp (q.trans (by decide)))
        have q2 : x.toInt ≠ 2 := fun q => e2 (Int32.toInt_inj.mp (q.trans (by decide)))
        have q3 : x.toInt ≠ 3 := fun q => e3 (Int32.toInt_inj.mp (q.trans (by decide)))
        have q4 : x.toInt ≠ 4 := fun q => e4 (Int32.toInt_inj.mp (q.trans (by decide)))
        have q5 : x.toInt ≠ 5 := fun q => e5 (Int32.toInt_inj.mp (q.trans (by decide)))
        have q6 : x.toInt ≠ 6 := fun q => e6 (Int32.toInt_inj.mp (q.trans (by decide)))
        have q7 : x.toInt ≠ 7 := fun q => e7 (Int32.toInt_inj.mp (q.trans (by decide)))
        have q8 : x.toInt ≠ 8 := fun q => e8 (Int32.toInt_inj.mp (q.trans (by decide)))
        have q9 : x.toInt ≠ 9 := fun q => e9 (Int32.toInt_inj.mp (q.trans (by decide)))
        have q10 : x.toInt ≠ 10 := fun q => e10 (Int32.toInt_inj.mp (q.trans (by decide)))
        have q11 : x.toInt ≠ 11 := fun q => e11 (Int32.toInt_inj.mp (q.trans (by decide)))
        have q12 : x.toInt ≠ 12 := fun q => e12 (Int32.toInt_inj.mp (q.trans (by decide)))
        have q13 : x.toInt ≠ 13 := fun q => e13 (Int32.toInt_inj.mp (q.trans (by decide)))
        have q14 : x.toInt ≠ 14 := fun q => e14 (Int32.toInt_inj.mp (q.trans (by decide)))
        have q15 : x.toInt ≠ 15 := fun q => e15 (Int32.toInt_inj.mp (q.trans (by decide)))
        have q16 : x.toInt ≠ 16 := fun q => e16 (Int32.toInt_inj.mp (q.trans (by decide)))
        have q17 : x.toInt ≠ 17 := fun q => e17 (Int32.toInt_inj.mp (q.trans (by decide)))
        have q18 : x.toInt ≠ 18 := fun q => e18 (Int32.toInt_inj.mp (q.trans (by decide)))
        have q19 : x.toInt ≠ 19 := fun q => e19 (Int32.toInt_inj.mp (q.trans (by decide)))
        have q20 : x.toInt ≠ 20 := fun q => e20 (Int32.toInt_inj.mp (q.trans (by decide)))
        have q21 : x.toInt ≠ 21 := fun q => e21 (Int32.toInt_inj.mp (q.trans (by decide)))
        have q22 : x.toInt ≠ 22 := fun q => e22 (Int32.toInt_inj.mp (q.trans (by decide)))
        have q23 : x.toInt ≠ 23 := fun q => e23 (Int32.toInt_inj.mp (q.trans (by decide)))
        have q24 : x.toInt ≠ 24 := fun q => e24 (Int32.toInt_inj.mp (q.trans (by decide)))
        have q25 : x.toInt ≠ 25 := fun q => e25 (Int32.toInt_inj.mp (q.trans (by decide)))
        have q26 : x.toInt ≠ 26 := fun q => e26 (Int32.toInt_inj.mp (q.trans (by decide)))
        have q27 : x.toInt ≠ 27 := fun q => e27 (Int32.toInt_inj.mp (q.trans (by decide)))
        omega) (by decide) ?_
        refine W.widen (k := 60 + 21 * j + 21) (n := 1600 + 158 * j + 158) (by omega) (by omega) ?_
        exact kk C M H locs ls (Rel_m (by omega) hR) hP hD hS hl

section ZPI
variable {p : Program} {l : Launch} {e : Env} {R : Room} {s : State} {m : MethodId} {args : Array Value} {below : List Frame} {meth : Method} {c : Code} {H : Heap} {locs : List Loc} {cells slots : Nat} {Q : State → Prop}
variable {cc : ByteArray} {pc nL : Nat} {ls : Array Slot} {rest st : List Value} {g : va_G} {A : Nat → Prop} {ct : Nat → ClassId} {ws wc wr w2 X cx wx pl : va_W} {H0 : Heap}
variable {y : MethodName} {bytes : ByteArray} {maxL n index ci N mc ms : Nat} {ret : Option FieldType} {wsC Ts : List Cond} {rm : Room} {own C : String} {b : Nat} {As : List Value} {T : u_T} {fs : List Value}
theorem z_pIp {S : Type} {w1 : S → va_W} (S0 : CallFix p m c cc nL s args Ts own) (hK : va_K g vwCl (zT ct) s) (hP : va_P g vwCl ws H) (hD : va_D A ws) (hS : va_S A H0 H locs) (hN : zNW s) (hA : ∀ q, H0.size ≤ q → A q)
    (hpm : List.Perm ws (wc ++ wr)) (hM : Met l y wsC rm (va_Pc (.ref b :: As) (zW g ct wc H.size)) (zEv g w1 (va_A wc H.size)) mc ms (va_A wc H.size)) (cw : CallB R s args own index y bytes maxL none wsC rm mc ms n ∧ y.name = "<init>" ∧ (Cond.instanceMethod y).before args s = true)
    (hn : As.length = n) (hsize : ls.size = nL) (hst : st = As.reverse ++ .ref b :: rest) (hW : (rest.map fun v => v.category).sum ≤ 8) (hdg : decode cc pc = .ok (.invokespecial index, 3)) (hf : cells + mc ≤ R.cells ∧ slots + ms ≤ R.slots)
    (kk : ∀ (u : S) (H1 : Heap) (locs1 : List Loc), va_P g vwCl (w1 u ++ wr) H1 → va_D A (w1 u ++ wr) → va_S A H0 H1 locs1 → W p l e R s m args below meth c H1 locs1 (cells + mc) (slots + ms) Q (F0 m (pc + 3) ls (rest))) : W p l e R s m args below meth c H locs cells slots Q (F0 m pc ls st) := by
  subst hst
  have hP := hP.perm hpm
  have hD := hD.perm hpm
  have hPc : va_P g vwCl wc H := fun k q hk => hP.mem (List.mem_append_left _ (List.mem_of_getElem? hk))
  have hDc : va_D A wc := by
    rw [va_D_nodup] at hD ⊢
    rw [List.map_append, List.nodup_append] at hD
    exact ⟨hD.1.1, fun q hq => hD.2 q (List.mem_append_left _ hq)⟩
  have hFc : ∀ q, va_A wc H.size q → A q := by
    intro q h
    rcases va_A_mem.mp h with ⟨x, hx⟩ | h
    · exact (va_D_nodup.mp hDc).2 _ hx
    · exact hA q (Nat.le_trans hS.1 h)
  refine va_callv (va_runI S0 hM cw ⟨zW_blind, fun U hU hW1 => ⟨rfl, by rw [hU], by rw [hU]; exact hPc, va_K.moved hW1.alike hK, hDc.weaken (fun _ _ _ _ => trivial), zNW_warm hW1 hN⟩⟩ rfl hn hsize rfl (lv_room hW) hdg hf) hS (fun q _ h => hFc q h) hFc (fun u t H1 locs1 ht hvm hw hB hz1 hk1 hS1 => ?_)
  obtain ⟨hP1, hD1⟩ := hB
  rw [ht] at hP1
  obtain ⟨hP2, hD2⟩ := z_join hP hD hk1 hFc hP1 hD1
  exact kk u H1 locs1 hP2 hD2 hS1
end ZPI
/-! the two new objects are alike -/
def sv0 : SVT := ((0, fun _ => 0, fun _ => 0, fun _ => 0, fun _ => 0, fun _ => 0, fun _ => 0, fun _ => 0, 0, fun _ => 0, fun _ => 0, 0, fun _ => 0, 0, 100, 0, fun _ => 0, fun _ => 0, fun _ => 0, fun _ => 0, 100000, 0, 0, 0, 0, 0, 0, fun _ => 0, 4611686018427387904, 0, 0, 0, 0) : SVT)
theorem SR_0 : SR sv0 mn0 mr0 := by
  refine ⟨⟨Nat.zero_le _, rfl⟩, ⟨Nat.zero_le _, rfl⟩, ⟨Nat.zero_le _, rfl⟩, ⟨Nat.zero_le _, rfl⟩, ⟨rfl, rfl, Or.inl rfl, (if_neg (Nat.not_lt_zero _)).symm, rfl, rfl⟩, ⟨by decide, by decide, by decide, by decide⟩, ⟨rfl, rfl, rfl, rfl, rfl, rfl⟩, fun k hk => absurd hk (Nat.not_lt_zero k), fun k hk => absurd hk (Nat.not_lt_zero k), fun k j hk => absurd hk (Nat.not_lt_zero k), fun k hk => absurd hk (Nat.not_lt_zero k), fun k hk => absurd hk (Nat.not_lt_zero k), fun k hk => absurd hk (Nat.not_lt_zero k), ⟨by decide, by decide⟩, fun i hi => ⟨?_, (show lvOk 0 by decide)⟩, fun k hk => absurd hk (Nat.not_lt_zero k), ⟨fun i _ => Or.inl rfl, fun i _ => Or.inl rfl⟩⟩
  show (if 1 + i = 0 then _ else (0 : UInt64)) = _
  rw [if_neg (by omega)]
  rfl
def ct0 (a0 : Nat) (u : Nat → Nat) : CT := (fun k => if k = 0 then a0 else u (41 + k), fun k => u k, fun k => u (21 + k), none, sv0, sv0, 0, 0, fun _ => none, 0, fun _ => 0, fun _ => 0, 0)
def mt0 (a0 : Nat) (u : Nat → Nat) : MT := (fun k => if k = 0 then a0 else u (k - 1), mn0, fun _ => 0, fun _ => 0, fun _ => 0, mr0, fun _ => 0, fun _ => 0, 0, 0, 0, fun _ => 0, 0, 0, fun _ => 0)
theorem Rel_0 (a0 : Nat) (u : Nat → Nat) (b0 : Nat) (w0 : Nat → Nat) : Rel 0 (ct0 a0 u) (mt0 b0 w0) :=
  ⟨SR_0, Nat.le_refl _, ⟨(show (0 : Nat) < 5 by decide), (show (0 : Nat) ≤ 5 by decide), rfl⟩, fun i hi => absurd hi (Nat.not_lt_zero i), Or.inl ⟨rfl, rfl⟩, ⟨(show (0 : Nat) ≤ 60 by decide), rfl, fun i hi => absurd hi (Nat.not_lt_zero i)⟩⟩
set_option maxRecDepth 100000 in
theorem CW_0 (ct : Nat → ClassId) (a0 : Nat) (u : Nat → Nat) : List.Perm [zO a0 8 [.ref (u 0), .ref (u 21), .ref (u 42), .ref (u 44), .null], zO (u 0) 5 [.ref (u 1), .ref (u 9), .ref (u 12), .ref (u 14), .ref (u 19), .ref (u 20), .long 4611686018427387904, .int 0, .int 0, .int 0, .int 0], zO (u 1) 4 [.int 0, .ref (u 2), .ref (u 3), .ref (u 4), .ref (u 5), .ref (u 6), .ref (u 7), .ref (u 8)], zI ct (u 2) 8 (fun _ => 0), zE ct (u 3) 8 (fun _ => 0), zI ct (u 4) 8 (fun _ => 0), zI ct (u 5) 8 (fun _ => 0), zI ct (u 6) 8 (fun _ => 0), zI ct (u 7) 8 (fun _ => 0), zI ct (u 8) 8 (fun _ => 0), zO (u 9) 1 [.int 0, .ref (u 10), .ref (u 11)], zI ct (u 10) 6 (fun _ => 0), zZ ct (u 11) 6 (fun _ => 0), zO (u 12) 6 [.int 0, .ref (u 13)], zI ct (u 13) 4 (fun _ => 0), zO (u 14) 3 [.int 0, .int 100, .int 0, .ref (u 15), .ref (u 16), .ref (u 17), .ref (u 18)], zI ct (u 15) 6 (fun _ => 0), zI ct (u 16) 6 (fun _ => 0), zZ ct (u 17) 6 (fun _ => 0), zI ct (u 18) 6 (fun _ => 0), zO (u 19) 0 [.int 100000, .long 0, .long 0, .long 0, .long 0, .long 0, .long 0], zL ct (u 20) 24 (fun _ => 0), zO (u 21) 5 [.ref (u 22), .ref (u 30), .ref (u 33), .ref (u 35), .ref (u 40), .ref (u 41), .long 4611686018427387904, .int 0, .int 0, .int 0, .int 0], zO (u 22) 4 [.int 0, .ref (u 23), .ref (u 24), .ref (u 25), .ref (u 26), .ref (u 27), .ref (u 28), .ref (u 29)], zI ct (u 23) 8 (fun _ => 0), zE ct (u 24) 8 (fun _ => 0), zI ct (u 25) 8 (fun _ => 0), zI ct (u 26) 8 (fun _ => 0), zI ct (u 27) 8 (fun _ => 0), zI ct (u 28) 8 (fun _ => 0), zI ct (u 29) 8 (fun _ => 0), zO (u 30) 1 [.int 0, .ref (u 31), .ref (u 32)], zI ct (u 31) 6 (fun _ => 0), zZ ct (u 32) 6 (fun _ => 0), zO (u 33) 6 [.int 0, .ref (u 34)], zI ct (u 34) 4 (fun _ => 0), zO (u 35) 3 [.int 0, .int 100, .int 0, .ref (u 36), .ref (u 37), .ref (u 38), .ref (u 39)], zI ct (u 36) 6 (fun _ => 0), zI ct (u 37) 6 (fun _ => 0), zZ ct (u 38) 6 (fun _ => 0), zI ct (u 39) 6 (fun _ => 0), zO (u 40) 0 [.int 100000, .long 0, .long 0, .long 0, .long 0, .long 0, .long 0], zL ct (u 41) 24 (fun _ => 0), zO (u 42) 2 [.ref (u 43), .int 0, .int 0], zQ ct (u 43) 5 (fun _ => none), zO (u 44) 7 [.int 0, .ref (u 45), .ref (u 46), .int 0], zC ct (u 45) 60 (fun _ => 0), zI ct (u 46) 15 (fun _ => 0)] (CW ct (ct0 a0 u)) :=
  z_permI [0, 1, 2, 3, 4, 5, 6, 7, 8, 9, 10, 11, 12, 13, 14, 15, 16, 17, 18, 19, 20, 21, 43, 44, 45, 46, 47, 22, 23, 24, 25, 26, 27, 28, 29, 30, 31, 32, 33, 34, 35, 36, 37, 38, 39, 40, 41, 42] (by decide) rfl rfl
theorem MW_0 (ct : Nat → ClassId) (a0 : Nat) (u : Nat → Nat) : [zO a0 9 [.ref (u 0), .ref (u 1), .ref (u 2), .ref (u 3), .ref (u 4), .ref (u 5), .ref (u 6), .int 0, .int 0, .int 0, .ref (u 7), .int 0, .int 0, .ref (u 8)], zL ct (u 0) 108 mn0, zL ct (u 1) 540 (fun _ => 0), zL ct (u 2) 108 (fun _ => 0), zL ct (u 3) 108 (fun _ => 0), zD ct (u 4) 33 mr0, zD ct (u 5) 165 (fun _ => 0), zD ct (u 6) 33 (fun _ => 0), zC ct (u 7) 60 (fun _ => 0), zI ct (u 8) 17 (fun _ => 0)] = MWd ct (mt0 a0 u) := rfl
