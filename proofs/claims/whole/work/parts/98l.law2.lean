/-! one case a call -/
set_option maxHeartbeats 4000000 in
set_option maxRecDepth 100000 in
theorem cs_addSection {p : Program} {e : Env} {s : State} {m : MethodId} {below : List Frame} {meth : Method} {c : Code} {b L : Nat} {xs : Nat → Int32} {Q : State → Prop} {g : va_G} {ct : Nat → ClassId} {H : Heap} {locs : List Loc} {cells slots i T : Nat} {ls : Array Slot} {C : CT} {M : MT} (l : Launch) (h : LX p s m c b L xs g ct) (hcl : Cond.constantLong RL 13 (4294967295) ∈ wsL_law) (hi : i + 6 ≤ L) (hT : T < 1000000000) (hR : Rel T C M) (hcs : cells + 21 ≤ 600000 ∧ slots + 158 ≤ 7302250) (hP : va_P g vwCl (CW ct C ++ MWd ct M) H) (hD : va_D (AL s) (CW ct C ++ MWd ct M)) (hS : va_S (AL s) s.heap H locs) (hl : lv_has ls 8 [(3, .int (nI i)), (2, .ref (j_ma M 0)), (1, .ref (k_ba C 0)), (0, .ref b)])
    (kk : ∀ (C2 : CT) (M2 : MT) (H2 : Heap) (locs2 : List Loc) (ls2 : Array Slot), Rel (T + 48) C2 M2 → va_P g vwCl (CW ct C2 ++ MWd ct M2) H2 → va_D (AL s) (CW ct C2 ++ MWd ct M2) → va_S (AL s) s.heap H2 locs2 → lv_has ls2 8 [(3, .int (nI i)), (2, .ref (j_ma M2 0)), (1, .ref (k_ba C2 0)), (0, .ref b)] → W p l e room_1 s m #[Value.ref b] below meth c H2 locs2 (cells + 21) (slots + 158) Q (F0 m 1026 ls2 [])) : W p l e room_1 s m #[Value.ref b] below meth c H locs cells slots Q (F0 m 160 ls []) := by
  obtain ⟨hx, hb, hml, hown, hts, hX, hbl, hK, hNW, hL⟩ := id h
  obtain ⟨a, M2, hM2, hc, hm⟩ := op_addSection l g ct hR (xs (i + 1)) (bL (xs (i + 2)) (xs (i + 3))) (xs (i + 4)) (xs (i + 5))
  refine lv_aload_n hx hb dL_law_160 rfl (lv_at hl 2 rfl) ?_
  refine z_arg (k := 1) (ki := 1) h hS hl (by decide) (by omega) dL_law_161 dL_law_162 dL_law_163 dL_law_164 dL_law_165 ?_
  refine z_arg (k := 2) (ki := 2) h hS hl (by decide) (by omega) dL_law_166 dL_law_167 dL_law_168 dL_law_169 dL_law_170 ?_
  refine lv_i2l (v := (xs (i + 2)).toInt64) hx hb dL_law_171 rfl ?_
  refine lv_bipush (v := 32) hx hb dL_law_172 (by decide) ?_
  refine lv_lshl (v := (xs (i + 2)).toInt64 <<< ((32 : Int32).toInt64 &&& 63)) hx hb dL_law_174 rfl ?_
  refine z_arg (k := 3) (ki := 3) h hS hl (by decide) (by omega) dL_law_175 dL_law_176 dL_law_177 dL_law_178 dL_law_179 ?_
  refine lv_i2l (v := (xs (i + 3)).toInt64) hx hb dL_law_180 rfl ?_
  refine lv_ldc2 (v := 4294967295) hx hb hown (hts (.constantLong RL 13 (4294967295)) hcl) dL_law_181 ?_
  refine lv_land hx hb dL_law_184 ?_
  refine lv_lor hx hb dL_law_185 ?_
  refine z_arg (k := 4) (ki := 4) h hS hl (by decide) (by omega) dL_law_186 dL_law_187 dL_law_188 dL_law_189 dL_law_190 ?_
  refine z_arg (k := 5) (ki := 5) h hS hl (by decide) (by omega) dL_law_191 dL_law_192 dL_law_193 dL_law_194 dL_law_195 ?_
  refine z_pVi (wc := CW ct C) (wr := MWd ct M) (As := [.int (xs (i + 1)), .long (bL (xs (i + 2)) (xs (i + 3))), .int (xs (i + 4)), .int (xs (i + 5))]) (rest := []) ⟨hx, hb, hml, hown, hts⟩ hK hP hD hS hNW (fun _ h9 => h9) (List.Perm.refl _) (z_up (rm2 := zRc 4 21 158 95) (hc H.size) (Nat.le_of_ble_eq_true rfl) (Nat.le_of_ble_eq_true rfl) (Nat.le_of_ble_eq_true rfl) (Nat.le_of_ble_eq_true rfl)) (cwV 4 hts gL_law_X9_addSection rfl rfl rfl (by decide +kernel) ⟨Nat.le_of_ble_eq_true rfl, Nat.le_of_ble_eq_true rfl⟩) 0 rfl rfl rfl hl.1 rfl (Nat.le_of_ble_eq_true rfl) dL_law_196 ⟨hcs.1, hcs.2⟩ (fun u H locs hP hD hS => ?_)
  obtain ⟨C2, hba, hR2⟩ := u
  have hP : va_P g vwCl (CW ct C2 ++ MWd ct M) H := hP
  have hD : va_D (AL s) (CW ct C2 ++ MWd ct M) := hD
  refine lv_aload_n hx hb dL_law_199 rfl (lv_at hl 1 rfl) ?_
  refine z_arg (k := 1) (ki := 1) h hS hl (by decide) (by omega) dL_law_200 dL_law_201 dL_law_202 dL_law_203 dL_law_204 ?_
  refine z_arg (k := 2) (ki := 2) h hS hl (by decide) (by omega) dL_law_205 dL_law_206 dL_law_207 dL_law_208 dL_law_209 ?_
  refine lv_i2l (v := (xs (i + 2)).toInt64) hx hb dL_law_210 rfl ?_
  refine lv_bipush (v := 32) hx hb dL_law_211 (by decide) ?_
  refine lv_lshl (v := (xs (i + 2)).toInt64 <<< ((32 : Int32).toInt64 &&& 63)) hx hb dL_law_213 rfl ?_
  refine z_arg (k := 3) (ki := 3) h hS hl (by decide) (by omega) dL_law_214 dL_law_215 dL_law_216 dL_law_217 dL_law_218 ?_
  refine lv_i2l (v := (xs (i + 3)).toInt64) hx hb dL_law_219 rfl ?_
  refine lv_ldc2 (v := 4294967295) hx hb hown (hts (.constantLong RL 13 (4294967295)) hcl) dL_law_220 ?_
  refine lv_land hx hb dL_law_223 ?_
  refine lv_lor hx hb dL_law_224 ?_
  refine z_arg (k := 4) (ki := 4) h hS hl (by decide) (by omega) dL_law_225 dL_law_226 dL_law_227 dL_law_228 dL_law_229 ?_
  refine z_arg (k := 5) (ki := 5) h hS hl (by decide) (by omega) dL_law_230 dL_law_231 dL_law_232 dL_law_233 dL_law_234 ?_
  refine z_pVi (wc := MWd ct M) (wr := CW ct C2) (As := [.int (xs (i + 1)), .long (bL (xs (i + 2)) (xs (i + 3))), .int (xs (i + 4)), .int (xs (i + 5))]) (rest := [.int a]) ⟨hx, hb, hml, hown, hts⟩ hK hP hD hS hNW (fun _ h9 => h9) List.perm_append_comm (hm H.size) (cwV 4 hts gL_law_X10_addSection rfl rfl rfl (by decide +kernel) ⟨Nat.le_of_ble_eq_true rfl, Nat.le_of_ble_eq_true rfl⟩) 0 rfl rfl rfl hl.1 rfl (Nat.le_of_ble_eq_true rfl) dL_law_235 ⟨hcs.1, hcs.2⟩ (fun _ H locs hP hD hS => ?_)
  refine lv_icmp_eq (tgt := 1026) hx hb dL_law_238 (by decide) (fun _ => ?_) (fun q => absurd rfl q)
  exact kk C2 M2 H locs ls hR2 (hP.perm List.perm_append_comm) (hD.perm List.perm_append_comm) hS (by rw [hM2, hba]; exact hl)

set_option maxHeartbeats 4000000 in
set_option maxRecDepth 100000 in
theorem cs_addDistrict {p : Program} {e : Env} {s : State} {m : MethodId} {below : List Frame} {meth : Method} {c : Code} {b L : Nat} {xs : Nat → Int32} {Q : State → Prop} {g : va_G} {ct : Nat → ClassId} {H : Heap} {locs : List Loc} {cells slots i T : Nat} {ls : Array Slot} {C : CT} {M : MT} (l : Launch) (h : LX p s m c b L xs g ct) (hcl : Cond.constantLong RL 13 (4294967295) ∈ wsL_law) (hi : i + 6 ≤ L) (hT : T < 1000000000) (hR : Rel T C M) (hcs : cells + 21 ≤ 600000 ∧ slots + 158 ≤ 7302250) (hP : va_P g vwCl (CW ct C ++ MWd ct M) H) (hD : va_D (AL s) (CW ct C ++ MWd ct M)) (hS : va_S (AL s) s.heap H locs) (hl : lv_has ls 8 [(3, .int (nI i)), (2, .ref (j_ma M 0)), (1, .ref (k_ba C 0)), (0, .ref b)])
    (kk : ∀ (C2 : CT) (M2 : MT) (H2 : Heap) (locs2 : List Loc) (ls2 : Array Slot), Rel (T + 48) C2 M2 → va_P g vwCl (CW ct C2 ++ MWd ct M2) H2 → va_D (AL s) (CW ct C2 ++ MWd ct M2) → va_S (AL s) s.heap H2 locs2 → lv_has ls2 8 [(3, .int (nI i)), (2, .ref (j_ma M2 0)), (1, .ref (k_ba C2 0)), (0, .ref b)] → W p l e room_1 s m #[Value.ref b] below meth c H2 locs2 (cells + 21) (slots + 158) Q (F0 m 1026 ls2 [])) : W p l e room_1 s m #[Value.ref b] below meth c H locs cells slots Q (F0 m 243 ls []) := by
  obtain ⟨hx, hb, hml, hown, hts, hX, hbl, hK, hNW, hL⟩ := id h
  obtain ⟨a, M2, hM2, hc, hm⟩ := op_addDistrict l g ct hR (xs (i + 1))
  refine lv_aload_n hx hb dL_law_243 rfl (lv_at hl 2 rfl) ?_
  refine z_arg (k := 1) (ki := 1) h hS hl (by decide) (by omega) dL_law_244 dL_law_245 dL_law_246 dL_law_247 dL_law_248 ?_
  refine z_pVi (wc := CW ct C) (wr := MWd ct M) (As := [.int (xs (i + 1))]) (rest := []) ⟨hx, hb, hml, hown, hts⟩ hK hP hD hS hNW (fun _ h9 => h9) (List.Perm.refl _) (z_up (rm2 := zRc 4 21 158 95) (hc H.size) (Nat.le_of_ble_eq_true rfl) (Nat.le_of_ble_eq_true rfl) (Nat.le_of_ble_eq_true rfl) (Nat.le_of_ble_eq_true rfl)) (cwV 1 hts gL_law_X9_addDistrict rfl rfl rfl (by decide +kernel) ⟨Nat.le_of_ble_eq_true rfl, Nat.le_of_ble_eq_true rfl⟩) 0 rfl rfl rfl hl.1 rfl (Nat.le_of_ble_eq_true rfl) dL_law_249 ⟨hcs.1, hcs.2⟩ (fun u H locs hP hD hS => ?_)
  obtain ⟨C2, hba, hR2⟩ := u
  have hP : va_P g vwCl (CW ct C2 ++ MWd ct M) H := hP
  have hD : va_D (AL s) (CW ct C2 ++ MWd ct M) := hD
  refine lv_aload_n hx hb dL_law_252 rfl (lv_at hl 1 rfl) ?_
  refine z_arg (k := 1) (ki := 1) h hS hl (by decide) (by omega) dL_law_253 dL_law_254 dL_law_255 dL_law_256 dL_law_257 ?_
  refine z_pVi (wc := MWd ct M) (wr := CW ct C2) (As := [.int (xs (i + 1))]) (rest := [.int a]) ⟨hx, hb, hml, hown, hts⟩ hK hP hD hS hNW (fun _ h9 => h9) List.perm_append_comm (hm H.size) (cwV 1 hts gL_law_X10_addDistrict rfl rfl rfl (by decide +kernel) ⟨Nat.le_of_ble_eq_true rfl, Nat.le_of_ble_eq_true rfl⟩) 0 rfl rfl rfl hl.1 rfl (Nat.le_of_ble_eq_true rfl) dL_law_258 ⟨hcs.1, hcs.2⟩ (fun _ H locs hP hD hS => ?_)
  refine lv_icmp_eq (tgt := 1026) hx hb dL_law_261 (by decide) (fun _ => ?_) (fun q => absurd rfl q)
  exact kk C2 M2 H locs ls hR2 (hP.perm List.perm_append_comm) (hD.perm List.perm_append_comm) hS (by rw [hM2, hba]; exact hl)

set_option maxHeartbeats 4000000 in
set_option maxRecDepth 100000 in
theorem cs_addStream {p : Program} {e : Env} {s : State} {m : MethodId} {below : List Frame} {meth : Method} {c : Code} {b L : Nat} {xs : Nat → Int32} {Q : State → Prop} {g : va_G} {ct : Nat → ClassId} {H : Heap} {locs : List Loc} {cells slots i T : Nat} {ls : Array Slot} {C : CT} {M : MT} (l : Launch) (h : LX p s m c b L xs g ct) (hcl : Cond.constantLong RL 13 (4294967295) ∈ wsL_law) (hi : i + 6 ≤ L) (hT : T < 1000000000) (hR : Rel T C M) (hcs : cells + 21 ≤ 600000 ∧ slots + 158 ≤ 7302250) (hP : va_P g vwCl (CW ct C ++ MWd ct M) H) (hD : va_D (AL s) (CW ct C ++ MWd ct M)) (hS : va_S (AL s) s.heap H locs) (hl : lv_has ls 8 [(3, .int (nI i)), (2, .ref (j_ma M 0)), (1, .ref (k_ba C 0)), (0, .ref b)])
    (kk : ∀ (C2 : CT) (M2 : MT) (H2 : Heap) (locs2 : List Loc) (ls2 : Array Slot), Rel (T + 48) C2 M2 → va_P g vwCl (CW ct C2 ++ MWd ct M2) H2 → va_D (AL s) (CW ct C2 ++ MWd ct M2) → va_S (AL s) s.heap H2 locs2 → lv_has ls2 8 [(3, .int (nI i)), (2, .ref (j_ma M2 0)), (1, .ref (k_ba C2 0)), (0, .ref b)] → W p l e room_1 s m #[Value.ref b] below meth c H2 locs2 (cells + 21) (slots + 158) Q (F0 m 1026 ls2 [])) : W p l e room_1 s m #[Value.ref b] below meth c H locs cells slots Q (F0 m 266 ls []) := by
  obtain ⟨hx, hb, hml, hown, hts, hX, hbl, hK, hNW, hL⟩ := id h
  obtain ⟨a, M2, hM2, hc, hm⟩ := op_addStream l g ct hR (xs (i + 1))
  refine lv_aload_n hx hb dL_law_266 rfl (lv_at hl 2 rfl) ?_
  refine z_arg (k := 1) (ki := 1) h hS hl (by decide) (by omega) dL_law_267 dL_law_268 dL_law_269 dL_law_270 dL_law_271 ?_
  refine z_pVi (wc := CW ct C) (wr := MWd ct M) (As := [.int (xs (i + 1))]) (rest := []) ⟨hx, hb, hml, hown, hts⟩ hK hP hD hS hNW (fun _ h9 => h9) (List.Perm.refl _) (z_up (rm2 := zRc 4 21 158 95) (hc H.size) (Nat.le_of_ble_eq_true rfl) (Nat.le_of_ble_eq_true rfl) (Nat.le_of_ble_eq_true rfl) (Nat.le_of_ble_eq_true rfl)) (cwV 1 hts gL_law_X9_addStream rfl rfl rfl (by decide +kernel) ⟨Nat.le_of_ble_eq_true rfl, Nat.le_of_ble_eq_true rfl⟩) 0 rfl rfl rfl hl.1 rfl (Nat.le_of_ble_eq_true rfl) dL_law_272 ⟨hcs.1, hcs.2⟩ (fun u H locs hP hD hS => ?_)
  obtain ⟨C2, hba, hR2⟩ := u
  have hP : va_P g vwCl (CW ct C2 ++ MWd ct M) H := hP
  have hD : va_D (AL s) (CW ct C2 ++ MWd ct M) := hD
  refine lv_aload_n hx hb dL_law_275 rfl (lv_at hl 1 rfl) ?_
  refine z_arg (k := 1) (ki := 1) h hS hl (by decide) (by omega) dL_law_276 dL_law_277 dL_law_278 dL_law_279 dL_law_280 ?_
  refine z_pVi (wc := MWd ct M) (wr := CW ct C2) (As := [.int (xs (i + 1))]) (rest := [.int a]) ⟨hx, hb, hml, hown, hts⟩ hK hP hD hS hNW (fun _ h9 => h9) List.perm_append_comm (hm H.size) (cwV 1 hts gL_law_X10_addStream rfl rfl rfl (by decide +kernel) ⟨Nat.le_of_ble_eq_true rfl, Nat.le_of_ble_eq_true rfl⟩) 0 rfl rfl rfl hl.1 rfl (Nat.le_of_ble_eq_true rfl) dL_law_281 ⟨hcs.1, hcs.2⟩ (fun _ H locs hP hD hS => ?_)
  refine lv_icmp_eq (tgt := 1026) hx hb dL_law_284 (by decide) (fun _ => ?_) (fun q => absurd rfl q)
  exact kk C2 M2 H locs ls hR2 (hP.perm List.perm_append_comm) (hD.perm List.perm_append_comm) hS (by rw [hM2, hba]; exact hl)

set_option maxHeartbeats 4000000 in
set_option maxRecDepth 100000 in
theorem cs_addPump {p : Program} {e : Env} {s : State} {m : MethodId} {below : List Frame} {meth : Method} {c : Code} {b L : Nat} {xs : Nat → Int32} {Q : State → Prop} {g : va_G} {ct : Nat → ClassId} {H : Heap} {locs : List Loc} {cells slots i T : Nat} {ls : Array Slot} {C : CT} {M : MT} (l : Launch) (h : LX p s m c b L xs g ct) (hcl : Cond.constantLong RL 13 (4294967295) ∈ wsL_law) (hi : i + 6 ≤ L) (hT : T < 1000000000) (hR : Rel T C M) (hcs : cells + 21 ≤ 600000 ∧ slots + 158 ≤ 7302250) (hP : va_P g vwCl (CW ct C ++ MWd ct M) H) (hD : va_D (AL s) (CW ct C ++ MWd ct M)) (hS : va_S (AL s) s.heap H locs) (hl : lv_has ls 8 [(3, .int (nI i)), (2, .ref (j_ma M 0)), (1, .ref (k_ba C 0)), (0, .ref b)])
    (kk : ∀ (C2 : CT) (M2 : MT) (H2 : Heap) (locs2 : List Loc) (ls2 : Array Slot), Rel (T + 48) C2 M2 → va_P g vwCl (CW ct C2 ++ MWd ct M2) H2 → va_D (AL s) (CW ct C2 ++ MWd ct M2) → va_S (AL s) s.heap H2 locs2 → lv_has ls2 8 [(3, .int (nI i)), (2, .ref (j_ma M2 0)), (1, .ref (k_ba C2 0)), (0, .ref b)] → W p l e room_1 s m #[Value.ref b] below meth c H2 locs2 (cells + 21) (slots + 158) Q (F0 m 1026 ls2 [])) : W p l e room_1 s m #[Value.ref b] below meth c H locs cells slots Q (F0 m 289 ls []) := by
  obtain ⟨hx, hb, hml, hown, hts, hX, hbl, hK, hNW, hL⟩ := id h
  obtain ⟨a, M2, hM2, hc, hm⟩ := op_addPump l g ct hR (xs (i + 1)) (xs (i + 2))
  refine lv_aload_n hx hb dL_law_289 rfl (lv_at hl 2 rfl) ?_
  refine z_arg (k := 1) (ki := 1) h hS hl (by decide) (by omega) dL_law_290 dL_law_291 dL_law_292 dL_law_293 dL_law_294 ?_
  refine z_arg (k := 2) (ki := 2) h hS hl (by decide) (by omega) dL_law_295 dL_law_296 dL_law_297 dL_law_298 dL_law_299 ?_
  refine z_pVi (wc := CW ct C) (wr := MWd ct M) (As := [.int (xs (i + 1)), .int (xs (i + 2))]) (rest := []) ⟨hx, hb, hml, hown, hts⟩ hK hP hD hS hNW (fun _ h9 => h9) (List.Perm.refl _) (z_up (rm2 := zRc 4 21 158 95) (hc H.size) (Nat.le_of_ble_eq_true rfl) (Nat.le_of_ble_eq_true rfl) (Nat.le_of_ble_eq_true rfl) (Nat.le_of_ble_eq_true rfl)) (cwV 2 hts gL_law_X9_addPump rfl rfl rfl (by decide +kernel) ⟨Nat.le_of_ble_eq_true rfl, Nat.le_of_ble_eq_true rfl⟩) 0 rfl rfl rfl hl.1 rfl (Nat.le_of_ble_eq_true rfl) dL_law_300 ⟨hcs.1, hcs.2⟩ (fun u H locs hP hD hS => ?_)
  obtain ⟨C2, hba, hR2⟩ := u
  have hP : va_P g vwCl (CW ct C2 ++ MWd ct M) H := hP
  have hD : va_D (AL s) (CW ct C2 ++ MWd ct M) := hD
  refine lv_aload_n hx hb dL_law_303 rfl (lv_at hl 1 rfl) ?_
  refine z_arg (k := 1) (ki := 1) h hS hl (by decide) (by omega) dL_law_304 dL_law_305 dL_law_306 dL_law_307 dL_law_308 ?_
  refine z_arg (k := 2) (ki := 2) h hS hl (by decide) (by omega) dL_law_309 dL_law_310 dL_law_311 dL_law_312 dL_law_313 ?_
  refine z_pVi (wc := MWd ct M) (wr := CW ct C2) (As := [.int (xs (i + 1)), .int (xs (i + 2))]) (rest := [.int a]) ⟨hx, hb, hml, hown, hts⟩ hK hP hD hS hNW (fun _ h9 => h9) List.perm_append_comm (hm H.size) (cwV 2 hts gL_law_X10_addPump rfl rfl rfl (by decide +kernel) ⟨Nat.le_of_ble_eq_true rfl, Nat.le_of_ble_eq_true rfl⟩) 0 rfl rfl rfl hl.1 rfl (Nat.le_of_ble_eq_true rfl) dL_law_314 ⟨hcs.1, hcs.2⟩ (fun _ H locs hP hD hS => ?_)
  refine lv_icmp_eq (tgt := 1026) hx hb dL_law_317 (by decide) (fun _ => ?_) (fun q => absurd rfl q)
  exact kk C2 M2 H locs ls hR2 (hP.perm List.perm_append_comm) (hD.perm List.perm_append_comm) hS (by rw [hM2, hba]; exact hl)

set_option maxHeartbeats 4000000 in
set_option maxRecDepth 100000 in
theorem cs_setStream {p : Program} {e : Env} {s : State} {m : MethodId} {below : List Frame} {meth : Method} {c : Code} {b L : Nat} {xs : Nat → Int32} {Q : State → Prop} {g : va_G} {ct : Nat → ClassId} {H : Heap} {locs : List Loc} {cells slots i T : Nat} {ls : Array Slot} {C : CT} {M : MT} (l : Launch) (h : LX p s m c b L xs g ct) (hcl : Cond.constantLong RL 13 (4294967295) ∈ wsL_law) (hi : i + 6 ≤ L) (hT : T < 1000000000) (hR : Rel T C M) (hcs : cells + 21 ≤ 600000 ∧ slots + 158 ≤ 7302250) (hP : va_P g vwCl (CW ct C ++ MWd ct M) H) (hD : va_D (AL s) (CW ct C ++ MWd ct M)) (hS : va_S (AL s) s.heap H locs) (hl : lv_has ls 8 [(3, .int (nI i)), (2, .ref (j_ma M 0)), (1, .ref (k_ba C 0)), (0, .ref b)])
    (kk : ∀ (C2 : CT) (M2 : MT) (H2 : Heap) (locs2 : List Loc) (ls2 : Array Slot), Rel (T + 48) C2 M2 → va_P g vwCl (CW ct C2 ++ MWd ct M2) H2 → va_D (AL s) (CW ct C2 ++ MWd ct M2) → va_S (AL s) s.heap H2 locs2 → lv_has ls2 8 [(3, .int (nI i)), (2, .ref (j_ma M2 0)), (1, .ref (k_ba C2 0)), (0, .ref b)] → W p l e room_1 s m #[Value.ref b] below meth c H2 locs2 (cells + 21) (slots + 158) Q (F0 m 1026 ls2 [])) : W p l e room_1 s m #[Value.ref b] below meth c H locs cells slots Q (F0 m 322 ls []) := by
  obtain ⟨hx, hb, hml, hown, hts, hX, hbl, hK, hNW, hL⟩ := id h
  obtain ⟨a, M2, hM2, hc, hm⟩ := op_setStream l g ct hR (xs (i + 1)) (xs (i + 2))
  refine lv_aload_n hx hb dL_law_322 rfl (lv_at hl 2 rfl) ?_
  refine z_arg (k := 1) (ki := 1) h hS hl (by decide) (by omega) dL_law_323 dL_law_324 dL_law_325 dL_law_326 dL_law_327 ?_
  refine z_arg (k := 2) (ki := 2) h hS hl (by decide) (by omega) dL_law_328 dL_law_329 dL_law_330 dL_law_331 dL_law_332 ?_
  refine z_pVi (wc := CW ct C) (wr := MWd ct M) (As := [.int (xs (i + 1)), .int (xs (i + 2))]) (rest := []) ⟨hx, hb, hml, hown, hts⟩ hK hP hD hS hNW (fun _ h9 => h9) (List.Perm.refl _) (z_up (rm2 := zRc 4 21 158 95) (hc H.size) (Nat.le_of_ble_eq_true rfl) (Nat.le_of_ble_eq_true rfl) (Nat.le_of_ble_eq_true rfl) (Nat.le_of_ble_eq_true rfl)) (cwV 2 hts gL_law_X9_setStream rfl rfl rfl (by decide +kernel) ⟨Nat.le_of_ble_eq_true rfl, Nat.le_of_ble_eq_true rfl⟩) 0 rfl rfl rfl hl.1 rfl (Nat.le_of_ble_eq_true rfl) dL_law_333 ⟨hcs.1, hcs.2⟩ (fun u H locs hP hD hS => ?_)
  obtain ⟨C2, hba, hR2⟩ := u
  have hP : va_P g vwCl (CW ct C2 ++ MWd ct M) H := hP
  have hD : va_D (AL s) (CW ct C2 ++ MWd ct M) := hD
  refine lv_aload_n hx hb dL_law_336 rfl (lv_at hl 1 rfl) ?_
  refine z_arg (k := 1) (ki := 1) h hS hl (by decide) (by omega) dL_law_337 dL_law_338 dL_law_339 dL_law_340 dL_law_341 ?_
  refine z_arg (k := 2) (ki := 2) h hS hl (by decide) (by omega) dL_law_342 dL_law_343 dL_law_344 dL_law_345 dL_law_346 ?_
  refine z_pVi (wc := MWd ct M) (wr := CW ct C2) (As := [.int (xs (i + 1)), .int (xs (i + 2))]) (rest := [.int a]) ⟨hx, hb, hml, hown, hts⟩ hK hP hD hS hNW (fun _ h9 => h9) List.perm_append_comm (hm H.size) (cwV 2 hts gL_law_X10_setStream rfl rfl rfl (by decide +kernel) ⟨Nat.le_of_ble_eq_true rfl, Nat.le_of_ble_eq_true rfl⟩) 0 rfl rfl rfl hl.1 rfl (Nat.le_of_ble_eq_true rfl) dL_law_347 ⟨hcs.1, hcs.2⟩ (fun _ H locs hP hD hS => ?_)
  refine lv_icmp_eq (tgt := 1026) hx hb dL_law_350 (by decide) (fun _ => ?_) (fun q => absurd rfl q)
  exact kk C2 M2 H locs ls hR2 (hP.perm List.perm_append_comm) (hD.perm List.perm_append_comm) hS (by rw [hM2, hba]; exact hl)

set_option maxHeartbeats 4000000 in
set_option maxRecDepth 100000 in
theorem cs_switchPump {p : Program} {e : Env} {s : State} {m : MethodId} {below : List Frame} {meth : Method} {c : Code} {b L : Nat} {xs : Nat → Int32} {Q : State → Prop} {g : va_G} {ct : Nat → ClassId} {H : Heap} {locs : List Loc} {cells slots i T : Nat} {ls : Array Slot} {C : CT} {M : MT} (l : Launch) (h : LX p s m c b L xs g ct) (hcl : Cond.constantLong RL 13 (4294967295) ∈ wsL_law) (hi : i + 6 ≤ L) (hT : T < 1000000000) (hR : Rel T C M) (hcs : cells + 21 ≤ 600000 ∧ slots + 158 ≤ 7302250) (hP : va_P g vwCl (CW ct C ++ MWd ct M) H) (hD : va_D (AL s) (CW ct C ++ MWd ct M)) (hS : va_S (AL s) s.heap H locs) (hl : lv_has ls 8 [(3, .int (nI i)), (2, .ref (j_ma M 0)), (1, .ref (k_ba C 0)), (0, .ref b)])
    (kk : ∀ (C2 : CT) (M2 : MT) (H2 : Heap) (locs2 : List Loc) (ls2 : Array Slot), Rel (T + 48) C2 M2 → va_P g vwCl (CW ct C2 ++ MWd ct M2) H2 → va_D (AL s) (CW ct C2 ++ MWd ct M2) → va_S (AL s) s.heap H2 locs2 → lv_has ls2 8 [(3, .int (nI i)), (2, .ref (j_ma M2 0)), (1, .ref (k_ba C2 0)), (0, .ref b)] → W p l e room_1 s m #[Value.ref b] below meth c H2 locs2 (cells + 21) (slots + 158) Q (F0 m 1026 ls2 [])) : W p l e room_1 s m #[Value.ref b] below meth c H locs cells slots Q (F0 m 355 ls []) := by
  obtain ⟨hx, hb, hml, hown, hts, hX, hbl, hK, hNW, hL⟩ := id h
  obtain ⟨a, M2, hM2, hc, hm⟩ := op_switchPump l g ct hR (xs (i + 1)) (if xs (i + 2) = 0 then (0 : Int32) else 1) (b01 _)
  refine lv_aload_n hx hb dL_law_355 rfl (lv_at hl 2 rfl) ?_
  refine z_arg (k := 1) (ki := 1) h hS hl (by decide) (by omega) dL_law_356 dL_law_357 dL_law_358 dL_law_359 dL_law_360 ?_
  refine z_arg (k := 2) (ki := 2) h hS hl (by decide) (by omega) dL_law_361 dL_law_362 dL_law_363 dL_law_364 dL_law_365 ?_
  refine z_bool hx hb dL_law_366 dL_law_369 dL_law_370 dL_law_373 ?_
  refine z_pVi (wc := CW ct C) (wr := MWd ct M) (As := [.int (xs (i + 1)), .int (if xs (i + 2) = 0 then (0 : Int32) else 1)]) (rest := []) ⟨hx, hb, hml, hown, hts⟩ hK hP hD hS hNW (fun _ h9 => h9) (List.Perm.refl _) (z_up (rm2 := zRc 4 21 158 95) (hc H.size) (Nat.le_of_ble_eq_true rfl) (Nat.le_of_ble_eq_true rfl) (Nat.le_of_ble_eq_true rfl) (Nat.le_of_ble_eq_true rfl)) (cwV 2 hts gL_law_X9_switchPump rfl rfl rfl (by decide +kernel) ⟨Nat.le_of_ble_eq_true rfl, Nat.le_of_ble_eq_true rfl⟩) 0 rfl rfl rfl hl.1 rfl (Nat.le_of_ble_eq_true rfl) dL_law_374 ⟨hcs.1, hcs.2⟩ (fun u H locs hP hD hS => ?_)
  obtain ⟨C2, hba, hR2⟩ := u
  have hP : va_P g vwCl (CW ct C2 ++ MWd ct M) H := hP
  have hD : va_D (AL s) (CW ct C2 ++ MWd ct M) := hD
  refine lv_aload_n hx hb dL_law_377 rfl (lv_at hl 1 rfl) ?_
  refine z_arg (k := 1) (ki := 1) h hS hl (by decide) (by omega) dL_law_378 dL_law_379 dL_law_380 dL_law_381 dL_law_382 ?_
  refine z_arg (k := 2) (ki := 2) h hS hl (by decide) (by omega) dL_law_383 dL_law_384 dL_law_385 dL_law_386 dL_law_387 ?_
  refine z_bool hx hb dL_law_388 dL_law_391 dL_law_392 dL_law_395 ?_
  refine z_pVi (wc := MWd ct M) (wr := CW ct C2) (As := [.int (xs (i + 1)), .int (if xs (i + 2) = 0 then (0 : Int32) else 1)]) (rest := [.int a]) ⟨hx, hb, hml, hown, hts⟩ hK hP hD hS hNW (fun _ h9 => h9) List.perm_append_comm (hm H.size) (cwV 2 hts gL_law_X10_switchPump rfl rfl rfl (by decide +kernel) ⟨Nat.le_of_ble_eq_true rfl, Nat.le_of_ble_eq_true rfl⟩) 0 rfl rfl rfl hl.1 rfl (Nat.le_of_ble_eq_true rfl) dL_law_396 ⟨hcs.1, hcs.2⟩ (fun _ H locs hP hD hS => ?_)
  refine lv_icmp_eq (tgt := 1026) hx hb dL_law_399 (by decide) (fun _ => ?_) (fun q => absurd rfl q)
  exact kk C2 M2 H locs ls hR2 (hP.perm List.perm_append_comm) (hD.perm List.perm_append_comm) hS (by rw [hM2, hba]; exact hl)

set_option maxHeartbeats 4000000 in
set_option maxRecDepth 100000 in
theorem cs_set {p : Program} {e : Env} {s : State} {m : MethodId} {below : List Frame} {meth : Method} {c : Code} {b L : Nat} {xs : Nat → Int32} {Q : State → Prop} {g : va_G} {ct : Nat → ClassId} {H : Heap} {locs : List Loc} {cells slots i T : Nat} {ls : Array Slot} {C : CT} {M : MT} (l : Launch) (h : LX p s m c b L xs g ct) (hcl : Cond.constantLong RL 13 (4294967295) ∈ wsL_law) (hi : i + 6 ≤ L) (hT : T < 1000000000) (hR : Rel T C M) (hcs : cells + 21 ≤ 600000 ∧ slots + 158 ≤ 7302250) (hP : va_P g vwCl (CW ct C ++ MWd ct M) H) (hD : va_D (AL s) (CW ct C ++ MWd ct M)) (hS : va_S (AL s) s.heap H locs) (hl : lv_has ls 8 [(3, .int (nI i)), (2, .ref (j_ma M 0)), (1, .ref (k_ba C 0)), (0, .ref b)])
    (kk : ∀ (C2 : CT) (M2 : MT) (H2 : Heap) (locs2 : List Loc) (ls2 : Array Slot), Rel (T + 48) C2 M2 → va_P g vwCl (CW ct C2 ++ MWd ct M2) H2 → va_D (AL s) (CW ct C2 ++ MWd ct M2) → va_S (AL s) s.heap H2 locs2 → lv_has ls2 8 [(3, .int (nI i)), (2, .ref (j_ma M2 0)), (1, .ref (k_ba C2 0)), (0, .ref b)] → W p l e room_1 s m #[Value.ref b] below meth c H2 locs2 (cells + 21) (slots + 158) Q (F0 m 1026 ls2 [])) : W p l e room_1 s m #[Value.ref b] below meth c H locs cells slots Q (F0 m 404 ls []) := by
  obtain ⟨hx, hb, hml, hown, hts, hX, hbl, hK, hNW, hL⟩ := id h
  obtain ⟨a, M2, hM2, hc, hm⟩ := op_set l g ct hR (xs (i + 1)) (xs (i + 2))
  refine lv_aload_n hx hb dL_law_404 rfl (lv_at hl 2 rfl) ?_
  refine z_arg (k := 1) (ki := 1) h hS hl (by decide) (by omega) dL_law_405 dL_law_406 dL_law_407 dL_law_408 dL_law_409 ?_
  refine z_arg (k := 2) (ki := 2) h hS hl (by decide) (by omega) dL_law_410 dL_law_411 dL_law_412 dL_law_413 dL_law_414 ?_
  refine z_pVi (wc := CW ct C) (wr := MWd ct M) (As := [.int (xs (i + 1)), .int (xs (i + 2))]) (rest := []) ⟨hx, hb, hml, hown, hts⟩ hK hP hD hS hNW (fun _ h9 => h9) (List.Perm.refl _) (z_up (rm2 := zRc 5 21 158 117) (hc H.size) (Nat.le_of_ble_eq_true rfl) (Nat.le_of_ble_eq_true rfl) (Nat.le_of_ble_eq_true rfl) (Nat.le_of_ble_eq_true rfl)) (cwV 2 hts gL_law_X9_set rfl rfl rfl (by decide +kernel) ⟨Nat.le_of_ble_eq_true rfl, Nat.le_of_ble_eq_true rfl⟩) 0 rfl rfl rfl hl.1 rfl (Nat.le_of_ble_eq_true rfl) dL_law_415 ⟨hcs.1, hcs.2⟩ (fun u H locs hP hD hS => ?_)
  obtain ⟨C2, hba, hR2⟩ := u
  have hP : va_P g vwCl (CW ct C2 ++ MWd ct M) H := hP
  have hD : va_D (AL s) (CW ct C2 ++ MWd ct M) := hD
  refine lv_aload_n hx hb dL_law_418 rfl (lv_at hl 1 rfl) ?_
  refine z_arg (k := 1) (ki := 1) h hS hl (by decide) (by omega) dL_law_419 dL_law_420 dL_law_421 dL_law_422 dL_law_423 ?_
  refine z_arg (k := 2) (ki := 2) h hS hl (by decide) (by omega) dL_law_424 dL_law_425 dL_law_426 dL_law_427 dL_law_428 ?_
  refine z_pVi (wc := MWd ct M) (wr := CW ct C2) (As := [.int (xs (i + 1)), .int (xs (i + 2))]) (rest := [.int a]) ⟨hx, hb, hml, hown, hts⟩ hK hP hD hS hNW (fun _ h9 => h9) List.perm_append_comm (hm H.size) (cwV 2 hts gL_law_X10_set rfl rfl rfl (by decide +kernel) ⟨Nat.le_of_ble_eq_true rfl, Nat.le_of_ble_eq_true rfl⟩) 0 rfl rfl rfl hl.1 rfl (Nat.le_of_ble_eq_true rfl) dL_law_429 ⟨hcs.1, hcs.2⟩ (fun _ H locs hP hD hS => ?_)
  refine lv_icmp_eq (tgt := 1026) hx hb dL_law_432 (by decide) (fun _ => ?_) (fun q => absurd rfl q)
  exact kk C2 M2 H locs ls hR2 (hP.perm List.perm_append_comm) (hD.perm List.perm_append_comm) hS (by rw [hM2, hba]; exact hl)

set_option maxHeartbeats 4000000 in
set_option maxRecDepth 100000 in
theorem cs_setAlarm {p : Program} {e : Env} {s : State} {m : MethodId} {below : List Frame} {meth : Method} {c : Code} {b L : Nat} {xs : Nat → Int32} {Q : State → Prop} {g : va_G} {ct : Nat → ClassId} {H : Heap} {locs : List Loc} {cells slots i T : Nat} {ls : Array Slot} {C : CT} {M : MT} (l : Launch) (h : LX p s m c b L xs g ct) (hcl : Cond.constantLong RL 13 (4294967295) ∈ wsL_law) (hi : i + 6 ≤ L) (hT : T < 1000000000) (hR : Rel T C M) (hcs : cells + 21 ≤ 600000 ∧ slots + 158 ≤ 7302250) (hP : va_P g vwCl (CW ct C ++ MWd ct M) H) (hD : va_D (AL s) (CW ct C ++ MWd ct M)) (hS : va_S (AL s) s.heap H locs) (hl : lv_has ls 8 [(3, .int (nI i)), (2, .ref (j_ma M 0)), (1, .ref (k_ba C 0)), (0, .ref b)])
    (kk : ∀ (C2 : CT) (M2 : MT) (H2 : Heap) (locs2 : List Loc) (ls2 : Array Slot), Rel (T + 48) C2 M2 → va_P g vwCl (CW ct C2 ++ MWd ct M2) H2 → va_D (AL s) (CW ct C2 ++ MWd ct M2) → va_S (AL s) s.heap H2 locs2 → lv_has ls2 8 [(3, .int (nI i)), (2, .ref (j_ma M2 0)), (1, .ref (k_ba C2 0)), (0, .ref b)] → W p l e room_1 s m #[Value.ref b] below meth c H2 locs2 (cells + 21) (slots + 158) Q (F0 m 1026 ls2 [])) : W p l e room_1 s m #[Value.ref b] below meth c H locs cells slots Q (F0 m 437 ls []) := by
  obtain ⟨hx, hb, hml, hown, hts, hX, hbl, hK, hNW, hL⟩ := id h
  obtain ⟨a, M2, hM2, hc, hm⟩ := op_setAlarm l g ct hR (bL (xs (i + 1)) (xs (i + 2)))
  refine lv_aload_n hx hb dL_law_437 rfl (lv_at hl 2 rfl) ?_
  refine z_arg (k := 1) (ki := 1) h hS hl (by decide) (by omega) dL_law_438 dL_law_439 dL_law_440 dL_law_441 dL_law_442 ?_
  refine lv_i2l (v := (xs (i + 1)).toInt64) hx hb dL_law_443 rfl ?_
  refine lv_bipush (v := 32) hx hb dL_law_444 (by decide) ?_
  refine lv_lshl (v := (xs (i + 1)).toInt64 <<< ((32 : Int32).toInt64 &&& 63)) hx hb dL_law_446 rfl ?_
  refine z_arg (k := 2) (ki := 2) h hS hl (by decide) (by omega) dL_law_447 dL_law_448 dL_law_449 dL_law_450 dL_law_451 ?_
  refine lv_i2l (v := (xs (i + 2)).toInt64) hx hb dL_law_452 rfl ?_
  refine lv_ldc2 (v := 4294967295) hx hb hown (hts (.constantLong RL 13 (4294967295)) hcl) dL_law_453 ?_
  refine lv_land hx hb dL_law_456 ?_
  refine lv_lor hx hb dL_law_457 ?_
  refine z_pVi (wc := CW ct C) (wr := MWd ct M) (As := [.long (bL (xs (i + 1)) (xs (i + 2)))]) (rest := []) ⟨hx, hb, hml, hown, hts⟩ hK hP hD hS hNW (fun _ h9 => h9) (List.Perm.refl _) (z_up (rm2 := zRc 4 21 158 95) (hc H.size) (Nat.le_of_ble_eq_true rfl) (Nat.le_of_ble_eq_true rfl) (Nat.le_of_ble_eq_true rfl) (Nat.le_of_ble_eq_true rfl)) (cwV 1 hts gL_law_X9_setAlarm rfl rfl rfl (by decide +kernel) ⟨Nat.le_of_ble_eq_true rfl, Nat.le_of_ble_eq_true rfl⟩) 0 rfl rfl rfl hl.1 rfl (Nat.le_of_ble_eq_true rfl) dL_law_458 ⟨hcs.1, hcs.2⟩ (fun u H locs hP hD hS => ?_)
  obtain ⟨C2, hba, hR2⟩ := u
  have hP : va_P g vwCl (CW ct C2 ++ MWd ct M) H := hP
  have hD : va_D (AL s) (CW ct C2 ++ MWd ct M) := hD
  refine lv_aload_n hx hb dL_law_461 rfl (lv_at hl 1 rfl) ?_
  refine z_arg (k := 1) (ki := 1) h hS hl (by decide) (by omega) dL_law_462 dL_law_463 dL_law_464 dL_law_465 dL_law_466 ?_
  refine lv_i2l (v := (xs (i + 1)).toInt64) hx hb dL_law_467 rfl ?_
  refine lv_bipush (v := 32) hx hb dL_law_468 (by decide) ?_
  refine lv_lshl (v := (xs (i + 1)).toInt64 <<< ((32 : Int32).toInt64 &&& 63)) hx hb dL_law_470 rfl ?_
  refine z_arg (k := 2) (ki := 2) h hS hl (by decide) (by omega) dL_law_471 dL_law_472 dL_law_473 dL_law_474 dL_law_475 ?_
  refine lv_i2l (v := (xs (i + 2)).toInt64) hx hb dL_law_476 rfl ?_
  refine lv_ldc2 (v := 4294967295) hx hb hown (hts (.constantLong RL 13 (4294967295)) hcl) dL_law_477 ?_
  refine lv_land hx hb dL_law_480 ?_
  refine lv_lor hx hb dL_law_481 ?_
  refine z_pVi (wc := MWd ct M) (wr := CW ct C2) (As := [.long (bL (xs (i + 1)) (xs (i + 2)))]) (rest := [.int a]) ⟨hx, hb, hml, hown, hts⟩ hK hP hD hS hNW (fun _ h9 => h9) List.perm_append_comm (hm H.size) (cwV 1 hts gL_law_X10_setAlarm rfl rfl rfl (by decide +kernel) ⟨Nat.le_of_ble_eq_true rfl, Nat.le_of_ble_eq_true rfl⟩) 0 rfl rfl rfl hl.1 rfl (Nat.le_of_ble_eq_true rfl) dL_law_482 ⟨hcs.1, hcs.2⟩ (fun _ H locs hP hD hS => ?_)
  refine lv_icmp_eq (tgt := 1026) hx hb dL_law_485 (by decide) (fun _ => ?_) (fun q => absurd rfl q)
  exact kk C2 M2 H locs ls hR2 (hP.perm List.perm_append_comm) (hD.perm List.perm_append_comm) hS (by rw [hM2, hba]; exact hl)

set_option maxHeartbeats 4000000 in
set_option maxRecDepth 100000 in
theorem cs_setTide {p : Program} {e : Env} {s : State} {m : MethodId} {below : List Frame} {meth : Method} {c : Code} {b L : Nat} {xs : Nat → Int32} {Q : State → Prop} {g : va_G} {ct : Nat → ClassId} {H : Heap} {locs : List Loc} {cells slots i T : Nat} {ls : Array Slot} {C : CT} {M : MT} (l : Launch) (h : LX p s m c b L xs g ct) (hcl : Cond.constantLong RL 13 (4294967295) ∈ wsL_law) (hi : i + 6 ≤ L) (hT : T < 1000000000) (hR : Rel T C M) (hcs : cells + 21 ≤ 600000 ∧ slots + 158 ≤ 7302250) (hP : va_P g vwCl (CW ct C ++ MWd ct M) H) (hD : va_D (AL s) (CW ct C ++ MWd ct M)) (hS : va_S (AL s) s.heap H locs) (hl : lv_has ls 8 [(3, .int (nI i)), (2, .ref (j_ma M 0)), (1, .ref (k_ba C 0)), (0, .ref b)])
    (kk : ∀ (C2 : CT) (M2 : MT) (H2 : Heap) (locs2 : List Loc) (ls2 : Array Slot), Rel (T + 48) C2 M2 → va_P g vwCl (CW ct C2 ++ MWd ct M2) H2 → va_D (AL s) (CW ct C2 ++ MWd ct M2) → va_S (AL s) s.heap H2 locs2 → lv_has ls2 8 [(3, .int (nI i)), (2, .ref (j_ma M2 0)), (1, .ref (k_ba C2 0)), (0, .ref b)] → W p l e room_1 s m #[Value.ref b] below meth c H2 locs2 (cells + 21) (slots + 158) Q (F0 m 1026 ls2 [])) : W p l e room_1 s m #[Value.ref b] below meth c H locs cells slots Q (F0 m 490 ls []) := by
  obtain ⟨hx, hb, hml, hown, hts, hX, hbl, hK, hNW, hL⟩ := id h
  obtain ⟨a, M2, hM2, hc, hm⟩ := op_setTide l g ct hR (xs (i + 1)) (bL (xs (i + 2)) (xs (i + 3)))
  refine lv_aload_n hx hb dL_law_490 rfl (lv_at hl 2 rfl) ?_
  refine z_arg (k := 1) (ki := 1) h hS hl (by decide) (by omega) dL_law_491 dL_law_492 dL_law_493 dL_law_494 dL_law_495 ?_
  refine z_arg (k := 2) (ki := 2) h hS hl (by decide) (by omega) dL_law_496 dL_law_497 dL_law_498 dL_law_499 dL_law_500 ?_
  refine lv_i2l (v := (xs (i + 2)).toInt64) hx hb dL_law_501 rfl ?_
  refine lv_bipush (v := 32) hx hb dL_law_502 (by decide) ?_
  refine lv_lshl (v := (xs (i + 2)).toInt64 <<< ((32 : Int32).toInt64 &&& 63)) hx hb dL_law_504 rfl ?_
  refine z_arg (k := 3) (ki := 3) h hS hl (by decide) (by omega) dL_law_505 dL_law_506 dL_law_507 dL_law_508 dL_law_509 ?_
  refine lv_i2l (v := (xs (i + 3)).toInt64) hx hb dL_law_510 rfl ?_
  refine lv_ldc2 (v := 4294967295) hx hb hown (hts (.constantLong RL 13 (4294967295)) hcl) dL_law_511 ?_
  refine lv_land hx hb dL_law_514 ?_
  refine lv_lor hx hb dL_law_515 ?_
  refine z_pVi (wc := CW ct C) (wr := MWd ct M) (As := [.int (xs (i + 1)), .long (bL (xs (i + 2)) (xs (i + 3)))]) (rest := []) ⟨hx, hb, hml, hown, hts⟩ hK hP hD hS hNW (fun _ h9 => h9) (List.Perm.refl _) (z_up (rm2 := zRc 4 21 158 95) (hc H.size) (Nat.le_of_ble_eq_true rfl) (Nat.le_of_ble_eq_true rfl) (Nat.le_of_ble_eq_true rfl) (Nat.le_of_ble_eq_true rfl)) (cwV 2 hts gL_law_X9_setTide rfl rfl rfl (by decide +kernel) ⟨Nat.le_of_ble_eq_true rfl, Nat.le_of_ble_eq_true rfl⟩) 0 rfl rfl rfl hl.1 rfl (Nat.le_of_ble_eq_true rfl) dL_law_516 ⟨hcs.1, hcs.2⟩ (fun u H locs hP hD hS => ?_)
  obtain ⟨C2, hba, hR2⟩ := u
  have hP : va_P g vwCl (CW ct C2 ++ MWd ct M) H := hP
  have hD : va_D (AL s) (CW ct C2 ++ MWd ct M) := hD
  refine lv_aload_n hx hb dL_law_519 rfl (lv_at hl 1 rfl) ?_
  refine z_arg (k := 1) (ki := 1) h hS hl (by decide) (by omega) dL_law_520 dL_law_521 dL_law_522 dL_law_523 dL_law_524 ?_
  refine z_arg (k := 2) (ki := 2) h hS hl (by decide) (by omega) dL_law_525 dL_law_526 dL_law_527 dL_law_528 dL_law_529 ?_
  refine lv_i2l (v := (xs (i + 2)).toInt64) hx hb dL_law_530 rfl ?_
  refine lv_bipush (v := 32) hx hb dL_law_531 (by decide) ?_
  refine lv_lshl (v := (xs (i + 2)).toInt64 <<< ((32 : Int32).toInt64 &&& 63)) hx hb dL_law_533 rfl ?_
  refine z_arg (k := 3) (ki := 3) h hS hl (by decide) (by omega) dL_law_534 dL_law_535 dL_law_536 dL_law_537 dL_law_538 ?_
  refine lv_i2l (v := (xs (i + 3)).toInt64) hx hb dL_law_539 rfl ?_
  refine lv_ldc2 (v := 4294967295) hx hb hown (hts (.constantLong RL 13 (4294967295)) hcl) dL_law_540 ?_
  refine lv_land hx hb dL_law_543 ?_
  refine lv_lor hx hb dL_law_544 ?_
  refine z_pVi (wc := MWd ct M) (wr := CW ct C2) (As := [.int (xs (i + 1)), .long (bL (xs (i + 2)) (xs (i + 3)))]) (rest := [.int a]) ⟨hx, hb, hml, hown, hts⟩ hK hP hD hS hNW (fun _ h9 => h9) List.perm_append_comm (hm H.size) (cwV 2 hts gL_law_X10_setTide rfl rfl rfl (by decide +kernel) ⟨Nat.le_of_ble_eq_true rfl, Nat.le_of_ble_eq_true rfl⟩) 0 rfl rfl rfl hl.1 rfl (Nat.le_of_ble_eq_true rfl) dL_law_545 ⟨hcs.1, hcs.2⟩ (fun _ H locs hP hD hS => ?_)
  refine lv_icmp_eq (tgt := 1026) hx hb dL_law_548 (by decide) (fun _ => ?_) (fun q => absurd rfl q)
  exact kk C2 M2 H locs ls hR2 (hP.perm List.perm_append_comm) (hD.perm List.perm_append_comm) hS (by rw [hM2, hba]; exact hl)

set_option maxHeartbeats 4000000 in
set_option maxRecDepth 100000 in
theorem cs_vote {p : Program} {e : Env} {s : State} {m : MethodId} {below : List Frame} {meth : Method} {c : Code} {b L : Nat} {xs : Nat → Int32} {Q : State → Prop} {g : va_G} {ct : Nat → ClassId} {H : Heap} {locs : List Loc} {cells slots i T : Nat} {ls : Array Slot} {C : CT} {M : MT} (l : Launch) (h : LX p s m c b L xs g ct) (hcl : Cond.constantLong RL 13 (4294967295) ∈ wsL_law) (hi : i + 6 ≤ L) (hT : T < 1000000000) (hR : Rel T C M) (hcs : cells + 21 ≤ 600000 ∧ slots + 158 ≤ 7302250) (hP : va_P g vwCl (CW ct C ++ MWd ct M) H) (hD : va_D (AL s) (CW ct C ++ MWd ct M)) (hS : va_S (AL s) s.heap H locs) (hl : lv_has ls 8 [(3, .int (nI i)), (2, .ref (j_ma M 0)), (1, .ref (k_ba C 0)), (0, .ref b)])
    (kk : ∀ (C2 : CT) (M2 : MT) (H2 : Heap) (locs2 : List Loc) (ls2 : Array Slot), Rel (T + 48) C2 M2 → va_P g vwCl (CW ct C2 ++ MWd ct M2) H2 → va_D (AL s) (CW ct C2 ++ MWd ct M2) → va_S (AL s) s.heap H2 locs2 → lv_has ls2 8 [(3, .int (nI i)), (2, .ref (j_ma M2 0)), (1, .ref (k_ba C2 0)), (0, .ref b)] → W p l e room_1 s m #[Value.ref b] below meth c H2 locs2 (cells + 21) (slots + 158) Q (F0 m 1026 ls2 [])) : W p l e room_1 s m #[Value.ref b] below meth c H locs cells slots Q (F0 m 553 ls []) := by
  obtain ⟨hx, hb, hml, hown, hts, hX, hbl, hK, hNW, hL⟩ := id h
  obtain ⟨a, M2, hM2, hc, hm⟩ := op_vote l g ct hR (xs (i + 1)) (if xs (i + 2) = 0 then (0 : Int32) else 1) (b01 _)
  refine lv_aload_n hx hb dL_law_553 rfl (lv_at hl 2 rfl) ?_
  refine z_arg (k := 1) (ki := 1) h hS hl (by decide) (by omega) dL_law_554 dL_law_555 dL_law_556 dL_law_557 dL_law_558 ?_
  refine z_arg (k := 2) (ki := 2) h hS hl (by decide) (by omega) dL_law_559 dL_law_560 dL_law_561 dL_law_562 dL_law_563 ?_
  refine z_bool hx hb dL_law_564 dL_law_567 dL_law_568 dL_law_571 ?_
  refine z_pVi (wc := CW ct C) (wr := MWd ct M) (As := [.int (xs (i + 1)), .int (if xs (i + 2) = 0 then (0 : Int32) else 1)]) (rest := []) ⟨hx, hb, hml, hown, hts⟩ hK hP hD hS hNW (fun _ h9 => h9) (List.Perm.refl _) (z_up (rm2 := zRc 4 21 158 95) (hc H.size) (Nat.le_of_ble_eq_true rfl) (Nat.le_of_ble_eq_true rfl) (Nat.le_of_ble_eq_true rfl) (Nat.le_of_ble_eq_true rfl)) (cwV 2 hts gL_law_X9_vote rfl rfl rfl (by decide +kernel) ⟨Nat.le_of_ble_eq_true rfl, Nat.le_of_ble_eq_true rfl⟩) 0 rfl rfl rfl hl.1 rfl (Nat.le_of_ble_eq_true rfl) dL_law_572 ⟨hcs.1, hcs.2⟩ (fun u H locs hP hD hS => ?_)
  obtain ⟨C2, hba, hR2⟩ := u
  have hP : va_P g vwCl (CW ct C2 ++ MWd ct M) H := hP
  have hD : va_D (AL s) (CW ct C2 ++ MWd ct M) := hD
  refine lv_aload_n hx hb dL_law_575 rfl (lv_at hl 1 rfl) ?_
  refine z_arg (k := 1) (ki := 1) h hS hl (by decide) (by omega) dL_law_576 dL_law_577 dL_law_578 dL_law_579 dL_law_580 ?_
  refine z_arg (k := 2) (ki := 2) h hS hl (by decide) (by omega) dL_law_581 dL_law_582 dL_law_583 dL_law_584 dL_law_585 ?_
  refine z_bool hx hb dL_law_586 dL_law_589 dL_law_590 dL_law_593 ?_
  refine z_pVi (wc := MWd ct M) (wr := CW ct C2) (As := [.int (xs (i + 1)), .int (if xs (i + 2) = 0 then (0 : Int32) else 1)]) (rest := [.int a]) ⟨hx, hb, hml, hown, hts⟩ hK hP hD hS hNW (fun _ h9 => h9) List.perm_append_comm (hm H.size) (cwV 2 hts gL_law_X10_vote rfl rfl rfl (by decide +kernel) ⟨Nat.le_of_ble_eq_true rfl, Nat.le_of_ble_eq_true rfl⟩) 0 rfl rfl rfl hl.1 rfl (Nat.le_of_ble_eq_true rfl) dL_law_594 ⟨hcs.1, hcs.2⟩ (fun _ H locs hP hD hS => ?_)
  refine lv_icmp_eq (tgt := 1026) hx hb dL_law_597 (by decide) (fun _ => ?_) (fun q => absurd rfl q)
  exact kk C2 M2 H locs ls hR2 (hP.perm List.perm_append_comm) (hD.perm List.perm_append_comm) hS (by rw [hM2, hba]; exact hl)

set_option maxHeartbeats 4000000 in
set_option maxRecDepth 100000 in
theorem cs_close {p : Program} {e : Env} {s : State} {m : MethodId} {below : List Frame} {meth : Method} {c : Code} {b L : Nat} {xs : Nat → Int32} {Q : State → Prop} {g : va_G} {ct : Nat → ClassId} {H : Heap} {locs : List Loc} {cells slots i T : Nat} {ls : Array Slot} {C : CT} {M : MT} (l : Launch) (h : LX p s m c b L xs g ct) (hcl : Cond.constantLong RL 13 (4294967295) ∈ wsL_law) (hi : i + 6 ≤ L) (hT : T < 1000000000) (hR : Rel T C M) (hcs : cells + 21 ≤ 600000 ∧ slots + 158 ≤ 7302250) (hP : va_P g vwCl (CW ct C ++ MWd ct M) H) (hD : va_D (AL s) (CW ct C ++ MWd ct M)) (hS : va_S (AL s) s.heap H locs) (hl : lv_has ls 8 [(3, .int (nI i)), (2, .ref (j_ma M 0)), (1, .ref (k_ba C 0)), (0, .ref b)])
    (kk : ∀ (C2 : CT) (M2 : MT) (H2 : Heap) (locs2 : List Loc) (ls2 : Array Slot), Rel (T + 48) C2 M2 → va_P g vwCl (CW ct C2 ++ MWd ct M2) H2 → va_D (AL s) (CW ct C2 ++ MWd ct M2) → va_S (AL s) s.heap H2 locs2 → lv_has ls2 8 [(3, .int (nI i)), (2, .ref (j_ma M2 0)), (1, .ref (k_ba C2 0)), (0, .ref b)] → W p l e room_1 s m #[Value.ref b] below meth c H2 locs2 (cells + 21) (slots + 158) Q (F0 m 1026 ls2 [])) : W p l e room_1 s m #[Value.ref b] below meth c H locs cells slots Q (F0 m 602 ls []) := by
  obtain ⟨hx, hb, hml, hown, hts, hX, hbl, hK, hNW, hL⟩ := id h
  obtain ⟨a, M2, hM2, hc, hm⟩ := op_close l g ct hR hT 
  refine lv_aload_n hx hb dL_law_602 rfl (lv_at hl 2 rfl) ?_
  refine z_pVi (wc := CW ct C) (wr := MWd ct M) (As := []) (rest := []) ⟨hx, hb, hml, hown, hts⟩ hK hP hD hS hNW (fun _ h9 => h9) (List.Perm.refl _) (z_up (rm2 := zRc 5 21 158 118) (hc H.size) (Nat.le_of_ble_eq_true rfl) (Nat.le_of_ble_eq_true rfl) (Nat.le_of_ble_eq_true rfl) (Nat.le_of_ble_eq_true rfl)) (cwV 0 hts gL_law_X9_close rfl rfl rfl (by decide +kernel) ⟨Nat.le_of_ble_eq_true rfl, Nat.le_of_ble_eq_true rfl⟩) 0 rfl rfl rfl hl.1 rfl (Nat.le_of_ble_eq_true rfl) dL_law_603 ⟨hcs.1, hcs.2⟩ (fun u H locs hP hD hS => ?_)
  obtain ⟨C2, hba, hR2⟩ := u
  have hP : va_P g vwCl (CW ct C2 ++ MWd ct M) H := hP
  have hD : va_D (AL s) (CW ct C2 ++ MWd ct M) := hD
  refine lv_aload_n hx hb dL_law_606 rfl (lv_at hl 1 rfl) ?_
  refine z_pVi (wc := MWd ct M) (wr := CW ct C2) (As := []) (rest := [.int a]) ⟨hx, hb, hml, hown, hts⟩ hK hP hD hS hNW (fun _ h9 => h9) List.perm_append_comm (hm H.size) (cwV 0 hts gL_law_X10_close rfl rfl rfl (by decide +kernel) ⟨Nat.le_of_ble_eq_true rfl, Nat.le_of_ble_eq_true rfl⟩) 0 rfl rfl rfl hl.1 rfl (Nat.le_of_ble_eq_true rfl) dL_law_607 ⟨hcs.1, hcs.2⟩ (fun _ H locs hP hD hS => ?_)
  refine lv_icmp_eq (tgt := 1026) hx hb dL_law_610 (by decide) (fun _ => ?_) (fun q => absurd rfl q)
  exact kk C2 M2 H locs ls hR2 (hP.perm List.perm_append_comm) (hD.perm List.perm_append_comm) hS (by rw [hM2, hba]; exact hl)

set_option maxHeartbeats 4000000 in
set_option maxRecDepth 100000 in
theorem cs_open {p : Program} {e : Env} {s : State} {m : MethodId} {below : List Frame} {meth : Method} {c : Code} {b L : Nat} {xs : Nat → Int32} {Q : State → Prop} {g : va_G} {ct : Nat → ClassId} {H : Heap} {locs : List Loc} {cells slots i T : Nat} {ls : Array Slot} {C : CT} {M : MT} (l : Launch) (h : LX p s m c b L xs g ct) (hcl : Cond.constantLong RL 13 (4294967295) ∈ wsL_law) (hi : i + 6 ≤ L) (hT : T < 1000000000) (hR : Rel T C M) (hcs : cells + 21 ≤ 600000 ∧ slots + 158 ≤ 7302250) (hP : va_P g vwCl (CW ct C ++ MWd ct M) H) (hD : va_D (AL s) (CW ct C ++ MWd ct M)) (hS : va_S (AL s) s.heap H locs) (hl : lv_has ls 8 [(3, .int (nI i)), (2, .ref (j_ma M 0)), (1, .ref (k_ba C 0)), (0, .ref b)])
    (kk : ∀ (C2 : CT) (M2 : MT) (H2 : Heap) (locs2 : List Loc) (ls2 : Array Slot), Rel (T + 48) C2 M2 → va_P g vwCl (CW ct C2 ++ MWd ct M2) H2 → va_D (AL s) (CW ct C2 ++ MWd ct M2) → va_S (AL s) s.heap H2 locs2 → lv_has ls2 8 [(3, .int (nI i)), (2, .ref (j_ma M2 0)), (1, .ref (k_ba C2 0)), (0, .ref b)] → W p l e room_1 s m #[Value.ref b] below meth c H2 locs2 (cells + 21) (slots + 158) Q (F0 m 1026 ls2 [])) : W p l e room_1 s m #[Value.ref b] below meth c H locs cells slots Q (F0 m 615 ls []) := by
  obtain ⟨hx, hb, hml, hown, hts, hX, hbl, hK, hNW, hL⟩ := id h
  obtain ⟨a, M2, hM2, hc, hm⟩ := op_open l g ct hR 
  refine lv_aload_n hx hb dL_law_615 rfl (lv_at hl 2 rfl) ?_
  refine z_pVi (wc := CW ct C) (wr := MWd ct M) (As := []) (rest := []) ⟨hx, hb, hml, hown, hts⟩ hK hP hD hS hNW (fun _ h9 => h9) (List.Perm.refl _) (z_up (rm2 := zRc 4 21 158 95) (hc H.size) (Nat.le_of_ble_eq_true rfl) (Nat.le_of_ble_eq_true rfl) (Nat.le_of_ble_eq_true rfl) (Nat.le_of_ble_eq_true rfl)) (cwV 0 hts gL_law_X9_open rfl rfl rfl (by decide +kernel) ⟨Nat.le_of_ble_eq_true rfl, Nat.le_of_ble_eq_true rfl⟩) 0 rfl rfl rfl hl.1 rfl (Nat.le_of_ble_eq_true rfl) dL_law_616 ⟨hcs.1, hcs.2⟩ (fun u H locs hP hD hS => ?_)
  obtain ⟨C2, hba, hR2⟩ := u
  have hP : va_P g vwCl (CW ct C2 ++ MWd ct M) H := hP
  have hD : va_D (AL s) (CW ct C2 ++ MWd ct M) := hD
  refine lv_aload_n hx hb dL_law_619 rfl (lv_at hl 1 rfl) ?_
  refine z_pVi (wc := MWd ct M) (wr := CW ct C2) (As := []) (rest := [.int a]) ⟨hx, hb, hml, hown, hts⟩ hK hP hD hS hNW (fun _ h9 => h9) List.perm_append_comm (hm H.size) (cwV 0 hts gL_law_X10_open rfl rfl rfl (by decide +kernel) ⟨Nat.le_of_ble_eq_true rfl, Nat.le_of_ble_eq_true rfl⟩) 0 rfl rfl rfl hl.1 rfl (Nat.le_of_ble_eq_true rfl) dL_law_620 ⟨hcs.1, hcs.2⟩ (fun _ H locs hP hD hS => ?_)
  refine lv_icmp_eq (tgt := 1026) hx hb dL_law_623 (by decide) (fun _ => ?_) (fun q => absurd rfl q)
  exact kk C2 M2 H locs ls hR2 (hP.perm List.perm_append_comm) (hD.perm List.perm_append_comm) hS (by rw [hM2, hba]; exact hl)

set_option maxHeartbeats 4000000 in
set_option maxRecDepth 100000 in
theorem cs_service {p : Program} {e : Env} {s : State} {m : MethodId} {below : List Frame} {meth : Method} {c : Code} {b L : Nat} {xs : Nat → Int32} {Q : State → Prop} {g : va_G} {ct : Nat → ClassId} {H : Heap} {locs : List Loc} {cells slots i T : Nat} {ls : Array Slot} {C : CT} {M : MT} (l : Launch) (h : LX p s m c b L xs g ct) (hcl : Cond.constantLong RL 13 (4294967295) ∈ wsL_law) (hi : i + 6 ≤ L) (hT : T < 1000000000) (hR : Rel T C M) (hcs : cells + 21 ≤ 600000 ∧ slots + 158 ≤ 7302250) (hP : va_P g vwCl (CW ct C ++ MWd ct M) H) (hD : va_D (AL s) (CW ct C ++ MWd ct M)) (hS : va_S (AL s) s.heap H locs) (hl : lv_has ls 8 [(3, .int (nI i)), (2, .ref (j_ma M 0)), (1, .ref (k_ba C 0)), (0, .ref b)])
    (kk : ∀ (C2 : CT) (M2 : MT) (H2 : Heap) (locs2 : List Loc) (ls2 : Array Slot), Rel (T + 48) C2 M2 → va_P g vwCl (CW ct C2 ++ MWd ct M2) H2 → va_D (AL s) (CW ct C2 ++ MWd ct M2) → va_S (AL s) s.heap H2 locs2 → lv_has ls2 8 [(3, .int (nI i)), (2, .ref (j_ma M2 0)), (1, .ref (k_ba C2 0)), (0, .ref b)] → W p l e room_1 s m #[Value.ref b] below meth c H2 locs2 (cells + 21) (slots + 158) Q (F0 m 1026 ls2 [])) : W p l e room_1 s m #[Value.ref b] below meth c H locs cells slots Q (F0 m 628 ls []) := by
  obtain ⟨hx, hb, hml, hown, hts, hX, hbl, hK, hNW, hL⟩ := id h
  obtain ⟨a, M2, hM2, hc, hm⟩ := op_service l g ct hR (xs (i + 1))
  refine lv_aload_n hx hb dL_law_628 rfl (lv_at hl 2 rfl) ?_
  refine z_arg (k := 1) (ki := 1) h hS hl (by decide) (by omega) dL_law_629 dL_law_630 dL_law_631 dL_law_632 dL_law_633 ?_
  refine z_pVi (wc := CW ct C) (wr := MWd ct M) (As := [.int (xs (i + 1))]) (rest := []) ⟨hx, hb, hml, hown, hts⟩ hK hP hD hS hNW (fun _ h9 => h9) (List.Perm.refl _) (z_up (rm2 := zRc 4 21 158 95) (hc H.size) (Nat.le_of_ble_eq_true rfl) (Nat.le_of_ble_eq_true rfl) (Nat.le_of_ble_eq_true rfl) (Nat.le_of_ble_eq_true rfl)) (cwV 1 hts gL_law_X9_service rfl rfl rfl (by decide +kernel) ⟨Nat.le_of_ble_eq_true rfl, Nat.le_of_ble_eq_true rfl⟩) 0 rfl rfl rfl hl.1 rfl (Nat.le_of_ble_eq_true rfl) dL_law_634 ⟨hcs.1, hcs.2⟩ (fun u H locs hP hD hS => ?_)
  obtain ⟨C2, hba, hR2⟩ := u
  have hP : va_P g vwCl (CW ct C2 ++ MWd ct M) H := hP
  have hD : va_D (AL s) (CW ct C2 ++ MWd ct M) := hD
  refine lv_aload_n hx hb dL_law_637 rfl (lv_at hl 1 rfl) ?_
  refine z_arg (k := 1) (ki := 1) h hS hl (by decide) (by omega) dL_law_638 dL_law_639 dL_law_640 dL_law_641 dL_law_642 ?_
  refine z_pVi (wc := MWd ct M) (wr := CW ct C2) (As := [.int (xs (i + 1))]) (rest := [.int a]) ⟨hx, hb, hml, hown, hts⟩ hK hP hD hS hNW (fun _ h9 => h9) List.perm_append_comm (hm H.size) (cwV 1 hts gL_law_X10_service rfl rfl rfl (by decide +kernel) ⟨Nat.le_of_ble_eq_true rfl, Nat.le_of_ble_eq_true rfl⟩) 0 rfl rfl rfl hl.1 rfl (Nat.le_of_ble_eq_true rfl) dL_law_643 ⟨hcs.1, hcs.2⟩ (fun _ H locs hP hD hS => ?_)
  refine lv_icmp_eq (tgt := 1026) hx hb dL_law_646 (by decide) (fun _ => ?_) (fun q => absurd rfl q)
  exact kk C2 M2 H locs ls hR2 (hP.perm List.perm_append_comm) (hD.perm List.perm_append_comm) hS (by rw [hM2, hba]; exact hl)

set_option maxHeartbeats 4000000 in
set_option maxRecDepth 100000 in
theorem cs_pass {p : Program} {e : Env} {s : State} {m : MethodId} {below : List Frame} {meth : Method} {c : Code} {b L : Nat} {xs : Nat → Int32} {Q : State → Prop} {g : va_G} {ct : Nat → ClassId} {H : Heap} {locs : List Loc} {cells slots i T : Nat} {ls : Array Slot} {C : CT} {M : MT} (l : Launch) (h : LX p s m c b L xs g ct) (hcl : Cond.constantLong RL 13 (4294967295) ∈ wsL_law) (hi : i + 6 ≤ L) (hT : T < 1000000000) (hR : Rel T C M) (hcs : cells + 21 ≤ 600000 ∧ slots + 158 ≤ 7302250) (hP : va_P g vwCl (CW ct C ++ MWd ct M) H) (hD : va_D (AL s) (CW ct C ++ MWd ct M)) (hS : va_S (AL s) s.heap H locs) (hl : lv_has ls 8 [(3, .int (nI i)), (2, .ref (j_ma M 0)), (1, .ref (k_ba C 0)), (0, .ref b)])
    (kk : ∀ (C2 : CT) (M2 : MT) (H2 : Heap) (locs2 : List Loc) (ls2 : Array Slot), Rel (T + 48) C2 M2 → va_P g vwCl (CW ct C2 ++ MWd ct M2) H2 → va_D (AL s) (CW ct C2 ++ MWd ct M2) → va_S (AL s) s.heap H2 locs2 → lv_has ls2 8 [(3, .int (nI i)), (2, .ref (j_ma M2 0)), (1, .ref (k_ba C2 0)), (0, .ref b)] → W p l e room_1 s m #[Value.ref b] below meth c H2 locs2 (cells + 21) (slots + 158) Q (F0 m 1026 ls2 [])) : W p l e room_1 s m #[Value.ref b] below meth c H locs cells slots Q (F0 m 651 ls []) := by
  obtain ⟨hx, hb, hml, hown, hts, hX, hbl, hK, hNW, hL⟩ := id h
  obtain ⟨a, M2, hM2, hc, hm⟩ := op_pass l g ct hR hT (xs (i + 1))
  refine lv_aload_n hx hb dL_law_651 rfl (lv_at hl 2 rfl) ?_
  refine z_arg (k := 1) (ki := 1) h hS hl (by decide) (by omega) dL_law_652 dL_law_653 dL_law_654 dL_law_655 dL_law_656 ?_
  refine z_pVi (wc := CW ct C) (wr := MWd ct M) (As := [.int (xs (i + 1))]) (rest := []) ⟨hx, hb, hml, hown, hts⟩ hK hP hD hS hNW (fun _ h9 => h9) (List.Perm.refl _) (z_up (rm2 := zRc 5 21 158 122) (hc H.size) (Nat.le_of_ble_eq_true rfl) (Nat.le_of_ble_eq_true rfl) (Nat.le_of_ble_eq_true rfl) (Nat.le_of_ble_eq_true rfl)) (cwV 1 hts gL_law_X9_pass rfl rfl rfl (by decide +kernel) ⟨Nat.le_of_ble_eq_true rfl, Nat.le_of_ble_eq_true rfl⟩) 0 rfl rfl rfl hl.1 rfl (Nat.le_of_ble_eq_true rfl) dL_law_657 ⟨hcs.1, hcs.2⟩ (fun u H locs hP hD hS => ?_)
  obtain ⟨C2, hba, hR2⟩ := u
  have hP : va_P g vwCl (CW ct C2 ++ MWd ct M) H := hP
  have hD : va_D (AL s) (CW ct C2 ++ MWd ct M) := hD
  refine lv_aload_n hx hb dL_law_660 rfl (lv_at hl 1 rfl) ?_
  refine z_arg (k := 1) (ki := 1) h hS hl (by decide) (by omega) dL_law_661 dL_law_662 dL_law_663 dL_law_664 dL_law_665 ?_
  refine z_pVi (wc := MWd ct M) (wr := CW ct C2) (As := [.int (xs (i + 1))]) (rest := [.int a]) ⟨hx, hb, hml, hown, hts⟩ hK hP hD hS hNW (fun _ h9 => h9) List.perm_append_comm (hm H.size) (cwV 1 hts gL_law_X10_pass rfl rfl rfl (by decide +kernel) ⟨Nat.le_of_ble_eq_true rfl, Nat.le_of_ble_eq_true rfl⟩) 0 rfl rfl rfl hl.1 rfl (Nat.le_of_ble_eq_true rfl) dL_law_666 ⟨hcs.1, hcs.2⟩ (fun _ H locs hP hD hS => ?_)
  refine lv_icmp_eq (tgt := 1026) hx hb dL_law_669 (by decide) (fun _ => ?_) (fun q => absurd rfl q)
  exact kk C2 M2 H locs ls hR2 (hP.perm List.perm_append_comm) (hD.perm List.perm_append_comm) hS (by rw [hM2, hba]; exact hl)
