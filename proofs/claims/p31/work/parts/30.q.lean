/-! calls that hand on the tail -/
section ZQ
variable {p : Program} {l : Launch} {e : Env} {R : Room} {s : State} {m : MethodId} {args : Array Value} {below : List Frame} {meth : Method} {c : Code} {H : Heap} {locs : List Loc} {cells slots : Nat} {Q : State → Prop}
variable {cc : ByteArray} {pc nL : Nat} {ls : Array Slot} {rest st : List Value} {g : va_G} {A : Nat → Prop} {ct : Nat → ClassId} {ws wc wr w2 X cx wx pl : va_W} {H0 : Heap}
variable {y : MethodName} {bytes : ByteArray} {maxL n index ci N mc ms : Nat} {ret : Option FieldType} {wsC Ts : List Cond} {rm : Room} {own C : String} {b : Nat} {As : List Value} {T : u_T} {fs : List Value}
theorem z_qVi {S : Type} {rx pl1 w3 : S → va_W} {v : Int32} (S0 : CallFix p m c cc nL s args Ts own) (hK : va_K g vwCl (zT ct) s) (hP : va_P g vwCl (X ++ pl) H) (hD : va_D A (X ++ pl)) (hS : va_S A H0 H locs) (hN : zNW s) (hA : ∀ q, H0.size ≤ q → A q)
    (isC isR isB : List Nat) (hC : isC.map (fun i => X[i]?) = cx.map some) (hR : isR.map (fun i => X[i]?) = wr.map some) (hB : ∀ u, isB.map (fun i => (rx u ++ wr)[i]?) = (w3 u).map some) (hnC : va_nd (isC ++ isR) = true) (hle : X.length = cx.length + wr.length) (hle2 : ∀ u, (w3 u).length = (rx u).length + wr.length) (hnB : va_nd isB = true)
    (hM : Met l y wsC rm (va_Pc (.ref b :: As) (zW g ct (cx ++ pl) H.size)) (zEi g (fun u => rx u ++ pl1 u) v (va_A (cx ++ pl) H.size)) mc ms (va_A (cx ++ pl) H.size)) (cw : CallW R s args own C index y bytes maxL ret wsC rm mc ms n)
    (q0 : Nat) (he : (cx ++ pl)[q0]? = some (zO b ci fs)) (hc : vwCl[ci]? = some (C, T, N)) (hn : As.length = n) (hsize : ls.size = nL) (hst : st = As.reverse ++ .ref b :: rest) (hW : (rest.map fun v => v.category).sum ≤ 8) (hdg : decode cc pc = .ok (.invokevirtual index, 3)) (hf : cells + mc ≤ R.cells ∧ slots + ms ≤ R.slots)
    (kk : ∀ (u : S) (H1 : Heap) (locs1 : List Loc), va_P g vwCl (w3 u ++ pl1 u) H1 → va_D A (w3 u ++ pl1 u) → va_S A H0 H1 locs1 → W p l e R s m args below meth c H1 locs1 (cells + mc) (slots + ms) Q (F0 m (pc + 3) ls (.int v :: rest))) : W p l e R s m args below meth c H locs cells slots Q (F0 m pc ls st) := by
  have sw : ∀ (a b c : va_W), List.Perm ((a ++ b) ++ c) ((a ++ c) ++ b) := fun a b c => by
    rw [List.append_assoc, List.append_assoc]
    exact List.Perm.append_left a List.perm_append_comm
  have h1 : List.Perm X (cx ++ wr) := z_permI (isC ++ isR) hnC (by rw [List.map_append, List.map_append, hC, hR]) (by rw [List.length_append, hle])
  have h2 : ∀ u, List.Perm (rx u ++ wr) (w3 u) := fun u => z_permI isB hnB (hB u) (by rw [List.length_append, hle2])
  refine z_pVi (wc := cx ++ pl) (wr := wr) S0 hK hP hD hS hN hA ((h1.append_right pl).trans (sw _ _ _)) hM cw q0 he hc hn hsize hst hW hdg hf (fun u H1 locs1 hP1 hD1 hS1 => ?_)
  have h3 : List.Perm ((rx u ++ pl1 u) ++ wr) (w3 u ++ pl1 u) := (sw _ _ _).trans ((h2 u).append_right _)
  exact kk u H1 locs1 (hP1.perm h3) (hD1.perm h3) hS1
theorem z_qVv {S : Type} {rx pl1 w3 : S → va_W} (S0 : CallFix p m c cc nL s args Ts own) (hK : va_K g vwCl (zT ct) s) (hP : va_P g vwCl (X ++ pl) H) (hD : va_D A (X ++ pl)) (hS : va_S A H0 H locs) (hN : zNW s) (hA : ∀ q, H0.size ≤ q → A q)
    (isC isR isB : List Nat) (hC : isC.map (fun i => X[i]?) = cx.map some) (hR : isR.map (fun i => X[i]?) = wr.map some) (hB : ∀ u, isB.map (fun i => (rx u ++ wr)[i]?) = (w3 u).map some) (hnC : va_nd (isC ++ isR) = true) (hle : X.length = cx.length + wr.length) (hle2 : ∀ u, (w3 u).length = (rx u).length + wr.length) (hnB : va_nd isB = true)
    (hM : Met l y wsC rm (va_Pc (.ref b :: As) (zW g ct (cx ++ pl) H.size)) (zEv g (fun u => rx u ++ pl1 u) (va_A (cx ++ pl) H.size)) mc ms (va_A (cx ++ pl) H.size)) (cw : CallW R s args own C index y bytes maxL ret wsC rm mc ms n)
    (q0 : Nat) (he : (cx ++ pl)[q0]? = some (zO b ci fs)) (hc : vwCl[ci]? = some (C, T, N)) (hn : As.length = n) (hsize : ls.size = nL) (hst : st = As.reverse ++ .ref b :: rest) (hW : (rest.map fun v => v.category).sum ≤ 8) (hdg : decode cc pc = .ok (.invokevirtual index, 3)) (hf : cells + mc ≤ R.cells ∧ slots + ms ≤ R.slots)
    (kk : ∀ (u : S) (H1 : Heap) (locs1 : List Loc), va_P g vwCl (w3 u ++ pl1 u) H1 → va_D A (w3 u ++ pl1 u) → va_S A H0 H1 locs1 → W p l e R s m args below meth c H1 locs1 (cells + mc) (slots + ms) Q (F0 m (pc + 3) ls (rest))) : W p l e R s m args below meth c H locs cells slots Q (F0 m pc ls st) := by
  have sw : ∀ (a b c : va_W), List.Perm ((a ++ b) ++ c) ((a ++ c) ++ b) := fun a b c => by
    rw [List.append_assoc, List.append_assoc]
    exact List.Perm.append_left a List.perm_append_comm
  have h1 : List.Perm X (cx ++ wr) := z_permI (isC ++ isR) hnC (by rw [List.map_append, List.map_append, hC, hR]) (by rw [List.length_append, hle])
  have h2 : ∀ u, List.Perm (rx u ++ wr) (w3 u) := fun u => z_permI isB hnB (hB u) (by rw [List.length_append, hle2])
  refine z_pVv (wc := cx ++ pl) (wr := wr) S0 hK hP hD hS hN hA ((h1.append_right pl).trans (sw _ _ _)) hM cw q0 he hc hn hsize hst hW hdg hf (fun u H1 locs1 hP1 hD1 hS1 => ?_)
  have h3 : List.Perm ((rx u ++ pl1 u) ++ wr) (w3 u ++ pl1 u) := (sw _ _ _).trans ((h2 u).append_right _)
  exact kk u H1 locs1 (hP1.perm h3) (hD1.perm h3) hS1
end ZQ
