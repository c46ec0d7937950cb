/-! rows for compares: numbers, truth values, longs; loops; pure words -/
section ZB
variable {p : Program} {l : Launch} {e : Env} {R : Room} {s : State} {m : MethodId} {args : Array Value} {below : List Frame} {meth : Method} {c : Code} {H : Heap} {locs : List Loc} {cells slots : Nat} {Q : State → Prop}
variable {cc : ByteArray} {pc : Nat} {ls : Array Slot} {rest : List Value}
theorem z_icN_lt (hexec : p.tables.exec = Jvm.exec) (hb : c.code = cc) {x y : Nat} {off : Int} {tgt : Nat} (hx : x < 2 ^ 31) (hy : y < 2 ^ 31) (hdg : decode cc pc = .ok (.if_icmp .lt off, 3)) (ht : (pc : Int) + off = (tgt : Int)) (kt : x < y → W p l e R s m args below meth c H locs cells slots Q (F0 m tgt ls rest)) (kf : ¬ x < y → W p l e R s m args below meth c H locs cells slots Q (F0 m (pc + 3) ls rest)) : W p l e R s m args below meth c H locs cells slots Q (F0 m pc ls (.int (nI y) :: .int (nI x) :: rest)) :=
  lv_icmp_lt hexec hb hdg ht (fun h => kt ((nI_ltI hx hy).mp h)) (fun h => kf (fun q => h ((nI_ltI hx hy).mpr q)))
theorem z_icN_ge (hexec : p.tables.exec = Jvm.exec) (hb : c.code = cc) {x y : Nat} {off : Int} {tgt : Nat} (hx : x < 2 ^ 31) (hy : y < 2 ^ 31) (hdg : decode cc pc = .ok (.if_icmp .ge off, 3)) (ht : (pc : Int) + off = (tgt : Int)) (kt : ¬ x < y → W p l e R s m args below meth c H locs cells slots Q (F0 m tgt ls rest)) (kf : x < y → W p l e R s m args below meth c H locs cells slots Q (F0 m (pc + 3) ls rest)) : W p l e R s m args below meth c H locs cells slots Q (F0 m pc ls (.int (nI y) :: .int (nI x) :: rest)) :=
  lv_icmp_ge hexec hb hdg ht (fun h => kt (Nat.not_lt.mpr ((nI_leI hy hx).mp h))) (fun h => kf (Nat.lt_of_not_le (fun q => h ((nI_leI hy hx).mpr q))))
theorem z_icN_gt (hexec : p.tables.exec = Jvm.exec) (hb : c.code = cc) {x y : Nat} {off : Int} {tgt : Nat} (hx : x < 2 ^ 31) (hy : y < 2 ^ 31) (hdg : decode cc pc = .ok (.if_icmp .gt off, 3)) (ht : (pc : Int) + off = (tgt : Int)) (kt : x > y → W p l e R s m args below meth c H locs cells slots Q (F0 m tgt ls rest)) (kf : ¬ x > y → W p l e R s m args below meth c H locs cells slots Q (F0 m (pc + 3) ls rest)) : W p l e R s m args below meth c H locs cells slots Q (F0 m pc ls (.int (nI y) :: .int (nI x) :: rest)) :=
  lv_icmp_gt hexec hb hdg ht (fun h => kt ((nI_ltI hy hx).mp h)) (fun h => kf (fun q => h ((nI_ltI hy hx).mpr q)))
theorem z_icN_le (hexec : p.tables.exec = Jvm.exec) (hb : c.code = cc) {x y : Nat} {off : Int} {tgt : Nat} (hx : x < 2 ^ 31) (hy : y < 2 ^ 31) (hdg : decode cc pc = .ok (.if_icmp .le off, 3)) (ht : (pc : Int) + off = (tgt : Int)) (kt : ¬ x > y → W p l e R s m args below meth c H locs cells slots Q (F0 m tgt ls rest)) (kf : x > y → W p l e R s m args below meth c H locs cells slots Q (F0 m (pc + 3) ls rest)) : W p l e R s m args below meth c H locs cells slots Q (F0 m pc ls (.int (nI y) :: .int (nI x) :: rest)) :=
  lv_icmp_le hexec hb hdg ht (fun h => kt (Nat.not_lt.mpr ((nI_leI hx hy).mp h))) (fun h => kf (Nat.lt_of_not_le (fun q => h ((nI_leI hx hy).mpr q))))
theorem z_icN_eq (hexec : p.tables.exec = Jvm.exec) (hb : c.code = cc) {x y : Nat} {off : Int} {tgt : Nat} (hx : x < 2 ^ 31) (hy : y < 2 ^ 31) (hdg : decode cc pc = .ok (.if_icmp .eq off, 3)) (ht : (pc : Int) + off = (tgt : Int)) (kt : x = y → W p l e R s m args below meth c H locs cells slots Q (F0 m tgt ls rest)) (kf : ¬ x = y → W p l e R s m args below meth c H locs cells slots Q (F0 m (pc + 3) ls rest)) : W p l e R s m args below meth c H locs cells slots Q (F0 m pc ls (.int (nI y) :: .int (nI x) :: rest)) :=
  lv_icmp_eq hexec hb hdg ht (fun h => kt ((nI_eq hx hy).mp h)) (fun h => kf (fun q => h ((nI_eq hx hy).mpr q)))
theorem z_icN_ne (hexec : p.tables.exec = Jvm.exec) (hb : c.code = cc) {x y : Nat} {off : Int} {tgt : Nat} (hx : x < 2 ^ 31) (hy : y < 2 ^ 31) (hdg : decode cc pc = .ok (.if_icmp .ne off, 3)) (ht : (pc : Int) + off = (tgt : Int)) (kt : ¬ x = y → W p l e R s m args below meth c H locs cells slots Q (F0 m tgt ls rest)) (kf : x = y → W p l e R s m args below meth c H locs cells slots Q (F0 m (pc + 3) ls rest)) : W p l e R s m args below meth c H locs cells slots Q (F0 m pc ls (.int (nI y) :: .int (nI x) :: rest)) :=
  lv_icmp_ne hexec hb hdg ht (fun h => kt (fun q => h ((nI_eq hx hy).mpr q))) (fun h => kf ((nI_eq hx hy).mp h))
theorem z_ifN_eq (hexec : p.tables.exec = Jvm.exec) (hb : c.code = cc) {x : Nat} {off : Int} {tgt : Nat} (hx : x < 2 ^ 31) (hdg : decode cc pc = .ok (.ifCond .eq off, 3)) (ht : (pc : Int) + off = (tgt : Int)) (kt : x = 0 → W p l e R s m args below meth c H locs cells slots Q (F0 m tgt ls rest)) (kf : ¬ x = 0 → W p l e R s m args below meth c H locs cells slots Q (F0 m (pc + 3) ls rest)) : W p l e R s m args below meth c H locs cells slots Q (F0 m pc ls (.int (nI x) :: rest)) :=
  lv_if_eq hexec hb hdg ht (fun h : _ => kt ((nI_eq (b := 0) hx (by decide)).mp h)) (fun h => kf (fun q => h ((nI_eq (b := 0) hx (by decide)).mpr q)))
theorem z_ifN_ne (hexec : p.tables.exec = Jvm.exec) (hb : c.code = cc) {x : Nat} {off : Int} {tgt : Nat} (hx : x < 2 ^ 31) (hdg : decode cc pc = .ok (.ifCond .ne off, 3)) (ht : (pc : Int) + off = (tgt : Int)) (kt : ¬ x = 0 → W p l e R s m args below meth c H locs cells slots Q (F0 m tgt ls rest)) (kf : x = 0 → W p l e R s m args below meth c H locs cells slots Q (F0 m (pc + 3) ls rest)) : W p l e R s m args below meth c H locs cells slots Q (F0 m pc ls (.int (nI x) :: rest)) :=
  lv_if_ne hexec hb hdg ht (fun h : _ => kt (fun q => h ((nI_eq (b := 0) hx (by decide)).mpr q))) (fun h => kf ((nI_eq (b := 0) hx (by decide)).mp h))
theorem z_ifN_gt (hexec : p.tables.exec = Jvm.exec) (hb : c.code = cc) {x : Nat} {off : Int} {tgt : Nat} (hx : x < 2 ^ 31) (hdg : decode cc pc = .ok (.ifCond .gt off, 3)) (ht : (pc : Int) + off = (tgt : Int)) (kt : 0 < x → W p l e R s m args below meth c H locs cells slots Q (F0 m tgt ls rest)) (kf : ¬ 0 < x → W p l e R s m args below meth c H locs cells slots Q (F0 m (pc + 3) ls rest)) : W p l e R s m args below meth c H locs cells slots Q (F0 m pc ls (.int (nI x) :: rest)) :=
  lv_if_gt hexec hb hdg ht (fun h : _ => kt ((nI_ltI (a := 0) (by decide) hx).mp h)) (fun h => kf (fun q => h ((nI_ltI (a := 0) (by decide) hx).mpr q)))
theorem z_ifN_le (hexec : p.tables.exec = Jvm.exec) (hb : c.code = cc) {x : Nat} {off : Int} {tgt : Nat} (hx : x < 2 ^ 31) (hdg : decode cc pc = .ok (.ifCond .le off, 3)) (ht : (pc : Int) + off = (tgt : Int)) (kt : ¬ 0 < x → W p l e R s m args below meth c H locs cells slots Q (F0 m tgt ls rest)) (kf : 0 < x → W p l e R s m args below meth c H locs cells slots Q (F0 m (pc + 3) ls rest)) : W p l e R s m args below meth c H locs cells slots Q (F0 m pc ls (.int (nI x) :: rest)) :=
  lv_if_le hexec hb hdg ht (fun h : _ => kt (Nat.not_lt.mpr ((nI_leI (b := 0) hx (by decide)).mp h))) (fun h => kf (Nat.lt_of_not_le (fun q => h ((nI_leI (b := 0) hx (by decide)).mpr q))))
theorem z_ifN_lt (hexec : p.tables.exec = Jvm.exec) (hb : c.code = cc) {x : Nat} {off : Int} {tgt : Nat} (hx : x < 2 ^ 31) (hdg : decode cc pc = .ok (.ifCond .lt off, 3)) (ht : (pc : Int) + off = (tgt : Int)) (kf : W p l e R s m args below meth c H locs cells slots Q (F0 m (pc + 3) ls rest)) : W p l e R s m args below meth c H locs cells slots Q (F0 m pc ls (.int (nI x) :: rest)) :=
  lv_if_lt hexec hb hdg ht (fun h => absurd h (nI_pos hx)) (fun _ => kf)
theorem z_ifN_ge (hexec : p.tables.exec = Jvm.exec) (hb : c.code = cc) {x : Nat} {off : Int} {tgt : Nat} (hx : x < 2 ^ 31) (hdg : decode cc pc = .ok (.ifCond .ge off, 3)) (ht : (pc : Int) + off = (tgt : Int)) (kt : W p l e R s m args below meth c H locs cells slots Q (F0 m tgt ls rest)) : W p l e R s m args below meth c H locs cells slots Q (F0 m pc ls (.int (nI x) :: rest)) :=
  lv_if_ge hexec hb hdg ht (fun _ => kt) (fun h => absurd (nI_pos' hx) h)
theorem z_bif_eq (hexec : p.tables.exec = Jvm.exec) (hb : c.code = cc) {P : Prop} {dP : Decidable P} {off : Int} {tgt : Nat} (hdg : decode cc pc = .ok (.ifCond .eq off, 3)) (ht : (pc : Int) + off = (tgt : Int)) (kt : ¬ P → W p l e R s m args below meth c H locs cells slots Q (F0 m tgt ls rest)) (kf : P → W p l e R s m args below meth c H locs cells slots Q (F0 m (pc + 3) ls rest)) : W p l e R s m args below meth c H locs cells slots Q (F0 m pc ls (.int (@ite Int32 P dP 1 0) :: rest)) := by
  by_cases h : P
  · rw [if_pos h]
    exact lv_if_eq hexec hb hdg ht (fun q => absurd q (by decide)) (fun _ => kf h)
  · rw [if_neg h]
    exact lv_if_eq hexec hb hdg ht (fun _ => kt h) (fun q => absurd rfl q)
theorem z_bif_ne (hexec : p.tables.exec = Jvm.exec) (hb : c.code = cc) {P : Prop} {dP : Decidable P} {off : Int} {tgt : Nat} (hdg : decode cc pc = .ok (.ifCond .ne off, 3)) (ht : (pc : Int) + off = (tgt : Int)) (kt : P → W p l e R s m args below meth c H locs cells slots Q (F0 m tgt ls rest)) (kf : ¬ P → W p l e R s m args below meth c H locs cells slots Q (F0 m (pc + 3) ls rest)) : W p l e R s m args below meth c H locs cells slots Q (F0 m pc ls (.int (@ite Int32 P dP 1 0) :: rest)) := by
  by_cases h : P
  · rw [if_pos h]
    exact lv_if_ne hexec hb hdg ht (fun _ => kt h) (fun q => absurd q (by decide))
  · rw [if_neg h]
    exact lv_if_ne hexec hb hdg ht (fun q => absurd rfl q) (fun _ => kf h)
theorem z_narB {P : Prop} {dP : Decidable P} : narrow .boolean (.int (@ite Int32 P dP 1 0)) = .int (@ite Int32 P dP 1 0) := by
  by_cases h : P
  · rw [if_pos h]; rfl
  · rw [if_neg h]; rfl
theorem z_lif_lt (hexec : p.tables.exec = Jvm.exec) (hb : c.code = cc) {x y : Int64} {off : Int} {tgt : Nat} (hdg0 : decode cc pc = .ok (.lcmp, 1)) (hdg : decode cc (pc + 1) = .ok (.ifCond .lt off, 3)) (ht : ((pc + 1 : Nat) : Int) + off = (tgt : Int)) (kt : x < y → W p l e R s m args below meth c H locs cells slots Q (F0 m tgt ls rest)) (kf : ¬ x < y → W p l e R s m args below meth c H locs cells slots Q (F0 m (pc + 4) ls rest)) : W p l e R s m args below meth c H locs cells slots Q (F0 m pc ls (.long y :: .long x :: rest)) :=
  W.lcmp hexec hb hdg0 (lv_if_lt hexec hb hdg ht (fun h => kt ((lg_cmp_lt x y).mp h)) (fun h => kf (fun q => h ((lg_cmp_lt x y).mpr q))))
theorem z_lif_ge (hexec : p.tables.exec = Jvm.exec) (hb : c.code = cc) {x y : Int64} {off : Int} {tgt : Nat} (hdg0 : decode cc pc = .ok (.lcmp, 1)) (hdg : decode cc (pc + 1) = .ok (.ifCond .ge off, 3)) (ht : ((pc + 1 : Nat) : Int) + off = (tgt : Int)) (kt : y ≤ x → W p l e R s m args below meth c H locs cells slots Q (F0 m tgt ls rest)) (kf : ¬ y ≤ x → W p l e R s m args below meth c H locs cells slots Q (F0 m (pc + 4) ls rest)) : W p l e R s m args below meth c H locs cells slots Q (F0 m pc ls (.long y :: .long x :: rest)) :=
  W.lcmp hexec hb hdg0 (lv_if_ge hexec hb hdg ht (fun h => kt ((lg_cmp_ge x y).mp h)) (fun h => kf (fun q => h ((lg_cmp_ge x y).mpr q))))
theorem z_lif_gt (hexec : p.tables.exec = Jvm.exec) (hb : c.code = cc) {x y : Int64} {off : Int} {tgt : Nat} (hdg0 : decode cc pc = .ok (.lcmp, 1)) (hdg : decode cc (pc + 1) = .ok (.ifCond .gt off, 3)) (ht : ((pc + 1 : Nat) : Int) + off = (tgt : Int)) (kt : y < x → W p l e R s m args below meth c H locs cells slots Q (F0 m tgt ls rest)) (kf : ¬ y < x → W p l e R s m args below meth c H locs cells slots Q (F0 m (pc + 4) ls rest)) : W p l e R s m args below meth c H locs cells slots Q (F0 m pc ls (.long y :: .long x :: rest)) :=
  W.lcmp hexec hb hdg0 (lv_if_gt hexec hb hdg ht (fun h => kt ((lg_cmp_gt x y).mp h)) (fun h => kf (fun q => h ((lg_cmp_gt x y).mpr q))))
theorem z_lif_le (hexec : p.tables.exec = Jvm.exec) (hb : c.code = cc) {x y : Int64} {off : Int} {tgt : Nat} (hdg0 : decode cc pc = .ok (.lcmp, 1)) (hdg : decode cc (pc + 1) = .ok (.ifCond .le off, 3)) (ht : ((pc + 1 : Nat) : Int) + off = (tgt : Int)) (kt : x ≤ y → W p l e R s m args below meth c H locs cells slots Q (F0 m tgt ls rest)) (kf : ¬ x ≤ y → W p l e R s m args below meth c H locs cells slots Q (F0 m (pc + 4) ls rest)) : W p l e R s m args below meth c H locs cells slots Q (F0 m pc ls (.long y :: .long x :: rest)) :=
  W.lcmp hexec hb hdg0 (lv_if_le hexec hb hdg ht (fun h => kt ((lg_cmp_le x y).mp h)) (fun h => kf (fun q => h ((lg_cmp_le x y).mpr q))))
theorem z_lif_eq (hexec : p.tables.exec = Jvm.exec) (hb : c.code = cc) {x y : Int64} {off : Int} {tgt : Nat} (hdg0 : decode cc pc = .ok (.lcmp, 1)) (hdg : decode cc (pc + 1) = .ok (.ifCond .eq off, 3)) (ht : ((pc + 1 : Nat) : Int) + off = (tgt : Int)) (kt : x = y → W p l e R s m args below meth c H locs cells slots Q (F0 m tgt ls rest)) (kf : ¬ x = y → W p l e R s m args below meth c H locs cells slots Q (F0 m (pc + 4) ls rest)) : W p l e R s m args below meth c H locs cells slots Q (F0 m pc ls (.long y :: .long x :: rest)) :=
  W.lcmp hexec hb hdg0 (lv_if_eq hexec hb hdg ht (fun h => kt ((lg_cmp_eq x y).mp h)) (fun h => kf (fun q => h ((lg_cmp_eq x y).mpr q))))
theorem z_lif_ne (hexec : p.tables.exec = Jvm.exec) (hb : c.code = cc) {x y : Int64} {off : Int} {tgt : Nat} (hdg0 : decode cc pc = .ok (.lcmp, 1)) (hdg : decode cc (pc + 1) = .ok (.ifCond .ne off, 3)) (ht : ((pc + 1 : Nat) : Int) + off = (tgt : Int)) (kt : ¬ x = y → W p l e R s m args below meth c H locs cells slots Q (F0 m tgt ls rest)) (kf : x = y → W p l e R s m args below meth c H locs cells slots Q (F0 m (pc + 4) ls rest)) : W p l e R s m args below meth c H locs cells slots Q (F0 m pc ls (.long y :: .long x :: rest)) :=
  W.lcmp hexec hb hdg0 (lv_if_ne hexec hb hdg ht (fun h => kt (fun q => h ((lg_cmp_eq x y).mpr q))) (fun h => kf ((lg_cmp_eq x y).mp h)))
/-- a loop that counts: what holds at its head at the k-th time, k up to n -/
theorem z_loop {st : List Value} (n : Nat) (I : Nat → Heap → List Loc → Array Slot → Prop) (hI : I 0 H locs ls)
    (body : ∀ (k : Nat) (H : Heap) (locs : List Loc) (ls : Array Slot), k ≤ n → I k H locs ls → (∀ (H : Heap) (locs : List Loc) (ls : Array Slot), k < n → I (k + 1) H locs ls → W p l e R s m args below meth c H locs cells slots Q (F0 m pc ls st)) → W p l e R s m args below meth c H locs cells slots Q (F0 m pc ls st)) : W p l e R s m args below meth c H locs cells slots Q (F0 m pc ls st) := by
  have key : ∀ (d k : Nat) (H : Heap) (locs : List Loc) (ls : Array Slot), k + d = n → I k H locs ls → W p l e R s m args below meth c H locs cells slots Q (F0 m pc ls st) := by
    intro d
    induction d with
    | zero => exact fun k H locs ls hk hi => body k H locs ls (by omega) hi (fun _ _ _ h _ => absurd h (by omega))
    | succ d ih => exact fun k H locs ls hk hi => body k H locs ls (by omega) hi (fun H locs ls _ h => ih (k + 1) H locs ls (by omega) h)
  exact key n 0 H locs ls (by omega) hI
end ZB
/-- a loop's number: f k of the k-th time -/
def lp {α : Type} (f : Nat → α → α) : Nat → α → α
  | 0, x => x
  | k + 1, x => f k (lp f k x)
theorem lp_0 {α : Type} (f : Nat → α → α) (x : α) : lp f 0 x = x := rfl
theorem lp_s {α : Type} (f : Nat → α → α) (k : Nat) (x : α) : lp f (k + 1) x = f k (lp f k x) := rfl
theorem lp_rel {α β : Type} (r : Nat → α → β → Prop) {f : Nat → α → α} {f2 : Nat → β → β} {x : α} {y : β} (n : Nat) (h0 : r 0 x y) (hs : ∀ k, k < n → ∀ a b, r k a b → r (k + 1) (f k a) (f2 k b)) : r n (lp f n x) (lp f2 n y) := by
  induction n with
  | zero => exact h0
  | succ n ih => exact hs n (Nat.lt_succ_self n) _ _ (ih (fun k hk => hs k (Nat.lt_succ_of_lt hk)))
theorem lp_congr {α : Type} {f f2 : Nat → α → α} {x : α} (n : Nat) (h : ∀ k, k < n → ∀ a, f k a = f2 k a) : lp f n x = lp f2 n x := by
  induction n with
  | zero => rfl
  | succ n ih => rw [lp_s, lp_s, ih (fun k hk => h k (Nat.lt_succ_of_lt hk)), h n (Nat.lt_succ_self n)]
/-- the first number below n of which P holds, else n -/
noncomputable def fst_ (P : Nat → Prop) (n : Nat) : Nat := @lp Nat (fun k r => @ite Nat (r = k ∧ ¬ P k) (Classical.propDecidable _) (k + 1) r) n 0
theorem fst_none {P : Nat → Prop} (n : Nat) (h : ∀ j, j < n → ¬ P j) : fst_ P n = n := by
  unfold fst_
  induction n with
  | zero => rfl
  | succ n ih =>
    rw [lp_s, ih (fun j hj => h j (Nat.lt_succ_of_lt hj)), if_pos ⟨rfl, h n (Nat.lt_succ_self n)⟩]
theorem fst_some {P : Nat → Prop} {k n : Nat} (hk : k < n) (h : ∀ j, j < k → ¬ P j) (hp : P k) : fst_ P n = k := by
  obtain ⟨d, rfl⟩ : ∃ d, n = k + 1 + d := ⟨n - (k + 1), by omega⟩
  clear hk
  induction d with
  | zero =>
    show fst_ P (k + 1) = k
    have h0 := fst_none k h
    unfold fst_ at h0 ⊢
    rw [lp_s, h0, if_neg (fun q => q.2 hp)]
  | succ d ih =>
    unfold fst_ at ih ⊢
    show lp _ ((k + 1 + d) + 1) 0 = k
    rw [lp_s, ih, if_neg (fun q => by omega)]
theorem fst_le (P : Nat → Prop) (n : Nat) : fst_ P n ≤ n := by
  by_cases h : ∃ k, k < n ∧ P k
  · obtain ⟨k, hk, h1, h2⟩ : ∃ k, k < n ∧ P k ∧ ∀ j, j < k → ¬ (j < n ∧ P j) := by
      obtain ⟨k, h1, h2⟩ := pk_least (fun k => k < n ∧ P k) h
      exact ⟨k, h1.1, h1.2, h2⟩
    rw [fst_some hk (fun j hj q => h2 j hj ⟨by omega, q⟩) h1]
    exact Nat.le_of_lt hk
  · rw [fst_none n (fun j hj q => h ⟨j, hj, q⟩)]
    exact Nat.le_refl n
theorem upd_at {f : Nat → Int32} {k : Nat} {x : Int32} (j : Nat) : upd f k x j = if j = k then x else f j := rfl
theorem updL_at {f : Nat → Int64} {k : Nat} {x : Int64} (j : Nat) : vp_updL f k x j = if j = k then x else f j := rfl

/-! whole arrays copied -/
section ZCP
variable {p : Program} {l : Launch} {e : Env} {R : Room} {s : State} {m : MethodId} {args : Array Value} {below : List Frame} {meth : Method} {c : Code} {H : Heap} {locs : List Loc} {cells slots : Nat} {Q : State → Prop}
variable {cc : ByteArray} {pc : Nat} {ls : Array Slot} {rest : List Value} {g : va_G} {A : Nat → Prop} {a a0 : Nat} {ct : Nat → ClassId} {ws : va_W} {H0 : Heap}
theorem z_arrV {cA : ClassId} {N : Nat} {f h : Nat → Value} (e : ∀ k, k < N → f k = h k) : arrV cA N f = arrV cA N h := by
  have : (List.range N).map f = (List.range N).map h := List.map_congr_left (fun k hk => e k (List.mem_range.mp hk))
  simp only [arrV]
  first | rw [this] | (congr 1; simp [this]) | (congr 1; apply Array.ext <;> simp_all)
theorem z_copyI (hexec : p.tables.exec = Jvm.exec) (hb : c.code = cc) (hml : c.maxLocals = ls.size) {own : String} {index : Nat} (hown : s.vm.findClass own = some m.cls) (hlink : (Cond.methodLink own index arraycopyName).before args s = true) (hnat : (Cond.native arraycopyName).before args s = true) (hstat : (Cond.static arraycopyName).before args s = true) (hini : (Cond.initialized "java/lang/System").before args s = true)
    (hK : va_K g vwCl (zT ct) s) (hP : va_P g vwCl ws H) (hD : va_D A ws) (hS : va_S A H0 H locs) (q0 q1 : Nat) {N : Nat} {f h : Nat → Int32} (ha0 : ws[q0]? = some (zI ct a0 N f)) (ha1 : ws[q1]? = some (zI ct a N h)) {n : Int32} (hn : ¬ n < 0) (hN : n.toNatClampNeg = N)
    (hframes : 1 ≤ R.frames) (hlocals : (rest.map fun v => v.category).sum + (nativeFrameWords "java/lang/System" "arraycopy" 5 + 11) ≤ R.locals) (hdg : decode cc pc = .ok (.invokestatic index, 3))
    (kk : ∀ (H1 : Heap) (locs1 : List Loc), va_P g vwCl (ws.set q1 (zI ct a N f)) H1 → va_D A (ws.set q1 (zI ct a N f)) → va_S A H0 H1 locs1 → W p l e R s m args below meth c H1 locs1 cells slots Q (F0 m (pc + 3) ls rest)) : W p l e R s m args below meth c H locs cells slots Q (F0 m pc ls (.int n :: .int 0 :: .ref a :: .int 0 :: .ref a0 :: rest)) := by
  refine va_copyi hexec hb hml hown hlink hnat hstat hini hK hP hD hS q0 q1 0 0 ha0 ha1 rfl rfl rfl (by decide) (by decide) hn (by rw [hN, show (0 : Int32).toNatClampNeg = 0 from rfl]; omega) (by rw [hN, show (0 : Int32).toNatClampNeg = 0 from rfl]; omega) (fun i hi => rfl) hframes hlocals hdg (fun H1 locs1 hP1 hD1 hS1 => ?_)
  refine kk H1 locs1 (fun k q hk => ?_) (z_same hD1 (by simp [List.map_set])) hS1
  by_cases hkq : k = q1
  · subst hkq
    have hl := (List.getElem?_eq_some_iff.mp ha1).1
    rw [List.getElem?_set_self hl] at hk
    cases hk
    have h2 := hP1 k _ (by rw [List.getElem?_set_self hl])
    have h3 : H1[a]? = some (vp_cell _ _) := h2
    show H1[a]? = some (vp_cell _ _)
    rw [h3]
    congr 1
    rw [vp_cell_i, vp_cell_i]
    exact z_arrV (fun j hj => by rw [hN, show (0 : Int32).toNatClampNeg = 0 from rfl, pk_cpy_in (Nat.zero_le j) (by omega)]; simp)
  · have h1 : (ws.set q1 (zI ct a N f))[k]? = (ws.set q1 (a, (.inl (ct 0, N, .inl f) : va_E)))[k]? := rfl
    rw [List.getElem?_set_ne (Ne.symm hkq)] at hk
    exact hP1 k q (by rw [List.getElem?_set_ne (Ne.symm hkq)]; exact hk)
theorem z_copyL (hexec : p.tables.exec = Jvm.exec) (hb : c.code = cc) (hml : c.maxLocals = ls.size) {own : String} {index : Nat} (hown : s.vm.findClass own = some m.cls) (hlink : (Cond.methodLink own index arraycopyName).before args s = true) (hnat : (Cond.native arraycopyName).before args s = true) (hstat : (Cond.static arraycopyName).before args s = true) (hini : (Cond.initialized "java/lang/System").before args s = true)
    (hK : va_K g vwCl (zT ct) s) (hP : va_P g vwCl ws H) (hD : va_D A ws) (hS : va_S A H0 H locs) (q0 q1 : Nat) {N : Nat} {f h : Nat → Int64} (ha0 : ws[q0]? = some (zL ct a0 N f)) (ha1 : ws[q1]? = some (zL ct a N h)) {n : Int32} (hn : ¬ n < 0) (hN : n.toNatClampNeg = N)
    (hframes : 1 ≤ R.frames) (hlocals : (rest.map fun v => v.category).sum + (nativeFrameWords "java/lang/System" "arraycopy" 5 + 11) ≤ R.locals) (hdg : decode cc pc = .ok (.invokestatic index, 3))
    (kk : ∀ (H1 : Heap) (locs1 : List Loc), va_P g vwCl (ws.set q1 (zL ct a N f)) H1 → va_D A (ws.set q1 (zL ct a N f)) → va_S A H0 H1 locs1 → W p l e R s m args below meth c H1 locs1 cells slots Q (F0 m (pc + 3) ls rest)) : W p l e R s m args below meth c H locs cells slots Q (F0 m pc ls (.int n :: .int 0 :: .ref a :: .int 0 :: .ref a0 :: rest)) := by
  refine va_copyl hexec hb hml hown hlink hnat hstat hini hK hP hD hS q0 q1 1 1 ha0 ha1 rfl rfl rfl (by decide) (by decide) hn (by rw [hN, show (0 : Int32).toNatClampNeg = 0 from rfl]; omega) (by rw [hN, show (0 : Int32).toNatClampNeg = 0 from rfl]; omega) (fun i hi => rfl) hframes hlocals hdg (fun H1 locs1 hP1 hD1 hS1 => ?_)
  refine kk H1 locs1 (fun k q hk => ?_) (z_same hD1 (by simp [List.map_set])) hS1
  by_cases hkq : k = q1
  · subst hkq
    have hl := (List.getElem?_eq_some_iff.mp ha1).1
    rw [List.getElem?_set_self hl] at hk
    cases hk
    have h2 := hP1 k _ (by rw [List.getElem?_set_self hl])
    have h3 : H1[a]? = some (vp_cell _ _) := h2
    show H1[a]? = some (vp_cell _ _)
    rw [h3]
    congr 1
    rw [vp_cell_l, vp_cell_l]
    exact z_arrV (fun j hj => by rw [hN, show (0 : Int32).toNatClampNeg = 0 from rfl, pk_cpy_in (Nat.zero_le j) (by omega)]; simp)
  · have h1 : (ws.set q1 (zL ct a N f))[k]? = (ws.set q1 (a, (.inl (ct 1, N, .inr (.inl f)) : va_E)))[k]? := rfl
    rw [List.getElem?_set_ne (Ne.symm hkq)] at hk
    exact hP1 k q (by rw [List.getElem?_set_ne (Ne.symm hkq)]; exact hk)
theorem z_copyZ (hexec : p.tables.exec = Jvm.exec) (hb : c.code = cc) (hml : c.maxLocals = ls.size) {own : String} {index : Nat} (hown : s.vm.findClass own = some m.cls) (hlink : (Cond.methodLink own index arraycopyName).before args s = true) (hnat : (Cond.native arraycopyName).before args s = true) (hstat : (Cond.static arraycopyName).before args s = true) (hini : (Cond.initialized "java/lang/System").before args s = true)
    (hK : va_K g vwCl (zT ct) s) (hP : va_P g vwCl ws H) (hD : va_D A ws) (hS : va_S A H0 H locs) (q0 q1 : Nat) {N : Nat} {f h : Nat → Int32} (ha0 : ws[q0]? = some (zZ ct a0 N f)) (ha1 : ws[q1]? = some (zZ ct a N h)) {n : Int32} (hn : ¬ n < 0) (hN : n.toNatClampNeg = N) (hz : ∀ i, i < N → f i = 0 ∨ f i = 1)
    (hframes : 1 ≤ R.frames) (hlocals : (rest.map fun v => v.category).sum + (nativeFrameWords "java/lang/System" "arraycopy" 5 + 11) ≤ R.locals) (hdg : decode cc pc = .ok (.invokestatic index, 3))
    (kk : ∀ (H1 : Heap) (locs1 : List Loc), va_P g vwCl (ws.set q1 (zZ ct a N f)) H1 → va_D A (ws.set q1 (zZ ct a N f)) → va_S A H0 H1 locs1 → W p l e R s m args below meth c H1 locs1 cells slots Q (F0 m (pc + 3) ls rest)) : W p l e R s m args below meth c H locs cells slots Q (F0 m pc ls (.int n :: .int 0 :: .ref a :: .int 0 :: .ref a0 :: rest)) := by
  refine va_copyi hexec hb hml hown hlink hnat hstat hini hK hP hD hS q0 q1 2 2 ha0 ha1 rfl rfl rfl (by decide) (by decide) hn (by rw [hN, show (0 : Int32).toNatClampNeg = 0 from rfl]; omega) (by rw [hN, show (0 : Int32).toNatClampNeg = 0 from rfl]; omega) (fun i hi => by rcases hz ((0 : Int32).toNatClampNeg + i) (by rw [hN] at hi; rw [show (0 : Int32).toNatClampNeg = 0 from rfl]; omega) with q | q <;> rw [q] <;> rfl) hframes hlocals hdg (fun H1 locs1 hP1 hD1 hS1 => ?_)
  refine kk H1 locs1 (fun k q hk => ?_) (z_same hD1 (by simp [List.map_set])) hS1
  by_cases hkq : k = q1
  · subst hkq
    have hl := (List.getElem?_eq_some_iff.mp ha1).1
    rw [List.getElem?_set_self hl] at hk
    cases hk
    have h2 := hP1 k _ (by rw [List.getElem?_set_self hl])
    have h3 : H1[a]? = some (vp_cell _ _) := h2
    show H1[a]? = some (vp_cell _ _)
    rw [h3]
    congr 1
    rw [vp_cell_i, vp_cell_i]
    exact z_arrV (fun j hj => by rw [hN, show (0 : Int32).toNatClampNeg = 0 from rfl, pk_cpy_in (Nat.zero_le j) (by omega)]; simp)
  · have h1 : (ws.set q1 (zZ ct a N f))[k]? = (ws.set q1 (a, (.inl (ct 2, N, .inl f) : va_E)))[k]? := rfl
    rw [List.getElem?_set_ne (Ne.symm hkq)] at hk
    exact hP1 k q (by rw [List.getElem?_set_ne (Ne.symm hkq)]; exact hk)
theorem z_copyD (hexec : p.tables.exec = Jvm.exec) (hb : c.code = cc) (hml : c.maxLocals = ls.size) {own : String} {index : Nat} (hown : s.vm.findClass own = some m.cls) (hlink : (Cond.methodLink own index arraycopyName).before args s = true) (hnat : (Cond.native arraycopyName).before args s = true) (hstat : (Cond.static arraycopyName).before args s = true) (hini : (Cond.initialized "java/lang/System").before args s = true)
    (hK : va_K g vwCl (zT ct) s) (hP : va_P g vwCl ws H) (hD : va_D A ws) (hS : va_S A H0 H locs) (q0 q1 : Nat) {N : Nat} {f h : Nat → UInt64} (ha0 : ws[q0]? = some (zD ct a0 N f)) (ha1 : ws[q1]? = some (zD ct a N h)) {n : Int32} (hn : ¬ n < 0) (hN : n.toNatClampNeg = N)
    (hframes : 1 ≤ R.frames) (hlocals : (rest.map fun v => v.category).sum + (nativeFrameWords "java/lang/System" "arraycopy" 5 + 11) ≤ R.locals) (hdg : decode cc pc = .ok (.invokestatic index, 3))
    (kk : ∀ (H1 : Heap) (locs1 : List Loc), va_P g vwCl (ws.set q1 (zD ct a N f)) H1 → va_D A (ws.set q1 (zD ct a N f)) → va_S A H0 H1 locs1 → W p l e R s m args below meth c H1 locs1 cells slots Q (F0 m (pc + 3) ls rest)) : W p l e R s m args below meth c H locs cells slots Q (F0 m pc ls (.int n :: .int 0 :: .ref a :: .int 0 :: .ref a0 :: rest)) := by
  refine va_copyd hexec hb hml hown hlink hnat hstat hini hK hP hD hS q0 q1 4 4 ha0 ha1 rfl rfl rfl (by decide) (by decide) hn (by rw [hN, show (0 : Int32).toNatClampNeg = 0 from rfl]; omega) (by rw [hN, show (0 : Int32).toNatClampNeg = 0 from rfl]; omega) (fun i hi => rfl) hframes hlocals hdg (fun H1 locs1 hP1 hD1 hS1 => ?_)
  refine kk H1 locs1 (fun k q hk => ?_) (z_same hD1 (by simp [List.map_set])) hS1
  by_cases hkq : k = q1
  · subst hkq
    have hl := (List.getElem?_eq_some_iff.mp ha1).1
    rw [List.getElem?_set_self hl] at hk
    cases hk
    have h2 := hP1 k _ (by rw [List.getElem?_set_self hl])
    have h3 : H1[a]? = some (vp_cell _ _) := h2
    show H1[a]? = some (vp_cell _ _)
    rw [h3]
    congr 1
    rw [vp_cell_d, vp_cell_d]
    exact z_arrV (fun j hj => by rw [hN, show (0 : Int32).toNatClampNeg = 0 from rfl, pk_cpy_in (Nat.zero_le j) (by omega)]; simp)
  · have h1 : (ws.set q1 (zD ct a N f))[k]? = (ws.set q1 (a, (.inl (ct 4, N, .inr (.inr (.inr (.inl f)))) : va_E)))[k]? := rfl
    rw [List.getElem?_set_ne (Ne.symm hkq)] at hk
    exact hP1 k q (by rw [List.getElem?_set_ne (Ne.symm hkq)]; exact hk)
theorem z_copyE (hexec : p.tables.exec = Jvm.exec) (hb : c.code = cc) (hml : c.maxLocals = ls.size) {own : String} {index : Nat} (hown : s.vm.findClass own = some m.cls) (hlink : (Cond.methodLink own index arraycopyName).before args s = true) (hnat : (Cond.native arraycopyName).before args s = true) (hstat : (Cond.static arraycopyName).before args s = true) (hini : (Cond.initialized "java/lang/System").before args s = true)
    (hK : va_K g vwCl (zT ct) s) (hP : va_P g vwCl ws H) (hD : va_D A ws) (hS : va_S A H0 H locs) (q0 q1 : Nat) {N : Nat} {f h : Nat → Int64} (ha0 : ws[q0]? = some (zE ct a0 N f)) (ha1 : ws[q1]? = some (zE ct a N h)) {n : Int32} (hn : ¬ n < 0) (hN : n.toNatClampNeg = N)
    (hframes : 1 ≤ R.frames) (hlocals : (rest.map fun v => v.category).sum + (nativeFrameWords "java/lang/System" "arraycopy" 5 + 11) ≤ R.locals) (hdg : decode cc pc = .ok (.invokestatic index, 3))
    (kk : ∀ (H1 : Heap) (locs1 : List Loc), va_P g vwCl (ws.set q1 (zE ct a N f)) H1 → va_D A (ws.set q1 (zE ct a N f)) → va_S A H0 H1 locs1 → W p l e R s m args below meth c H1 locs1 cells slots Q (F0 m (pc + 3) ls rest)) : W p l e R s m args below meth c H locs cells slots Q (F0 m pc ls (.int n :: .int 0 :: .ref a :: .int 0 :: .ref a0 :: rest)) :=
  z_copyD (f := fun i => (f i).toUInt64) (h := fun i => (h i).toUInt64) hexec hb hml hown hlink hnat hstat hini hK hP hD hS q0 q1 ha0 ha1 hn hN hframes hlocals hdg kk
end ZCP
