/-! long compares of numbers; copies cell by cell -/
section ZLN
variable {p : Program} {l : Launch} {e : Env} {R : Room} {s : State} {m : MethodId} {args : Array Value} {below : List Frame} {meth : Method} {c : Code} {H : Heap} {locs : List Loc} {cells slots : Nat} {Q : State → Prop}
variable {cc : ByteArray} {pc : Nat} {ls : Array Slot} {rest : List Value}
theorem z_lcN_lt (hexec : p.tables.exec = Jvm.exec) (hb : c.code = cc) {x y : Nat} {off : Int} {tgt : Nat} (hx : x < 2 ^ 31) (hy : y < 2 ^ 31) (hdg0 : decode cc pc = .ok (.lcmp, 1)) (hdg : decode cc (pc + 1) = .ok (.ifCond .lt off, 3)) (ht : ((pc + 1 : Nat) : Int) + off = (tgt : Int)) (kt : x < y → W p l e R s m args below meth c H locs cells slots Q (F0 m tgt ls rest)) (kf : ¬ x < y → W p l e R s m args below meth c H locs cells slots Q (F0 m (pc + 4) ls rest)) : W p l e R s m args below meth c H locs cells slots Q (F0 m pc ls (.long (lN y) :: .long (lN x) :: rest)) :=
  z_lif_lt hexec hb hdg0 hdg ht (fun h => kt ((lN_lt hx hy).mp h)) (fun h => kf (fun q => h ((lN_lt hx hy).mpr q)))
theorem z_lcN_ge (hexec : p.tables.exec = Jvm.exec) (hb : c.code = cc) {x y : Nat} {off : Int} {tgt : Nat} (hx : x < 2 ^ 31) (hy : y < 2 ^ 31) (hdg0 : decode cc pc = .ok (.lcmp, 1)) (hdg : decode cc (pc + 1) = .ok (.ifCond .ge off, 3)) (ht : ((pc + 1 : Nat) : Int) + off = (tgt : Int)) (kt : ¬ x < y → W p l e R s m args below meth c H locs cells slots Q (F0 m tgt ls rest)) (kf : x < y → W p l e R s m args below meth c H locs cells slots Q (F0 m (pc + 4) ls rest)) : W p l e R s m args below meth c H locs cells slots Q (F0 m pc ls (.long (lN y) :: .long (lN x) :: rest)) :=
  z_lif_ge hexec hb hdg0 hdg ht (fun h => kt (Nat.not_lt.mpr ((lN_le hy hx).mp h))) (fun h => kf (Nat.lt_of_not_le (fun q => h ((lN_le hy hx).mpr q))))
theorem z_lcN_gt (hexec : p.tables.exec = Jvm.exec) (hb : c.code = cc) {x y : Nat} {off : Int} {tgt : Nat} (hx : x < 2 ^ 31) (hy : y < 2 ^ 31) (hdg0 : decode cc pc = .ok (.lcmp, 1)) (hdg : decode cc (pc + 1) = .ok (.ifCond .gt off, 3)) (ht : ((pc + 1 : Nat) : Int) + off = (tgt : Int)) (kt : x > y → W p l e R s m args below meth c H locs cells slots Q (F0 m tgt ls rest)) (kf : ¬ x > y → W p l e R s m args below meth c H locs cells slots Q (F0 m (pc + 4) ls rest)) : W p l e R s m args below meth c H locs cells slots Q (F0 m pc ls (.long (lN y) :: .long (lN x) :: rest)) :=
  z_lif_gt hexec hb hdg0 hdg ht (fun h => kt ((lN_lt hy hx).mp h)) (fun h => kf (fun q => h ((lN_lt hy hx).mpr q)))
theorem z_lcN_le (hexec : p.tables.exec = Jvm.exec) (hb : c.code = cc) {x y : Nat} {off : Int} {tgt : Nat} (hx : x < 2 ^ 31) (hy : y < 2 ^ 31) (hdg0 : decode cc pc = .ok (.lcmp, 1)) (hdg : decode cc (pc + 1) = .ok (.ifCond .le off, 3)) (ht : ((pc + 1 : Nat) : Int) + off = (tgt : Int)) (kt : ¬ x > y → W p l e R s m args below meth c H locs cells slots Q (F0 m tgt ls rest)) (kf : x > y → W p l e R s m args below meth c H locs cells slots Q (F0 m (pc + 4) ls rest)) : W p l e R s m args below meth c H locs cells slots Q (F0 m pc ls (.long (lN y) :: .long (lN x) :: rest)) :=
  z_lif_le hexec hb hdg0 hdg ht (fun h => kt (Nat.not_lt.mpr ((lN_le hx hy).mp h))) (fun h => kf (Nat.lt_of_not_le (fun q => h ((lN_le hx hy).mpr q))))
theorem z_lcN_eq (hexec : p.tables.exec = Jvm.exec) (hb : c.code = cc) {x y : Nat} {off : Int} {tgt : Nat} (hx : x < 2 ^ 31) (hy : y < 2 ^ 31) (hdg0 : decode cc pc = .ok (.lcmp, 1)) (hdg : decode cc (pc + 1) = .ok (.ifCond .eq off, 3)) (ht : ((pc + 1 : Nat) : Int) + off = (tgt : Int)) (kt : x = y → W p l e R s m args below meth c H locs cells slots Q (F0 m tgt ls rest)) (kf : ¬ x = y → W p l e R s m args below meth c H locs cells slots Q (F0 m (pc + 4) ls rest)) : W p l e R s m args below meth c H locs cells slots Q (F0 m pc ls (.long (lN y) :: .long (lN x) :: rest)) :=
  z_lif_eq hexec hb hdg0 hdg ht (fun h => kt ((lN_eq hx hy).mp h)) (fun h => kf (fun q => h ((lN_eq hx hy).mpr q)))
theorem z_lcN_ne (hexec : p.tables.exec = Jvm.exec) (hb : c.code = cc) {x y : Nat} {off : Int} {tgt : Nat} (hx : x < 2 ^ 31) (hy : y < 2 ^ 31) (hdg0 : decode cc pc = .ok (.lcmp, 1)) (hdg : decode cc (pc + 1) = .ok (.ifCond .ne off, 3)) (ht : ((pc + 1 : Nat) : Int) + off = (tgt : Int)) (kt : ¬ x = y → W p l e R s m args below meth c H locs cells slots Q (F0 m tgt ls rest)) (kf : x = y → W p l e R s m args below meth c H locs cells slots Q (F0 m (pc + 4) ls rest)) : W p l e R s m args below meth c H locs cells slots Q (F0 m pc ls (.long (lN y) :: .long (lN x) :: rest)) :=
  z_lif_ne hexec hb hdg0 hdg ht (fun h => kt (fun q => h ((lN_eq hx hy).mpr q))) (fun h => kf ((lN_eq hx hy).mp h))
end ZLN
/-- an array with its first k cells taken from another -/
def cp0 {α : Type} (dst src : Nat → α) (k : Nat) : Nat → α := fun j => if j < k then src j else dst j
theorem cp0_0 {α : Type} (dst src : Nat → α) : cp0 dst src 0 = dst := by funext j; simp [cp0]
theorem cp0_s (dst src : Nat → Int64) (k : Nat) : vp_updL (cp0 dst src k) k (src k) = cp0 dst src (k + 1) := by
  funext j
  unfold vp_updL cp0
  by_cases h : j = k
  · rw [if_pos h, if_pos (by omega), h]
  · rw [if_neg h]
    by_cases h2 : j < k
    · rw [if_pos h2, if_pos (by omega)]
    · rw [if_neg h2, if_neg (by omega)]
theorem cp0_sD (dst src : Nat → UInt64) (k : Nat) : vf_upd (cp0 dst src k) k (src k) = cp0 dst src (k + 1) := by
  funext j
  show (if j = k then _ else _) = _
  unfold cp0
  by_cases h : j = k
  · rw [if_pos h, if_pos (by omega), h]
  · rw [if_neg h]
    by_cases h2 : j < k
    · rw [if_pos h2, if_pos (by omega)]
    · rw [if_neg h2, if_neg (by omega)]
/-- .. k cells from place b on -/
def cpb {α : Type} (dst src : Nat → α) (b k : Nat) : Nat → α := fun j => if b ≤ j ∧ j < b + k then src (j - b) else dst j
theorem cpb_0 {α : Type} (dst src : Nat → α) (b : Nat) : cpb dst src b 0 = dst := by
  funext j
  unfold cpb
  rw [if_neg (by omega)]
theorem cpb_s (dst src : Nat → Int64) (b k : Nat) : vp_updL (cpb dst src b k) (b + k) (src k) = cpb dst src b (k + 1) := by
  funext j
  unfold vp_updL cpb
  by_cases h : j = b + k
  · rw [if_pos h, if_pos (by omega), h, show b + k - b = k by omega]
  · rw [if_neg h]
    by_cases h2 : b ≤ j ∧ j < b + k
    · rw [if_pos h2, if_pos (by omega)]
    · rw [if_neg h2, if_neg (by omega)]
theorem cpb_sD (dst src : Nat → UInt64) (b k : Nat) : vf_upd (cpb dst src b k) (b + k) (src k) = cpb dst src b (k + 1) := by
  funext j
  show (if j = b + k then _ else _) = _
  unfold cpb
  by_cases h : j = b + k
  · rw [if_pos h, if_pos (by omega), h, show b + k - b = k by omega]
  · rw [if_neg h]
    by_cases h2 : b ≤ j ∧ j < b + k
    · rw [if_pos h2, if_pos (by omega)]
    · rw [if_neg h2, if_neg (by omega)]
/-- .. the first k cells from those d further on -/
def shb {α : Type} (f : Nat → α) (d k : Nat) : Nat → α := fun j => if j < k then f (j + d) else f j
theorem shb_0 {α : Type} (f : Nat → α) (d : Nat) : shb f d 0 = f := by funext j; simp [shb]
theorem shb_s (f : Nat → Int64) (d k : Nat) : vp_updL (shb f d k) k (shb f d k (k + d)) = shb f d (k + 1) := by
  funext j
  unfold vp_updL shb
  by_cases h : j = k
  · rw [if_pos h, if_pos (show j < k + 1 by omega), if_neg (by omega), h]
  · rw [if_neg h]
    by_cases h2 : j < k
    · rw [if_pos h2, if_pos (by omega)]
    · rw [if_neg h2, if_neg (by omega)]
theorem shb_sD (f : Nat → UInt64) (d k : Nat) : vf_upd (shb f d k) k (shb f d k (k + d)) = shb f d (k + 1) := by
  funext j
  show (if j = k then _ else _) = _
  unfold shb
  by_cases h : j = k
  · rw [if_pos h, if_pos (show j < k + 1 by omega), if_neg (by omega), h]
  · rw [if_neg h]
    by_cases h2 : j < k
    · rw [if_pos h2, if_pos (by omega)]
    · rw [if_neg h2, if_neg (by omega)]
theorem lp_keep {α β : Type} (q : α → β) {f : Nat → α → α} (h : ∀ k a, q (f k a) = q a) (k : Nat) (x : α) : q (lp f k x) = q x := by
  induction k with
  | zero => rfl
  | succ k ih => rw [lp_s, h, ih]
abbrev inP (v lo hi : Int64) : Prop := ¬ v < lo ∧ ¬ hi < v
