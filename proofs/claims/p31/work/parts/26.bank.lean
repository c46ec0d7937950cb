/-! a state as one value; states in a ring; worlds with a tail that a method does not look into -/
abbrev SVT : Type := Nat × (Nat → Int32) × (Nat → Int64) × (Nat → Int32) × (Nat → Int32) × (Nat → Int32) × (Nat → Int32) × (Nat → Int32) × Nat × (Nat → Int32) × (Nat → Int32) × Nat × (Nat → Int32) × Nat × Int32 × Int32 × (Nat → Int32) × (Nat → Int32) × (Nat → Int32) × (Nat → Int32) × Int32 × Int64 × Int64 × Int64 × Int64 × Int64 × Int64 × (Nat → Int64) × Int64 × Nat × Int32 × Int32 × Int32
def v_nS (v : SVT) : Nat := v.1
def v_wi (v : SVT) : Nat → Int32 := v.2.1
def v_cr (v : SVT) : Nat → Int64 := v.2.2.1
def v_ho (v : SVT) : Nat → Int32 := v.2.2.2.1
def v_li (v : SVT) : Nat → Int32 := v.2.2.2.2.1
def v_co (v : SVT) : Nat → Int32 := v.2.2.2.2.2.1
def v_le (v : SVT) : Nat → Int32 := v.2.2.2.2.2.2.1
def v_cs (v : SVT) : Nat → Int32 := v.2.2.2.2.2.2.2.1
def v_nD (v : SVT) : Nat := v.2.2.2.2.2.2.2.2.1
def v_we (v : SVT) : Nat → Int32 := v.2.2.2.2.2.2.2.2.2.1
def v_cl (v : SVT) : Nat → Int32 := v.2.2.2.2.2.2.2.2.2.2.1
def v_nT (v : SVT) : Nat := v.2.2.2.2.2.2.2.2.2.2.2.1
def v_sw (v : SVT) : Nat → Int32 := v.2.2.2.2.2.2.2.2.2.2.2.2.1
def v_nP (v : SVT) : Nat := v.2.2.2.2.2.2.2.2.2.2.2.2.2.1
def v_lim (v : SVT) : Int32 := v.2.2.2.2.2.2.2.2.2.2.2.2.2.2.1
def v_idl (v : SVT) : Int32 := v.2.2.2.2.2.2.2.2.2.2.2.2.2.2.2.1
def v_po (v : SVT) : Nat → Int32 := v.2.2.2.2.2.2.2.2.2.2.2.2.2.2.2.2.1
def v_pw (v : SVT) : Nat → Int32 := v.2.2.2.2.2.2.2.2.2.2.2.2.2.2.2.2.2.1
def v_on (v : SVT) : Nat → Int32 := v.2.2.2.2.2.2.2.2.2.2.2.2.2.2.2.2.2.2.1
def v_ra (v : SVT) : Nat → Int32 := v.2.2.2.2.2.2.2.2.2.2.2.2.2.2.2.2.2.2.2.1
def v_ar (v : SVT) : Int32 := v.2.2.2.2.2.2.2.2.2.2.2.2.2.2.2.2.2.2.2.2.1
def v_vo (v : SVT) : Int64 := v.2.2.2.2.2.2.2.2.2.2.2.2.2.2.2.2.2.2.2.2.2.1
def v_fi (v : SVT) : Int64 := v.2.2.2.2.2.2.2.2.2.2.2.2.2.2.2.2.2.2.2.2.2.2.1
def v_fo (v : SVT) : Int64 := v.2.2.2.2.2.2.2.2.2.2.2.2.2.2.2.2.2.2.2.2.2.2.2.1
def v_fv (v : SVT) : Int64 := v.2.2.2.2.2.2.2.2.2.2.2.2.2.2.2.2.2.2.2.2.2.2.2.2.1
def v_br (v : SVT) : Int64 := v.2.2.2.2.2.2.2.2.2.2.2.2.2.2.2.2.2.2.2.2.2.2.2.2.2.1
def v_pu (v : SVT) : Int64 := v.2.2.2.2.2.2.2.2.2.2.2.2.2.2.2.2.2.2.2.2.2.2.2.2.2.2.1
def v_td (v : SVT) : Nat → Int64 := v.2.2.2.2.2.2.2.2.2.2.2.2.2.2.2.2.2.2.2.2.2.2.2.2.2.2.2.1
def v_al (v : SVT) : Int64 := v.2.2.2.2.2.2.2.2.2.2.2.2.2.2.2.2.2.2.2.2.2.2.2.2.2.2.2.2.1
def v_h (v : SVT) : Nat := v.2.2.2.2.2.2.2.2.2.2.2.2.2.2.2.2.2.2.2.2.2.2.2.2.2.2.2.2.2.1
def v_od (v : SVT) : Int32 := v.2.2.2.2.2.2.2.2.2.2.2.2.2.2.2.2.2.2.2.2.2.2.2.2.2.2.2.2.2.2.1
def v_cb (v : SVT) : Int32 := v.2.2.2.2.2.2.2.2.2.2.2.2.2.2.2.2.2.2.2.2.2.2.2.2.2.2.2.2.2.2.2.1
def v_dl (v : SVT) : Int32 := v.2.2.2.2.2.2.2.2.2.2.2.2.2.2.2.2.2.2.2.2.2.2.2.2.2.2.2.2.2.2.2.2
abbrev stW (ct : Nat → ClassId) (ad : Nat → Nat) (v : SVT) : va_W := [zO (ad 0) 5 [.ref (ad 1), .ref (ad 9), .ref (ad 12), .ref (ad 14), .ref (ad 19), .ref (ad 20), .long (v_al v), .int (nI (v_h v)), .int (v_od v), .int (v_cb v), .int (v_dl v)], zO (ad 1) 4 [.int (nI (v_nS v)), .ref (ad 2), .ref (ad 3), .ref (ad 4), .ref (ad 5), .ref (ad 6), .ref (ad 7), .ref (ad 8)], zI ct (ad 2) 8 (v_wi v), zE ct (ad 3) 8 (v_cr v), zI ct (ad 4) 8 (v_ho v), zI ct (ad 5) 8 (v_li v), zI ct (ad 6) 8 (v_co v), zI ct (ad 7) 8 (v_le v), zI ct (ad 8) 8 (v_cs v), zO (ad 9) 1 [.int (nI (v_nD v)), .ref (ad 10), .ref (ad 11)], zI ct (ad 10) 6 (v_we v), zZ ct (ad 11) 6 (v_cl v), zO (ad 12) 6 [.int (nI (v_nT v)), .ref (ad 13)], zI ct (ad 13) 4 (v_sw v), zO (ad 14) 3 [.int (nI (v_nP v)), .int (v_lim v), .int (v_idl v), .ref (ad 15), .ref (ad 16), .ref (ad 17), .ref (ad 18)], zI ct (ad 15) 6 (v_po v), zI ct (ad 16) 6 (v_pw v), zZ ct (ad 17) 6 (v_on v), zI ct (ad 18) 6 (v_ra v), zO (ad 19) 0 [.int (v_ar v), .long (v_vo v), .long (v_fi v), .long (v_fo v), .long (v_fv v), .long (v_br v), .long (v_pu v)], zL ct (ad 20) 24 (v_td v)]
abbrev RgT : Type := Nat → Option ((Nat → Nat) × SVT)
def bkW (ct : Nat → ClassId) (o : Option ((Nat → Nat) × SVT)) : va_W := match o with
  | none => []
  | some q => stW ct q.1 q.2
def bank (ct : Nat → ClassId) (r : RgT) : va_W := bkW ct (r 0) ++ (bkW ct (r 1) ++ (bkW ct (r 2) ++ (bkW ct (r 3) ++ bkW ct (r 4))))
def rgS (r : RgT) (k : Nat) (o : Option ((Nat → Nat) × SVT)) : RgT := fun i => if i = k then o else r i
def rgA (r : RgT) : Nat → Option Nat := fun i => (r i).map (fun q => q.1 0)
theorem bank_perm (ct : Nat → ClassId) (r : RgT) (k : Nat) (hk : k < 5) : List.Perm (bank ct r) (bkW ct (r k) ++ bank ct (rgS r k none)) := by
  have h5 : k = 0 ∨ k = 1 ∨ k = 2 ∨ k = 3 ∨ k = 4 := by omega
  have sw : ∀ (a b c : va_W), List.Perm (a ++ (b ++ c)) (b ++ (a ++ c)) := fun a b c => by
    rw [← List.append_assoc, ← List.append_assoc]
    exact List.Perm.append_right c List.perm_append_comm
  rcases h5 with rfl | rfl | rfl | rfl | rfl
  · simp [bank, rgS, bkW]
  · simp only [bank, rgS, bkW, if_true, List.nil_append, if_neg (show ¬ (0 : Nat) = 1 by decide), if_neg (show ¬ (2 : Nat) = 1 by decide), if_neg (show ¬ (3 : Nat) = 1 by decide), if_neg (show ¬ (4 : Nat) = 1 by decide)]
    exact sw _ _ _
  · simp only [bank, rgS, bkW, if_true, List.nil_append, if_neg (show ¬ (0 : Nat) = 2 by decide), if_neg (show ¬ (1 : Nat) = 2 by decide), if_neg (show ¬ (3 : Nat) = 2 by decide), if_neg (show ¬ (4 : Nat) = 2 by decide)]
    exact (List.Perm.append_left _ (sw _ _ _)).trans (sw _ _ _)
  · simp only [bank, rgS, bkW, if_true, List.nil_append, if_neg (show ¬ (0 : Nat) = 3 by decide), if_neg (show ¬ (1 : Nat) = 3 by decide), if_neg (show ¬ (2 : Nat) = 3 by decide), if_neg (show ¬ (4 : Nat) = 3 by decide)]
    exact (List.Perm.append_left _ ((List.Perm.append_left _ (sw _ _ _)).trans (sw _ _ _))).trans (sw _ _ _)
  · simp only [bank, rgS, bkW, if_true, List.append_nil, if_neg (show ¬ (0 : Nat) = 4 by decide), if_neg (show ¬ (1 : Nat) = 4 by decide), if_neg (show ¬ (2 : Nat) = 4 by decide), if_neg (show ¬ (3 : Nat) = 4 by decide)]
    have c4 : List.Perm (bkW ct (r 3) ++ bkW ct (r 4)) (bkW ct (r 4) ++ bkW ct (r 3)) := List.perm_append_comm
    exact (List.Perm.append_left _ ((List.Perm.append_left _ ((List.Perm.append_left _ c4).trans (sw _ _ _))).trans (sw _ _ _))).trans (sw _ _ _)
theorem rgS_S (r : RgT) (k : Nat) (o o2 : Option ((Nat → Nat) × SVT)) : rgS (rgS r k o) k o2 = rgS r k o2 := by
  funext i
  unfold rgS
  by_cases h : i = k
  · rw [if_pos h, if_pos h]
  · rw [if_neg h, if_neg h, if_neg h]
theorem rgS_at (r : RgT) (k : Nat) (o : Option ((Nat → Nat) × SVT)) : rgS r k o k = o := by simp [rgS]
/-- the ring with a state put into it -/
theorem bank_put (ct : Nat → ClassId) (r : RgT) (k : Nat) (hk : k < 5) (q : (Nat → Nat) × SVT) : List.Perm (bank ct (rgS r k (some q))) (stW ct q.1 q.2 ++ bank ct (rgS r k none)) := by
  have h := bank_perm ct (rgS r k (some q)) k hk
  rw [rgS_at, rgS_S] at h
  exact h
theorem va_P.perm {D : va_G} {cl : List vw_C} {w w1 : va_W} {H : Heap} (h : va_P D cl w H) (e : List.Perm w w1) : va_P D cl w1 H := by
  intro k q hk
  obtain ⟨i, hi⟩ := List.getElem?_of_mem (e.mem_iff.mpr (List.mem_of_getElem? hk))
  exact h i q hi
theorem va_D_nodup {A : Nat → Prop} {w : va_W} : va_D A w ↔ (w.map Prod.fst).Nodup ∧ ∀ q ∈ w, A q.1 := by
  constructor
  · intro h
    refine ⟨?_, fun q hq => ?_⟩
    · show List.Pairwise _ _
      rw [List.pairwise_iff_getElem]
      intro i j hi hj hij e
      rw [List.length_map] at hi hj
      rw [List.getElem_map, List.getElem_map] at e
      have := h.1 i j _ _ (List.getElem?_eq_getElem hi) (List.getElem?_eq_getElem hj) e
      omega
    · obtain ⟨i, hi⟩ := List.getElem?_of_mem hq
      exact h.2 i q hi
  · rintro ⟨h1, h2⟩
    refine ⟨fun i j p q hi hj e => ?_, fun k q hk => h2 q (List.mem_of_getElem? hk)⟩
    have h1 : List.Pairwise (fun a b => a ≠ b) (w.map Prod.fst) := h1
    rw [List.pairwise_iff_getElem] at h1
    have key : ∀ i j : Nat, ∀ p q : Nat × va_E, w[i]? = some p → w[j]? = some q → p.1 = q.1 → ¬ i < j := by
      intro i j p q hi hj e hij
      obtain ⟨hil, hi⟩ := List.getElem?_eq_some_iff.mp hi
      obtain ⟨hjl, hj⟩ := List.getElem?_eq_some_iff.mp hj
      refine h1 i j (by rw [List.length_map]; exact hil) (by rw [List.length_map]; exact hjl) hij ?_
      rw [List.getElem_map, List.getElem_map, hi, hj]
      exact e
    have a := key i j p q hi hj e
    have b := key j i q p hj hi e.symm
    omega
theorem va_D.perm {A : Nat → Prop} {w w1 : va_W} (h : va_D A w) (e : List.Perm w w1) : va_D A w1 := by
  rw [va_D_nodup] at h ⊢
  exact ⟨(e.map Prod.fst).nodup_iff.mp h.1, fun q hq => h.2 q (e.mem_iff.mpr hq)⟩
theorem va_A_perm {w w1 : va_W} {sz : Nat} (e : List.Perm w w1) : va_A w sz = va_A w1 sz := by
  funext q
  apply propext
  constructor
  · rintro (⟨k, x, h⟩ | h)
    · obtain ⟨i, hi⟩ := List.getElem?_of_mem (e.mem_iff.mp (List.mem_of_getElem? h))
      exact Or.inl ⟨i, x, hi⟩
    · exact Or.inr h
  · rintro (⟨k, x, h⟩ | h)
    · obtain ⟨i, hi⟩ := List.getElem?_of_mem (e.mem_iff.mpr (List.mem_of_getElem? h))
      exact Or.inl ⟨i, x, hi⟩
    · exact Or.inr h
theorem va_A_mem {w : va_W} {sz q : Nat} : va_A w sz q ↔ (∃ x, (q, x) ∈ w) ∨ sz ≤ q := by
  constructor
  · rintro (⟨k, x, h⟩ | h)
    · exact Or.inl ⟨x, List.mem_of_getElem? h⟩
    · exact Or.inr h
  · rintro (⟨x, h⟩ | h)
    · obtain ⟨i, hi⟩ := List.getElem?_of_mem h
      exact Or.inl ⟨i, x, hi⟩
    · exact Or.inr h
theorem va_P.mem {D : va_G} {cl : List vw_C} {w : va_W} {H : Heap} (h : va_P D cl w H) {q : Nat × va_E} (hq : q ∈ w) : va_at D cl q H := by
  obtain ⟨i, hi⟩ := List.getElem?_of_mem hq
  exact h i q hi
/-- behind a call: what is beside the callee's cells stays -/
theorem z_join {A0 : Nat → Prop} {D : va_G} {cl : List vw_C} {wc wr w1 : va_W} {H H1 : Heap} (hP : va_P D cl (wc ++ wr) H) (hD : va_D A0 (wc ++ wr))
    (hk : ∀ q : Nat, q < H.size → ¬ va_A wc H.size q → H1[q]? = H[q]?) (hF : ∀ q, va_A wc H.size q → A0 q) (hP1 : va_P D cl w1 H1) (hD1 : va_D (va_A wc H.size) w1) : va_P D cl (w1 ++ wr) H1 ∧ va_D A0 (w1 ++ wr) := by
  have hN := (va_D_nodup.mp hD).1
  rw [List.map_append, List.nodup_append] at hN
  have apart : ∀ q ∈ wr, q.1 < H.size ∧ ¬ va_A wc H.size q.1 := by
    intro q hq
    have hl := (hP.mem (List.mem_append_right _ hq)).lt
    refine ⟨hl, fun h => ?_⟩
    rcases va_A_mem.mp h with ⟨x, hx⟩ | h
    · exact hN.2.2 q.1 (List.mem_map.mpr ⟨_, hx, rfl⟩) q.1 (List.mem_map.mpr ⟨_, hq, rfl⟩) rfl
    · omega
  refine ⟨va_P.app hP1 (fun k q hq => ?_), ?_⟩
  · obtain ⟨g1, g2⟩ := apart q (List.mem_of_getElem? hq)
    exact (hP.mem (List.mem_append_right _ (List.mem_of_getElem? hq))).kept (hk q.1 g1 g2)
  · rw [va_D_nodup] at hD1 ⊢
    refine ⟨?_, fun q hq => ?_⟩
    · rw [List.map_append, List.nodup_append]
      refine ⟨hD1.1, hN.2.1, fun a ha b hb e => ?_⟩
      obtain ⟨x, hx, rfl⟩ := List.mem_map.mp ha
      obtain ⟨y, hy, rfl⟩ := List.mem_map.mp hb
      exact (apart y hy).2 (e ▸ hD1.2 x hx)
    · rcases List.mem_append.mp hq with h | h
      · exact hF _ (hD1.2 q h)
      · exact (va_D_nodup.mp hD).2 q (List.mem_append_right _ h)
theorem z_permN : ∀ (l m : List Nat), l.Nodup → (∀ x ∈ l, x ∈ m) → m.length ≤ l.length → List.Perm l m
  | [], m, _, _, h => by
    have : m = [] := List.length_eq_zero_iff.mp (Nat.le_zero.mp h)
    rw [this]
  | a :: l, m, hn, hs, h => by
    have ha : a ∈ m := hs a List.mem_cons_self
    have h1 := List.perm_cons_erase ha
    have hn2 := List.nodup_cons.mp hn
    refine (List.Perm.cons a (z_permN l (m.erase a) hn2.2 (fun x hx => ?_) ?_)).trans h1.symm
    · have hne : x ≠ a := fun e => hn2.1 (e ▸ hx)
      exact (List.mem_erase_of_ne hne).mpr (hs x (List.mem_cons_of_mem _ hx))
    · rw [List.length_erase_of_mem ha]
      rw [List.length_cons] at h
      omega
/-- an order by places -/
theorem z_permI {X Y : va_W} (is : List Nat) (hn : va_nd is = true) (hs : is.map (fun i => X[i]?) = Y.map some) (hl : X.length = Y.length) : List.Perm X Y := by
  have nd : ∀ (l : List Nat), va_nd l = true → l.Nodup := by
    intro l
    induction l with
    | nil => intro _; exact List.nodup_nil
    | cons a l ih =>
      intro h
      simp only [va_nd, Bool.and_eq_true, decide_eq_true_eq] at h
      exact List.nodup_cons.mpr ⟨h.1, ih h.2⟩
  have hlen : is.length = Y.length := by
    have := congrArg List.length hs
    simpa using this
  have hlt : ∀ i ∈ is, i < X.length := by
    intro i hi
    obtain ⟨k, hk⟩ := List.getElem?_of_mem hi
    have h1 : (is.map (fun i => X[i]?))[k]? = some (X[i]?) := by rw [List.getElem?_map, hk]; rfl
    rw [hs, List.getElem?_map] at h1
    cases hY : Y[k]? with
    | none => rw [hY] at h1; cases h1
    | some q =>
      rw [hY] at h1
      exact (List.getElem?_eq_some_iff.mp (Option.some.inj h1).symm).1
  have hp : List.Perm is (List.range X.length) := by
    exact z_permN is _ (nd is hn) (fun i hi => List.mem_range.mpr (hlt i hi)) (by rw [List.length_range, hlen, hl]; exact Nat.le_refl _)
  have h2 := hp.map (fun i => X[i]?)
  rw [hs] at h2
  have h3 : (List.range X.length).map (fun i => X[i]?) = X.map some := by
    apply List.ext_getElem?
    intro k
    rw [List.getElem?_map, List.getElem?_map]
    by_cases h : k < X.length
    · rw [List.getElem?_range h, List.getElem?_eq_getElem h]
      show some (X[k]?) = some (some X[k])
      rw [List.getElem?_eq_getElem h]
    · rw [List.getElem?_eq_none (by rw [List.length_range]; omega), List.getElem?_eq_none (by omega)]; rfl
  rw [h3] at h2
  have h4 := h2.filterMap id
  simpa [List.filterMap_map] using h4.symm
section ZCT
variable {p : Program} {l : Launch} {e : Env} {R : Room} {s : State} {m : MethodId} {args : Array Value} {below : List Frame} {meth : Method} {c : Code} {H : Heap} {locs : List Loc} {cells slots : Nat} {Q : State → Prop}
variable {cc : ByteArray} {pc nL : Nat} {ls : Array Slot} {rest st : List Value} {g : va_G} {A : Nat → Prop} {ct : Nat → ClassId} {ws wc wr w2 X cx wx pl : va_W} {H0 : Heap}
variable {y : MethodName} {bytes : ByteArray} {maxL n index ci N mc ms : Nat} {ret : Option FieldType} {wsC Ts : List Cond} {rm : Room} {own C : String} {b : Nat} {As : List Value} {T : u_T} {fs : List Value}
/-- a call of a method that writes, its cells and the rest by an order of the world -/
theorem z_pVi {S : Type} {w1 : S → va_W} {v : Int32} (S0 : CallFix p m c cc nL s args Ts own) (hK : va_K g vwCl (zT ct) s) (hP : va_P g vwCl ws H) (hD : va_D A ws) (hS : va_S A H0 H locs) (hN : zNW s) (hA : ∀ q, H0.size ≤ q → A q)
    (hpm : List.Perm ws (wc ++ wr)) (hM : Met l y wsC rm (va_Pc (.ref b :: As) (zW g ct wc H.size)) (zEi g w1 v (va_A wc H.size)) mc ms (va_A wc H.size)) (cw : CallW R s args own C index y bytes maxL ret wsC rm mc ms n)
    (q0 : Nat) (he : wc[q0]? = some (zO b ci fs)) (hc : vwCl[ci]? = some (C, T, N)) (hn : As.length = n) (hsize : ls.size = nL) (hst : st = As.reverse ++ .ref b :: rest) (hW : (rest.map fun v => v.category).sum ≤ 8) (hdg : decode cc pc = .ok (.invokevirtual index, 3)) (hf : cells + mc ≤ R.cells ∧ slots + ms ≤ R.slots)
    (kk : ∀ (u : S) (H1 : Heap) (locs1 : List Loc), va_P g vwCl (w1 u ++ wr) H1 → va_D A (w1 u ++ wr) → va_S A H0 H1 locs1 → W p l e R s m args below meth c H1 locs1 (cells + mc) (slots + ms) Q (F0 m (pc + 3) ls (.int v :: rest))) : W p l e R s m args below meth c H locs cells slots Q (F0 m pc ls st) := by
  subst hst
  have hP := hP.perm hpm
  have hD := hD.perm hpm
  have hPc : va_P g vwCl wc H := fun k q hk => hP.mem (List.mem_append_left _ (List.mem_of_getElem? hk))
  have hDc : va_D A wc := by
    rw [va_D_nodup] at hD ⊢
    rw [List.map_append, List.nodup_append] at hD
    exact ⟨hD.1.1, fun q hq => hD.2 q (List.mem_append_left _ hq)⟩
  have hFc : ∀ q, va_A wc H.size q → A q := by
    intro q h
    rcases va_A_mem.mp h with ⟨x, hx⟩ | h
    · exact (va_D_nodup.mp hDc).2 _ hx
    · exact hA q (Nat.le_trans hS.1 h)
  refine va_calli (va_runV S0 hM cw ⟨zW_blind, va_recv hK hPc hc he, fun U hU hW1 => ⟨rfl, by rw [hU], by rw [hU]; exact hPc, va_K.moved hW1.alike hK, hDc.weaken (fun _ _ _ _ => trivial), zNW_warm hW1 hN⟩⟩ rfl hn hsize rfl (lv_room hW) hdg hf) hS (fun q _ h => hFc q h) hFc (fun r u t H1 locs1 ht hvm hw hB hz1 hk1 hS1 => ?_)
  obtain ⟨hP1, hD1⟩ := hB
  rw [ht] at hP1
  subst hw
  obtain ⟨hP2, hD2⟩ := z_join hP hD hk1 hFc hP1 hD1
  exact kk u H1 locs1 hP2 hD2 hS1
/-- .. where no cell is made and the world has a tail: every cell back at its place -/
theorem z_tVi {w1 : va_W} {v : Int32} (S0 : CallFix p m c cc nL s args Ts own) (hK : va_K g vwCl (zT ct) s) (hP : va_P g vwCl (X ++ pl) H) (hD : va_D A (X ++ pl)) (hS : va_S A H0 H locs) (hN : zNW s) (hA : ∀ q, H0.size ≤ q → A q)
    (isC isR isB : List Nat) (hC : isC.map (fun i => X[i]?) = wc.map some) (hR : isR.map (fun i => X[i]?) = wr.map some) (hB : isB.map (fun i => (w1 ++ wr)[i]?) = w2.map some) (hnC : va_nd (isC ++ isR) = true) (hle : X.length = wc.length + wr.length) (hle2 : w2.length = w1.length + wr.length) (hnB : va_nd isB = true)
    (hM : Met l y wsC rm (va_Pc (.ref b :: As) (zW g ct wc H.size)) (zEi g (fun _ : Unit => w1) v (va_A wc H.size)) 0 0 (va_A wc H.size)) (cw : CallW R s args own C index y bytes maxL ret wsC rm 0 0 n)
    (q0 : Nat) (he : wc[q0]? = some (zO b ci fs)) (hc : vwCl[ci]? = some (C, T, N)) (hn : As.length = n) (hsize : ls.size = nL) (hst : st = As.reverse ++ .ref b :: rest) (hW : (rest.map fun v => v.category).sum ≤ 8) (hdg : decode cc pc = .ok (.invokevirtual index, 3)) (hf : cells ≤ R.cells ∧ slots ≤ R.slots)
    (kk : ∀ (H1 : Heap) (locs1 : List Loc), va_P g vwCl (w2 ++ pl) H1 → va_D A (w2 ++ pl) → va_S A H0 H1 locs1 → W p l e R s m args below meth c H1 locs1 cells slots Q (F0 m (pc + 3) ls (.int v :: rest))) : W p l e R s m args below meth c H locs cells slots Q (F0 m pc ls st) := by
  have h1 : List.Perm X (wc ++ wr) := z_permI (isC ++ isR) hnC (by rw [List.map_append, List.map_append, hC, hR]) (by rw [List.length_append, hle])
  have h2 : List.Perm (w1 ++ wr) w2 := z_permI isB hnB hB (by rw [List.length_append, hle2])
  refine z_pVi (wr := wr ++ pl) S0 hK hP hD hS hN hA (by rw [← List.append_assoc]; exact h1.append_right pl) hM cw q0 he hc hn hsize hst hW hdg hf (fun u H1 locs1 hP1 hD1 hS1 => ?_)
  have h3 : List.Perm (w1 ++ (wr ++ pl)) (w2 ++ pl) := by rw [← List.append_assoc]; exact h2.append_right pl
  exact kk H1 locs1 (hP1.perm h3) (hD1.perm h3) hS1
/-- a call of a method that writes, its cells and the rest by an order of the world -/
theorem z_pVl {S : Type} {w1 : S → va_W} {v : Int64} (S0 : CallFix p m c cc nL s args Ts own) (hK : va_K g vwCl (zT ct) s) (hP : va_P g vwCl ws H) (hD : va_D A ws) (hS : va_S A H0 H locs) (hN : zNW s) (hA : ∀ q, H0.size ≤ q → A q)
    (hpm : List.Perm ws (wc ++ wr)) (hM : Met l y wsC rm (va_Pc (.ref b :: As) (zW g ct wc H.size)) (zEl g w1 v (va_A wc H.size)) mc ms (va_A wc H.size)) (cw : CallW R s args own C index y bytes maxL ret wsC rm mc ms n)
    (q0 : Nat) (he : wc[q0]? = some (zO b ci fs)) (hc : vwCl[ci]? = some (C, T, N)) (hn : As.length = n) (hsize : ls.size = nL) (hst : st = As.reverse ++ .ref b :: rest) (hW : (rest.map fun v => v.category).sum ≤ 8) (hdg : decode cc pc = .ok (.invokevirtual index, 3)) (hf : cells + mc ≤ R.cells ∧ slots + ms ≤ R.slots)
    (kk : ∀ (u : S) (H1 : Heap) (locs1 : List Loc), va_P g vwCl (w1 u ++ wr) H1 → va_D A (w1 u ++ wr) → va_S A H0 H1 locs1 → W p l e R s m args below meth c H1 locs1 (cells + mc) (slots + ms) Q (F0 m (pc + 3) ls (.long v :: rest))) : W p l e R s m args below meth c H locs cells slots Q (F0 m pc ls st) := by
  subst hst
  have hP := hP.perm hpm
  have hD := hD.perm hpm
  have hPc : va_P g vwCl wc H := fun k q hk => hP.mem (List.mem_append_left _ (List.mem_of_getElem? hk))
  have hDc : va_D A wc := by
    rw [va_D_nodup] at hD ⊢
    rw [List.map_append, List.nodup_append] at hD
    exact ⟨hD.1.1, fun q hq => hD.2 q (List.mem_append_left _ hq)⟩
  have hFc : ∀ q, va_A wc H.size q → A q := by
    intro q h
    rcases va_A_mem.mp h with ⟨x, hx⟩ | h
    · exact (va_D_nodup.mp hDc).2 _ hx
    · exact hA q (Nat.le_trans hS.1 h)
  refine va_calll (va_runV S0 hM cw ⟨zW_blind, va_recv hK hPc hc he, fun U hU hW1 => ⟨rfl, by rw [hU], by rw [hU]; exact hPc, va_K.moved hW1.alike hK, hDc.weaken (fun _ _ _ _ => trivial), zNW_warm hW1 hN⟩⟩ rfl hn hsize rfl (lv_room hW) hdg hf) hS (fun q _ h => hFc q h) hFc (fun r u t H1 locs1 ht hvm hw hB hz1 hk1 hS1 => ?_)
  obtain ⟨hP1, hD1⟩ := hB
  rw [ht] at hP1
  subst hw
  obtain ⟨hP2, hD2⟩ := z_join hP hD hk1 hFc hP1 hD1
  exact kk u H1 locs1 hP2 hD2 hS1
/-- .. where no cell is made and the world has a tail: every cell back at its place -/
theorem z_tVl {w1 : va_W} {v : Int64} (S0 : CallFix p m c cc nL s args Ts own) (hK : va_K g vwCl (zT ct) s) (hP : va_P g vwCl (X ++ pl) H) (hD : va_D A (X ++ pl)) (hS : va_S A H0 H locs) (hN : zNW s) (hA : ∀ q, H0.size ≤ q → A q)
    (isC isR isB : List Nat) (hC : isC.map (fun i => X[i]?) = wc.map some) (hR : isR.map (fun i => X[i]?) = wr.map some) (hB : isB.map (fun i => (w1 ++ wr)[i]?) = w2.map some) (hnC : va_nd (isC ++ isR) = true) (hle : X.length = wc.length + wr.length) (hle2 : w2.length = w1.length + wr.length) (hnB : va_nd isB = true)
    (hM : Met l y wsC rm (va_Pc (.ref b :: As) (zW g ct wc H.size)) (zEl g (fun _ : Unit => w1) v (va_A wc H.size)) 0 0 (va_A wc H.size)) (cw : CallW R s args own C index y bytes maxL ret wsC rm 0 0 n)
    (q0 : Nat) (he : wc[q0]? = some (zO b ci fs)) (hc : vwCl[ci]? = some (C, T, N)) (hn : As.length = n) (hsize : ls.size = nL) (hst : st = As.reverse ++ .ref b :: rest) (hW : (rest.map fun v => v.category).sum ≤ 8) (hdg : decode cc pc = .ok (.invokevirtual index, 3)) (hf : cells ≤ R.cells ∧ slots ≤ R.slots)
    (kk : ∀ (H1 : Heap) (locs1 : List Loc), va_P g vwCl (w2 ++ pl) H1 → va_D A (w2 ++ pl) → va_S A H0 H1 locs1 → W p l e R s m args below meth c H1 locs1 cells slots Q (F0 m (pc + 3) ls (.long v :: rest))) : W p l e R s m args below meth c H locs cells slots Q (F0 m pc ls st) := by
  have h1 : List.Perm X (wc ++ wr) := z_permI (isC ++ isR) hnC (by rw [List.map_append, List.map_append, hC, hR]) (by rw [List.length_append, hle])
  have h2 : List.Perm (w1 ++ wr) w2 := z_permI isB hnB hB (by rw [List.length_append, hle2])
  refine z_pVl (wr := wr ++ pl) S0 hK hP hD hS hN hA (by rw [← List.append_assoc]; exact h1.append_right pl) hM cw q0 he hc hn hsize hst hW hdg hf (fun u H1 locs1 hP1 hD1 hS1 => ?_)
  have h3 : List.Perm (w1 ++ (wr ++ pl)) (w2 ++ pl) := by rw [← List.append_assoc]; exact h2.append_right pl
  exact kk H1 locs1 (hP1.perm h3) (hD1.perm h3) hS1
/-- a call of a method that writes, its cells and the rest by an order of the world -/
theorem z_pVd {S : Type} {w1 : S → va_W} {v : UInt64} (S0 : CallFix p m c cc nL s args Ts own) (hK : va_K g vwCl (zT ct) s) (hP : va_P g vwCl ws H) (hD : va_D A ws) (hS : va_S A H0 H locs) (hN : zNW s) (hA : ∀ q, H0.size ≤ q → A q)
    (hpm : List.Perm ws (wc ++ wr)) (hM : Met l y wsC rm (va_Pc (.ref b :: As) (zW g ct wc H.size)) (zEd g w1 v (va_A wc H.size)) mc ms (va_A wc H.size)) (cw : CallW R s args own C index y bytes maxL ret wsC rm mc ms n)
    (q0 : Nat) (he : wc[q0]? = some (zO b ci fs)) (hc : vwCl[ci]? = some (C, T, N)) (hn : As.length = n) (hsize : ls.size = nL) (hst : st = As.reverse ++ .ref b :: rest) (hW : (rest.map fun v => v.category).sum ≤ 8) (hdg : decode cc pc = .ok (.invokevirtual index, 3)) (hf : cells + mc ≤ R.cells ∧ slots + ms ≤ R.slots)
    (kk : ∀ (u : S) (H1 : Heap) (locs1 : List Loc), va_P g vwCl (w1 u ++ wr) H1 → va_D A (w1 u ++ wr) → va_S A H0 H1 locs1 → W p l e R s m args below meth c H1 locs1 (cells + mc) (slots + ms) Q (F0 m (pc + 3) ls (.double v :: rest))) : W p l e R s m args below meth c H locs cells slots Q (F0 m pc ls st) := by
  subst hst
  have hP := hP.perm hpm
  have hD := hD.perm hpm
  have hPc : va_P g vwCl wc H := fun k q hk => hP.mem (List.mem_append_left _ (List.mem_of_getElem? hk))
  have hDc : va_D A wc := by
    rw [va_D_nodup] at hD ⊢
    rw [List.map_append, List.nodup_append] at hD
    exact ⟨hD.1.1, fun q hq => hD.2 q (List.mem_append_left _ hq)⟩
  have hFc : ∀ q, va_A wc H.size q → A q := by
    intro q h
    rcases va_A_mem.mp h with ⟨x, hx⟩ | h
    · exact (va_D_nodup.mp hDc).2 _ hx
    · exact hA q (Nat.le_trans hS.1 h)
  refine va_calld (va_runV S0 hM cw ⟨zW_blind, va_recv hK hPc hc he, fun U hU hW1 => ⟨rfl, by rw [hU], by rw [hU]; exact hPc, va_K.moved hW1.alike hK, hDc.weaken (fun _ _ _ _ => trivial), zNW_warm hW1 hN⟩⟩ rfl hn hsize rfl (lv_room hW) hdg hf) hS (fun q _ h => hFc q h) hFc (fun r u t H1 locs1 ht hvm hw hB hz1 hk1 hS1 => ?_)
  obtain ⟨hP1, hD1⟩ := hB
  rw [ht] at hP1
  subst hw
  obtain ⟨hP2, hD2⟩ := z_join hP hD hk1 hFc hP1 hD1
  exact kk u H1 locs1 hP2 hD2 hS1
/-- .. where no cell is made and the world has a tail: every cell back at its place -/
theorem z_tVd {w1 : va_W} {v : UInt64} (S0 : CallFix p m c cc nL s args Ts own) (hK : va_K g vwCl (zT ct) s) (hP : va_P g vwCl (X ++ pl) H) (hD : va_D A (X ++ pl)) (hS : va_S A H0 H locs) (hN : zNW s) (hA : ∀ q, H0.size ≤ q → A q)
    (isC isR isB : List Nat) (hC : isC.map (fun i => X[i]?) = wc.map some) (hR : isR.map (fun i => X[i]?) = wr.map some) (hB : isB.map (fun i => (w1 ++ wr)[i]?) = w2.map some) (hnC : va_nd (isC ++ isR) = true) (hle : X.length = wc.length + wr.length) (hle2 : w2.length = w1.length + wr.length) (hnB : va_nd isB = true)
    (hM : Met l y wsC rm (va_Pc (.ref b :: As) (zW g ct wc H.size)) (zEd g (fun _ : Unit => w1) v (va_A wc H.size)) 0 0 (va_A wc H.size)) (cw : CallW R s args own C index y bytes maxL ret wsC rm 0 0 n)
    (q0 : Nat) (he : wc[q0]? = some (zO b ci fs)) (hc : vwCl[ci]? = some (C, T, N)) (hn : As.length = n) (hsize : ls.size = nL) (hst : st = As.reverse ++ .ref b :: rest) (hW : (rest.map fun v => v.category).sum ≤ 8) (hdg : decode cc pc = .ok (.invokevirtual index, 3)) (hf : cells ≤ R.cells ∧ slots ≤ R.slots)
    (kk : ∀ (H1 : Heap) (locs1 : List Loc), va_P g vwCl (w2 ++ pl) H1 → va_D A (w2 ++ pl) → va_S A H0 H1 locs1 → W p l e R s m args below meth c H1 locs1 cells slots Q (F0 m (pc + 3) ls (.double v :: rest))) : W p l e R s m args below meth c H locs cells slots Q (F0 m pc ls st) := by
  have h1 : List.Perm X (wc ++ wr) := z_permI (isC ++ isR) hnC (by rw [List.map_append, List.map_append, hC, hR]) (by rw [List.length_append, hle])
  have h2 : List.Perm (w1 ++ wr) w2 := z_permI isB hnB hB (by rw [List.length_append, hle2])
  refine z_pVd (wr := wr ++ pl) S0 hK hP hD hS hN hA (by rw [← List.append_assoc]; exact h1.append_right pl) hM cw q0 he hc hn hsize hst hW hdg hf (fun u H1 locs1 hP1 hD1 hS1 => ?_)
  have h3 : List.Perm (w1 ++ (wr ++ pl)) (w2 ++ pl) := by rw [← List.append_assoc]; exact h2.append_right pl
  exact kk H1 locs1 (hP1.perm h3) (hD1.perm h3) hS1
/-- a call of a method that writes, its cells and the rest by an order of the world -/
theorem z_pVv {S : Type} {w1 : S → va_W} (S0 : CallFix p m c cc nL s args Ts own) (hK : va_K g vwCl (zT ct) s) (hP : va_P g vwCl ws H) (hD : va_D A ws) (hS : va_S A H0 H locs) (hN : zNW s) (hA : ∀ q, H0.size ≤ q → A q)
    (hpm : List.Perm ws (wc ++ wr)) (hM : Met l y wsC rm (va_Pc (.ref b :: As) (zW g ct wc H.size)) (zEv g w1 (va_A wc H.size)) mc ms (va_A wc H.size)) (cw : CallW R s args own C index y bytes maxL ret wsC rm mc ms n)
    (q0 : Nat) (he : wc[q0]? = some (zO b ci fs)) (hc : vwCl[ci]? = some (C, T, N)) (hn : As.length = n) (hsize : ls.size = nL) (hst : st = As.reverse ++ .ref b :: rest) (hW : (rest.map fun v => v.category).sum ≤ 8) (hdg : decode cc pc = .ok (.invokevirtual index, 3)) (hf : cells + mc ≤ R.cells ∧ slots + ms ≤ R.slots)
    (kk : ∀ (u : S) (H1 : Heap) (locs1 : List Loc), va_P g vwCl (w1 u ++ wr) H1 → va_D A (w1 u ++ wr) → va_S A H0 H1 locs1 → W p l e R s m args below meth c H1 locs1 (cells + mc) (slots + ms) Q (F0 m (pc + 3) ls (rest))) : W p l e R s m args below meth c H locs cells slots Q (F0 m pc ls st) := by
  subst hst
  have hP := hP.perm hpm
  have hD := hD.perm hpm
  have hPc : va_P g vwCl wc H := fun k q hk => hP.mem (List.mem_append_left _ (List.mem_of_getElem? hk))
  have hDc : va_D A wc := by
    rw [va_D_nodup] at hD ⊢
    rw [List.map_append, List.nodup_append] at hD
    exact ⟨hD.1.1, fun q hq => hD.2 q (List.mem_append_left _ hq)⟩
  have hFc : ∀ q, va_A wc H.size q → A q := by
    intro q h
    rcases va_A_mem.mp h with ⟨x, hx⟩ | h
    · exact (va_D_nodup.mp hDc).2 _ hx
    · exact hA q (Nat.le_trans hS.1 h)
  refine va_callv (va_runV S0 hM cw ⟨zW_blind, va_recv hK hPc hc he, fun U hU hW1 => ⟨rfl, by rw [hU], by rw [hU]; exact hPc, va_K.moved hW1.alike hK, hDc.weaken (fun _ _ _ _ => trivial), zNW_warm hW1 hN⟩⟩ rfl hn hsize rfl (lv_room hW) hdg hf) hS (fun q _ h => hFc q h) hFc (fun u t H1 locs1 ht hvm hw hB hz1 hk1 hS1 => ?_)
  obtain ⟨hP1, hD1⟩ := hB
  rw [ht] at hP1
  obtain ⟨hP2, hD2⟩ := z_join hP hD hk1 hFc hP1 hD1
  exact kk u H1 locs1 hP2 hD2 hS1
/-- .. where no cell is made and the world has a tail: every cell back at its place -/
theorem z_tVv {w1 : va_W} (S0 : CallFix p m c cc nL s args Ts own) (hK : va_K g vwCl (zT ct) s) (hP : va_P g vwCl (X ++ pl) H) (hD : va_D A (X ++ pl)) (hS : va_S A H0 H locs) (hN : zNW s) (hA : ∀ q, H0.size ≤ q → A q)
    (isC isR isB : List Nat) (hC : isC.map (fun i => X[i]?) = wc.map some) (hR : isR.map (fun i => X[i]?) = wr.map some) (hB : isB.map (fun i => (w1 ++ wr)[i]?) = w2.map some) (hnC : va_nd (isC ++ isR) = true) (hle : X.length = wc.length + wr.length) (hle2 : w2.length = w1.length + wr.length) (hnB : va_nd isB = true)
    (hM : Met l y wsC rm (va_Pc (.ref b :: As) (zW g ct wc H.size)) (zEv g (fun _ : Unit => w1) (va_A wc H.size)) 0 0 (va_A wc H.size)) (cw : CallW R s args own C index y bytes maxL ret wsC rm 0 0 n)
    (q0 : Nat) (he : wc[q0]? = some (zO b ci fs)) (hc : vwCl[ci]? = some (C, T, N)) (hn : As.length = n) (hsize : ls.size = nL) (hst : st = As.reverse ++ .ref b :: rest) (hW : (rest.map fun v => v.category).sum ≤ 8) (hdg : decode cc pc = .ok (.invokevirtual index, 3)) (hf : cells ≤ R.cells ∧ slots ≤ R.slots)
    (kk : ∀ (H1 : Heap) (locs1 : List Loc), va_P g vwCl (w2 ++ pl) H1 → va_D A (w2 ++ pl) → va_S A H0 H1 locs1 → W p l e R s m args below meth c H1 locs1 cells slots Q (F0 m (pc + 3) ls (rest))) : W p l e R s m args below meth c H locs cells slots Q (F0 m pc ls st) := by
  have h1 : List.Perm X (wc ++ wr) := z_permI (isC ++ isR) hnC (by rw [List.map_append, List.map_append, hC, hR]) (by rw [List.length_append, hle])
  have h2 : List.Perm (w1 ++ wr) w2 := z_permI isB hnB hB (by rw [List.length_append, hle2])
  refine z_pVv (wr := wr ++ pl) S0 hK hP hD hS hN hA (by rw [← List.append_assoc]; exact h1.append_right pl) hM cw q0 he hc hn hsize hst hW hdg hf (fun u H1 locs1 hP1 hD1 hS1 => ?_)
  have h3 : List.Perm (w1 ++ (wr ++ pl)) (w2 ++ pl) := by rw [← List.append_assoc]; exact h2.append_right pl
  exact kk H1 locs1 (hP1.perm h3) (hD1.perm h3) hS1
/-- a constructor of a nest mate, the world with a tail -/
theorem z_tIv {S : Type} {w1 : S → va_W} (S0 : CallFix p m c cc nL s args Ts own) (hK : va_K g vwCl (zT ct) s) (hP : va_P g vwCl (X ++ pl) H) (hD : va_D A (X ++ pl)) (hS : va_S A H0 H locs) (hN : zNW s) (hA : ∀ q, H0.size ≤ q → A q)
    (isC isR : List Nat) (hC : isC.map (fun i => X[i]?) = wc.map some) (hR : isR.map (fun i => X[i]?) = wr.map some) (hnC : va_nd (isC ++ isR) = true) (hle : X.length = wc.length + wr.length)
    (hM : Met l y wsC rm (va_Pc (.ref b :: As) (zW g ct wc H.size)) (zEv g w1 (va_A wc H.size)) mc ms (va_A wc H.size)) {host : String} (cw : va_CN R s args own index y host bytes maxL none wsC rm mc ms n ∧ y.name = "<init>" ∧ (Cond.instanceMethod y).before args s = true)
    (hn : As.length = n) (hsize : ls.size = nL) (hst : st = As.reverse ++ .ref b :: rest) (hW : (rest.map fun v => v.category).sum ≤ 8) (hdg : decode cc pc = .ok (.invokespecial index, 3)) (hf : cells + mc ≤ R.cells ∧ slots + ms ≤ R.slots)
    (kk : ∀ (u : S) (H1 : Heap) (locs1 : List Loc), va_P g vwCl ((wr ++ w1 u) ++ pl) H1 → va_D A ((wr ++ w1 u) ++ pl) → va_S A H0 H1 locs1 → W p l e R s m args below meth c H1 locs1 (cells + mc) (slots + ms) Q (F0 m (pc + 3) ls rest)) : W p l e R s m args below meth c H locs cells slots Q (F0 m pc ls st) := by
  subst hst
  have h1 : List.Perm X (wc ++ wr) := z_permI (isC ++ isR) hnC (by rw [List.map_append, List.map_append, hC, hR]) (by rw [List.length_append, hle])
  have h2 : List.Perm (X ++ pl) (wc ++ (wr ++ pl)) := by rw [← List.append_assoc]; exact h1.append_right pl
  have hP := hP.perm h2
  have hD := hD.perm h2
  have hPc : va_P g vwCl wc H := fun k q hk => hP.mem (List.mem_append_left _ (List.mem_of_getElem? hk))
  have hDc : va_D A wc := by
    rw [va_D_nodup] at hD ⊢
    rw [List.map_append, List.nodup_append] at hD
    exact ⟨hD.1.1, fun q hq => hD.2 q (List.mem_append_left _ hq)⟩
  have hFc : ∀ q, va_A wc H.size q → A q := by
    intro q h
    rcases va_A_mem.mp h with ⟨x, hx⟩ | h
    · exact (va_D_nodup.mp hDc).2 _ hx
    · exact hA q (Nat.le_trans hS.1 h)
  refine va_callv (va_runIN S0 hM cw ⟨zW_blind, fun U hU hW1 => ⟨rfl, by rw [hU], by rw [hU]; exact hPc, va_K.moved hW1.alike hK, hDc.weaken (fun _ _ _ _ => trivial), zNW_warm hW1 hN⟩⟩ rfl hn hsize rfl (lv_room hW) hdg hf) hS (fun q _ h => hFc q h) hFc (fun u t H1 locs1 ht hvm hw hB hz1 hk1 hS1 => ?_)
  obtain ⟨hP1, hD1⟩ := hB
  rw [ht] at hP1
  obtain ⟨hP2, hD2⟩ := z_join hP hD hk1 hFc hP1 hD1
  have h3 : List.Perm (w1 u ++ (wr ++ pl)) ((wr ++ w1 u) ++ pl) := by rw [← List.append_assoc]; exact List.Perm.append_right pl List.perm_append_comm
  exact kk u H1 locs1 (hP2.perm h3) (hD2.perm h3) hS1
theorem z_aald (hexec : p.tables.exec = Jvm.exec) (hb : c.code = cc) (hK : va_K g vwCl (zT ct) s) (hP : va_P g vwCl ws H) (q0 : Nat) {a n : Nat} {f : Nat → Option Nat} (ha : ws[q0]? = some (zQ ct a n f)) {k : Nat} (hk : k < n) (hn : n < 2 ^ 31) {v : Value} (hv : va_rf (f k) = v) (hdg : decode cc pc = .ok (.aaload, 1))
    (kk : W p l e R s m args below meth c H locs cells slots Q (F0 m (pc + 1) ls (v :: rest))) : W p l e R s m args below meth c H locs cells slots Q (F0 m pc ls (.int (nI k) :: .ref a :: rest)) := by
  subst hv
  refine va_aldq hexec hb hK hP q0 5 ha rfl (vp_in_nI hk hn) hdg ?_
  rw [nI_clamp (Nat.lt_trans hk hn)]
  exact kk
theorem z_aast (hexec : p.tables.exec = Jvm.exec) (hb : c.code = cc) (hK : va_K g vwCl (zT ct) s) (hP : va_P g vwCl ws H) (hD : va_D A ws) (hS : va_S A H0 H locs) (q0 qk : Nat) {a n v : Nat} {vs : List Value} {f : Nat → Option Nat} (ha : ws[q0]? = some (zQ ct a n f)) (hv : ws[qk]? = some (zO v 5 vs)) {k : Nat} (hk : k < n) (hn : n < 2 ^ 31) (hdg : decode cc pc = .ok (.aastore, 1))
    (kk : ∀ (H1 : Heap) (locs1 : List Loc), va_P g vwCl (ws.set q0 (zQ ct a n (va_up f k (some v)))) H1 → va_D A (ws.set q0 (zQ ct a n (va_up f k (some v)))) → va_S A H0 H1 locs1 → W p l e R s m args below meth c H1 locs1 cells slots Q (F0 m (pc + 1) ls rest)) : W p l e R s m args below meth c H locs cells slots Q (F0 m pc ls (.ref v :: .int (nI k) :: .ref a :: rest)) := by
  refine va_astq hexec hb hK hP hD hS q0 5 qk 5 (r := (RX6, TX6, 11)) ha rfl hv rfl (vp_in_nI hk hn) hdg ?_
  rw [nI_clamp (Nat.lt_trans hk hn)]
  exact kk
end ZCT
