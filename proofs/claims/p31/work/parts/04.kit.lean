/-! common words: arrays and objects as cells, rows with numbers as indices, calls in one row -/
abbrev zT (ct : Nat → ClassId) : List (ClassId × FieldType) := [(ct 0, .int), (ct 1, .long), (ct 2, .boolean), (ct 3, .char), (ct 4, .double), (ct 5, .object RX6)]
abbrev zI (ct : Nat → ClassId) (a n : Nat) (f : Nat → Int32) : Nat × va_E := (a, .inl (ct 0, n, .inl f))
abbrev zL (ct : Nat → ClassId) (a n : Nat) (f : Nat → Int64) : Nat × va_E := (a, .inl (ct 1, n, .inr (.inl f)))
abbrev zZ (ct : Nat → ClassId) (a n : Nat) (f : Nat → Int32) : Nat × va_E := (a, .inl (ct 2, n, .inl f))
abbrev zC (ct : Nat → ClassId) (a n : Nat) (f : Nat → Int32) : Nat × va_E := (a, .inl (ct 3, n, .inl f))
abbrev zD (ct : Nat → ClassId) (a n : Nat) (f : Nat → UInt64) : Nat × va_E := (a, .inl (ct 4, n, .inr (.inr (.inr (.inl f)))))
/-- an array of doubles, said by their bits -/
abbrev zE (ct : Nat → ClassId) (a n : Nat) (f : Nat → Int64) : Nat × va_E := zD ct a n (fun i => (f i).toUInt64)
abbrev zQ (ct : Nat → ClassId) (a n : Nat) (f : Nat → Option Nat) : Nat × va_E := (a, .inl (ct 5, n, .inr (.inr (.inr (.inr f)))))
abbrev zO (a ci : Nat) (fs : List Value) : Nat × va_E := (a, .inr (ci, fs))
abbrev zRm (f k : Nat) : Room := { frames := f, cells := 0, slots := 0, locals := k }
abbrev zRc (f c z k : Nat) : Room := { frames := f, cells := c, slots := z, locals := k }
/-- what the tables say that is no word of a method: links of private constructors among nest mates, and the rows of states -/
def zNWs : List Cond := [.methodLinkNest RX9 9 yX6_init RX9, .methodLinkNest RX6 11 yX5_init RX9, .methodLinkNest RX6 20 yX1_init RX9, .methodLinkNest RX6 27 yX7_init RX9, .methodLinkNest RX6 34 yX4_init RX9, .methodLinkNest RX6 41 yX0_init RX9, .methodLinkNest RX9 21 yX2_init RX9, .methodLinkNest RX9 28 yX8_init RX9, .methodLinkNest RX2 28 yX6_init RX9]
def zNW (U : State) : Prop := va_AO RX6 U ∧ ∀ w ∈ zNWs, va_Nw w U
theorem zNW_on : ∀ w ∈ zNWs, w.onTables = true := by decide +kernel
theorem zNW_warm {s U : State} (hW : s.WarmedH U.vm) (h : zNW s) : zNW U := by
  refine ⟨va_AO.moved hW.alike h.1, ?_⟩
  have key : ∀ (a : String) (i : Nat) (x : MethodName) (hh : String), Cond.methodLinkNest a i x hh ∈ zNWs → va_Nw (.methodLinkNest a i x hh) U := fun a i x hh hm => va_Nw.warmM hW (h.2 _ hm)
  intro w hw
  simp only [zNWs, List.mem_cons, List.not_mem_nil, or_false] at hw
  rcases hw with rfl | rfl | rfl | rfl | rfl | rfl | rfl | rfl | rfl <;> exact key _ _ _ _ (by simp [zNWs])
theorem zNW_same {u U : State} (e : u.vm = U.vm) (h : zNW u) : zNW U := by
  refine ⟨?_, fun w hw => va_Nw.same (zNW_on w hw) e (h.2 w hw)⟩
  exact va_AO.moved (by rw [e]; exact Vm.Alike.refl _) h.1
/-- what a method that reads finds -/
def zR (g : va_G) (ct : Nat → ClassId) (wc : va_W) : State → Prop := fun U => va_P g vwCl wc U.heap ∧ va_K g vwCl (zT ct) U
/-- what a method that writes finds -/
def zW (g : va_G) (ct : Nat → ClassId) (wc : va_W) (sz : Nat) : State → Prop := fun U => U.heap.size = sz ∧ va_P g vwCl wc U.heap ∧ va_K g vwCl (zT ct) U ∧ va_D (fun _ => True) wc ∧ zNW U
theorem zR_blind {g : va_G} {ct : Nat → ClassId} {wc : va_W} {av : List Value} : FrameBlind (va_Pc av (zR g ct wc)) := fun a U gg mk q => by
  obtain ⟨q0, qP, qK⟩ := q
  exact ⟨q0, qP, va_K.moved (u := U) (U := U.calling gg mk a) (Vm.Alike.refl U.vm) qK⟩
theorem zW_blind {g : va_G} {ct : Nat → ClassId} {wc : va_W} {sz : Nat} {av : List Value} : FrameBlind (va_Pc av (zW g ct wc sz)) := fun a U gg mk q => by
  obtain ⟨q0, q1, qP, qK, qD, qN⟩ := q
  exact ⟨q0, q1, qP, va_K.moved (u := U) (U := U.calling gg mk a) (Vm.Alike.refl U.vm) qK, qD, zNW_same (u := U) (U := U.calling gg mk a) rfl qN⟩
theorem zS_blind {av : List Value} : FrameBlind (va_Pc av (fun _ => True)) := fun _ _ _ _ q => ⟨q.1, trivial⟩
/-- the same addresses are apart as before -/
theorem z_same {A : Nat → Prop} {w w1 : va_W} (h : va_D A w) (e : w1.map Prod.fst = w.map Prod.fst) : va_D A w1 := by
  have key : ∀ (k : Nat) (q : Nat × va_E), w1[k]? = some q → ∃ q0, w[k]? = some q0 ∧ q0.1 = q.1 := by
    intro k q hk
    have h1 : (w1.map Prod.fst)[k]? = some q.1 := by rw [List.getElem?_map, hk]; rfl
    rw [e, List.getElem?_map] at h1
    cases hw : w[k]? with
    | none => rw [hw] at h1; cases h1
    | some q0 => rw [hw] at h1; exact ⟨q0, rfl, Option.some.inj h1⟩
  refine ⟨fun i j x y hi hj hxy => ?_, fun k q hk => ?_⟩
  · obtain ⟨x0, a1, a2⟩ := key i x hi
    obtain ⟨y0, b1, b2⟩ := key j y hj
    exact h.1 i j x0 y0 a1 b1 (a2.trans (hxy.trans b2.symm))
  · obtain ⟨q0, a1, a2⟩ := key k q hk
    rw [← a2]
    exact h.2 k q0 a1
/-- the ends of methods that write: the answer, and the cells behind it; S: what the end tells (new addresses) -/
def zEi {S : Type} (g : va_G) (w1 : S → va_W) (v : Int32) (A : Nat → Prop) := va_Qi (fun (r : Int32) (_ : S) => r = v) (fun u t => va_P g vwCl (w1 u) t.heap ∧ va_D A (w1 u)) A
def zEl {S : Type} (g : va_G) (w1 : S → va_W) (v : Int64) (A : Nat → Prop) := va_Ql (fun (r : Int64) (_ : S) => r = v) (fun u t => va_P g vwCl (w1 u) t.heap ∧ va_D A (w1 u)) A
def zEd {S : Type} (g : va_G) (w1 : S → va_W) (v : UInt64) (A : Nat → Prop) := va_Qd (fun (r : UInt64) (_ : S) => r = v) (fun u t => va_P g vwCl (w1 u) t.heap ∧ va_D A (w1 u)) A
def zEv {S : Type} (g : va_G) (w1 : S → va_W) (A : Nat → Prop) := va_Qv (fun (_ : S) => True) (fun u t => va_P g vwCl (w1 u) t.heap ∧ va_D A (w1 u)) A
abbrev zQi (g : va_G) (w1 : va_W) (v : Int32) (A : Nat → Prop) := zEi (S := Unit) g (fun _ => w1) v A
abbrev zQl (g : va_G) (w1 : va_W) (v : Int64) (A : Nat → Prop) := zEl (S := Unit) g (fun _ => w1) v A
abbrev zQd (g : va_G) (w1 : va_W) (v : UInt64) (A : Nat → Prop) := zEd (S := Unit) g (fun _ => w1) v A
abbrev zQv (g : va_G) (w1 : va_W) (A : Nat → Prop) := zEv (S := Unit) g (fun _ => w1) A
/-- the start of a method that reads -/
theorem z_read {l : Launch} {y : MethodName} {ws ws' : List Cond} {rm : Room} {g : va_G} {ct : Nat → ClassId} {wc : va_W} {av : List Value} {Q : Array Value → State → Outcome → State → Prop} {cc : ByteArray} {maxL : Nat} {ret : Option FieldType}
    (hy : plainName y.cls = true) (hw : ws = Cond.code y cc maxL ret :: ws') (hav : (lg_sl av).length ≤ maxL)
    (body : ∀ (p : Program) (e : Env) (s : State) (m : MethodId) (below : List Frame) (meth : Method) (c : Code) (ls : Array Slot), p.tables.exec = Jvm.exec → c.code = cc → meth.sig.returnType = ret → c.maxLocals = maxL → (∀ w ∈ ws, w.before av.toArray s = true) → s.vm.findClass y.cls = some m.cls → meth.locks = false → va_P g vwCl wc s.heap → va_K g vwCl (zT ct) s → lv_has ls maxL (lv_args 0 av) →
      W p l e rm s m av.toArray below meth c s.heap [] 0 0 (MQ below Q av.toArray s 0 0 (fun _ => False)) (F0 m 0 ls [])) :
    Met l y ws rm (va_Pc av (zR g ct wc)) Q 0 0 (fun _ => False) := by
  refine Met.ofW (cc := cc) (maxL := maxL) (ret := ret) hy hw ?_
  intro p e s m args below meth c s₁ B hml hv
  obtain ⟨rfl, hP, hK⟩ := hv
  have hl := lv_entry av (n := maxL) hav
  rw [lg_entry_eq]
  exact body p e s m below meth c _ B.exec B.bytes B.returns hml (atoms_spec (ws := ws) B.pre) (findClass_of_methodNamed B.named) B.notSynchronized hP hK hl
/-- the start of a static method that needs no cells -/
theorem z_stat {l : Launch} {y : MethodName} {ws ws' : List Cond} {rm : Room} {av : List Value} {Q : Array Value → State → Outcome → State → Prop} {cc : ByteArray} {maxL : Nat} {ret : Option FieldType}
    (hy : plainName y.cls = true) (hw : ws = Cond.code y cc maxL ret :: ws') (hav : (lg_sl av).length ≤ maxL)
    (body : ∀ (p : Program) (e : Env) (s : State) (m : MethodId) (below : List Frame) (meth : Method) (c : Code) (ls : Array Slot), p.tables.exec = Jvm.exec → c.code = cc → meth.sig.returnType = ret → c.maxLocals = maxL → (∀ w ∈ ws, w.before av.toArray s = true) → s.vm.findClass y.cls = some m.cls → meth.locks = false → lv_has ls maxL (lv_args 0 av) →
      W p l e rm s m av.toArray below meth c s.heap [] 0 0 (MQ below Q av.toArray s 0 0 (fun _ => False)) (F0 m 0 ls [])) :
    Met l y ws rm (va_Pc av (fun _ => True)) Q 0 0 (fun _ => False) := by
  refine Met.ofW (cc := cc) (maxL := maxL) (ret := ret) hy hw ?_
  intro p e s m args below meth c s₁ B hml hv
  obtain ⟨rfl, -⟩ := hv
  have hl := lv_entry av (n := maxL) hav
  rw [lg_entry_eq]
  exact body p e s m below meth c _ B.exec B.bytes B.returns hml (atoms_spec (ws := ws) B.pre) (findClass_of_methodNamed B.named) B.notSynchronized hl
/-- the start of a method that writes -/
theorem z_write {l : Launch} {y : MethodName} {ws ws' : List Cond} {rm : Room} {g : va_G} {ct : Nat → ClassId} {wc : va_W} {sz : Nat} {av : List Value} {QA : (Nat → Prop) → Array Value → State → Outcome → State → Prop} {cc : ByteArray} {maxL mc ms : Nat} {ret : Option FieldType}
    (hy : plainName y.cls = true) (hw : ws = Cond.code y cc maxL ret :: ws') (hav : (lg_sl av).length ≤ maxL)
    (body : ∀ (p : Program) (e : Env) (s : State) (m : MethodId) (below : List Frame) (meth : Method) (c : Code) (ls : Array Slot) (A : Nat → Prop), p.tables.exec = Jvm.exec → c.code = cc → meth.sig.returnType = ret → c.maxLocals = maxL → (∀ w ∈ ws, w.before av.toArray s = true) → s.vm.findClass y.cls = some m.cls → meth.locks = false → meth.name = y.name → va_P g vwCl wc s.heap → va_K g vwCl (zT ct) s → va_D A wc → zNW s → (∀ q, s.heap.size ≤ q → A q) → va_S A s.heap s.heap [] → lv_has ls maxL (lv_args 0 av) →
      W p l e rm s m av.toArray below meth c s.heap [] 0 0 (MQ below (QA A) av.toArray s mc ms A) (F0 m 0 ls [])) :
    Met l y ws rm (va_Pc av (zW g ct wc sz)) (QA (va_A wc sz)) mc ms (va_A wc sz) := by
  refine Met.ofW (cc := cc) (maxL := maxL) (ret := ret) hy hw ?_
  intro p e s m args below meth c s₁ B hml hv
  obtain ⟨rfl, hsz, hP, hK, hD0, hN⟩ := hv
  have hl := lv_entry av (n := maxL) hav
  rw [lg_entry_eq]
  subst hsz
  exact body p e s m below meth c _ _ B.exec B.bytes B.returns hml (atoms_spec (ws := ws) B.pre) (findClass_of_methodNamed B.named) B.notSynchronized (name_of_methodNamed B.named B.method).1 hP hK (hD0.self (sz := s.heap.size)) hN (fun _ h => Or.inr h) va_S.rf hl
section ZROWS
variable {p : Program} {l : Launch} {e : Env} {R : Room} {s : State} {m : MethodId} {args : Array Value} {below : List Frame} {meth : Method} {c : Code} {H : Heap} {locs : List Loc} {cells slots : Nat} {Q : State → Prop}
variable {cc : ByteArray} {pc : Nat} {ls : Array Slot} {rest : List Value} {g : va_G} {A : Nat → Prop} {a : Nat} {ct : Nat → ClassId} {ws : va_W} {H0 : Heap}
theorem z_iald (hexec : p.tables.exec = Jvm.exec) (hb : c.code = cc) (hK : va_K g vwCl (zT ct) s) (hP : va_P g vwCl ws H) (q0 : Nat) {n : Nat} {f : Nat → Int32} (ha : ws[q0]? = some (zI ct a n f)) {k : Nat} (hk : k < n) (hn : n < 2 ^ 31) (hdg : decode cc pc = .ok (.iaload, 1))
    (kk : W p l e R s m args below meth c H locs cells slots Q (F0 m (pc + 1) ls (.int (f k) :: rest))) : W p l e R s m args below meth c H locs cells slots Q (F0 m pc ls (.int (nI k) :: .ref a :: rest)) := by
  refine va_iald hexec hb hK hP q0 0 ha rfl (vp_in_nI hk hn) hdg ?_
  rw [nI_clamp (Nat.lt_trans hk hn)]
  exact kk
theorem z_zald (hexec : p.tables.exec = Jvm.exec) (hb : c.code = cc) (hK : va_K g vwCl (zT ct) s) (hP : va_P g vwCl ws H) (q0 : Nat) {n : Nat} {f : Nat → Int32} (ha : ws[q0]? = some (zZ ct a n f)) {k : Nat} (hk : k < n) (hn : n < 2 ^ 31) (hdg : decode cc pc = .ok (.baload, 1))
    (kk : W p l e R s m args below meth c H locs cells slots Q (F0 m (pc + 1) ls (.int (f k) :: rest))) : W p l e R s m args below meth c H locs cells slots Q (F0 m pc ls (.int (nI k) :: .ref a :: rest)) := by
  refine va_zald hexec hb hK hP q0 2 ha rfl (vp_in_nI hk hn) hdg ?_
  rw [nI_clamp (Nat.lt_trans hk hn)]
  exact kk
theorem z_cald (hexec : p.tables.exec = Jvm.exec) (hb : c.code = cc) (hK : va_K g vwCl (zT ct) s) (hP : va_P g vwCl ws H) (q0 : Nat) {n : Nat} {f : Nat → Int32} (ha : ws[q0]? = some (zC ct a n f)) {k : Nat} (hk : k < n) (hn : n < 2 ^ 31) (hdg : decode cc pc = .ok (.caload, 1))
    (kk : W p l e R s m args below meth c H locs cells slots Q (F0 m (pc + 1) ls (.int (f k) :: rest))) : W p l e R s m args below meth c H locs cells slots Q (F0 m pc ls (.int (nI k) :: .ref a :: rest)) := by
  refine va_cald hexec hb hK hP q0 3 ha rfl (vp_in_nI hk hn) hdg ?_
  rw [nI_clamp (Nat.lt_trans hk hn)]
  exact kk
theorem z_lald (hexec : p.tables.exec = Jvm.exec) (hb : c.code = cc) (hK : va_K g vwCl (zT ct) s) (hP : va_P g vwCl ws H) (q0 : Nat) {n : Nat} {f : Nat → Int64} (ha : ws[q0]? = some (zL ct a n f)) {k : Nat} (hk : k < n) (hn : n < 2 ^ 31) (hdg : decode cc pc = .ok (.laload, 1))
    (kk : W p l e R s m args below meth c H locs cells slots Q (F0 m (pc + 1) ls (.long (f k) :: rest))) : W p l e R s m args below meth c H locs cells slots Q (F0 m pc ls (.int (nI k) :: .ref a :: rest)) := by
  refine va_lald hexec hb hK hP q0 1 ha rfl (vp_in_nI hk hn) hdg ?_
  rw [nI_clamp (Nat.lt_trans hk hn)]
  exact kk
theorem z_dald (hexec : p.tables.exec = Jvm.exec) (hb : c.code = cc) (hK : va_K g vwCl (zT ct) s) (hP : va_P g vwCl ws H) (q0 : Nat) {n : Nat} {f : Nat → UInt64} (ha : ws[q0]? = some (zD ct a n f)) {k : Nat} (hk : k < n) (hn : n < 2 ^ 31) (hdg : decode cc pc = .ok (.daload, 1))
    (kk : W p l e R s m args below meth c H locs cells slots Q (F0 m (pc + 1) ls (.double (f k) :: rest))) : W p l e R s m args below meth c H locs cells slots Q (F0 m pc ls (.int (nI k) :: .ref a :: rest)) := by
  refine va_dald hexec hb hK hP q0 4 ha rfl (vp_in_nI hk hn) hdg ?_
  rw [nI_clamp (Nat.lt_trans hk hn)]
  exact kk
theorem z_iast (hexec : p.tables.exec = Jvm.exec) (hb : c.code = cc) (hK : va_K g vwCl (zT ct) s) (hP : va_P g vwCl ws H) (hD : va_D A ws) (hS : va_S A H0 H locs) (q0 : Nat) {n : Nat} {f : Nat → Int32} (ha : ws[q0]? = some (zI ct a n f)) {k : Nat} {x : Int32} (hk : k < n) (hn : n < 2 ^ 31) (hdg : decode cc pc = .ok (.iastore, 1))
    (kk : ∀ (H1 : Heap) (locs1 : List Loc), va_P g vwCl (ws.set q0 (zI ct a n (upd f k x))) H1 → va_D A (ws.set q0 (zI ct a n (upd f k x))) → va_S A H0 H1 locs1 → W p l e R s m args below meth c H1 locs1 cells slots Q (F0 m (pc + 1) ls rest)) : W p l e R s m args below meth c H locs cells slots Q (F0 m pc ls (.int x :: .int (nI k) :: .ref a :: rest)) := by
  refine va_iast hexec hb hK hP hD hS q0 0 ha rfl (vp_in_nI hk hn) hdg ?_
  rw [nI_clamp (Nat.lt_trans hk hn)]
  exact kk
theorem z_zast (hexec : p.tables.exec = Jvm.exec) (hb : c.code = cc) (hK : va_K g vwCl (zT ct) s) (hP : va_P g vwCl ws H) (hD : va_D A ws) (hS : va_S A H0 H locs) (q0 : Nat) {n : Nat} {f : Nat → Int32} (ha : ws[q0]? = some (zZ ct a n f)) {k : Nat} {x : Int32} (hx : vp_nar .boolean x = x) (hk : k < n) (hn : n < 2 ^ 31) (hdg : decode cc pc = .ok (.bastore, 1))
    (kk : ∀ (H1 : Heap) (locs1 : List Loc), va_P g vwCl (ws.set q0 (zZ ct a n (upd f k x))) H1 → va_D A (ws.set q0 (zZ ct a n (upd f k x))) → va_S A H0 H1 locs1 → W p l e R s m args below meth c H1 locs1 cells slots Q (F0 m (pc + 1) ls rest)) : W p l e R s m args below meth c H locs cells slots Q (F0 m pc ls (.int x :: .int (nI k) :: .ref a :: rest)) := by
  refine va_zast hexec hb hK hP hD hS q0 2 ha rfl (vp_in_nI hk hn) hdg ?_
  rw [nI_clamp (Nat.lt_trans hk hn), hx]
  exact kk
theorem z_cast (hexec : p.tables.exec = Jvm.exec) (hb : c.code = cc) (hK : va_K g vwCl (zT ct) s) (hP : va_P g vwCl ws H) (hD : va_D A ws) (hS : va_S A H0 H locs) (q0 : Nat) {n : Nat} {f : Nat → Int32} (ha : ws[q0]? = some (zC ct a n f)) {k : Nat} {x : Int32} (hx : vp_nar .char x = x) (hk : k < n) (hn : n < 2 ^ 31) (hdg : decode cc pc = .ok (.castore, 1))
    (kk : ∀ (H1 : Heap) (locs1 : List Loc), va_P g vwCl (ws.set q0 (zC ct a n (upd f k x))) H1 → va_D A (ws.set q0 (zC ct a n (upd f k x))) → va_S A H0 H1 locs1 → W p l e R s m args below meth c H1 locs1 cells slots Q (F0 m (pc + 1) ls rest)) : W p l e R s m args below meth c H locs cells slots Q (F0 m pc ls (.int x :: .int (nI k) :: .ref a :: rest)) := by
  refine va_cast hexec hb hK hP hD hS q0 3 ha rfl (vp_in_nI hk hn) hdg ?_
  rw [nI_clamp (Nat.lt_trans hk hn), hx]
  exact kk
theorem z_last (hexec : p.tables.exec = Jvm.exec) (hb : c.code = cc) (hK : va_K g vwCl (zT ct) s) (hP : va_P g vwCl ws H) (hD : va_D A ws) (hS : va_S A H0 H locs) (q0 : Nat) {n : Nat} {f : Nat → Int64} (ha : ws[q0]? = some (zL ct a n f)) {k : Nat} {x : Int64} (hk : k < n) (hn : n < 2 ^ 31) (hdg : decode cc pc = .ok (.lastore, 1))
    (kk : ∀ (H1 : Heap) (locs1 : List Loc), va_P g vwCl (ws.set q0 (zL ct a n (vp_updL f k x))) H1 → va_D A (ws.set q0 (zL ct a n (vp_updL f k x))) → va_S A H0 H1 locs1 → W p l e R s m args below meth c H1 locs1 cells slots Q (F0 m (pc + 1) ls rest)) : W p l e R s m args below meth c H locs cells slots Q (F0 m pc ls (.long x :: .int (nI k) :: .ref a :: rest)) := by
  refine va_last hexec hb hK hP hD hS q0 1 ha rfl (vp_in_nI hk hn) hdg ?_
  rw [nI_clamp (Nat.lt_trans hk hn)]
  exact kk
theorem z_dast (hexec : p.tables.exec = Jvm.exec) (hb : c.code = cc) (hK : va_K g vwCl (zT ct) s) (hP : va_P g vwCl ws H) (hD : va_D A ws) (hS : va_S A H0 H locs) (q0 : Nat) {n : Nat} {f : Nat → UInt64} (ha : ws[q0]? = some (zD ct a n f)) {k : Nat} {x : UInt64} (hk : k < n) (hn : n < 2 ^ 31) (hdg : decode cc pc = .ok (.dastore, 1))
    (kk : ∀ (H1 : Heap) (locs1 : List Loc), va_P g vwCl (ws.set q0 (zD ct a n (vf_upd f k x))) H1 → va_D A (ws.set q0 (zD ct a n (vf_upd f k x))) → va_S A H0 H1 locs1 → W p l e R s m args below meth c H1 locs1 cells slots Q (F0 m (pc + 1) ls rest)) : W p l e R s m args below meth c H locs cells slots Q (F0 m pc ls (.double x :: .int (nI k) :: .ref a :: rest)) := by
  refine va_dast hexec hb hK hP hD hS q0 4 ha rfl (vp_in_nI hk hn) hdg ?_
  rw [nI_clamp (Nat.lt_trans hk hn)]
  exact kk
/-- arithmetic on numbers -/
theorem z_iaddN (hexec : p.tables.exec = Jvm.exec) (hb : c.code = cc) {x y : Nat} (hdg : decode cc pc = .ok (.iadd, 1)) (k : W p l e R s m args below meth c H locs cells slots Q (F0 m (pc + 1) ls (.int (nI (x + y)) :: rest))) : W p l e R s m args below meth c H locs cells slots Q (F0 m pc ls (.int (nI y) :: .int (nI x) :: rest)) := by
  refine lv_iadd hexec hb hdg ?_
  rw [nI_add]
  exact k
theorem z_imulN (hexec : p.tables.exec = Jvm.exec) (hb : c.code = cc) {x y : Nat} (hdg : decode cc pc = .ok (.imul, 1)) (k : W p l e R s m args below meth c H locs cells slots Q (F0 m (pc + 1) ls (.int (nI (x * y)) :: rest))) : W p l e R s m args below meth c H locs cells slots Q (F0 m pc ls (.int (nI y) :: .int (nI x) :: rest)) := by
  refine lv_imul hexec hb hdg ?_
  rw [pk_mul]
  exact k
theorem z_isubN (hexec : p.tables.exec = Jvm.exec) (hb : c.code = cc) {x y : Nat} (h : y ≤ x) (hdg : decode cc pc = .ok (.isub, 1)) (k : W p l e R s m args below meth c H locs cells slots Q (F0 m (pc + 1) ls (.int (nI (x - y)) :: rest))) : W p l e R s m args below meth c H locs cells slots Q (F0 m pc ls (.int (nI y) :: .int (nI x) :: rest)) := by
  refine lv_isub hexec hb hdg ?_
  rw [pk_sub h]
  exact k
/-- ends of methods that read -/
theorem z_iretR (hexec : p.tables.exec = Jvm.exec) (hb : c.code = cc) (hr : meth.sig.returnType = some .int) (hlocks : meth.locks = false) {v v' : Int32} (hH : H = s.heap) (hv : v = v') (hdg : decode cc pc = .ok (.ireturn, 1)) : W p l e R s m args below meth c H [] 0 0 (MQ below (vp_Si (fun r => r = v')) args s 0 0 (fun _ => False)) (F0 m pc ls [.int v]) :=
  W.iret hexec hb hr (fun t ht _ => ⟨v, rfl, hv, ht.trans hH⟩) (fun q hq => absurd hq List.not_mem_nil) hdg
theorem z_zretR (hexec : p.tables.exec = Jvm.exec) (hb : c.code = cc) (hr : meth.sig.returnType = some .boolean) (hlocks : meth.locks = false) {v v' : Int32} (hn : narrow .boolean (.int v) = .int v) (hH : H = s.heap) (hv : v = v') (hdg : decode cc pc = .ok (.ireturn, 1)) : W p l e R s m args below meth c H [] 0 0 (MQ below (vp_Si (fun r => r = v')) args s 0 0 (fun _ => False)) (F0 m pc ls [.int v]) :=
  W.zret hexec hb hr hn (fun t ht _ => ⟨v, rfl, hv, ht.trans hH⟩) (fun q hq => absurd hq List.not_mem_nil) hdg
theorem z_lretR (hexec : p.tables.exec = Jvm.exec) (hb : c.code = cc) (hr : meth.sig.returnType = some .long) (hlocks : meth.locks = false) {v v' : Int64} (hH : H = s.heap) (hv : v = v') (hdg : decode cc pc = .ok (.lreturn, 1)) : W p l e R s m args below meth c H [] 0 0 (MQ below (vp_Sl (fun r => r = v')) args s 0 0 (fun _ => False)) (F0 m pc ls [.long v]) :=
  W.lret hexec hb hr (fun t ht _ => ⟨v, rfl, hv, ht.trans hH⟩) (fun q hq => absurd hq List.not_mem_nil) hdg
theorem z_dretR (hexec : p.tables.exec = Jvm.exec) (hb : c.code = cc) (hr : meth.sig.returnType = some .double) (hlocks : meth.locks = false) {v v' : UInt64} (hH : H = s.heap) (hv : v = v') (hdg : decode cc pc = .ok (.dreturn, 1)) : W p l e R s m args below meth c H [] 0 0 (MQ below (vp_Sd (fun r => r = v')) args s 0 0 (fun _ => False)) (F0 m pc ls [.double v]) :=
  W.dret hexec hb hr (fun t ht _ => ⟨v, rfl, hv, ht.trans hH⟩) (fun q hq => absurd hq List.not_mem_nil) hdg
/-- ends of methods that write -/
theorem z_iretW {mc ms : Nat} {w1 : va_W} (hexec : p.tables.exec = Jvm.exec) (hb : c.code = cc) (hr : meth.sig.returnType = some .int) (hlocks : meth.locks = false) {v v' : Int32} (hS : va_S A s.heap H locs) (hP : va_P g vwCl ws H) (hD : va_D A ws) (hv : v = v') (hw : ws = w1) (hc : cells ≤ mc) (hs : slots ≤ ms) (hdg : decode cc pc = .ok (.ireturn, 1)) : W p l e R s m args below meth c H locs cells slots (MQ below (zQi g w1 v' A) args s mc ms A) (F0 m pc ls [.int v]) := by
  subst hw
  exact W.widen hc hs (W.iret hexec hb hr (fun t ht _ => ⟨⟨v, (), rfl, hv, by rw [ht]; exact hP, hD⟩, hS.F ht⟩) hS.2.2 hdg)
theorem z_zretW {mc ms : Nat} {w1 : va_W} (hexec : p.tables.exec = Jvm.exec) (hb : c.code = cc) (hr : meth.sig.returnType = some .boolean) (hlocks : meth.locks = false) {v v' : Int32} (hn : narrow .boolean (.int v) = .int v) (hS : va_S A s.heap H locs) (hP : va_P g vwCl ws H) (hD : va_D A ws) (hv : v = v') (hw : ws = w1) (hc : cells ≤ mc) (hs : slots ≤ ms) (hdg : decode cc pc = .ok (.ireturn, 1)) : W p l e R s m args below meth c H locs cells slots (MQ below (zQi g w1 v' A) args s mc ms A) (F0 m pc ls [.int v]) := by
  subst hw
  exact W.widen hc hs (W.zret hexec hb hr hn (fun t ht _ => ⟨⟨v, (), rfl, hv, by rw [ht]; exact hP, hD⟩, hS.F ht⟩) hS.2.2 hdg)
theorem z_lretW {mc ms : Nat} {w1 : va_W} (hexec : p.tables.exec = Jvm.exec) (hb : c.code = cc) (hr : meth.sig.returnType = some .long) (hlocks : meth.locks = false) {v v' : Int64} (hS : va_S A s.heap H locs) (hP : va_P g vwCl ws H) (hD : va_D A ws) (hv : v = v') (hw : ws = w1) (hc : cells ≤ mc) (hs : slots ≤ ms) (hdg : decode cc pc = .ok (.lreturn, 1)) : W p l e R s m args below meth c H locs cells slots (MQ below (zQl g w1 v' A) args s mc ms A) (F0 m pc ls [.long v]) := by
  subst hw
  exact W.widen hc hs (W.lret hexec hb hr (fun t ht _ => ⟨⟨v, (), rfl, hv, by rw [ht]; exact hP, hD⟩, hS.F ht⟩) hS.2.2 hdg)
theorem z_dretW {mc ms : Nat} {w1 : va_W} (hexec : p.tables.exec = Jvm.exec) (hb : c.code = cc) (hr : meth.sig.returnType = some .double) (hlocks : meth.locks = false) {v v' : UInt64} (hS : va_S A s.heap H locs) (hP : va_P g vwCl ws H) (hD : va_D A ws) (hv : v = v') (hw : ws = w1) (hc : cells ≤ mc) (hs : slots ≤ ms) (hdg : decode cc pc = .ok (.dreturn, 1)) : W p l e R s m args below meth c H locs cells slots (MQ below (zQd g w1 v' A) args s mc ms A) (F0 m pc ls [.double v]) := by
  subst hw
  exact W.widen hc hs (W.dret hexec hb hr (fun t ht _ => ⟨⟨v, (), rfl, hv, by rw [ht]; exact hP, hD⟩, hS.F ht⟩) hS.2.2 hdg)
theorem z_vretW {mc ms : Nat} {w1 : va_W} (hexec : p.tables.exec = Jvm.exec) (hb : c.code = cc) (hr : meth.sig.returnType = none) (hlocks : meth.locks = false) (hS : va_S A s.heap H locs) (hP : va_P g vwCl ws H) (hD : va_D A ws) (hw : ws = w1) (hc : cells ≤ mc) (hs : slots ≤ ms) (hdg : decode cc pc = .ok (.return_, 1)) : W p l e R s m args below meth c H locs cells slots (MQ below (zQv g w1 A) args s mc ms A) (F0 m pc ls []) := by
  subst hw
  exact W.widen hc hs (W.vret hexec hb hr (fun t ht _ => ⟨⟨(), rfl, trivial, by rw [ht]; exact hP, hD⟩, hS.F ht⟩) hS.2.2 hdg)
theorem z_eald (hexec : p.tables.exec = Jvm.exec) (hb : c.code = cc) (hK : va_K g vwCl (zT ct) s) (hP : va_P g vwCl ws H) (q0 : Nat) {n : Nat} {f : Nat → Int64} (ha : ws[q0]? = some (zE ct a n f)) {k : Nat} (hk : k < n) (hn : n < 2 ^ 31) (hdg : decode cc pc = .ok (.daload, 1))
    (kk : W p l e R s m args below meth c H locs cells slots Q (F0 m (pc + 1) ls (.double (f k).toUInt64 :: rest))) : W p l e R s m args below meth c H locs cells slots Q (F0 m pc ls (.int (nI k) :: .ref a :: rest)) :=
  z_dald (f := fun i => (f i).toUInt64) hexec hb hK hP q0 ha hk hn hdg kk
theorem z_east (hexec : p.tables.exec = Jvm.exec) (hb : c.code = cc) (hK : va_K g vwCl (zT ct) s) (hP : va_P g vwCl ws H) (hD : va_D A ws) (hS : va_S A H0 H locs) (q0 : Nat) {n : Nat} {f : Nat → Int64} (ha : ws[q0]? = some (zE ct a n f)) {k : Nat} {x : Int64} (hk : k < n) (hn : n < 2 ^ 31) (hdg : decode cc pc = .ok (.dastore, 1))
    (kk : ∀ (H1 : Heap) (locs1 : List Loc), va_P g vwCl (ws.set q0 (zE ct a n (vp_updL f k x))) H1 → va_D A (ws.set q0 (zE ct a n (vp_updL f k x))) → va_S A H0 H1 locs1 → W p l e R s m args below meth c H1 locs1 cells slots Q (F0 m (pc + 1) ls rest)) : W p l e R s m args below meth c H locs cells slots Q (F0 m pc ls (.double x.toUInt64 :: .int (nI k) :: .ref a :: rest)) := by
  have e : (fun i => (vp_updL f k x i).toUInt64) = vf_upd (fun i => (f i).toUInt64) k x.toUInt64 := by
    funext i
    show (if i = k then x else f i).toUInt64 = if i = k then x.toUInt64 else (f i).toUInt64
    by_cases h : i = k
    · rw [if_pos h, if_pos h]
    · rw [if_neg h, if_neg h]
  refine z_dast (f := fun i => (f i).toUInt64) hexec hb hK hP hD hS q0 ha hk hn hdg ?_
  rw [← e]
  exact kk
end ZROWS
section ZCALL
variable {p : Program} {l : Launch} {e : Env} {R : Room} {s : State} {m : MethodId} {args : Array Value} {below : List Frame} {meth : Method} {c : Code} {H : Heap} {locs : List Loc} {cells slots : Nat} {Q : State → Prop}
variable {cc : ByteArray} {pc nL : Nat} {ls : Array Slot} {rest st : List Value} {g : va_G} {A : Nat → Prop} {ct : Nat → ClassId} {ws wc wr w2 : va_W} {H0 : Heap}
variable {y : MethodName} {bytes : ByteArray} {maxL n index ci N mc ms : Nat} {ret : Option FieldType} {wsC Ts : List Cond} {rm : Room} {own C : String} {b : Nat} {As : List Value} {T : u_T} {fs : List Value}
/-- a call of a method that reads -/
theorem z_cVi {v : Int32} (S : CallFix p m c cc nL s args Ts own) (hK : va_K g vwCl (zT ct) s) (hP : va_P g vwCl ws H) (is : List Nat) (his : is.filterMap (fun i => ws[i]?) = wc)
    (hM : Met l y wsC rm (va_Pc (.ref b :: As) (zR g ct wc)) (vp_Si (fun r => r = v)) 0 0 (fun _ => False)) (cw : CallW R s args own C index y bytes maxL ret wsC rm 0 0 n)
    (q0 : Nat) (he : wc[q0]? = some (zO b ci fs)) (hc : vwCl[ci]? = some (C, T, N)) (hn : As.length = n) (hsize : ls.size = nL) (hst : st = As.reverse ++ .ref b :: rest) (hW : (rest.map fun v => v.category).sum ≤ 8) (hdg : decode cc pc = .ok (.invokevirtual index, 3)) (hf : cells ≤ R.cells ∧ slots ≤ R.slots)
    (kk : W p l e R s m args below meth c H locs cells slots Q (F0 m (pc + 3) ls (.int v :: rest))) : W p l e R s m args below meth c H locs cells slots Q (F0 m pc ls st) := by
  subst hst
  have hPc := hP.sub is his
  refine vp_callSi (va_runV S hM cw ⟨zR_blind, va_recv hK hPc hc he, fun U hU hW1 => ⟨rfl, by rw [hU]; exact hPc, va_K.moved hW1.alike hK⟩⟩ rfl hn hsize rfl (lv_room hW) hdg hf).run ?_
  rintro r rfl
  exact kk
/-- a call of a static method that needs no cells -/
theorem z_cSi {v : Int32} (S : CallFix p m c cc nL s args Ts own)
    (hM : Met l y wsC rm (va_Pc As (fun _ => True)) (vp_Si (fun r => r = v)) 0 0 (fun _ => False)) (cw : CallB R s args own index y bytes maxL ret wsC rm 0 0 n ∧ (Cond.static y).before args s = true)
    (hn : As.length = n) (hsize : ls.size = nL) (hst : st = As.reverse ++ rest) (hW : (rest.map fun v => v.category).sum ≤ 8) (hdg : decode cc pc = .ok (.invokestatic index, 3)) (hf : cells ≤ R.cells ∧ slots ≤ R.slots)
    (kk : W p l e R s m args below meth c H locs cells slots Q (F0 m (pc + 3) ls (.int v :: rest))) : W p l e R s m args below meth c H locs cells slots Q (F0 m pc ls st) := by
  subst hst
  refine vp_callSi (va_runS S hM cw ⟨zS_blind, fun U hU hW1 => ⟨rfl, trivial⟩⟩ rfl hn hsize rfl (lv_room hW) hdg hf).run ?_
  rintro r rfl
  exact kk
/-- a call of a method that reads -/
theorem z_cVl {v : Int64} (S : CallFix p m c cc nL s args Ts own) (hK : va_K g vwCl (zT ct) s) (hP : va_P g vwCl ws H) (is : List Nat) (his : is.filterMap (fun i => ws[i]?) = wc)
    (hM : Met l y wsC rm (va_Pc (.ref b :: As) (zR g ct wc)) (vp_Sl (fun r => r = v)) 0 0 (fun _ => False)) (cw : CallW R s args own C index y bytes maxL ret wsC rm 0 0 n)
    (q0 : Nat) (he : wc[q0]? = some (zO b ci fs)) (hc : vwCl[ci]? = some (C, T, N)) (hn : As.length = n) (hsize : ls.size = nL) (hst : st = As.reverse ++ .ref b :: rest) (hW : (rest.map fun v => v.category).sum ≤ 8) (hdg : decode cc pc = .ok (.invokevirtual index, 3)) (hf : cells ≤ R.cells ∧ slots ≤ R.slots)
    (kk : W p l e R s m args below meth c H locs cells slots Q (F0 m (pc + 3) ls (.long v :: rest))) : W p l e R s m args below meth c H locs cells slots Q (F0 m pc ls st) := by
  subst hst
  have hPc := hP.sub is his
  refine vp_callSl (va_runV S hM cw ⟨zR_blind, va_recv hK hPc hc he, fun U hU hW1 => ⟨rfl, by rw [hU]; exact hPc, va_K.moved hW1.alike hK⟩⟩ rfl hn hsize rfl (lv_room hW) hdg hf).run ?_
  rintro r rfl
  exact kk
/-- a call of a static method that needs no cells -/
theorem z_cSl {v : Int64} (S : CallFix p m c cc nL s args Ts own)
    (hM : Met l y wsC rm (va_Pc As (fun _ => True)) (vp_Sl (fun r => r = v)) 0 0 (fun _ => False)) (cw : CallB R s args own index y bytes maxL ret wsC rm 0 0 n ∧ (Cond.static y).before args s = true)
    (hn : As.length = n) (hsize : ls.size = nL) (hst : st = As.reverse ++ rest) (hW : (rest.map fun v => v.category).sum ≤ 8) (hdg : decode cc pc = .ok (.invokestatic index, 3)) (hf : cells ≤ R.cells ∧ slots ≤ R.slots)
    (kk : W p l e R s m args below meth c H locs cells slots Q (F0 m (pc + 3) ls (.long v :: rest))) : W p l e R s m args below meth c H locs cells slots Q (F0 m pc ls st) := by
  subst hst
  refine vp_callSl (va_runS S hM cw ⟨zS_blind, fun U hU hW1 => ⟨rfl, trivial⟩⟩ rfl hn hsize rfl (lv_room hW) hdg hf).run ?_
  rintro r rfl
  exact kk
/-- a call of a method that reads -/
theorem z_cVd {v : UInt64} (S : CallFix p m c cc nL s args Ts own) (hK : va_K g vwCl (zT ct) s) (hP : va_P g vwCl ws H) (is : List Nat) (his : is.filterMap (fun i => ws[i]?) = wc)
    (hM : Met l y wsC rm (va_Pc (.ref b :: As) (zR g ct wc)) (vp_Sd (fun r => r = v)) 0 0 (fun _ => False)) (cw : CallW R s args own C index y bytes maxL ret wsC rm 0 0 n)
    (q0 : Nat) (he : wc[q0]? = some (zO b ci fs)) (hc : vwCl[ci]? = some (C, T, N)) (hn : As.length = n) (hsize : ls.size = nL) (hst : st = As.reverse ++ .ref b :: rest) (hW : (rest.map fun v => v.category).sum ≤ 8) (hdg : decode cc pc = .ok (.invokevirtual index, 3)) (hf : cells ≤ R.cells ∧ slots ≤ R.slots)
    (kk : W p l e R s m args below meth c H locs cells slots Q (F0 m (pc + 3) ls (.double v :: rest))) : W p l e R s m args below meth c H locs cells slots Q (F0 m pc ls st) := by
  subst hst
  have hPc := hP.sub is his
  refine vp_callSd (va_runV S hM cw ⟨zR_blind, va_recv hK hPc hc he, fun U hU hW1 => ⟨rfl, by rw [hU]; exact hPc, va_K.moved hW1.alike hK⟩⟩ rfl hn hsize rfl (lv_room hW) hdg hf).run ?_
  rintro r rfl
  exact kk
/-- a call of a static method that needs no cells -/
theorem z_cSd {v : UInt64} (S : CallFix p m c cc nL s args Ts own)
    (hM : Met l y wsC rm (va_Pc As (fun _ => True)) (vp_Sd (fun r => r = v)) 0 0 (fun _ => False)) (cw : CallB R s args own index y bytes maxL ret wsC rm 0 0 n ∧ (Cond.static y).before args s = true)
    (hn : As.length = n) (hsize : ls.size = nL) (hst : st = As.reverse ++ rest) (hW : (rest.map fun v => v.category).sum ≤ 8) (hdg : decode cc pc = .ok (.invokestatic index, 3)) (hf : cells ≤ R.cells ∧ slots ≤ R.slots)
    (kk : W p l e R s m args below meth c H locs cells slots Q (F0 m (pc + 3) ls (.double v :: rest))) : W p l e R s m args below meth c H locs cells slots Q (F0 m pc ls st) := by
  subst hst
  refine vp_callSd (va_runS S hM cw ⟨zS_blind, fun U hU hW1 => ⟨rfl, trivial⟩⟩ rfl hn hsize rfl (lv_room hW) hdg hf).run ?_
  rintro r rfl
  exact kk
/-- a call of a method that writes: its cells by their places, the rest's places, the places in the list behind it -/
theorem z_eVi {S : Type} {w1 : S → va_W} {v : Int32} (S0 : CallFix p m c cc nL s args Ts own) (hK : va_K g vwCl (zT ct) s) (hP : va_P g vwCl ws H) (hD : va_D A ws) (hS : va_S A H0 H locs) (hN : zNW s) (hA : ∀ q, H0.size ≤ q → A q)
    (isC isR : List Nat) (hC : isC.map (fun i => ws[i]?) = wc.map some) (hR : isR.map (fun i => ws[i]?) = wr.map some) (hnC : va_nd isC = true) (hnR : va_nd isR = true) (hdis : ∀ i ∈ isR, i ∉ isC)
    (hM : Met l y wsC rm (va_Pc (.ref b :: As) (zW g ct wc H.size)) (zEi g w1 v (va_A wc H.size)) mc ms (va_A wc H.size)) (cw : CallW R s args own C index y bytes maxL ret wsC rm mc ms n)
    (q0 : Nat) (he : wc[q0]? = some (zO b ci fs)) (hc : vwCl[ci]? = some (C, T, N)) (hn : As.length = n) (hsize : ls.size = nL) (hst : st = As.reverse ++ .ref b :: rest) (hW : (rest.map fun v => v.category).sum ≤ 8) (hdg : decode cc pc = .ok (.invokevirtual index, 3)) (hf : cells + mc ≤ R.cells ∧ slots + ms ≤ R.slots)
    (kk : ∀ (u : S) (H1 : Heap) (locs1 : List Loc), va_P g vwCl (wr ++ w1 u) H1 → va_D A (wr ++ w1 u) → va_S A H0 H1 locs1 → W p l e R s m args below meth c H1 locs1 (cells + mc) (slots + ms) Q (F0 m (pc + 3) ls (.int v :: rest))) : W p l e R s m args below meth c H locs cells slots Q (F0 m pc ls st) := by
  subst hst
  have hPc : va_P g vwCl wc H := (hP.by (fun k => (isC[k]?).getD 0) (fun k q hk => by
    obtain ⟨i, h1, h2⟩ := va_in_of isC hC hk
    rw [h1]
    exact h2))
  have hDc := hD.sub isC hnC hC
  have hFc := va_free hD hS hA isC hC
  refine va_calli (va_runV S0 hM cw ⟨zW_blind, va_recv hK hPc hc he, fun U hU hW1 => ⟨rfl, by rw [hU], by rw [hU]; exact hPc, va_K.moved hW1.alike hK, hDc.weaken (fun _ _ _ _ => trivial), zNW_warm hW1 hN⟩⟩ rfl hn hsize rfl (lv_room hW) hdg hf) hS (fun q _ h => hFc q h) hFc (fun r u t H1 locs1 ht hvm hw hB hz1 hk1 hS1 => ?_)
  obtain ⟨hP1, hD1⟩ := hB
  rw [ht] at hP1
  subst hw
  obtain ⟨hP2, hD2⟩ := va_join hP hD isC isR hC hR hnR hdis hk1 hFc hP1 hD1
  exact kk u H1 locs1 hP2 hD2 hS1
/-- a call of a method that writes: its cells by their places, the rest's places, the places in the list behind it -/
theorem z_eVl {S : Type} {w1 : S → va_W} {v : Int64} (S0 : CallFix p m c cc nL s args Ts own) (hK : va_K g vwCl (zT ct) s) (hP : va_P g vwCl ws H) (hD : va_D A ws) (hS : va_S A H0 H locs) (hN : zNW s) (hA : ∀ q, H0.size ≤ q → A q)
    (isC isR : List Nat) (hC : isC.map (fun i => ws[i]?) = wc.map some) (hR : isR.map (fun i => ws[i]?) = wr.map some) (hnC : va_nd isC = true) (hnR : va_nd isR = true) (hdis : ∀ i ∈ isR, i ∉ isC)
    (hM : Met l y wsC rm (va_Pc (.ref b :: As) (zW g ct wc H.size)) (zEl g w1 v (va_A wc H.size)) mc ms (va_A wc H.size)) (cw : CallW R s args own C index y bytes maxL ret wsC rm mc ms n)
    (q0 : Nat) (he : wc[q0]? = some (zO b ci fs)) (hc : vwCl[ci]? = some (C, T, N)) (hn : As.length = n) (hsize : ls.size = nL) (hst : st = As.reverse ++ .ref b :: rest) (hW : (rest.map fun v => v.category).sum ≤ 8) (hdg : decode cc pc = .ok (.invokevirtual index, 3)) (hf : cells + mc ≤ R.cells ∧ slots + ms ≤ R.slots)
    (kk : ∀ (u : S) (H1 : Heap) (locs1 : List Loc), va_P g vwCl (wr ++ w1 u) H1 → va_D A (wr ++ w1 u) → va_S A H0 H1 locs1 → W p l e R s m args below meth c H1 locs1 (cells + mc) (slots + ms) Q (F0 m (pc + 3) ls (.long v :: rest))) : W p l e R s m args below meth c H locs cells slots Q (F0 m pc ls st) := by
  subst hst
  have hPc : va_P g vwCl wc H := (hP.by (fun k => (isC[k]?).getD 0) (fun k q hk => by
    obtain ⟨i, h1, h2⟩ := va_in_of isC hC hk
    rw [h1]
    exact h2))
  have hDc := hD.sub isC hnC hC
  have hFc := va_free hD hS hA isC hC
  refine va_calll (va_runV S0 hM cw ⟨zW_blind, va_recv hK hPc hc he, fun U hU hW1 => ⟨rfl, by rw [hU], by rw [hU]; exact hPc, va_K.moved hW1.alike hK, hDc.weaken (fun _ _ _ _ => trivial), zNW_warm hW1 hN⟩⟩ rfl hn hsize rfl (lv_room hW) hdg hf) hS (fun q _ h => hFc q h) hFc (fun r u t H1 locs1 ht hvm hw hB hz1 hk1 hS1 => ?_)
  obtain ⟨hP1, hD1⟩ := hB
  rw [ht] at hP1
  subst hw
  obtain ⟨hP2, hD2⟩ := va_join hP hD isC isR hC hR hnR hdis hk1 hFc hP1 hD1
  exact kk u H1 locs1 hP2 hD2 hS1
/-- a call of a method that writes: its cells by their places, the rest's places, the places in the list behind it -/
theorem z_eVd {S : Type} {w1 : S → va_W} {v : UInt64} (S0 : CallFix p m c cc nL s args Ts own) (hK : va_K g vwCl (zT ct) s) (hP : va_P g vwCl ws H) (hD : va_D A ws) (hS : va_S A H0 H locs) (hN : zNW s) (hA : ∀ q, H0.size ≤ q → A q)
    (isC isR : List Nat) (hC : isC.map (fun i => ws[i]?) = wc.map some) (hR : isR.map (fun i => ws[i]?) = wr.map some) (hnC : va_nd isC = true) (hnR : va_nd isR = true) (hdis : ∀ i ∈ isR, i ∉ isC)
    (hM : Met l y wsC rm (va_Pc (.ref b :: As) (zW g ct wc H.size)) (zEd g w1 v (va_A wc H.size)) mc ms (va_A wc H.size)) (cw : CallW R s args own C index y bytes maxL ret wsC rm mc ms n)
    (q0 : Nat) (he : wc[q0]? = some (zO b ci fs)) (hc : vwCl[ci]? = some (C, T, N)) (hn : As.length = n) (hsize : ls.size = nL) (hst : st = As.reverse ++ .ref b :: rest) (hW : (rest.map fun v => v.category).sum ≤ 8) (hdg : decode cc pc = .ok (.invokevirtual index, 3)) (hf : cells + mc ≤ R.cells ∧ slots + ms ≤ R.slots)
    (kk : ∀ (u : S) (H1 : Heap) (locs1 : List Loc), va_P g vwCl (wr ++ w1 u) H1 → va_D A (wr ++ w1 u) → va_S A H0 H1 locs1 → W p l e R s m args below meth c H1 locs1 (cells + mc) (slots + ms) Q (F0 m (pc + 3) ls (.double v :: rest))) : W p l e R s m args below meth c H locs cells slots Q (F0 m pc ls st) := by
  subst hst
  have hPc : va_P g vwCl wc H := (hP.by (fun k => (isC[k]?).getD 0) (fun k q hk => by
    obtain ⟨i, h1, h2⟩ := va_in_of isC hC hk
    rw [h1]
    exact h2))
  have hDc := hD.sub isC hnC hC
  have hFc := va_free hD hS hA isC hC
  refine va_calld (va_runV S0 hM cw ⟨zW_blind, va_recv hK hPc hc he, fun U hU hW1 => ⟨rfl, by rw [hU], by rw [hU]; exact hPc, va_K.moved hW1.alike hK, hDc.weaken (fun _ _ _ _ => trivial), zNW_warm hW1 hN⟩⟩ rfl hn hsize rfl (lv_room hW) hdg hf) hS (fun q _ h => hFc q h) hFc (fun r u t H1 locs1 ht hvm hw hB hz1 hk1 hS1 => ?_)
  obtain ⟨hP1, hD1⟩ := hB
  rw [ht] at hP1
  subst hw
  obtain ⟨hP2, hD2⟩ := va_join hP hD isC isR hC hR hnR hdis hk1 hFc hP1 hD1
  exact kk u H1 locs1 hP2 hD2 hS1
/-- a call of a method that writes: its cells by their places, the rest's places, the places in the list behind it -/
theorem z_eVv {S : Type} {w1 : S → va_W} (S0 : CallFix p m c cc nL s args Ts own) (hK : va_K g vwCl (zT ct) s) (hP : va_P g vwCl ws H) (hD : va_D A ws) (hS : va_S A H0 H locs) (hN : zNW s) (hA : ∀ q, H0.size ≤ q → A q)
    (isC isR : List Nat) (hC : isC.map (fun i => ws[i]?) = wc.map some) (hR : isR.map (fun i => ws[i]?) = wr.map some) (hnC : va_nd isC = true) (hnR : va_nd isR = true) (hdis : ∀ i ∈ isR, i ∉ isC)
    (hM : Met l y wsC rm (va_Pc (.ref b :: As) (zW g ct wc H.size)) (zEv g w1 (va_A wc H.size)) mc ms (va_A wc H.size)) (cw : CallW R s args own C index y bytes maxL ret wsC rm mc ms n)
    (q0 : Nat) (he : wc[q0]? = some (zO b ci fs)) (hc : vwCl[ci]? = some (C, T, N)) (hn : As.length = n) (hsize : ls.size = nL) (hst : st = As.reverse ++ .ref b :: rest) (hW : (rest.map fun v => v.category).sum ≤ 8) (hdg : decode cc pc = .ok (.invokevirtual index, 3)) (hf : cells + mc ≤ R.cells ∧ slots + ms ≤ R.slots)
    (kk : ∀ (u : S) (H1 : Heap) (locs1 : List Loc), va_P g vwCl (wr ++ w1 u) H1 → va_D A (wr ++ w1 u) → va_S A H0 H1 locs1 → W p l e R s m args below meth c H1 locs1 (cells + mc) (slots + ms) Q (F0 m (pc + 3) ls (rest))) : W p l e R s m args below meth c H locs cells slots Q (F0 m pc ls st) := by
  subst hst
  have hPc : va_P g vwCl wc H := (hP.by (fun k => (isC[k]?).getD 0) (fun k q hk => by
    obtain ⟨i, h1, h2⟩ := va_in_of isC hC hk
    rw [h1]
    exact h2))
  have hDc := hD.sub isC hnC hC
  have hFc := va_free hD hS hA isC hC
  refine va_callv (va_runV S0 hM cw ⟨zW_blind, va_recv hK hPc hc he, fun U hU hW1 => ⟨rfl, by rw [hU], by rw [hU]; exact hPc, va_K.moved hW1.alike hK, hDc.weaken (fun _ _ _ _ => trivial), zNW_warm hW1 hN⟩⟩ rfl hn hsize rfl (lv_room hW) hdg hf) hS (fun q _ h => hFc q h) hFc (fun  u t H1 locs1 ht hvm hw hB hz1 hk1 hS1 => ?_)
  obtain ⟨hP1, hD1⟩ := hB
  rw [ht] at hP1
  obtain ⟨hP2, hD2⟩ := va_join hP hD isC isR hC hR hnR hdis hk1 hFc hP1 hD1
  exact kk u H1 locs1 hP2 hD2 hS1
/-- a call of a method that writes: its cells by their places, the rest's places, the places in the list behind it -/
theorem z_eIv {S : Type} {w1 : S → va_W} (S0 : CallFix p m c cc nL s args Ts own) (hK : va_K g vwCl (zT ct) s) (hP : va_P g vwCl ws H) (hD : va_D A ws) (hS : va_S A H0 H locs) (hN : zNW s) (hA : ∀ q, H0.size ≤ q → A q)
    (isC isR : List Nat) (hC : isC.map (fun i => ws[i]?) = wc.map some) (hR : isR.map (fun i => ws[i]?) = wr.map some) (hnC : va_nd isC = true) (hnR : va_nd isR = true) (hdis : ∀ i ∈ isR, i ∉ isC)
    (hM : Met l y wsC rm (va_Pc (.ref b :: As) (zW g ct wc H.size)) (zEv g w1 (va_A wc H.size)) mc ms (va_A wc H.size)) {host : String} (cw : va_CN R s args own index y host bytes maxL none wsC rm mc ms n ∧ y.name = "<init>" ∧ (Cond.instanceMethod y).before args s = true)
    (hn : As.length = n) (hsize : ls.size = nL) (hst : st = As.reverse ++ .ref b :: rest) (hW : (rest.map fun v => v.category).sum ≤ 8) (hdg : decode cc pc = .ok (.invokespecial index, 3)) (hf : cells + mc ≤ R.cells ∧ slots + ms ≤ R.slots)
    (kk : ∀ (u : S) (H1 : Heap) (locs1 : List Loc), va_P g vwCl (wr ++ w1 u) H1 → va_D A (wr ++ w1 u) → va_S A H0 H1 locs1 → W p l e R s m args below meth c H1 locs1 (cells + mc) (slots + ms) Q (F0 m (pc + 3) ls (rest))) : W p l e R s m args below meth c H locs cells slots Q (F0 m pc ls st) := by
  subst hst
  have hPc : va_P g vwCl wc H := (hP.by (fun k => (isC[k]?).getD 0) (fun k q hk => by
    obtain ⟨i, h1, h2⟩ := va_in_of isC hC hk
    rw [h1]
    exact h2))
  have hDc := hD.sub isC hnC hC
  have hFc := va_free hD hS hA isC hC
  refine va_callv (va_runIN S0 hM cw ⟨zW_blind, fun U hU hW1 => ⟨rfl, by rw [hU], by rw [hU]; exact hPc, va_K.moved hW1.alike hK, hDc.weaken (fun _ _ _ _ => trivial), zNW_warm hW1 hN⟩⟩ rfl hn hsize rfl (lv_room hW) hdg hf) hS (fun q _ h => hFc q h) hFc (fun  u t H1 locs1 ht hvm hw hB hz1 hk1 hS1 => ?_)
  obtain ⟨hP1, hD1⟩ := hB
  rw [ht] at hP1
  obtain ⟨hP2, hD2⟩ := va_join hP hD isC isR hC hR hnR hdis hk1 hFc hP1 hD1
  exact kk u H1 locs1 hP2 hD2 hS1
/-- the same where no cell is made: every cell back at its place -/
theorem z_wVi {w1 : va_W} {v : Int32} (S0 : CallFix p m c cc nL s args Ts own) (hK : va_K g vwCl (zT ct) s) (hP : va_P g vwCl ws H) (hD : va_D A ws) (hS : va_S A H0 H locs) (hN : zNW s) (hA : ∀ q, H0.size ≤ q → A q)
    (isC isR isB : List Nat) (hC : isC.map (fun i => ws[i]?) = wc.map some) (hR : isR.map (fun i => ws[i]?) = wr.map some) (hB : isB.map (fun i => (wr ++ w1)[i]?) = w2.map some) (hnC : va_nd isC = true) (hnR : va_nd isR = true) (hnB : va_nd isB = true) (hdis : ∀ i ∈ isR, i ∉ isC)
    (hM : Met l y wsC rm (va_Pc (.ref b :: As) (zW g ct wc H.size)) (zQi g w1 v (va_A wc H.size)) 0 0 (va_A wc H.size)) (cw : CallW R s args own C index y bytes maxL ret wsC rm 0 0 n)
    (q0 : Nat) (he : wc[q0]? = some (zO b ci fs)) (hc : vwCl[ci]? = some (C, T, N)) (hn : As.length = n) (hsize : ls.size = nL) (hst : st = As.reverse ++ .ref b :: rest) (hW : (rest.map fun v => v.category).sum ≤ 8) (hdg : decode cc pc = .ok (.invokevirtual index, 3)) (hf : cells ≤ R.cells ∧ slots ≤ R.slots)
    (kk : ∀ (H1 : Heap) (locs1 : List Loc), va_P g vwCl w2 H1 → va_D A w2 → va_S A H0 H1 locs1 → W p l e R s m args below meth c H1 locs1 cells slots Q (F0 m (pc + 3) ls (.int v :: rest))) : W p l e R s m args below meth c H locs cells slots Q (F0 m pc ls st) := by
  refine z_eVi S0 hK hP hD hS hN hA isC isR hC hR hnC hnR hdis hM cw q0 he hc hn hsize hst hW hdg hf (fun u H1 locs1 hP1 hD1 hS1 => ?_)
  exact kk H1 locs1 (hP1.by (fun k => (isB[k]?).getD 0) (fun k q hk => by
    obtain ⟨i, h1, h2⟩ := va_in_of isB hB hk
    rw [h1]
    exact h2)) (hD1.sub isB hnB hB) hS1
/-- the same where no cell is made: every cell back at its place -/
theorem z_wVl {w1 : va_W} {v : Int64} (S0 : CallFix p m c cc nL s args Ts own) (hK : va_K g vwCl (zT ct) s) (hP : va_P g vwCl ws H) (hD : va_D A ws) (hS : va_S A H0 H locs) (hN : zNW s) (hA : ∀ q, H0.size ≤ q → A q)
    (isC isR isB : List Nat) (hC : isC.map (fun i => ws[i]?) = wc.map some) (hR : isR.map (fun i => ws[i]?) = wr.map some) (hB : isB.map (fun i => (wr ++ w1)[i]?) = w2.map some) (hnC : va_nd isC = true) (hnR : va_nd isR = true) (hnB : va_nd isB = true) (hdis : ∀ i ∈ isR, i ∉ isC)
    (hM : Met l y wsC rm (va_Pc (.ref b :: As) (zW g ct wc H.size)) (zQl g w1 v (va_A wc H.size)) 0 0 (va_A wc H.size)) (cw : CallW R s args own C index y bytes maxL ret wsC rm 0 0 n)
    (q0 : Nat) (he : wc[q0]? = some (zO b ci fs)) (hc : vwCl[ci]? = some (C, T, N)) (hn : As.length = n) (hsize : ls.size = nL) (hst : st = As.reverse ++ .ref b :: rest) (hW : (rest.map fun v => v.category).sum ≤ 8) (hdg : decode cc pc = .ok (.invokevirtual index, 3)) (hf : cells ≤ R.cells ∧ slots ≤ R.slots)
    (kk : ∀ (H1 : Heap) (locs1 : List Loc), va_P g vwCl w2 H1 → va_D A w2 → va_S A H0 H1 locs1 → W p l e R s m args below meth c H1 locs1 cells slots Q (F0 m (pc + 3) ls (.long v :: rest))) : W p l e R s m args below meth c H locs cells slots Q (F0 m pc ls st) := by
  refine z_eVl S0 hK hP hD hS hN hA isC isR hC hR hnC hnR hdis hM cw q0 he hc hn hsize hst hW hdg hf (fun u H1 locs1 hP1 hD1 hS1 => ?_)
  exact kk H1 locs1 (hP1.by (fun k => (isB[k]?).getD 0) (fun k q hk => by
    obtain ⟨i, h1, h2⟩ := va_in_of isB hB hk
    rw [h1]
    exact h2)) (hD1.sub isB hnB hB) hS1
/-- the same where no cell is made: every cell back at its place -/
theorem z_wVd {w1 : va_W} {v : UInt64} (S0 : CallFix p m c cc nL s args Ts own) (hK : va_K g vwCl (zT ct) s) (hP : va_P g vwCl ws H) (hD : va_D A ws) (hS : va_S A H0 H locs) (hN : zNW s) (hA : ∀ q, H0.size ≤ q → A q)
    (isC isR isB : List Nat) (hC : isC.map (fun i => ws[i]?) = wc.map some) (hR : isR.map (fun i => ws[i]?) = wr.map some) (hB : isB.map (fun i => (wr ++ w1)[i]?) = w2.map some) (hnC : va_nd isC = true) (hnR : va_nd isR = true) (hnB : va_nd isB = true) (hdis : ∀ i ∈ isR, i ∉ isC)
    (hM : Met l y wsC rm (va_Pc (.ref b :: As) (zW g ct wc H.size)) (zQd g w1 v (va_A wc H.size)) 0 0 (va_A wc H.size)) (cw : CallW R s args own C index y bytes maxL ret wsC rm 0 0 n)
    (q0 : Nat) (he : wc[q0]? = some (zO b ci fs)) (hc : vwCl[ci]? = some (C, T, N)) (hn : As.length = n) (hsize : ls.size = nL) (hst : st = As.reverse ++ .ref b :: rest) (hW : (rest.map fun v => v.category).sum ≤ 8) (hdg : decode cc pc = .ok (.invokevirtual index, 3)) (hf : cells ≤ R.cells ∧ slots ≤ R.slots)
    (kk : ∀ (H1 : Heap) (locs1 : List Loc), va_P g vwCl w2 H1 → va_D A w2 → va_S A H0 H1 locs1 → W p l e R s m args below meth c H1 locs1 cells slots Q (F0 m (pc + 3) ls (.double v :: rest))) : W p l e R s m args below meth c H locs cells slots Q (F0 m pc ls st) := by
  refine z_eVd S0 hK hP hD hS hN hA isC isR hC hR hnC hnR hdis hM cw q0 he hc hn hsize hst hW hdg hf (fun u H1 locs1 hP1 hD1 hS1 => ?_)
  exact kk H1 locs1 (hP1.by (fun k => (isB[k]?).getD 0) (fun k q hk => by
    obtain ⟨i, h1, h2⟩ := va_in_of isB hB hk
    rw [h1]
    exact h2)) (hD1.sub isB hnB hB) hS1
/-- the same where no cell is made: every cell back at its place -/
theorem z_wVv {w1 : va_W} (S0 : CallFix p m c cc nL s args Ts own) (hK : va_K g vwCl (zT ct) s) (hP : va_P g vwCl ws H) (hD : va_D A ws) (hS : va_S A H0 H locs) (hN : zNW s) (hA : ∀ q, H0.size ≤ q → A q)
    (isC isR isB : List Nat) (hC : isC.map (fun i => ws[i]?) = wc.map some) (hR : isR.map (fun i => ws[i]?) = wr.map some) (hB : isB.map (fun i => (wr ++ w1)[i]?) = w2.map some) (hnC : va_nd isC = true) (hnR : va_nd isR = true) (hnB : va_nd isB = true) (hdis : ∀ i ∈ isR, i ∉ isC)
    (hM : Met l y wsC rm (va_Pc (.ref b :: As) (zW g ct wc H.size)) (zQv g w1 (va_A wc H.size)) 0 0 (va_A wc H.size)) (cw : CallW R s args own C index y bytes maxL ret wsC rm 0 0 n)
    (q0 : Nat) (he : wc[q0]? = some (zO b ci fs)) (hc : vwCl[ci]? = some (C, T, N)) (hn : As.length = n) (hsize : ls.size = nL) (hst : st = As.reverse ++ .ref b :: rest) (hW : (rest.map fun v => v.category).sum ≤ 8) (hdg : decode cc pc = .ok (.invokevirtual index, 3)) (hf : cells ≤ R.cells ∧ slots ≤ R.slots)
    (kk : ∀ (H1 : Heap) (locs1 : List Loc), va_P g vwCl w2 H1 → va_D A w2 → va_S A H0 H1 locs1 → W p l e R s m args below meth c H1 locs1 cells slots Q (F0 m (pc + 3) ls (rest))) : W p l e R s m args below meth c H locs cells slots Q (F0 m pc ls st) := by
  refine z_eVv S0 hK hP hD hS hN hA isC isR hC hR hnC hnR hdis hM cw q0 he hc hn hsize hst hW hdg hf (fun u H1 locs1 hP1 hD1 hS1 => ?_)
  exact kk H1 locs1 (hP1.by (fun k => (isB[k]?).getD 0) (fun k q hk => by
    obtain ⟨i, h1, h2⟩ := va_in_of isB hB hk
    rw [h1]
    exact h2)) (hD1.sub isB hnB hB) hS1
end ZCALL
