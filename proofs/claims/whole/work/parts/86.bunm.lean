/-! the reference's object as one value; the relation of the two objects -/
abbrev MT : Type := (Nat → Nat) × (Nat → Int64) × (Nat → Int64) × (Nat → Int64) × (Nat → Int64) × (Nat → UInt64) × (Nat → UInt64) × (Nat → UInt64) × Nat × Int32 × Nat × (Nat → Int32) × Nat × Nat × (Nat → Int32)
abbrev j_ma (M : MT) : Nat → Nat := M.1
abbrev j_n (M : MT) : Nat → Int64 := M.2.1
abbrev j_hy (M : MT) : Nat → Int64 := M.2.2.1
abbrev j_sl (M : MT) : Nat → Int64 := M.2.2.2.1
abbrev j_sp (M : MT) : Nat → Int64 := M.2.2.2.2.1
abbrev j_re (M : MT) : Nat → UInt64 := M.2.2.2.2.2.1
abbrev j_rh (M : MT) : Nat → UInt64 := M.2.2.2.2.2.2.1
abbrev j_rs (M : MT) : Nat → UInt64 := M.2.2.2.2.2.2.2.1
abbrev j_kp (M : MT) : Nat := M.2.2.2.2.2.2.2.2.1
abbrev j_fl (M : MT) : Int32 := M.2.2.2.2.2.2.2.2.2.1
abbrev j_tn (M : MT) : Nat := M.2.2.2.2.2.2.2.2.2.2.1
abbrev j_tx (M : MT) : Nat → Int32 := M.2.2.2.2.2.2.2.2.2.2.2.1
abbrev j_pa (M : MT) : Nat := M.2.2.2.2.2.2.2.2.2.2.2.2.1
abbrev j_rn (M : MT) : Nat := M.2.2.2.2.2.2.2.2.2.2.2.2.2.1
abbrev j_rd (M : MT) : Nat → Int32 := M.2.2.2.2.2.2.2.2.2.2.2.2.2.2
abbrev MWd (ct : Nat → ClassId) (M : MT) : va_W := [zO (j_ma M 0) 9 [.ref (j_ma M 1), .ref (j_ma M 2), .ref (j_ma M 3), .ref (j_ma M 4), .ref (j_ma M 5), .ref (j_ma M 6), .ref (j_ma M 7), .int (nI (j_kp M)), .int (j_fl M), .int (nI (j_tn M)), .ref (j_ma M 8), .int (nI (j_pa M)), .int (nI (j_rn M)), .ref (j_ma M 9)], zL ct (j_ma M 1) 108 (j_n M), zL ct (j_ma M 2) 540 (j_hy M), zL ct (j_ma M 3) 108 (j_sl M), zL ct (j_ma M 4) 108 (j_sp M), zD ct (j_ma M 5) 33 (j_re M), zD ct (j_ma M 6) 165 (j_rh M), zD ct (j_ma M 7) 33 (j_rs M), zC ct (j_ma M 8) 60 (j_tx M), zI ct (j_ma M 9) 17 (j_rd M)]
def Rel (T : Nat) (C : CT) (M : MT) : Prop :=
  SR (k_v C) (j_n M) (j_re M) ∧ v_h (k_v C) ≤ T ∧ (k_old C < 5 ∧ k_many C ≤ 5 ∧ j_kp M = k_many C) ∧ RgP (k_old C) (k_many C) (k_r C) (j_hy M) (j_rh M) T ∧
  ((k_sn C = none ∧ j_fl M = 0) ∨ ∃ q, k_sn C = some q ∧ j_fl M = 1 ∧ SR q.2 (j_sl M) (j_rs M) ∧ v_h q.2 ≤ T) ∧ (k_len C ≤ 60 ∧ j_tn M = k_len C ∧ ∀ i, i < k_len C → j_tx M i = k_ch C i)
theorem RgP_m {old many : Nat} {r : RgT} {hy : Nat → Int64} {rh : Nat → UInt64} {T T2 : Nat} (h : T ≤ T2) (hR : RgP old many r hy rh T) : RgP old many r hy rh T2 := fun i hi => by
  obtain ⟨q, a, b, c⟩ := hR i hi
  exact ⟨q, a, b, Nat.le_trans c h⟩
theorem Rel_m {T T2 : Nat} {C : CT} {M : MT} (h : T ≤ T2) (hR : Rel T C M) : Rel T2 C M := by
  obtain ⟨a, b, c, d, e, f⟩ := hR
  refine ⟨a, Nat.le_trans b h, c, RgP_m h d, ?_, f⟩
  rcases e with e | ⟨q, e1, e2, e3, e4⟩
  · exact Or.inl e
  · exact Or.inr ⟨q, e1, e2, e3, Nat.le_trans e4 h⟩
/-- the class's object with another state, the old one in its ring -/
def k_rec (C : CT) (v2 : SVT) (u : Nat → Nat) : CT := (k_ba C, k_ad C, k_bd C, k_sn C, v2, k_tv C, recO (k_old C) (k_many C), recM (k_many C), recR (k_r C) (k_old C) (k_many C) u (k_v C), k_len C, k_ch C, k_te C, k_lv C)
/-- .. and the reference's -/
def j_rec (M : MT) (n2 : Nat → Int64) (re2 : Nat → UInt64) : MT := (j_ma M, n2, mhy (j_hy M) (j_n M) (j_kp M), j_sl M, j_sp M, re2, mrh (j_rh M) (j_re M) (j_kp M), j_rs M, mkp (j_kp M), j_fl M, j_tn M, j_tx M, j_pa M, j_rn M, j_rd M)
theorem Rel_rec {T T2 : Nat} {C : CT} {M : MT} (hR : Rel T C M) (hT : T ≤ T2) {v2 : SVT} {n2 : Nat → Int64} {re2 : Nat → UInt64} (hS : SR v2 n2 re2) (hv : v_h v2 ≤ T2) (u : Nat → Nat) : Rel T2 (k_rec C v2 u) (j_rec M n2 re2) := by
  obtain ⟨a, b, ⟨c1, c2, c3⟩, d, e, f⟩ := Rel_m hT hR
  have h := RgP_rec c1 c2 d a b u
  refine ⟨hS, hv, ⟨h.2.2.1, h.2.2.2, ?_⟩, ?_, e, f⟩
  · show mkp (j_kp M) = recM (k_many C)
    rw [c3]; exact h.2.1.symm
  · show RgP _ _ _ (mhy (j_hy M) (j_n M) (j_kp M)) (mrh (j_rh M) (j_re M) (j_kp M)) _
    rw [c3]; exact h.1
theorem in_os {x lo hi : Int32} {a b : Int64} (ha : a = lo.toInt64) (hb : b = hi.toInt64) : inP x.toInt64 a b ↔ ¬ osP x lo hi := by
  subst ha; subst hb
  unfold inP osP
  rw [Int64.lt_iff_toInt_lt, Int64.lt_iff_toInt_lt, Int32.lt_iff_toInt_lt, Int32.lt_iff_toInt_lt, Int32.toInt_toInt64, Int32.toInt_toInt64, Int32.toInt_toInt64]
  constructor
  · rintro ⟨h1, h2⟩ (q | q)
    · exact h1 q
    · exact h2 q
  · exact fun h => ⟨fun q => h (Or.inl q), fun q => h (Or.inr q)⟩
section LM
variable {l : Launch} {y : MethodName} {ws : List Cond} {rm rm2 : Room} {av : List Value} {g : va_G} {ct : Nat → ClassId} {sz : Nat} {M M2 : MT}

theorem lm_Ri {v : Int32} (hM : Met l y ws rm (va_Pc av (zR g ct (MWd ct M))) (vp_Si (fun r => r = v)) 0 0 (fun _ => False)) (hfr : rm.frames ≤ rm2.frames) (hlo : rm.locals ≤ rm2.locals) (hce : rm.cells ≤ rm2.cells) (hsl : rm.slots ≤ rm2.slots) :
    Met l y ws rm2 (va_Pc av (zW g ct (MWd ct M) sz)) (zEi (S := Unit) g (fun _ => MWd ct M) v (va_A (MWd ct M) sz)) 0 0 (va_A (MWd ct M) sz) :=
  z_rdi (wr := []) hM (by rw [List.append_nil]) () (List.Perm.refl _) hfr hlo hce hsl
theorem lm_Wi {v : Int32} (hM : Met l y ws rm (va_Pc av (zW g ct (MWd ct M) sz)) (zEi (S := Unit) g (fun _ => MWd ct M2) v (va_A (MWd ct M) sz)) 0 0 (va_A (MWd ct M) sz)) (hfr : rm.frames ≤ rm2.frames) (hlo : rm.locals ≤ rm2.locals) (hce : rm.cells ≤ rm2.cells) (hsl : rm.slots ≤ rm2.slots) :
    Met l y ws rm2 (va_Pc av (zW g ct (MWd ct M) sz)) (zEi (S := Unit) g (fun _ => MWd ct M2) v (va_A (MWd ct M) sz)) 0 0 (va_A (MWd ct M) sz) :=
  z_consi (wr := []) hM (by rw [List.append_nil]) (fun u => ⟨u, by rw [List.append_nil]⟩) hfr hlo hce hsl (Nat.le_refl _) (Nat.le_refl _)

theorem lm_Rl {v : Int64} (hM : Met l y ws rm (va_Pc av (zR g ct (MWd ct M))) (vp_Sl (fun r => r = v)) 0 0 (fun _ => False)) (hfr : rm.frames ≤ rm2.frames) (hlo : rm.locals ≤ rm2.locals) (hce : rm.cells ≤ rm2.cells) (hsl : rm.slots ≤ rm2.slots) :
    Met l y ws rm2 (va_Pc av (zW g ct (MWd ct M) sz)) (zEl (S := Unit) g (fun _ => MWd ct M) v (va_A (MWd ct M) sz)) 0 0 (va_A (MWd ct M) sz) :=
  z_rdl (wr := []) hM (by rw [List.append_nil]) () (List.Perm.refl _) hfr hlo hce hsl
theorem lm_Wl {v : Int64} (hM : Met l y ws rm (va_Pc av (zW g ct (MWd ct M) sz)) (zEl (S := Unit) g (fun _ => MWd ct M2) v (va_A (MWd ct M) sz)) 0 0 (va_A (MWd ct M) sz)) (hfr : rm.frames ≤ rm2.frames) (hlo : rm.locals ≤ rm2.locals) (hce : rm.cells ≤ rm2.cells) (hsl : rm.slots ≤ rm2.slots) :
    Met l y ws rm2 (va_Pc av (zW g ct (MWd ct M) sz)) (zEl (S := Unit) g (fun _ => MWd ct M2) v (va_A (MWd ct M) sz)) 0 0 (va_A (MWd ct M) sz) :=
  z_consl (wr := []) hM (by rw [List.append_nil]) (fun u => ⟨u, by rw [List.append_nil]⟩) hfr hlo hce hsl (Nat.le_refl _) (Nat.le_refl _)

theorem lm_Rd {v : UInt64} (hM : Met l y ws rm (va_Pc av (zR g ct (MWd ct M))) (vp_Sd (fun r => r = v)) 0 0 (fun _ => False)) (hfr : rm.frames ≤ rm2.frames) (hlo : rm.locals ≤ rm2.locals) (hce : rm.cells ≤ rm2.cells) (hsl : rm.slots ≤ rm2.slots) :
    Met l y ws rm2 (va_Pc av (zW g ct (MWd ct M) sz)) (zEd (S := Unit) g (fun _ => MWd ct M) v (va_A (MWd ct M) sz)) 0 0 (va_A (MWd ct M) sz) :=
  z_rdd (wr := []) hM (by rw [List.append_nil]) () (List.Perm.refl _) hfr hlo hce hsl
theorem lm_Wd {v : UInt64} (hM : Met l y ws rm (va_Pc av (zW g ct (MWd ct M) sz)) (zEd (S := Unit) g (fun _ => MWd ct M2) v (va_A (MWd ct M) sz)) 0 0 (va_A (MWd ct M) sz)) (hfr : rm.frames ≤ rm2.frames) (hlo : rm.locals ≤ rm2.locals) (hce : rm.cells ≤ rm2.cells) (hsl : rm.slots ≤ rm2.slots) :
    Met l y ws rm2 (va_Pc av (zW g ct (MWd ct M) sz)) (zEd (S := Unit) g (fun _ => MWd ct M2) v (va_A (MWd ct M) sz)) 0 0 (va_A (MWd ct M) sz) :=
  z_consd (wr := []) hM (by rw [List.append_nil]) (fun u => ⟨u, by rw [List.append_nil]⟩) hfr hlo hce hsl (Nat.le_refl _) (Nat.le_refl _)

end LM
