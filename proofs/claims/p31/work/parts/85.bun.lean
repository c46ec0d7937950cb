/-! the class's object as one value, its world, and one shape for its methods -/
abbrev CT : Type := (Nat → Nat) × (Nat → Nat) × (Nat → Nat) × Option ((Nat → Nat) × SVT) × SVT × SVT × Nat × Nat × RgT × Nat × (Nat → Int32) × (Nat → Int32) × Nat
abbrev k_ba (C : CT) : Nat → Nat := C.1
abbrev k_ad (C : CT) : Nat → Nat := C.2.1
abbrev k_bd (C : CT) : Nat → Nat := C.2.2.1
abbrev k_sn (C : CT) : Option ((Nat → Nat) × SVT) := C.2.2.2.1
abbrev k_v (C : CT) : SVT := C.2.2.2.2.1
abbrev k_tv (C : CT) : SVT := C.2.2.2.2.2.1
abbrev k_old (C : CT) : Nat := C.2.2.2.2.2.2.1
abbrev k_many (C : CT) : Nat := C.2.2.2.2.2.2.2.1
abbrev k_r (C : CT) : RgT := C.2.2.2.2.2.2.2.2.1
abbrev k_len (C : CT) : Nat := C.2.2.2.2.2.2.2.2.2.1
abbrev k_ch (C : CT) : Nat → Int32 := C.2.2.2.2.2.2.2.2.2.2.1
abbrev k_te (C : CT) : Nat → Int32 := C.2.2.2.2.2.2.2.2.2.2.2.1
abbrev k_lv (C : CT) : Nat := C.2.2.2.2.2.2.2.2.2.2.2.2
def snV (o : Option ((Nat → Nat) × SVT)) : Value := match o with
  | none => .null
  | some q => .ref (q.1 0)
abbrev txW (ct : Nat → ClassId) (x0 x1 x2 len : Nat) (ch te : Nat → Int32) (lv : Nat) : va_W := [zO x0 7 [.int (nI len), .ref x1, .ref x2, .int (nI lv)], zC ct x1 60 ch, zI ct x2 15 te]
abbrev XW (ct : Nat → ClassId) (C : CT) : va_W := zO (k_ba C 0) 8 [.ref (k_ad C 0), .ref (k_bd C 0), .ref (k_ba C 1), .ref (k_ba C 3), snV (k_sn C)] :: (stW ct (k_ad C) (k_v C) ++ (hstW ct (k_ba C 1) (k_ba C 2) (k_old C) (k_many C) (k_r C) ++ (txW ct (k_ba C 3) (k_ba C 4) (k_ba C 5) (k_len C) (k_ch C) (k_te C) (k_lv C) ++ stW ct (k_bd C) (k_tv C))))
def CW (ct : Nat → ClassId) (C : CT) : va_W := XW ct C ++ (bkW ct (k_sn C) ++ bank ct (k_r C))
theorem pm_a {X A B K : va_W} (h : List.Perm X (A ++ B)) : List.Perm (X ++ K) (A ++ (B ++ K)) := by
  rw [← List.append_assoc]
  exact h.append_right K
theorem pm_b {X A B K1 K2 : va_W} (h : List.Perm X (A ++ B)) : List.Perm (X ++ (K1 ++ K2)) ((A ++ K2) ++ (B ++ K1)) := by
  refine (h.append_right _).trans ?_
  rw [List.append_assoc, List.append_assoc]
  refine List.Perm.append_left A ?_
  rw [← List.append_assoc]
  exact List.perm_append_comm
section LC
variable {l : Launch} {y : MethodName} {ws : List Cond} {rm rm2 : Room} {av : List Value} {g : va_G} {ct : Nat → ClassId} {wc wd w1 : va_W} {sz : Nat} {K : CT → Prop} {C C2 : CT}

theorem lc_Ri {v : Int32} (hK : K C) (hp : List.Perm (XW ct C) (wc ++ wd)) (hM : Met l y ws rm (va_Pc av (zR g ct wc)) (vp_Si (fun r => r = v)) 0 0 (fun _ => False)) (hfr : rm.frames ≤ rm2.frames) (hlo : rm.locals ≤ rm2.locals) (hce : rm.cells ≤ rm2.cells) (hsl : rm.slots ≤ rm2.slots) :
    Met l y ws rm2 (va_Pc av (zW g ct (CW ct C) sz)) (zEi (S := {u : CT // K u}) g (fun u => CW ct u.1) v (va_A (CW ct C) sz)) 21 158 (va_A (CW ct C) sz) :=
  z_rdi hM (pm_a hp) (⟨C, hK⟩ : {u : CT // K u}) (List.Perm.refl _) hfr hlo hce hsl
theorem lc_Wi {v : Int32} (hK : K C2) (hs : k_sn C2 = k_sn C) (hr : k_r C2 = k_r C) (hp : List.Perm (XW ct C) (wc ++ wd)) (hp2 : List.Perm (XW ct C2) (w1 ++ wd)) (hM : Met l y ws rm (va_Pc av (zW g ct wc sz)) (zEi (S := Unit) g (fun _ => w1) v (va_A wc sz)) 0 0 (va_A wc sz)) (hfr : rm.frames ≤ rm2.frames) (hlo : rm.locals ≤ rm2.locals) (hce : rm.cells ≤ rm2.cells) (hsl : rm.slots ≤ rm2.slots) :
    Met l y ws rm2 (va_Pc av (zW g ct (CW ct C) sz)) (zEi (S := {u : CT // K u}) g (fun u => CW ct u.1) v (va_A (CW ct C) sz)) 21 158 (va_A (CW ct C) sz) :=
  z_consi hM (pm_a hp) (fun _ => ⟨(⟨C2, hK⟩ : {u : CT // K u}), by
    have h := pm_a (K := bkW ct (k_sn C) ++ bank ct (k_r C)) hp2
    show List.Perm _ (CW ct C2)
    unfold CW
    rw [hs, hr]
    exact h.symm⟩) hfr hlo hce hsl (Nat.zero_le _) (Nat.zero_le _)

theorem lc_Rl {v : Int64} (hK : K C) (hp : List.Perm (XW ct C) (wc ++ wd)) (hM : Met l y ws rm (va_Pc av (zR g ct wc)) (vp_Sl (fun r => r = v)) 0 0 (fun _ => False)) (hfr : rm.frames ≤ rm2.frames) (hlo : rm.locals ≤ rm2.locals) (hce : rm.cells ≤ rm2.cells) (hsl : rm.slots ≤ rm2.slots) :
    Met l y ws rm2 (va_Pc av (zW g ct (CW ct C) sz)) (zEl (S := {u : CT // K u}) g (fun u => CW ct u.1) v (va_A (CW ct C) sz)) 21 158 (va_A (CW ct C) sz) :=
  z_rdl hM (pm_a hp) (⟨C, hK⟩ : {u : CT // K u}) (List.Perm.refl _) hfr hlo hce hsl
theorem lc_Wl {v : Int64} (hK : K C2) (hs : k_sn C2 = k_sn C) (hr : k_r C2 = k_r C) (hp : List.Perm (XW ct C) (wc ++ wd)) (hp2 : List.Perm (XW ct C2) (w1 ++ wd)) (hM : Met l y ws rm (va_Pc av (zW g ct wc sz)) (zEl (S := Unit) g (fun _ => w1) v (va_A wc sz)) 0 0 (va_A wc sz)) (hfr : rm.frames ≤ rm2.frames) (hlo : rm.locals ≤ rm2.locals) (hce : rm.cells ≤ rm2.cells) (hsl : rm.slots ≤ rm2.slots) :
    Met l y ws rm2 (va_Pc av (zW g ct (CW ct C) sz)) (zEl (S := {u : CT // K u}) g (fun u => CW ct u.1) v (va_A (CW ct C) sz)) 21 158 (va_A (CW ct C) sz) :=
  z_consl hM (pm_a hp) (fun _ => ⟨(⟨C2, hK⟩ : {u : CT // K u}), by
    have h := pm_a (K := bkW ct (k_sn C) ++ bank ct (k_r C)) hp2
    show List.Perm _ (CW ct C2)
    unfold CW
    rw [hs, hr]
    exact h.symm⟩) hfr hlo hce hsl (Nat.zero_le _) (Nat.zero_le _)

theorem lc_Rd {v : UInt64} (hK : K C) (hp : List.Perm (XW ct C) (wc ++ wd)) (hM : Met l y ws rm (va_Pc av (zR g ct wc)) (vp_Sd (fun r => r = v)) 0 0 (fun _ => False)) (hfr : rm.frames ≤ rm2.frames) (hlo : rm.locals ≤ rm2.locals) (hce : rm.cells ≤ rm2.cells) (hsl : rm.slots ≤ rm2.slots) :
    Met l y ws rm2 (va_Pc av (zW g ct (CW ct C) sz)) (zEd (S := {u : CT // K u}) g (fun u => CW ct u.1) v (va_A (CW ct C) sz)) 21 158 (va_A (CW ct C) sz) :=
  z_rdd hM (pm_a hp) (⟨C, hK⟩ : {u : CT // K u}) (List.Perm.refl _) hfr hlo hce hsl
theorem lc_Wd {v : UInt64} (hK : K C2) (hs : k_sn C2 = k_sn C) (hr : k_r C2 = k_r C) (hp : List.Perm (XW ct C) (wc ++ wd)) (hp2 : List.Perm (XW ct C2) (w1 ++ wd)) (hM : Met l y ws rm (va_Pc av (zW g ct wc sz)) (zEd (S := Unit) g (fun _ => w1) v (va_A wc sz)) 0 0 (va_A wc sz)) (hfr : rm.frames ≤ rm2.frames) (hlo : rm.locals ≤ rm2.locals) (hce : rm.cells ≤ rm2.cells) (hsl : rm.slots ≤ rm2.slots) :
    Met l y ws rm2 (va_Pc av (zW g ct (CW ct C) sz)) (zEd (S := {u : CT // K u}) g (fun u => CW ct u.1) v (va_A (CW ct C) sz)) 21 158 (va_A (CW ct C) sz) :=
  z_consd hM (pm_a hp) (fun _ => ⟨(⟨C2, hK⟩ : {u : CT // K u}), by
    have h := pm_a (K := bkW ct (k_sn C) ++ bank ct (k_r C)) hp2
    show List.Perm _ (CW ct C2)
    unfold CW
    rw [hs, hr]
    exact h.symm⟩) hfr hlo hce hsl (Nat.zero_le _) (Nat.zero_le _)

theorem lc_Qi {v : Int32} {w3 : (Nat → Nat) → va_W} {r3 : (Nat → Nat) → RgT} {C3 : (Nat → Nat) → CT} (hK : ∀ u, K (C3 u)) (hs : ∀ u, k_sn (C3 u) = k_sn C) (hr : ∀ u, k_r (C3 u) = r3 u) (hp : List.Perm (XW ct C) (wc ++ wd)) (hp2 : ∀ u, List.Perm (XW ct (C3 u)) (w3 u ++ wd))
    (hM : Met l y ws rm (va_Pc av (zW g ct (wc ++ bank ct (k_r C)) sz)) (zEi (S := Nat → Nat) g (fun u => w3 u ++ bank ct (r3 u)) v (va_A (wc ++ bank ct (k_r C)) sz)) 21 158 (va_A (wc ++ bank ct (k_r C)) sz)) (hfr : rm.frames ≤ rm2.frames) (hlo : rm.locals ≤ rm2.locals) (hce : rm.cells ≤ rm2.cells) (hsl : rm.slots ≤ rm2.slots) :
    Met l y ws rm2 (va_Pc av (zW g ct (CW ct C) sz)) (zEi (S := {u : CT // K u}) g (fun u => CW ct u.1) v (va_A (CW ct C) sz)) 21 158 (va_A (CW ct C) sz) :=
  z_consi hM (pm_b hp) (fun u => ⟨(⟨C3 u, hK u⟩ : {u : CT // K u}), by
    have h := pm_b (K1 := bkW ct (k_sn C)) (K2 := bank ct (r3 u)) (hp2 u)
    show List.Perm _ (CW ct (C3 u))
    unfold CW
    rw [hs, hr]
    exact h.symm⟩) hfr hlo hce hsl (Nat.le_refl _) (Nat.le_refl _)
end LC
