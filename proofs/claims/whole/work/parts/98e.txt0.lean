/-! the text: both sides read it alike -/
theorem dg_in (x : Int32) : inP x.toInt64 48 57 ↔ dgP x := by
  unfold inP dgP
  rw [Int64.lt_iff_toInt_lt, Int64.lt_iff_toInt_lt, Int32.lt_iff_toInt_lt, Int32.lt_iff_toInt_lt, Int32.toInt_toInt64]
  exact Iff.rfl
theorem dg_N {x : Int32} (h : dgP x) : ∃ d : Fin 10, x = nI (48 + d.val) := by
  have h1 : ¬ x < 0 := fun q => h.1 (Int32.lt_of_lt_of_le q (by decide))
  obtain ⟨j, hj, rfl⟩ := nI_of h1
  have h2 : ¬ nI j < nI 48 := h.1
  have h3 : ¬ nI 57 < nI j := h.2
  rw [nI_ltI hj (by omega)] at h2
  rw [nI_ltI (by omega) hj] at h3
  exact ⟨⟨j - 48, by omega⟩, by show nI j = nI (48 + (j - 48)); rw [show 48 + (j - 48) = j by omega]⟩
theorem dg_v : ∀ a b : Fin 10, ((0 * 10 + (nI (48 + a.val) - 48)) * 10 + (nI (48 + b.val) - 48) = 10 * (nI (48 + a.val) - 48) + (nI (48 + b.val) - 48)) ∧ (-100 < 10 * (nI (48 + a.val) - 48) + (nI (48 + b.val) - 48) ∧ 10 * (nI (48 + a.val) - 48) + (nI (48 + b.val) - 48) < 100) ∧ (-100 < -(10 * (nI (48 + a.val) - 48) + (nI (48 + b.val) - 48)) ∧ -(10 * (nI (48 + a.val) - 48) + (nI (48 + b.val) - 48)) < 100) := by decide +kernel
theorem dg_5 : ∀ a : Fin 10, ¬ nI (48 + a.val) - 48 = -5 := by decide +kernel
theorem dg_ne {x : Int32} (h : dgP x) : ¬ x = 45 ∧ ¬ x = 44 ∧ ¬ x = 46 := by
  refine ⟨fun q => ?_, fun q => ?_, fun q => ?_⟩ <;> (subst q; exact absurd h (by decide))
/-- place, value, sign and levels behind p characters -/
def StP (ch te : Nat → Int32) (p : Nat) (q vl ng : Int32) (t : (Nat → Int32) × Nat) : Prop := plK ch p = q ∧ lp (rtS ch) p (0, 0, te, 0) = (vl, ng, t)
section STP
variable {ch te : Nat → Int32} {p : Nat} {q vl ng : Int32} {t : (Nat → Int32) × Nat}
theorem St_m (h : StP ch te p 0 vl ng t) (hc : ch p = 45) : StP ch te (p + 1) 1 vl 1 t := by
  refine ⟨?_, ?_⟩
  · rw [plK_s, h.1, hc]; rfl
  · rw [lp_s, h.2]; unfold rtS; rw [if_pos hc]
theorem St_d (h : StP ch te p q vl ng t) (hq : q = 0 ∨ q = 1) (hc : dgP (ch p)) : StP ch te (p + 1) 2 (vl * 10 + (ch p - 48)) ng t := by
  have hn := dg_ne hc
  refine ⟨?_, ?_⟩
  · rw [plK_s, h.1]
    unfold plB
    rcases hq with z | z
    · rw [if_pos z, if_neg hn.1, if_pos hc]
    · rw [if_neg (by rw [z]; decide), if_pos z, if_pos hc]
  · rw [lp_s, h.2]; unfold rtS; rw [if_neg hn.1, if_pos hc]
theorem St_p (h : StP ch te p 2 vl ng t) (hc : ch p = 46) : StP ch te (p + 1) 3 vl ng t := by
  refine ⟨?_, ?_⟩
  · rw [plK_s, h.1, hc]; rfl
  · rw [lp_s, h.2]; unfold rtS; rw [hc]; rfl
theorem St_e (h : StP ch te p 3 vl ng t) (hc : dgP (ch p)) : StP ch te (p + 1) 4 (vl * 10 + (ch p - 48)) ng t := by
  have hn := dg_ne hc
  refine ⟨?_, ?_⟩
  · rw [plK_s, h.1]
    unfold plB
    rw [if_neg (by decide), if_neg (by decide), if_neg (by decide), if_pos rfl, if_pos hc]
  · rw [lp_s, h.2]; unfold rtS; rw [if_neg hn.1, if_pos hc]
theorem St_c (h : StP ch te p 4 vl ng t) (hc : ch p = 44) : StP ch te (p + 1) 0 0 0 (adL (if ng = 0 then vl else -vl) t) := by
  refine ⟨?_, ?_⟩
  · rw [plK_s, h.1, hc]; rfl
  · rw [lp_s, h.2]; unfold rtS; rw [hc]; rfl
theorem St_f0 (h : StP ch te p q vl ng t) (hq : q = 0 ∨ q = 1) (hm : q = 0 → ¬ ch p = 45) (hc : ¬ dgP (ch p)) : plK ch (p + 1) = -5 := by
  rw [plK_s, h.1]
  unfold plB
  rcases hq with z | z
  · rw [if_pos z, if_neg (hm z), if_neg hc]
  · rw [if_neg (by rw [z]; decide), if_pos z, if_neg hc]
theorem St_f2 (h : StP ch te p 2 vl ng t) (hc : ¬ ch p = 46) : plK ch (p + 1) = -5 := by
  rw [plK_s, h.1]
  unfold plB
  rw [if_neg (by decide), if_neg (by decide), if_pos rfl, if_neg hc]
theorem St_f3 (h : StP ch te p 3 vl ng t) (hc : ¬ dgP (ch p)) : plK ch (p + 1) = -5 := by
  rw [plK_s, h.1]
  unfold plB
  rw [if_neg (by decide), if_neg (by decide), if_neg (by decide), if_pos rfl, if_neg hc]
theorem St_f4 (h : StP ch te p 4 vl ng t) (hc : ¬ ch p = 44) : plK ch (p + 1) = -5 := by
  rw [plK_s, h.1]
  unfold plB
  rw [if_neg (by decide), if_neg (by decide), if_neg (by decide), if_neg (by decide), if_neg hc]
end STP
/-- a fault at f, none from pa to there -/
def FltP (ch : Nat → Int32) (len pa f : Nat) : Prop := (∀ j, pa ≤ j → j < f → ¬ plK ch (j + 1) = -5) ∧ ((f < len ∧ plK ch (f + 1) = -5) ∨ (f = len ∧ ¬ plK ch len = 4))
/-- a level from pa to f -/
def LvlP (ch te : Nat → Int32) (len pa f : Nat) (x : Int32) (t : (Nat → Int32) × Nat) : Prop := (∀ j, pa ≤ j → j < f → ¬ plK ch (j + 1) = -5) ∧ pa + 3 ≤ f ∧ f ≤ len ∧ (f = len ∨ ch f = 44) ∧ (-100 < x ∧ x < 100) ∧ ∃ vl ng, StP ch te f 4 vl ng t ∧ (if ng = 0 then vl else -vl) = x
set_option maxHeartbeats 4000000 in
theorem lvl_1 {ch te tx : Nat → Int32} {len pa : Nat} {t : (Nat → Int32) × Nat} (he : ∀ i, i < len → tx i = ch i) (hpa : pa ≤ len) (h : StP ch te pa 0 0 0 t) :
    (rlZ tx len pa ∨ ¬ rlZ tx len pa) ∧ (¬ rlZ tx len pa → FltP ch len pa (rlA tx len pa)) ∧ (rlZ tx len pa → ∃ x, LvlP ch te len pa (rlA tx len pa) x t ∧ (∀ rn, rlC tx len pa rn = rn + 1) ∧ ∀ rn rd, rlD tx len pa rn rd = upd rd rn x) := by
  refine ⟨Classical.em _, ?_⟩
  -- the sign
  have hA : ∃ q ng, (q = 0 ∨ q = 1) ∧ StP ch te (tkA tx len pa 45) q 0 ng t ∧ pa ≤ tkA tx len pa 45 ∧ tkA tx len pa 45 ≤ len ∧ (q = 0 → tkA tx len pa 45 < len → ¬ ch (tkA tx len pa 45) = 45) ∧ (∀ j, pa ≤ j → j < tkA tx len pa 45 → ¬ plK ch (j + 1) = -5) ∧ ((tkP tx len pa 45 ∧ ng = 1) ∨ (¬ tkP tx len pa 45 ∧ ng = 0)) := by
    unfold tkA
    by_cases c : tkP tx len pa 45
    · rw [if_pos c]
      have hc : ch pa = 45 := by rw [← he pa c.1]; exact c.2
      have s1 := St_m h hc
      exact ⟨1, 1, Or.inr rfl, s1, by omega, c.1, fun z => absurd z (by decide), fun j h1 h2 => by rw [show j = pa by omega, s1.1]; decide, Or.inl ⟨c, rfl⟩⟩
    · rw [if_neg c]
      exact ⟨0, 0, Or.inl rfl, h, Nat.le_refl _, hpa, fun _ hl hc => c ⟨hl, by rw [he pa hl]; exact hc⟩, fun j h1 h2 => by omega, Or.inr ⟨c, rfl⟩⟩
  obtain ⟨q, ng, hq, s1, hp1, hp2, hm, hno, hng⟩ := hA
  have hrA : rlA tx len pa = if dgV tx len (tkA tx len pa 45) = -5 then dgA tx len (tkA tx len pa 45) else if tkP tx len (dgA tx len (tkA tx len pa 45)) 46 then dgA tx len (tkA tx len (dgA tx len (tkA tx len pa 45)) 46) else tkA tx len (dgA tx len (tkA tx len pa 45)) 46 := rfl
  have hrC : ∀ rn, rlC tx len pa rn = if dgV tx len (tkA tx len pa 45) = -5 then rn else if tkP tx len (dgA tx len (tkA tx len pa 45)) 46 then (if dgV tx len (tkA tx len (dgA tx len (tkA tx len pa 45)) 46) = -5 then rn else rn + 1) else rn := fun _ => rfl
  have hrD : ∀ rn rd, rlD tx len pa rn rd = if dgV tx len (tkA tx len pa 45) = -5 then rd else if tkP tx len (dgA tx len (tkA tx len pa 45)) 46 then (if dgV tx len (tkA tx len (dgA tx len (tkA tx len pa 45)) 46) = -5 then rd else if tkP tx len pa 45 then upd rd rn (-(10 * (dgV tx len (tkA tx len pa 45)) + (dgV tx len (tkA tx len (dgA tx len (tkA tx len pa 45)) 46)))) else upd rd rn (10 * (dgV tx len (tkA tx len pa 45)) + (dgV tx len (tkA tx len (dgA tx len (tkA tx len pa 45)) 46)))) else rd := fun _ _ => rfl
  have hrZ : rlZ tx len pa ↔ (¬ dgV tx len (tkA tx len pa 45) = -5 ∧ (tkP tx len (dgA tx len (tkA tx len pa 45)) 46) ∧ ¬ dgV tx len (tkA tx len (dgA tx len (tkA tx len pa 45)) 46) = -5 ∧ (dgA tx len (tkA tx len (dgA tx len (tkA tx len pa 45)) 46) = len ∨ tx (dgA tx len (tkA tx len (dgA tx len (tkA tx len pa 45)) 46)) = 44)) := Iff.rfl
  generalize tkA tx len pa 45 = p1 at s1 hp1 hp2 hm hno hrA hrC hrD hrZ
  have dgI : ∀ p, dgT tx len p ↔ (p < len ∧ dgP (ch p)) := fun p => by
    unfold dgT
    constructor
    · rintro ⟨a, b⟩
      rw [he p a, dg_in] at b
      exact ⟨a, b⟩
    · rintro ⟨a, b⟩
      refine ⟨a, ?_⟩
      rw [he p a, dg_in]
      exact b
  -- the ones
  by_cases c1 : p1 < len ∧ dgP (ch p1)
  rotate_left
  · have e1 : dgA tx len p1 = p1 := if_neg (fun z => c1 ((dgI p1).mp z))
    have e2 : dgV tx len p1 = -5 := if_neg (fun z => c1 ((dgI p1).mp z))
    rw [if_pos e2, e1] at hrA
    refine ⟨fun _ => ?_, fun z => absurd e2 (hrZ.mp z).1⟩
    rw [hrA]
    refine ⟨hno, ?_⟩
    by_cases cl : p1 < len
    · exact Or.inl ⟨cl, St_f0 s1 hq (fun z => hm z cl) (fun z => c1 ⟨cl, z⟩)⟩
    · refine Or.inr ⟨by omega, ?_⟩
      rw [show len = p1 by omega, s1.1]
      rcases hq with z | z <;> (subst z; decide)
  have s2 := St_d s1 hq c1.2
  obtain ⟨d1, hd1⟩ := dg_N c1.2
  have e1 : dgA tx len p1 = p1 + 1 := if_pos ((dgI p1).mpr c1)
  have e2 : dgV tx len p1 = ch p1 - 48 := by rw [← he p1 c1.1]; exact if_pos ((dgI p1).mpr c1)
  have e3 : ¬ ch p1 - 48 = -5 := by rw [hd1]; exact dg_5 d1
  have hno : ∀ j, pa ≤ j → j < p1 + 1 → ¬ plK ch (j + 1) = -5 := fun j h1 h2 => by
    by_cases d : j = p1
    · rw [d, s2.1]; decide
    · exact hno j h1 (by omega)
  rw [e1, e2, if_neg e3] at hrA
  simp only [e1, e2, if_neg e3] at hrC hrD
  rw [e1, e2] at hrZ
  -- the point
  by_cases c2 : p1 + 1 < len ∧ ch (p1 + 1) = 46
  rotate_left
  · have n2 : ¬ tkP tx len (p1 + 1) 46 := fun z => c2 ⟨z.1, by rw [← he _ z.1]; exact z.2⟩
    have e4 : tkA tx len (p1 + 1) 46 = p1 + 1 := if_neg n2
    rw [if_neg n2, e4] at hrA
    refine ⟨fun _ => ?_, fun z => absurd (hrZ.mp z).2.1 n2⟩
    rw [hrA]
    refine ⟨hno, ?_⟩
    by_cases cl : p1 + 1 < len
    · exact Or.inl ⟨cl, St_f2 s2 (fun z => c2 ⟨cl, z⟩)⟩
    · refine Or.inr ⟨by omega, ?_⟩
      rw [show len = p1 + 1 by omega, s2.1]
      decide
  have t2 : tkP tx len (p1 + 1) 46 := ⟨c2.1, by rw [he _ c2.1]; exact c2.2⟩
  have e4 : tkA tx len (p1 + 1) 46 = p1 + 1 + 1 := if_pos t2
  have s3 := St_p s2 c2.2
  have hno : ∀ j, pa ≤ j → j < p1 + 1 + 1 → ¬ plK ch (j + 1) = -5 := fun j h1 h2 => by
    by_cases d : j = p1 + 1
    · rw [d, s3.1]; decide
    · exact hno j h1 (by omega)
  rw [if_pos t2, e4] at hrA
  simp only [if_pos t2, e4] at hrC hrD
  rw [e4] at hrZ
  -- the tenths
  by_cases c3 : p1 + 1 + 1 < len ∧ dgP (ch (p1 + 1 + 1))
  rotate_left
  · have e5 : dgA tx len (p1 + 1 + 1) = p1 + 1 + 1 := if_neg (fun z => c3 ((dgI _).mp z))
    have e6 : dgV tx len (p1 + 1 + 1) = -5 := if_neg (fun z => c3 ((dgI _).mp z))
    rw [e5] at hrA
    refine ⟨fun _ => ?_, fun z => absurd e6 (hrZ.mp z).2.2.1⟩
    rw [hrA]
    refine ⟨hno, ?_⟩
    by_cases cl : p1 + 1 + 1 < len
    · exact Or.inl ⟨cl, St_f3 s3 (fun z => c3 ⟨cl, z⟩)⟩
    · refine Or.inr ⟨by omega, ?_⟩
      rw [show len = p1 + 1 + 1 by omega, s3.1]
      decide
  have s4 := St_e s3 c3.2
  obtain ⟨d3, hd3⟩ := dg_N c3.2
  have e5 : dgA tx len (p1 + 1 + 1) = p1 + 1 + 1 + 1 := if_pos ((dgI _).mpr c3)
  have e6 : dgV tx len (p1 + 1 + 1) = ch (p1 + 1 + 1) - 48 := by rw [← he _ c3.1]; exact if_pos ((dgI _).mpr c3)
  have e7 : ¬ ch (p1 + 1 + 1) - 48 = -5 := by rw [hd3]; exact dg_5 d3
  have hno : ∀ j, pa ≤ j → j < p1 + 1 + 1 + 1 → ¬ plK ch (j + 1) = -5 := fun j h1 h2 => by
    by_cases d : j = p1 + 1 + 1
    · rw [d, s4.1]; decide
    · exact hno j h1 (by omega)
  rw [e5] at hrA
  simp only [e6, if_neg e7] at hrC hrD
  rw [e5, e6] at hrZ
  have hv := dg_v d1 d3
  rw [← hd1, ← hd3] at hv
  rw [hv.1] at s4
  rw [hrA]
  by_cases c4 : p1 + 1 + 1 + 1 = len ∨ tx (p1 + 1 + 1 + 1) = 44
  · have hz : rlZ tx len pa := hrZ.mpr ⟨e3, t2, e7, c4⟩
    refine ⟨fun z => absurd hz z, fun _ => ?_⟩
    have c5 : p1 + 1 + 1 + 1 = len ∨ ch (p1 + 1 + 1 + 1) = 44 := by
      by_cases d : p1 + 1 + 1 + 1 = len
      · exact Or.inl d
      · right
        rcases c4 with z | z
        · exact absurd z d
        · rw [← he _ (by omega)]; exact z
    rcases hng with ⟨g1, g2⟩ | ⟨g1, g2⟩
    · subst g2
      refine ⟨-(10 * (ch p1 - 48) + (ch (p1 + 1 + 1) - 48)), ⟨hno, by omega, by omega, c5, hv.2.2, _, 1, s4, if_neg (by decide)⟩, hrC, fun rn rd => ?_⟩
      rw [hrD rn rd, if_pos g1]
    · subst g2
      refine ⟨10 * (ch p1 - 48) + (ch (p1 + 1 + 1) - 48), ⟨hno, by omega, by omega, c5, hv.2.1, _, 0, s4, if_pos rfl⟩, hrC, fun rn rd => ?_⟩
      rw [hrD rn rd, if_neg g1]
  · have hz : ¬ rlZ tx len pa := fun z => c4 (hrZ.mp z).2.2.2
    refine ⟨fun _ => ⟨hno, Or.inl ⟨by omega, ?_⟩⟩, fun z => absurd z hz⟩
    have hl : p1 + 1 + 1 + 1 < len := by omega
    exact St_f4 s4 (fun z => c4 (Or.inr (by rw [he _ hl]; exact z)))
