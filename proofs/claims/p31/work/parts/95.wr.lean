/-! refused calls under what holds; what an act leaves -/
def Aft (C u : CT) (T : Nat) : Prop := Sm C u ∨ ∃ v2 U, IV v2 (T + 1) ∧ Sm (k_rec C v2 U) u
theorem rd_as2 (l : Launch) (g : va_G) (ct : Nat → ClassId) {T : Nat} (C : CT) (hIV : IV (k_v C) T) (x : Int32) (y : Int64) (z w : Int32) (h : osP x 1 50 ∨ ¬ crOk y ∨ osP z 1 6 ∨ osP w 1 20) : Met l yX9_addSection wsX9_addSection (zRm 1 22) (va_Pc [.ref (k_ba C 0), .int x, .long y, .int z, .int w] (zR g ct (CW ct C))) (vp_Si (fun r => r = -2)) 0 0 (fun _ => False) := by
  have q := rd_addSection_a l g ct C (iv_nS hIV) x y z w (fun q => h.elim q.1 (fun h => h.elim (fun r => r q.2.1) (fun h => h.elim q.2.2.1 q.2.2.2.1)))
  rw [if_pos h] at q
  exact q
theorem rd_as3 (l : Launch) (g : va_G) (ct : Nat → ClassId) {T : Nat} (C : CT) (hIV : IV (k_v C) T) (x : Int32) (y : Int64) (z w : Int32) (h : ¬ (osP x 1 50 ∨ ¬ crOk y ∨ osP z 1 6 ∨ osP w 1 20)) (hn : 8 ≤ v_nS (k_v C)) : Met l yX9_addSection wsX9_addSection (zRm 1 22) (va_Pc [.ref (k_ba C 0), .int x, .long y, .int z, .int w] (zR g ct (CW ct C))) (vp_Si (fun r => r = -3)) 0 0 (fun _ => False) := by
  have q := rd_addSection_a l g ct C (iv_nS hIV) x y z w (fun q => q.2.2.2.2 hn)
  rw [if_neg h] at q
  exact q
theorem rd_ad2 (l : Launch) (g : va_G) (ct : Nat → ClassId) {T : Nat} (C : CT) (hIV : IV (k_v C) T) (x : Int32) (h : osP x 1 99) : Met l yX9_addDistrict wsX9_addDistrict (zRm 1 22) (va_Pc [.ref (k_ba C 0), .int x] (zR g ct (CW ct C))) (vp_Si (fun r => r = -2)) 0 0 (fun _ => False) := by
  have q := rd_addDistrict_a l g ct C (iv_nD hIV) x (fun q => q.1 h)
  rw [if_pos h] at q
  exact q
theorem rd_ad3 (l : Launch) (g : va_G) (ct : Nat → ClassId) {T : Nat} (C : CT) (hIV : IV (k_v C) T) (x : Int32) (h : ¬ osP x 1 99) (hn : 6 ≤ v_nD (k_v C)) : Met l yX9_addDistrict wsX9_addDistrict (zRm 1 22) (va_Pc [.ref (k_ba C 0), .int x] (zR g ct (CW ct C))) (vp_Si (fun r => r = -3)) 0 0 (fun _ => False) := by
  have q := rd_addDistrict_a l g ct C (iv_nD hIV) x (fun q => q.2 hn)
  rw [if_neg h] at q
  exact q
theorem rd_at2 (l : Launch) (g : va_G) (ct : Nat → ClassId) {T : Nat} (C : CT) (hIV : IV (k_v C) T) (x : Int32) (h : osP x 0 99999) : Met l yX9_addStream wsX9_addStream (zRm 1 22) (va_Pc [.ref (k_ba C 0), .int x] (zR g ct (CW ct C))) (vp_Si (fun r => r = -2)) 0 0 (fun _ => False) := by
  have q := rd_addStream_a l g ct C (iv_nT hIV) x (fun q => q.1 h)
  rw [if_pos h] at q
  exact q
theorem rd_at3 (l : Launch) (g : va_G) (ct : Nat → ClassId) {T : Nat} (C : CT) (hIV : IV (k_v C) T) (x : Int32) (h : ¬ osP x 0 99999) (hn : 4 ≤ v_nT (k_v C)) : Met l yX9_addStream wsX9_addStream (zRm 1 22) (va_Pc [.ref (k_ba C 0), .int x] (zR g ct (CW ct C))) (vp_Si (fun r => r = -3)) 0 0 (fun _ => False) := by
  have q := rd_addStream_a l g ct C (iv_nT hIV) x (fun q => q.2 hn)
  rw [if_neg h] at q
  exact q
theorem rd_ap2 (l : Launch) (g : va_G) (ct : Nat → ClassId) {T : Nat} (C : CT) (hIV : IV (k_v C) T) (x y : Int32) (h : osP x 1 99 ∨ osP y 1 99999) : Met l yX9_addPump wsX9_addPump (zRm 1 22) (va_Pc [.ref (k_ba C 0), .int x, .int y] (zR g ct (CW ct C))) (vp_Si (fun r => r = -2)) 0 0 (fun _ => False) := by
  have q := rd_addPump_a l g ct C (iv_nP hIV) x y (fun q => h.elim q.1 q.2.1)
  rw [if_pos h] at q
  exact q
theorem rd_ap3 (l : Launch) (g : va_G) (ct : Nat → ClassId) {T : Nat} (C : CT) (hIV : IV (k_v C) T) (x y : Int32) (h : ¬ (osP x 1 99 ∨ osP y 1 99999)) (hn : 6 ≤ v_nP (k_v C)) : Met l yX9_addPump wsX9_addPump (zRm 1 22) (va_Pc [.ref (k_ba C 0), .int x, .int y] (zR g ct (CW ct C))) (vp_Si (fun r => r = -3)) 0 0 (fun _ => False) := by
  have q := rd_addPump_a l g ct C (iv_nP hIV) x y (fun q => q.2.2 hn)
  rw [if_neg h] at q
  exact q
theorem rd_ss2 (l : Launch) (g : va_G) (ct : Nat → ClassId) {T : Nat} (C : CT) (hIV : IV (k_v C) T) (k : Nat) (hk : k < v_nT (k_v C)) (y : Int32) (h : osP y 0 99999) : Met l yX9_setStream wsX9_setStream (zRm 1 22) (va_Pc [.ref (k_ba C 0), .int (nI k), .int y] (zR g ct (CW ct C))) (vp_Si (fun r => r = -2)) 0 0 (fun _ => False) := by
  have q := rd_setStream_a l g ct C (iv_nT hIV) k hk y (fun q => q.1 h)
  rw [if_pos h] at q
  exact q
theorem rd_ss5 (l : Launch) (g : va_G) (ct : Nat → ClassId) {T : Nat} (C : CT) (hIV : IV (k_v C) T) (k : Nat) (hk : k < v_nT (k_v C)) (y : Int32) (h : ¬ osP y 0 99999) (he : v_sw (k_v C) k = y) : Met l yX9_setStream wsX9_setStream (zRm 1 22) (va_Pc [.ref (k_ba C 0), .int (nI k), .int y] (zR g ct (CW ct C))) (vp_Si (fun r => r = -5)) 0 0 (fun _ => False) := by
  have q := rd_setStream_a l g ct C (iv_nT hIV) k hk y (fun q => q.2 he)
  rw [if_neg h] at q
  exact q
theorem rd_sa5 (l : Launch) (g : va_G) (ct : Nat → ClassId) {T : Nat} (C : CT) (hIV : IV (k_v C) T) (y : Int64) (h : lvOk y) (he : smL y (v_al (k_v C))) : Met l yX9_setAlarm wsX9_setAlarm (zRm 1 23) (va_Pc [.ref (k_ba C 0), .long y] (zR g ct (CW ct C))) (vp_Si (fun r => r = -5)) 0 0 (fun _ => False) := by
  have q := rd_setAlarm_a l g ct C y (fun q => q.2 he)
  rw [if_pos h] at q
  exact q
theorem rd_sa2 (l : Launch) (g : va_G) (ct : Nat → ClassId) {T : Nat} (C : CT) (hIV : IV (k_v C) T) (y : Int64) (h : ¬ lvOk y) : Met l yX9_setAlarm wsX9_setAlarm (zRm 1 23) (va_Pc [.ref (k_ba C 0), .long y] (zR g ct (CW ct C))) (vp_Si (fun r => r = -2)) 0 0 (fun _ => False) := by
  have q := rd_setAlarm_a l g ct C y (fun q => h q.1)
  rw [if_neg h] at q
  exact q
theorem rd_st5 (l : Launch) (g : va_G) (ct : Nat → ClassId) {T : Nat} (C : CT) (hIV : IV (k_v C) T) (k : Nat) (hk : k < 24) (y : Int64) (h : lvOk y) (he : smL y (v_td (k_v C) k)) : Met l yX9_setTide wsX9_setTide (zRm 1 23) (va_Pc [.ref (k_ba C 0), .int (nI k), .long y] (zR g ct (CW ct C))) (vp_Si (fun r => r = -5)) 0 0 (fun _ => False) := by
  exact rd_setTide_a l g ct C k hk y h (fun q => q he)
theorem rd_s02 (l : Launch) (g : va_G) (ct : Nat → ClassId) {T : Nat} (C : CT) (hIV : IV (k_v C) T) (y : Int32) (h : osP y 1000 1000000) : Met l yX9_set wsX9_set (zRm 2 44) (va_Pc [.ref (k_ba C 0), .int 0, .int y] (zR g ct (CW ct C))) (vp_Si (fun r => r = -2)) 0 0 (fun _ => False) := by
  have q := rd_set_a l g ct C 0 y ⟨fun q => q.2.1 h, fun q => absurd q.1 (by decide)⟩
  rw [if_pos (show (0 : Int32) = 0 by decide), if_pos h] at q
  exact q
theorem rd_s05 (l : Launch) (g : va_G) (ct : Nat → ClassId) {T : Nat} (C : CT) (hIV : IV (k_v C) T) (y : Int32) (h : ¬ osP y 1000 1000000) (he : v_ar (k_v C) = y) : Met l yX9_set wsX9_set (zRm 2 44) (va_Pc [.ref (k_ba C 0), .int 0, .int y] (zR g ct (CW ct C))) (vp_Si (fun r => r = -5)) 0 0 (fun _ => False) := by
  have q := rd_set_a l g ct C 0 y ⟨fun q => q.2.2 he, fun q => absurd q.1 (by decide)⟩
  rw [if_pos (show (0 : Int32) = 0 by decide), if_neg h] at q
  exact q
theorem rd_s15 (l : Launch) (g : va_G) (ct : Nat → ClassId) {T : Nat} (C : CT) (hIV : IV (k_v C) T) (y : Int32) (h : ¬ osP y 0 600) (he : v_lim (k_v C) = y) : Met l yX9_set wsX9_set (zRm 2 44) (va_Pc [.ref (k_ba C 0), .int 1, .int y] (zR g ct (CW ct C))) (vp_Si (fun r => r = -5)) 0 0 (fun _ => False) := by
  have q := rd_set_a l g ct C 1 y ⟨fun q => absurd q.1 (by decide), fun q => q.2.2 he⟩
  rw [if_neg (show ¬ (1 : Int32) = 0 by decide), if_pos (show (1 : Int32) = 1 by decide), if_neg h] at q
  exact q
theorem rd_s22 (l : Launch) (g : va_G) (ct : Nat → ClassId) {T : Nat} (C : CT) (hIV : IV (k_v C) T) (y : Int32) : Met l yX9_set wsX9_set (zRm 2 44) (va_Pc [.ref (k_ba C 0), .int 2, .int y] (zR g ct (CW ct C))) (vp_Si (fun r => r = -2)) 0 0 (fun _ => False) := by
  have q := rd_set_a l g ct C 2 y ⟨fun q => absurd q.1 (by decide), fun q => absurd q.1 (by decide)⟩
  rw [if_neg (show ¬ (2 : Int32) = 0 by decide), if_neg (show ¬ (2 : Int32) = 1 by decide)] at q
  exact q
def crB (x : Int32) : Int64 := if x &&& 1 = 0 then 4607182418800017408 else 4616189618054758400
theorem crB_S (x : Int32) : crS (crB x) := by
  unfold crB
  by_cases h : x &&& 1 = 0
  · rw [if_pos h]; exact Or.inl rfl
  · rw [if_neg h]; exact Or.inr rfl
theorem crB_ok (x : Int32) : crOk (crB x) := by
  rcases crB_S x with h | h <;> rw [h] <;> decide +kernel
theorem wa_at {we : Nat → Int32} {n : Nat} {x : Int32} : ∀ k, k ≤ n → waI (upd we n x) k = waI we k := by
  intro k hk
  induction k with
  | zero => rfl
  | succ k ih =>
    show waI (upd we n x) k + upd we n x k = waI we k + we k
    rw [ih (by omega), pk_un (by omega)]
theorem wa_add {we : Nat → Int32} {n : Nat} {x : Int32} : waI (upd we n x) (n + 1) = waI we n + x := by
  show waI (upd we n x) n + upd we n x n = _
  rw [wa_at n (Nat.le_refl _), pk_us]
theorem low_in {x : Int32} {n lo hi : Nat} (hn : 0 < n) (h1 : lo ≤ n) (h2 : lo + n ≤ hi + 1) (hh : hi < 2 ^ 31) : ¬ osP (nI (lo + lowN x n)) (nI lo) (nI hi) :=
  os_n ⟨by omega, by have := lowN_lt x hn; omega⟩ hh
theorem sm_eq {x y : Int64} (hx : lvS x) (hy : lvS y) : smL x y ↔ x = y := by
  rcases hx with rfl | rfl | rfl | rfl | rfl | rfl | rfl <;> rcases hy with rfl | rfl | rfl | rfl | rfl | rfl | rfl <;> decide +kernel
theorem al_ne {x y : Int64} (hx : lvS x) (hy : lvS y) (h : ¬ x = y) : ¬ Op.cmpValue (FP.dcmp x.toUInt64 y.toUInt64) CmpOp.l = 0 := by
  rcases hx with rfl | rfl | rfl | rfl | rfl | rfl | rfl <;> rcases hy with rfl | rfl | rfl | rfl | rfl | rfl | rfl <;> first | exact absurd rfl h | decide +kernel
theorem al_eq {x : Int64} (hx : lvS x) : Op.cmpValue (FP.dcmp x.toUInt64 x.toUInt64) CmpOp.l = 0 := by
  rcases hx with rfl | rfl | rfl | rfl | rfl | rfl | rfl <;> decide +kernel
theorem an1 (x : Int32) : x &&& 1 = 0 ∨ x &&& 1 = 1 := by
  have h : (x &&& 1).toUInt32.toNat = x.toUInt32.toNat % 2 := by
    show (x.toUInt32 &&& 1).toNat = _
    rw [UInt32.toNat_and]
    exact Nat.and_two_pow_sub_one_eq_mod x.toUInt32.toNat 1
  have key : ∀ a : Int32, ∀ b : Int32, a.toUInt32.toNat = b.toUInt32.toNat → a = b := fun a b e => by
    have := UInt32.toNat_inj.mp e
    cases a; cases b
    simp_all
  rcases Nat.mod_two_eq_zero_or_one x.toUInt32.toNat with q | q
  · exact Or.inl (key _ _ (by rw [h, q]; rfl))
  · exact Or.inr (key _ _ (by rw [h, q]; rfl))
theorem low0 {x : Int32} {n : Nat} (hn : 0 < n) (h2 : n ≤ 100000) : ¬ osP (nI (lowN x n)) 0 99999 :=
  os_n (lo := 0) (hi := 99999) ⟨Nat.zero_le _, by have := lowN_lt x hn; omega⟩ (by decide)
