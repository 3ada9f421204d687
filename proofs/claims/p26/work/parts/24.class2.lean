def mxU (P : Nat → Nat) : Nat → Nat
  | 0 => 0
  | n + 1 => max (mxU P n) (P n)
theorem mxU_C (P : Nat → Nat) : ∀ n, mxU P (n + 1) = mxC P n := by
  intro n
  induction n with
  | zero => show max 0 (P 0) = P 0; omega
  | succ n ih => show max (mxU P (n + 1)) (P (n + 1)) = max (mxC P n) (P (n + 1)); rw [ih]
theorem mxU_s {P : Nat → Nat} {n m x z k : Nat} (h : m = mxU P n) (hx : x = P n) (hz : z = max m x) (hk : k = n + 1) : z = mxU P k := by
  subst hk; rw [hz, h, hx]; rfl
theorem mxU_le {P : Nat → Nat} {B : Nat} (h : ∀ j, P j ≤ B) : ∀ n, mxU P n ≤ B := by
  intro n
  induction n with
  | zero => exact Nat.zero_le _
  | succ n ih => unfold mxU; have := h n; omega
/-- the best of n seats or less, by what the queue holds -/
def qF (ql : Nat → Nat) (qs : Nat → Nat → Nat) : Nat → Nat → Nat := fun t n => qs t (min n (ql t))
def QB (ql : Nat → Nat) (qs : Nat → Nat → Nat) : Prop := (∀ t, t < 6 → ql t ≤ 11) ∧ ∀ t n, t < 6 → n ≤ ql t → qs t n ≤ 11000
theorem QB.q {ql : Nat → Nat} {qs : Nat → Nat → Nat} (h : QB ql qs) (t n : Nat) (ht : t < 6) : qF ql qs t n ≤ 11000 := h.2 t _ ht (by omega)
theorem mBe_le {ql : Nat → Nat} {qs : Nat → Nat → Nat} (h : QB ql qs) (b c : Nat) : mBe (qF ql qs) ql b c ≤ 33000 := mxC_le (fun n _ => by have h1 := h.q 4 n (by decide); have h2 := h.q 1 (b - n) (by decide); have h3 := h.q 2 (c - n) (by decide); omega)
theorem mSh_le {ql : Nat → Nat} {qs : Nat → Nat → Nat} (h : QB ql qs) (a b c : Nat) : mSh (qF ql qs) ql a b c ≤ 55000 := mxC_le (fun n _ => by have h1 := h.q 3 n (by decide); have h2 := h.q 0 (a - n) (by decide); have h3 := mBe_le h (b - n) c; omega)
theorem mFo_le {ql : Nat → Nat} {qs : Nat → Nat → Nat} (h : QB ql qs) (a b c : Nat) : mFo (qF ql qs) ql a b c ≤ 66000 := mxC_le (fun n _ => by have h1 := h.q 5 n (by decide); have h3 := mSh_le h (a - n) (b - n) (c - n); omega)
set_option maxHeartbeats 4000000 in
set_option maxRecDepth 100000 in
theorem c_X1_queueOf (l : Launch) (D : va_G) (cy : Nat → ClassId) (ad : Nat → Nat → Nat) (P B : Nat) (σ : SF) (er : Int64) (ofd de bo : Nat → Option Nat) (ql : Nat → Nat) (qs : Nat → Nat → Nat) (tv : Nat → Nat) (f t : Nat) (h1 : f ≤ t) (h2 : t ≤ 2) : cRQ l D cy yX1_queueOf wsX1_queueOf rmX1_queueOf [.ref (ad 0 5), .int (nI f), .int (nI t)] (WG ad cy P B σ er ofd de bo ql qs tv) (pQ (fun r => r = ad 0 (6 + tyO f t)) False) := by
  refine cRQ.of (cc := cX1_queueOf) (maxL := 3) (by decide) rfl (Nat.le_of_ble_eq_true rfl) ?_
  intro p e s m args below meth c H Q hx hb hml hown hts hP hK hret ls hl
  rcases (show (f = 0 ∧ t = 0) ∨ (f = 0 ∧ t = 1) ∨ (f = 0 ∧ t = 2) ∨ (f = 1 ∧ t = 1) ∨ (f = 1 ∧ t = 2) ∨ (f = 2 ∧ t = 2) by omega) with ⟨rfl, rfl⟩ | ⟨rfl, rfl⟩ | ⟨rfl, rfl⟩ | ⟨rfl, rfl⟩ | ⟨rfl, rfl⟩ | ⟨rfl, rfl⟩
  · skip
    refine lv_iload_n hx hb dX1_queueOf_0 rfl (lv_at hl 1 rfl) ?_
    refine lv_if_ne (tgt := 32) hx hb dX1_queueOf_1 (by decide) (fun q => by first | exact absurd q (by decide) | exact absurd (by decide) q) (fun _ => ?_)
    refine lv_iload_n hx hb dX1_queueOf_4 rfl (lv_at hl 2 rfl) ?_
    refine lv_if_ne (tgt := 15) hx hb dX1_queueOf_5 (by decide) (fun q => by first | exact absurd q (by decide) | exact absurd (by decide) q) (fun _ => ?_)
    refine lv_aload_n hx hb dX1_queueOf_8 rfl (lv_at hl 0 rfl) ?_
    refine gf1 (v := .ref (ad 0 6)) hx hb hts fX1_queueOf_1 hown hK.1 hP 5 0 rfl (by decide) kX1_queueOf_9 rfl rfl dX1_queueOf_9 ?_
    refine lv_goto (tgt := 31) hx hb dX1_queueOf_12 (by decide) ?_
    exact hret (some (ad 0 6)) dX1_queueOf_31 (pQ.sm rfl)
  · skip
    refine lv_iload_n hx hb dX1_queueOf_0 rfl (lv_at hl 1 rfl) ?_
    refine lv_if_ne (tgt := 32) hx hb dX1_queueOf_1 (by decide) (fun q => by first | exact absurd q (by decide) | exact absurd (by decide) q) (fun _ => ?_)
    refine lv_iload_n hx hb dX1_queueOf_4 rfl (lv_at hl 2 rfl) ?_
    refine lv_if_ne (tgt := 15) hx hb dX1_queueOf_5 (by decide) (fun _ => ?_) (fun q => by first | exact absurd q (by decide) | exact absurd (by decide) q)
    refine lv_iload_n hx hb dX1_queueOf_15 rfl (lv_at hl 2 rfl) ?_
    refine lv_iconst (v := nI 1) hx hb dX1_queueOf_16 (by decide) ?_
    refine lv_icmp_ne (tgt := 27) hx hb dX1_queueOf_17 (by decide) (fun q => by first | exact absurd q (by decide) | exact absurd (by decide) q) (fun _ => ?_)
    refine lv_aload_n hx hb dX1_queueOf_20 rfl (lv_at hl 0 rfl) ?_
    refine gf1 (v := .ref (ad 0 9)) hx hb hts fX1_queueOf_1 hown hK.1 hP 5 3 rfl (by decide) kX1_queueOf_21 rfl rfl dX1_queueOf_21 ?_
    refine lv_goto (tgt := 31) hx hb dX1_queueOf_24 (by decide) ?_
    exact hret (some (ad 0 9)) dX1_queueOf_31 (pQ.sm rfl)
  · skip
    refine lv_iload_n hx hb dX1_queueOf_0 rfl (lv_at hl 1 rfl) ?_
    refine lv_if_ne (tgt := 32) hx hb dX1_queueOf_1 (by decide) (fun q => by first | exact absurd q (by decide) | exact absurd (by decide) q) (fun _ => ?_)
    refine lv_iload_n hx hb dX1_queueOf_4 rfl (lv_at hl 2 rfl) ?_
    refine lv_if_ne (tgt := 15) hx hb dX1_queueOf_5 (by decide) (fun _ => ?_) (fun q => by first | exact absurd q (by decide) | exact absurd (by decide) q)
    refine lv_iload_n hx hb dX1_queueOf_15 rfl (lv_at hl 2 rfl) ?_
    refine lv_iconst (v := nI 1) hx hb dX1_queueOf_16 (by decide) ?_
    refine lv_icmp_ne (tgt := 27) hx hb dX1_queueOf_17 (by decide) (fun _ => ?_) (fun q => by first | exact absurd q (by decide) | exact absurd (by decide) q)
    refine lv_aload_n hx hb dX1_queueOf_27 rfl (lv_at hl 0 rfl) ?_
    refine gf1 (v := .ref (ad 0 11)) hx hb hts fX1_queueOf_1 hown hK.1 hP 5 5 rfl (by decide) kX1_queueOf_28 rfl rfl dX1_queueOf_28 ?_
    exact hret (some (ad 0 11)) dX1_queueOf_31 (pQ.sm rfl)
  · skip
    refine lv_iload_n hx hb dX1_queueOf_0 rfl (lv_at hl 1 rfl) ?_
    refine lv_if_ne (tgt := 32) hx hb dX1_queueOf_1 (by decide) (fun _ => ?_) (fun q => by first | exact absurd q (by decide) | exact absurd (by decide) q)
    refine lv_iload_n hx hb dX1_queueOf_32 rfl (lv_at hl 1 rfl) ?_
    refine lv_iconst (v := nI 1) hx hb dX1_queueOf_33 (by decide) ?_
    refine lv_icmp_ne (tgt := 54) hx hb dX1_queueOf_34 (by decide) (fun q => by first | exact absurd q (by decide) | exact absurd (by decide) q) (fun _ => ?_)
    refine lv_iload_n hx hb dX1_queueOf_37 rfl (lv_at hl 2 rfl) ?_
    refine lv_iconst (v := nI 1) hx hb dX1_queueOf_38 (by decide) ?_
    refine lv_icmp_ne (tgt := 49) hx hb dX1_queueOf_39 (by decide) (fun q => by first | exact absurd q (by decide) | exact absurd (by decide) q) (fun _ => ?_)
    refine lv_aload_n hx hb dX1_queueOf_42 rfl (lv_at hl 0 rfl) ?_
    refine gf1 (v := .ref (ad 0 7)) hx hb hts fX1_queueOf_1 hown hK.1 hP 5 1 rfl (by decide) kX1_queueOf_43 rfl rfl dX1_queueOf_43 ?_
    refine lv_goto (tgt := 53) hx hb dX1_queueOf_46 (by decide) ?_
    exact hret (some (ad 0 7)) dX1_queueOf_53 (pQ.sm rfl)
  · skip
    refine lv_iload_n hx hb dX1_queueOf_0 rfl (lv_at hl 1 rfl) ?_
    refine lv_if_ne (tgt := 32) hx hb dX1_queueOf_1 (by decide) (fun _ => ?_) (fun q => by first | exact absurd q (by decide) | exact absurd (by decide) q)
    refine lv_iload_n hx hb dX1_queueOf_32 rfl (lv_at hl 1 rfl) ?_
    refine lv_iconst (v := nI 1) hx hb dX1_queueOf_33 (by decide) ?_
    refine lv_icmp_ne (tgt := 54) hx hb dX1_queueOf_34 (by decide) (fun q => by first | exact absurd q (by decide) | exact absurd (by decide) q) (fun _ => ?_)
    refine lv_iload_n hx hb dX1_queueOf_37 rfl (lv_at hl 2 rfl) ?_
    refine lv_iconst (v := nI 1) hx hb dX1_queueOf_38 (by decide) ?_
    refine lv_icmp_ne (tgt := 49) hx hb dX1_queueOf_39 (by decide) (fun _ => ?_) (fun q => by first | exact absurd q (by decide) | exact absurd (by decide) q)
    refine lv_aload_n hx hb dX1_queueOf_49 rfl (lv_at hl 0 rfl) ?_
    refine gf1 (v := .ref (ad 0 10)) hx hb hts fX1_queueOf_1 hown hK.1 hP 5 4 rfl (by decide) kX1_queueOf_50 rfl rfl dX1_queueOf_50 ?_
    exact hret (some (ad 0 10)) dX1_queueOf_53 (pQ.sm rfl)
  · skip
    refine lv_iload_n hx hb dX1_queueOf_0 rfl (lv_at hl 1 rfl) ?_
    refine lv_if_ne (tgt := 32) hx hb dX1_queueOf_1 (by decide) (fun _ => ?_) (fun q => by first | exact absurd q (by decide) | exact absurd (by decide) q)
    refine lv_iload_n hx hb dX1_queueOf_32 rfl (lv_at hl 1 rfl) ?_
    refine lv_iconst (v := nI 1) hx hb dX1_queueOf_33 (by decide) ?_
    refine lv_icmp_ne (tgt := 54) hx hb dX1_queueOf_34 (by decide) (fun _ => ?_) (fun q => by first | exact absurd q (by decide) | exact absurd (by decide) q)
    refine lv_aload_n hx hb dX1_queueOf_54 rfl (lv_at hl 0 rfl) ?_
    refine gf1 (v := .ref (ad 0 8)) hx hb hts fX1_queueOf_1 hown hK.1 hP 5 2 rfl (by decide) kX1_queueOf_55 rfl rfl dX1_queueOf_55 ?_
    exact hret (some (ad 0 8)) dX1_queueOf_58 (pQ.sm rfl)
set_option maxHeartbeats 4000000 in
set_option maxRecDepth 100000 in
theorem c_X1_clear (l : Launch) (D : va_G) (cy : Nat → ClassId) (ad : Nat → Nat → Nat) (P B : Nat) (σ : SF) (er : Int64) (ofd de bo : Nat → Option Nat) (ql : Nat → Nat) (qs : Nat → Nat → Nat) (tv : Nat → Nat) : cMV l D cy yX1_clear wsX1_clear rmX1_clear [.ref (ad 0 5)] (WG ad cy P B σ er ofd de bo ql qs tv) (T := Unit) (fun _ => WG ad cy P B σ er ofd de bo ((fun _ => 0)) qs tv) (fun _ => True) 0 0 := by
  refine cMV.of (cc := cX1_clear) (maxL := 1) (by decide) rfl (Nat.le_of_ble_eq_true rfl) ?_
  intro p e s m args below meth c H0 A Q hx hb hml hown hts hP hK hD hS hA hin0 hret ls hl
  obtain ⟨H, locs, hH, hlo⟩ : ∃ (H : Heap) (locs : List Loc), H = H0 ∧ locs = [] := ⟨_, _, rfl, rfl⟩
  rw [← hH] at hP
  rw [show va_S A H0 H0 [] = va_S A H0 H locs by rw [hH, hlo]] at hS
  rw [show W p l e rmX1_clear s m args below meth c H0 [] 0 0 Q (F0 m 0 ls []) = W p l e rmX1_clear s m args below meth c H locs 0 0 Q (F0 m 0 ls []) by rw [hH, hlo]]
  refine lv_aload_n hx hb dX1_clear_0 rfl (lv_at hl 0 rfl) ?_
  refine gf1 (v := .ref (ad 0 6)) hx hb hts fX1_clear_1 hown hK.1 hP 5 0 rfl (by decide) kX1_clear_1 rfl rfl dX1_clear_1 ?_
  refine lv_iconst (v := nI 0) hx hb dX1_clear_4 (by decide) ?_
  refine pn3 hx hb hts fX1_clear_3 hown hK.1 hP hD hS 6 1 rfl (by decide) (hK.2 _ nwf_X1_31 rfl) rfl rfl (ty := .int) (by decide) rfl rfl (Nat.le_of_ble_eq_true rfl) dX1_clear_5 (fun H locs hP hD hS => ?_)
  refine lv_aload_n hx hb dX1_clear_8 rfl (lv_at hl 0 rfl) ?_
  refine gf1 (v := .ref (ad 0 7)) hx hb hts fX1_clear_1 hown hK.1 hP 5 1 rfl (by decide) kX1_clear_9 rfl rfl dX1_clear_9 ?_
  refine lv_iconst (v := nI 0) hx hb dX1_clear_12 (by decide) ?_
  have hP : va_P D vwCl (WG ad cy P B σ er ofd de bo (va_up ql 0 0) qs tv) H := hP
  have hD : va_D A (WG ad cy P B σ er ofd de bo (va_up ql 0 0) qs tv) := hD
  refine pn3 hx hb hts fX1_clear_3 hown hK.1 hP hD hS 7 1 rfl (by decide) (hK.2 _ nwf_X1_31 rfl) rfl rfl (ty := .int) (by decide) rfl rfl (Nat.le_of_ble_eq_true rfl) dX1_clear_13 (fun H locs hP hD hS => ?_)
  refine lv_aload_n hx hb dX1_clear_16 rfl (lv_at hl 0 rfl) ?_
  refine gf1 (v := .ref (ad 0 8)) hx hb hts fX1_clear_1 hown hK.1 hP 5 2 rfl (by decide) kX1_clear_17 rfl rfl dX1_clear_17 ?_
  refine lv_iconst (v := nI 0) hx hb dX1_clear_20 (by decide) ?_
  have hP : va_P D vwCl (WG ad cy P B σ er ofd de bo (va_up (va_up ql 0 0) 1 0) qs tv) H := hP
  have hD : va_D A (WG ad cy P B σ er ofd de bo (va_up (va_up ql 0 0) 1 0) qs tv) := hD
  refine pn3 hx hb hts fX1_clear_3 hown hK.1 hP hD hS 8 1 rfl (by decide) (hK.2 _ nwf_X1_31 rfl) rfl rfl (ty := .int) (by decide) rfl rfl (Nat.le_of_ble_eq_true rfl) dX1_clear_21 (fun H locs hP hD hS => ?_)
  refine lv_aload_n hx hb dX1_clear_24 rfl (lv_at hl 0 rfl) ?_
  refine gf1 (v := .ref (ad 0 9)) hx hb hts fX1_clear_1 hown hK.1 hP 5 3 rfl (by decide) kX1_clear_25 rfl rfl dX1_clear_25 ?_
  refine lv_iconst (v := nI 0) hx hb dX1_clear_28 (by decide) ?_
  have hP : va_P D vwCl (WG ad cy P B σ er ofd de bo (va_up (va_up (va_up ql 0 0) 1 0) 2 0) qs tv) H := hP
  have hD : va_D A (WG ad cy P B σ er ofd de bo (va_up (va_up (va_up ql 0 0) 1 0) 2 0) qs tv) := hD
  refine pn3 hx hb hts fX1_clear_3 hown hK.1 hP hD hS 9 1 rfl (by decide) (hK.2 _ nwf_X1_31 rfl) rfl rfl (ty := .int) (by decide) rfl rfl (Nat.le_of_ble_eq_true rfl) dX1_clear_29 (fun H locs hP hD hS => ?_)
  refine lv_aload_n hx hb dX1_clear_32 rfl (lv_at hl 0 rfl) ?_
  refine gf1 (v := .ref (ad 0 10)) hx hb hts fX1_clear_1 hown hK.1 hP 5 4 rfl (by decide) kX1_clear_33 rfl rfl dX1_clear_33 ?_
  refine lv_iconst (v := nI 0) hx hb dX1_clear_36 (by decide) ?_
  have hP : va_P D vwCl (WG ad cy P B σ er ofd de bo (va_up (va_up (va_up (va_up ql 0 0) 1 0) 2 0) 3 0) qs tv) H := hP
  have hD : va_D A (WG ad cy P B σ er ofd de bo (va_up (va_up (va_up (va_up ql 0 0) 1 0) 2 0) 3 0) qs tv) := hD
  refine pn3 hx hb hts fX1_clear_3 hown hK.1 hP hD hS 10 1 rfl (by decide) (hK.2 _ nwf_X1_31 rfl) rfl rfl (ty := .int) (by decide) rfl rfl (Nat.le_of_ble_eq_true rfl) dX1_clear_37 (fun H locs hP hD hS => ?_)
  refine lv_aload_n hx hb dX1_clear_40 rfl (lv_at hl 0 rfl) ?_
  refine gf1 (v := .ref (ad 0 11)) hx hb hts fX1_clear_1 hown hK.1 hP 5 5 rfl (by decide) kX1_clear_41 rfl rfl dX1_clear_41 ?_
  refine lv_iconst (v := nI 0) hx hb dX1_clear_44 (by decide) ?_
  have hP : va_P D vwCl (WG ad cy P B σ er ofd de bo (va_up (va_up (va_up (va_up (va_up ql 0 0) 1 0) 2 0) 3 0) 4 0) qs tv) H := hP
  have hD : va_D A (WG ad cy P B σ er ofd de bo (va_up (va_up (va_up (va_up (va_up ql 0 0) 1 0) 2 0) 3 0) 4 0) qs tv) := hD
  refine pn3 hx hb hts fX1_clear_3 hown hK.1 hP hD hS 11 1 rfl (by decide) (hK.2 _ nwf_X1_31 rfl) rfl rfl (ty := .int) (by decide) rfl rfl (Nat.le_of_ble_eq_true rfl) dX1_clear_45 (fun H locs hP hD hS => ?_)
  have hP : va_P D vwCl (WG ad cy P B σ er ofd de bo (va_up (va_up (va_up (va_up (va_up (va_up ql 0 0) 1 0) 2 0) 3 0) 4 0) 5 0) qs tv) H := hP
  have hD : va_D A (WG ad cy P B σ er ofd de bo (va_up (va_up (va_up (va_up (va_up (va_up ql 0 0) 1 0) 2 0) 3 0) 4 0) 5 0) qs tv) := hD
  exact hret () dX1_clear_48 hP hD hS trivial
set_option maxHeartbeats 4000000 in
set_option maxRecDepth 100000 in
theorem c_X1_mostBehind (l : Launch) (D : va_G) (cy : Nat → ClassId) (ad : Nat → Nat → Nat) (P B : Nat) (σ : SF) (er : Int64) (ofd de bo : Nat → Option Nat) (ql : Nat → Nat) (qs : Nat → Nat → Nat) (tv : Nat → Nat) (hQB : QB ql qs) (b c0 : Nat) (hb1 : b ≤ 11) (hc1 : c0 ≤ 11) : cRO l D cy yX1_mostBehind wsX1_mostBehind rmX1_mostBehind [.ref (ad 0 5), .int (nI b), .int (nI c0)] (WG ad cy P B σ er ofd de bo ql qs tv) (pN (mBe (qF ql qs) ql b c0)) := by
  refine cRO.of (cc := cX1_mostBehind) (maxL := 6) (by decide) rfl (Nat.le_of_ble_eq_true rfl) (Or.inl rfl) ?_
  intro p e s m args below meth c H Q hx hb hml hown hts hP hK hret ls hl
  have hq0 := hQB.1 0 (by decide)
  have hq1 := hQB.1 1 (by decide)
  have hq2 := hQB.1 2 (by decide)
  have hq3 := hQB.1 3 (by decide)
  have hq4 := hQB.1 4 (by decide)
  have hq5 := hQB.1 5 (by decide)
  refine lv_iconst (v := nI 0) hx hb dX1_mostBehind_0 (by decide) ?_
  refine lv_istore_n (lv' := [(3, .int (nI 0)), (0, .ref (ad 0 5)), (1, .int (nI b)), (2, .int (nI c0))]) hx hb dX1_mostBehind_1 rfl hl (by decide) rfl (fun ls hl => ?_)
  refine lv_aload_n hx hb dX1_mostBehind_2 rfl (lv_at hl 1 rfl) ?_
  refine gf1 (v := .ref (ad 0 10)) hx hb hts fX1_mostBehind_1 hown hK.1 hP 5 4 rfl (by decide) kX1_mostBehind_3 rfl rfl dX1_mostBehind_3 ?_
  refine gn3 (v := .int (nI (ql 4))) hx hb hts fX1_mostBehind_3 hown hK.1 hP 10 1 rfl (by decide) (hK.2 _ nwf_X1_31 rfl) rfl rfl dX1_mostBehind_6 ?_
  refine lv_iload_n hx hb dX1_mostBehind_9 rfl (lv_at hl 2 rfl) ?_
  refine lv_iload_n hx hb dX1_mostBehind_10 rfl (lv_at hl 3 rfl) ?_
  refine ln_mmin hx hb (by omega) (by omega) (hml.trans hl.1.symm) hown (hts _ mlX1_mostBehind_11) (hts _ msX1_mostBehind_11) (hts _ miX1_mostBehind_11) (hts _ mcX1_mostBehind_11) (Nat.le_of_ble_eq_true rfl) (Nat.le_of_ble_eq_true rfl) (Nat.zero_le _) (Nat.zero_le _) dX1_mostBehind_11 (fun z11 hz11 => ?_)
  refine ln_mmin hx hb (by omega) (by omega) (hml.trans hl.1.symm) hown (hts _ mlX1_mostBehind_14) (hts _ msX1_mostBehind_14) (hts _ miX1_mostBehind_14) (hts _ mcX1_mostBehind_14) (Nat.le_of_ble_eq_true rfl) (Nat.le_of_ble_eq_true rfl) (Nat.zero_le _) (Nat.zero_le _) dX1_mostBehind_14 (fun z14 hz14 => ?_)
  refine lv_istore (lv' := [(4, .int (nI z14)), (3, .int (nI 0)), (0, .ref (ad 0 5)), (1, .int (nI b)), (2, .int (nI c0))]) hx hb dX1_mostBehind_17 hl (by decide) rfl (fun ls hl => ?_)
  obtain ⟨lo, hlo⟩ : ∃ z, z = z14 := ⟨_, rfl⟩
  rw [← hlo] at hl
  have hlo2 : lo = min (ql 4) (min b c0) := by omega
  have K22 : ∀ (n22 : Nat) (n : Nat) (mo : Nat), lo + 1 - n < n22 → (n ≤ lo + 1) → (mo = mxU (fun n => qF ql qs 4 n + qF ql qs 1 (b - n) + qF ql qs 2 (c0 - n)) n) → (mo ≤ 33000) → ∀ ls : Array Slot, lv_has ls 6 [(0, .ref (ad 0 5)), (1, .int (nI b)), (2, .int (nI c0)), (3, .int (nI mo)), (4, .int (nI lo)), (5, .int (nI n))] → W p l e rmX1_mostBehind s m args below meth c H [] 0 0 Q (F0 m 22 ls []) := by
    intro n22
    induction n22 with
    | zero =>
      intro n mo hfu
      exact absurd hfu (Nat.not_lt_zero _)
    | succ n22 ih22 =>
      intro n mo hfu hn hmo hmb ls hl
      refine lv_iload hx hb dX1_mostBehind_22 (lv_at hl 5 rfl) ?_
      refine lv_iload hx hb dX1_mostBehind_24 (lv_at hl 4 rfl) ?_
      refine ln_icmp_gt (tgt := 73) hx hb (by omega) (by omega) dX1_mostBehind_26 (by decide) (fun c26 => ?_) (fun c26 => ?_)
      · skip
        refine lv_iload_n hx hb dX1_mostBehind_73 rfl (lv_at hl 3 rfl) ?_
        exact hret dX1_mostBehind_74 (pnE (by rw [hmo, show n = lo + 1 by omega, mxU_C, hlo2]; rfl))
      · skip
        refine lv_iload_n hx hb dX1_mostBehind_29 rfl (lv_at hl 3 rfl) ?_
        refine lv_aload_n hx hb dX1_mostBehind_30 rfl (lv_at hl 0 rfl) ?_
        refine gf1 (v := .ref (ad 0 10)) hx hb hts fX1_mostBehind_1 hown hK.1 hP 5 4 rfl (by decide) kX1_mostBehind_31 rfl rfl dX1_mostBehind_31 ?_
        refine lv_iload hx hb dX1_mostBehind_34 (lv_at hl 5 rfl) ?_
        refine ro_calliN (va_runVN (As := [.int (nI n)]) (rest := [.int (nI mo)]) ⟨hx, hb, hml, hown, hts⟩ (c_X3_mostFor l D cy (ad 0 10) (ad 0 16) (ql 4) (qs 4) n (hQB.1 4 (by decide)) (by omega) H (hP.two (i := 10) (j := 16) rfl rfl)) ⟨va_cnB 1 hts gX1_mostBehind_X3_mostFor_n64 rfl rfl rfl (hK.2 _ nwm_X1_64 rfl) (hts _ (List.mem_of_getElem? (i := 12) rfl)) hdX3_mostFor.2 ⟨Nat.le_of_ble_eq_true rfl, Nat.le_of_ble_eq_true rfl⟩, hts _ (List.mem_of_getElem? (i := 11) rfl), hts _ (List.mem_of_getElem? (i := 13) rfl)⟩ (ro_preV hK (va_recv hK.1 hP (ci := 3) (q0 := 10) rfl rfl)) rfl rfl hl.1 rfl (lv_room (Nat.le_of_ble_eq_true rfl)) dX1_mostBehind_36 ⟨Nat.le_of_ble_eq_true rfl, Nat.le_of_ble_eq_true rfl⟩) (fun z36 hz36 => ?_)
        have hbz36 : z36 ≤ 11000 := by rw [hz36]; exact hQB.2 4 _ (by decide) (by omega)
        refine lv_aload_n hx hb dX1_mostBehind_39 rfl (lv_at hl 0 rfl) ?_
        refine gf1 (v := .ref (ad 0 7)) hx hb hts fX1_mostBehind_1 hown hK.1 hP 5 1 rfl (by decide) kX1_mostBehind_40 rfl rfl dX1_mostBehind_40 ?_
        refine lv_iload_n hx hb dX1_mostBehind_43 rfl (lv_at hl 1 rfl) ?_
        refine lv_iload hx hb dX1_mostBehind_44 (lv_at hl 5 rfl) ?_
        refine ln_isub hx hb (by omega) dX1_mostBehind_46 (fun z46 hz46 => ?_)
        refine ro_calliN (va_runVN (As := [.int (nI z46)]) (rest := [.int (nI z36), .int (nI mo)]) ⟨hx, hb, hml, hown, hts⟩ (c_X3_mostFor l D cy (ad 0 7) (ad 0 13) (ql 1) (qs 1) z46 (hQB.1 1 (by decide)) (by omega) H (hP.two (i := 7) (j := 13) rfl rfl)) ⟨va_cnB 1 hts gX1_mostBehind_X3_mostFor_n64 rfl rfl rfl (hK.2 _ nwm_X1_64 rfl) (hts _ (List.mem_of_getElem? (i := 12) rfl)) hdX3_mostFor.2 ⟨Nat.le_of_ble_eq_true rfl, Nat.le_of_ble_eq_true rfl⟩, hts _ (List.mem_of_getElem? (i := 11) rfl), hts _ (List.mem_of_getElem? (i := 13) rfl)⟩ (ro_preV hK (va_recv hK.1 hP (ci := 3) (q0 := 7) rfl rfl)) rfl rfl hl.1 rfl (lv_room (Nat.le_of_ble_eq_true rfl)) dX1_mostBehind_47 ⟨Nat.le_of_ble_eq_true rfl, Nat.le_of_ble_eq_true rfl⟩) (fun z47 hz47 => ?_)
        have hbz47 : z47 ≤ 11000 := by rw [hz47]; exact hQB.2 1 _ (by decide) (by omega)
        refine ln_iadd hx hb dX1_mostBehind_50 (fun z50 hz50 => ?_)
        refine lv_aload_n hx hb dX1_mostBehind_51 rfl (lv_at hl 0 rfl) ?_
        refine gf1 (v := .ref (ad 0 8)) hx hb hts fX1_mostBehind_1 hown hK.1 hP 5 2 rfl (by decide) kX1_mostBehind_52 rfl rfl dX1_mostBehind_52 ?_
        refine lv_iload_n hx hb dX1_mostBehind_55 rfl (lv_at hl 2 rfl) ?_
        refine lv_iload hx hb dX1_mostBehind_56 (lv_at hl 5 rfl) ?_
        refine ln_isub hx hb (by omega) dX1_mostBehind_58 (fun z58 hz58 => ?_)
        refine ro_calliN (va_runVN (As := [.int (nI z58)]) (rest := [.int (nI z50), .int (nI mo)]) ⟨hx, hb, hml, hown, hts⟩ (c_X3_mostFor l D cy (ad 0 8) (ad 0 14) (ql 2) (qs 2) z58 (hQB.1 2 (by decide)) (by omega) H (hP.two (i := 8) (j := 14) rfl rfl)) ⟨va_cnB 1 hts gX1_mostBehind_X3_mostFor_n64 rfl rfl rfl (hK.2 _ nwm_X1_64 rfl) (hts _ (List.mem_of_getElem? (i := 12) rfl)) hdX3_mostFor.2 ⟨Nat.le_of_ble_eq_true rfl, Nat.le_of_ble_eq_true rfl⟩, hts _ (List.mem_of_getElem? (i := 11) rfl), hts _ (List.mem_of_getElem? (i := 13) rfl)⟩ (ro_preV hK (va_recv hK.1 hP (ci := 3) (q0 := 8) rfl rfl)) rfl rfl hl.1 rfl (lv_room (Nat.le_of_ble_eq_true rfl)) dX1_mostBehind_59 ⟨Nat.le_of_ble_eq_true rfl, Nat.le_of_ble_eq_true rfl⟩) (fun z59 hz59 => ?_)
        have hbz59 : z59 ≤ 11000 := by rw [hz59]; exact hQB.2 2 _ (by decide) (by omega)
        refine ln_iadd hx hb dX1_mostBehind_62 (fun z62 hz62 => ?_)
        refine ln_mmax hx hb (by omega) (by omega) (hml.trans hl.1.symm) hown (hts _ mlX1_mostBehind_63) (hts _ msX1_mostBehind_63) (hts _ miX1_mostBehind_63) (hts _ mcX1_mostBehind_63) (Nat.le_of_ble_eq_true rfl) (Nat.le_of_ble_eq_true rfl) (Nat.zero_le _) (Nat.zero_le _) dX1_mostBehind_63 (fun z63 hz63 => ?_)
        refine lv_istore_n (lv' := [(3, .int (nI z63)), (0, .ref (ad 0 5)), (1, .int (nI b)), (2, .int (nI c0)), (4, .int (nI lo)), (5, .int (nI n))]) hx hb dX1_mostBehind_66 rfl hl (by decide) rfl (fun ls hl => ?_)
        obtain ⟨z67, hz67⟩ : ∃ z : Nat, z = n + 1 := ⟨_, rfl⟩
        refine lv_iinc (v := nI z67) (lv' := [(5, .int (nI z67)), (3, .int (nI z63)), (0, .ref (ad 0 5)), (1, .int (nI b)), (2, .int (nI c0)), (4, .int (nI lo))]) hx hb dX1_mostBehind_67 hl (k := 5) rfl (by rw [hz67]; exact nI_add _ 1) (by decide) rfl (fun ls hl => ?_)
        refine lv_goto (tgt := 22) hx hb dX1_mostBehind_70 (by decide) ?_
        exact ih22 z67 z63 (by omega) (by omega) (mxU_s hmo (by show _ = qs 4 (min n (ql 4)) + qs 1 (min (b - n) (ql 1)) + qs 2 (min (c0 - n) (ql 2)); rw [hz62, hz50, hz36, hz47, hz59, hz46, hz58]) hz63 hz67) (by omega) ls (lv_sub hl [2, 3, 4, 1, 5, 0] rfl)
  refine lv_iconst (v := nI 0) hx hb dX1_mostBehind_19 (by decide) ?_
  refine lv_istore (lv' := [(5, .int (nI 0)), (4, .int (nI lo)), (3, .int (nI 0)), (0, .ref (ad 0 5)), (1, .int (nI b)), (2, .int (nI c0))]) hx hb dX1_mostBehind_20 hl (by decide) rfl (fun ls hl => ?_)
  exact K22 _ 0 0 (Nat.lt_succ_self _) (by omega) rfl (by omega) ls (lv_sub hl [3, 4, 5, 2, 1, 0] rfl)
set_option maxHeartbeats 4000000 in
set_option maxRecDepth 100000 in
theorem c_X1_mostOfShorter (l : Launch) (D : va_G) (cy : Nat → ClassId) (ad : Nat → Nat → Nat) (P B : Nat) (σ : SF) (er : Int64) (ofd de bo : Nat → Option Nat) (ql : Nat → Nat) (qs : Nat → Nat → Nat) (tv : Nat → Nat) (hQB : QB ql qs) (a b c0 : Nat) (ha1 : a ≤ 11) (hb1 : b ≤ 11) (hc1 : c0 ≤ 11) : cRO l D cy yX1_mostOfShorter wsX1_mostOfShorter rmX1_mostOfShorter [.ref (ad 0 5), .int (nI a), .int (nI b), .int (nI c0)] (WG ad cy P B σ er ofd de bo ql qs tv) (pN (mSh (qF ql qs) ql a b c0)) := by
  refine cRO.of (cc := cX1_mostOfShorter) (maxL := 8) (by decide) rfl (Nat.le_of_ble_eq_true rfl) (Or.inl rfl) ?_
  intro p e s m args below meth c H Q hx hb hml hown hts hP hK hret ls hl
  have hq0 := hQB.1 0 (by decide)
  have hq1 := hQB.1 1 (by decide)
  have hq2 := hQB.1 2 (by decide)
  have hq3 := hQB.1 3 (by decide)
  have hq4 := hQB.1 4 (by decide)
  have hq5 := hQB.1 5 (by decide)
  refine lv_iconst (v := nI 0) hx hb dX1_mostOfShorter_0 (by decide) ?_
  refine lv_istore (lv' := [(4, .int (nI 0)), (0, .ref (ad 0 5)), (1, .int (nI a)), (2, .int (nI b)), (3, .int (nI c0))]) hx hb dX1_mostOfShorter_1 hl (by decide) rfl (fun ls hl => ?_)
  refine lv_aload_n hx hb dX1_mostOfShorter_3 rfl (lv_at hl 1 rfl) ?_
  refine gf1 (v := .ref (ad 0 9)) hx hb hts fX1_mostOfShorter_1 hown hK.1 hP 5 3 rfl (by decide) kX1_mostOfShorter_4 rfl rfl dX1_mostOfShorter_4 ?_
  refine gn3 (v := .int (nI (ql 3))) hx hb hts fX1_mostOfShorter_3 hown hK.1 hP 9 1 rfl (by decide) (hK.2 _ nwf_X1_31 rfl) rfl rfl dX1_mostOfShorter_7 ?_
  refine lv_iload_n hx hb dX1_mostOfShorter_10 rfl (lv_at hl 2 rfl) ?_
  refine lv_iload_n hx hb dX1_mostOfShorter_11 rfl (lv_at hl 3 rfl) ?_
  refine ln_mmin hx hb (by omega) (by omega) (hml.trans hl.1.symm) hown (hts _ mlX1_mostOfShorter_12) (hts _ msX1_mostOfShorter_12) (hts _ miX1_mostOfShorter_12) (hts _ mcX1_mostOfShorter_12) (Nat.le_of_ble_eq_true rfl) (Nat.le_of_ble_eq_true rfl) (Nat.zero_le _) (Nat.zero_le _) dX1_mostOfShorter_12 (fun z12 hz12 => ?_)
  refine ln_mmin hx hb (by omega) (by omega) (hml.trans hl.1.symm) hown (hts _ mlX1_mostOfShorter_15) (hts _ msX1_mostOfShorter_15) (hts _ miX1_mostOfShorter_15) (hts _ mcX1_mostOfShorter_15) (Nat.le_of_ble_eq_true rfl) (Nat.le_of_ble_eq_true rfl) (Nat.zero_le _) (Nat.zero_le _) dX1_mostOfShorter_15 (fun z15 hz15 => ?_)
  refine lv_istore (lv' := [(5, .int (nI z15)), (4, .int (nI 0)), (0, .ref (ad 0 5)), (1, .int (nI a)), (2, .int (nI b)), (3, .int (nI c0))]) hx hb dX1_mostOfShorter_18 hl (by decide) rfl (fun ls hl => ?_)
  obtain ⟨lo, hlo⟩ : ∃ z, z = z15 := ⟨_, rfl⟩
  rw [← hlo] at hl
  have hlo2 : lo = min (ql 3) (min a b) := by omega
  have K23 : ∀ (n23 : Nat) (n : Nat) (mo : Nat), lo + 1 - n < n23 → (n ≤ lo + 1) → (mo = mxU (fun n => qF ql qs 3 n + qF ql qs 0 (a - n) + mBe (qF ql qs) ql (b - n) c0) n) → (mo ≤ 55000) → ∀ ls : Array Slot, lv_has ls 8 [(0, .ref (ad 0 5)), (1, .int (nI a)), (2, .int (nI b)), (3, .int (nI c0)), (4, .int (nI mo)), (5, .int (nI lo)), (6, .int (nI n))] → W p l e rmX1_mostOfShorter s m args below meth c H [] 0 0 Q (F0 m 23 ls []) := by
    intro n23
    induction n23 with
    | zero =>
      intro n mo hfu
      exact absurd hfu (Nat.not_lt_zero _)
    | succ n23 ih23 =>
      intro n mo hfu hn hmo hmb ls hl
      refine lv_iload hx hb dX1_mostOfShorter_23 (lv_at hl 6 rfl) ?_
      refine lv_iload hx hb dX1_mostOfShorter_25 (lv_at hl 5 rfl) ?_
      refine ln_icmp_gt (tgt := 78) hx hb (by omega) (by omega) dX1_mostOfShorter_27 (by decide) (fun c27 => ?_) (fun c27 => ?_)
      · skip
        refine lv_iload hx hb dX1_mostOfShorter_78 (lv_at hl 4 rfl) ?_
        exact hret dX1_mostOfShorter_80 (pnE (by rw [hmo, show n = lo + 1 by omega, mxU_C, hlo2]; rfl))
      · skip
        refine lv_aload_n hx hb dX1_mostOfShorter_30 rfl (lv_at hl 0 rfl) ?_
        refine gf1 (v := .ref (ad 0 9)) hx hb hts fX1_mostOfShorter_1 hown hK.1 hP 5 3 rfl (by decide) kX1_mostOfShorter_31 rfl rfl dX1_mostOfShorter_31 ?_
        refine lv_iload hx hb dX1_mostOfShorter_34 (lv_at hl 6 rfl) ?_
        refine ro_calliN (va_runVN (As := [.int (nI n)]) (rest := []) ⟨hx, hb, hml, hown, hts⟩ (c_X3_mostFor l D cy (ad 0 9) (ad 0 15) (ql 3) (qs 3) n (hQB.1 3 (by decide)) (by omega) H (hP.two (i := 9) (j := 15) rfl rfl)) ⟨va_cnB 1 hts gX1_mostOfShorter_X3_mostFor_n64 rfl rfl rfl (hK.2 _ nwm_X1_64 rfl) (hts _ (List.mem_of_getElem? (i := 11) rfl)) hdX3_mostFor.2 ⟨Nat.le_of_ble_eq_true rfl, Nat.le_of_ble_eq_true rfl⟩, hts _ (List.mem_of_getElem? (i := 10) rfl), hts _ (List.mem_of_getElem? (i := 12) rfl)⟩ (ro_preV hK (va_recv hK.1 hP (ci := 3) (q0 := 9) rfl rfl)) rfl rfl hl.1 rfl (lv_room (Nat.le_of_ble_eq_true rfl)) dX1_mostOfShorter_36 ⟨Nat.le_of_ble_eq_true rfl, Nat.le_of_ble_eq_true rfl⟩) (fun z36 hz36 => ?_)
        have hbz36 : z36 ≤ 11000 := by rw [hz36]; exact hQB.2 3 _ (by decide) (by omega)
        refine lv_aload_n hx hb dX1_mostOfShorter_39 rfl (lv_at hl 0 rfl) ?_
        refine gf1 (v := .ref (ad 0 6)) hx hb hts fX1_mostOfShorter_1 hown hK.1 hP 5 0 rfl (by decide) kX1_mostOfShorter_40 rfl rfl dX1_mostOfShorter_40 ?_
        refine lv_iload_n hx hb dX1_mostOfShorter_43 rfl (lv_at hl 1 rfl) ?_
        refine lv_iload hx hb dX1_mostOfShorter_44 (lv_at hl 6 rfl) ?_
        refine ln_isub hx hb (by omega) dX1_mostOfShorter_46 (fun z46 hz46 => ?_)
        refine ro_calliN (va_runVN (As := [.int (nI z46)]) (rest := [.int (nI z36)]) ⟨hx, hb, hml, hown, hts⟩ (c_X3_mostFor l D cy (ad 0 6) (ad 0 12) (ql 0) (qs 0) z46 (hQB.1 0 (by decide)) (by omega) H (hP.two (i := 6) (j := 12) rfl rfl)) ⟨va_cnB 1 hts gX1_mostOfShorter_X3_mostFor_n64 rfl rfl rfl (hK.2 _ nwm_X1_64 rfl) (hts _ (List.mem_of_getElem? (i := 11) rfl)) hdX3_mostFor.2 ⟨Nat.le_of_ble_eq_true rfl, Nat.le_of_ble_eq_true rfl⟩, hts _ (List.mem_of_getElem? (i := 10) rfl), hts _ (List.mem_of_getElem? (i := 12) rfl)⟩ (ro_preV hK (va_recv hK.1 hP (ci := 3) (q0 := 6) rfl rfl)) rfl rfl hl.1 rfl (lv_room (Nat.le_of_ble_eq_true rfl)) dX1_mostOfShorter_47 ⟨Nat.le_of_ble_eq_true rfl, Nat.le_of_ble_eq_true rfl⟩) (fun z47 hz47 => ?_)
        have hbz47 : z47 ≤ 11000 := by rw [hz47]; exact hQB.2 0 _ (by decide) (by omega)
        refine ln_iadd hx hb dX1_mostOfShorter_50 (fun z50 hz50 => ?_)
        refine lv_istore (lv' := [(7, .int (nI z50)), (0, .ref (ad 0 5)), (1, .int (nI a)), (2, .int (nI b)), (3, .int (nI c0)), (4, .int (nI mo)), (5, .int (nI lo)), (6, .int (nI n))]) hx hb dX1_mostOfShorter_51 hl (by decide) rfl (fun ls hl => ?_)
        refine lv_iload hx hb dX1_mostOfShorter_53 (lv_at hl 5 rfl) ?_
        refine lv_iload hx hb dX1_mostOfShorter_55 (lv_at hl 0 rfl) ?_
        refine lv_aload_n hx hb dX1_mostOfShorter_57 rfl (lv_at hl 1 rfl) ?_
        refine lv_iload_n hx hb dX1_mostOfShorter_58 rfl (lv_at hl 3 rfl) ?_
        refine lv_iload hx hb dX1_mostOfShorter_59 (lv_at hl 7 rfl) ?_
        refine ln_isub hx hb (by omega) dX1_mostOfShorter_61 (fun z61 hz61 => ?_)
        refine lv_iload_n hx hb dX1_mostOfShorter_62 rfl (lv_at hl 4 rfl) ?_
        refine ro_calliN (va_runV (As := [.int (nI z61), .int (nI c0)]) (rest := [.int (nI z50), .int (nI mo)]) ⟨hx, hb, hml, hown, hts⟩ (c_X1_mostBehind l D cy ad P B σ er ofd de bo ql qs tv hQB z61 c0 (by omega) (by omega) H hP) (cwV 2 hts gX1_mostOfShorter_X1_mostBehind rfl rfl rfl hdX1_mostBehind ⟨Nat.le_of_ble_eq_true rfl, Nat.le_of_ble_eq_true rfl⟩) (ro_preV hK (va_recv hK.1 hP (ci := 1) (q0 := 5) rfl rfl)) rfl rfl hl.1 rfl (lv_room (Nat.le_of_ble_eq_true rfl)) dX1_mostOfShorter_63 ⟨Nat.le_of_ble_eq_true rfl, Nat.le_of_ble_eq_true rfl⟩) (fun z63 hz63 => ?_)
        have hbz63 : z63 ≤ 33000 := by rw [hz63]; exact mBe_le hQB _ _
        refine ln_iadd hx hb dX1_mostOfShorter_66 (fun z66 hz66 => ?_)
        refine ln_mmax hx hb (by omega) (by omega) (hml.trans hl.1.symm) hown (hts _ mlX1_mostOfShorter_67) (hts _ msX1_mostOfShorter_67) (hts _ miX1_mostOfShorter_67) (hts _ mcX1_mostOfShorter_67) (Nat.le_of_ble_eq_true rfl) (Nat.le_of_ble_eq_true rfl) (Nat.zero_le _) (Nat.zero_le _) dX1_mostOfShorter_67 (fun z67 hz67 => ?_)
        refine lv_istore (lv' := [(4, .int (nI z67)), (7, .int (nI z50)), (0, .ref (ad 0 5)), (1, .int (nI a)), (2, .int (nI b)), (3, .int (nI c0)), (5, .int (nI lo)), (6, .int (nI n))]) hx hb dX1_mostOfShorter_70 hl (by decide) rfl (fun ls hl => ?_)
        obtain ⟨z72, hz72⟩ : ∃ z : Nat, z = n + 1 := ⟨_, rfl⟩
        refine lv_iinc (v := nI z72) (lv' := [(6, .int (nI z72)), (4, .int (nI z67)), (7, .int (nI z50)), (0, .ref (ad 0 5)), (1, .int (nI a)), (2, .int (nI b)), (3, .int (nI c0)), (5, .int (nI lo))]) hx hb dX1_mostOfShorter_72 hl (k := 7) rfl (by rw [hz72]; exact nI_add _ 1) (by decide) rfl (fun ls hl => ?_)
        refine lv_goto (tgt := 23) hx hb dX1_mostOfShorter_75 (by decide) ?_
        exact ih23 z72 z67 (by omega) (by omega) (mxU_s hmo (by show _ = qs 3 (min n (ql 3)) + qs 0 (min (a - n) (ql 0)) + mBe (qF ql qs) ql (b - n) c0; rw [hz66, hz50, hz36, hz47, hz63, hz46, hz61]) hz67 hz72) (by omega) ls (lv_sub hl [3, 4, 5, 6, 1, 7, 0] rfl)
  refine lv_iconst (v := nI 0) hx hb dX1_mostOfShorter_20 (by decide) ?_
  refine lv_istore (lv' := [(6, .int (nI 0)), (5, .int (nI lo)), (4, .int (nI 0)), (0, .ref (ad 0 5)), (1, .int (nI a)), (2, .int (nI b)), (3, .int (nI c0))]) hx hb dX1_mostOfShorter_21 hl (by decide) rfl (fun ls hl => ?_)
  exact K23 _ 0 0 (Nat.lt_succ_self _) (by omega) rfl (by omega) ls (lv_sub hl [3, 4, 5, 6, 2, 1, 0] rfl)
set_option maxHeartbeats 4000000 in
set_option maxRecDepth 100000 in
theorem c_X1_mostFor (l : Launch) (D : va_G) (cy : Nat → ClassId) (ad : Nat → Nat → Nat) (P B : Nat) (σ : SF) (er : Int64) (ofd de bo : Nat → Option Nat) (ql : Nat → Nat) (qs : Nat → Nat → Nat) (tv : Nat → Nat) (hQB : QB ql qs) (a b c0 : Nat) (ha1 : a ≤ 11) (hb1 : b ≤ 11) (hc1 : c0 ≤ 11) : cRO l D cy yX1_mostFor wsX1_mostFor rmX1_mostFor [.ref (ad 0 5), .int (nI a), .int (nI b), .int (nI c0)] (WG ad cy P B σ er ofd de bo ql qs tv) (pN (mFo (qF ql qs) ql a b c0)) := by
  refine cRO.of (cc := cX1_mostFor) (maxL := 7) (by decide) rfl (Nat.le_of_ble_eq_true rfl) (Or.inl rfl) ?_
  intro p e s m args below meth c H Q hx hb hml hown hts hP hK hret ls hl
  have hq0 := hQB.1 0 (by decide)
  have hq1 := hQB.1 1 (by decide)
  have hq2 := hQB.1 2 (by decide)
  have hq3 := hQB.1 3 (by decide)
  have hq4 := hQB.1 4 (by decide)
  have hq5 := hQB.1 5 (by decide)
  refine lv_iconst (v := nI 0) hx hb dX1_mostFor_0 (by decide) ?_
  refine lv_istore (lv' := [(4, .int (nI 0)), (0, .ref (ad 0 5)), (1, .int (nI a)), (2, .int (nI b)), (3, .int (nI c0))]) hx hb dX1_mostFor_1 hl (by decide) rfl (fun ls hl => ?_)
  refine lv_aload_n hx hb dX1_mostFor_3 rfl (lv_at hl 1 rfl) ?_
  refine gf1 (v := .ref (ad 0 11)) hx hb hts fX1_mostFor_1 hown hK.1 hP 5 5 rfl (by decide) kX1_mostFor_4 rfl rfl dX1_mostFor_4 ?_
  refine gn3 (v := .int (nI (ql 5))) hx hb hts fX1_mostFor_3 hown hK.1 hP 11 1 rfl (by decide) (hK.2 _ nwf_X1_31 rfl) rfl rfl dX1_mostFor_7 ?_
  refine lv_iload_n hx hb dX1_mostFor_10 rfl (lv_at hl 2 rfl) ?_
  refine lv_iload_n hx hb dX1_mostFor_11 rfl (lv_at hl 3 rfl) ?_
  refine lv_iload_n hx hb dX1_mostFor_12 rfl (lv_at hl 4 rfl) ?_
  refine ln_mmin hx hb (by omega) (by omega) (hml.trans hl.1.symm) hown (hts _ mlX1_mostFor_13) (hts _ msX1_mostFor_13) (hts _ miX1_mostFor_13) (hts _ mcX1_mostFor_13) (Nat.le_of_ble_eq_true rfl) (Nat.le_of_ble_eq_true rfl) (Nat.zero_le _) (Nat.zero_le _) dX1_mostFor_13 (fun z13 hz13 => ?_)
  refine ln_mmin hx hb (by omega) (by omega) (hml.trans hl.1.symm) hown (hts _ mlX1_mostFor_16) (hts _ msX1_mostFor_16) (hts _ miX1_mostFor_16) (hts _ mcX1_mostFor_16) (Nat.le_of_ble_eq_true rfl) (Nat.le_of_ble_eq_true rfl) (Nat.zero_le _) (Nat.zero_le _) dX1_mostFor_16 (fun z16 hz16 => ?_)
  refine ln_mmin hx hb (by omega) (by omega) (hml.trans hl.1.symm) hown (hts _ mlX1_mostFor_19) (hts _ msX1_mostFor_19) (hts _ miX1_mostFor_19) (hts _ mcX1_mostFor_19) (Nat.le_of_ble_eq_true rfl) (Nat.le_of_ble_eq_true rfl) (Nat.zero_le _) (Nat.zero_le _) dX1_mostFor_19 (fun z19 hz19 => ?_)
  refine lv_istore (lv' := [(5, .int (nI z19)), (4, .int (nI 0)), (0, .ref (ad 0 5)), (1, .int (nI a)), (2, .int (nI b)), (3, .int (nI c0))]) hx hb dX1_mostFor_22 hl (by decide) rfl (fun ls hl => ?_)
  obtain ⟨lo, hlo⟩ : ∃ z, z = z19 := ⟨_, rfl⟩
  rw [← hlo] at hl
  have hlo2 : lo = min (ql 5) (min a (min b c0)) := by omega
  have K27 : ∀ (n27 : Nat) (n : Nat) (mo : Nat), lo + 1 - n < n27 → (n ≤ lo + 1) → (mo = mxU (fun n => qF ql qs 5 n + mSh (qF ql qs) ql (a - n) (b - n) (c0 - n)) n) → (mo ≤ 66000) → ∀ ls : Array Slot, lv_has ls 7 [(0, .ref (ad 0 5)), (1, .int (nI a)), (2, .int (nI b)), (3, .int (nI c0)), (4, .int (nI mo)), (5, .int (nI lo)), (6, .int (nI n))] → W p l e rmX1_mostFor s m args below meth c H [] 0 0 Q (F0 m 27 ls []) := by
    intro n27
    induction n27 with
    | zero =>
      intro n mo hfu
      exact absurd hfu (Nat.not_lt_zero _)
    | succ n27 ih27 =>
      intro n mo hfu hn hmo hmb ls hl
      refine lv_iload hx hb dX1_mostFor_27 (lv_at hl 6 rfl) ?_
      refine lv_iload hx hb dX1_mostFor_29 (lv_at hl 5 rfl) ?_
      refine ln_icmp_gt (tgt := 73) hx hb (by omega) (by omega) dX1_mostFor_31 (by decide) (fun c31 => ?_) (fun c31 => ?_)
      · skip
        refine lv_iload hx hb dX1_mostFor_73 (lv_at hl 4 rfl) ?_
        exact hret dX1_mostFor_75 (pnE (by rw [hmo, show n = lo + 1 by omega, mxU_C, hlo2]; rfl))
      · skip
        refine lv_iload hx hb dX1_mostFor_34 (lv_at hl 4 rfl) ?_
        refine lv_aload_n hx hb dX1_mostFor_36 rfl (lv_at hl 0 rfl) ?_
        refine gf1 (v := .ref (ad 0 11)) hx hb hts fX1_mostFor_1 hown hK.1 hP 5 5 rfl (by decide) kX1_mostFor_37 rfl rfl dX1_mostFor_37 ?_
        refine lv_iload hx hb dX1_mostFor_40 (lv_at hl 6 rfl) ?_
        refine ro_calliN (va_runVN (As := [.int (nI n)]) (rest := [.int (nI mo)]) ⟨hx, hb, hml, hown, hts⟩ (c_X3_mostFor l D cy (ad 0 11) (ad 0 17) (ql 5) (qs 5) n (hQB.1 5 (by decide)) (by omega) H (hP.two (i := 11) (j := 17) rfl rfl)) ⟨va_cnB 1 hts gX1_mostFor_X3_mostFor_n64 rfl rfl rfl (hK.2 _ nwm_X1_64 rfl) (hts _ (List.mem_of_getElem? (i := 10) rfl)) hdX3_mostFor.2 ⟨Nat.le_of_ble_eq_true rfl, Nat.le_of_ble_eq_true rfl⟩, hts _ (List.mem_of_getElem? (i := 9) rfl), hts _ (List.mem_of_getElem? (i := 11) rfl)⟩ (ro_preV hK (va_recv hK.1 hP (ci := 3) (q0 := 11) rfl rfl)) rfl rfl hl.1 rfl (lv_room (Nat.le_of_ble_eq_true rfl)) dX1_mostFor_42 ⟨Nat.le_of_ble_eq_true rfl, Nat.le_of_ble_eq_true rfl⟩) (fun z42 hz42 => ?_)
        have hbz42 : z42 ≤ 11000 := by rw [hz42]; exact hQB.2 5 _ (by decide) (by omega)
        refine lv_aload_n hx hb dX1_mostFor_45 rfl (lv_at hl 0 rfl) ?_
        refine lv_iload_n hx hb dX1_mostFor_46 rfl (lv_at hl 1 rfl) ?_
        refine lv_iload hx hb dX1_mostFor_47 (lv_at hl 6 rfl) ?_
        refine ln_isub hx hb (by omega) dX1_mostFor_49 (fun z49 hz49 => ?_)
        refine lv_iload_n hx hb dX1_mostFor_50 rfl (lv_at hl 2 rfl) ?_
        refine lv_iload hx hb dX1_mostFor_51 (lv_at hl 6 rfl) ?_
        refine ln_isub hx hb (by omega) dX1_mostFor_53 (fun z53 hz53 => ?_)
        refine lv_iload_n hx hb dX1_mostFor_54 rfl (lv_at hl 3 rfl) ?_
        refine lv_iload hx hb dX1_mostFor_55 (lv_at hl 6 rfl) ?_
        refine ln_isub hx hb (by omega) dX1_mostFor_57 (fun z57 hz57 => ?_)
        refine ro_calliN (va_runV (As := [.int (nI z49), .int (nI z53), .int (nI z57)]) (rest := [.int (nI z42), .int (nI mo)]) ⟨hx, hb, hml, hown, hts⟩ (c_X1_mostOfShorter l D cy ad P B σ er ofd de bo ql qs tv hQB z49 z53 z57 (by omega) (by omega) (by omega) H hP) (cwV 3 hts gX1_mostFor_X1_mostOfShorter rfl rfl rfl hdX1_mostOfShorter ⟨Nat.le_of_ble_eq_true rfl, Nat.le_of_ble_eq_true rfl⟩) (ro_preV hK (va_recv hK.1 hP (ci := 1) (q0 := 5) rfl rfl)) rfl rfl hl.1 rfl (lv_room (Nat.le_of_ble_eq_true rfl)) dX1_mostFor_58 ⟨Nat.le_of_ble_eq_true rfl, Nat.le_of_ble_eq_true rfl⟩) (fun z58 hz58 => ?_)
        have hbz58 : z58 ≤ 55000 := by rw [hz58]; exact mSh_le hQB _ _ _
        refine ln_iadd hx hb dX1_mostFor_61 (fun z61 hz61 => ?_)
        refine ln_mmax hx hb (by omega) (by omega) (hml.trans hl.1.symm) hown (hts _ mlX1_mostFor_62) (hts _ msX1_mostFor_62) (hts _ miX1_mostFor_62) (hts _ mcX1_mostFor_62) (Nat.le_of_ble_eq_true rfl) (Nat.le_of_ble_eq_true rfl) (Nat.zero_le _) (Nat.zero_le _) dX1_mostFor_62 (fun z62 hz62 => ?_)
        refine lv_istore (lv' := [(4, .int (nI z62)), (0, .ref (ad 0 5)), (1, .int (nI a)), (2, .int (nI b)), (3, .int (nI c0)), (5, .int (nI lo)), (6, .int (nI n))]) hx hb dX1_mostFor_65 hl (by decide) rfl (fun ls hl => ?_)
        obtain ⟨z67, hz67⟩ : ∃ z : Nat, z = n + 1 := ⟨_, rfl⟩
        refine lv_iinc (v := nI z67) (lv' := [(6, .int (nI z67)), (4, .int (nI z62)), (0, .ref (ad 0 5)), (1, .int (nI a)), (2, .int (nI b)), (3, .int (nI c0)), (5, .int (nI lo))]) hx hb dX1_mostFor_67 hl (k := 6) rfl (by rw [hz67]; exact nI_add _ 1) (by decide) rfl (fun ls hl => ?_)
        refine lv_goto (tgt := 27) hx hb dX1_mostFor_70 (by decide) ?_
        exact ih27 z67 z62 (by omega) (by omega) (mxU_s hmo (by show _ = qs 5 (min n (ql 5)) + mSh (qF ql qs) ql (a - n) (b - n) (c0 - n); rw [hz61, hz42, hz58, hz49, hz53, hz57]) hz62 hz67) (by omega) ls (lv_sub hl [2, 3, 4, 5, 1, 6, 0] rfl)
  refine lv_iconst (v := nI 0) hx hb dX1_mostFor_24 (by decide) ?_
  refine lv_istore (lv' := [(6, .int (nI 0)), (5, .int (nI lo)), (4, .int (nI 0)), (0, .ref (ad 0 5)), (1, .int (nI a)), (2, .int (nI b)), (3, .int (nI c0))]) hx hb dX1_mostFor_25 hl (by decide) rfl (fun ls hl => ?_)
  exact K27 _ 0 0 (Nat.lt_succ_self _) (by omega) rfl (by omega) ls (lv_sub hl [3, 4, 5, 6, 2, 1, 0] rfl)
theorem QS.all {ql : Nat → Nat} {qs : Nat → Nat → Nat} {F G : Nat → List Nat} {t l2 : Nat} {s2 : Nat → Nat} (h : ∀ t, t < 6 → QS (F t) (ql t) (qs t)) (h2 : QS (G t) l2 s2) (h3 : ∀ i, i ≠ t → G i = F i) : ∀ i, i < 6 → QS (G i) (va_up ql t l2 i) (va_up qs t s2 i) := by
  intro i hi
  unfold va_up
  by_cases q : i = t
  · subst q; rw [if_pos rfl, if_pos rfl]; exact h2
  · rw [if_neg q, if_neg q, h3 i q]; exact h i hi
set_option maxHeartbeats 4000000 in
set_option maxRecDepth 100000 in
theorem c_X1_add (l : Launch) (D : va_G) (cy : Nat → ClassId) (ad : Nat → Nat → Nat) (P B : Nat) (σ : SF) (er : Int64) (ofd de bo : Nat → Option Nat) (ql : Nat → Nat) (qs : Nat → Nat → Nat) (tv : Nat → Nat) (F : Nat → List Nat) (k : Nat) (hk : k < P) (h34 : σ 3 k ≤ σ 4 k) (h4 : σ 4 k ≤ 2) (h6 : σ 6 k ≤ 512) (h7 : σ 7 k ≤ 512) (hQ : ∀ t, t < 6 → QS (F t) (ql t) (qs t)) : cMV l D cy yX1_add wsX1_add rmX1_add [.ref (ad 0 5), .ref (ad 1 k)] (WG ad cy P B σ er ofd de bo ql qs tv) (T := (Nat → Nat) × (Nat → Nat → Nat)) (fun u => WG ad cy P B σ er ofd de bo u.1 u.2 tv) (fun u => ∀ t, t < 6 → QS (F t ++ if tyO (σ 3 k) (σ 4 k) = t then List.replicate (cme σ k) (σ 5 k) else []) (u.1 t) (u.2 t)) 0 0 := by
  refine cMV.of (cc := cX1_add) (maxL := 2) (by decide) rfl (Nat.le_of_ble_eq_true rfl) ?_
  intro p e s m args below meth c H0 A Q hx hb hml hown hts hP hK hD hS hA hin0 hret ls hl
  obtain ⟨H, locs, hH, hlo⟩ : ∃ (H : Heap) (locs : List Loc), H = H0 ∧ locs = [] := ⟨_, _, rfl, rfl⟩
  rw [← hH] at hP
  rw [show va_S A H0 H0 [] = va_S A H0 H locs by rw [hH, hlo]] at hS
  rw [show W p l e rmX1_add s m args below meth c H0 [] 0 0 Q (F0 m 0 ls []) = W p l e rmX1_add s m args below meth c H locs 0 0 Q (F0 m 0 ls []) by rw [hH, hlo]]
  rcases (show (σ 3 k = 0 ∧ σ 4 k = 0) ∨ (σ 3 k = 0 ∧ σ 4 k = 1) ∨ (σ 3 k = 0 ∧ σ 4 k = 2) ∨ (σ 3 k = 1 ∧ σ 4 k = 1) ∨ (σ 3 k = 1 ∧ σ 4 k = 2) ∨ (σ 3 k = 2 ∧ σ 4 k = 2) by omega) with ⟨e1, e2⟩ | ⟨e1, e2⟩ | ⟨e1, e2⟩ | ⟨e1, e2⟩ | ⟨e1, e2⟩ | ⟨e1, e2⟩
  · skip
    refine lv_aload_n hx hb dX1_add_0 rfl (lv_at hl 0 rfl) ?_
    refine lv_aload_n hx hb dX1_add_1 rfl (lv_at hl 1 rfl) ?_
    refine gn2 (v := .int (nI (σ 3 k))) hx hb hts fX1_add_2 hown hK.1 hP (k + 20) 0 (WG_pd hk) (by decide) (hK.2 _ nwf_X1_35 rfl) rfl rfl dX1_add_2 ?_
    refine lv_aload_n hx hb dX1_add_5 rfl (lv_at hl 1 rfl) ?_
    refine gn2 (v := .int (nI (σ 4 k))) hx hb hts fX1_add_2 hown hK.1 hP (k + 20) 1 (WG_pd hk) (by decide) (hK.2 _ nwf_X1_40 rfl) rfl rfl dX1_add_6 ?_
    refine ro_callqP (va_runV (As := [.int (nI (σ 3 k)), .int (nI (σ 4 k))]) (rest := []) ⟨hx, hb, hml, hown, hts⟩ (c_X1_queueOf l D cy ad P B σ er ofd de bo ql qs tv (σ 3 k) (σ 4 k) h34 h4 H hP) (cwV 2 hts gX1_add_X1_queueOf rfl rfl rfl hdX1_queueOf ⟨Nat.le_of_ble_eq_true rfl, Nat.le_of_ble_eq_true rfl⟩) (ro_preV hK (va_recv hK.1 hP (ci := 1) (q0 := 5) rfl rfl)) rfl rfl hl.1 rfl (lv_room (Nat.le_of_ble_eq_true rfl)) dX1_add_9 ⟨Nat.le_of_ble_eq_true rfl, Nat.le_of_ble_eq_true rfl⟩) (fun a9 r9 => ?_) (fun r9 => ?_)
    · skip
      rw [show tyO (σ 3 k) (σ 4 k) = 0 by rw [e1, e2]; rfl] at r9
      subst r9
      refine lv_aload_n hx hb dX1_add_12 rfl (lv_at hl 1 rfl) ?_
      refine gn2 (v := .int (nI (σ 5 k))) hx hb hts fX1_add_2 hown hK.1 hP (k + 20) 2 (WG_pd hk) (by decide) (hK.2 _ nwf_X1_47 rfl) rfl rfl dX1_add_13 ?_
      refine lv_aload_n hx hb dX1_add_16 rfl (lv_at hl 1 rfl) ?_
      refine ro_calliN (va_runVN (As := []) (rest := [.int (nI (σ 5 k)), .ref (ad 0 6)]) ⟨hx, hb, hml, hown, hts⟩ (c_X2_toCome l D cy (ad 1 k) (ad 2 k) (σ 3 k) (σ 4 k) (σ 5 k) (σ 6 k) (σ 7 k) (σ 8 k) (by omega) (by omega) H (hP.one (WG_pd hk))) ⟨va_cnB 0 hts gX1_add_X2_toCome_n50 rfl rfl rfl (hK.2 _ nwm_X1_50 rfl) (hts _ (List.mem_of_getElem? (i := 13) rfl)) hdX2_toCome.2 ⟨Nat.le_of_ble_eq_true rfl, Nat.le_of_ble_eq_true rfl⟩, hts _ (List.mem_of_getElem? (i := 12) rfl), hts _ (List.mem_of_getElem? (i := 14) rfl)⟩ (ro_preV hK (va_recv hK.1 hP (ci := 2) (q0 := (k + 20)) rfl (WG_pd hk))) rfl rfl hl.1 rfl (lv_room (Nat.le_of_ble_eq_true rfl)) dX1_add_17 ⟨Nat.le_of_ble_eq_true rfl, Nat.le_of_ble_eq_true rfl⟩) (fun z17 hz17 => ?_)
      refine mp_callv (va_runVN (As := [.int (nI (σ 5 k)), .int (nI z17)]) (rest := []) ⟨hx, hb, hml, hown, hts⟩ (c_X3_add l D cy (ad 0 6) (ad 0 12) (ql 0) (qs 0) (F 0) (σ 5 k) z17 (hQ 0 (by decide)) (by omega) H.size) ⟨va_cnB 2 hts gX1_add_X3_add_n54 rfl rfl rfl (hK.2 _ nwm_X1_54 rfl) (hts _ (List.mem_of_getElem? (i := 23) rfl)) hdX3_add.2 ⟨Nat.le_of_ble_eq_true rfl, Nat.le_of_ble_eq_true rfl⟩, hts _ (List.mem_of_getElem? (i := 22) rfl), hts _ (List.mem_of_getElem? (i := 24) rfl)⟩ (mo_preV hK rfl (hP.two (i := 6) (j := 12) rfl rfl) (hD.sub [6, 12] (by decide) rfl) (va_recv hK.1 hP (ci := 3) (q0 := 6) rfl rfl)) rfl rfl hl.1 rfl (lv_room (Nat.le_of_ble_eq_true rfl)) dX1_add_20 ⟨Nat.le_of_ble_eq_true rfl, Nat.le_of_ble_eq_true rfl⟩) hS hP hD hA [6, 12] rfl (fun u => rfl) (fun u20 H locs hr20 hP hD hS => ?_)
      have hP : va_P D vwCl (WG ad cy P B σ er ofd de bo (va_up ql 0 u20.1) (va_up qs 0 u20.2) tv) H := hP
      have hD : va_D A (WG ad cy P B σ er ofd de bo (va_up ql 0 u20.1) (va_up qs 0 u20.2) tv) := hD
      exact hret (va_up ql 0 u20.1, va_up qs 0 u20.2) dX1_add_23 hP hD hS (QS.all hQ (t := 0) (by rw [if_pos (show tyO (σ 3 k) (σ 4 k) = 0 by rw [e1, e2]; rfl)]; unfold cme; rw [← hz17]; exact hr20) (fun i hi => by rw [if_neg (by rw [e1, e2]; exact fun q => hi q.symm), List.append_nil]))
    · skip
      exact r9.elim
  · skip
    refine lv_aload_n hx hb dX1_add_0 rfl (lv_at hl 0 rfl) ?_
    refine lv_aload_n hx hb dX1_add_1 rfl (lv_at hl 1 rfl) ?_
    refine gn2 (v := .int (nI (σ 3 k))) hx hb hts fX1_add_2 hown hK.1 hP (k + 20) 0 (WG_pd hk) (by decide) (hK.2 _ nwf_X1_35 rfl) rfl rfl dX1_add_2 ?_
    refine lv_aload_n hx hb dX1_add_5 rfl (lv_at hl 1 rfl) ?_
    refine gn2 (v := .int (nI (σ 4 k))) hx hb hts fX1_add_2 hown hK.1 hP (k + 20) 1 (WG_pd hk) (by decide) (hK.2 _ nwf_X1_40 rfl) rfl rfl dX1_add_6 ?_
    refine ro_callqP (va_runV (As := [.int (nI (σ 3 k)), .int (nI (σ 4 k))]) (rest := []) ⟨hx, hb, hml, hown, hts⟩ (c_X1_queueOf l D cy ad P B σ er ofd de bo ql qs tv (σ 3 k) (σ 4 k) h34 h4 H hP) (cwV 2 hts gX1_add_X1_queueOf rfl rfl rfl hdX1_queueOf ⟨Nat.le_of_ble_eq_true rfl, Nat.le_of_ble_eq_true rfl⟩) (ro_preV hK (va_recv hK.1 hP (ci := 1) (q0 := 5) rfl rfl)) rfl rfl hl.1 rfl (lv_room (Nat.le_of_ble_eq_true rfl)) dX1_add_9 ⟨Nat.le_of_ble_eq_true rfl, Nat.le_of_ble_eq_true rfl⟩) (fun a9 r9 => ?_) (fun r9 => ?_)
    · skip
      rw [show tyO (σ 3 k) (σ 4 k) = 3 by rw [e1, e2]; rfl] at r9
      subst r9
      refine lv_aload_n hx hb dX1_add_12 rfl (lv_at hl 1 rfl) ?_
      refine gn2 (v := .int (nI (σ 5 k))) hx hb hts fX1_add_2 hown hK.1 hP (k + 20) 2 (WG_pd hk) (by decide) (hK.2 _ nwf_X1_47 rfl) rfl rfl dX1_add_13 ?_
      refine lv_aload_n hx hb dX1_add_16 rfl (lv_at hl 1 rfl) ?_
      refine ro_calliN (va_runVN (As := []) (rest := [.int (nI (σ 5 k)), .ref (ad 0 9)]) ⟨hx, hb, hml, hown, hts⟩ (c_X2_toCome l D cy (ad 1 k) (ad 2 k) (σ 3 k) (σ 4 k) (σ 5 k) (σ 6 k) (σ 7 k) (σ 8 k) (by omega) (by omega) H (hP.one (WG_pd hk))) ⟨va_cnB 0 hts gX1_add_X2_toCome_n50 rfl rfl rfl (hK.2 _ nwm_X1_50 rfl) (hts _ (List.mem_of_getElem? (i := 13) rfl)) hdX2_toCome.2 ⟨Nat.le_of_ble_eq_true rfl, Nat.le_of_ble_eq_true rfl⟩, hts _ (List.mem_of_getElem? (i := 12) rfl), hts _ (List.mem_of_getElem? (i := 14) rfl)⟩ (ro_preV hK (va_recv hK.1 hP (ci := 2) (q0 := (k + 20)) rfl (WG_pd hk))) rfl rfl hl.1 rfl (lv_room (Nat.le_of_ble_eq_true rfl)) dX1_add_17 ⟨Nat.le_of_ble_eq_true rfl, Nat.le_of_ble_eq_true rfl⟩) (fun z17 hz17 => ?_)
      refine mp_callv (va_runVN (As := [.int (nI (σ 5 k)), .int (nI z17)]) (rest := []) ⟨hx, hb, hml, hown, hts⟩ (c_X3_add l D cy (ad 0 9) (ad 0 15) (ql 3) (qs 3) (F 3) (σ 5 k) z17 (hQ 3 (by decide)) (by omega) H.size) ⟨va_cnB 2 hts gX1_add_X3_add_n54 rfl rfl rfl (hK.2 _ nwm_X1_54 rfl) (hts _ (List.mem_of_getElem? (i := 23) rfl)) hdX3_add.2 ⟨Nat.le_of_ble_eq_true rfl, Nat.le_of_ble_eq_true rfl⟩, hts _ (List.mem_of_getElem? (i := 22) rfl), hts _ (List.mem_of_getElem? (i := 24) rfl)⟩ (mo_preV hK rfl (hP.two (i := 9) (j := 15) rfl rfl) (hD.sub [9, 15] (by decide) rfl) (va_recv hK.1 hP (ci := 3) (q0 := 9) rfl rfl)) rfl rfl hl.1 rfl (lv_room (Nat.le_of_ble_eq_true rfl)) dX1_add_20 ⟨Nat.le_of_ble_eq_true rfl, Nat.le_of_ble_eq_true rfl⟩) hS hP hD hA [9, 15] rfl (fun u => rfl) (fun u20 H locs hr20 hP hD hS => ?_)
      have hP : va_P D vwCl (WG ad cy P B σ er ofd de bo (va_up ql 3 u20.1) (va_up qs 3 u20.2) tv) H := hP
      have hD : va_D A (WG ad cy P B σ er ofd de bo (va_up ql 3 u20.1) (va_up qs 3 u20.2) tv) := hD
      exact hret (va_up ql 3 u20.1, va_up qs 3 u20.2) dX1_add_23 hP hD hS (QS.all hQ (t := 3) (by rw [if_pos (show tyO (σ 3 k) (σ 4 k) = 3 by rw [e1, e2]; rfl)]; unfold cme; rw [← hz17]; exact hr20) (fun i hi => by rw [if_neg (by rw [e1, e2]; exact fun q => hi q.symm), List.append_nil]))
    · skip
      exact r9.elim
  · skip
    refine lv_aload_n hx hb dX1_add_0 rfl (lv_at hl 0 rfl) ?_
    refine lv_aload_n hx hb dX1_add_1 rfl (lv_at hl 1 rfl) ?_
    refine gn2 (v := .int (nI (σ 3 k))) hx hb hts fX1_add_2 hown hK.1 hP (k + 20) 0 (WG_pd hk) (by decide) (hK.2 _ nwf_X1_35 rfl) rfl rfl dX1_add_2 ?_
    refine lv_aload_n hx hb dX1_add_5 rfl (lv_at hl 1 rfl) ?_
    refine gn2 (v := .int (nI (σ 4 k))) hx hb hts fX1_add_2 hown hK.1 hP (k + 20) 1 (WG_pd hk) (by decide) (hK.2 _ nwf_X1_40 rfl) rfl rfl dX1_add_6 ?_
    refine ro_callqP (va_runV (As := [.int (nI (σ 3 k)), .int (nI (σ 4 k))]) (rest := []) ⟨hx, hb, hml, hown, hts⟩ (c_X1_queueOf l D cy ad P B σ er ofd de bo ql qs tv (σ 3 k) (σ 4 k) h34 h4 H hP) (cwV 2 hts gX1_add_X1_queueOf rfl rfl rfl hdX1_queueOf ⟨Nat.le_of_ble_eq_true rfl, Nat.le_of_ble_eq_true rfl⟩) (ro_preV hK (va_recv hK.1 hP (ci := 1) (q0 := 5) rfl rfl)) rfl rfl hl.1 rfl (lv_room (Nat.le_of_ble_eq_true rfl)) dX1_add_9 ⟨Nat.le_of_ble_eq_true rfl, Nat.le_of_ble_eq_true rfl⟩) (fun a9 r9 => ?_) (fun r9 => ?_)
    · skip
      rw [show tyO (σ 3 k) (σ 4 k) = 5 by rw [e1, e2]; rfl] at r9
      subst r9
      refine lv_aload_n hx hb dX1_add_12 rfl (lv_at hl 1 rfl) ?_
      refine gn2 (v := .int (nI (σ 5 k))) hx hb hts fX1_add_2 hown hK.1 hP (k + 20) 2 (WG_pd hk) (by decide) (hK.2 _ nwf_X1_47 rfl) rfl rfl dX1_add_13 ?_
      refine lv_aload_n hx hb dX1_add_16 rfl (lv_at hl 1 rfl) ?_
      refine ro_calliN (va_runVN (As := []) (rest := [.int (nI (σ 5 k)), .ref (ad 0 11)]) ⟨hx, hb, hml, hown, hts⟩ (c_X2_toCome l D cy (ad 1 k) (ad 2 k) (σ 3 k) (σ 4 k) (σ 5 k) (σ 6 k) (σ 7 k) (σ 8 k) (by omega) (by omega) H (hP.one (WG_pd hk))) ⟨va_cnB 0 hts gX1_add_X2_toCome_n50 rfl rfl rfl (hK.2 _ nwm_X1_50 rfl) (hts _ (List.mem_of_getElem? (i := 13) rfl)) hdX2_toCome.2 ⟨Nat.le_of_ble_eq_true rfl, Nat.le_of_ble_eq_true rfl⟩, hts _ (List.mem_of_getElem? (i := 12) rfl), hts _ (List.mem_of_getElem? (i := 14) rfl)⟩ (ro_preV hK (va_recv hK.1 hP (ci := 2) (q0 := (k + 20)) rfl (WG_pd hk))) rfl rfl hl.1 rfl (lv_room (Nat.le_of_ble_eq_true rfl)) dX1_add_17 ⟨Nat.le_of_ble_eq_true rfl, Nat.le_of_ble_eq_true rfl⟩) (fun z17 hz17 => ?_)
      refine mp_callv (va_runVN (As := [.int (nI (σ 5 k)), .int (nI z17)]) (rest := []) ⟨hx, hb, hml, hown, hts⟩ (c_X3_add l D cy (ad 0 11) (ad 0 17) (ql 5) (qs 5) (F 5) (σ 5 k) z17 (hQ 5 (by decide)) (by omega) H.size) ⟨va_cnB 2 hts gX1_add_X3_add_n54 rfl rfl rfl (hK.2 _ nwm_X1_54 rfl) (hts _ (List.mem_of_getElem? (i := 23) rfl)) hdX3_add.2 ⟨Nat.le_of_ble_eq_true rfl, Nat.le_of_ble_eq_true rfl⟩, hts _ (List.mem_of_getElem? (i := 22) rfl), hts _ (List.mem_of_getElem? (i := 24) rfl)⟩ (mo_preV hK rfl (hP.two (i := 11) (j := 17) rfl rfl) (hD.sub [11, 17] (by decide) rfl) (va_recv hK.1 hP (ci := 3) (q0 := 11) rfl rfl)) rfl rfl hl.1 rfl (lv_room (Nat.le_of_ble_eq_true rfl)) dX1_add_20 ⟨Nat.le_of_ble_eq_true rfl, Nat.le_of_ble_eq_true rfl⟩) hS hP hD hA [11, 17] rfl (fun u => rfl) (fun u20 H locs hr20 hP hD hS => ?_)
      have hP : va_P D vwCl (WG ad cy P B σ er ofd de bo (va_up ql 5 u20.1) (va_up qs 5 u20.2) tv) H := hP
      have hD : va_D A (WG ad cy P B σ er ofd de bo (va_up ql 5 u20.1) (va_up qs 5 u20.2) tv) := hD
      exact hret (va_up ql 5 u20.1, va_up qs 5 u20.2) dX1_add_23 hP hD hS (QS.all hQ (t := 5) (by rw [if_pos (show tyO (σ 3 k) (σ 4 k) = 5 by rw [e1, e2]; rfl)]; unfold cme; rw [← hz17]; exact hr20) (fun i hi => by rw [if_neg (by rw [e1, e2]; exact fun q => hi q.symm), List.append_nil]))
    · skip
      exact r9.elim
  · skip
    refine lv_aload_n hx hb dX1_add_0 rfl (lv_at hl 0 rfl) ?_
    refine lv_aload_n hx hb dX1_add_1 rfl (lv_at hl 1 rfl) ?_
    refine gn2 (v := .int (nI (σ 3 k))) hx hb hts fX1_add_2 hown hK.1 hP (k + 20) 0 (WG_pd hk) (by decide) (hK.2 _ nwf_X1_35 rfl) rfl rfl dX1_add_2 ?_
    refine lv_aload_n hx hb dX1_add_5 rfl (lv_at hl 1 rfl) ?_
    refine gn2 (v := .int (nI (σ 4 k))) hx hb hts fX1_add_2 hown hK.1 hP (k + 20) 1 (WG_pd hk) (by decide) (hK.2 _ nwf_X1_40 rfl) rfl rfl dX1_add_6 ?_
    refine ro_callqP (va_runV (As := [.int (nI (σ 3 k)), .int (nI (σ 4 k))]) (rest := []) ⟨hx, hb, hml, hown, hts⟩ (c_X1_queueOf l D cy ad P B σ er ofd de bo ql qs tv (σ 3 k) (σ 4 k) h34 h4 H hP) (cwV 2 hts gX1_add_X1_queueOf rfl rfl rfl hdX1_queueOf ⟨Nat.le_of_ble_eq_true rfl, Nat.le_of_ble_eq_true rfl⟩) (ro_preV hK (va_recv hK.1 hP (ci := 1) (q0 := 5) rfl rfl)) rfl rfl hl.1 rfl (lv_room (Nat.le_of_ble_eq_true rfl)) dX1_add_9 ⟨Nat.le_of_ble_eq_true rfl, Nat.le_of_ble_eq_true rfl⟩) (fun a9 r9 => ?_) (fun r9 => ?_)
    · skip
      rw [show tyO (σ 3 k) (σ 4 k) = 1 by rw [e1, e2]; rfl] at r9
      subst r9
      refine lv_aload_n hx hb dX1_add_12 rfl (lv_at hl 1 rfl) ?_
      refine gn2 (v := .int (nI (σ 5 k))) hx hb hts fX1_add_2 hown hK.1 hP (k + 20) 2 (WG_pd hk) (by decide) (hK.2 _ nwf_X1_47 rfl) rfl rfl dX1_add_13 ?_
      refine lv_aload_n hx hb dX1_add_16 rfl (lv_at hl 1 rfl) ?_
      refine ro_calliN (va_runVN (As := []) (rest := [.int (nI (σ 5 k)), .ref (ad 0 7)]) ⟨hx, hb, hml, hown, hts⟩ (c_X2_toCome l D cy (ad 1 k) (ad 2 k) (σ 3 k) (σ 4 k) (σ 5 k) (σ 6 k) (σ 7 k) (σ 8 k) (by omega) (by omega) H (hP.one (WG_pd hk))) ⟨va_cnB 0 hts gX1_add_X2_toCome_n50 rfl rfl rfl (hK.2 _ nwm_X1_50 rfl) (hts _ (List.mem_of_getElem? (i := 13) rfl)) hdX2_toCome.2 ⟨Nat.le_of_ble_eq_true rfl, Nat.le_of_ble_eq_true rfl⟩, hts _ (List.mem_of_getElem? (i := 12) rfl), hts _ (List.mem_of_getElem? (i := 14) rfl)⟩ (ro_preV hK (va_recv hK.1 hP (ci := 2) (q0 := (k + 20)) rfl (WG_pd hk))) rfl rfl hl.1 rfl (lv_room (Nat.le_of_ble_eq_true rfl)) dX1_add_17 ⟨Nat.le_of_ble_eq_true rfl, Nat.le_of_ble_eq_true rfl⟩) (fun z17 hz17 => ?_)
      refine mp_callv (va_runVN (As := [.int (nI (σ 5 k)), .int (nI z17)]) (rest := []) ⟨hx, hb, hml, hown, hts⟩ (c_X3_add l D cy (ad 0 7) (ad 0 13) (ql 1) (qs 1) (F 1) (σ 5 k) z17 (hQ 1 (by decide)) (by omega) H.size) ⟨va_cnB 2 hts gX1_add_X3_add_n54 rfl rfl rfl (hK.2 _ nwm_X1_54 rfl) (hts _ (List.mem_of_getElem? (i := 23) rfl)) hdX3_add.2 ⟨Nat.le_of_ble_eq_true rfl, Nat.le_of_ble_eq_true rfl⟩, hts _ (List.mem_of_getElem? (i := 22) rfl), hts _ (List.mem_of_getElem? (i := 24) rfl)⟩ (mo_preV hK rfl (hP.two (i := 7) (j := 13) rfl rfl) (hD.sub [7, 13] (by decide) rfl) (va_recv hK.1 hP (ci := 3) (q0 := 7) rfl rfl)) rfl rfl hl.1 rfl (lv_room (Nat.le_of_ble_eq_true rfl)) dX1_add_20 ⟨Nat.le_of_ble_eq_true rfl, Nat.le_of_ble_eq_true rfl⟩) hS hP hD hA [7, 13] rfl (fun u => rfl) (fun u20 H locs hr20 hP hD hS => ?_)
      have hP : va_P D vwCl (WG ad cy P B σ er ofd de bo (va_up ql 1 u20.1) (va_up qs 1 u20.2) tv) H := hP
      have hD : va_D A (WG ad cy P B σ er ofd de bo (va_up ql 1 u20.1) (va_up qs 1 u20.2) tv) := hD
      exact hret (va_up ql 1 u20.1, va_up qs 1 u20.2) dX1_add_23 hP hD hS (QS.all hQ (t := 1) (by rw [if_pos (show tyO (σ 3 k) (σ 4 k) = 1 by rw [e1, e2]; rfl)]; unfold cme; rw [← hz17]; exact hr20) (fun i hi => by rw [if_neg (by rw [e1, e2]; exact fun q => hi q.symm), List.append_nil]))
    · skip
      exact r9.elim
  · skip
    refine lv_aload_n hx hb dX1_add_0 rfl (lv_at hl 0 rfl) ?_
    refine lv_aload_n hx hb dX1_add_1 rfl (lv_at hl 1 rfl) ?_
    refine gn2 (v := .int (nI (σ 3 k))) hx hb hts fX1_add_2 hown hK.1 hP (k + 20) 0 (WG_pd hk) (by decide) (hK.2 _ nwf_X1_35 rfl) rfl rfl dX1_add_2 ?_
    refine lv_aload_n hx hb dX1_add_5 rfl (lv_at hl 1 rfl) ?_
    refine gn2 (v := .int (nI (σ 4 k))) hx hb hts fX1_add_2 hown hK.1 hP (k + 20) 1 (WG_pd hk) (by decide) (hK.2 _ nwf_X1_40 rfl) rfl rfl dX1_add_6 ?_
    refine ro_callqP (va_runV (As := [.int (nI (σ 3 k)), .int (nI (σ 4 k))]) (rest := []) ⟨hx, hb, hml, hown, hts⟩ (c_X1_queueOf l D cy ad P B σ er ofd de bo ql qs tv (σ 3 k) (σ 4 k) h34 h4 H hP) (cwV 2 hts gX1_add_X1_queueOf rfl rfl rfl hdX1_queueOf ⟨Nat.le_of_ble_eq_true rfl, Nat.le_of_ble_eq_true rfl⟩) (ro_preV hK (va_recv hK.1 hP (ci := 1) (q0 := 5) rfl rfl)) rfl rfl hl.1 rfl (lv_room (Nat.le_of_ble_eq_true rfl)) dX1_add_9 ⟨Nat.le_of_ble_eq_true rfl, Nat.le_of_ble_eq_true rfl⟩) (fun a9 r9 => ?_) (fun r9 => ?_)
    · skip
      rw [show tyO (σ 3 k) (σ 4 k) = 4 by rw [e1, e2]; rfl] at r9
      subst r9
      refine lv_aload_n hx hb dX1_add_12 rfl (lv_at hl 1 rfl) ?_
      refine gn2 (v := .int (nI (σ 5 k))) hx hb hts fX1_add_2 hown hK.1 hP (k + 20) 2 (WG_pd hk) (by decide) (hK.2 _ nwf_X1_47 rfl) rfl rfl dX1_add_13 ?_
      refine lv_aload_n hx hb dX1_add_16 rfl (lv_at hl 1 rfl) ?_
      refine ro_calliN (va_runVN (As := []) (rest := [.int (nI (σ 5 k)), .ref (ad 0 10)]) ⟨hx, hb, hml, hown, hts⟩ (c_X2_toCome l D cy (ad 1 k) (ad 2 k) (σ 3 k) (σ 4 k) (σ 5 k) (σ 6 k) (σ 7 k) (σ 8 k) (by omega) (by omega) H (hP.one (WG_pd hk))) ⟨va_cnB 0 hts gX1_add_X2_toCome_n50 rfl rfl rfl (hK.2 _ nwm_X1_50 rfl) (hts _ (List.mem_of_getElem? (i := 13) rfl)) hdX2_toCome.2 ⟨Nat.le_of_ble_eq_true rfl, Nat.le_of_ble_eq_true rfl⟩, hts _ (List.mem_of_getElem? (i := 12) rfl), hts _ (List.mem_of_getElem? (i := 14) rfl)⟩ (ro_preV hK (va_recv hK.1 hP (ci := 2) (q0 := (k + 20)) rfl (WG_pd hk))) rfl rfl hl.1 rfl (lv_room (Nat.le_of_ble_eq_true rfl)) dX1_add_17 ⟨Nat.le_of_ble_eq_true rfl, Nat.le_of_ble_eq_true rfl⟩) (fun z17 hz17 => ?_)
      refine mp_callv (va_runVN (As := [.int (nI (σ 5 k)), .int (nI z17)]) (rest := []) ⟨hx, hb, hml, hown, hts⟩ (c_X3_add l D cy (ad 0 10) (ad 0 16) (ql 4) (qs 4) (F 4) (σ 5 k) z17 (hQ 4 (by decide)) (by omega) H.size) ⟨va_cnB 2 hts gX1_add_X3_add_n54 rfl rfl rfl (hK.2 _ nwm_X1_54 rfl) (hts _ (List.mem_of_getElem? (i := 23) rfl)) hdX3_add.2 ⟨Nat.le_of_ble_eq_true rfl, Nat.le_of_ble_eq_true rfl⟩, hts _ (List.mem_of_getElem? (i := 22) rfl), hts _ (List.mem_of_getElem? (i := 24) rfl)⟩ (mo_preV hK rfl (hP.two (i := 10) (j := 16) rfl rfl) (hD.sub [10, 16] (by decide) rfl) (va_recv hK.1 hP (ci := 3) (q0 := 10) rfl rfl)) rfl rfl hl.1 rfl (lv_room (Nat.le_of_ble_eq_true rfl)) dX1_add_20 ⟨Nat.le_of_ble_eq_true rfl, Nat.le_of_ble_eq_true rfl⟩) hS hP hD hA [10, 16] rfl (fun u => rfl) (fun u20 H locs hr20 hP hD hS => ?_)
      have hP : va_P D vwCl (WG ad cy P B σ er ofd de bo (va_up ql 4 u20.1) (va_up qs 4 u20.2) tv) H := hP
      have hD : va_D A (WG ad cy P B σ er ofd de bo (va_up ql 4 u20.1) (va_up qs 4 u20.2) tv) := hD
      exact hret (va_up ql 4 u20.1, va_up qs 4 u20.2) dX1_add_23 hP hD hS (QS.all hQ (t := 4) (by rw [if_pos (show tyO (σ 3 k) (σ 4 k) = 4 by rw [e1, e2]; rfl)]; unfold cme; rw [← hz17]; exact hr20) (fun i hi => by rw [if_neg (by rw [e1, e2]; exact fun q => hi q.symm), List.append_nil]))
    · skip
      exact r9.elim
  · skip
    refine lv_aload_n hx hb dX1_add_0 rfl (lv_at hl 0 rfl) ?_
    refine lv_aload_n hx hb dX1_add_1 rfl (lv_at hl 1 rfl) ?_
    refine gn2 (v := .int (nI (σ 3 k))) hx hb hts fX1_add_2 hown hK.1 hP (k + 20) 0 (WG_pd hk) (by decide) (hK.2 _ nwf_X1_35 rfl) rfl rfl dX1_add_2 ?_
    refine lv_aload_n hx hb dX1_add_5 rfl (lv_at hl 1 rfl) ?_
    refine gn2 (v := .int (nI (σ 4 k))) hx hb hts fX1_add_2 hown hK.1 hP (k + 20) 1 (WG_pd hk) (by decide) (hK.2 _ nwf_X1_40 rfl) rfl rfl dX1_add_6 ?_
    refine ro_callqP (va_runV (As := [.int (nI (σ 3 k)), .int (nI (σ 4 k))]) (rest := []) ⟨hx, hb, hml, hown, hts⟩ (c_X1_queueOf l D cy ad P B σ er ofd de bo ql qs tv (σ 3 k) (σ 4 k) h34 h4 H hP) (cwV 2 hts gX1_add_X1_queueOf rfl rfl rfl hdX1_queueOf ⟨Nat.le_of_ble_eq_true rfl, Nat.le_of_ble_eq_true rfl⟩) (ro_preV hK (va_recv hK.1 hP (ci := 1) (q0 := 5) rfl rfl)) rfl rfl hl.1 rfl (lv_room (Nat.le_of_ble_eq_true rfl)) dX1_add_9 ⟨Nat.le_of_ble_eq_true rfl, Nat.le_of_ble_eq_true rfl⟩) (fun a9 r9 => ?_) (fun r9 => ?_)
    · skip
      rw [show tyO (σ 3 k) (σ 4 k) = 2 by rw [e1, e2]; rfl] at r9
      subst r9
      refine lv_aload_n hx hb dX1_add_12 rfl (lv_at hl 1 rfl) ?_
      refine gn2 (v := .int (nI (σ 5 k))) hx hb hts fX1_add_2 hown hK.1 hP (k + 20) 2 (WG_pd hk) (by decide) (hK.2 _ nwf_X1_47 rfl) rfl rfl dX1_add_13 ?_
      refine lv_aload_n hx hb dX1_add_16 rfl (lv_at hl 1 rfl) ?_
      refine ro_calliN (va_runVN (As := []) (rest := [.int (nI (σ 5 k)), .ref (ad 0 8)]) ⟨hx, hb, hml, hown, hts⟩ (c_X2_toCome l D cy (ad 1 k) (ad 2 k) (σ 3 k) (σ 4 k) (σ 5 k) (σ 6 k) (σ 7 k) (σ 8 k) (by omega) (by omega) H (hP.one (WG_pd hk))) ⟨va_cnB 0 hts gX1_add_X2_toCome_n50 rfl rfl rfl (hK.2 _ nwm_X1_50 rfl) (hts _ (List.mem_of_getElem? (i := 13) rfl)) hdX2_toCome.2 ⟨Nat.le_of_ble_eq_true rfl, Nat.le_of_ble_eq_true rfl⟩, hts _ (List.mem_of_getElem? (i := 12) rfl), hts _ (List.mem_of_getElem? (i := 14) rfl)⟩ (ro_preV hK (va_recv hK.1 hP (ci := 2) (q0 := (k + 20)) rfl (WG_pd hk))) rfl rfl hl.1 rfl (lv_room (Nat.le_of_ble_eq_true rfl)) dX1_add_17 ⟨Nat.le_of_ble_eq_true rfl, Nat.le_of_ble_eq_true rfl⟩) (fun z17 hz17 => ?_)
      refine mp_callv (va_runVN (As := [.int (nI (σ 5 k)), .int (nI z17)]) (rest := []) ⟨hx, hb, hml, hown, hts⟩ (c_X3_add l D cy (ad 0 8) (ad 0 14) (ql 2) (qs 2) (F 2) (σ 5 k) z17 (hQ 2 (by decide)) (by omega) H.size) ⟨va_cnB 2 hts gX1_add_X3_add_n54 rfl rfl rfl (hK.2 _ nwm_X1_54 rfl) (hts _ (List.mem_of_getElem? (i := 23) rfl)) hdX3_add.2 ⟨Nat.le_of_ble_eq_true rfl, Nat.le_of_ble_eq_true rfl⟩, hts _ (List.mem_of_getElem? (i := 22) rfl), hts _ (List.mem_of_getElem? (i := 24) rfl)⟩ (mo_preV hK rfl (hP.two (i := 8) (j := 14) rfl rfl) (hD.sub [8, 14] (by decide) rfl) (va_recv hK.1 hP (ci := 3) (q0 := 8) rfl rfl)) rfl rfl hl.1 rfl (lv_room (Nat.le_of_ble_eq_true rfl)) dX1_add_20 ⟨Nat.le_of_ble_eq_true rfl, Nat.le_of_ble_eq_true rfl⟩) hS hP hD hA [8, 14] rfl (fun u => rfl) (fun u20 H locs hr20 hP hD hS => ?_)
      have hP : va_P D vwCl (WG ad cy P B σ er ofd de bo (va_up ql 2 u20.1) (va_up qs 2 u20.2) tv) H := hP
      have hD : va_D A (WG ad cy P B σ er ofd de bo (va_up ql 2 u20.1) (va_up qs 2 u20.2) tv) := hD
      exact hret (va_up ql 2 u20.1, va_up qs 2 u20.2) dX1_add_23 hP hD hS (QS.all hQ (t := 2) (by rw [if_pos (show tyO (σ 3 k) (σ 4 k) = 2 by rw [e1, e2]; rfl)]; unfold cme; rw [← hz17]; exact hr20) (fun i hi => by rw [if_neg (by rw [e1, e2]; exact fun q => hi q.symm), List.append_nil]))
    · skip
      exact r9.elim
