def OF (ad : Nat → Nat → Nat) (σ : SF) (ofd : Nat → Option Nat) : Prop := ∀ k, ofd k = if k < σ 0 0 then some (ad 1 k) else none
def BO (ad : Nat → Nat → Nat) (σ : SF) (bo : Nat → Option Nat) : Prop := ∀ b, b < σ 0 3 → bo b = some (ad 3 b)
theorem OF.s {ad : Nat → Nat → Nat} {σ : SF} {ofd : Nat → Option Nat} (h : OF ad σ ofd) {k : Nat} (hk : k < σ 0 0) : ofd k = some (ad 1 k) := by rw [h, if_pos hk]
theorem OF.z {ad : Nat → Nat → Nat} {σ : SF} {ofd : Nat → Option Nat} (h : OF ad σ ofd) {k : Nat} (hk : σ 0 0 ≤ k) : ofd k = none := by rw [h, if_neg (by omega)]
theorem lt0_no {v : Int32} {σ : SF} (h : v < 0) (hn : σ 0 0 ≤ 8) : ¬ isP σ v := fun ⟨k, hk, e⟩ => by subst e; exact nI_pos (by omega) h
theorem lt0_nb {v : Int32} {σ : SF} (h : v < 0) (hn : σ 0 3 ≤ 60) : ¬ isB σ v := fun ⟨k, hk, e⟩ => by subst e; exact nI_pos (by omega) h
theorem isP_nI {σ : SF} {j : Nat} (hj : j < 2 ^ 31) (hn : σ 0 0 ≤ 8) : isP σ (nI j) ↔ j < σ 0 0 := ⟨fun ⟨k, hk, e⟩ => by rw [(nI_eq hj (by omega)).mp e]; exact hk, fun h => ⟨j, h, rfl⟩⟩
theorem isB_nI {σ : SF} {j : Nat} (hj : j < 2 ^ 31) (hn : σ 0 3 ≤ 60) : isB σ (nI j) ↔ j < σ 0 3 := ⟨fun ⟨k, hk, e⟩ => by rw [(nI_eq hj (by omega)).mp e]; exact hk, fun h => ⟨j, h, rfl⟩⟩
theorem bsum_s {σ : SF} {leg k s x z y : Nat} (hs : s = bsum σ leg k) (hx : x = if σ 14 k = 0 ∧ σ 10 k ≤ leg ∧ leg ≤ σ 11 k then σ 12 k else 0) (hz : z = s + x) (hy : y = k + 1) : z = bsum σ leg y := by subst hy; rw [hz, hs, hx]; rfl
theorem cntU_cG {σ : SF} {k : Nat} : ∀ i, i ≤ 21 → cntU σ k i = cG (tbR σ k) i := by
  intro i
  induction i with
  | zero => intro _; rfl
  | succ i ih => intro h; unfold cntU cG; rw [ih (by omega)]; unfold tbR; rw [if_pos (by omega)]
theorem pmU_pmG {σ : SF} {k cost : Nat} : ∀ i, i ≤ 21 → pmU σ k cost i = pmG (σ 5 k) (cost * σ 0 1) (tbR σ k) i := by
  intro i
  induction i with
  | zero => intro _; rfl
  | succ i ih => intro h; unfold pmU pmG; rw [ih (by omega), cntU_cG (i + 1) h]
theorem tbR_le {σ : SF} {B : Nat} (h : ∀ j, σ 9 j ≤ B) (k : Nat) : ∀ j, tbR σ k j ≤ B := by intro j; unfold tbR; split; exact h _; exact Nat.zero_le _
theorem prS_in {σ : SF} {leg cost k z y s x : Nat} (hs : s = prS σ leg cost (min k (σ 0 0))) (hk : k < σ 0 0) (hx : (σ 3 k ≤ leg ∧ leg ≤ σ 4 k) ∧ cost < σ 5 k) (hz : x = if σ 0 1 = 0 then 0 else pmG (σ 5 k) (cost * σ 0 1) (tbR σ k) 21) (hy : y = k + 1) (hsum : z = s + x) : z = prS σ leg cost (min y (σ 0 0)) := by
  subst hy
  rw [hsum, hs, hz, show min k (σ 0 0) = k by omega, show min (k + 1) (σ 0 0) = k + 1 by omega]
  conv => rhs; unfold prS
  by_cases q : σ 0 1 = 0
  · rw [if_pos q, if_neg (by omega)]
  · rw [if_neg q, if_pos ⟨hx.1, hx.2, by omega⟩, pmU_pmG 21 (Nat.le_refl _)]
theorem prS_no {σ : SF} {leg cost k y s : Nat} (hs : s = prS σ leg cost (min k (σ 0 0))) (hx : ¬ ((σ 3 k ≤ leg ∧ leg ≤ σ 4 k) ∧ cost < σ 5 k) ∨ σ 0 0 ≤ k) (hy : y = k + 1) : s = prS σ leg cost (min y (σ 0 0)) := by
  subst hy
  rcases Nat.lt_or_ge k (σ 0 0) with q | q
  · rw [hs, show min k (σ 0 0) = k by omega, show min (k + 1) (σ 0 0) = k + 1 by omega]
    exact prS_n (fun h => hx.elim (fun z => z ⟨h.1, h.2.1⟩) (fun z => by omega))
  · rw [hs, show min k (σ 0 0) = min (k + 1) (σ 0 0) by omega]
set_option maxHeartbeats 4000000 in
set_option maxRecDepth 100000 in
theorem c_X5_within (l : Launch) (D : va_G) (cy : Nat → ClassId) (v a b : Int32) : cRO l D cy yX5_within wsX5_within rmX5_within [.int v, .int a, .int b] ([]) (pB (a ≤ v ∧ v ≤ b)) := by
  refine cRO.of (cc := cX5_within) (maxL := 3) (by decide) rfl (Nat.le_of_ble_eq_true rfl) (Or.inr ⟨rfl, pB.z⟩) ?_
  intro p e s m args below meth c H Q hx hb hml hown hts hP hK hret ls hl
  refine lv_iload_n hx hb dX5_within_0 rfl (lv_at hl 0 rfl) ?_
  refine lv_iload_n hx hb dX5_within_1 rfl (lv_at hl 1 rfl) ?_
  refine lv_icmp_lt (tgt := 14) hx hb dX5_within_2 (by decide) (fun c2 => ?_) (fun c2 => ?_)
  · skip
    refine lv_iconst (v := nI 0) hx hb dX5_within_14 (by decide) ?_
    exact hret dX5_within_15 (pB.f (fun q => by first | exact absurd q.1 (Int32.not_le.mpr c2) | exact absurd q.2 (Int32.not_le.mpr c7)))
  · skip
    refine lv_iload_n hx hb dX5_within_5 rfl (lv_at hl 0 rfl) ?_
    refine lv_iload_n hx hb dX5_within_6 rfl (lv_at hl 2 rfl) ?_
    refine lv_icmp_gt (tgt := 14) hx hb dX5_within_7 (by decide) (fun c7 => ?_) (fun c7 => ?_)
    · skip
      refine lv_iconst (v := nI 0) hx hb dX5_within_14 (by decide) ?_
      exact hret dX5_within_15 (pB.f (fun q => by first | exact absurd q.1 (Int32.not_le.mpr c2) | exact absurd q.2 (Int32.not_le.mpr c7)))
    · skip
      refine lv_iconst (v := nI 1) hx hb dX5_within_10 (by decide) ?_
      refine lv_goto (tgt := 15) hx hb dX5_within_11 (by decide) ?_
      exact hret dX5_within_15 (pB.t ⟨Int32.not_lt.mp c2, Int32.not_lt.mp c7⟩)
set_option maxHeartbeats 4000000 in
set_option maxRecDepth 100000 in
theorem c_X5_isLeg (l : Launch) (D : va_G) (cy : Nat → ClassId) (v : Int32) : cRO l D cy yX5_isLeg wsX5_isLeg rmX5_isLeg [.int v] ([]) (pB (okR v 0 2)) := by
  refine cRO.of (cc := cX5_isLeg) (maxL := 1) (by decide) rfl (Nat.le_of_ble_eq_true rfl) (Or.inr ⟨rfl, pB.z⟩) ?_
  intro p e s m args below meth c H Q hx hb hml hown hts hP hK hret ls hl
  have hE : va_P D vwCl [] H := va_P0
  refine lv_iload_n hx hb dX5_isLeg_0 rfl (lv_at hl 0 rfl) ?_
  refine lv_iconst (v := nI 0) hx hb dX5_isLeg_1 (by decide) ?_
  refine lv_iconst (v := nI 2) hx hb dX5_isLeg_2 (by decide) ?_
  refine ro_calliB (va_runS (As := [.int v, .int (nI 0), .int (nI 2)]) (rest := []) ⟨hx, hb, hml, hown, hts⟩ (c_X5_within l D cy (v) ((nI 0)) ((nI 2)) H va_P0) (va_cwS 3 hts gX5_isLeg_X5_within rfl rfl rfl hdX5_within.2 ⟨Nat.le_of_ble_eq_true rfl, Nat.le_of_ble_eq_true rfl⟩) (ro_pre hK rfl) rfl rfl hl.1 rfl (lv_room (Nat.le_of_ble_eq_true rfl)) dX5_isLeg_3 ⟨Nat.le_of_ble_eq_true rfl, Nat.le_of_ble_eq_true rfl⟩) (fun b3 => ?_) (fun b3 => ?_)
  · skip
    exact hret dX5_isLeg_6 (pB.t b3)
  · skip
    exact hret dX5_isLeg_6 (pB.f b3)
set_option maxHeartbeats 4000000 in
set_option maxRecDepth 100000 in
theorem c_X5_putSeats (l : Launch) (D : va_G) (cy : Nat → ClassId) (ad : Nat → Nat → Nat) (σ : SF) (er : Int64) (ofd de bo : Nat → Option Nat) (ql : Nat → Nat) (qs : Nat → Nat → Nat) (tv : Nat → Nat) (j x : Nat) (hj : j < 3) : cMV l D cy yX5_putSeats wsX5_putSeats rmX5_putSeats [.ref (ad 0 0), .int (nI j), .int (nI x)] (WG ad cy (σ 0 0) (σ 0 3) σ er ofd de bo ql qs tv) (T := Unit) (fun _ => WG ad cy (σ 0 0) (σ 0 3) (va_up σ 1 (va_up (σ 1) j x)) er ofd de bo ql qs tv) (fun _ => True) 0 0 := by
  refine cMV.of (cc := cX5_putSeats) (maxL := 3) (by decide) rfl (Nat.le_of_ble_eq_true rfl) ?_
  intro p e s m args below meth c H0 A Q hx hb hml hown hts hP hK hD hS hA hin0 hret ls hl
  obtain ⟨H, locs, hH, hlo⟩ : ∃ (H : Heap) (locs : List Loc), H = H0 ∧ locs = [] := ⟨_, _, rfl, rfl⟩
  rw [← hH] at hP
  rw [show va_S A H0 H0 [] = va_S A H0 H locs by rw [hH, hlo]] at hS
  rw [show W p l e rmX5_putSeats s m args below meth c H0 [] 0 0 Q (F0 m 0 ls []) = W p l e rmX5_putSeats s m args below meth c H locs 0 0 Q (F0 m 0 ls []) by rw [hH, hlo]]
  refine lv_iload_n hx hb dX5_putSeats_0 rfl (lv_at hl 1 rfl) ?_
  refine ln_if_lt (tgt := 20) hx hb (by omega) dX5_putSeats_1 (by decide) ?_
  refine lv_iload_n hx hb dX5_putSeats_4 rfl (lv_at hl 1 rfl) ?_
  refine lv_aload_n hx hb dX5_putSeats_5 rfl (lv_at hl 0 rfl) ?_
  refine gf5 (v := .ref (ad 0 1)) hx hb hts fX5_putSeats_5 hown hK.1 hP 0 0 rfl (by decide) kX5_putSeats_6 rfl rfl dX5_putSeats_6 ?_
  refine ln_alen hx hb hK.1 hP 1 0 rfl rfl dX5_putSeats_9 ?_
  refine ln_icmp_ge (tgt := 20) hx hb (by omega) (by omega) dX5_putSeats_10 (by decide) (fun c10 => ?_) (fun c10 => ?_)
  · skip
    exact absurd c10 (by omega)
  · skip
    refine lv_aload_n hx hb dX5_putSeats_13 rfl (lv_at hl 0 rfl) ?_
    refine gf5 (v := .ref (ad 0 1)) hx hb hts fX5_putSeats_5 hown hK.1 hP 0 0 rfl (by decide) kX5_putSeats_14 rfl rfl dX5_putSeats_14 ?_
    refine lv_iload_n hx hb dX5_putSeats_17 rfl (lv_at hl 1 rfl) ?_
    refine lv_iload_n hx hb dX5_putSeats_18 rfl (lv_at hl 2 rfl) ?_
    refine ln_iast (g := σ 1) hx hb hK.1 hP hD hS 1 0 rfl rfl (by omega) (by decide) dX5_putSeats_19 (fun H locs hP hD hS => ?_)
    have hP : va_P D vwCl (WG ad cy (σ 0 0) (σ 0 3) (va_up σ 1 (va_up (σ 1) j x)) er ofd de bo ql qs tv) H := hP
    have hD : va_D A (WG ad cy (σ 0 0) (σ 0 3) (va_up σ 1 (va_up (σ 1) j x)) er ofd de bo ql qs tv) := hD
    exact hret () dX5_putSeats_20 hP hD hS trivial
set_option maxHeartbeats 4000000 in
set_option maxRecDepth 100000 in
theorem c_X5_seatsOf (l : Launch) (D : va_G) (cy : Nat → ClassId) (ad : Nat → Nat → Nat) (σ : SF) (er : Int64) (ofd de bo : Nat → Option Nat) (ql : Nat → Nat) (qs : Nat → Nat → Nat) (tv : Nat → Nat) (j : Nat) (hj : j < 3) : cRO l D cy yX5_seatsOf wsX5_seatsOf rmX5_seatsOf [.ref (ad 0 0), .int (nI j)] (WG ad cy (σ 0 0) (σ 0 3) σ er ofd de bo ql qs tv) (pN (σ 1 j)) := by
  refine cRO.of (cc := cX5_seatsOf) (maxL := 2) (by decide) rfl (Nat.le_of_ble_eq_true rfl) (Or.inl rfl) ?_
  intro p e s m args below meth c H Q hx hb hml hown hts hP hK hret ls hl
  refine lv_iload_n hx hb dX5_seatsOf_0 rfl (lv_at hl 1 rfl) ?_
  refine ln_if_lt (tgt := 22) hx hb (by omega) dX5_seatsOf_1 (by decide) ?_
  refine lv_iload_n hx hb dX5_seatsOf_4 rfl (lv_at hl 1 rfl) ?_
  refine lv_aload_n hx hb dX5_seatsOf_5 rfl (lv_at hl 0 rfl) ?_
  refine gf5 (v := .ref (ad 0 1)) hx hb hts fX5_seatsOf_5 hown hK.1 hP 0 0 rfl (by decide) kX5_seatsOf_6 rfl rfl dX5_seatsOf_6 ?_
  refine ln_alen hx hb hK.1 hP 1 0 rfl rfl dX5_seatsOf_9 ?_
  refine ln_icmp_ge (tgt := 22) hx hb (by omega) (by omega) dX5_seatsOf_10 (by decide) (fun c10 => ?_) (fun c10 => ?_)
  · skip
    exact absurd c10 (by omega)
  · skip
    refine lv_aload_n hx hb dX5_seatsOf_13 rfl (lv_at hl 0 rfl) ?_
    refine gf5 (v := .ref (ad 0 1)) hx hb hts fX5_seatsOf_5 hown hK.1 hP 0 0 rfl (by decide) kX5_seatsOf_14 rfl rfl dX5_seatsOf_14 ?_
    refine lv_iload_n hx hb dX5_seatsOf_17 rfl (lv_at hl 1 rfl) ?_
    refine ln_iald (g := σ 1) hx hb hK.1 hP 1 0 rfl rfl (by omega) (by decide) dX5_seatsOf_18 ?_
    refine lv_goto (tgt := 23) hx hb dX5_seatsOf_19 (by decide) ?_
    exact hret dX5_seatsOf_23 rfl
set_option maxHeartbeats 4000000 in
set_option maxRecDepth 100000 in
theorem c_X5_authorisedOn (l : Launch) (D : va_G) (cy : Nat → ClassId) (ad : Nat → Nat → Nat) (σ : SF) (er : Int64) (ofd de bo : Nat → Option Nat) (ql : Nat → Nat) (qs : Nat → Nat → Nat) (tv : Nat → Nat) {n : Nat} (hI : Iv n σ) (j : Nat) (hj : j < 3) : cRO l D cy yX5_authorisedOn wsX5_authorisedOn rmX5_authorisedOn [.ref (ad 0 0), .int (nI j)] (WG ad cy (σ 0 0) (σ 0 3) σ er ofd de bo ql qs tv) (pN (aut σ j)) := by
  refine cRO.of (cc := cX5_authorisedOn) (maxL := 3) (by decide) rfl (Nat.le_of_ble_eq_true rfl) (Or.inl rfl) ?_
  intro p e s m args below meth c H Q hx hb hml hown hts hP hK hret ls hl
  have hrt := hI.rt
  have hse := hI.se j hj
  refine lv_aload_n hx hb dX5_authorisedOn_0 rfl (lv_at hl 0 rfl) ?_
  refine lv_iload_n hx hb dX5_authorisedOn_1 rfl (lv_at hl 1 rfl) ?_
  refine ro_calliN (va_runV (As := [.int (nI j)]) (rest := []) ⟨hx, hb, hml, hown, hts⟩ (c_X5_seatsOf l D cy ad σ er ofd de bo ql qs tv j (by omega) H hP) (cwV 1 hts gX5_authorisedOn_X5_seatsOf rfl rfl rfl hdX5_seatsOf ⟨Nat.le_of_ble_eq_true rfl, Nat.le_of_ble_eq_true rfl⟩) (ro_preV hK (va_recv hK.1 hP (ci := 5) (q0 := 0) rfl rfl)) rfl rfl hl.1 rfl (lv_room (Nat.le_of_ble_eq_true rfl)) dX5_authorisedOn_2 ⟨Nat.le_of_ble_eq_true rfl, Nat.le_of_ble_eq_true rfl⟩) (fun z2 hz2 => ?_)
  refine lv_istore_n (lv' := [(2, .int (nI z2)), (0, .ref (ad 0 0)), (1, .int (nI j))]) hx hb dX5_authorisedOn_5 rfl hl (by decide) rfl (fun ls hl => ?_)
  refine lv_iload_n hx hb dX5_authorisedOn_6 rfl (lv_at hl 0 rfl) ?_
  refine lv_iload_n hx hb dX5_authorisedOn_7 rfl (lv_at hl 0 rfl) ?_
  refine lv_bipush (v := nI 100) hx hb dX5_authorisedOn_8 (by decide) ?_
  refine lv_aload_n hx hb dX5_authorisedOn_10 rfl (lv_at hl 1 rfl) ?_
  refine gf5 (v := .int (nI (σ 0 2))) hx hb hts fX5_authorisedOn_5 hown hK.1 hP 0 9 rfl (by decide) kX5_authorisedOn_11 rfl rfl dX5_authorisedOn_11 ?_
  refine ln_isub hx hb (by omega) dX5_authorisedOn_14 (fun z14 hz14 => ?_)
  refine ln_imul hx hb dX5_authorisedOn_15 (fun z15 hz15 => ?_)
  have hz15b : z15 ≤ 1000 := by rw [hz15]; have := Nat.mul_le_mul (show z2 ≤ 10 by omega) (show z14 ≤ 100 by omega); omega
  refine lv_bipush (v := nI 100) hx hb dX5_authorisedOn_16 (by decide) ?_
  refine ln_idiv hx hb (by omega) (by omega) (by omega) dX5_authorisedOn_18 (fun z18 hz18 => ?_)
  refine ln_iadd hx hb dX5_authorisedOn_19 (fun z19 hz19 => ?_)
  exact hret dX5_authorisedOn_20 (pnE (by unfold aut; rw [hz19, hz18, hz15, hz14, hz2]))
set_option maxHeartbeats 4000000 in
set_option maxRecDepth 100000 in
theorem c_X5_bookingAt (l : Launch) (D : va_G) (cy : Nat → ClassId) (ad : Nat → Nat → Nat) (σ : SF) (er : Int64) (ofd de bo : Nat → Option Nat) (ql : Nat → Nat) (qs : Nat → Nat → Nat) (tv : Nat → Nat) (hbo : BO ad σ bo) (hnb : σ 0 3 ≤ 60) (v : Int32) : cRQ l D cy yX5_bookingAt wsX5_bookingAt rmX5_bookingAt [.ref (ad 0 0), .int v] (WG ad cy (σ 0 0) (σ 0 3) σ er ofd de bo ql qs tv) (pQ (fun r => ∃ b, b < σ 0 3 ∧ v = nI b ∧ r = ad 3 b) (¬ isB σ v)) := by
  refine cRQ.of (cc := cX5_bookingAt) (maxL := 2) (by decide) rfl (Nat.le_of_ble_eq_true rfl) ?_
  intro p e s m args below meth c H Q hx hb hml hown hts hP hK hret ls hl
  refine lv_iload_n hx hb dX5_bookingAt_0 rfl (lv_at hl 1 rfl) ?_
  refine lv_if_lt (tgt := 30) hx hb dX5_bookingAt_1 (by decide) (fun c1 => ?_) (fun c1 => ?_)
  · skip
    refine lv_null hx hb dX5_bookingAt_30 ?_
    exact hret none dX5_bookingAt_31 (pQ.no (by first | exact lt0_nb c1 hnb | exact fun q => absurd ((isB_nI hj hnb).mp q) (by omega)))
  · skip
    obtain ⟨j, hj, rfl⟩ := nI_of c1
    refine lv_iload_n hx hb dX5_bookingAt_4 rfl (lv_at hl 1 rfl) ?_
    refine lv_aload_n hx hb dX5_bookingAt_5 rfl (lv_at hl 0 rfl) ?_
    refine gf5 (v := .int (nI (σ 0 3))) hx hb hts fX5_bookingAt_5 hown hK.1 hP 0 7 rfl (by decide) kX5_bookingAt_6 rfl rfl dX5_bookingAt_6 ?_
    refine ln_icmp_ge (tgt := 30) hx hb (by omega) (by omega) dX5_bookingAt_9 (by decide) (fun c9 => ?_) (fun c9 => ?_)
    · skip
      refine lv_null hx hb dX5_bookingAt_30 ?_
      exact hret none dX5_bookingAt_31 (pQ.no (by first | exact lt0_nb c1 hnb | exact fun q => absurd ((isB_nI hj hnb).mp q) (by omega)))
    · skip
      refine lv_iload_n hx hb dX5_bookingAt_12 rfl (lv_at hl 1 rfl) ?_
      refine lv_aload_n hx hb dX5_bookingAt_13 rfl (lv_at hl 0 rfl) ?_
      refine gf5 (v := .ref (ad 0 4)) hx hb hts fX5_bookingAt_5 hown hK.1 hP 0 3 rfl (by decide) kX5_bookingAt_14 rfl rfl dX5_bookingAt_14 ?_
      refine ln_alen hx hb hK.1 hP 4 3 rfl rfl dX5_bookingAt_17 ?_
      refine ln_icmp_ge (tgt := 30) hx hb (by omega) (by omega) dX5_bookingAt_18 (by decide) (fun c18 => ?_) (fun c18 => ?_)
      · skip
        exact absurd c18 (by omega)
      · skip
        refine lv_aload_n hx hb dX5_bookingAt_21 rfl (lv_at hl 0 rfl) ?_
        refine gf5 (v := .ref (ad 0 4)) hx hb hts fX5_bookingAt_5 hown hK.1 hP 0 3 rfl (by decide) kX5_bookingAt_22 rfl rfl dX5_bookingAt_22 ?_
        refine lv_iload_n hx hb dX5_bookingAt_25 rfl (lv_at hl 1 rfl) ?_
        refine ln_aaldS (b := ad 3 j) hx hb hK hP 4 3 rfl rfl (by omega) (by decide) (hbo j (by omega)) dX5_bookingAt_26 ?_
        refine lv_goto (tgt := 31) hx hb dX5_bookingAt_27 (by decide) ?_
        exact hret (some (ad 3 j)) dX5_bookingAt_31 (pQ.sm ⟨j, by omega, rfl, rfl⟩)
set_option maxHeartbeats 4000000 in
set_option maxRecDepth 100000 in
theorem c_X5_bookedOn (l : Launch) (D : va_G) (cy : Nat → ClassId) (ad : Nat → Nat → Nat) (σ : SF) (er : Int64) (ofd de bo : Nat → Option Nat) (ql : Nat → Nat) (qs : Nat → Nat → Nat) (tv : Nat → Nat) (hbo : BO ad σ bo) {n : Nat} (hI : Iv n σ) (j : Nat) (hj : j < 3) : cRO l D cy yX5_bookedOn wsX5_bookedOn rmX5_bookedOn [.ref (ad 0 0), .int (nI j)] (WG ad cy (σ 0 0) (σ 0 3) σ er ofd de bo ql qs tv) (pN (σ 2 j)) := by
  refine cRO.of (cc := cX5_bookedOn) (maxL := 5) (by decide) rfl (Nat.le_of_ble_eq_true rfl) (Or.inl rfl) ?_
  intro p e s m args below meth c H Q hx hb hml hown hts hP hK hret ls hl
  have hnb := hI.nb
  have K4 : ∀ (n4 : Nat) (sm : Nat) (k : Nat), σ 0 3 - k < n4 → (sm = bsum σ j k) → (k ≤ σ 0 3) → ∀ ls : Array Slot, lv_has ls 5 [(0, .ref (ad 0 0)), (1, .int (nI j)), (2, .int (nI sm)), (3, .int (nI k))] → W p l e rmX5_bookedOn s m args below meth c H [] 0 0 Q (F0 m 4 ls []) := by
    intro n4
    induction n4 with
    | zero =>
      intro sm k hfu
      exact absurd hfu (Nat.not_lt_zero _)
    | succ n4 ih4 =>
      intro sm k hfu hsm hk ls hl
      refine lv_iload_n hx hb dX5_bookedOn_4 rfl (lv_at hl 3 rfl) ?_
      refine lv_aload_n hx hb dX5_bookedOn_5 rfl (lv_at hl 0 rfl) ?_
      refine gf5 (v := .int (nI (σ 0 3))) hx hb hts fX5_bookedOn_5 hown hK.1 hP 0 7 rfl (by decide) kX5_bookedOn_6 rfl rfl dX5_bookedOn_6 ?_
      refine ln_icmp_ge (tgt := 39) hx hb (by omega) (by omega) dX5_bookedOn_9 (by decide) (fun c9 => ?_) (fun c9 => ?_)
      · skip
        refine lv_iload_n hx hb dX5_bookedOn_39 rfl (lv_at hl 2 rfl) ?_
        exact hret dX5_bookedOn_40 (pnE (by rw [hsm, hI.bk j hj]; congr 1; omega))
      · skip
        refine lv_aload_n hx hb dX5_bookedOn_12 rfl (lv_at hl 0 rfl) ?_
        refine lv_iload_n hx hb dX5_bookedOn_13 rfl (lv_at hl 3 rfl) ?_
        refine ro_callqP (va_runV (As := [.int (nI k)]) (rest := []) ⟨hx, hb, hml, hown, hts⟩ (c_X5_bookingAt l D cy ad σ er ofd de bo ql qs tv hbo hnb ((nI k)) H hP) (cwV 1 hts gX5_bookedOn_X5_bookingAt rfl rfl rfl hdX5_bookingAt ⟨Nat.le_of_ble_eq_true rfl, Nat.le_of_ble_eq_true rfl⟩) (ro_preV hK (va_recv hK.1 hP (ci := 5) (q0 := 0) rfl rfl)) rfl rfl hl.1 rfl (lv_room (Nat.le_of_ble_eq_true rfl)) dX5_bookedOn_14 ⟨Nat.le_of_ble_eq_true rfl, Nat.le_of_ble_eq_true rfl⟩) (fun a14 r14 => ?_) (fun r14 => ?_)
        · skip
          obtain ⟨b9, hb9, hv9, hr9⟩ := r14
          have e9 : b9 = k := ((nI_eq (by omega) (by omega)).mp hv9).symm
          rw [e9] at hr9 hb9
          subst hr9
          refine lv_astore (lv' := [(4, .ref (ad 3 k)), (0, .ref (ad 0 0)), (1, .int (nI j)), (2, .int (nI sm)), (3, .int (nI k))]) hx hb dX5_bookedOn_17 hl (by decide) rfl (fun ls hl => ?_)
          refine lv_aload hx hb dX5_bookedOn_19 (lv_at hl 0 rfl) ?_
          refine lv_ifnull hx hb dX5_bookedOn_21 ?_
          refine lv_iload_n hx hb dX5_bookedOn_24 rfl (lv_at hl 3 rfl) ?_
          refine lv_aload hx hb dX5_bookedOn_25 (lv_at hl 0 rfl) ?_
          refine lv_iload_n hx hb dX5_bookedOn_27 rfl (lv_at hl 2 rfl) ?_
          refine ro_calliN (va_runVN (As := [.int (nI j)]) (rest := [.int (nI sm)]) ⟨hx, hb, hml, hown, hts⟩ (c_X0_seatsOn l D cy (ad 3 k) (σ 10 k) (σ 11 k) (σ 12 k) (σ 13 k) (σ 14 k) j (by have := hI.bo k hb9; omega) (by have := hI.bo k hb9; omega) (by omega) (hI.bo k hb9).2.2.2.2 H (hP.one (WG_bk hb9))) ⟨va_cnB 1 hts gX5_bookedOn_X0_seatsOn_n228 rfl rfl rfl (hK.2 _ nwm_X5_228 rfl) (hts _ (List.mem_of_getElem? (i := 9) rfl)) hdX0_seatsOn.2 ⟨Nat.le_of_ble_eq_true rfl, Nat.le_of_ble_eq_true rfl⟩, hts _ (List.mem_of_getElem? (i := 8) rfl), hts _ (List.mem_of_getElem? (i := 10) rfl)⟩ (ro_preV hK (va_recv hK.1 hP (ci := 0) (q0 := ((σ 0 0) + ((σ 0 0) + k) + 20)) rfl (WG_bk hb9))) rfl rfl hl.1 rfl (lv_room (Nat.le_of_ble_eq_true rfl)) dX5_bookedOn_28 ⟨Nat.le_of_ble_eq_true rfl, Nat.le_of_ble_eq_true rfl⟩) (fun z28 hz28 => ?_)
          refine ln_iadd hx hb dX5_bookedOn_31 (fun z31 hz31 => ?_)
          refine lv_istore_n (lv' := [(2, .int (nI z31)), (4, .ref (ad 3 k)), (0, .ref (ad 0 0)), (1, .int (nI j)), (3, .int (nI k))]) hx hb dX5_bookedOn_32 rfl hl (by decide) rfl (fun ls hl => ?_)
          obtain ⟨z33, hz33⟩ : ∃ z : Nat, z = k + 1 := ⟨_, rfl⟩
          refine lv_iinc (v := nI z33) (lv' := [(3, .int (nI z33)), (2, .int (nI z31)), (4, .ref (ad 3 k)), (0, .ref (ad 0 0)), (1, .int (nI j))]) hx hb dX5_bookedOn_33 hl (k := 4) rfl (by rw [hz33]; exact nI_add _ 1) (by decide) rfl (fun ls hl => ?_)
          refine lv_goto (tgt := 4) hx hb dX5_bookedOn_36 (by decide) ?_
          exact ih4 z31 z33 (by omega) (bsum_s hsm hz28 hz31 hz33) (by omega) ls (lv_sub hl [3, 4, 1, 0] rfl)
        · skip
          exact absurd ((isB_nI (by omega) hnb).mpr (by omega)) r14
  refine lv_iconst (v := nI 0) hx hb dX5_bookedOn_0 (by decide) ?_
  refine lv_istore_n (lv' := [(2, .int (nI 0)), (0, .ref (ad 0 0)), (1, .int (nI j))]) hx hb dX5_bookedOn_1 rfl hl (by decide) rfl (fun ls hl => ?_)
  refine lv_iconst (v := nI 0) hx hb dX5_bookedOn_2 (by decide) ?_
  refine lv_istore_n (lv' := [(3, .int (nI 0)), (2, .int (nI 0)), (0, .ref (ad 0 0)), (1, .int (nI j))]) hx hb dX5_bookedOn_3 rfl hl (by decide) rfl (fun ls hl => ?_)
  exact K4 _ 0 0 (Nat.lt_succ_self _) rfl (by omega) ls (lv_sub hl [2, 3, 1, 0] rfl)
set_option maxHeartbeats 4000000 in
set_option maxRecDepth 100000 in
theorem c_X5_leftOn (l : Launch) (D : va_G) (cy : Nat → ClassId) (ad : Nat → Nat → Nat) (σ : SF) (er : Int64) (ofd de bo : Nat → Option Nat) (ql : Nat → Nat) (qs : Nat → Nat → Nat) (tv : Nat → Nat) (hbo : BO ad σ bo) {n : Nat} (hI : Iv n σ) (j : Nat) (hj : j < 3) : cRO l D cy yX5_leftOn wsX5_leftOn rmX5_leftOn [.ref (ad 0 0), .int (nI j)] (WG ad cy (σ 0 0) (σ 0 3) σ er ofd de bo ql qs tv) (pN (lft σ j)) := by
  refine cRO.of (cc := cX5_leftOn) (maxL := 2) (by decide) rfl (Nat.le_of_ble_eq_true rfl) (Or.inl rfl) ?_
  intro p e s m args below meth c H Q hx hb hml hown hts hP hK hret ls hl
  have hse := hI.se j hj
  have hbl := hI.bkle j hj
  refine lv_iconst (v := nI 0) hx hb dX5_leftOn_0 (by decide) ?_
  refine lv_aload_n hx hb dX5_leftOn_1 rfl (lv_at hl 0 rfl) ?_
  refine lv_iload_n hx hb dX5_leftOn_2 rfl (lv_at hl 1 rfl) ?_
  refine ro_calliN (va_runV (As := [.int (nI j)]) (rest := [.int (nI 0)]) ⟨hx, hb, hml, hown, hts⟩ (c_X5_seatsOf l D cy ad σ er ofd de bo ql qs tv j (by omega) H hP) (cwV 1 hts gX5_leftOn_X5_seatsOf rfl rfl rfl hdX5_seatsOf ⟨Nat.le_of_ble_eq_true rfl, Nat.le_of_ble_eq_true rfl⟩) (ro_preV hK (va_recv hK.1 hP (ci := 5) (q0 := 0) rfl rfl)) rfl rfl hl.1 rfl (lv_room (Nat.le_of_ble_eq_true rfl)) dX5_leftOn_3 ⟨Nat.le_of_ble_eq_true rfl, Nat.le_of_ble_eq_true rfl⟩) (fun z3 hz3 => ?_)
  refine lv_aload_n hx hb dX5_leftOn_6 rfl (lv_at hl 0 rfl) ?_
  refine lv_iload_n hx hb dX5_leftOn_7 rfl (lv_at hl 1 rfl) ?_
  refine ro_calliN (va_runV (As := [.int (nI j)]) (rest := [.int (nI z3), .int (nI 0)]) ⟨hx, hb, hml, hown, hts⟩ (c_X5_bookedOn l D cy ad σ er ofd de bo ql qs tv hbo hI j (by omega) H hP) (cwV 1 hts gX5_leftOn_X5_bookedOn rfl rfl rfl hdX5_bookedOn ⟨Nat.le_of_ble_eq_true rfl, Nat.le_of_ble_eq_true rfl⟩) (ro_preV hK (va_recv hK.1 hP (ci := 5) (q0 := 0) rfl rfl)) rfl rfl hl.1 rfl (lv_room (Nat.le_of_ble_eq_true rfl)) dX5_leftOn_8 ⟨Nat.le_of_ble_eq_true rfl, Nat.le_of_ble_eq_true rfl⟩) (fun z8 hz8 => ?_)
  refine lv_isub hx hb dX5_leftOn_11 ?_
  refine ln_mmax0 (x := z3) (y := z8) hx hb (by omega) (by omega) (hml.trans hl.1.symm) hown (hts _ mlX5_leftOn_12) (hts _ msX5_leftOn_12) (hts _ miX5_leftOn_12) (hts _ mcX5_leftOn_12) (Nat.le_of_ble_eq_true rfl) (Nat.le_of_ble_eq_true rfl) (Nat.zero_le _) (Nat.zero_le _) dX5_leftOn_12 (fun z12 hz12 => ?_)
  exact hret dX5_leftOn_15 (pnE (by unfold lft; omega))
set_option maxHeartbeats 4000000 in
set_option maxRecDepth 100000 in
theorem c_X5_hasLeft (l : Launch) (D : va_G) (cy : Nat → ClassId) (ad : Nat → Nat → Nat) (σ : SF) (er : Int64) (ofd de bo : Nat → Option Nat) (ql : Nat → Nat) (qs : Nat → Nat → Nat) (tv : Nat → Nat) (hbo : BO ad σ bo) {n : Nat} (hI : Iv n σ) (f t q : Nat) (ht : t ≤ 2) (hft : f ≤ t) (hq : q ≤ 10) : cRO l D cy yX5_hasLeft wsX5_hasLeft rmX5_hasLeft [.ref (ad 0 0), .int (nI f), .int (nI t), .int (nI q)] (WG ad cy (σ 0 0) (σ 0 3) σ er ofd de bo ql qs tv) (pB (¬ tooFull σ f t q)) := by
  refine cRO.of (cc := cX5_hasLeft) (maxL := 5) (by decide) rfl (Nat.le_of_ble_eq_true rfl) (Or.inr ⟨rfl, pB.z⟩) ?_
  intro p e s m args below meth c H Q hx hb hml hown hts hP hK hret ls hl
  have K3 : ∀ (n3 : Nat) (k : Nat), t + 1 - k < n3 → (f ≤ k) → (k ≤ t + 1) → (∀ j, f ≤ j → j < k → q ≤ lft σ j) → ∀ ls : Array Slot, lv_has ls 5 [(0, .ref (ad 0 0)), (1, .int (nI f)), (2, .int (nI t)), (3, .int (nI q)), (4, .int (nI k))] → W p l e rmX5_hasLeft s m args below meth c H [] 0 0 Q (F0 m 3 ls []) := by
    intro n3
    induction n3 with
    | zero =>
      intro k hfu
      exact absurd hfu (Nat.not_lt_zero _)
    | succ n3 ih3 =>
      intro k hfu hk1 hk2 ha ls hl
      refine lv_iload hx hb dX5_hasLeft_3 (lv_at hl 4 rfl) ?_
      refine lv_iload_n hx hb dX5_hasLeft_5 rfl (lv_at hl 2 rfl) ?_
      refine ln_icmp_gt (tgt := 27) hx hb (by omega) (by omega) dX5_hasLeft_6 (by decide) (fun c6 => ?_) (fun c6 => ?_)
      · skip
        refine lv_iconst (v := nI 1) hx hb dX5_hasLeft_27 (by decide) ?_
        exact hret dX5_hasLeft_28 (pB.t (fun ⟨j, h1, h2, h3⟩ => by have := ha j h1 (by omega); omega))
      · skip
        refine lv_aload_n hx hb dX5_hasLeft_9 rfl (lv_at hl 0 rfl) ?_
        refine lv_iload hx hb dX5_hasLeft_10 (lv_at hl 4 rfl) ?_
        refine ro_calliN (va_runV (As := [.int (nI k)]) (rest := []) ⟨hx, hb, hml, hown, hts⟩ (c_X5_leftOn l D cy ad σ er ofd de bo ql qs tv hbo hI k (by omega) H hP) (cwV 1 hts gX5_hasLeft_X5_leftOn rfl rfl rfl hdX5_leftOn ⟨Nat.le_of_ble_eq_true rfl, Nat.le_of_ble_eq_true rfl⟩) (ro_preV hK (va_recv hK.1 hP (ci := 5) (q0 := 0) rfl rfl)) rfl rfl hl.1 rfl (lv_room (Nat.le_of_ble_eq_true rfl)) dX5_hasLeft_12 ⟨Nat.le_of_ble_eq_true rfl, Nat.le_of_ble_eq_true rfl⟩) (fun z12 hz12 => ?_)
        refine lv_iload_n hx hb dX5_hasLeft_15 rfl (lv_at hl 3 rfl) ?_
        have hlk := hI.lf k (by omega)
        refine ln_icmp_ge (tgt := 21) hx hb (by omega) (by omega) dX5_hasLeft_16 (by decide) (fun c16 => ?_) (fun c16 => ?_)
        · skip
          obtain ⟨z21, hz21⟩ : ∃ z : Nat, z = k + 1 := ⟨_, rfl⟩
          refine lv_iinc (v := nI z21) (lv' := [(4, .int (nI z21)), (0, .ref (ad 0 0)), (1, .int (nI f)), (2, .int (nI t)), (3, .int (nI q))]) hx hb dX5_hasLeft_21 hl (k := 4) rfl (by rw [hz21]; exact nI_add _ 1) (by decide) rfl (fun ls hl => ?_)
          refine lv_goto (tgt := 3) hx hb dX5_hasLeft_24 (by decide) ?_
          exact ih3 z21 (by omega) (by omega) (by omega) (fun j h1 h2 => by by_cases e : j = k; rw [e]; omega; exact ha j h1 (by omega)) ls (lv_sub hl [1, 2, 3, 4, 0] rfl)
        · skip
          refine lv_iconst (v := nI 0) hx hb dX5_hasLeft_19 (by decide) ?_
          exact hret dX5_hasLeft_20 (pB.f (fun h => h ⟨k, hk1, by omega, by omega⟩))
  refine lv_iload_n hx hb dX5_hasLeft_0 rfl (lv_at hl 1 rfl) ?_
  refine lv_istore (lv' := [(4, .int (nI f)), (0, .ref (ad 0 0)), (1, .int (nI f)), (2, .int (nI t)), (3, .int (nI q))]) hx hb dX5_hasLeft_1 hl (by decide) rfl (fun ls hl => ?_)
  exact K3 _ f (Nat.lt_succ_self _) (by omega) (by omega) (fun j h1 h2 => by omega) ls (lv_sub hl [1, 2, 3, 4, 0] rfl)
set_option maxHeartbeats 4000000 in
set_option maxRecDepth 100000 in
theorem c_X5_deniedOn (l : Launch) (D : va_G) (cy : Nat → ClassId) (ad : Nat → Nat → Nat) (σ : SF) (er : Int64) (ofd de bo : Nat → Option Nat) (ql : Nat → Nat) (qs : Nat → Nat → Nat) (tv : Nat → Nat) (hbo : BO ad σ bo) {n : Nat} (hI : Iv n σ) (j sh : Nat) (hj : j < 3) (hsh : sh ≤ 100) : cRO l D cy yX5_deniedOn wsX5_deniedOn rmX5_deniedOn [.ref (ad 0 0), .int (nI j), .int (nI sh)] (WG ad cy (σ 0 0) (σ 0 3) σ er ofd de bo ql qs tv) (pN (den1 σ sh j)) := by
  refine cRO.of (cc := cX5_deniedOn) (maxL := 4) (by decide) rfl (Nat.le_of_ble_eq_true rfl) (Or.inl rfl) ?_
  intro p e s m args below meth c H Q hx hb hml hown hts hP hK hret ls hl
  have hse := hI.se j hj
  have hbl := hI.bkle j hj
  refine lv_aload_n hx hb dX5_deniedOn_0 rfl (lv_at hl 0 rfl) ?_
  refine lv_iload_n hx hb dX5_deniedOn_1 rfl (lv_at hl 1 rfl) ?_
  refine ro_calliN (va_runV (As := [.int (nI j)]) (rest := []) ⟨hx, hb, hml, hown, hts⟩ (c_X5_bookedOn l D cy ad σ er ofd de bo ql qs tv hbo hI j (by omega) H hP) (cwV 1 hts gX5_deniedOn_X5_bookedOn rfl rfl rfl hdX5_bookedOn ⟨Nat.le_of_ble_eq_true rfl, Nat.le_of_ble_eq_true rfl⟩) (ro_preV hK (va_recv hK.1 hP (ci := 5) (q0 := 0) rfl rfl)) rfl rfl hl.1 rfl (lv_room (Nat.le_of_ble_eq_true rfl)) dX5_deniedOn_2 ⟨Nat.le_of_ble_eq_true rfl, Nat.le_of_ble_eq_true rfl⟩) (fun z2 hz2 => ?_)
  refine lv_iload_n hx hb dX5_deniedOn_5 rfl (lv_at hl 2 rfl) ?_
  refine ln_imul hx hb dX5_deniedOn_6 (fun z6 hz6 => ?_)
  have hz6b : z6 ≤ 60000 := by rw [hz6, hz2]; have := Nat.mul_le_mul hbl hsh; omega
  refine lv_bipush (v := nI 100) hx hb dX5_deniedOn_7 (by decide) ?_
  refine ln_iadd hx hb dX5_deniedOn_9 (fun z9 hz9 => ?_)
  refine lv_iconst (v := nI 1) hx hb dX5_deniedOn_10 (by decide) ?_
  refine ln_isub hx hb (by omega) dX5_deniedOn_11 (fun z11 hz11 => ?_)
  refine lv_bipush (v := nI 100) hx hb dX5_deniedOn_12 (by decide) ?_
  refine ln_idiv hx hb (by omega) (by omega) (by omega) dX5_deniedOn_14 (fun z14 hz14 => ?_)
  refine lv_istore_n (lv' := [(3, .int (nI z14)), (0, .ref (ad 0 0)), (1, .int (nI j)), (2, .int (nI sh))]) hx hb dX5_deniedOn_15 rfl hl (by decide) rfl (fun ls hl => ?_)
  refine lv_iconst (v := nI 0) hx hb dX5_deniedOn_16 (by decide) ?_
  refine lv_iload_n hx hb dX5_deniedOn_17 rfl (lv_at hl 0 rfl) ?_
  refine lv_aload_n hx hb dX5_deniedOn_18 rfl (lv_at hl 1 rfl) ?_
  refine lv_iload_n hx hb dX5_deniedOn_19 rfl (lv_at hl 2 rfl) ?_
  refine ro_calliN (va_runV (As := [.int (nI j)]) (rest := [.int (nI z14), .int (nI 0)]) ⟨hx, hb, hml, hown, hts⟩ (c_X5_seatsOf l D cy ad σ er ofd de bo ql qs tv j (by omega) H hP) (cwV 1 hts gX5_deniedOn_X5_seatsOf rfl rfl rfl hdX5_seatsOf ⟨Nat.le_of_ble_eq_true rfl, Nat.le_of_ble_eq_true rfl⟩) (ro_preV hK (va_recv hK.1 hP (ci := 5) (q0 := 0) rfl rfl)) rfl rfl hl.1 rfl (lv_room (Nat.le_of_ble_eq_true rfl)) dX5_deniedOn_20 ⟨Nat.le_of_ble_eq_true rfl, Nat.le_of_ble_eq_true rfl⟩) (fun z20 hz20 => ?_)
  refine lv_isub hx hb dX5_deniedOn_23 ?_
  refine ln_mmax0 (x := z14) (y := z20) hx hb (by omega) (by omega) (hml.trans hl.1.symm) hown (hts _ mlX5_deniedOn_24) (hts _ msX5_deniedOn_24) (hts _ miX5_deniedOn_24) (hts _ mcX5_deniedOn_24) (Nat.le_of_ble_eq_true rfl) (Nat.le_of_ble_eq_true rfl) (Nat.zero_le _) (Nat.zero_le _) dX5_deniedOn_24 (fun z24 hz24 => ?_)
  exact hret dX5_deniedOn_27 (pnE (by unfold den1; rw [← hz2, ← hz6]; omega))
set_option maxHeartbeats 4000000 in
set_option maxRecDepth 100000 in
theorem c_X5_productAt (l : Launch) (D : va_G) (cy : Nat → ClassId) (ad : Nat → Nat → Nat) (σ : SF) (er : Int64) (ofd de bo : Nat → Option Nat) (ql : Nat → Nat) (qs : Nat → Nat → Nat) (tv : Nat → Nat) (hof : OF ad σ ofd) (hnp : σ 0 0 ≤ 8) (v : Int32) : cRQ l D cy yX5_productAt wsX5_productAt rmX5_productAt [.ref (ad 0 0), .int v] (WG ad cy (σ 0 0) (σ 0 3) σ er ofd de bo ql qs tv) (pQ (fun r => ∃ k, k < σ 0 0 ∧ v = nI k ∧ r = ad 1 k) (¬ isP σ v)) := by
  refine cRQ.of (cc := cX5_productAt) (maxL := 2) (by decide) rfl (Nat.le_of_ble_eq_true rfl) ?_
  intro p e s m args below meth c H Q hx hb hml hown hts hP hK hret ls hl
  refine lv_iload_n hx hb dX5_productAt_0 rfl (lv_at hl 1 rfl) ?_
  refine lv_if_lt (tgt := 22) hx hb dX5_productAt_1 (by decide) (fun c1 => ?_) (fun c1 => ?_)
  · skip
    refine lv_null hx hb dX5_productAt_22 ?_
    exact hret none dX5_productAt_23 (pQ.no (by first | exact lt0_no c1 hnp | exact fun q => absurd ((isP_nI hj hnp).mp q) (by omega)))
  · skip
    obtain ⟨j, hj, rfl⟩ := nI_of c1
    refine lv_iload_n hx hb dX5_productAt_4 rfl (lv_at hl 1 rfl) ?_
    refine lv_aload_n hx hb dX5_productAt_5 rfl (lv_at hl 0 rfl) ?_
    refine gf5 (v := .ref (ad 0 2)) hx hb hts fX5_productAt_5 hown hK.1 hP 0 1 rfl (by decide) kX5_productAt_6 rfl rfl dX5_productAt_6 ?_
    refine ln_alen hx hb hK.1 hP 2 4 rfl rfl dX5_productAt_9 ?_
    refine ln_icmp_ge (tgt := 22) hx hb (by omega) (by omega) dX5_productAt_10 (by decide) (fun c10 => ?_) (fun c10 => ?_)
    · skip
      refine lv_null hx hb dX5_productAt_22 ?_
      exact hret none dX5_productAt_23 (pQ.no (by first | exact lt0_no c1 hnp | exact fun q => absurd ((isP_nI hj hnp).mp q) (by omega)))
    · skip
      refine lv_aload_n hx hb dX5_productAt_13 rfl (lv_at hl 0 rfl) ?_
      refine gf5 (v := .ref (ad 0 2)) hx hb hts fX5_productAt_5 hown hK.1 hP 0 1 rfl (by decide) kX5_productAt_14 rfl rfl dX5_productAt_14 ?_
      refine lv_iload_n hx hb dX5_productAt_17 rfl (lv_at hl 1 rfl) ?_
      refine ln_aald hx hb hK.1 hP 2 4 rfl rfl (by omega) (by decide) dX5_productAt_18 ?_
      refine lv_goto (tgt := 23) hx hb dX5_productAt_19 (by decide) ?_
      exact hret (ofd j) dX5_productAt_23 (by rcases Nat.lt_or_ge j (σ 0 0) with q | q; rw [hof.s q]; exact pQ.sm ⟨j, q, rfl, rfl⟩; rw [hof.z q]; exact pQ.no (fun z => absurd ((isP_nI hj hnp).mp z) (by omega)))
set_option maxHeartbeats 4000000 in
set_option maxRecDepth 100000 in
theorem c_X5_isOffered (l : Launch) (D : va_G) (cy : Nat → ClassId) (ad : Nat → Nat → Nat) (σ : SF) (er : Int64) (ofd de bo : Nat → Option Nat) (ql : Nat → Nat) (qs : Nat → Nat → Nat) (tv : Nat → Nat) (hof : OF ad σ ofd) (hnp : σ 0 0 ≤ 8) (f t q : Int32) : cRO l D cy yX5_isOffered wsX5_isOffered rmX5_isOffered [.ref (ad 0 0), .int f, .int t, .int q] (WG ad cy (σ 0 0) (σ 0 3) σ er ofd de bo ql qs tv) (pB (isSame σ f t q)) := by
  refine cRO.of (cc := cX5_isOffered) (maxL := 8) (by decide) rfl (Nat.le_of_ble_eq_true rfl) (Or.inr ⟨rfl, pB.z⟩) ?_
  intro p e s m args below meth c H Q hx hb hml hown hts hP hK hret ls hl
  refine lv_aload_n hx hb dX5_isOffered_0 rfl (lv_at hl 0 rfl) ?_
  refine gf5 (v := .ref (ad 0 2)) hx hb hts fX5_isOffered_5 hown hK.1 hP 0 1 rfl (by decide) kX5_isOffered_1 rfl rfl dX5_isOffered_1 ?_
  refine lv_astore (lv' := [(4, .ref (ad 0 2)), (0, .ref (ad 0 0)), (1, .int f), (2, .int t), (3, .int q)]) hx hb dX5_isOffered_4 hl (by decide) rfl (fun ls hl => ?_)
  refine lv_aload hx hb dX5_isOffered_6 (lv_at hl 0 rfl) ?_
  refine ln_alen hx hb hK.1 hP 2 4 rfl rfl dX5_isOffered_8 ?_
  refine lv_istore (lv' := [(5, .int (nI 8)), (4, .ref (ad 0 2)), (0, .ref (ad 0 0)), (1, .int f), (2, .int t), (3, .int q)]) hx hb dX5_isOffered_9 hl (by decide) rfl (fun ls hl => ?_)
  have K14 : ∀ (n14 : Nat) (k : Nat), 8 - k < n14 → (k ≤ 8) → (∀ j, j < k → j < σ 0 0 → ¬ (nI (σ 3 j) = f ∧ nI (σ 4 j) = t ∧ nI (σ 5 j) = q)) → ∀ ls : Array Slot, lv_has ls 8 [(0, .ref (ad 0 0)), (1, .int f), (2, .int t), (3, .int q), (4, .ref (ad 0 2)), (5, .int (nI 8)), (6, .int (nI k))] → W p l e rmX5_isOffered s m args below meth c H [] 0 0 Q (F0 m 14 ls []) := by
    intro n14
    induction n14 with
    | zero =>
      intro k hfu
      exact absurd hfu (Nat.not_lt_zero _)
    | succ n14 ih14 =>
      intro k hfu hk8 ha ls hl
      refine lv_iload hx hb dX5_isOffered_14 (lv_at hl 6 rfl) ?_
      refine lv_iload hx hb dX5_isOffered_16 (lv_at hl 5 rfl) ?_
      refine ln_icmp_ge (tgt := 68) hx hb (by omega) (by omega) dX5_isOffered_18 (by decide) (fun c18 => ?_) (fun c18 => ?_)
      · skip
        refine lv_iconst (v := nI 0) hx hb dX5_isOffered_68 (by decide) ?_
        exact hret dX5_isOffered_69 (pB.f (fun ⟨j, h1, h2⟩ => ha j (by omega) h1 h2))
      · skip
        refine lv_aload hx hb dX5_isOffered_21 (lv_at hl 4 rfl) ?_
        refine lv_iload hx hb dX5_isOffered_23 (lv_at hl 6 rfl) ?_
        rcases Nat.lt_or_ge k (σ 0 0) with hk | hk
        · skip
          refine ln_aaldS (b := ad 1 k) hx hb hK hP 2 4 rfl rfl (by omega) (by decide) (hof.s hk) dX5_isOffered_25 ?_
          refine lv_astore (lv' := [(7, .ref (ad 1 k)), (0, .ref (ad 0 0)), (1, .int f), (2, .int t), (3, .int q), (4, .ref (ad 0 2)), (5, .int (nI 8)), (6, .int (nI k))]) hx hb dX5_isOffered_26 hl (by decide) rfl (fun ls hl => ?_)
          refine lv_aload hx hb dX5_isOffered_28 (lv_at hl 0 rfl) ?_
          refine lv_ifnull hx hb dX5_isOffered_30 ?_
          refine lv_aload hx hb dX5_isOffered_33 (lv_at hl 0 rfl) ?_
          refine gn2 (v := .int (nI (σ 3 k))) hx hb hts fX5_isOffered_2 hown hK.1 hP (k + 20) 0 (WG_pd hk) (by decide) (hK.2 _ nwf_X5_141 rfl) rfl rfl dX5_isOffered_35 ?_
          refine lv_iload_n hx hb dX5_isOffered_38 rfl (lv_at hl 2 rfl) ?_
          refine lv_icmp_ne (tgt := 62) hx hb dX5_isOffered_39 (by decide) (fun c39 => ?_) (fun c39 => ?_)
          · skip
            obtain ⟨z62, hz62⟩ : ∃ z : Nat, z = k + 1 := ⟨_, rfl⟩
            refine lv_iinc (v := nI z62) (lv' := [(6, .int (nI z62)), (7, .ref (ad 1 k)), (0, .ref (ad 0 0)), (1, .int f), (2, .int t), (3, .int q), (4, .ref (ad 0 2)), (5, .int (nI 8))]) hx hb dX5_isOffered_62 hl (k := 7) rfl (by rw [hz62]; exact nI_add _ 1) (by decide) rfl (fun ls hl => ?_)
            refine lv_goto (tgt := 14) hx hb dX5_isOffered_65 (by decide) ?_
            exact ih14 z62 (by omega) (by omega) (fun j h1 h2 h3 => by by_cases e : j = k; subst e; (first | omega | exact c39 h3.1 | exact c48 h3.2.1 | exact c57 h3.2.2); exact ha j (by omega) h2 h3) ls (lv_sub hl [2, 3, 4, 5, 6, 7, 0] rfl)
          · skip
            refine lv_aload hx hb dX5_isOffered_42 (lv_at hl 0 rfl) ?_
            refine gn2 (v := .int (nI (σ 4 k))) hx hb hts fX5_isOffered_2 hown hK.1 hP (k + 20) 1 (WG_pd hk) (by decide) (hK.2 _ nwf_X5_144 rfl) rfl rfl dX5_isOffered_44 ?_
            refine lv_iload_n hx hb dX5_isOffered_47 rfl (lv_at hl 3 rfl) ?_
            refine lv_icmp_ne (tgt := 62) hx hb dX5_isOffered_48 (by decide) (fun c48 => ?_) (fun c48 => ?_)
            · skip
              obtain ⟨z62, hz62⟩ : ∃ z : Nat, z = k + 1 := ⟨_, rfl⟩
              refine lv_iinc (v := nI z62) (lv' := [(6, .int (nI z62)), (7, .ref (ad 1 k)), (0, .ref (ad 0 0)), (1, .int f), (2, .int t), (3, .int q), (4, .ref (ad 0 2)), (5, .int (nI 8))]) hx hb dX5_isOffered_62 hl (k := 7) rfl (by rw [hz62]; exact nI_add _ 1) (by decide) rfl (fun ls hl => ?_)
              refine lv_goto (tgt := 14) hx hb dX5_isOffered_65 (by decide) ?_
              exact ih14 z62 (by omega) (by omega) (fun j h1 h2 h3 => by by_cases e : j = k; subst e; (first | omega | exact c39 h3.1 | exact c48 h3.2.1 | exact c57 h3.2.2); exact ha j (by omega) h2 h3) ls (lv_sub hl [2, 3, 4, 5, 6, 7, 0] rfl)
            · skip
              refine lv_aload hx hb dX5_isOffered_51 (lv_at hl 0 rfl) ?_
              refine gn2 (v := .int (nI (σ 5 k))) hx hb hts fX5_isOffered_2 hown hK.1 hP (k + 20) 2 (WG_pd hk) (by decide) (hK.2 _ nwf_X5_138 rfl) rfl rfl dX5_isOffered_53 ?_
              refine lv_iload_n hx hb dX5_isOffered_56 rfl (lv_at hl 4 rfl) ?_
              refine lv_icmp_ne (tgt := 62) hx hb dX5_isOffered_57 (by decide) (fun c57 => ?_) (fun c57 => ?_)
              · skip
                obtain ⟨z62, hz62⟩ : ∃ z : Nat, z = k + 1 := ⟨_, rfl⟩
                refine lv_iinc (v := nI z62) (lv' := [(6, .int (nI z62)), (7, .ref (ad 1 k)), (0, .ref (ad 0 0)), (1, .int f), (2, .int t), (3, .int q), (4, .ref (ad 0 2)), (5, .int (nI 8))]) hx hb dX5_isOffered_62 hl (k := 7) rfl (by rw [hz62]; exact nI_add _ 1) (by decide) rfl (fun ls hl => ?_)
                refine lv_goto (tgt := 14) hx hb dX5_isOffered_65 (by decide) ?_
                exact ih14 z62 (by omega) (by omega) (fun j h1 h2 h3 => by by_cases e : j = k; subst e; (first | omega | exact c39 h3.1 | exact c48 h3.2.1 | exact c57 h3.2.2); exact ha j (by omega) h2 h3) ls (lv_sub hl [2, 3, 4, 5, 6, 7, 0] rfl)
              · skip
                refine lv_iconst (v := nI 1) hx hb dX5_isOffered_60 (by decide) ?_
                exact hret dX5_isOffered_61 (pB.t ⟨k, hk, c39, c48, c57⟩)
        · skip
          refine ln_aaldN hx hb hK hP 2 4 rfl rfl (by omega) (by decide) (hof.z hk) dX5_isOffered_25 ?_
          refine lv_astoreN (lv' := [(7, .null), (0, .ref (ad 0 0)), (1, .int f), (2, .int t), (3, .int q), (4, .ref (ad 0 2)), (5, .int (nI 8)), (6, .int (nI k))]) hx hb dX5_isOffered_26 hl (by decide) rfl (fun ls hl => ?_)
          refine lv_aloadN hx hb dX5_isOffered_28 (lv_at hl 0 rfl) ?_
          refine lv_ifnullN (tgt := 62) hx hb dX5_isOffered_30 (by decide) ?_
          obtain ⟨z62, hz62⟩ : ∃ z : Nat, z = k + 1 := ⟨_, rfl⟩
          refine lv_iinc (v := nI z62) (lv' := [(6, .int (nI z62)), (7, .null), (0, .ref (ad 0 0)), (1, .int f), (2, .int t), (3, .int q), (4, .ref (ad 0 2)), (5, .int (nI 8))]) hx hb dX5_isOffered_62 hl (k := 7) rfl (by rw [hz62]; exact nI_add _ 1) (by decide) rfl (fun ls hl => ?_)
          refine lv_goto (tgt := 14) hx hb dX5_isOffered_65 (by decide) ?_
          exact ih14 z62 (by omega) (by omega) (fun j h1 h2 h3 => by by_cases e : j = k; subst e; (first | omega | exact c39 h3.1 | exact c48 h3.2.1 | exact c57 h3.2.2); exact ha j (by omega) h2 h3) ls (lv_sub hl [2, 3, 4, 5, 6, 7, 0] rfl)
  refine lv_iconst (v := nI 0) hx hb dX5_isOffered_11 (by decide) ?_
  refine lv_istore (lv' := [(6, .int (nI 0)), (5, .int (nI 8)), (4, .ref (ad 0 2)), (0, .ref (ad 0 0)), (1, .int f), (2, .int t), (3, .int q)]) hx hb dX5_isOffered_12 hl (by decide) rfl (fun ls hl => ?_)
  exact K14 _ 0 (Nat.lt_succ_self _) (by omega) (fun j h1 => absurd h1 (Nat.not_lt_zero _)) ls (lv_sub hl [3, 4, 5, 6, 2, 1, 0] rfl)
set_option maxHeartbeats 4000000 in
set_option maxRecDepth 100000 in
theorem c_X5_protectedOn (l : Launch) (D : va_G) (cy : Nat → ClassId) (ad : Nat → Nat → Nat) (σ : SF) (er : Int64) (ofd de bo : Nat → Option Nat) (ql : Nat → Nat) (qs : Nat → Nat → Nat) (tv : Nat → Nat) (hof : OF ad σ ofd) {n : Nat} (hI : Iv n σ) (leg cost : Nat) (hleg : leg < 3) (hcost : cost ≤ 3000) : cRO l D cy yX5_protectedOn wsX5_protectedOn rmX5_protectedOn [.ref (ad 0 0), .int (nI leg), .int (nI cost)] (WG ad cy (σ 0 0) (σ 0 3) σ er ofd de bo ql qs tv) (pN (prot σ leg cost)) := by
  refine cRO.of (cc := cX5_protectedOn) (maxL := 8) (by decide) rfl (Nat.le_of_ble_eq_true rfl) (Or.inl rfl) ?_
  intro p e s m args below meth c H Q hx hb hml hown hts hP hK hret ls hl
  refine lv_iconst (v := nI 0) hx hb dX5_protectedOn_0 (by decide) ?_
  refine lv_istore_n (lv' := [(3, .int (nI 0)), (0, .ref (ad 0 0)), (1, .int (nI leg)), (2, .int (nI cost))]) hx hb dX5_protectedOn_1 rfl hl (by decide) rfl (fun ls hl => ?_)
  refine lv_aload_n hx hb dX5_protectedOn_2 rfl (lv_at hl 1 rfl) ?_
  refine gf5 (v := .ref (ad 0 2)) hx hb hts fX5_protectedOn_5 hown hK.1 hP 0 1 rfl (by decide) kX5_protectedOn_3 rfl rfl dX5_protectedOn_3 ?_
  refine lv_astore (lv' := [(4, .ref (ad 0 2)), (3, .int (nI 0)), (0, .ref (ad 0 0)), (1, .int (nI leg)), (2, .int (nI cost))]) hx hb dX5_protectedOn_6 hl (by decide) rfl (fun ls hl => ?_)
  refine lv_aload hx hb dX5_protectedOn_8 (lv_at hl 0 rfl) ?_
  refine ln_alen hx hb hK.1 hP 2 4 rfl rfl dX5_protectedOn_10 ?_
  refine lv_istore (lv' := [(5, .int (nI 8)), (4, .ref (ad 0 2)), (3, .int (nI 0)), (0, .ref (ad 0 0)), (1, .int (nI leg)), (2, .int (nI cost))]) hx hb dX5_protectedOn_11 hl (by decide) rfl (fun ls hl => ?_)
  have K16 : ∀ (n16 : Nat) (k : Nat) (sm : Nat), 8 - k < n16 → (k ≤ 8) → (sm = prS σ leg cost (min k (σ 0 0))) → ∀ ls : Array Slot, lv_has ls 8 [(0, .ref (ad 0 0)), (1, .int (nI leg)), (2, .int (nI cost)), (3, .int (nI sm)), (4, .ref (ad 0 2)), (5, .int (nI 8)), (6, .int (nI k))] → W p l e rmX5_protectedOn s m args below meth c H [] 0 0 Q (F0 m 16 ls []) := by
    intro n16
    induction n16 with
    | zero =>
      intro k sm hfu
      exact absurd hfu (Nat.not_lt_zero _)
    | succ n16 ih16 =>
      intro k sm hfu hk8 hsm ls hl
      have hnp := hI.np
      have hdy := hI.dy
      have hnn := hI.nn
      refine lv_iload hx hb dX5_protectedOn_16 (lv_at hl 6 rfl) ?_
      refine lv_iload hx hb dX5_protectedOn_18 (lv_at hl 5 rfl) ?_
      refine ln_icmp_ge (tgt := 72) hx hb (by omega) (by omega) dX5_protectedOn_20 (by decide) (fun c20 => ?_) (fun c20 => ?_)
      · skip
        refine lv_iload_n hx hb dX5_protectedOn_72 rfl (lv_at hl 3 rfl) ?_
        exact hret dX5_protectedOn_73 (pnE (by rw [hsm]; unfold prot; congr 1; omega))
      · skip
        refine lv_aload hx hb dX5_protectedOn_23 (lv_at hl 4 rfl) ?_
        refine lv_iload hx hb dX5_protectedOn_25 (lv_at hl 6 rfl) ?_
        rcases Nat.lt_or_ge k (σ 0 0) with hk | hk
        · skip
          have hpk := hI.pr k hk
          refine ln_aaldS (b := ad 1 k) hx hb hK hP 2 4 rfl rfl (by omega) (by decide) (hof.s hk) dX5_protectedOn_27 ?_
          refine lv_astore (lv' := [(7, .ref (ad 1 k)), (0, .ref (ad 0 0)), (1, .int (nI leg)), (2, .int (nI cost)), (3, .int (nI sm)), (4, .ref (ad 0 2)), (5, .int (nI 8)), (6, .int (nI k))]) hx hb dX5_protectedOn_28 hl (by decide) rfl (fun ls hl => ?_)
          refine lv_aload hx hb dX5_protectedOn_30 (lv_at hl 0 rfl) ?_
          refine lv_ifnull hx hb dX5_protectedOn_32 ?_
          refine lv_aload hx hb dX5_protectedOn_35 (lv_at hl 0 rfl) ?_
          refine lv_iload_n hx hb dX5_protectedOn_37 rfl (lv_at hl 2 rfl) ?_
          refine ro_calliB (va_runVN (As := [.int (nI leg)]) (rest := []) ⟨hx, hb, hml, hown, hts⟩ (c_X2_covers l D cy (ad 1 k) (ad 2 k) (σ 3 k) (σ 4 k) (σ 5 k) (σ 6 k) (σ 7 k) (σ 8 k) leg (by omega) (by omega) (by omega) H (hP.one (WG_pd hk))) ⟨va_cnB 1 hts gX5_protectedOn_X2_covers_n236 rfl rfl rfl (hK.2 _ nwm_X5_236 rfl) (hts _ (List.mem_of_getElem? (i := 4) rfl)) hdX2_covers.2 ⟨Nat.le_of_ble_eq_true rfl, Nat.le_of_ble_eq_true rfl⟩, hts _ (List.mem_of_getElem? (i := 3) rfl), hts _ (List.mem_of_getElem? (i := 5) rfl)⟩ (ro_preV hK (va_recv hK.1 hP (ci := 2) (q0 := (k + 20)) rfl (WG_pd hk))) rfl rfl hl.1 rfl (lv_room (Nat.le_of_ble_eq_true rfl)) dX5_protectedOn_38 ⟨Nat.le_of_ble_eq_true rfl, Nat.le_of_ble_eq_true rfl⟩) (fun b38 => ?_) (fun b38 => ?_)
          · skip
            refine lv_if_eq (tgt := 66) hx hb dX5_protectedOn_41 (by decide) (fun q => by first | exact absurd q (by decide) | exact absurd (by decide) q) (fun _ => ?_)
            refine lv_aload hx hb dX5_protectedOn_44 (lv_at hl 0 rfl) ?_
            refine gn2 (v := .int (nI (σ 5 k))) hx hb hts fX5_protectedOn_2 hown hK.1 hP (k + 20) 2 (WG_pd hk) (by decide) (hK.2 _ nwf_X5_138 rfl) rfl rfl dX5_protectedOn_46 ?_
            refine lv_iload_n hx hb dX5_protectedOn_49 rfl (lv_at hl 3 rfl) ?_
            refine ln_icmp_le (tgt := 66) hx hb (by omega) (by omega) dX5_protectedOn_50 (by decide) (fun c50 => ?_) (fun c50 => ?_)
            · skip
              obtain ⟨z66, hz66⟩ : ∃ z : Nat, z = k + 1 := ⟨_, rfl⟩
              refine lv_iinc (v := nI z66) (lv' := [(6, .int (nI z66)), (7, .ref (ad 1 k)), (0, .ref (ad 0 0)), (1, .int (nI leg)), (2, .int (nI cost)), (3, .int (nI sm)), (4, .ref (ad 0 2)), (5, .int (nI 8))]) hx hb dX5_protectedOn_66 hl (k := 7) rfl (by rw [hz66]; exact nI_add _ 1) (by decide) rfl (fun ls hl => ?_)
              refine lv_goto (tgt := 16) hx hb dX5_protectedOn_69 (by decide) ?_
              exact ih16 z66 sm (by omega) (by omega) (prS_no hsm (by first | exact Or.inr hk | exact Or.inl (fun z => b38 z.1) | exact Or.inl (fun z => absurd z.2 (by omega))) hz66) ls (lv_sub hl [2, 3, 4, 5, 6, 7, 0] rfl)
            · skip
              refine lv_iload_n hx hb dX5_protectedOn_53 rfl (lv_at hl 4 rfl) ?_
              refine lv_aload hx hb dX5_protectedOn_54 (lv_at hl 0 rfl) ?_
              refine lv_iload_n hx hb dX5_protectedOn_56 rfl (lv_at hl 3 rfl) ?_
              refine lv_aload_n hx hb dX5_protectedOn_57 rfl (lv_at hl 1 rfl) ?_
              refine gf5 (v := .int (nI (σ 0 1))) hx hb hts fX5_protectedOn_5 hown hK.1 hP 0 8 rfl (by decide) kX5_protectedOn_58 rfl rfl dX5_protectedOn_58 ?_
              refine ro_calliN (va_runVN (As := [.int (nI cost), .int (nI (σ 0 1))]) (rest := [.int (nI sm)]) ⟨hx, hb, hml, hown, hts⟩ (c_X2_protectedAgainst l D cy (ad 1 k) (ad 2 k) (σ 3 k) (σ 4 k) (σ 5 k) (σ 6 k) (σ 7 k) (σ 8 k) (tbR σ k) cost (σ 0 1) (by omega) (by omega) (by omega) (fun j => Nat.le_trans (tbR_le hI.tb k j) (by omega)) H (hP.two (WG_pd hk) (WG_tb hk))) ⟨va_cnB 2 hts gX5_protectedOn_X2_protectedAgainst_n239 rfl rfl rfl (hK.2 _ nwm_X5_239 rfl) (hts _ (List.mem_of_getElem? (i := 4) rfl)) hdX2_protectedAgainst.2 ⟨Nat.le_of_ble_eq_true rfl, Nat.le_of_ble_eq_true rfl⟩, hts _ (List.mem_of_getElem? (i := 9) rfl), hts _ (List.mem_of_getElem? (i := 10) rfl)⟩ (ro_preV hK (va_recv hK.1 hP (ci := 2) (q0 := (k + 20)) rfl (WG_pd hk))) rfl rfl hl.1 rfl (lv_room (Nat.le_of_ble_eq_true rfl)) dX5_protectedOn_61 ⟨Nat.le_of_ble_eq_true rfl, Nat.le_of_ble_eq_true rfl⟩) (fun z61 hz61 => ?_)
              refine ln_iadd hx hb dX5_protectedOn_64 (fun z64 hz64 => ?_)
              refine lv_istore_n (lv' := [(3, .int (nI z64)), (7, .ref (ad 1 k)), (0, .ref (ad 0 0)), (1, .int (nI leg)), (2, .int (nI cost)), (4, .ref (ad 0 2)), (5, .int (nI 8)), (6, .int (nI k))]) hx hb dX5_protectedOn_65 rfl hl (by decide) rfl (fun ls hl => ?_)
              obtain ⟨z66, hz66⟩ : ∃ z : Nat, z = k + 1 := ⟨_, rfl⟩
              refine lv_iinc (v := nI z66) (lv' := [(6, .int (nI z66)), (3, .int (nI z64)), (7, .ref (ad 1 k)), (0, .ref (ad 0 0)), (1, .int (nI leg)), (2, .int (nI cost)), (4, .ref (ad 0 2)), (5, .int (nI 8))]) hx hb dX5_protectedOn_66 hl (k := 7) rfl (by rw [hz66]; exact nI_add _ 1) (by decide) rfl (fun ls hl => ?_)
              refine lv_goto (tgt := 16) hx hb dX5_protectedOn_69 (by decide) ?_
              exact ih16 z66 z64 (by omega) (by omega) (prS_in hsm hk ⟨b38, c50⟩ hz61 hz66 hz64) ls (lv_sub hl [3, 4, 5, 1, 6, 7, 0] rfl)
          · skip
            refine lv_if_eq (tgt := 66) hx hb dX5_protectedOn_41 (by decide) (fun _ => ?_) (fun q => by first | exact absurd q (by decide) | exact absurd (by decide) q)
            obtain ⟨z66, hz66⟩ : ∃ z : Nat, z = k + 1 := ⟨_, rfl⟩
            refine lv_iinc (v := nI z66) (lv' := [(6, .int (nI z66)), (7, .ref (ad 1 k)), (0, .ref (ad 0 0)), (1, .int (nI leg)), (2, .int (nI cost)), (3, .int (nI sm)), (4, .ref (ad 0 2)), (5, .int (nI 8))]) hx hb dX5_protectedOn_66 hl (k := 7) rfl (by rw [hz66]; exact nI_add _ 1) (by decide) rfl (fun ls hl => ?_)
            refine lv_goto (tgt := 16) hx hb dX5_protectedOn_69 (by decide) ?_
            exact ih16 z66 sm (by omega) (by omega) (prS_no hsm (by first | exact Or.inr hk | exact Or.inl (fun z => b38 z.1) | exact Or.inl (fun z => absurd z.2 (by omega))) hz66) ls (lv_sub hl [2, 3, 4, 5, 6, 7, 0] rfl)
        · skip
          refine ln_aaldN hx hb hK hP 2 4 rfl rfl (by omega) (by decide) (hof.z hk) dX5_protectedOn_27 ?_
          refine lv_astoreN (lv' := [(7, .null), (0, .ref (ad 0 0)), (1, .int (nI leg)), (2, .int (nI cost)), (3, .int (nI sm)), (4, .ref (ad 0 2)), (5, .int (nI 8)), (6, .int (nI k))]) hx hb dX5_protectedOn_28 hl (by decide) rfl (fun ls hl => ?_)
          refine lv_aloadN hx hb dX5_protectedOn_30 (lv_at hl 0 rfl) ?_
          refine lv_ifnullN (tgt := 66) hx hb dX5_protectedOn_32 (by decide) ?_
          obtain ⟨z66, hz66⟩ : ∃ z : Nat, z = k + 1 := ⟨_, rfl⟩
          refine lv_iinc (v := nI z66) (lv' := [(6, .int (nI z66)), (7, .null), (0, .ref (ad 0 0)), (1, .int (nI leg)), (2, .int (nI cost)), (3, .int (nI sm)), (4, .ref (ad 0 2)), (5, .int (nI 8))]) hx hb dX5_protectedOn_66 hl (k := 7) rfl (by rw [hz66]; exact nI_add _ 1) (by decide) rfl (fun ls hl => ?_)
          refine lv_goto (tgt := 16) hx hb dX5_protectedOn_69 (by decide) ?_
          exact ih16 z66 sm (by omega) (by omega) (prS_no hsm (by first | exact Or.inr hk | exact Or.inl (fun z => b38 z.1) | exact Or.inl (fun z => absurd z.2 (by omega))) hz66) ls (lv_sub hl [2, 3, 4, 5, 6, 7, 0] rfl)
  refine lv_iconst (v := nI 0) hx hb dX5_protectedOn_13 (by decide) ?_
  refine lv_istore (lv' := [(6, .int (nI 0)), (5, .int (nI 8)), (4, .ref (ad 0 2)), (3, .int (nI 0)), (0, .ref (ad 0 0)), (1, .int (nI leg)), (2, .int (nI cost))]) hx hb dX5_protectedOn_14 hl (by decide) rfl (fun ls hl => ?_)
  exact K16 _ 0 0 (Nat.lt_succ_self _) (by omega) (by rw [Nat.zero_min]; rfl) ls (lv_sub hl [4, 5, 6, 3, 2, 1, 0] rfl)
set_option maxHeartbeats 4000000 in
set_option maxRecDepth 100000 in
theorem c_X5_refuse (l : Launch) (D : va_G) (cy : Nat → ClassId) (ad : Nat → Nat → Nat) (σ : SF) (er : Int64) (ofd de bo : Nat → Option Nat) (ql : Nat → Nat) (qs : Nat → Nat → Nat) (tv : Nat → Nat) (w : Nat) (h1 : 1 ≤ w) (h3 : w ≤ 3) : cMI l D cy yX5_refuse wsX5_refuse rmX5_refuse [.ref (ad 0 0), .int (-nI w)] (WG ad cy (σ 0 0) (σ 0 3) σ er ofd de bo ql qs tv) (T := Unit) (fun _ => WG ad cy (σ 0 0) (σ 0 3) ((rfF σ w)) er ofd de bo ql qs tv) (fun r _ => r = -nI w) 0 0 := by
  refine cMI.of (cc := cX5_refuse) (maxL := 2) (by decide) rfl (Nat.le_of_ble_eq_true rfl) (Or.inl rfl) ?_
  intro p e s m args below meth c H0 A Q hx hb hml hown hts hP hK hD hS hA hret ls hl
  obtain ⟨H, locs, hH, hlo⟩ : ∃ (H : Heap) (locs : List Loc), H = H0 ∧ locs = [] := ⟨_, _, rfl, rfl⟩
  rw [← hH] at hP
  rw [show va_S A H0 H0 [] = va_S A H0 H locs by rw [hH, hlo]] at hS
  rw [show W p l e rmX5_refuse s m args below meth c H0 [] 0 0 Q (F0 m 0 ls []) = W p l e rmX5_refuse s m args below meth c H locs 0 0 Q (F0 m 0 ls []) by rw [hH, hlo]]
  rcases (show w = 1 ∨ w = 2 ∨ w = 3 by omega) with rfl | rfl | rfl
  · skip
    refine lv_iload_n hx hb dX5_refuse_0 rfl (lv_at hl 1 rfl) ?_
    refine lv_iconst (v := -1) hx hb dX5_refuse_1 (by decide) ?_
    refine lv_icmp_ne (tgt := 18) hx hb dX5_refuse_2 (by decide) (fun c2 => ?_) (fun c2 => ?_)
    · skip
      exact absurd (by decide) c2
    · skip
      refine lv_aload_n hx hb dX5_refuse_5 rfl (lv_at hl 0 rfl) ?_
      refine lv_dup hx hb dX5_refuse_6 rfl ?_
      refine gf5 (v := .int (nI (σ 15 1))) hx hb hts fX5_refuse_5 hown hK.1 hP 0 10 rfl (by decide) kX5_refuse_7 rfl rfl dX5_refuse_7 ?_
      refine lv_iconst (v := nI 1) hx hb dX5_refuse_10 (by decide) ?_
      refine ln_iadd hx hb dX5_refuse_11 (fun z11 hz11 => ?_)
      refine pf5 hx hb hts fX5_refuse_5 hown hK.1 hP hD hS 0 10 rfl (by decide) kX5_refuse_12 rfl rfl (ty := .int) (by decide) rfl rfl (Nat.le_of_ble_eq_true rfl) dX5_refuse_12 (fun H locs hP hD hS => ?_)
      refine lv_goto (tgt := 47) hx hb dX5_refuse_15 (by decide) ?_
      refine lv_iload_n hx hb dX5_refuse_47 rfl (lv_at hl 1 rfl) ?_
      have hP : va_P D vwCl (WG ad cy (σ 0 0) (σ 0 3) (va_up σ 15 (va_up (σ 15) 1 z11)) er ofd de bo ql qs tv) H := hP
      have hD : va_D A (WG ad cy (σ 0 0) (σ 0 3) (va_up σ 15 (va_up (σ 15) 1 z11)) er ofd de bo ql qs tv) := hD
      rw [hz11] at hP hD
      exact hret () dX5_refuse_48 hP hD hS rfl
  · skip
    refine lv_iload_n hx hb dX5_refuse_0 rfl (lv_at hl 1 rfl) ?_
    refine lv_iconst (v := -1) hx hb dX5_refuse_1 (by decide) ?_
    refine lv_icmp_ne (tgt := 18) hx hb dX5_refuse_2 (by decide) (fun c2 => ?_) (fun c2 => ?_)
    · skip
      refine lv_iload_n hx hb dX5_refuse_18 rfl (lv_at hl 1 rfl) ?_
      refine lv_bipush (v := -2) hx hb dX5_refuse_19 (by decide) ?_
      refine lv_icmp_ne (tgt := 37) hx hb dX5_refuse_21 (by decide) (fun c21 => ?_) (fun c21 => ?_)
      · skip
        exact absurd (by decide) c21
      · skip
        refine lv_aload_n hx hb dX5_refuse_24 rfl (lv_at hl 0 rfl) ?_
        refine lv_dup hx hb dX5_refuse_25 rfl ?_
        refine gf5 (v := .int (nI (σ 15 2))) hx hb hts fX5_refuse_5 hown hK.1 hP 0 11 rfl (by decide) kX5_refuse_26 rfl rfl dX5_refuse_26 ?_
        refine lv_iconst (v := nI 1) hx hb dX5_refuse_29 (by decide) ?_
        refine ln_iadd hx hb dX5_refuse_30 (fun z30 hz30 => ?_)
        refine pf5 hx hb hts fX5_refuse_5 hown hK.1 hP hD hS 0 11 rfl (by decide) kX5_refuse_31 rfl rfl (ty := .int) (by decide) rfl rfl (Nat.le_of_ble_eq_true rfl) dX5_refuse_31 (fun H locs hP hD hS => ?_)
        refine lv_goto (tgt := 47) hx hb dX5_refuse_34 (by decide) ?_
        refine lv_iload_n hx hb dX5_refuse_47 rfl (lv_at hl 1 rfl) ?_
        have hP : va_P D vwCl (WG ad cy (σ 0 0) (σ 0 3) (va_up σ 15 (va_up (σ 15) 2 z30)) er ofd de bo ql qs tv) H := hP
        have hD : va_D A (WG ad cy (σ 0 0) (σ 0 3) (va_up σ 15 (va_up (σ 15) 2 z30)) er ofd de bo ql qs tv) := hD
        rw [hz30] at hP hD
        exact hret () dX5_refuse_48 hP hD hS rfl
    · skip
      exact absurd c2 (by decide)
  · skip
    refine lv_iload_n hx hb dX5_refuse_0 rfl (lv_at hl 1 rfl) ?_
    refine lv_iconst (v := -1) hx hb dX5_refuse_1 (by decide) ?_
    refine lv_icmp_ne (tgt := 18) hx hb dX5_refuse_2 (by decide) (fun c2 => ?_) (fun c2 => ?_)
    · skip
      refine lv_iload_n hx hb dX5_refuse_18 rfl (lv_at hl 1 rfl) ?_
      refine lv_bipush (v := -2) hx hb dX5_refuse_19 (by decide) ?_
      refine lv_icmp_ne (tgt := 37) hx hb dX5_refuse_21 (by decide) (fun c21 => ?_) (fun c21 => ?_)
      · skip
        refine lv_aload_n hx hb dX5_refuse_37 rfl (lv_at hl 0 rfl) ?_
        refine lv_dup hx hb dX5_refuse_38 rfl ?_
        refine gf5 (v := .int (nI (σ 15 3))) hx hb hts fX5_refuse_5 hown hK.1 hP 0 12 rfl (by decide) kX5_refuse_39 rfl rfl dX5_refuse_39 ?_
        refine lv_iconst (v := nI 1) hx hb dX5_refuse_42 (by decide) ?_
        refine ln_iadd hx hb dX5_refuse_43 (fun z43 hz43 => ?_)
        refine pf5 hx hb hts fX5_refuse_5 hown hK.1 hP hD hS 0 12 rfl (by decide) kX5_refuse_44 rfl rfl (ty := .int) (by decide) rfl rfl (Nat.le_of_ble_eq_true rfl) dX5_refuse_44 (fun H locs hP hD hS => ?_)
        refine lv_iload_n hx hb dX5_refuse_47 rfl (lv_at hl 1 rfl) ?_
        have hP : va_P D vwCl (WG ad cy (σ 0 0) (σ 0 3) (va_up σ 15 (va_up (σ 15) 3 z43)) er ofd de bo ql qs tv) H := hP
        have hD : va_D A (WG ad cy (σ 0 0) (σ 0 3) (va_up σ 15 (va_up (σ 15) 3 z43)) er ofd de bo ql qs tv) := hD
        rw [hz43] at hP hD
        exact hret () dX5_refuse_48 hP hD hS rfl
      · skip
        exact absurd c21 (by decide)
    · skip
      exact absurd c2 (by decide)
