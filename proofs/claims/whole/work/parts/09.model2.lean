theorem pnE {a b : Nat} (h : a = b) : pN b (nI a) := congrArg nI h
theorem ip_iff {v : Int32} {n : Nat} (hn : n ≤ 1000) : (nI 0 ≤ v ∧ v ≤ nI n - nI 1) ↔ ∃ k, k < n ∧ v = nI k := by
  constructor
  · rintro ⟨h1, h2⟩
    obtain ⟨j, hj, rfl⟩ := nI_of (x := v) (fun q => absurd (Int32.lt_of_lt_of_le q (by rw [← nI_0]; exact h1)) Int32.lt_irrefl)
    refine ⟨j, ?_, rfl⟩
    have h3 := Int32.le_iff_toInt_le.mp h2
    rw [pk_sub_toInt (by omega) (by omega), nI_toInt hj] at h3
    omega
  · rintro ⟨k, hk, rfl⟩
    refine ⟨nI_le (Nat.zero_le _) (by omega), ?_⟩
    rw [pk_sub (by omega)]
    exact nI_le (by omega) (by omega)
theorem nI_an {x n : Nat} (h : n ≤ x) : nI x + -nI n = nI (x - n) := by rw [show nI x + -nI n = nI x - nI n from (Int32.sub_eq_add_neg _ _).symm, pk_sub h]
def exP (P : Nat → Prop) (f k : Nat) : Prop := ∃ j, f ≤ j ∧ j < k ∧ P j
theorem ex_step {P : Nat → Prop} {f k b b' : Nat} (h : b = 1 ↔ exP P f k) (hf : f ≤ k) (h' : b' = 1 ↔ (b = 1 ∨ P k)) : b' = 1 ↔ exP P f (k + 1) := by
  rw [h', h]
  constructor
  · rintro (⟨j, h1, h2, h3⟩ | h1)
    · exact ⟨j, h1, by omega, h3⟩
    · exact ⟨k, hf, by omega, h1⟩
  · rintro ⟨j, h1, h2, h3⟩
    rcases Nat.lt_or_eq_of_le (Nat.le_of_lt_succ h2) with q | q
    · exact Or.inl ⟨j, h1, q, h3⟩
    · subst q; exact Or.inr h3
theorem ex_0 {P : Nat → Prop} {f : Nat} : (0 : Nat) = 1 ↔ exP P f f := ⟨fun h => absurd h (by decide), fun ⟨j, h1, h2, _⟩ => absurd h1 (by omega)⟩
theorem ex_end {P : Nat → Prop} {f t k b : Nat} (hb : b ≤ 1) (hk : k = t + 1) (h : b = 1 ↔ exP P f k) : pB (∃ j, f ≤ j ∧ j ≤ t ∧ P j) (nI b) := by
  subst hk
  by_cases q : b = 1
  · obtain ⟨j, h1, h2, h3⟩ := h.mp q
    subst q
    exact pB.t ⟨j, h1, by omega, h3⟩
  · rw [show b = 0 by omega]
    exact pB.f (fun ⟨j, h1, h2, h3⟩ => q (h.mpr ⟨j, h1, by omega, h3⟩))
theorem dn_F {yv : Int32} {i N : Nat} (h : yv = nI (N - i) + (-1)) (hi : i ≤ N) (hc : ¬ yv < 0) : ∃ y, yv = nI y ∧ y + i + 1 = N := by
  rcases Nat.lt_or_ge i N with q | q
  · refine ⟨N - i - 1, ?_, by omega⟩
    rw [h, sb_m1 (by omega)]
  · rw [show N - i = 0 by omega] at h
    exact absurd (by rw [h]; decide) hc
theorem dn_T {yv : Int32} {i N : Nat} (h : yv = nI (N - i) + (-1)) (hi : i ≤ N) (hN : N < 2 ^ 31) (hc : yv < 0) : i = N := by
  rcases Nat.lt_or_ge i N with q | q
  · rw [h, sb_m1 (by omega)] at hc
    exact absurd hc (nI_pos (by omega))
  · omega
theorem dn_0 {N : Nat} (h : 0 < N) : nI (N - 1) = nI (N - 0) + (-1) := by rw [Nat.sub_zero, sb_m1 h]
theorem pmU_y {σ : SF} {k cost i y : Nat} (hy : y + i + 1 = 21) (h : cost * σ 0 1 ≤ σ 5 k * cntU σ k (i + 1)) (h2 : pmU σ k cost i < y) : y = pmU σ k cost (i + 1) := by
  unfold pmU
  rw [show 20 - i = y by omega, if_pos ⟨h, h2⟩]
theorem pmU_n {σ : SF} {k cost i y : Nat} (hy : y + i + 1 = 21) (h : ¬ (cost * σ 0 1 ≤ σ 5 k * cntU σ k (i + 1)) ∨ ¬ (pmU σ k cost i < y)) : pmU σ k cost i = pmU σ k cost (i + 1) := by
  conv => rhs; unfold pmU
  rw [show 20 - i = y by omega, if_neg (fun q => h.elim (fun z => z q.1) (fun z => z q.2))]
theorem cntU_le {σ : SF} (h : ∀ j, σ 9 j ≤ 512) (k : Nat) : ∀ i, cntU σ k i ≤ 512 * i := by
  intro i
  induction i with
  | zero => exact Nat.le_refl _
  | succ i ih => unfold cntU; have := h (21 * k + (20 - i)); omega
theorem pmU_le {σ : SF} {k cost : Nat} : ∀ i, pmU σ k cost i ≤ 20 := by
  intro i
  induction i with
  | zero => exact Nat.zero_le _
  | succ i ih => unfold pmU; split <;> omega
theorem prS_le {σ : SF} {leg cost : Nat} : ∀ k, prS σ leg cost k ≤ 20 * k := by
  intro k
  induction k with
  | zero => exact Nat.le_refl _
  | succ k ih => unfold prS; have := pmU_le (σ := σ) (k := k) (cost := cost) 21; split <;> omega
set_option maxHeartbeats 4000000 in
set_option maxRecDepth 100000 in
theorem c_X6_authorisedOf (l : Launch) (D : va_G) (cy : Nat → ClassId) (ad : Nat → Nat) (σ : SF) (er : Int64) (wo : Nat → Nat) (th : Nat) (j : Nat) (hj : j < 3) (h1 : σ 1 j ≤ 10) (h2 : σ 0 2 ≤ 100) : cRO l D cy yX6_authorisedOf wsX6_authorisedOf rmX6_authorisedOf [.ref (ad 0), .int (nI j)] (WM ad cy σ er wo th) (pN (aut σ j)) := by
  refine cRO.of (cc := cX6_authorisedOf) (maxL := 2) (by decide) rfl (Nat.le_of_ble_eq_true rfl) (Or.inl rfl) ?_
  intro p e s m args below meth c H Q hx hb hml hown hts hP hK hret ls hl
  refine lv_aload_n hx hb dX6_authorisedOf_0 rfl (lv_at hl 0 rfl) ?_
  refine mg (v := .ref (ad 1)) hx hb hts fX6_authorisedOf_6 hown hK hP 0 (by decide) kX6_authorisedOf_1 rfl rfl dX6_authorisedOf_1 ?_
  refine lv_iload_n hx hb dX6_authorisedOf_4 rfl (lv_at hl 1 rfl) ?_
  refine ml1 (v := σ 1 j) hx hb hK hP (by omega) rfl dX6_authorisedOf_5 ?_
  refine lv_aload_n hx hb dX6_authorisedOf_6 rfl (lv_at hl 0 rfl) ?_
  refine mg (v := .ref (ad 1)) hx hb hts fX6_authorisedOf_6 hown hK hP 0 (by decide) kX6_authorisedOf_7 rfl rfl dX6_authorisedOf_7 ?_
  refine lv_iload_n hx hb dX6_authorisedOf_10 rfl (lv_at hl 1 rfl) ?_
  refine ml1 (v := σ 1 j) hx hb hK hP (by omega) rfl dX6_authorisedOf_11 ?_
  refine lv_bipush (v := nI 100) hx hb dX6_authorisedOf_12 (by decide) ?_
  refine lv_aload_n hx hb dX6_authorisedOf_14 rfl (lv_at hl 0 rfl) ?_
  refine mg (v := .int (nI (σ 0 2))) hx hb hts fX6_authorisedOf_6 hown hK hP 11 (by decide) kX6_authorisedOf_15 rfl rfl dX6_authorisedOf_15 ?_
  refine ln_isub hx hb (by omega) dX6_authorisedOf_18 (fun z18 hz18 => ?_)
  refine ln_imul hx hb dX6_authorisedOf_19 (fun z19 hz19 => ?_)
  refine lv_bipush (v := nI 100) hx hb dX6_authorisedOf_20 (by decide) ?_
  refine ln_idiv hx hb (by rw [hz19]; have := Nat.mul_le_mul h1 (show z18 ≤ 100 by omega); omega) (by decide) (by decide) dX6_authorisedOf_22 (fun z22 hz22 => ?_)
  refine ln_iadd hx hb dX6_authorisedOf_23 (fun z23 hz23 => ?_)
  exact hret dX6_authorisedOf_24 (pnE (by unfold aut; rw [hz23, hz22, hz19, hz18]))
set_option maxHeartbeats 4000000 in
set_option maxRecDepth 100000 in
theorem c_X6_fails (l : Launch) (D : va_G) (cy : Nat → ClassId) (ad : Nat → Nat) (σ : SF) (er : Int64) (wo : Nat → Nat) (th : Nat) (k : Nat) (hk : k < 2 ^ 31) : cMI l D cy yX6_fails wsX6_fails rmX6_fails [.ref (ad 0), .int (nI k)] (WM ad cy σ er wo th) (T := Unit) (fun _ => WM ad cy σ er wo k) (fun r _ => pB (0 < k) r) 0 0 := by
  refine cMI.of (cc := cX6_fails) (maxL := 2) (by decide) rfl (Nat.le_of_ble_eq_true rfl) (Or.inr ⟨rfl, fun v _ => pB.z v⟩) ?_
  intro p e s m args below meth c H0 A Q hx hb hml hown hts hP hK hD hS hA hret ls hl
  obtain ⟨H, locs, hH, hlo⟩ : ∃ (H : Heap) (locs : List Loc), H = H0 ∧ locs = [] := ⟨_, _, rfl, rfl⟩
  rw [← hH] at hP
  rw [show va_S A H0 H0 [] = va_S A H0 H locs by rw [hH, hlo]] at hS
  rw [show W p l e rmX6_fails s m args below meth c H0 [] 0 0 Q (F0 m 0 ls []) = W p l e rmX6_fails s m args below meth c H locs 0 0 Q (F0 m 0 ls []) by rw [hH, hlo]]
  refine lv_aload_n hx hb dX6_fails_0 rfl (lv_at hl 0 rfl) ?_
  refine lv_iload_n hx hb dX6_fails_1 rfl (lv_at hl 1 rfl) ?_
  refine mp_thrown hx hb hts fX6_fails_6 hown hK hP hD hS kX6_fails_2 dX6_fails_2 (fun H locs hP hD hS => ?_)
  refine lv_iload_n hx hb dX6_fails_5 rfl (lv_at hl 1 rfl) ?_
  refine ln_if_le (tgt := 13) hx hb (by omega) dX6_fails_6 (by decide) (fun c6 => ?_) (fun c6 => ?_)
  · skip
    refine lv_iconst (v := nI 0) hx hb dX6_fails_13 (by decide) ?_
    have hP : va_P D vwCl (WM ad cy σ er wo k) H := hP
    have hD : va_D A (WM ad cy σ er wo k) := hD
    exact hret () dX6_fails_14 hP hD hS (pB.f (by omega))
  · skip
    refine lv_iconst (v := nI 1) hx hb dX6_fails_9 (by decide) ?_
    refine lv_goto (tgt := 14) hx hb dX6_fails_10 (by decide) ?_
    have hP : va_P D vwCl (WM ad cy σ er wo k) H := hP
    have hD : va_D A (WM ad cy σ er wo k) := hD
    exact hret () dX6_fails_14 hP hD hS (pB.t (by omega))
set_option maxHeartbeats 4000000 in
set_option maxRecDepth 100000 in
theorem c_X6_tells (l : Launch) (D : va_G) (cy : Nat → ClassId) (ad : Nat → Nat) (σ : SF) (er : Int64) (wo : Nat → Nat) (th : Nat) (v : Int32) : cMI l D cy yX6_tells wsX6_tells rmX6_tells [.ref (ad 0), .int v] (WM ad cy σ er wo th) (T := Unit) (fun _ => WM ad cy σ er wo 0) (fun r _ => r = v) 0 0 := by
  refine cMI.of (cc := cX6_tells) (maxL := 2) (by decide) rfl (Nat.le_of_ble_eq_true rfl) (Or.inl rfl) ?_
  intro p e s m args below meth c H0 A Q hx hb hml hown hts hP hK hD hS hA hret ls hl
  obtain ⟨H, locs, hH, hlo⟩ : ∃ (H : Heap) (locs : List Loc), H = H0 ∧ locs = [] := ⟨_, _, rfl, rfl⟩
  rw [← hH] at hP
  rw [show va_S A H0 H0 [] = va_S A H0 H locs by rw [hH, hlo]] at hS
  rw [show W p l e rmX6_tells s m args below meth c H0 [] 0 0 Q (F0 m 0 ls []) = W p l e rmX6_tells s m args below meth c H locs 0 0 Q (F0 m 0 ls []) by rw [hH, hlo]]
  refine lv_aload_n hx hb dX6_tells_0 rfl (lv_at hl 0 rfl) ?_
  refine lv_iconst (v := nI 0) hx hb dX6_tells_1 (by decide) ?_
  refine mp_thrown hx hb hts fX6_tells_6 hown hK hP hD hS kX6_tells_2 dX6_tells_2 (fun H locs hP hD hS => ?_)
  refine lv_iload_n hx hb dX6_tells_5 rfl (lv_at hl 1 rfl) ?_
  have hP : va_P D vwCl (WM ad cy σ er wo 0) H := hP
  have hD : va_D A (WM ad cy σ er wo 0) := hD
  exact hret () dX6_tells_6 hP hD hS rfl
set_option maxHeartbeats 4000000 in
set_option maxRecDepth 100000 in
theorem c_X6_isProduct (l : Launch) (D : va_G) (cy : Nat → ClassId) (ad : Nat → Nat) (σ : SF) (er : Int64) (wo : Nat → Nat) (th : Nat) (v : Int32) (h1 : σ 0 0 ≤ 8) : cRO l D cy yX6_isProduct wsX6_isProduct rmX6_isProduct [.ref (ad 0), .int v] (WM ad cy σ er wo th) (pB (∃ k, k < σ 0 0 ∧ v = nI k)) := by
  refine cRO.of (cc := cX6_isProduct) (maxL := 2) (by decide) rfl (Nat.le_of_ble_eq_true rfl) (Or.inr ⟨rfl, pB.z⟩) ?_
  intro p e s m args below meth c H Q hx hb hml hown hts hP hK hret ls hl
  have hE : va_P D vwCl [] H := va_P0
  refine lv_iload_n hx hb dX6_isProduct_0 rfl (lv_at hl 1 rfl) ?_
  refine lv_iconst (v := nI 0) hx hb dX6_isProduct_1 (by decide) ?_
  refine lv_aload_n hx hb dX6_isProduct_2 rfl (lv_at hl 0 rfl) ?_
  refine mg (v := .int (nI (σ 0 0))) hx hb hts fX6_isProduct_6 hown hK hP 2 (by decide) kX6_isProduct_3 rfl rfl dX6_isProduct_3 ?_
  refine lv_iconst (v := nI 1) hx hb dX6_isProduct_6 (by decide) ?_
  refine lv_isub hx hb dX6_isProduct_7 ?_
  refine ro_calliB (va_runS (As := [.int v, .int (nI 0), .int (nI (σ 0 0) - nI 1)]) (rest := []) ⟨hx, hb, hml, hown, hts⟩ (c_X6_isIn l D cy (v) ((nI 0)) ((nI (σ 0 0) - nI 1)) H va_P0) (va_cwS 3 hts gX6_isProduct_X6_isIn rfl rfl rfl hdX6_isIn.2 ⟨Nat.le_of_ble_eq_true rfl, Nat.le_of_ble_eq_true rfl⟩) (ro_pre hK rfl) rfl rfl hl.1 rfl (lv_room (Nat.le_of_ble_eq_true rfl)) dX6_isProduct_8 ⟨Nat.le_of_ble_eq_true rfl, Nat.le_of_ble_eq_true rfl⟩) (fun b8 => ?_) (fun b8 => ?_)
  · skip
    exact hret dX6_isProduct_11 (pB.t ((ip_iff (by omega)).mp b8))
  · skip
    exact hret dX6_isProduct_11 (pB.f (fun q => b8 ((ip_iff (by omega)).mpr q)))
set_option maxHeartbeats 4000000 in
set_option maxRecDepth 100000 in
theorem c_X6_worthOf (l : Launch) (D : va_G) (cy : Nat → ClassId) (ad : Nat → Nat) (σ : SF) (er : Int64) (wo : Nat → Nat) (th : Nat) {n : Nat} (hI : Iv n σ) (x y z : Int32) (u v w : Nat) (hx1 : nI (lft σ 0) + x = nI u) (hy1 : nI (lft σ 1) + y = nI v) (hz0 : nI (lft σ 2) + z = nI w) (hu : u ≤ 11) (hv : v ≤ 11) (hw : w ≤ 11) : cRO l D cy yX6_worthOf wsX6_worthOf rmX6_worthOf [.ref (ad 0), .int x, .int y, .int z] (WM ad cy σ er wo th) (pN (wo (12 * (12 * u + v) + w))) := by
  refine cRO.of (cc := cX6_worthOf) (maxL := 4) (by decide) rfl (Nat.le_of_ble_eq_true rfl) (Or.inl rfl) ?_
  intro p e s m args below meth c H Q hx hb hml hown hts hP hK hret ls hl
  have hE : va_P D vwCl [] H := va_P0
  refine lv_aload_n hx hb dX6_worthOf_0 rfl (lv_at hl 0 rfl) ?_
  refine mg (v := .ref (ad 16)) hx hb hts fX6_worthOf_6 hown hK hP 20 (by decide) kX6_worthOf_1 rfl rfl dX6_worthOf_1 ?_
  refine lv_aload_n hx hb dX6_worthOf_4 rfl (lv_at hl 0 rfl) ?_
  refine lv_iconst (v := nI 0) hx hb dX6_worthOf_5 (by decide) ?_
  refine ro_calliN (va_runV (As := [.int (nI 0)]) (rest := [.ref (ad 16)]) ⟨hx, hb, hml, hown, hts⟩ (c_X6_left l D cy ad σ er wo th 0 (by omega) (hI.se _ (by omega)) (hI.bkle _ (by omega)) H hP) (cwV 1 hts gX6_worthOf_X6_left rfl rfl rfl hdX6_left ⟨Nat.le_of_ble_eq_true rfl, Nat.le_of_ble_eq_true rfl⟩) (ro_preV hK (va_recv hK.1 hP (ci := 6) (q0 := 0) rfl rfl)) rfl rfl hl.1 rfl (lv_room (Nat.le_of_ble_eq_true rfl)) dX6_worthOf_6 ⟨Nat.le_of_ble_eq_true rfl, Nat.le_of_ble_eq_true rfl⟩) (fun z6 hz6 => ?_)
  refine lv_iload_n hx hb dX6_worthOf_9 rfl (lv_at hl 1 rfl) ?_
  refine lv_iadd hx hb dX6_worthOf_10 ?_
  rw [hz6, hx1]
  refine lv_aload_n hx hb dX6_worthOf_11 rfl (lv_at hl 0 rfl) ?_
  refine lv_iconst (v := nI 1) hx hb dX6_worthOf_12 (by decide) ?_
  refine ro_calliN (va_runV (As := [.int (nI 1)]) (rest := [.int (nI u), .ref (ad 16)]) ⟨hx, hb, hml, hown, hts⟩ (c_X6_left l D cy ad σ er wo th 1 (by omega) (hI.se _ (by omega)) (hI.bkle _ (by omega)) H hP) (cwV 1 hts gX6_worthOf_X6_left rfl rfl rfl hdX6_left ⟨Nat.le_of_ble_eq_true rfl, Nat.le_of_ble_eq_true rfl⟩) (ro_preV hK (va_recv hK.1 hP (ci := 6) (q0 := 0) rfl rfl)) rfl rfl hl.1 rfl (lv_room (Nat.le_of_ble_eq_true rfl)) dX6_worthOf_13 ⟨Nat.le_of_ble_eq_true rfl, Nat.le_of_ble_eq_true rfl⟩) (fun z13 hz13 => ?_)
  refine lv_iload_n hx hb dX6_worthOf_16 rfl (lv_at hl 2 rfl) ?_
  refine lv_iadd hx hb dX6_worthOf_17 ?_
  rw [hz13, hy1]
  refine lv_aload_n hx hb dX6_worthOf_18 rfl (lv_at hl 0 rfl) ?_
  refine lv_iconst (v := nI 2) hx hb dX6_worthOf_19 (by decide) ?_
  refine ro_calliN (va_runV (As := [.int (nI 2)]) (rest := [.int (nI v), .int (nI u), .ref (ad 16)]) ⟨hx, hb, hml, hown, hts⟩ (c_X6_left l D cy ad σ er wo th 2 (by omega) (hI.se _ (by omega)) (hI.bkle _ (by omega)) H hP) (cwV 1 hts gX6_worthOf_X6_left rfl rfl rfl hdX6_left ⟨Nat.le_of_ble_eq_true rfl, Nat.le_of_ble_eq_true rfl⟩) (ro_preV hK (va_recv hK.1 hP (ci := 6) (q0 := 0) rfl rfl)) rfl rfl hl.1 rfl (lv_room (Nat.le_of_ble_eq_true rfl)) dX6_worthOf_20 ⟨Nat.le_of_ble_eq_true rfl, Nat.le_of_ble_eq_true rfl⟩) (fun z20 hz20 => ?_)
  refine lv_iload_n hx hb dX6_worthOf_23 rfl (lv_at hl 3 rfl) ?_
  refine lv_iadd hx hb dX6_worthOf_24 ?_
  rw [hz20, hz0]
  refine ro_calliN (va_runS (As := [.int (nI u), .int (nI v), .int (nI w)]) (rest := [.ref (ad 16)]) ⟨hx, hb, hml, hown, hts⟩ (c_X6_place l D cy u v w H va_P0) (va_cwS 3 hts gX6_worthOf_X6_place rfl rfl rfl hdX6_place.2 ⟨Nat.le_of_ble_eq_true rfl, Nat.le_of_ble_eq_true rfl⟩) (ro_pre hK rfl) rfl rfl hl.1 rfl (lv_room (Nat.le_of_ble_eq_true rfl)) dX6_worthOf_25 ⟨Nat.le_of_ble_eq_true rfl, Nat.le_of_ble_eq_true rfl⟩) (fun z25 hz25 => ?_)
  refine ml16 (v := wo z25) hx hb hK hP (by omega) rfl dX6_worthOf_28 ?_
  exact hret dX6_worthOf_29 (pnE (by rw [hz25]))
set_option maxHeartbeats 4000000 in
set_option maxRecDepth 100000 in
theorem c_X6_bidOf (l : Launch) (D : va_G) (cy : Nat → ClassId) (ad : Nat → Nat) (σ : SF) (er : Int64) (wo : Nat → Nat) (th : Nat) {n : Nat} (hI : Iv n σ) (hT : ∀ a b g, a ≤ 11 → b ≤ 11 → g ≤ 11 → wo (12 * (12 * a + b) + g) = wv σ a b g) (j : Nat) (hj : j < 3) : cRO l D cy yX6_bidOf wsX6_bidOf rmX6_bidOf [.ref (ad 0), .int (nI j)] (WM ad cy σ er wo th) (fun r => r = bidI σ j) := by
  refine cRO.of (cc := cX6_bidOf) (maxL := 2) (by decide) rfl (Nat.le_of_ble_eq_true rfl) (Or.inl rfl) ?_
  intro p e s m args below meth c H Q hx hb hml hown hts hP hK hret ls hl
  have hl0 := hI.lf 0 (by decide)
  have hl1 := hI.lf 1 (by decide)
  have hl2 := hI.lf 2 (by decide)
  rcases (show j = 0 ∨ j = 1 ∨ j = 2 by omega) with rfl | rfl | rfl
  · skip
    refine lv_aload_n hx hb dX6_bidOf_0 rfl (lv_at hl 0 rfl) ?_
    refine lv_iload_n hx hb dX6_bidOf_1 rfl (lv_at hl 1 rfl) ?_
    refine lv_if_ne (tgt := 9) hx hb dX6_bidOf_2 (by decide) (fun q => by first | exact absurd q (by decide) | exact absurd (by decide) q) (fun _ => ?_)
    refine lv_iconst (v := nI 1) hx hb dX6_bidOf_5 (by decide) ?_
    refine lv_goto (tgt := 10) hx hb dX6_bidOf_6 (by decide) ?_
    refine lv_iload_n hx hb dX6_bidOf_10 rfl (lv_at hl 1 rfl) ?_
    refine lv_iconst (v := nI 1) hx hb dX6_bidOf_11 (by decide) ?_
    refine lv_icmp_ne (tgt := 19) hx hb dX6_bidOf_12 (by decide) (fun _ => ?_) (fun q => by first | exact absurd q (by decide) | exact absurd (by decide) q)
    refine lv_iconst (v := nI 0) hx hb dX6_bidOf_19 (by decide) ?_
    refine lv_iload_n hx hb dX6_bidOf_20 rfl (lv_at hl 1 rfl) ?_
    refine lv_iconst (v := nI 2) hx hb dX6_bidOf_21 (by decide) ?_
    refine lv_icmp_ne (tgt := 29) hx hb dX6_bidOf_22 (by decide) (fun _ => ?_) (fun q => by first | exact absurd q (by decide) | exact absurd (by decide) q)
    refine lv_iconst (v := nI 0) hx hb dX6_bidOf_29 (by decide) ?_
    refine ro_calliN (va_runV (As := [.int (nI 1), .int (nI 0), .int (nI 0)]) (rest := []) ⟨hx, hb, hml, hown, hts⟩ (c_X6_worthOf l D cy ad σ er wo th hI ((nI 1)) ((nI 0)) ((nI 0)) (lft σ 0 + 1) (lft σ 1 + 0) (lft σ 2 + 0) (nI_add _ _) (nI_add _ _) (nI_add _ _) (by omega) (by omega) (by omega) H hP) (cwV 3 hts gX6_bidOf_X6_worthOf rfl rfl rfl hdX6_worthOf ⟨Nat.le_of_ble_eq_true rfl, Nat.le_of_ble_eq_true rfl⟩) (ro_preV hK (va_recv hK.1 hP (ci := 6) (q0 := 0) rfl rfl)) rfl rfl hl.1 rfl (lv_room (Nat.le_of_ble_eq_true rfl)) dX6_bidOf_30 ⟨Nat.le_of_ble_eq_true rfl, Nat.le_of_ble_eq_true rfl⟩) (fun z30 hz30 => ?_)
    refine lv_aload_n hx hb dX6_bidOf_33 rfl (lv_at hl 0 rfl) ?_
    refine lv_iconst (v := nI 0) hx hb dX6_bidOf_34 (by decide) ?_
    refine lv_iconst (v := nI 0) hx hb dX6_bidOf_35 (by decide) ?_
    refine lv_iconst (v := nI 0) hx hb dX6_bidOf_36 (by decide) ?_
    refine ro_calliN (va_runV (As := [.int (nI 0), .int (nI 0), .int (nI 0)]) (rest := [.int (nI z30)]) ⟨hx, hb, hml, hown, hts⟩ (c_X6_worthOf l D cy ad σ er wo th hI ((nI 0)) ((nI 0)) ((nI 0)) (lft σ 0 + 0) (lft σ 1 + 0) (lft σ 2 + 0) (nI_add _ _) (nI_add _ _) (nI_add _ _) (by omega) (by omega) (by omega) H hP) (cwV 3 hts gX6_bidOf_X6_worthOf rfl rfl rfl hdX6_worthOf ⟨Nat.le_of_ble_eq_true rfl, Nat.le_of_ble_eq_true rfl⟩) (ro_preV hK (va_recv hK.1 hP (ci := 6) (q0 := 0) rfl rfl)) rfl rfl hl.1 rfl (lv_room (Nat.le_of_ble_eq_true rfl)) dX6_bidOf_37 ⟨Nat.le_of_ble_eq_true rfl, Nat.le_of_ble_eq_true rfl⟩) (fun z37 hz37 => ?_)
    refine lv_isub hx hb dX6_bidOf_40 ?_
    exact hret dX6_bidOf_41 (by rw [hz30, hz37, hT _ _ _ (by omega) (by omega) (by omega), hT _ _ _ (by omega) (by omega) (by omega)]; rfl)
  · skip
    refine lv_aload_n hx hb dX6_bidOf_0 rfl (lv_at hl 0 rfl) ?_
    refine lv_iload_n hx hb dX6_bidOf_1 rfl (lv_at hl 1 rfl) ?_
    refine lv_if_ne (tgt := 9) hx hb dX6_bidOf_2 (by decide) (fun _ => ?_) (fun q => by first | exact absurd q (by decide) | exact absurd (by decide) q)
    refine lv_iconst (v := nI 0) hx hb dX6_bidOf_9 (by decide) ?_
    refine lv_iload_n hx hb dX6_bidOf_10 rfl (lv_at hl 1 rfl) ?_
    refine lv_iconst (v := nI 1) hx hb dX6_bidOf_11 (by decide) ?_
    refine lv_icmp_ne (tgt := 19) hx hb dX6_bidOf_12 (by decide) (fun q => by first | exact absurd q (by decide) | exact absurd (by decide) q) (fun _ => ?_)
    refine lv_iconst (v := nI 1) hx hb dX6_bidOf_15 (by decide) ?_
    refine lv_goto (tgt := 20) hx hb dX6_bidOf_16 (by decide) ?_
    refine lv_iload_n hx hb dX6_bidOf_20 rfl (lv_at hl 1 rfl) ?_
    refine lv_iconst (v := nI 2) hx hb dX6_bidOf_21 (by decide) ?_
    refine lv_icmp_ne (tgt := 29) hx hb dX6_bidOf_22 (by decide) (fun _ => ?_) (fun q => by first | exact absurd q (by decide) | exact absurd (by decide) q)
    refine lv_iconst (v := nI 0) hx hb dX6_bidOf_29 (by decide) ?_
    refine ro_calliN (va_runV (As := [.int (nI 0), .int (nI 1), .int (nI 0)]) (rest := []) ⟨hx, hb, hml, hown, hts⟩ (c_X6_worthOf l D cy ad σ er wo th hI ((nI 0)) ((nI 1)) ((nI 0)) (lft σ 0 + 0) (lft σ 1 + 1) (lft σ 2 + 0) (nI_add _ _) (nI_add _ _) (nI_add _ _) (by omega) (by omega) (by omega) H hP) (cwV 3 hts gX6_bidOf_X6_worthOf rfl rfl rfl hdX6_worthOf ⟨Nat.le_of_ble_eq_true rfl, Nat.le_of_ble_eq_true rfl⟩) (ro_preV hK (va_recv hK.1 hP (ci := 6) (q0 := 0) rfl rfl)) rfl rfl hl.1 rfl (lv_room (Nat.le_of_ble_eq_true rfl)) dX6_bidOf_30 ⟨Nat.le_of_ble_eq_true rfl, Nat.le_of_ble_eq_true rfl⟩) (fun z30 hz30 => ?_)
    refine lv_aload_n hx hb dX6_bidOf_33 rfl (lv_at hl 0 rfl) ?_
    refine lv_iconst (v := nI 0) hx hb dX6_bidOf_34 (by decide) ?_
    refine lv_iconst (v := nI 0) hx hb dX6_bidOf_35 (by decide) ?_
    refine lv_iconst (v := nI 0) hx hb dX6_bidOf_36 (by decide) ?_
    refine ro_calliN (va_runV (As := [.int (nI 0), .int (nI 0), .int (nI 0)]) (rest := [.int (nI z30)]) ⟨hx, hb, hml, hown, hts⟩ (c_X6_worthOf l D cy ad σ er wo th hI ((nI 0)) ((nI 0)) ((nI 0)) (lft σ 0 + 0) (lft σ 1 + 0) (lft σ 2 + 0) (nI_add _ _) (nI_add _ _) (nI_add _ _) (by omega) (by omega) (by omega) H hP) (cwV 3 hts gX6_bidOf_X6_worthOf rfl rfl rfl hdX6_worthOf ⟨Nat.le_of_ble_eq_true rfl, Nat.le_of_ble_eq_true rfl⟩) (ro_preV hK (va_recv hK.1 hP (ci := 6) (q0 := 0) rfl rfl)) rfl rfl hl.1 rfl (lv_room (Nat.le_of_ble_eq_true rfl)) dX6_bidOf_37 ⟨Nat.le_of_ble_eq_true rfl, Nat.le_of_ble_eq_true rfl⟩) (fun z37 hz37 => ?_)
    refine lv_isub hx hb dX6_bidOf_40 ?_
    exact hret dX6_bidOf_41 (by rw [hz30, hz37, hT _ _ _ (by omega) (by omega) (by omega), hT _ _ _ (by omega) (by omega) (by omega)]; rfl)
  · skip
    refine lv_aload_n hx hb dX6_bidOf_0 rfl (lv_at hl 0 rfl) ?_
    refine lv_iload_n hx hb dX6_bidOf_1 rfl (lv_at hl 1 rfl) ?_
    refine lv_if_ne (tgt := 9) hx hb dX6_bidOf_2 (by decide) (fun _ => ?_) (fun q => by first | exact absurd q (by decide) | exact absurd (by decide) q)
    refine lv_iconst (v := nI 0) hx hb dX6_bidOf_9 (by decide) ?_
    refine lv_iload_n hx hb dX6_bidOf_10 rfl (lv_at hl 1 rfl) ?_
    refine lv_iconst (v := nI 1) hx hb dX6_bidOf_11 (by decide) ?_
    refine lv_icmp_ne (tgt := 19) hx hb dX6_bidOf_12 (by decide) (fun _ => ?_) (fun q => by first | exact absurd q (by decide) | exact absurd (by decide) q)
    refine lv_iconst (v := nI 0) hx hb dX6_bidOf_19 (by decide) ?_
    refine lv_iload_n hx hb dX6_bidOf_20 rfl (lv_at hl 1 rfl) ?_
    refine lv_iconst (v := nI 2) hx hb dX6_bidOf_21 (by decide) ?_
    refine lv_icmp_ne (tgt := 29) hx hb dX6_bidOf_22 (by decide) (fun q => by first | exact absurd q (by decide) | exact absurd (by decide) q) (fun _ => ?_)
    refine lv_iconst (v := nI 1) hx hb dX6_bidOf_25 (by decide) ?_
    refine lv_goto (tgt := 30) hx hb dX6_bidOf_26 (by decide) ?_
    refine ro_calliN (va_runV (As := [.int (nI 0), .int (nI 0), .int (nI 1)]) (rest := []) ⟨hx, hb, hml, hown, hts⟩ (c_X6_worthOf l D cy ad σ er wo th hI ((nI 0)) ((nI 0)) ((nI 1)) (lft σ 0 + 0) (lft σ 1 + 0) (lft σ 2 + 1) (nI_add _ _) (nI_add _ _) (nI_add _ _) (by omega) (by omega) (by omega) H hP) (cwV 3 hts gX6_bidOf_X6_worthOf rfl rfl rfl hdX6_worthOf ⟨Nat.le_of_ble_eq_true rfl, Nat.le_of_ble_eq_true rfl⟩) (ro_preV hK (va_recv hK.1 hP (ci := 6) (q0 := 0) rfl rfl)) rfl rfl hl.1 rfl (lv_room (Nat.le_of_ble_eq_true rfl)) dX6_bidOf_30 ⟨Nat.le_of_ble_eq_true rfl, Nat.le_of_ble_eq_true rfl⟩) (fun z30 hz30 => ?_)
    refine lv_aload_n hx hb dX6_bidOf_33 rfl (lv_at hl 0 rfl) ?_
    refine lv_iconst (v := nI 0) hx hb dX6_bidOf_34 (by decide) ?_
    refine lv_iconst (v := nI 0) hx hb dX6_bidOf_35 (by decide) ?_
    refine lv_iconst (v := nI 0) hx hb dX6_bidOf_36 (by decide) ?_
    refine ro_calliN (va_runV (As := [.int (nI 0), .int (nI 0), .int (nI 0)]) (rest := [.int (nI z30)]) ⟨hx, hb, hml, hown, hts⟩ (c_X6_worthOf l D cy ad σ er wo th hI ((nI 0)) ((nI 0)) ((nI 0)) (lft σ 0 + 0) (lft σ 1 + 0) (lft σ 2 + 0) (nI_add _ _) (nI_add _ _) (nI_add _ _) (by omega) (by omega) (by omega) H hP) (cwV 3 hts gX6_bidOf_X6_worthOf rfl rfl rfl hdX6_worthOf ⟨Nat.le_of_ble_eq_true rfl, Nat.le_of_ble_eq_true rfl⟩) (ro_preV hK (va_recv hK.1 hP (ci := 6) (q0 := 0) rfl rfl)) rfl rfl hl.1 rfl (lv_room (Nat.le_of_ble_eq_true rfl)) dX6_bidOf_37 ⟨Nat.le_of_ble_eq_true rfl, Nat.le_of_ble_eq_true rfl⟩) (fun z37 hz37 => ?_)
    refine lv_isub hx hb dX6_bidOf_40 ?_
    exact hret dX6_bidOf_41 (by rw [hz30, hz37, hT _ _ _ (by omega) (by omega) (by omega), hT _ _ _ (by omega) (by omega) (by omega)]; rfl)
set_option maxHeartbeats 4000000 in
set_option maxRecDepth 100000 in
theorem c_X6_displaces (l : Launch) (D : va_G) (cy : Nat → ClassId) (ad : Nat → Nat) (σ : SF) (er : Int64) (wo : Nat → Nat) (th : Nat) {n : Nat} (hI : Iv n σ) (hT : ∀ a b g, a ≤ 11 → b ≤ 11 → g ≤ 11 → wo (12 * (12 * a + b) + g) = wv σ a b g) (f t n1 : Nat) (hft : f ≤ t) (ht2 : t ≤ 2) (hn1 : n1 ≤ 10) (hle : ∀ j, f ≤ j → j ≤ t → n1 ≤ lft σ j) : cRO l D cy yX6_displaces wsX6_displaces rmX6_displaces [.ref (ad 0), .int (nI f), .int (nI t), .int (nI n1)] (WM ad cy σ er wo th) (fun r => r = disI σ f t n1) := by
  refine cRO.of (cc := cX6_displaces) (maxL := 4) (by decide) rfl (Nat.le_of_ble_eq_true rfl) (Or.inl rfl) ?_
  intro p e s m args below meth c H Q hx hb hml hown hts hP hK hret ls hl
  have hl0 := hI.lf 0 (by decide)
  have hl1 := hI.lf 1 (by decide)
  have hl2 := hI.lf 2 (by decide)
  have hE : va_P D vwCl [] H := va_P0
  rcases (show (f = 0 ∧ t = 0) ∨ (f = 0 ∧ t = 1) ∨ (f = 0 ∧ t = 2) ∨ (f = 1 ∧ t = 1) ∨ (f = 1 ∧ t = 2) ∨ (f = 2 ∧ t = 2) by omega) with ⟨rfl, rfl⟩ | ⟨rfl, rfl⟩ | ⟨rfl, rfl⟩ | ⟨rfl, rfl⟩ | ⟨rfl, rfl⟩ | ⟨rfl, rfl⟩
  · skip
    refine lv_aload_n hx hb dX6_displaces_0 rfl (lv_at hl 0 rfl) ?_
    refine lv_iconst (v := nI 0) hx hb dX6_displaces_1 (by decide) ?_
    refine lv_iconst (v := nI 0) hx hb dX6_displaces_2 (by decide) ?_
    refine lv_iconst (v := nI 0) hx hb dX6_displaces_3 (by decide) ?_
    refine ro_calliN (va_runV (As := [.int (nI 0), .int (nI 0), .int (nI 0)]) (rest := []) ⟨hx, hb, hml, hown, hts⟩ (c_X6_worthOf l D cy ad σ er wo th hI ((nI 0)) ((nI 0)) ((nI 0)) (lft σ 0 + 0) (lft σ 1 + 0) (lft σ 2 + 0) (nI_add _ _) (nI_add _ _) (nI_add _ _) (by omega) (by omega) (by omega) H hP) (cwV 3 hts gX6_displaces_X6_worthOf rfl rfl rfl hdX6_worthOf ⟨Nat.le_of_ble_eq_true rfl, Nat.le_of_ble_eq_true rfl⟩) (ro_preV hK (va_recv hK.1 hP (ci := 6) (q0 := 0) rfl rfl)) rfl rfl hl.1 rfl (lv_room (Nat.le_of_ble_eq_true rfl)) dX6_displaces_4 ⟨Nat.le_of_ble_eq_true rfl, Nat.le_of_ble_eq_true rfl⟩) (fun z4 hz4 => ?_)
    refine lv_aload_n hx hb dX6_displaces_7 rfl (lv_at hl 0 rfl) ?_
    refine lv_iconst (v := nI 0) hx hb dX6_displaces_8 (by decide) ?_
    refine lv_iload_n hx hb dX6_displaces_9 rfl (lv_at hl 1 rfl) ?_
    refine lv_iload_n hx hb dX6_displaces_10 rfl (lv_at hl 2 rfl) ?_
    refine ro_calliB (va_runS (As := [.int (nI 0), .int (nI 0), .int (nI 0)]) (rest := [.ref (ad 0), .int (nI z4)]) ⟨hx, hb, hml, hown, hts⟩ (c_X6_isIn l D cy ((nI 0)) ((nI 0)) ((nI 0)) H va_P0) (va_cwS 3 hts gX6_displaces_X6_isIn rfl rfl rfl hdX6_isIn.2 ⟨Nat.le_of_ble_eq_true rfl, Nat.le_of_ble_eq_true rfl⟩) (ro_pre hK rfl) rfl rfl hl.1 rfl (lv_room (Nat.le_of_ble_eq_true rfl)) dX6_displaces_11 ⟨Nat.le_of_ble_eq_true rfl, Nat.le_of_ble_eq_true rfl⟩) (fun b11 => ?_) (fun b11 => ?_)
    · skip
      refine lv_if_eq (tgt := 22) hx hb dX6_displaces_14 (by decide) (fun q => by first | exact absurd q (by decide) | exact absurd (by decide) q) (fun _ => ?_)
      refine lv_iload_n hx hb dX6_displaces_17 rfl (lv_at hl 3 rfl) ?_
      refine lv_ineg hx hb dX6_displaces_18 ?_
      refine lv_goto (tgt := 23) hx hb dX6_displaces_19 (by decide) ?_
      refine lv_iconst (v := nI 1) hx hb dX6_displaces_23 (by decide) ?_
      refine lv_iload_n hx hb dX6_displaces_24 rfl (lv_at hl 1 rfl) ?_
      refine lv_iload_n hx hb dX6_displaces_25 rfl (lv_at hl 2 rfl) ?_
      refine ro_calliB (va_runS (As := [.int (nI 1), .int (nI 0), .int (nI 0)]) (rest := [.int (-(nI n1)), .ref (ad 0), .int (nI z4)]) ⟨hx, hb, hml, hown, hts⟩ (c_X6_isIn l D cy ((nI 1)) ((nI 0)) ((nI 0)) H va_P0) (va_cwS 3 hts gX6_displaces_X6_isIn rfl rfl rfl hdX6_isIn.2 ⟨Nat.le_of_ble_eq_true rfl, Nat.le_of_ble_eq_true rfl⟩) (ro_pre hK rfl) rfl rfl hl.1 rfl (lv_room (Nat.le_of_ble_eq_true rfl)) dX6_displaces_26 ⟨Nat.le_of_ble_eq_true rfl, Nat.le_of_ble_eq_true rfl⟩) (fun b26 => ?_) (fun b26 => ?_)
      · skip
        exact absurd b26 (by decide)
      · skip
        refine lv_if_eq (tgt := 37) hx hb dX6_displaces_29 (by decide) (fun _ => ?_) (fun q => by first | exact absurd q (by decide) | exact absurd (by decide) q)
        refine lv_iconst (v := nI 0) hx hb dX6_displaces_37 (by decide) ?_
        refine lv_iconst (v := nI 2) hx hb dX6_displaces_38 (by decide) ?_
        refine lv_iload_n hx hb dX6_displaces_39 rfl (lv_at hl 1 rfl) ?_
        refine lv_iload_n hx hb dX6_displaces_40 rfl (lv_at hl 2 rfl) ?_
        refine ro_calliB (va_runS (As := [.int (nI 2), .int (nI 0), .int (nI 0)]) (rest := [.int (nI 0), .int (-(nI n1)), .ref (ad 0), .int (nI z4)]) ⟨hx, hb, hml, hown, hts⟩ (c_X6_isIn l D cy ((nI 2)) ((nI 0)) ((nI 0)) H va_P0) (va_cwS 3 hts gX6_displaces_X6_isIn rfl rfl rfl hdX6_isIn.2 ⟨Nat.le_of_ble_eq_true rfl, Nat.le_of_ble_eq_true rfl⟩) (ro_pre hK rfl) rfl rfl hl.1 rfl (lv_room (Nat.le_of_ble_eq_true rfl)) dX6_displaces_41 ⟨Nat.le_of_ble_eq_true rfl, Nat.le_of_ble_eq_true rfl⟩) (fun b41 => ?_) (fun b41 => ?_)
        · skip
          exact absurd b41 (by decide)
        · skip
          refine lv_if_eq (tgt := 52) hx hb dX6_displaces_44 (by decide) (fun _ => ?_) (fun q => by first | exact absurd q (by decide) | exact absurd (by decide) q)
          refine lv_iconst (v := nI 0) hx hb dX6_displaces_52 (by decide) ?_
          refine ro_calliN (va_runV (As := [.int (-(nI n1)), .int (nI 0), .int (nI 0)]) (rest := [.int (nI z4)]) ⟨hx, hb, hml, hown, hts⟩ (c_X6_worthOf l D cy ad σ er wo th hI ((-(nI n1))) ((nI 0)) ((nI 0)) (lft σ 0 - n1) (lft σ 1 + 0) (lft σ 2 + 0) (nI_an (by exact hle 0 (by decide) (by decide))) (nI_add _ _) (nI_add _ _) (by omega) (by omega) (by omega) H hP) (cwV 3 hts gX6_displaces_X6_worthOf rfl rfl rfl hdX6_worthOf ⟨Nat.le_of_ble_eq_true rfl, Nat.le_of_ble_eq_true rfl⟩) (ro_preV hK (va_recv hK.1 hP (ci := 6) (q0 := 0) rfl rfl)) rfl rfl hl.1 rfl (lv_room (Nat.le_of_ble_eq_true rfl)) dX6_displaces_53 ⟨Nat.le_of_ble_eq_true rfl, Nat.le_of_ble_eq_true rfl⟩) (fun z53 hz53 => ?_)
          refine lv_isub hx hb dX6_displaces_56 ?_
          exact hret dX6_displaces_57 (by rw [hz4, hz53, hT _ _ _ (by omega) (by omega) (by omega), hT _ _ _ (by omega) (by omega) (by omega)]; rfl)
    · skip
      exact absurd (by decide) b11
  · skip
    refine lv_aload_n hx hb dX6_displaces_0 rfl (lv_at hl 0 rfl) ?_
    refine lv_iconst (v := nI 0) hx hb dX6_displaces_1 (by decide) ?_
    refine lv_iconst (v := nI 0) hx hb dX6_displaces_2 (by decide) ?_
    refine lv_iconst (v := nI 0) hx hb dX6_displaces_3 (by decide) ?_
    refine ro_calliN (va_runV (As := [.int (nI 0), .int (nI 0), .int (nI 0)]) (rest := []) ⟨hx, hb, hml, hown, hts⟩ (c_X6_worthOf l D cy ad σ er wo th hI ((nI 0)) ((nI 0)) ((nI 0)) (lft σ 0 + 0) (lft σ 1 + 0) (lft σ 2 + 0) (nI_add _ _) (nI_add _ _) (nI_add _ _) (by omega) (by omega) (by omega) H hP) (cwV 3 hts gX6_displaces_X6_worthOf rfl rfl rfl hdX6_worthOf ⟨Nat.le_of_ble_eq_true rfl, Nat.le_of_ble_eq_true rfl⟩) (ro_preV hK (va_recv hK.1 hP (ci := 6) (q0 := 0) rfl rfl)) rfl rfl hl.1 rfl (lv_room (Nat.le_of_ble_eq_true rfl)) dX6_displaces_4 ⟨Nat.le_of_ble_eq_true rfl, Nat.le_of_ble_eq_true rfl⟩) (fun z4 hz4 => ?_)
    refine lv_aload_n hx hb dX6_displaces_7 rfl (lv_at hl 0 rfl) ?_
    refine lv_iconst (v := nI 0) hx hb dX6_displaces_8 (by decide) ?_
    refine lv_iload_n hx hb dX6_displaces_9 rfl (lv_at hl 1 rfl) ?_
    refine lv_iload_n hx hb dX6_displaces_10 rfl (lv_at hl 2 rfl) ?_
    refine ro_calliB (va_runS (As := [.int (nI 0), .int (nI 0), .int (nI 1)]) (rest := [.ref (ad 0), .int (nI z4)]) ⟨hx, hb, hml, hown, hts⟩ (c_X6_isIn l D cy ((nI 0)) ((nI 0)) ((nI 1)) H va_P0) (va_cwS 3 hts gX6_displaces_X6_isIn rfl rfl rfl hdX6_isIn.2 ⟨Nat.le_of_ble_eq_true rfl, Nat.le_of_ble_eq_true rfl⟩) (ro_pre hK rfl) rfl rfl hl.1 rfl (lv_room (Nat.le_of_ble_eq_true rfl)) dX6_displaces_11 ⟨Nat.le_of_ble_eq_true rfl, Nat.le_of_ble_eq_true rfl⟩) (fun b11 => ?_) (fun b11 => ?_)
    · skip
      refine lv_if_eq (tgt := 22) hx hb dX6_displaces_14 (by decide) (fun q => by first | exact absurd q (by decide) | exact absurd (by decide) q) (fun _ => ?_)
      refine lv_iload_n hx hb dX6_displaces_17 rfl (lv_at hl 3 rfl) ?_
      refine lv_ineg hx hb dX6_displaces_18 ?_
      refine lv_goto (tgt := 23) hx hb dX6_displaces_19 (by decide) ?_
      refine lv_iconst (v := nI 1) hx hb dX6_displaces_23 (by decide) ?_
      refine lv_iload_n hx hb dX6_displaces_24 rfl (lv_at hl 1 rfl) ?_
      refine lv_iload_n hx hb dX6_displaces_25 rfl (lv_at hl 2 rfl) ?_
      refine ro_calliB (va_runS (As := [.int (nI 1), .int (nI 0), .int (nI 1)]) (rest := [.int (-(nI n1)), .ref (ad 0), .int (nI z4)]) ⟨hx, hb, hml, hown, hts⟩ (c_X6_isIn l D cy ((nI 1)) ((nI 0)) ((nI 1)) H va_P0) (va_cwS 3 hts gX6_displaces_X6_isIn rfl rfl rfl hdX6_isIn.2 ⟨Nat.le_of_ble_eq_true rfl, Nat.le_of_ble_eq_true rfl⟩) (ro_pre hK rfl) rfl rfl hl.1 rfl (lv_room (Nat.le_of_ble_eq_true rfl)) dX6_displaces_26 ⟨Nat.le_of_ble_eq_true rfl, Nat.le_of_ble_eq_true rfl⟩) (fun b26 => ?_) (fun b26 => ?_)
      · skip
        refine lv_if_eq (tgt := 37) hx hb dX6_displaces_29 (by decide) (fun q => by first | exact absurd q (by decide) | exact absurd (by decide) q) (fun _ => ?_)
        refine lv_iload_n hx hb dX6_displaces_32 rfl (lv_at hl 3 rfl) ?_
        refine lv_ineg hx hb dX6_displaces_33 ?_
        refine lv_goto (tgt := 38) hx hb dX6_displaces_34 (by decide) ?_
        refine lv_iconst (v := nI 2) hx hb dX6_displaces_38 (by decide) ?_
        refine lv_iload_n hx hb dX6_displaces_39 rfl (lv_at hl 1 rfl) ?_
        refine lv_iload_n hx hb dX6_displaces_40 rfl (lv_at hl 2 rfl) ?_
        refine ro_calliB (va_runS (As := [.int (nI 2), .int (nI 0), .int (nI 1)]) (rest := [.int (-(nI n1)), .int (-(nI n1)), .ref (ad 0), .int (nI z4)]) ⟨hx, hb, hml, hown, hts⟩ (c_X6_isIn l D cy ((nI 2)) ((nI 0)) ((nI 1)) H va_P0) (va_cwS 3 hts gX6_displaces_X6_isIn rfl rfl rfl hdX6_isIn.2 ⟨Nat.le_of_ble_eq_true rfl, Nat.le_of_ble_eq_true rfl⟩) (ro_pre hK rfl) rfl rfl hl.1 rfl (lv_room (Nat.le_of_ble_eq_true rfl)) dX6_displaces_41 ⟨Nat.le_of_ble_eq_true rfl, Nat.le_of_ble_eq_true rfl⟩) (fun b41 => ?_) (fun b41 => ?_)
        · skip
          exact absurd b41 (by decide)
        · skip
          refine lv_if_eq (tgt := 52) hx hb dX6_displaces_44 (by decide) (fun _ => ?_) (fun q => by first | exact absurd q (by decide) | exact absurd (by decide) q)
          refine lv_iconst (v := nI 0) hx hb dX6_displaces_52 (by decide) ?_
          refine ro_calliN (va_runV (As := [.int (-(nI n1)), .int (-(nI n1)), .int (nI 0)]) (rest := [.int (nI z4)]) ⟨hx, hb, hml, hown, hts⟩ (c_X6_worthOf l D cy ad σ er wo th hI ((-(nI n1))) ((-(nI n1))) ((nI 0)) (lft σ 0 - n1) (lft σ 1 - n1) (lft σ 2 + 0) (nI_an (by exact hle 0 (by decide) (by decide))) (nI_an (by exact hle 1 (by decide) (by decide))) (nI_add _ _) (by omega) (by omega) (by omega) H hP) (cwV 3 hts gX6_displaces_X6_worthOf rfl rfl rfl hdX6_worthOf ⟨Nat.le_of_ble_eq_true rfl, Nat.le_of_ble_eq_true rfl⟩) (ro_preV hK (va_recv hK.1 hP (ci := 6) (q0 := 0) rfl rfl)) rfl rfl hl.1 rfl (lv_room (Nat.le_of_ble_eq_true rfl)) dX6_displaces_53 ⟨Nat.le_of_ble_eq_true rfl, Nat.le_of_ble_eq_true rfl⟩) (fun z53 hz53 => ?_)
          refine lv_isub hx hb dX6_displaces_56 ?_
          exact hret dX6_displaces_57 (by rw [hz4, hz53, hT _ _ _ (by omega) (by omega) (by omega), hT _ _ _ (by omega) (by omega) (by omega)]; rfl)
      · skip
        exact absurd (by decide) b26
    · skip
      exact absurd (by decide) b11
  · skip
    refine lv_aload_n hx hb dX6_displaces_0 rfl (lv_at hl 0 rfl) ?_
    refine lv_iconst (v := nI 0) hx hb dX6_displaces_1 (by decide) ?_
    refine lv_iconst (v := nI 0) hx hb dX6_displaces_2 (by decide) ?_
    refine lv_iconst (v := nI 0) hx hb dX6_displaces_3 (by decide) ?_
    refine ro_calliN (va_runV (As := [.int (nI 0), .int (nI 0), .int (nI 0)]) (rest := []) ⟨hx, hb, hml, hown, hts⟩ (c_X6_worthOf l D cy ad σ er wo th hI ((nI 0)) ((nI 0)) ((nI 0)) (lft σ 0 + 0) (lft σ 1 + 0) (lft σ 2 + 0) (nI_add _ _) (nI_add _ _) (nI_add _ _) (by omega) (by omega) (by omega) H hP) (cwV 3 hts gX6_displaces_X6_worthOf rfl rfl rfl hdX6_worthOf ⟨Nat.le_of_ble_eq_true rfl, Nat.le_of_ble_eq_true rfl⟩) (ro_preV hK (va_recv hK.1 hP (ci := 6) (q0 := 0) rfl rfl)) rfl rfl hl.1 rfl (lv_room (Nat.le_of_ble_eq_true rfl)) dX6_displaces_4 ⟨Nat.le_of_ble_eq_true rfl, Nat.le_of_ble_eq_true rfl⟩) (fun z4 hz4 => ?_)
    refine lv_aload_n hx hb dX6_displaces_7 rfl (lv_at hl 0 rfl) ?_
    refine lv_iconst (v := nI 0) hx hb dX6_displaces_8 (by decide) ?_
    refine lv_iload_n hx hb dX6_displaces_9 rfl (lv_at hl 1 rfl) ?_
    refine lv_iload_n hx hb dX6_displaces_10 rfl (lv_at hl 2 rfl) ?_
    refine ro_calliB (va_runS (As := [.int (nI 0), .int (nI 0), .int (nI 2)]) (rest := [.ref (ad 0), .int (nI z4)]) ⟨hx, hb, hml, hown, hts⟩ (c_X6_isIn l D cy ((nI 0)) ((nI 0)) ((nI 2)) H va_P0) (va_cwS 3 hts gX6_displaces_X6_isIn rfl rfl rfl hdX6_isIn.2 ⟨Nat.le_of_ble_eq_true rfl, Nat.le_of_ble_eq_true rfl⟩) (ro_pre hK rfl) rfl rfl hl.1 rfl (lv_room (Nat.le_of_ble_eq_true rfl)) dX6_displaces_11 ⟨Nat.le_of_ble_eq_true rfl, Nat.le_of_ble_eq_true rfl⟩) (fun b11 => ?_) (fun b11 => ?_)
    · skip
      refine lv_if_eq (tgt := 22) hx hb dX6_displaces_14 (by decide) (fun q => by first | exact absurd q (by decide) | exact absurd (by decide) q) (fun _ => ?_)
      refine lv_iload_n hx hb dX6_displaces_17 rfl (lv_at hl 3 rfl) ?_
      refine lv_ineg hx hb dX6_displaces_18 ?_
      refine lv_goto (tgt := 23) hx hb dX6_displaces_19 (by decide) ?_
      refine lv_iconst (v := nI 1) hx hb dX6_displaces_23 (by decide) ?_
      refine lv_iload_n hx hb dX6_displaces_24 rfl (lv_at hl 1 rfl) ?_
      refine lv_iload_n hx hb dX6_displaces_25 rfl (lv_at hl 2 rfl) ?_
      refine ro_calliB (va_runS (As := [.int (nI 1), .int (nI 0), .int (nI 2)]) (rest := [.int (-(nI n1)), .ref (ad 0), .int (nI z4)]) ⟨hx, hb, hml, hown, hts⟩ (c_X6_isIn l D cy ((nI 1)) ((nI 0)) ((nI 2)) H va_P0) (va_cwS 3 hts gX6_displaces_X6_isIn rfl rfl rfl hdX6_isIn.2 ⟨Nat.le_of_ble_eq_true rfl, Nat.le_of_ble_eq_true rfl⟩) (ro_pre hK rfl) rfl rfl hl.1 rfl (lv_room (Nat.le_of_ble_eq_true rfl)) dX6_displaces_26 ⟨Nat.le_of_ble_eq_true rfl, Nat.le_of_ble_eq_true rfl⟩) (fun b26 => ?_) (fun b26 => ?_)
      · skip
        refine lv_if_eq (tgt := 37) hx hb dX6_displaces_29 (by decide) (fun q => by first | exact absurd q (by decide) | exact absurd (by decide) q) (fun _ => ?_)
        refine lv_iload_n hx hb dX6_displaces_32 rfl (lv_at hl 3 rfl) ?_
        refine lv_ineg hx hb dX6_displaces_33 ?_
        refine lv_goto (tgt := 38) hx hb dX6_displaces_34 (by decide) ?_
        refine lv_iconst (v := nI 2) hx hb dX6_displaces_38 (by decide) ?_
        refine lv_iload_n hx hb dX6_displaces_39 rfl (lv_at hl 1 rfl) ?_
        refine lv_iload_n hx hb dX6_displaces_40 rfl (lv_at hl 2 rfl) ?_
        refine ro_calliB (va_runS (As := [.int (nI 2), .int (nI 0), .int (nI 2)]) (rest := [.int (-(nI n1)), .int (-(nI n1)), .ref (ad 0), .int (nI z4)]) ⟨hx, hb, hml, hown, hts⟩ (c_X6_isIn l D cy ((nI 2)) ((nI 0)) ((nI 2)) H va_P0) (va_cwS 3 hts gX6_displaces_X6_isIn rfl rfl rfl hdX6_isIn.2 ⟨Nat.le_of_ble_eq_true rfl, Nat.le_of_ble_eq_true rfl⟩) (ro_pre hK rfl) rfl rfl hl.1 rfl (lv_room (Nat.le_of_ble_eq_true rfl)) dX6_displaces_41 ⟨Nat.le_of_ble_eq_true rfl, Nat.le_of_ble_eq_true rfl⟩) (fun b41 => ?_) (fun b41 => ?_)
        · skip
          refine lv_if_eq (tgt := 52) hx hb dX6_displaces_44 (by decide) (fun q => by first | exact absurd q (by decide) | exact absurd (by decide) q) (fun _ => ?_)
          refine lv_iload_n hx hb dX6_displaces_47 rfl (lv_at hl 3 rfl) ?_
          refine lv_ineg hx hb dX6_displaces_48 ?_
          refine lv_goto (tgt := 53) hx hb dX6_displaces_49 (by decide) ?_
          refine ro_calliN (va_runV (As := [.int (-(nI n1)), .int (-(nI n1)), .int (-(nI n1))]) (rest := [.int (nI z4)]) ⟨hx, hb, hml, hown, hts⟩ (c_X6_worthOf l D cy ad σ er wo th hI ((-(nI n1))) ((-(nI n1))) ((-(nI n1))) (lft σ 0 - n1) (lft σ 1 - n1) (lft σ 2 - n1) (nI_an (by exact hle 0 (by decide) (by decide))) (nI_an (by exact hle 1 (by decide) (by decide))) (nI_an (by exact hle 2 (by decide) (by decide))) (by omega) (by omega) (by omega) H hP) (cwV 3 hts gX6_displaces_X6_worthOf rfl rfl rfl hdX6_worthOf ⟨Nat.le_of_ble_eq_true rfl, Nat.le_of_ble_eq_true rfl⟩) (ro_preV hK (va_recv hK.1 hP (ci := 6) (q0 := 0) rfl rfl)) rfl rfl hl.1 rfl (lv_room (Nat.le_of_ble_eq_true rfl)) dX6_displaces_53 ⟨Nat.le_of_ble_eq_true rfl, Nat.le_of_ble_eq_true rfl⟩) (fun z53 hz53 => ?_)
          refine lv_isub hx hb dX6_displaces_56 ?_
          exact hret dX6_displaces_57 (by rw [hz4, hz53, hT _ _ _ (by omega) (by omega) (by omega), hT _ _ _ (by omega) (by omega) (by omega)]; rfl)
        · skip
          exact absurd (by decide) b41
      · skip
        exact absurd (by decide) b26
    · skip
      exact absurd (by decide) b11
  · skip
    refine lv_aload_n hx hb dX6_displaces_0 rfl (lv_at hl 0 rfl) ?_
    refine lv_iconst (v := nI 0) hx hb dX6_displaces_1 (by decide) ?_
    refine lv_iconst (v := nI 0) hx hb dX6_displaces_2 (by decide) ?_
    refine lv_iconst (v := nI 0) hx hb dX6_displaces_3 (by decide) ?_
    refine ro_calliN (va_runV (As := [.int (nI 0), .int (nI 0), .int (nI 0)]) (rest := []) ⟨hx, hb, hml, hown, hts⟩ (c_X6_worthOf l D cy ad σ er wo th hI ((nI 0)) ((nI 0)) ((nI 0)) (lft σ 0 + 0) (lft σ 1 + 0) (lft σ 2 + 0) (nI_add _ _) (nI_add _ _) (nI_add _ _) (by omega) (by omega) (by omega) H hP) (cwV 3 hts gX6_displaces_X6_worthOf rfl rfl rfl hdX6_worthOf ⟨Nat.le_of_ble_eq_true rfl, Nat.le_of_ble_eq_true rfl⟩) (ro_preV hK (va_recv hK.1 hP (ci := 6) (q0 := 0) rfl rfl)) rfl rfl hl.1 rfl (lv_room (Nat.le_of_ble_eq_true rfl)) dX6_displaces_4 ⟨Nat.le_of_ble_eq_true rfl, Nat.le_of_ble_eq_true rfl⟩) (fun z4 hz4 => ?_)
    refine lv_aload_n hx hb dX6_displaces_7 rfl (lv_at hl 0 rfl) ?_
    refine lv_iconst (v := nI 0) hx hb dX6_displaces_8 (by decide) ?_
    refine lv_iload_n hx hb dX6_displaces_9 rfl (lv_at hl 1 rfl) ?_
    refine lv_iload_n hx hb dX6_displaces_10 rfl (lv_at hl 2 rfl) ?_
    refine ro_calliB (va_runS (As := [.int (nI 0), .int (nI 1), .int (nI 1)]) (rest := [.ref (ad 0), .int (nI z4)]) ⟨hx, hb, hml, hown, hts⟩ (c_X6_isIn l D cy ((nI 0)) ((nI 1)) ((nI 1)) H va_P0) (va_cwS 3 hts gX6_displaces_X6_isIn rfl rfl rfl hdX6_isIn.2 ⟨Nat.le_of_ble_eq_true rfl, Nat.le_of_ble_eq_true rfl⟩) (ro_pre hK rfl) rfl rfl hl.1 rfl (lv_room (Nat.le_of_ble_eq_true rfl)) dX6_displaces_11 ⟨Nat.le_of_ble_eq_true rfl, Nat.le_of_ble_eq_true rfl⟩) (fun b11 => ?_) (fun b11 => ?_)
    · skip
      exact absurd b11 (by decide)
    · skip
      refine lv_if_eq (tgt := 22) hx hb dX6_displaces_14 (by decide) (fun _ => ?_) (fun q => by first | exact absurd q (by decide) | exact absurd (by decide) q)
      refine lv_iconst (v := nI 0) hx hb dX6_displaces_22 (by decide) ?_
      refine lv_iconst (v := nI 1) hx hb dX6_displaces_23 (by decide) ?_
      refine lv_iload_n hx hb dX6_displaces_24 rfl (lv_at hl 1 rfl) ?_
      refine lv_iload_n hx hb dX6_displaces_25 rfl (lv_at hl 2 rfl) ?_
      refine ro_calliB (va_runS (As := [.int (nI 1), .int (nI 1), .int (nI 1)]) (rest := [.int (nI 0), .ref (ad 0), .int (nI z4)]) ⟨hx, hb, hml, hown, hts⟩ (c_X6_isIn l D cy ((nI 1)) ((nI 1)) ((nI 1)) H va_P0) (va_cwS 3 hts gX6_displaces_X6_isIn rfl rfl rfl hdX6_isIn.2 ⟨Nat.le_of_ble_eq_true rfl, Nat.le_of_ble_eq_true rfl⟩) (ro_pre hK rfl) rfl rfl hl.1 rfl (lv_room (Nat.le_of_ble_eq_true rfl)) dX6_displaces_26 ⟨Nat.le_of_ble_eq_true rfl, Nat.le_of_ble_eq_true rfl⟩) (fun b26 => ?_) (fun b26 => ?_)
      · skip
        refine lv_if_eq (tgt := 37) hx hb dX6_displaces_29 (by decide) (fun q => by first | exact absurd q (by decide) | exact absurd (by decide) q) (fun _ => ?_)
        refine lv_iload_n hx hb dX6_displaces_32 rfl (lv_at hl 3 rfl) ?_
        refine lv_ineg hx hb dX6_displaces_33 ?_
        refine lv_goto (tgt := 38) hx hb dX6_displaces_34 (by decide) ?_
        refine lv_iconst (v := nI 2) hx hb dX6_displaces_38 (by decide) ?_
        refine lv_iload_n hx hb dX6_displaces_39 rfl (lv_at hl 1 rfl) ?_
        refine lv_iload_n hx hb dX6_displaces_40 rfl (lv_at hl 2 rfl) ?_
        refine ro_calliB (va_runS (As := [.int (nI 2), .int (nI 1), .int (nI 1)]) (rest := [.int (-(nI n1)), .int (nI 0), .ref (ad 0), .int (nI z4)]) ⟨hx, hb, hml, hown, hts⟩ (c_X6_isIn l D cy ((nI 2)) ((nI 1)) ((nI 1)) H va_P0) (va_cwS 3 hts gX6_displaces_X6_isIn rfl rfl rfl hdX6_isIn.2 ⟨Nat.le_of_ble_eq_true rfl, Nat.le_of_ble_eq_true rfl⟩) (ro_pre hK rfl) rfl rfl hl.1 rfl (lv_room (Nat.le_of_ble_eq_true rfl)) dX6_displaces_41 ⟨Nat.le_of_ble_eq_true rfl, Nat.le_of_ble_eq_true rfl⟩) (fun b41 => ?_) (fun b41 => ?_)
        · skip
          exact absurd b41 (by decide)
        · skip
          refine lv_if_eq (tgt := 52) hx hb dX6_displaces_44 (by decide) (fun _ => ?_) (fun q => by first | exact absurd q (by decide) | exact absurd (by decide) q)
          refine lv_iconst (v := nI 0) hx hb dX6_displaces_52 (by decide) ?_
          refine ro_calliN (va_runV (As := [.int (nI 0), .int (-(nI n1)), .int (nI 0)]) (rest := [.int (nI z4)]) ⟨hx, hb, hml, hown, hts⟩ (c_X6_worthOf l D cy ad σ er wo th hI ((nI 0)) ((-(nI n1))) ((nI 0)) (lft σ 0 + 0) (lft σ 1 - n1) (lft σ 2 + 0) (nI_add _ _) (nI_an (by exact hle 1 (by decide) (by decide))) (nI_add _ _) (by omega) (by omega) (by omega) H hP) (cwV 3 hts gX6_displaces_X6_worthOf rfl rfl rfl hdX6_worthOf ⟨Nat.le_of_ble_eq_true rfl, Nat.le_of_ble_eq_true rfl⟩) (ro_preV hK (va_recv hK.1 hP (ci := 6) (q0 := 0) rfl rfl)) rfl rfl hl.1 rfl (lv_room (Nat.le_of_ble_eq_true rfl)) dX6_displaces_53 ⟨Nat.le_of_ble_eq_true rfl, Nat.le_of_ble_eq_true rfl⟩) (fun z53 hz53 => ?_)
          refine lv_isub hx hb dX6_displaces_56 ?_
          exact hret dX6_displaces_57 (by rw [hz4, hz53, hT _ _ _ (by omega) (by omega) (by omega), hT _ _ _ (by omega) (by omega) (by omega)]; rfl)
      · skip
        exact absurd (by decide) b26
  · skip
    refine lv_aload_n hx hb dX6_displaces_0 rfl (lv_at hl 0 rfl) ?_
    refine lv_iconst (v := nI 0) hx hb dX6_displaces_1 (by decide) ?_
    refine lv_iconst (v := nI 0) hx hb dX6_displaces_2 (by decide) ?_
    refine lv_iconst (v := nI 0) hx hb dX6_displaces_3 (by decide) ?_
    refine ro_calliN (va_runV (As := [.int (nI 0), .int (nI 0), .int (nI 0)]) (rest := []) ⟨hx, hb, hml, hown, hts⟩ (c_X6_worthOf l D cy ad σ er wo th hI ((nI 0)) ((nI 0)) ((nI 0)) (lft σ 0 + 0) (lft σ 1 + 0) (lft σ 2 + 0) (nI_add _ _) (nI_add _ _) (nI_add _ _) (by omega) (by omega) (by omega) H hP) (cwV 3 hts gX6_displaces_X6_worthOf rfl rfl rfl hdX6_worthOf ⟨Nat.le_of_ble_eq_true rfl, Nat.le_of_ble_eq_true rfl⟩) (ro_preV hK (va_recv hK.1 hP (ci := 6) (q0 := 0) rfl rfl)) rfl rfl hl.1 rfl (lv_room (Nat.le_of_ble_eq_true rfl)) dX6_displaces_4 ⟨Nat.le_of_ble_eq_true rfl, Nat.le_of_ble_eq_true rfl⟩) (fun z4 hz4 => ?_)
    refine lv_aload_n hx hb dX6_displaces_7 rfl (lv_at hl 0 rfl) ?_
    refine lv_iconst (v := nI 0) hx hb dX6_displaces_8 (by decide) ?_
    refine lv_iload_n hx hb dX6_displaces_9 rfl (lv_at hl 1 rfl) ?_
    refine lv_iload_n hx hb dX6_displaces_10 rfl (lv_at hl 2 rfl) ?_
    refine ro_calliB (va_runS (As := [.int (nI 0), .int (nI 1), .int (nI 2)]) (rest := [.ref (ad 0), .int (nI z4)]) ⟨hx, hb, hml, hown, hts⟩ (c_X6_isIn l D cy ((nI 0)) ((nI 1)) ((nI 2)) H va_P0) (va_cwS 3 hts gX6_displaces_X6_isIn rfl rfl rfl hdX6_isIn.2 ⟨Nat.le_of_ble_eq_true rfl, Nat.le_of_ble_eq_true rfl⟩) (ro_pre hK rfl) rfl rfl hl.1 rfl (lv_room (Nat.le_of_ble_eq_true rfl)) dX6_displaces_11 ⟨Nat.le_of_ble_eq_true rfl, Nat.le_of_ble_eq_true rfl⟩) (fun b11 => ?_) (fun b11 => ?_)
    · skip
      exact absurd b11 (by decide)
    · skip
      refine lv_if_eq (tgt := 22) hx hb dX6_displaces_14 (by decide) (fun _ => ?_) (fun q => by first | exact absurd q (by decide) | exact absurd (by decide) q)
      refine lv_iconst (v := nI 0) hx hb dX6_displaces_22 (by decide) ?_
      refine lv_iconst (v := nI 1) hx hb dX6_displaces_23 (by decide) ?_
      refine lv_iload_n hx hb dX6_displaces_24 rfl (lv_at hl 1 rfl) ?_
      refine lv_iload_n hx hb dX6_displaces_25 rfl (lv_at hl 2 rfl) ?_
      refine ro_calliB (va_runS (As := [.int (nI 1), .int (nI 1), .int (nI 2)]) (rest := [.int (nI 0), .ref (ad 0), .int (nI z4)]) ⟨hx, hb, hml, hown, hts⟩ (c_X6_isIn l D cy ((nI 1)) ((nI 1)) ((nI 2)) H va_P0) (va_cwS 3 hts gX6_displaces_X6_isIn rfl rfl rfl hdX6_isIn.2 ⟨Nat.le_of_ble_eq_true rfl, Nat.le_of_ble_eq_true rfl⟩) (ro_pre hK rfl) rfl rfl hl.1 rfl (lv_room (Nat.le_of_ble_eq_true rfl)) dX6_displaces_26 ⟨Nat.le_of_ble_eq_true rfl, Nat.le_of_ble_eq_true rfl⟩) (fun b26 => ?_) (fun b26 => ?_)
      · skip
        refine lv_if_eq (tgt := 37) hx hb dX6_displaces_29 (by decide) (fun q => by first | exact absurd q (by decide) | exact absurd (by decide) q) (fun _ => ?_)
        refine lv_iload_n hx hb dX6_displaces_32 rfl (lv_at hl 3 rfl) ?_
        refine lv_ineg hx hb dX6_displaces_33 ?_
        refine lv_goto (tgt := 38) hx hb dX6_displaces_34 (by decide) ?_
        refine lv_iconst (v := nI 2) hx hb dX6_displaces_38 (by decide) ?_
        refine lv_iload_n hx hb dX6_displaces_39 rfl (lv_at hl 1 rfl) ?_
        refine lv_iload_n hx hb dX6_displaces_40 rfl (lv_at hl 2 rfl) ?_
        refine ro_calliB (va_runS (As := [.int (nI 2), .int (nI 1), .int (nI 2)]) (rest := [.int (-(nI n1)), .int (nI 0), .ref (ad 0), .int (nI z4)]) ⟨hx, hb, hml, hown, hts⟩ (c_X6_isIn l D cy ((nI 2)) ((nI 1)) ((nI 2)) H va_P0) (va_cwS 3 hts gX6_displaces_X6_isIn rfl rfl rfl hdX6_isIn.2 ⟨Nat.le_of_ble_eq_true rfl, Nat.le_of_ble_eq_true rfl⟩) (ro_pre hK rfl) rfl rfl hl.1 rfl (lv_room (Nat.le_of_ble_eq_true rfl)) dX6_displaces_41 ⟨Nat.le_of_ble_eq_true rfl, Nat.le_of_ble_eq_true rfl⟩) (fun b41 => ?_) (fun b41 => ?_)
        · skip
          refine lv_if_eq (tgt := 52) hx hb dX6_displaces_44 (by decide) (fun q => by first | exact absurd q (by decide) | exact absurd (by decide) q) (fun _ => ?_)
          refine lv_iload_n hx hb dX6_displaces_47 rfl (lv_at hl 3 rfl) ?_
          refine lv_ineg hx hb dX6_displaces_48 ?_
          refine lv_goto (tgt := 53) hx hb dX6_displaces_49 (by decide) ?_
          refine ro_calliN (va_runV (As := [.int (nI 0), .int (-(nI n1)), .int (-(nI n1))]) (rest := [.int (nI z4)]) ⟨hx, hb, hml, hown, hts⟩ (c_X6_worthOf l D cy ad σ er wo th hI ((nI 0)) ((-(nI n1))) ((-(nI n1))) (lft σ 0 + 0) (lft σ 1 - n1) (lft σ 2 - n1) (nI_add _ _) (nI_an (by exact hle 1 (by decide) (by decide))) (nI_an (by exact hle 2 (by decide) (by decide))) (by omega) (by omega) (by omega) H hP) (cwV 3 hts gX6_displaces_X6_worthOf rfl rfl rfl hdX6_worthOf ⟨Nat.le_of_ble_eq_true rfl, Nat.le_of_ble_eq_true rfl⟩) (ro_preV hK (va_recv hK.1 hP (ci := 6) (q0 := 0) rfl rfl)) rfl rfl hl.1 rfl (lv_room (Nat.le_of_ble_eq_true rfl)) dX6_displaces_53 ⟨Nat.le_of_ble_eq_true rfl, Nat.le_of_ble_eq_true rfl⟩) (fun z53 hz53 => ?_)
          refine lv_isub hx hb dX6_displaces_56 ?_
          exact hret dX6_displaces_57 (by rw [hz4, hz53, hT _ _ _ (by omega) (by omega) (by omega), hT _ _ _ (by omega) (by omega) (by omega)]; rfl)
        · skip
          exact absurd (by decide) b41
      · skip
        exact absurd (by decide) b26
  · skip
    refine lv_aload_n hx hb dX6_displaces_0 rfl (lv_at hl 0 rfl) ?_
    refine lv_iconst (v := nI 0) hx hb dX6_displaces_1 (by decide) ?_
    refine lv_iconst (v := nI 0) hx hb dX6_displaces_2 (by decide) ?_
    refine lv_iconst (v := nI 0) hx hb dX6_displaces_3 (by decide) ?_
    refine ro_calliN (va_runV (As := [.int (nI 0), .int (nI 0), .int (nI 0)]) (rest := []) ⟨hx, hb, hml, hown, hts⟩ (c_X6_worthOf l D cy ad σ er wo th hI ((nI 0)) ((nI 0)) ((nI 0)) (lft σ 0 + 0) (lft σ 1 + 0) (lft σ 2 + 0) (nI_add _ _) (nI_add _ _) (nI_add _ _) (by omega) (by omega) (by omega) H hP) (cwV 3 hts gX6_displaces_X6_worthOf rfl rfl rfl hdX6_worthOf ⟨Nat.le_of_ble_eq_true rfl, Nat.le_of_ble_eq_true rfl⟩) (ro_preV hK (va_recv hK.1 hP (ci := 6) (q0 := 0) rfl rfl)) rfl rfl hl.1 rfl (lv_room (Nat.le_of_ble_eq_true rfl)) dX6_displaces_4 ⟨Nat.le_of_ble_eq_true rfl, Nat.le_of_ble_eq_true rfl⟩) (fun z4 hz4 => ?_)
    refine lv_aload_n hx hb dX6_displaces_7 rfl (lv_at hl 0 rfl) ?_
    refine lv_iconst (v := nI 0) hx hb dX6_displaces_8 (by decide) ?_
    refine lv_iload_n hx hb dX6_displaces_9 rfl (lv_at hl 1 rfl) ?_
    refine lv_iload_n hx hb dX6_displaces_10 rfl (lv_at hl 2 rfl) ?_
    refine ro_calliB (va_runS (As := [.int (nI 0), .int (nI 2), .int (nI 2)]) (rest := [.ref (ad 0), .int (nI z4)]) ⟨hx, hb, hml, hown, hts⟩ (c_X6_isIn l D cy ((nI 0)) ((nI 2)) ((nI 2)) H va_P0) (va_cwS 3 hts gX6_displaces_X6_isIn rfl rfl rfl hdX6_isIn.2 ⟨Nat.le_of_ble_eq_true rfl, Nat.le_of_ble_eq_true rfl⟩) (ro_pre hK rfl) rfl rfl hl.1 rfl (lv_room (Nat.le_of_ble_eq_true rfl)) dX6_displaces_11 ⟨Nat.le_of_ble_eq_true rfl, Nat.le_of_ble_eq_true rfl⟩) (fun b11 => ?_) (fun b11 => ?_)
    · skip
      exact absurd b11 (by decide)
    · skip
      refine lv_if_eq (tgt := 22) hx hb dX6_displaces_14 (by decide) (fun _ => ?_) (fun q => by first | exact absurd q (by decide) | exact absurd (by decide) q)
      refine lv_iconst (v := nI 0) hx hb dX6_displaces_22 (by decide) ?_
      refine lv_iconst (v := nI 1) hx hb dX6_displaces_23 (by decide) ?_
      refine lv_iload_n hx hb dX6_displaces_24 rfl (lv_at hl 1 rfl) ?_
      refine lv_iload_n hx hb dX6_displaces_25 rfl (lv_at hl 2 rfl) ?_
      refine ro_calliB (va_runS (As := [.int (nI 1), .int (nI 2), .int (nI 2)]) (rest := [.int (nI 0), .ref (ad 0), .int (nI z4)]) ⟨hx, hb, hml, hown, hts⟩ (c_X6_isIn l D cy ((nI 1)) ((nI 2)) ((nI 2)) H va_P0) (va_cwS 3 hts gX6_displaces_X6_isIn rfl rfl rfl hdX6_isIn.2 ⟨Nat.le_of_ble_eq_true rfl, Nat.le_of_ble_eq_true rfl⟩) (ro_pre hK rfl) rfl rfl hl.1 rfl (lv_room (Nat.le_of_ble_eq_true rfl)) dX6_displaces_26 ⟨Nat.le_of_ble_eq_true rfl, Nat.le_of_ble_eq_true rfl⟩) (fun b26 => ?_) (fun b26 => ?_)
      · skip
        exact absurd b26 (by decide)
      · skip
        refine lv_if_eq (tgt := 37) hx hb dX6_displaces_29 (by decide) (fun _ => ?_) (fun q => by first | exact absurd q (by decide) | exact absurd (by decide) q)
        refine lv_iconst (v := nI 0) hx hb dX6_displaces_37 (by decide) ?_
        refine lv_iconst (v := nI 2) hx hb dX6_displaces_38 (by decide) ?_
        refine lv_iload_n hx hb dX6_displaces_39 rfl (lv_at hl 1 rfl) ?_
        refine lv_iload_n hx hb dX6_displaces_40 rfl (lv_at hl 2 rfl) ?_
        refine ro_calliB (va_runS (As := [.int (nI 2), .int (nI 2), .int (nI 2)]) (rest := [.int (nI 0), .int (nI 0), .ref (ad 0), .int (nI z4)]) ⟨hx, hb, hml, hown, hts⟩ (c_X6_isIn l D cy ((nI 2)) ((nI 2)) ((nI 2)) H va_P0) (va_cwS 3 hts gX6_displaces_X6_isIn rfl rfl rfl hdX6_isIn.2 ⟨Nat.le_of_ble_eq_true rfl, Nat.le_of_ble_eq_true rfl⟩) (ro_pre hK rfl) rfl rfl hl.1 rfl (lv_room (Nat.le_of_ble_eq_true rfl)) dX6_displaces_41 ⟨Nat.le_of_ble_eq_true rfl, Nat.le_of_ble_eq_true rfl⟩) (fun b41 => ?_) (fun b41 => ?_)
        · skip
          refine lv_if_eq (tgt := 52) hx hb dX6_displaces_44 (by decide) (fun q => by first | exact absurd q (by decide) | exact absurd (by decide) q) (fun _ => ?_)
          refine lv_iload_n hx hb dX6_displaces_47 rfl (lv_at hl 3 rfl) ?_
          refine lv_ineg hx hb dX6_displaces_48 ?_
          refine lv_goto (tgt := 53) hx hb dX6_displaces_49 (by decide) ?_
          refine ro_calliN (va_runV (As := [.int (nI 0), .int (nI 0), .int (-(nI n1))]) (rest := [.int (nI z4)]) ⟨hx, hb, hml, hown, hts⟩ (c_X6_worthOf l D cy ad σ er wo th hI ((nI 0)) ((nI 0)) ((-(nI n1))) (lft σ 0 + 0) (lft σ 1 + 0) (lft σ 2 - n1) (nI_add _ _) (nI_add _ _) (nI_an (by exact hle 2 (by decide) (by decide))) (by omega) (by omega) (by omega) H hP) (cwV 3 hts gX6_displaces_X6_worthOf rfl rfl rfl hdX6_worthOf ⟨Nat.le_of_ble_eq_true rfl, Nat.le_of_ble_eq_true rfl⟩) (ro_preV hK (va_recv hK.1 hP (ci := 6) (q0 := 0) rfl rfl)) rfl rfl hl.1 rfl (lv_room (Nat.le_of_ble_eq_true rfl)) dX6_displaces_53 ⟨Nat.le_of_ble_eq_true rfl, Nat.le_of_ble_eq_true rfl⟩) (fun z53 hz53 => ?_)
          refine lv_isub hx hb dX6_displaces_56 ?_
          exact hret dX6_displaces_57 (by rw [hz4, hz53, hT _ _ _ (by omega) (by omega) (by omega), hT _ _ _ (by omega) (by omega) (by omega)]; rfl)
        · skip
          exact absurd (by decide) b41
set_option maxHeartbeats 4000000 in
set_option maxRecDepth 100000 in
theorem c_X6_isTooFull (l : Launch) (D : va_G) (cy : Nat → ClassId) (ad : Nat → Nat) (σ : SF) (er : Int64) (wo : Nat → Nat) (th : Nat) {n : Nat} (hI : Iv n σ) (f t n1 : Nat) (hft : f ≤ t) (ht2 : t ≤ 2) (hn1 : n1 ≤ 10) : cRO l D cy yX6_isTooFull wsX6_isTooFull rmX6_isTooFull [.ref (ad 0), .int (nI f), .int (nI t), .int (nI n1)] (WM ad cy σ er wo th) (pB (tooFull σ f t n1)) := by
  refine cRO.of (cc := cX6_isTooFull) (maxL := 6) (by decide) rfl (Nat.le_of_ble_eq_true rfl) (Or.inr ⟨rfl, pB.z⟩) ?_
  intro p e s m args below meth c H Q hx hb hml hown hts hP hK hret ls hl
  have K6 : ∀ (n6 : Nat) (b : Nat) (k : Nat), t + 1 - k < n6 → (b ≤ 1) → ((b = 1 ↔ exP (fun j => lft σ j < n1) f k)) → (f ≤ k) → (k ≤ t + 1) → ∀ ls : Array Slot, lv_has ls 6 [(0, .ref (ad 0)), (1, .int (nI f)), (2, .int (nI t)), (3, .int (nI n1)), (4, .int (nI b)), (5, .int (nI k))] → W p l e rmX6_isTooFull s m args below meth c H [] 0 0 Q (F0 m 6 ls []) := by
    intro n6
    induction n6 with
    | zero =>
      intro b k hfu
      exact absurd hfu (Nat.not_lt_zero _)
    | succ n6 ih6 =>
      intro b k hfu hb1 hbx hk1 hk2 ls hl
      refine lv_iload hx hb dX6_isTooFull_6 (lv_at hl 5 rfl) ?_
      refine lv_iload_n hx hb dX6_isTooFull_8 rfl (lv_at hl 2 rfl) ?_
      refine ln_icmp_gt (tgt := 40) hx hb (by omega) (by omega) dX6_isTooFull_9 (by decide) (fun c9 => ?_) (fun c9 => ?_)
      · skip
        refine lv_iload hx hb dX6_isTooFull_40 (lv_at hl 4 rfl) ?_
        exact hret dX6_isTooFull_42 (ex_end hb1 (by omega) hbx)
      · skip
        have K32 : ∀ (v : Nat), (v ≤ 1) → ((v = 1 ↔ (b = 1 ∨ lft σ k < n1))) → ∀ ls : Array Slot, lv_has ls 6 [(0, .ref (ad 0)), (1, .int (nI f)), (2, .int (nI t)), (3, .int (nI n1)), (4, .int (nI b)), (5, .int (nI k))] → W p l e rmX6_isTooFull s m args below meth c H [] 0 0 Q (F0 m 32 ls [.int (nI v)]) := by
          intro v hv hv1 ls hl
          refine lv_istore (lv' := [(4, .int (nI v)), (0, .ref (ad 0)), (1, .int (nI f)), (2, .int (nI t)), (3, .int (nI n1)), (5, .int (nI k))]) hx hb dX6_isTooFull_32 hl (by decide) rfl (fun ls hl => ?_)
          obtain ⟨z34, hz34⟩ : ∃ z : Nat, z = k + 1 := ⟨_, rfl⟩
          refine lv_iinc (v := nI z34) (lv' := [(5, .int (nI z34)), (4, .int (nI v)), (0, .ref (ad 0)), (1, .int (nI f)), (2, .int (nI t)), (3, .int (nI n1))]) hx hb dX6_isTooFull_34 hl (k := 5) rfl (by rw [hz34]; exact nI_add _ 1) (by decide) rfl (fun ls hl => ?_)
          refine lv_goto (tgt := 6) hx hb dX6_isTooFull_37 (by decide) ?_
          exact ih6 v z34 (by omega) (by omega) (ex_step hbx (by omega) hv1 |> fun q => by rw [show z34 = k + 1 by omega]; exact q) (by omega) (by omega) ls (lv_sub hl [2, 3, 4, 5, 1, 0] rfl)
        refine lv_iload hx hb dX6_isTooFull_12 (lv_at hl 4 rfl) ?_
        refine ln_if_ne (tgt := 27) hx hb (by omega) dX6_isTooFull_14 (by decide) (fun c14 => ?_) (fun c14 => ?_)
        · skip
          refine lv_iconst (v := nI 1) hx hb dX6_isTooFull_27 (by decide) ?_
          refine lv_goto (tgt := 32) hx hb dX6_isTooFull_28 (by decide) ?_
          exact K32 1 (by omega) (by first | exact ⟨fun _ => Or.inl (by omega), fun _ => rfl⟩ | exact ⟨fun _ => Or.inr (by omega), fun _ => rfl⟩) ls (lv_sub hl [0, 1, 2, 3, 4, 5] rfl)
        · skip
          have hlk := hI.lf k (by omega)
          refine lv_aload_n hx hb dX6_isTooFull_17 rfl (lv_at hl 0 rfl) ?_
          refine lv_iload hx hb dX6_isTooFull_18 (lv_at hl 5 rfl) ?_
          refine ro_calliN (va_runV (As := [.int (nI k)]) (rest := []) ⟨hx, hb, hml, hown, hts⟩ (c_X6_left l D cy ad σ er wo th k (by omega) (hI.se _ (by omega)) (hI.bkle _ (by omega)) H hP) (cwV 1 hts gX6_isTooFull_X6_left rfl rfl rfl hdX6_left ⟨Nat.le_of_ble_eq_true rfl, Nat.le_of_ble_eq_true rfl⟩) (ro_preV hK (va_recv hK.1 hP (ci := 6) (q0 := 0) rfl rfl)) rfl rfl hl.1 rfl (lv_room (Nat.le_of_ble_eq_true rfl)) dX6_isTooFull_20 ⟨Nat.le_of_ble_eq_true rfl, Nat.le_of_ble_eq_true rfl⟩) (fun z20 hz20 => ?_)
          refine lv_iload_n hx hb dX6_isTooFull_23 rfl (lv_at hl 3 rfl) ?_
          refine ln_icmp_ge (tgt := 31) hx hb (by omega) (by omega) dX6_isTooFull_24 (by decide) (fun c24 => ?_) (fun c24 => ?_)
          · skip
            refine lv_iconst (v := nI 0) hx hb dX6_isTooFull_31 (by decide) ?_
            exact K32 0 (by omega) (by constructor <;> intro <;> omega) ls (lv_sub hl [0, 1, 2, 3, 4, 5] rfl)
          · skip
            refine lv_iconst (v := nI 1) hx hb dX6_isTooFull_27 (by decide) ?_
            refine lv_goto (tgt := 32) hx hb dX6_isTooFull_28 (by decide) ?_
            exact K32 1 (by omega) (by first | exact ⟨fun _ => Or.inl (by omega), fun _ => rfl⟩ | exact ⟨fun _ => Or.inr (by omega), fun _ => rfl⟩) ls (lv_sub hl [0, 1, 2, 3, 4, 5] rfl)
  refine lv_iconst (v := nI 0) hx hb dX6_isTooFull_0 (by decide) ?_
  refine lv_istore (lv' := [(4, .int (nI 0)), (0, .ref (ad 0)), (1, .int (nI f)), (2, .int (nI t)), (3, .int (nI n1))]) hx hb dX6_isTooFull_1 hl (by decide) rfl (fun ls hl => ?_)
  refine lv_iload_n hx hb dX6_isTooFull_3 rfl (lv_at hl 2 rfl) ?_
  refine lv_istore (lv' := [(5, .int (nI f)), (4, .int (nI 0)), (0, .ref (ad 0)), (1, .int (nI f)), (2, .int (nI t)), (3, .int (nI n1))]) hx hb dX6_isTooFull_4 hl (by decide) rfl (fun ls hl => ?_)
  exact K6 _ 0 f (Nat.lt_succ_self _) (by omega) ex_0 (by omega) (by omega) ls (lv_sub hl [2, 3, 4, 5, 1, 0] rfl)
