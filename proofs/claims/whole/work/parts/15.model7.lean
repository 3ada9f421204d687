set_option maxHeartbeats 4000000 in
set_option maxRecDepth 100000 in
theorem c_X6_protectedSeats (l : Launch) (D : va_G) (cy : Nat → ClassId) (ad : Nat → Nat) (σ : SF) (er : Int64) (wo : Nat → Nat) (th : Nat) {n : Nat} (hI : Iv n σ) (v w : Int32) : cMI l D cy yX6_protectedSeats wsX6_protectedSeats rmX6_protectedSeats [.ref (ad 0), .int v, .int w] (WM ad cy σ er wo th) (T := Nat) (fun u => WM ad cy σ er wo u) (fun r u => (¬ okR v 0 2 ∧ u = 1) ∨ (okR v 0 2 ∧ ¬ okR w 1 1000 ∧ u = 2) ∨ (okR v 0 2 ∧ okR w 1 1000 ∧ u = 0 ∧ r = nI (prot σ (cN v) (cN w)))) 0 0 := by
  refine cMI.of (cc := cX6_protectedSeats) (maxL := 3) (by decide) rfl (Nat.le_of_ble_eq_true rfl) (Or.inl rfl) ?_
  intro p e s m args below meth c H0 A Q hx hb hml hown hts hP hK hD hS hA hret ls hl
  obtain ⟨H, locs, hH, hlo⟩ : ∃ (H : Heap) (locs : List Loc), H = H0 ∧ locs = [] := ⟨_, _, rfl, rfl⟩
  rw [← hH] at hP
  rw [show va_S A H0 H0 [] = va_S A H0 H locs by rw [hH, hlo]] at hS
  rw [show W p l e rmX6_protectedSeats s m args below meth c H0 [] 0 0 Q (F0 m 0 ls []) = W p l e rmX6_protectedSeats s m args below meth c H locs 0 0 Q (F0 m 0 ls []) by rw [hH, hlo]]
  refine lv_aload_n hx hb dX6_protectedSeats_0 rfl (lv_at hl 0 rfl) ?_
  refine lv_iload_n hx hb dX6_protectedSeats_1 rfl (lv_at hl 1 rfl) ?_
  refine ro_calliB (va_runS (As := [.int v]) (rest := [.ref (ad 0)]) ⟨hx, hb, hml, hown, hts⟩ (c_X6_isLeg l D cy (v) H va_P0) (va_cwS 1 hts gX6_protectedSeats_X6_isLeg rfl rfl rfl hdX6_isLeg.2 ⟨Nat.le_of_ble_eq_true rfl, Nat.le_of_ble_eq_true rfl⟩) (ro_pre hK rfl) rfl rfl hl.1 rfl (lv_room (Nat.le_of_ble_eq_true rfl)) dX6_protectedSeats_2 ⟨Nat.le_of_ble_eq_true rfl, Nat.le_of_ble_eq_true rfl⟩) (fun b2 => ?_) (fun b2 => ?_)
  · skip
    refine lv_if_ne (tgt := 12) hx hb dX6_protectedSeats_5 (by decide) (fun _ => ?_) (fun q => by first | exact absurd q (by decide) | exact absurd (by decide) q)
    refine lv_iload_n hx hb dX6_protectedSeats_12 rfl (lv_at hl 2 rfl) ?_
    refine lv_iconst (v := nI 1) hx hb dX6_protectedSeats_13 (by decide) ?_
    refine lv_sipush (v := nI 1000) hx hb dX6_protectedSeats_14 (by decide) ?_
    refine ro_calliB (va_runS (As := [.int w, .int (nI 1), .int (nI 1000)]) (rest := [.ref (ad 0)]) ⟨hx, hb, hml, hown, hts⟩ (c_X6_isIn l D cy (w) ((nI 1)) ((nI 1000)) H va_P0) (va_cwS 3 hts gX6_protectedSeats_X6_isIn rfl rfl rfl hdX6_isIn.2 ⟨Nat.le_of_ble_eq_true rfl, Nat.le_of_ble_eq_true rfl⟩) (ro_pre hK rfl) rfl rfl hl.1 rfl (lv_room (Nat.le_of_ble_eq_true rfl)) dX6_protectedSeats_17 ⟨Nat.le_of_ble_eq_true rfl, Nat.le_of_ble_eq_true rfl⟩) (fun b17 => ?_) (fun b17 => ?_)
    · skip
      refine lv_if_eq (tgt := 27) hx hb dX6_protectedSeats_20 (by decide) (fun q => by first | exact absurd q (by decide) | exact absurd (by decide) q) (fun _ => ?_)
      refine lv_iconst (v := nI 0) hx hb dX6_protectedSeats_23 (by decide) ?_
      refine lv_goto (tgt := 28) hx hb dX6_protectedSeats_24 (by decide) ?_
      refine mw_calli (va_runV (As := [.int (nI 0)]) (rest := []) ⟨hx, hb, hml, hown, hts⟩ (c_X6_fails l D cy ad σ er wo th 0 (by omega) H.size) (cwV 1 hts gX6_protectedSeats_X6_fails rfl rfl rfl hdX6_fails ⟨Nat.le_of_ble_eq_true rfl, Nat.le_of_ble_eq_true rfl⟩) (mo_preV hK rfl hP hD (va_recv hK.1 hP (ci := 6) (q0 := 0) rfl rfl)) rfl rfl hl.1 rfl (lv_room (Nat.le_of_ble_eq_true rfl)) dX6_protectedSeats_28 ⟨Nat.le_of_ble_eq_true rfl, Nat.le_of_ble_eq_true rfl⟩) hS hD hA (fun r _ H locs hr hP hD hS => ?_)
      rcases hr with ⟨b28, rfl⟩ | ⟨b28, rfl⟩
      · skip
        exact absurd b28 (by decide)
      · skip
        obtain ⟨j, hja, hjb, rfl⟩ := okR_nat (a := 0) (b := 2) b2 (by decide) (by decide)
        obtain ⟨q, hqa, hqb, rfl⟩ := okR_nat (a := 1) (b := 1000) b17 (by decide) (by decide)
        refine lv_if_eq (tgt := 38) hx hb dX6_protectedSeats_31 (by decide) (fun _ => ?_) (fun q => by first | exact absurd q (by decide) | exact absurd (by decide) q)
        refine lv_aload_n hx hb dX6_protectedSeats_38 rfl (lv_at hl 0 rfl) ?_
        refine lv_iload_n hx hb dX6_protectedSeats_39 rfl (lv_at hl 1 rfl) ?_
        refine lv_iload_n hx hb dX6_protectedSeats_40 rfl (lv_at hl 2 rfl) ?_
        refine ro_calliN (va_runV (As := [.int (nI j), .int (nI q)]) (rest := []) ⟨hx, hb, hml, hown, hts⟩ (c_X6_protectedOf l D cy ad σ er wo 0 hI j q (by omega) (by omega) H hP) (cwV 2 hts gX6_protectedSeats_X6_protectedOf rfl rfl rfl hdX6_protectedOf ⟨Nat.le_of_ble_eq_true rfl, Nat.le_of_ble_eq_true rfl⟩) (ro_preV hK (va_recv hK.1 hP (ci := 6) (q0 := 0) rfl rfl)) rfl rfl hl.1 rfl (lv_room (Nat.le_of_ble_eq_true rfl)) dX6_protectedSeats_41 ⟨Nat.le_of_ble_eq_true rfl, Nat.le_of_ble_eq_true rfl⟩) (fun z41 hz41 => ?_)
        exact hret 0 dX6_protectedSeats_44 hP hD hS (Or.inr (Or.inr ⟨b2, b17, rfl, by rw [cN_nI (by omega), cN_nI (by omega), hz41]⟩))
    · skip
      refine lv_if_eq (tgt := 27) hx hb dX6_protectedSeats_20 (by decide) (fun _ => ?_) (fun q => by first | exact absurd q (by decide) | exact absurd (by decide) q)
      refine lv_iconst (v := nI 2) hx hb dX6_protectedSeats_27 (by decide) ?_
      refine mw_calli (va_runV (As := [.int (nI 2)]) (rest := []) ⟨hx, hb, hml, hown, hts⟩ (c_X6_fails l D cy ad σ er wo th 2 (by omega) H.size) (cwV 1 hts gX6_protectedSeats_X6_fails rfl rfl rfl hdX6_fails ⟨Nat.le_of_ble_eq_true rfl, Nat.le_of_ble_eq_true rfl⟩) (mo_preV hK rfl hP hD (va_recv hK.1 hP (ci := 6) (q0 := 0) rfl rfl)) rfl rfl hl.1 rfl (lv_room (Nat.le_of_ble_eq_true rfl)) dX6_protectedSeats_28 ⟨Nat.le_of_ble_eq_true rfl, Nat.le_of_ble_eq_true rfl⟩) hS hD hA (fun r _ H locs hr hP hD hS => ?_)
      rcases hr with ⟨b28, rfl⟩ | ⟨b28, rfl⟩
      · skip
        refine lv_if_eq (tgt := 38) hx hb dX6_protectedSeats_31 (by decide) (fun q => by first | exact absurd q (by decide) | exact absurd (by decide) q) (fun _ => ?_)
        refine lv_iconst (v := nI 0) hx hb dX6_protectedSeats_34 (by decide) ?_
        refine lv_goto (tgt := 44) hx hb dX6_protectedSeats_35 (by decide) ?_
        exact hret 2 dX6_protectedSeats_44 hP hD hS (Or.inr (Or.inl ⟨b2, b17, rfl⟩))
      · skip
        exact absurd (by decide) b28
  · skip
    refine lv_if_ne (tgt := 12) hx hb dX6_protectedSeats_5 (by decide) (fun q => by first | exact absurd q (by decide) | exact absurd (by decide) q) (fun _ => ?_)
    refine lv_iconst (v := nI 1) hx hb dX6_protectedSeats_8 (by decide) ?_
    refine lv_goto (tgt := 28) hx hb dX6_protectedSeats_9 (by decide) ?_
    refine mw_calli (va_runV (As := [.int (nI 1)]) (rest := []) ⟨hx, hb, hml, hown, hts⟩ (c_X6_fails l D cy ad σ er wo th 1 (by omega) H.size) (cwV 1 hts gX6_protectedSeats_X6_fails rfl rfl rfl hdX6_fails ⟨Nat.le_of_ble_eq_true rfl, Nat.le_of_ble_eq_true rfl⟩) (mo_preV hK rfl hP hD (va_recv hK.1 hP (ci := 6) (q0 := 0) rfl rfl)) rfl rfl hl.1 rfl (lv_room (Nat.le_of_ble_eq_true rfl)) dX6_protectedSeats_28 ⟨Nat.le_of_ble_eq_true rfl, Nat.le_of_ble_eq_true rfl⟩) hS hD hA (fun r _ H locs hr hP hD hS => ?_)
    rcases hr with ⟨b28, rfl⟩ | ⟨b28, rfl⟩
    · skip
      refine lv_if_eq (tgt := 38) hx hb dX6_protectedSeats_31 (by decide) (fun q => by first | exact absurd q (by decide) | exact absurd (by decide) q) (fun _ => ?_)
      refine lv_iconst (v := nI 0) hx hb dX6_protectedSeats_34 (by decide) ?_
      refine lv_goto (tgt := 44) hx hb dX6_protectedSeats_35 (by decide) ?_
      exact hret 1 dX6_protectedSeats_44 hP hD hS (Or.inl ⟨b2, rfl⟩)
    · skip
      exact absurd (by decide) b28
set_option maxHeartbeats 4000000 in
set_option maxRecDepth 100000 in
theorem c_X6_bid (l : Launch) (D : va_G) (cy : Nat → ClassId) (ad : Nat → Nat) (σ : SF) (er : Int64) (wo : Nat → Nat) (th : Nat) {n : Nat} (hI : Iv n σ) (v : Int32) : cMI l D cy yX6_bid wsX6_bid rmX6_bid [.ref (ad 0), .int v] (WM ad cy σ er wo th) (T := (Nat → Nat) × Nat) (fun u => WM ad cy σ er u.1 u.2) (fun r u => (okR v 0 2 ∧ u.2 = 0 ∧ r = bidI σ (cN v)) ∨ (¬ okR v 0 2 ∧ u.2 = 1)) 0 0 := by
  refine cMI.of (cc := cX6_bid) (maxL := 2) (by decide) rfl (Nat.le_of_ble_eq_true rfl) (Or.inl rfl) ?_
  intro p e s m args below meth c H0 A Q hx hb hml hown hts hP hK hD hS hA hret ls hl
  obtain ⟨H, locs, hH, hlo⟩ : ∃ (H : Heap) (locs : List Loc), H = H0 ∧ locs = [] := ⟨_, _, rfl, rfl⟩
  rw [← hH] at hP
  rw [show va_S A H0 H0 [] = va_S A H0 H locs by rw [hH, hlo]] at hS
  rw [show W p l e rmX6_bid s m args below meth c H0 [] 0 0 Q (F0 m 0 ls []) = W p l e rmX6_bid s m args below meth c H locs 0 0 Q (F0 m 0 ls []) by rw [hH, hlo]]
  refine lv_aload_n hx hb dX6_bid_0 rfl (lv_at hl 0 rfl) ?_
  refine lv_iload_n hx hb dX6_bid_1 rfl (lv_at hl 1 rfl) ?_
  refine ro_calliB (va_runS (As := [.int v]) (rest := [.ref (ad 0)]) ⟨hx, hb, hml, hown, hts⟩ (c_X6_isLeg l D cy (v) H va_P0) (va_cwS 1 hts gX6_bid_X6_isLeg rfl rfl rfl hdX6_isLeg.2 ⟨Nat.le_of_ble_eq_true rfl, Nat.le_of_ble_eq_true rfl⟩) (ro_pre hK rfl) rfl rfl hl.1 rfl (lv_room (Nat.le_of_ble_eq_true rfl)) dX6_bid_2 ⟨Nat.le_of_ble_eq_true rfl, Nat.le_of_ble_eq_true rfl⟩) (fun b2 => ?_) (fun b2 => ?_)
  · skip
    refine lv_if_eq (tgt := 12) hx hb dX6_bid_5 (by decide) (fun q => by first | exact absurd q (by decide) | exact absurd (by decide) q) (fun _ => ?_)
    refine lv_iconst (v := nI 0) hx hb dX6_bid_8 (by decide) ?_
    refine lv_goto (tgt := 13) hx hb dX6_bid_9 (by decide) ?_
    refine mw_calli (va_runV (As := [.int (nI 0)]) (rest := []) ⟨hx, hb, hml, hown, hts⟩ (c_X6_fails l D cy ad σ er wo th 0 (by omega) H.size) (cwV 1 hts gX6_bid_X6_fails rfl rfl rfl hdX6_fails ⟨Nat.le_of_ble_eq_true rfl, Nat.le_of_ble_eq_true rfl⟩) (mo_preV hK rfl hP hD (va_recv hK.1 hP (ci := 6) (q0 := 0) rfl rfl)) rfl rfl hl.1 rfl (lv_room (Nat.le_of_ble_eq_true rfl)) dX6_bid_13 ⟨Nat.le_of_ble_eq_true rfl, Nat.le_of_ble_eq_true rfl⟩) hS hD hA (fun r _ H locs hr hP hD hS => ?_)
    rcases hr with ⟨b13, rfl⟩ | ⟨b13, rfl⟩
    · skip
      exact absurd b13 (by decide)
    · skip
      obtain ⟨j, hja, hjb, rfl⟩ := okR_nat (a := 0) (b := 2) b2 (by decide) (by decide)
      refine lv_if_eq (tgt := 21) hx hb dX6_bid_16 (by decide) (fun _ => ?_) (fun q => by first | exact absurd q (by decide) | exact absurd (by decide) q)
      refine lv_aload_n hx hb dX6_bid_21 rfl (lv_at hl 0 rfl) ?_
      refine mw_callv (va_runV (As := []) (rest := []) ⟨hx, hb, hml, hown, hts⟩ (c_X6_finds l D cy ad σ er wo 0 hI H.size) (cwV 0 hts gX6_bid_X6_finds rfl rfl rfl hdX6_finds ⟨Nat.le_of_ble_eq_true rfl, Nat.le_of_ble_eq_true rfl⟩) (mo_preV hK rfl hP hD (va_recv hK.1 hP (ci := 6) (q0 := 0) rfl rfl)) rfl rfl hl.1 rfl (lv_room (Nat.le_of_ble_eq_true rfl)) dX6_bid_22 ⟨Nat.le_of_ble_eq_true rfl, Nat.le_of_ble_eq_true rfl⟩) hS hD hA (fun u H locs hr22 hP hD hS => ?_)
      have hT := hr22
      refine lv_aload_n hx hb dX6_bid_25 rfl (lv_at hl 0 rfl) ?_
      refine lv_iload_n hx hb dX6_bid_26 rfl (lv_at hl 1 rfl) ?_
      refine ro_calli (va_runV (As := [.int (nI j)]) (rest := []) ⟨hx, hb, hml, hown, hts⟩ (c_X6_bidOf l D cy ad σ er u 0 hI hT j (by omega) H hP) (cwV 1 hts gX6_bid_X6_bidOf rfl rfl rfl hdX6_bidOf ⟨Nat.le_of_ble_eq_true rfl, Nat.le_of_ble_eq_true rfl⟩) (ro_preV hK (va_recv hK.1 hP (ci := 6) (q0 := 0) rfl rfl)) rfl rfl hl.1 rfl (lv_room (Nat.le_of_ble_eq_true rfl)) dX6_bid_27 ⟨Nat.le_of_ble_eq_true rfl, Nat.le_of_ble_eq_true rfl⟩) (fun z27 hz27 => ?_)
      exact hret (u, 0) dX6_bid_30 hP hD hS (Or.inl ⟨b2, rfl, by rw [cN_nI (by omega), hz27]⟩)
  · skip
    refine lv_if_eq (tgt := 12) hx hb dX6_bid_5 (by decide) (fun _ => ?_) (fun q => by first | exact absurd q (by decide) | exact absurd (by decide) q)
    refine lv_iconst (v := nI 1) hx hb dX6_bid_12 (by decide) ?_
    refine mw_calli (va_runV (As := [.int (nI 1)]) (rest := []) ⟨hx, hb, hml, hown, hts⟩ (c_X6_fails l D cy ad σ er wo th 1 (by omega) H.size) (cwV 1 hts gX6_bid_X6_fails rfl rfl rfl hdX6_fails ⟨Nat.le_of_ble_eq_true rfl, Nat.le_of_ble_eq_true rfl⟩) (mo_preV hK rfl hP hD (va_recv hK.1 hP (ci := 6) (q0 := 0) rfl rfl)) rfl rfl hl.1 rfl (lv_room (Nat.le_of_ble_eq_true rfl)) dX6_bid_13 ⟨Nat.le_of_ble_eq_true rfl, Nat.le_of_ble_eq_true rfl⟩) hS hD hA (fun r _ H locs hr hP hD hS => ?_)
    rcases hr with ⟨b13, rfl⟩ | ⟨b13, rfl⟩
    · skip
      refine lv_if_eq (tgt := 21) hx hb dX6_bid_16 (by decide) (fun q => by first | exact absurd q (by decide) | exact absurd (by decide) q) (fun _ => ?_)
      refine lv_iconst (v := nI 0) hx hb dX6_bid_19 (by decide) ?_
      exact hret (wo, 1) dX6_bid_20 hP hD hS (Or.inr ⟨b2, rfl⟩)
    · skip
      exact absurd (by decide) b13
set_option maxHeartbeats 4000000 in
set_option maxRecDepth 100000 in
theorem c_X6_displaced (l : Launch) (D : va_G) (cy : Nat → ClassId) (ad : Nat → Nat) (σ : SF) (er : Int64) (wo : Nat → Nat) (th : Nat) {n : Nat} (hI : Iv n σ) (f t q : Int32) : cMI l D cy yX6_displaced wsX6_displaced rmX6_displaced [.ref (ad 0), .int f, .int t, .int q] (WM ad cy σ er wo th) (T := (Nat → Nat) × Nat) (fun u => WM ad cy σ er u.1 u.2) (fun r u => (¬ (okR f 0 2 ∧ okR t 0 2) ∧ u.2 = 1) ∨ ((okR f 0 2 ∧ okR t 0 2) ∧ ¬ (f ≤ t ∧ okR q 1 10) ∧ u.2 = 2) ∨ ((okR f 0 2 ∧ okR t 0 2) ∧ (f ≤ t ∧ okR q 1 10) ∧ u.2 = 0 ∧ ((tooFull σ (cN f) (cN t) (cN q) ∧ r = -1) ∨ (¬ tooFull σ (cN f) (cN t) (cN q) ∧ r = disI σ (cN f) (cN t) (cN q))))) 0 0 := by
  refine cMI.of (cc := cX6_displaced) (maxL := 6) (by decide) rfl (Nat.le_of_ble_eq_true rfl) (Or.inl rfl) ?_
  intro p e s m args below meth c H0 A Q hx hb hml hown hts hP hK hD hS hA hret ls hl
  obtain ⟨H, locs, hH, hlo⟩ : ∃ (H : Heap) (locs : List Loc), H = H0 ∧ locs = [] := ⟨_, _, rfl, rfl⟩
  rw [← hH] at hP
  rw [show va_S A H0 H0 [] = va_S A H0 H locs by rw [hH, hlo]] at hS
  rw [show W p l e rmX6_displaced s m args below meth c H0 [] 0 0 Q (F0 m 0 ls []) = W p l e rmX6_displaced s m args below meth c H locs 0 0 Q (F0 m 0 ls []) by rw [hH, hlo]]
  have K19 : ∀ (v : Nat), (pV v (okR f 0 2 ∧ okR t 0 2)) → ∀ (H : Heap) (locs : List Loc), va_P D vwCl (WM ad cy σ er wo th) H → va_D A (WM ad cy σ er wo th) → va_S A H0 H locs → ∀ ls : Array Slot, lv_has ls 6 [(0, .ref (ad 0)), (1, .int f), (2, .int t), (3, .int q)] → W p l e rmX6_displaced s m args below meth c H locs 0 0 Q (F0 m 19 ls [.int (nI v)]) := by
    intro v hv H locs hP hD hS ls hl
    have hvl := hv.le
    refine lv_istore (lv' := [(4, .int (nI v)), (0, .ref (ad 0)), (1, .int f), (2, .int t), (3, .int q)]) hx hb dX6_displaced_19 hl (by decide) rfl (fun ls hl => ?_)
    have K41 : ∀ (v2 : Nat), (pV v2 (f ≤ t ∧ okR q 1 10)) → ∀ (H : Heap) (locs : List Loc), va_P D vwCl (WM ad cy σ er wo th) H → va_D A (WM ad cy σ er wo th) → va_S A H0 H locs → ∀ ls : Array Slot, lv_has ls 6 [(0, .ref (ad 0)), (1, .int f), (2, .int t), (3, .int q), (4, .int (nI v))] → W p l e rmX6_displaced s m args below meth c H locs 0 0 Q (F0 m 41 ls [.int (nI v2)]) := by
      intro v2 hv2 H locs hP hD hS ls hl
      have hvl2 := hv2.le
      refine lv_istore (lv' := [(5, .int (nI v2)), (0, .ref (ad 0)), (1, .int f), (2, .int t), (3, .int q), (4, .int (nI v))]) hx hb dX6_displaced_41 hl (by decide) rfl (fun ls hl => ?_)
      refine lv_aload_n hx hb dX6_displaced_43 rfl (lv_at hl 1 rfl) ?_
      refine lv_iload hx hb dX6_displaced_44 (lv_at hl 5 rfl) ?_
      refine ln_if_ne (tgt := 53) hx hb (by omega) dX6_displaced_46 (by decide) (fun c46 => ?_) (fun c46 => ?_)
      · skip
        have hL := hv.yes c46
        refine lv_iload hx hb dX6_displaced_53 (lv_at hl 0 rfl) ?_
        refine ln_if_eq (tgt := 62) hx hb (by omega) dX6_displaced_55 (by decide) (fun c55 => ?_) (fun c55 => ?_)
        · skip
          have hR := hv2.no c55
          refine lv_iconst (v := nI 2) hx hb dX6_displaced_62 (by decide) ?_
          refine mw_calli (va_runV (As := [.int (nI 2)]) (rest := []) ⟨hx, hb, hml, hown, hts⟩ (c_X6_fails l D cy ad σ er wo th 2 (by omega) H.size) (cwV 1 hts gX6_displaced_X6_fails rfl rfl rfl hdX6_fails ⟨Nat.le_of_ble_eq_true rfl, Nat.le_of_ble_eq_true rfl⟩) (mo_preV hK rfl hP hD (va_recv hK.1 hP (ci := 6) (q0 := 0) rfl rfl)) rfl rfl hl.1 rfl (lv_room (Nat.le_of_ble_eq_true rfl)) dX6_displaced_63 ⟨Nat.le_of_ble_eq_true rfl, Nat.le_of_ble_eq_true rfl⟩) hS hD hA (fun r _ H locs hr hP hD hS => ?_)
          rcases hr with ⟨b63, rfl⟩ | ⟨b63, rfl⟩
          · skip
            refine lv_if_eq (tgt := 71) hx hb dX6_displaced_66 (by decide) (fun q => by first | exact absurd q (by decide) | exact absurd (by decide) q) (fun _ => ?_)
            refine lv_iconst (v := nI 0) hx hb dX6_displaced_69 (by decide) ?_
            exact hret (wo, 2) dX6_displaced_70 hP hD hS (Or.inr (Or.inl ⟨hL, hR, rfl⟩))
          · skip
            exact absurd (by decide) b63
        · skip
          have hR := hv2.yes c55
          refine lv_iconst (v := nI 0) hx hb dX6_displaced_58 (by decide) ?_
          refine lv_goto (tgt := 63) hx hb dX6_displaced_59 (by decide) ?_
          refine mw_calli (va_runV (As := [.int (nI 0)]) (rest := []) ⟨hx, hb, hml, hown, hts⟩ (c_X6_fails l D cy ad σ er wo th 0 (by omega) H.size) (cwV 1 hts gX6_displaced_X6_fails rfl rfl rfl hdX6_fails ⟨Nat.le_of_ble_eq_true rfl, Nat.le_of_ble_eq_true rfl⟩) (mo_preV hK rfl hP hD (va_recv hK.1 hP (ci := 6) (q0 := 0) rfl rfl)) rfl rfl hl.1 rfl (lv_room (Nat.le_of_ble_eq_true rfl)) dX6_displaced_63 ⟨Nat.le_of_ble_eq_true rfl, Nat.le_of_ble_eq_true rfl⟩) hS hD hA (fun r _ H locs hr hP hD hS => ?_)
          rcases hr with ⟨b63, rfl⟩ | ⟨b63, rfl⟩
          · skip
            exact absurd b63 (by decide)
          · skip
            obtain ⟨f1, hf1a, hf1b, rfl⟩ := okR_nat (a := 0) (b := 2) hL.1 (by decide) (by decide)
            obtain ⟨t1, ht1a, ht1b, rfl⟩ := okR_nat (a := 0) (b := 2) hL.2 (by decide) (by decide)
            obtain ⟨q1, hq1a, hq1b, rfl⟩ := okR_nat (a := 1) (b := 10) hR.2 (by decide) (by decide)
            have hft := (nI_leI (by omega) (by omega)).mp hR.1
            refine lv_if_eq (tgt := 71) hx hb dX6_displaced_66 (by decide) (fun _ => ?_) (fun q => by first | exact absurd q (by decide) | exact absurd (by decide) q)
            refine lv_aload_n hx hb dX6_displaced_71 rfl (lv_at hl 1 rfl) ?_
            refine lv_iload_n hx hb dX6_displaced_72 rfl (lv_at hl 2 rfl) ?_
            refine lv_iload_n hx hb dX6_displaced_73 rfl (lv_at hl 3 rfl) ?_
            refine lv_iload_n hx hb dX6_displaced_74 rfl (lv_at hl 4 rfl) ?_
            refine ro_calliB (va_runV (As := [.int (nI f1), .int (nI t1), .int (nI q1)]) (rest := []) ⟨hx, hb, hml, hown, hts⟩ (c_X6_isTooFull l D cy ad σ er wo 0 hI f1 t1 q1 (by omega) (by omega) (by omega) H hP) (cwV 3 hts gX6_displaced_X6_isTooFull rfl rfl rfl hdX6_isTooFull ⟨Nat.le_of_ble_eq_true rfl, Nat.le_of_ble_eq_true rfl⟩) (ro_preV hK (va_recv hK.1 hP (ci := 6) (q0 := 0) rfl rfl)) rfl rfl hl.1 rfl (lv_room (Nat.le_of_ble_eq_true rfl)) dX6_displaced_75 ⟨Nat.le_of_ble_eq_true rfl, Nat.le_of_ble_eq_true rfl⟩) (fun b75 => ?_) (fun b75 => ?_)
            · skip
              refine lv_if_eq (tgt := 83) hx hb dX6_displaced_78 (by decide) (fun q => by first | exact absurd q (by decide) | exact absurd (by decide) q) (fun _ => ?_)
              refine lv_iconst (v := -1) hx hb dX6_displaced_81 (by decide) ?_
              exact hret (wo, 0) dX6_displaced_82 hP hD hS (Or.inr (Or.inr ⟨hL, hR, rfl, Or.inl (by rw [cN_nI (by omega), cN_nI (by omega), cN_nI (by omega)]; exact ⟨b75, rfl⟩)⟩))
            · skip
              refine lv_if_eq (tgt := 83) hx hb dX6_displaced_78 (by decide) (fun _ => ?_) (fun q => by first | exact absurd q (by decide) | exact absurd (by decide) q)
              refine lv_aload_n hx hb dX6_displaced_83 rfl (lv_at hl 1 rfl) ?_
              refine mw_callv (va_runV (As := []) (rest := []) ⟨hx, hb, hml, hown, hts⟩ (c_X6_finds l D cy ad σ er wo 0 hI H.size) (cwV 0 hts gX6_displaced_X6_finds rfl rfl rfl hdX6_finds ⟨Nat.le_of_ble_eq_true rfl, Nat.le_of_ble_eq_true rfl⟩) (mo_preV hK rfl hP hD (va_recv hK.1 hP (ci := 6) (q0 := 0) rfl rfl)) rfl rfl hl.1 rfl (lv_room (Nat.le_of_ble_eq_true rfl)) dX6_displaced_84 ⟨Nat.le_of_ble_eq_true rfl, Nat.le_of_ble_eq_true rfl⟩) hS hD hA (fun u H locs hr84 hP hD hS => ?_)
              have hT := hr84
              refine lv_aload_n hx hb dX6_displaced_87 rfl (lv_at hl 1 rfl) ?_
              refine lv_iload_n hx hb dX6_displaced_88 rfl (lv_at hl 2 rfl) ?_
              refine lv_iload_n hx hb dX6_displaced_89 rfl (lv_at hl 3 rfl) ?_
              refine lv_iload_n hx hb dX6_displaced_90 rfl (lv_at hl 4 rfl) ?_
              refine ro_calli (va_runV (As := [.int (nI f1), .int (nI t1), .int (nI q1)]) (rest := []) ⟨hx, hb, hml, hown, hts⟩ (c_X6_displaces l D cy ad σ er u 0 hI hT f1 t1 q1 (by omega) (by omega) (by omega) (fun j h1 h2 => Nat.le_of_not_lt (fun z => b75 ⟨j, h1, h2, z⟩)) H hP) (cwV 3 hts gX6_displaced_X6_displaces rfl rfl rfl hdX6_displaces ⟨Nat.le_of_ble_eq_true rfl, Nat.le_of_ble_eq_true rfl⟩) (ro_preV hK (va_recv hK.1 hP (ci := 6) (q0 := 0) rfl rfl)) rfl rfl hl.1 rfl (lv_room (Nat.le_of_ble_eq_true rfl)) dX6_displaced_91 ⟨Nat.le_of_ble_eq_true rfl, Nat.le_of_ble_eq_true rfl⟩) (fun z91 hz91 => ?_)
              exact hret (u, 0) dX6_displaced_94 hP hD hS (Or.inr (Or.inr ⟨hL, hR, rfl, Or.inr (by rw [cN_nI (by omega), cN_nI (by omega), cN_nI (by omega)]; exact ⟨b75, hz91⟩)⟩))
      · skip
        have hL := hv.no c46
        refine lv_iconst (v := nI 1) hx hb dX6_displaced_49 (by decide) ?_
        refine lv_goto (tgt := 63) hx hb dX6_displaced_50 (by decide) ?_
        refine mw_calli (va_runV (As := [.int (nI 1)]) (rest := []) ⟨hx, hb, hml, hown, hts⟩ (c_X6_fails l D cy ad σ er wo th 1 (by omega) H.size) (cwV 1 hts gX6_displaced_X6_fails rfl rfl rfl hdX6_fails ⟨Nat.le_of_ble_eq_true rfl, Nat.le_of_ble_eq_true rfl⟩) (mo_preV hK rfl hP hD (va_recv hK.1 hP (ci := 6) (q0 := 0) rfl rfl)) rfl rfl hl.1 rfl (lv_room (Nat.le_of_ble_eq_true rfl)) dX6_displaced_63 ⟨Nat.le_of_ble_eq_true rfl, Nat.le_of_ble_eq_true rfl⟩) hS hD hA (fun r _ H locs hr hP hD hS => ?_)
        rcases hr with ⟨b63, rfl⟩ | ⟨b63, rfl⟩
        · skip
          refine lv_if_eq (tgt := 71) hx hb dX6_displaced_66 (by decide) (fun q => by first | exact absurd q (by decide) | exact absurd (by decide) q) (fun _ => ?_)
          refine lv_iconst (v := nI 0) hx hb dX6_displaced_69 (by decide) ?_
          exact hret (wo, 1) dX6_displaced_70 hP hD hS (Or.inl ⟨hL, rfl⟩)
        · skip
          exact absurd (by decide) b63
    refine lv_iload_n hx hb dX6_displaced_21 rfl (lv_at hl 3 rfl) ?_
    refine lv_iload_n hx hb dX6_displaced_22 rfl (lv_at hl 2 rfl) ?_
    refine lv_icmp_lt (tgt := 40) hx hb dX6_displaced_23 (by decide) (fun c23 => ?_) (fun c23 => ?_)
    · skip
      refine lv_iconst (v := nI 0) hx hb dX6_displaced_40 (by decide) ?_
      exact K41 0 (pV.f (fun z => by first | exact absurd z.1 (Int32.not_le.mpr c23) | exact b30 z.2)) H locs hP hD hS ls (lv_sub hl [1, 2, 3, 4, 0] rfl)
    · skip
      refine lv_iload_n hx hb dX6_displaced_26 rfl (lv_at hl 4 rfl) ?_
      refine lv_iconst (v := nI 1) hx hb dX6_displaced_27 (by decide) ?_
      refine lv_bipush (v := nI 10) hx hb dX6_displaced_28 (by decide) ?_
      refine ro_calliB (va_runS (As := [.int q, .int (nI 1), .int (nI 10)]) (rest := []) ⟨hx, hb, hml, hown, hts⟩ (c_X6_isIn l D cy (q) ((nI 1)) ((nI 10)) H va_P0) (va_cwS 3 hts gX6_displaced_X6_isIn rfl rfl rfl hdX6_isIn.2 ⟨Nat.le_of_ble_eq_true rfl, Nat.le_of_ble_eq_true rfl⟩) (ro_pre hK rfl) rfl rfl hl.1 rfl (lv_room (Nat.le_of_ble_eq_true rfl)) dX6_displaced_30 ⟨Nat.le_of_ble_eq_true rfl, Nat.le_of_ble_eq_true rfl⟩) (fun b30 => ?_) (fun b30 => ?_)
      · skip
        refine lv_if_eq (tgt := 40) hx hb dX6_displaced_33 (by decide) (fun q => by first | exact absurd q (by decide) | exact absurd (by decide) q) (fun _ => ?_)
        refine lv_iconst (v := nI 1) hx hb dX6_displaced_36 (by decide) ?_
        refine lv_goto (tgt := 41) hx hb dX6_displaced_37 (by decide) ?_
        exact K41 1 (pV.t ⟨Int32.not_lt.mp c23, b30⟩) H locs hP hD hS ls (lv_sub hl [1, 2, 3, 4, 0] rfl)
      · skip
        refine lv_if_eq (tgt := 40) hx hb dX6_displaced_33 (by decide) (fun _ => ?_) (fun q => by first | exact absurd q (by decide) | exact absurd (by decide) q)
        refine lv_iconst (v := nI 0) hx hb dX6_displaced_40 (by decide) ?_
        exact K41 0 (pV.f (fun z => by first | exact absurd z.1 (Int32.not_le.mpr c23) | exact b30 z.2)) H locs hP hD hS ls (lv_sub hl [1, 2, 3, 4, 0] rfl)
  refine lv_iload_n hx hb dX6_displaced_0 rfl (lv_at hl 1 rfl) ?_
  refine ro_calliB (va_runS (As := [.int f]) (rest := []) ⟨hx, hb, hml, hown, hts⟩ (c_X6_isLeg l D cy (f) H va_P0) (va_cwS 1 hts gX6_displaced_X6_isLeg rfl rfl rfl hdX6_isLeg.2 ⟨Nat.le_of_ble_eq_true rfl, Nat.le_of_ble_eq_true rfl⟩) (ro_pre hK rfl) rfl rfl hl.1 rfl (lv_room (Nat.le_of_ble_eq_true rfl)) dX6_displaced_1 ⟨Nat.le_of_ble_eq_true rfl, Nat.le_of_ble_eq_true rfl⟩) (fun b1 => ?_) (fun b1 => ?_)
  · skip
    refine lv_if_eq (tgt := 18) hx hb dX6_displaced_4 (by decide) (fun q => by first | exact absurd q (by decide) | exact absurd (by decide) q) (fun _ => ?_)
    refine lv_iload_n hx hb dX6_displaced_7 rfl (lv_at hl 2 rfl) ?_
    refine ro_calliB (va_runS (As := [.int t]) (rest := []) ⟨hx, hb, hml, hown, hts⟩ (c_X6_isLeg l D cy (t) H va_P0) (va_cwS 1 hts gX6_displaced_X6_isLeg rfl rfl rfl hdX6_isLeg.2 ⟨Nat.le_of_ble_eq_true rfl, Nat.le_of_ble_eq_true rfl⟩) (ro_pre hK rfl) rfl rfl hl.1 rfl (lv_room (Nat.le_of_ble_eq_true rfl)) dX6_displaced_8 ⟨Nat.le_of_ble_eq_true rfl, Nat.le_of_ble_eq_true rfl⟩) (fun b8 => ?_) (fun b8 => ?_)
    · skip
      refine lv_if_eq (tgt := 18) hx hb dX6_displaced_11 (by decide) (fun q => by first | exact absurd q (by decide) | exact absurd (by decide) q) (fun _ => ?_)
      refine lv_iconst (v := nI 1) hx hb dX6_displaced_14 (by decide) ?_
      refine lv_goto (tgt := 19) hx hb dX6_displaced_15 (by decide) ?_
      exact K19 1 (pV.t ⟨b1, b8⟩) H locs hP hD hS ls (lv_sub hl [0, 1, 2, 3] rfl)
    · skip
      refine lv_if_eq (tgt := 18) hx hb dX6_displaced_11 (by decide) (fun _ => ?_) (fun q => by first | exact absurd q (by decide) | exact absurd (by decide) q)
      refine lv_iconst (v := nI 0) hx hb dX6_displaced_18 (by decide) ?_
      exact K19 0 (pV.f (fun z => by first | exact b1 z.1 | exact b8 z.2)) H locs hP hD hS ls (lv_sub hl [0, 1, 2, 3] rfl)
  · skip
    refine lv_if_eq (tgt := 18) hx hb dX6_displaced_4 (by decide) (fun _ => ?_) (fun q => by first | exact absurd q (by decide) | exact absurd (by decide) q)
    refine lv_iconst (v := nI 0) hx hb dX6_displaced_18 (by decide) ?_
    exact K19 0 (pV.f (fun z => by first | exact b1 z.1 | exact b8 z.2)) H locs hP hD hS ls (lv_sub hl [0, 1, 2, 3] rfl)
set_option maxHeartbeats 4000000 in
set_option maxRecDepth 100000 in
theorem c_X6_of6 (l : Launch) (D : va_G) (cy : Nat → ClassId) (ad : Nat → Nat) (σ : SF) (er : Int64) (wo : Nat → Nat) (th : Nat) {n : Nat} (hI : Iv n σ) (v : Int32) : cMI l D cy yX6_of wsX6_of rmX6_of [.ref (ad 0), .ref (ad 6), .int v] (WM ad cy σ er wo th) (T := Nat) (fun u => WM ad cy σ er wo u) (fun r u => (isP σ v ∧ u = 0 ∧ r = nI (σ 6 (cN v))) ∨ (¬ isP σ v ∧ u = 1)) 0 0 := by
  refine cMI.of (cc := cX6_of) (maxL := 3) (by decide) rfl (Nat.le_of_ble_eq_true rfl) (Or.inl rfl) ?_
  intro p e s m args below meth c H0 A Q hx hb hml hown hts hP hK hD hS hA hret ls hl
  obtain ⟨H, locs, hH, hlo⟩ : ∃ (H : Heap) (locs : List Loc), H = H0 ∧ locs = [] := ⟨_, _, rfl, rfl⟩
  rw [← hH] at hP
  rw [show va_S A H0 H0 [] = va_S A H0 H locs by rw [hH, hlo]] at hS
  rw [show W p l e rmX6_of s m args below meth c H0 [] 0 0 Q (F0 m 0 ls []) = W p l e rmX6_of s m args below meth c H locs 0 0 Q (F0 m 0 ls []) by rw [hH, hlo]]
  refine lv_aload_n hx hb dX6_of_0 rfl (lv_at hl 0 rfl) ?_
  refine lv_aload_n hx hb dX6_of_1 rfl (lv_at hl 0 rfl) ?_
  refine lv_iload_n hx hb dX6_of_2 rfl (lv_at hl 2 rfl) ?_
  refine ro_calliB (va_runV (As := [.int v]) (rest := [.ref (ad 0)]) ⟨hx, hb, hml, hown, hts⟩ (c_X6_isProduct l D cy ad σ er wo th v hI.np H hP) (cwV 1 hts gX6_of_X6_isProduct rfl rfl rfl hdX6_isProduct ⟨Nat.le_of_ble_eq_true rfl, Nat.le_of_ble_eq_true rfl⟩) (ro_preV hK (va_recv hK.1 hP (ci := 6) (q0 := 0) rfl rfl)) rfl rfl hl.1 rfl (lv_room (Nat.le_of_ble_eq_true rfl)) dX6_of_3 ⟨Nat.le_of_ble_eq_true rfl, Nat.le_of_ble_eq_true rfl⟩) (fun b3 => ?_) (fun b3 => ?_)
  · skip
    refine lv_if_eq (tgt := 13) hx hb dX6_of_6 (by decide) (fun q => by first | exact absurd q (by decide) | exact absurd (by decide) q) (fun _ => ?_)
    refine lv_iconst (v := nI 0) hx hb dX6_of_9 (by decide) ?_
    refine lv_goto (tgt := 14) hx hb dX6_of_10 (by decide) ?_
    refine mw_calli (va_runV (As := [.int (nI 0)]) (rest := []) ⟨hx, hb, hml, hown, hts⟩ (c_X6_fails l D cy ad σ er wo th 0 (by omega) H.size) (cwV 1 hts gX6_of_X6_fails rfl rfl rfl hdX6_fails ⟨Nat.le_of_ble_eq_true rfl, Nat.le_of_ble_eq_true rfl⟩) (mo_preV hK rfl hP hD (va_recv hK.1 hP (ci := 6) (q0 := 0) rfl rfl)) rfl rfl hl.1 rfl (lv_room (Nat.le_of_ble_eq_true rfl)) dX6_of_14 ⟨Nat.le_of_ble_eq_true rfl, Nat.le_of_ble_eq_true rfl⟩) hS hD hA (fun r _ H locs hr hP hD hS => ?_)
    rcases hr with ⟨b14, rfl⟩ | ⟨b14, rfl⟩
    · skip
      exact absurd b14 (by decide)
    · skip
      obtain ⟨k, hk, rfl⟩ := b3
      have hnp := hI.np
      refine lv_if_eq (tgt := 24) hx hb dX6_of_17 (by decide) (fun _ => ?_) (fun q => by first | exact absurd q (by decide) | exact absurd (by decide) q)
      refine lv_aload_n hx hb dX6_of_24 rfl (lv_at hl 1 rfl) ?_
      refine lv_iload_n hx hb dX6_of_25 rfl (lv_at hl 2 rfl) ?_
      refine ml6 (v := σ 6 k) hx hb hK hP (by omega) rfl dX6_of_26 ?_
      exact hret 0 dX6_of_27 hP hD hS (Or.inl ⟨⟨k, hk, rfl⟩, rfl, by rw [cN_nI (by omega)]⟩)
  · skip
    refine lv_if_eq (tgt := 13) hx hb dX6_of_6 (by decide) (fun _ => ?_) (fun q => by first | exact absurd q (by decide) | exact absurd (by decide) q)
    refine lv_iconst (v := nI 1) hx hb dX6_of_13 (by decide) ?_
    refine mw_calli (va_runV (As := [.int (nI 1)]) (rest := []) ⟨hx, hb, hml, hown, hts⟩ (c_X6_fails l D cy ad σ er wo th 1 (by omega) H.size) (cwV 1 hts gX6_of_X6_fails rfl rfl rfl hdX6_fails ⟨Nat.le_of_ble_eq_true rfl, Nat.le_of_ble_eq_true rfl⟩) (mo_preV hK rfl hP hD (va_recv hK.1 hP (ci := 6) (q0 := 0) rfl rfl)) rfl rfl hl.1 rfl (lv_room (Nat.le_of_ble_eq_true rfl)) dX6_of_14 ⟨Nat.le_of_ble_eq_true rfl, Nat.le_of_ble_eq_true rfl⟩) hS hD hA (fun r _ H locs hr hP hD hS => ?_)
    rcases hr with ⟨b14, rfl⟩ | ⟨b14, rfl⟩
    · skip
      refine lv_if_eq (tgt := 24) hx hb dX6_of_17 (by decide) (fun q => by first | exact absurd q (by decide) | exact absurd (by decide) q) (fun _ => ?_)
      refine lv_iconst (v := nI 0) hx hb dX6_of_20 (by decide) ?_
      refine lv_goto (tgt := 27) hx hb dX6_of_21 (by decide) ?_
      exact hret 1 dX6_of_27 hP hD hS (Or.inr ⟨b3, rfl⟩)
    · skip
      exact absurd (by decide) b14
set_option maxHeartbeats 4000000 in
set_option maxRecDepth 100000 in
theorem c_X6_expected (l : Launch) (D : va_G) (cy : Nat → ClassId) (ad : Nat → Nat) (σ : SF) (er : Int64) (wo : Nat → Nat) (th : Nat) {n : Nat} (hI : Iv n σ) (v : Int32) : cMI l D cy yX6_expected wsX6_expected rmX6_expected [.ref (ad 0), .int v] (WM ad cy σ er wo th) (T := Nat) (fun u => WM ad cy σ er wo u) (fun r u => (isP σ v ∧ u = 0 ∧ r = nI (σ 6 (cN v))) ∨ (¬ isP σ v ∧ u = 1)) 0 0 := by
  refine cMI.of (cc := cX6_expected) (maxL := 2) (by decide) rfl (Nat.le_of_ble_eq_true rfl) (Or.inl rfl) ?_
  intro p e s m args below meth c H0 A Q hx hb hml hown hts hP hK hD hS hA hret ls hl
  obtain ⟨H, locs, hH, hlo⟩ : ∃ (H : Heap) (locs : List Loc), H = H0 ∧ locs = [] := ⟨_, _, rfl, rfl⟩
  rw [← hH] at hP
  rw [show va_S A H0 H0 [] = va_S A H0 H locs by rw [hH, hlo]] at hS
  rw [show W p l e rmX6_expected s m args below meth c H0 [] 0 0 Q (F0 m 0 ls []) = W p l e rmX6_expected s m args below meth c H locs 0 0 Q (F0 m 0 ls []) by rw [hH, hlo]]
  refine lv_aload_n hx hb dX6_expected_0 rfl (lv_at hl 0 rfl) ?_
  refine lv_aload_n hx hb dX6_expected_1 rfl (lv_at hl 0 rfl) ?_
  refine mg (v := .ref (ad 6)) hx hb hts fX6_expected_6 hown hK hP 6 (by decide) kX6_expected_2 rfl rfl dX6_expected_2 ?_
  refine lv_iload_n hx hb dX6_expected_5 rfl (lv_at hl 1 rfl) ?_
  refine mw_calli (va_runV (As := [.ref (ad 6), .int v]) (rest := []) ⟨hx, hb, hml, hown, hts⟩ (c_X6_of6 l D cy ad σ er wo th hI v H.size) (cwV 2 hts gX6_expected_X6_of rfl rfl rfl hdX6_of ⟨Nat.le_of_ble_eq_true rfl, Nat.le_of_ble_eq_true rfl⟩) (mo_preV hK rfl hP hD (va_recv hK.1 hP (ci := 6) (q0 := 0) rfl rfl)) rfl rfl hl.1 rfl (lv_room (Nat.le_of_ble_eq_true rfl)) dX6_expected_6 ⟨Nat.le_of_ble_eq_true rfl, Nat.le_of_ble_eq_true rfl⟩) hS hD hA (fun z6 u H locs hz6 hP hD hS => ?_)
  exact hret u dX6_expected_9 hP hD hS hz6
set_option maxHeartbeats 4000000 in
set_option maxRecDepth 100000 in
theorem c_X6_of7 (l : Launch) (D : va_G) (cy : Nat → ClassId) (ad : Nat → Nat) (σ : SF) (er : Int64) (wo : Nat → Nat) (th : Nat) {n : Nat} (hI : Iv n σ) (v : Int32) : cMI l D cy yX6_of wsX6_of rmX6_of [.ref (ad 0), .ref (ad 7), .int v] (WM ad cy σ er wo th) (T := Nat) (fun u => WM ad cy σ er wo u) (fun r u => (isP σ v ∧ u = 0 ∧ r = nI (σ 7 (cN v))) ∨ (¬ isP σ v ∧ u = 1)) 0 0 := by
  refine cMI.of (cc := cX6_of) (maxL := 3) (by decide) rfl (Nat.le_of_ble_eq_true rfl) (Or.inl rfl) ?_
  intro p e s m args below meth c H0 A Q hx hb hml hown hts hP hK hD hS hA hret ls hl
  obtain ⟨H, locs, hH, hlo⟩ : ∃ (H : Heap) (locs : List Loc), H = H0 ∧ locs = [] := ⟨_, _, rfl, rfl⟩
  rw [← hH] at hP
  rw [show va_S A H0 H0 [] = va_S A H0 H locs by rw [hH, hlo]] at hS
  rw [show W p l e rmX6_of s m args below meth c H0 [] 0 0 Q (F0 m 0 ls []) = W p l e rmX6_of s m args below meth c H locs 0 0 Q (F0 m 0 ls []) by rw [hH, hlo]]
  refine lv_aload_n hx hb dX6_of_0 rfl (lv_at hl 0 rfl) ?_
  refine lv_aload_n hx hb dX6_of_1 rfl (lv_at hl 0 rfl) ?_
  refine lv_iload_n hx hb dX6_of_2 rfl (lv_at hl 2 rfl) ?_
  refine ro_calliB (va_runV (As := [.int v]) (rest := [.ref (ad 0)]) ⟨hx, hb, hml, hown, hts⟩ (c_X6_isProduct l D cy ad σ er wo th v hI.np H hP) (cwV 1 hts gX6_of_X6_isProduct rfl rfl rfl hdX6_isProduct ⟨Nat.le_of_ble_eq_true rfl, Nat.le_of_ble_eq_true rfl⟩) (ro_preV hK (va_recv hK.1 hP (ci := 6) (q0 := 0) rfl rfl)) rfl rfl hl.1 rfl (lv_room (Nat.le_of_ble_eq_true rfl)) dX6_of_3 ⟨Nat.le_of_ble_eq_true rfl, Nat.le_of_ble_eq_true rfl⟩) (fun b3 => ?_) (fun b3 => ?_)
  · skip
    refine lv_if_eq (tgt := 13) hx hb dX6_of_6 (by decide) (fun q => by first | exact absurd q (by decide) | exact absurd (by decide) q) (fun _ => ?_)
    refine lv_iconst (v := nI 0) hx hb dX6_of_9 (by decide) ?_
    refine lv_goto (tgt := 14) hx hb dX6_of_10 (by decide) ?_
    refine mw_calli (va_runV (As := [.int (nI 0)]) (rest := []) ⟨hx, hb, hml, hown, hts⟩ (c_X6_fails l D cy ad σ er wo th 0 (by omega) H.size) (cwV 1 hts gX6_of_X6_fails rfl rfl rfl hdX6_fails ⟨Nat.le_of_ble_eq_true rfl, Nat.le_of_ble_eq_true rfl⟩) (mo_preV hK rfl hP hD (va_recv hK.1 hP (ci := 6) (q0 := 0) rfl rfl)) rfl rfl hl.1 rfl (lv_room (Nat.le_of_ble_eq_true rfl)) dX6_of_14 ⟨Nat.le_of_ble_eq_true rfl, Nat.le_of_ble_eq_true rfl⟩) hS hD hA (fun r _ H locs hr hP hD hS => ?_)
    rcases hr with ⟨b14, rfl⟩ | ⟨b14, rfl⟩
    · skip
      exact absurd b14 (by decide)
    · skip
      obtain ⟨k, hk, rfl⟩ := b3
      have hnp := hI.np
      refine lv_if_eq (tgt := 24) hx hb dX6_of_17 (by decide) (fun _ => ?_) (fun q => by first | exact absurd q (by decide) | exact absurd (by decide) q)
      refine lv_aload_n hx hb dX6_of_24 rfl (lv_at hl 1 rfl) ?_
      refine lv_iload_n hx hb dX6_of_25 rfl (lv_at hl 2 rfl) ?_
      refine ml7 (v := σ 7 k) hx hb hK hP (by omega) rfl dX6_of_26 ?_
      exact hret 0 dX6_of_27 hP hD hS (Or.inl ⟨⟨k, hk, rfl⟩, rfl, by rw [cN_nI (by omega)]⟩)
  · skip
    refine lv_if_eq (tgt := 13) hx hb dX6_of_6 (by decide) (fun _ => ?_) (fun q => by first | exact absurd q (by decide) | exact absurd (by decide) q)
    refine lv_iconst (v := nI 1) hx hb dX6_of_13 (by decide) ?_
    refine mw_calli (va_runV (As := [.int (nI 1)]) (rest := []) ⟨hx, hb, hml, hown, hts⟩ (c_X6_fails l D cy ad σ er wo th 1 (by omega) H.size) (cwV 1 hts gX6_of_X6_fails rfl rfl rfl hdX6_fails ⟨Nat.le_of_ble_eq_true rfl, Nat.le_of_ble_eq_true rfl⟩) (mo_preV hK rfl hP hD (va_recv hK.1 hP (ci := 6) (q0 := 0) rfl rfl)) rfl rfl hl.1 rfl (lv_room (Nat.le_of_ble_eq_true rfl)) dX6_of_14 ⟨Nat.le_of_ble_eq_true rfl, Nat.le_of_ble_eq_true rfl⟩) hS hD hA (fun r _ H locs hr hP hD hS => ?_)
    rcases hr with ⟨b14, rfl⟩ | ⟨b14, rfl⟩
    · skip
      refine lv_if_eq (tgt := 24) hx hb dX6_of_17 (by decide) (fun q => by first | exact absurd q (by decide) | exact absurd (by decide) q) (fun _ => ?_)
      refine lv_iconst (v := nI 0) hx hb dX6_of_20 (by decide) ?_
      refine lv_goto (tgt := 27) hx hb dX6_of_21 (by decide) ?_
      exact hret 1 dX6_of_27 hP hD hS (Or.inr ⟨b3, rfl⟩)
    · skip
      exact absurd (by decide) b14
set_option maxHeartbeats 4000000 in
set_option maxRecDepth 100000 in
theorem c_X6_asked (l : Launch) (D : va_G) (cy : Nat → ClassId) (ad : Nat → Nat) (σ : SF) (er : Int64) (wo : Nat → Nat) (th : Nat) {n : Nat} (hI : Iv n σ) (v : Int32) : cMI l D cy yX6_asked wsX6_asked rmX6_asked [.ref (ad 0), .int v] (WM ad cy σ er wo th) (T := Nat) (fun u => WM ad cy σ er wo u) (fun r u => (isP σ v ∧ u = 0 ∧ r = nI (σ 7 (cN v))) ∨ (¬ isP σ v ∧ u = 1)) 0 0 := by
  refine cMI.of (cc := cX6_asked) (maxL := 2) (by decide) rfl (Nat.le_of_ble_eq_true rfl) (Or.inl rfl) ?_
  intro p e s m args below meth c H0 A Q hx hb hml hown hts hP hK hD hS hA hret ls hl
  obtain ⟨H, locs, hH, hlo⟩ : ∃ (H : Heap) (locs : List Loc), H = H0 ∧ locs = [] := ⟨_, _, rfl, rfl⟩
  rw [← hH] at hP
  rw [show va_S A H0 H0 [] = va_S A H0 H locs by rw [hH, hlo]] at hS
  rw [show W p l e rmX6_asked s m args below meth c H0 [] 0 0 Q (F0 m 0 ls []) = W p l e rmX6_asked s m args below meth c H locs 0 0 Q (F0 m 0 ls []) by rw [hH, hlo]]
  refine lv_aload_n hx hb dX6_asked_0 rfl (lv_at hl 0 rfl) ?_
  refine lv_aload_n hx hb dX6_asked_1 rfl (lv_at hl 0 rfl) ?_
  refine mg (v := .ref (ad 7)) hx hb hts fX6_asked_6 hown hK hP 7 (by decide) kX6_asked_2 rfl rfl dX6_asked_2 ?_
  refine lv_iload_n hx hb dX6_asked_5 rfl (lv_at hl 1 rfl) ?_
  refine mw_calli (va_runV (As := [.ref (ad 7), .int v]) (rest := []) ⟨hx, hb, hml, hown, hts⟩ (c_X6_of7 l D cy ad σ er wo th hI v H.size) (cwV 2 hts gX6_asked_X6_of rfl rfl rfl hdX6_of ⟨Nat.le_of_ble_eq_true rfl, Nat.le_of_ble_eq_true rfl⟩) (mo_preV hK rfl hP hD (va_recv hK.1 hP (ci := 6) (q0 := 0) rfl rfl)) rfl rfl hl.1 rfl (lv_room (Nat.le_of_ble_eq_true rfl)) dX6_asked_6 ⟨Nat.le_of_ble_eq_true rfl, Nat.le_of_ble_eq_true rfl⟩) hS hD hA (fun z6 u H locs hz6 hP hD hS => ?_)
  exact hret u dX6_asked_9 hP hD hS hz6
set_option maxHeartbeats 4000000 in
set_option maxRecDepth 100000 in
theorem c_X6_refused (l : Launch) (D : va_G) (cy : Nat → ClassId) (ad : Nat → Nat) (σ : SF) (er : Int64) (wo : Nat → Nat) (th : Nat) (v : Int32) : cMI l D cy yX6_refused wsX6_refused rmX6_refused [.ref (ad 0), .int v] (WM ad cy σ er wo th) (T := Nat) (fun u => WM ad cy σ er wo u) (fun r u => (okN v ∧ u = 0 ∧ r = nI (σ 15 (cN (-v)))) ∨ (¬ okN v ∧ u = 1)) 0 0 := by
  refine cMI.of (cc := cX6_refused) (maxL := 2) (by decide) rfl (Nat.le_of_ble_eq_true rfl) (Or.inl rfl) ?_
  intro p e s m args below meth c H0 A Q hx hb hml hown hts hP hK hD hS hA hret ls hl
  obtain ⟨H, locs, hH, hlo⟩ : ∃ (H : Heap) (locs : List Loc), H = H0 ∧ locs = [] := ⟨_, _, rfl, rfl⟩
  rw [← hH] at hP
  rw [show va_S A H0 H0 [] = va_S A H0 H locs by rw [hH, hlo]] at hS
  rw [show W p l e rmX6_refused s m args below meth c H0 [] 0 0 Q (F0 m 0 ls []) = W p l e rmX6_refused s m args below meth c H locs 0 0 Q (F0 m 0 ls []) by rw [hH, hlo]]
  refine lv_aload_n hx hb dX6_refused_0 rfl (lv_at hl 0 rfl) ?_
  refine lv_iload_n hx hb dX6_refused_1 rfl (lv_at hl 1 rfl) ?_
  refine lv_bipush (v := -3) hx hb dX6_refused_2 (by decide) ?_
  refine lv_iconst (v := -1) hx hb dX6_refused_4 (by decide) ?_
  refine ro_calliB (va_runS (As := [.int v, .int ((-3)), .int ((-1))]) (rest := [.ref (ad 0)]) ⟨hx, hb, hml, hown, hts⟩ (c_X6_isIn l D cy (v) (((-3))) (((-1))) H va_P0) (va_cwS 3 hts gX6_refused_X6_isIn rfl rfl rfl hdX6_isIn.2 ⟨Nat.le_of_ble_eq_true rfl, Nat.le_of_ble_eq_true rfl⟩) (ro_pre hK rfl) rfl rfl hl.1 rfl (lv_room (Nat.le_of_ble_eq_true rfl)) dX6_refused_5 ⟨Nat.le_of_ble_eq_true rfl, Nat.le_of_ble_eq_true rfl⟩) (fun b5 => ?_) (fun b5 => ?_)
  · skip
    refine lv_if_eq (tgt := 15) hx hb dX6_refused_8 (by decide) (fun q => by first | exact absurd q (by decide) | exact absurd (by decide) q) (fun _ => ?_)
    refine lv_iconst (v := nI 0) hx hb dX6_refused_11 (by decide) ?_
    refine lv_goto (tgt := 16) hx hb dX6_refused_12 (by decide) ?_
    refine mw_calli (va_runV (As := [.int (nI 0)]) (rest := []) ⟨hx, hb, hml, hown, hts⟩ (c_X6_fails l D cy ad σ er wo th 0 (by omega) H.size) (cwV 1 hts gX6_refused_X6_fails rfl rfl rfl hdX6_fails ⟨Nat.le_of_ble_eq_true rfl, Nat.le_of_ble_eq_true rfl⟩) (mo_preV hK rfl hP hD (va_recv hK.1 hP (ci := 6) (q0 := 0) rfl rfl)) rfl rfl hl.1 rfl (lv_room (Nat.le_of_ble_eq_true rfl)) dX6_refused_16 ⟨Nat.le_of_ble_eq_true rfl, Nat.le_of_ble_eq_true rfl⟩) hS hD hA (fun r _ H locs hr hP hD hS => ?_)
    rcases hr with ⟨b16, rfl⟩ | ⟨b16, rfl⟩
    · skip
      exact absurd b16 (by decide)
    · skip
      obtain ⟨k, hk1, hk3, hk, -⟩ := okN_nat b5
      refine lv_if_eq (tgt := 26) hx hb dX6_refused_19 (by decide) (fun _ => ?_) (fun q => by first | exact absurd q (by decide) | exact absurd (by decide) q)
      refine lv_aload_n hx hb dX6_refused_26 rfl (lv_at hl 0 rfl) ?_
      refine mg (v := .ref (ad 15)) hx hb hts fX6_refused_6 hown hK hP 18 (by decide) kX6_refused_27 rfl rfl dX6_refused_27 ?_
      refine lv_iload_n hx hb dX6_refused_30 rfl (lv_at hl 1 rfl) ?_
      refine lv_ineg hx hb dX6_refused_31 ?_
      rw [hk]
      refine ml15 (v := σ 15 k) hx hb hK hP (by omega) rfl dX6_refused_32 ?_
      exact hret 0 dX6_refused_33 hP hD hS (Or.inl ⟨b5, rfl, by rw [hk, cN_nI (by omega)]⟩)
  · skip
    refine lv_if_eq (tgt := 15) hx hb dX6_refused_8 (by decide) (fun _ => ?_) (fun q => by first | exact absurd q (by decide) | exact absurd (by decide) q)
    refine lv_iconst (v := nI 1) hx hb dX6_refused_15 (by decide) ?_
    refine mw_calli (va_runV (As := [.int (nI 1)]) (rest := []) ⟨hx, hb, hml, hown, hts⟩ (c_X6_fails l D cy ad σ er wo th 1 (by omega) H.size) (cwV 1 hts gX6_refused_X6_fails rfl rfl rfl hdX6_fails ⟨Nat.le_of_ble_eq_true rfl, Nat.le_of_ble_eq_true rfl⟩) (mo_preV hK rfl hP hD (va_recv hK.1 hP (ci := 6) (q0 := 0) rfl rfl)) rfl rfl hl.1 rfl (lv_room (Nat.le_of_ble_eq_true rfl)) dX6_refused_16 ⟨Nat.le_of_ble_eq_true rfl, Nat.le_of_ble_eq_true rfl⟩) hS hD hA (fun r _ H locs hr hP hD hS => ?_)
    rcases hr with ⟨b16, rfl⟩ | ⟨b16, rfl⟩
    · skip
      refine lv_if_eq (tgt := 26) hx hb dX6_refused_19 (by decide) (fun q => by first | exact absurd q (by decide) | exact absurd (by decide) q) (fun _ => ?_)
      refine lv_iconst (v := nI 0) hx hb dX6_refused_22 (by decide) ?_
      refine lv_goto (tgt := 33) hx hb dX6_refused_23 (by decide) ?_
      exact hret 1 dX6_refused_33 hP hD hS (Or.inr ⟨b5, rfl⟩)
    · skip
      exact absurd (by decide) b16
set_option maxHeartbeats 4000000 in
set_option maxRecDepth 100000 in
theorem c_X6_setSeats (l : Launch) (D : va_G) (cy : Nat → ClassId) (ad : Nat → Nat) (σ : SF) (er : Int64) (wo : Nat → Nat) (th : Nat) (f t q : Int32) : cMV l D cy yX6_setSeats wsX6_setSeats rmX6_setSeats [.ref (ad 0), .int f, .int t, .int q] (WM ad cy σ er wo th) (T := Nat × SF) (fun u => WM ad cy u.2 er wo u.1) (fun u => ((okR f 0 10 ∧ okR t 0 10 ∧ okR q 0 10) ∧ u = (0, seF σ (cN f) (cN t) (cN q))) ∨ (¬ (okR f 0 10 ∧ okR t 0 10 ∧ okR q 0 10) ∧ u = (1, σ))) 0 0 := by
  refine cMV.of (cc := cX6_setSeats) (maxL := 4) (by decide) rfl (Nat.le_of_ble_eq_true rfl) ?_
  intro p e s m args below meth c H0 A Q hx hb hml hown hts hP hK hD hS hA hin0 hret ls hl
  obtain ⟨H, locs, hH, hlo⟩ : ∃ (H : Heap) (locs : List Loc), H = H0 ∧ locs = [] := ⟨_, _, rfl, rfl⟩
  rw [← hH] at hP
  rw [show va_S A H0 H0 [] = va_S A H0 H locs by rw [hH, hlo]] at hS
  rw [show W p l e rmX6_setSeats s m args below meth c H0 [] 0 0 Q (F0 m 0 ls []) = W p l e rmX6_setSeats s m args below meth c H locs 0 0 Q (F0 m 0 ls []) by rw [hH, hlo]]
  refine lv_aload_n hx hb dX6_setSeats_0 rfl (lv_at hl 0 rfl) ?_
  refine lv_iload_n hx hb dX6_setSeats_1 rfl (lv_at hl 1 rfl) ?_
  refine ro_calliB (va_runS (As := [.int f]) (rest := [.ref (ad 0)]) ⟨hx, hb, hml, hown, hts⟩ (c_X6_isSeats l D cy (f) H va_P0) (va_cwS 1 hts gX6_setSeats_X6_isSeats rfl rfl rfl hdX6_isSeats.2 ⟨Nat.le_of_ble_eq_true rfl, Nat.le_of_ble_eq_true rfl⟩) (ro_pre hK rfl) rfl rfl hl.1 rfl (lv_room (Nat.le_of_ble_eq_true rfl)) dX6_setSeats_2 ⟨Nat.le_of_ble_eq_true rfl, Nat.le_of_ble_eq_true rfl⟩) (fun b2 => ?_) (fun b2 => ?_)
  · skip
    refine lv_if_eq (tgt := 26) hx hb dX6_setSeats_5 (by decide) (fun q => by first | exact absurd q (by decide) | exact absurd (by decide) q) (fun _ => ?_)
    refine lv_iload_n hx hb dX6_setSeats_8 rfl (lv_at hl 2 rfl) ?_
    refine ro_calliB (va_runS (As := [.int t]) (rest := [.ref (ad 0)]) ⟨hx, hb, hml, hown, hts⟩ (c_X6_isSeats l D cy (t) H va_P0) (va_cwS 1 hts gX6_setSeats_X6_isSeats rfl rfl rfl hdX6_isSeats.2 ⟨Nat.le_of_ble_eq_true rfl, Nat.le_of_ble_eq_true rfl⟩) (ro_pre hK rfl) rfl rfl hl.1 rfl (lv_room (Nat.le_of_ble_eq_true rfl)) dX6_setSeats_9 ⟨Nat.le_of_ble_eq_true rfl, Nat.le_of_ble_eq_true rfl⟩) (fun b9 => ?_) (fun b9 => ?_)
    · skip
      refine lv_if_eq (tgt := 26) hx hb dX6_setSeats_12 (by decide) (fun q => by first | exact absurd q (by decide) | exact absurd (by decide) q) (fun _ => ?_)
      refine lv_iload_n hx hb dX6_setSeats_15 rfl (lv_at hl 3 rfl) ?_
      refine ro_calliB (va_runS (As := [.int q]) (rest := [.ref (ad 0)]) ⟨hx, hb, hml, hown, hts⟩ (c_X6_isSeats l D cy (q) H va_P0) (va_cwS 1 hts gX6_setSeats_X6_isSeats rfl rfl rfl hdX6_isSeats.2 ⟨Nat.le_of_ble_eq_true rfl, Nat.le_of_ble_eq_true rfl⟩) (ro_pre hK rfl) rfl rfl hl.1 rfl (lv_room (Nat.le_of_ble_eq_true rfl)) dX6_setSeats_16 ⟨Nat.le_of_ble_eq_true rfl, Nat.le_of_ble_eq_true rfl⟩) (fun b16 => ?_) (fun b16 => ?_)
      · skip
        refine lv_if_eq (tgt := 26) hx hb dX6_setSeats_19 (by decide) (fun q => by first | exact absurd q (by decide) | exact absurd (by decide) q) (fun _ => ?_)
        refine lv_iconst (v := nI 0) hx hb dX6_setSeats_22 (by decide) ?_
        refine lv_goto (tgt := 27) hx hb dX6_setSeats_23 (by decide) ?_
        refine mw_calli (va_runV (As := [.int (nI 0)]) (rest := []) ⟨hx, hb, hml, hown, hts⟩ (c_X6_fails l D cy ad σ er wo th 0 (by omega) H.size) (cwV 1 hts gX6_setSeats_X6_fails rfl rfl rfl hdX6_fails ⟨Nat.le_of_ble_eq_true rfl, Nat.le_of_ble_eq_true rfl⟩) (mo_preV hK rfl hP hD (va_recv hK.1 hP (ci := 6) (q0 := 0) rfl rfl)) rfl rfl hl.1 rfl (lv_room (Nat.le_of_ble_eq_true rfl)) dX6_setSeats_27 ⟨Nat.le_of_ble_eq_true rfl, Nat.le_of_ble_eq_true rfl⟩) hS hD hA (fun r _ H locs hr hP hD hS => ?_)
        rcases hr with ⟨b27, rfl⟩ | ⟨b27, rfl⟩
        · skip
          exact absurd b27 (by decide)
        · skip
          obtain ⟨f1, hf1a, hf1b, rfl⟩ := okR_nat (a := 0) (b := 10) b2 (by decide) (by decide)
          obtain ⟨t1, ht1a, ht1b, rfl⟩ := okR_nat (a := 0) (b := 10) b9 (by decide) (by decide)
          obtain ⟨q1, hq1a, hq1b, rfl⟩ := okR_nat (a := 0) (b := 10) b16 (by decide) (by decide)
          refine lv_if_ne (tgt := 54) hx hb dX6_setSeats_30 (by decide) (fun q => by first | exact absurd q (by decide) | exact absurd (by decide) q) (fun _ => ?_)
          refine lv_aload_n hx hb dX6_setSeats_33 rfl (lv_at hl 0 rfl) ?_
          refine mg (v := .ref (ad 1)) hx hb hts fX6_setSeats_6 hown hK hP 0 (by decide) kX6_setSeats_34 rfl rfl dX6_setSeats_34 ?_
          refine lv_iconst (v := nI 0) hx hb dX6_setSeats_37 (by decide) ?_
          refine lv_iload_n hx hb dX6_setSeats_38 rfl (lv_at hl 1 rfl) ?_
          refine ms1 hx hb hK hP hD hS (by omega) dX6_setSeats_39 (fun H locs hP hD hS => ?_)
          refine lv_aload_n hx hb dX6_setSeats_40 rfl (lv_at hl 0 rfl) ?_
          refine mg (v := .ref (ad 1)) hx hb hts fX6_setSeats_6 hown hK hP 0 (by decide) kX6_setSeats_41 rfl rfl dX6_setSeats_41 ?_
          refine lv_iconst (v := nI 1) hx hb dX6_setSeats_44 (by decide) ?_
          refine lv_iload_n hx hb dX6_setSeats_45 rfl (lv_at hl 2 rfl) ?_
          refine ms1 hx hb hK hP hD hS (by omega) dX6_setSeats_46 (fun H locs hP hD hS => ?_)
          refine lv_aload_n hx hb dX6_setSeats_47 rfl (lv_at hl 0 rfl) ?_
          refine mg (v := .ref (ad 1)) hx hb hts fX6_setSeats_6 hown hK hP 0 (by decide) kX6_setSeats_48 rfl rfl dX6_setSeats_48 ?_
          refine lv_iconst (v := nI 2) hx hb dX6_setSeats_51 (by decide) ?_
          refine lv_iload_n hx hb dX6_setSeats_52 rfl (lv_at hl 3 rfl) ?_
          refine ms1 hx hb hK hP hD hS (by omega) dX6_setSeats_53 (fun H locs hP hD hS => ?_)
          have hP : va_P D vwCl (WM ad cy (va_up σ 1 (va_up (va_up (va_up (σ 1) 0 f1) 1 t1) 2 q1)) er wo 0) H := hP
          have hD : va_D A (WM ad cy (va_up σ 1 (va_up (va_up (va_up (σ 1) 0 f1) 1 t1) 2 q1)) er wo 0) := hD
          exact hret (0, seF σ f1 t1 q1) dX6_setSeats_54 hP hD hS (Or.inl ⟨⟨b2, b9, b16⟩, by rw [cN_nI (by omega), cN_nI (by omega), cN_nI (by omega)]⟩)
      · skip
        refine lv_if_eq (tgt := 26) hx hb dX6_setSeats_19 (by decide) (fun _ => ?_) (fun q => by first | exact absurd q (by decide) | exact absurd (by decide) q)
        refine lv_iconst (v := nI 1) hx hb dX6_setSeats_26 (by decide) ?_
        refine mw_calli (va_runV (As := [.int (nI 1)]) (rest := []) ⟨hx, hb, hml, hown, hts⟩ (c_X6_fails l D cy ad σ er wo th 1 (by omega) H.size) (cwV 1 hts gX6_setSeats_X6_fails rfl rfl rfl hdX6_fails ⟨Nat.le_of_ble_eq_true rfl, Nat.le_of_ble_eq_true rfl⟩) (mo_preV hK rfl hP hD (va_recv hK.1 hP (ci := 6) (q0 := 0) rfl rfl)) rfl rfl hl.1 rfl (lv_room (Nat.le_of_ble_eq_true rfl)) dX6_setSeats_27 ⟨Nat.le_of_ble_eq_true rfl, Nat.le_of_ble_eq_true rfl⟩) hS hD hA (fun r _ H locs hr hP hD hS => ?_)
        rcases hr with ⟨b27, rfl⟩ | ⟨b27, rfl⟩
        · skip
          refine lv_if_ne (tgt := 54) hx hb dX6_setSeats_30 (by decide) (fun _ => ?_) (fun q => by first | exact absurd q (by decide) | exact absurd (by decide) q)
          exact hret (1, σ) dX6_setSeats_54 hP hD hS (Or.inr ⟨fun z => by first | exact b2 z.1 | exact b9 z.2.1 | exact b16 z.2.2, rfl⟩)
        · skip
          exact absurd (by decide) b27
    · skip
      refine lv_if_eq (tgt := 26) hx hb dX6_setSeats_12 (by decide) (fun _ => ?_) (fun q => by first | exact absurd q (by decide) | exact absurd (by decide) q)
      refine lv_iconst (v := nI 1) hx hb dX6_setSeats_26 (by decide) ?_
      refine mw_calli (va_runV (As := [.int (nI 1)]) (rest := []) ⟨hx, hb, hml, hown, hts⟩ (c_X6_fails l D cy ad σ er wo th 1 (by omega) H.size) (cwV 1 hts gX6_setSeats_X6_fails rfl rfl rfl hdX6_fails ⟨Nat.le_of_ble_eq_true rfl, Nat.le_of_ble_eq_true rfl⟩) (mo_preV hK rfl hP hD (va_recv hK.1 hP (ci := 6) (q0 := 0) rfl rfl)) rfl rfl hl.1 rfl (lv_room (Nat.le_of_ble_eq_true rfl)) dX6_setSeats_27 ⟨Nat.le_of_ble_eq_true rfl, Nat.le_of_ble_eq_true rfl⟩) hS hD hA (fun r _ H locs hr hP hD hS => ?_)
      rcases hr with ⟨b27, rfl⟩ | ⟨b27, rfl⟩
      · skip
        refine lv_if_ne (tgt := 54) hx hb dX6_setSeats_30 (by decide) (fun _ => ?_) (fun q => by first | exact absurd q (by decide) | exact absurd (by decide) q)
        exact hret (1, σ) dX6_setSeats_54 hP hD hS (Or.inr ⟨fun z => by first | exact b2 z.1 | exact b9 z.2.1 | exact b16 z.2.2, rfl⟩)
      · skip
        exact absurd (by decide) b27
  · skip
    refine lv_if_eq (tgt := 26) hx hb dX6_setSeats_5 (by decide) (fun _ => ?_) (fun q => by first | exact absurd q (by decide) | exact absurd (by decide) q)
    refine lv_iconst (v := nI 1) hx hb dX6_setSeats_26 (by decide) ?_
    refine mw_calli (va_runV (As := [.int (nI 1)]) (rest := []) ⟨hx, hb, hml, hown, hts⟩ (c_X6_fails l D cy ad σ er wo th 1 (by omega) H.size) (cwV 1 hts gX6_setSeats_X6_fails rfl rfl rfl hdX6_fails ⟨Nat.le_of_ble_eq_true rfl, Nat.le_of_ble_eq_true rfl⟩) (mo_preV hK rfl hP hD (va_recv hK.1 hP (ci := 6) (q0 := 0) rfl rfl)) rfl rfl hl.1 rfl (lv_room (Nat.le_of_ble_eq_true rfl)) dX6_setSeats_27 ⟨Nat.le_of_ble_eq_true rfl, Nat.le_of_ble_eq_true rfl⟩) hS hD hA (fun r _ H locs hr hP hD hS => ?_)
    rcases hr with ⟨b27, rfl⟩ | ⟨b27, rfl⟩
    · skip
      refine lv_if_ne (tgt := 54) hx hb dX6_setSeats_30 (by decide) (fun _ => ?_) (fun q => by first | exact absurd q (by decide) | exact absurd (by decide) q)
      exact hret (1, σ) dX6_setSeats_54 hP hD hS (Or.inr ⟨fun z => by first | exact b2 z.1 | exact b9 z.2.1 | exact b16 z.2.2, rfl⟩)
    · skip
      exact absurd (by decide) b27
set_option maxHeartbeats 4000000 in
set_option maxRecDepth 100000 in
theorem c_X6_setExpected (l : Launch) (D : va_G) (cy : Nat → ClassId) (ad : Nat → Nat) (σ : SF) (er : Int64) (wo : Nat → Nat) (th : Nat) {n : Nat} (hI : Iv n σ) (v w : Int32) : cMI l D cy yX6_setExpected wsX6_setExpected rmX6_setExpected [.ref (ad 0), .int v, .int w] (WM ad cy σ er wo th) (T := Nat × SF) (fun u => WM ad cy u.2 er wo u.1) (fun r u => (¬ isP σ v ∧ u = (1, σ)) ∨ (isP σ v ∧ ¬ okR w 0 20 ∧ u = (2, σ)) ∨ (isP σ v ∧ okR w 0 20 ∧ u = (0, exF σ (cN v) (cN w)) ∧ r = nI (σ 6 (cN v)))) 0 0 := by
  refine cMI.of (cc := cX6_setExpected) (maxL := 4) (by decide) rfl (Nat.le_of_ble_eq_true rfl) (Or.inl rfl) ?_
  intro p e s m args below meth c H0 A Q hx hb hml hown hts hP hK hD hS hA hret ls hl
  obtain ⟨H, locs, hH, hlo⟩ : ∃ (H : Heap) (locs : List Loc), H = H0 ∧ locs = [] := ⟨_, _, rfl, rfl⟩
  rw [← hH] at hP
  rw [show va_S A H0 H0 [] = va_S A H0 H locs by rw [hH, hlo]] at hS
  rw [show W p l e rmX6_setExpected s m args below meth c H0 [] 0 0 Q (F0 m 0 ls []) = W p l e rmX6_setExpected s m args below meth c H locs 0 0 Q (F0 m 0 ls []) by rw [hH, hlo]]
  refine lv_aload_n hx hb dX6_setExpected_0 rfl (lv_at hl 0 rfl) ?_
  refine lv_aload_n hx hb dX6_setExpected_1 rfl (lv_at hl 0 rfl) ?_
  refine lv_iload_n hx hb dX6_setExpected_2 rfl (lv_at hl 1 rfl) ?_
  refine ro_calliB (va_runV (As := [.int v]) (rest := [.ref (ad 0)]) ⟨hx, hb, hml, hown, hts⟩ (c_X6_isProduct l D cy ad σ er wo th v hI.np H hP) (cwV 1 hts gX6_setExpected_X6_isProduct rfl rfl rfl hdX6_isProduct ⟨Nat.le_of_ble_eq_true rfl, Nat.le_of_ble_eq_true rfl⟩) (ro_preV hK (va_recv hK.1 hP (ci := 6) (q0 := 0) rfl rfl)) rfl rfl hl.1 rfl (lv_room (Nat.le_of_ble_eq_true rfl)) dX6_setExpected_3 ⟨Nat.le_of_ble_eq_true rfl, Nat.le_of_ble_eq_true rfl⟩) (fun b3 => ?_) (fun b3 => ?_)
  · skip
    refine lv_if_ne (tgt := 13) hx hb dX6_setExpected_6 (by decide) (fun _ => ?_) (fun q => by first | exact absurd q (by decide) | exact absurd (by decide) q)
    refine lv_iload_n hx hb dX6_setExpected_13 rfl (lv_at hl 2 rfl) ?_
    refine lv_iconst (v := nI 0) hx hb dX6_setExpected_14 (by decide) ?_
    refine lv_bipush (v := nI 20) hx hb dX6_setExpected_15 (by decide) ?_
    refine ro_calliB (va_runS (As := [.int w, .int (nI 0), .int (nI 20)]) (rest := [.ref (ad 0)]) ⟨hx, hb, hml, hown, hts⟩ (c_X6_isIn l D cy (w) ((nI 0)) ((nI 20)) H va_P0) (va_cwS 3 hts gX6_setExpected_X6_isIn rfl rfl rfl hdX6_isIn.2 ⟨Nat.le_of_ble_eq_true rfl, Nat.le_of_ble_eq_true rfl⟩) (ro_pre hK rfl) rfl rfl hl.1 rfl (lv_room (Nat.le_of_ble_eq_true rfl)) dX6_setExpected_17 ⟨Nat.le_of_ble_eq_true rfl, Nat.le_of_ble_eq_true rfl⟩) (fun b17 => ?_) (fun b17 => ?_)
    · skip
      refine lv_if_eq (tgt := 27) hx hb dX6_setExpected_20 (by decide) (fun q => by first | exact absurd q (by decide) | exact absurd (by decide) q) (fun _ => ?_)
      refine lv_iconst (v := nI 0) hx hb dX6_setExpected_23 (by decide) ?_
      refine lv_goto (tgt := 28) hx hb dX6_setExpected_24 (by decide) ?_
      refine mw_calli (va_runV (As := [.int (nI 0)]) (rest := []) ⟨hx, hb, hml, hown, hts⟩ (c_X6_fails l D cy ad σ er wo th 0 (by omega) H.size) (cwV 1 hts gX6_setExpected_X6_fails rfl rfl rfl hdX6_fails ⟨Nat.le_of_ble_eq_true rfl, Nat.le_of_ble_eq_true rfl⟩) (mo_preV hK rfl hP hD (va_recv hK.1 hP (ci := 6) (q0 := 0) rfl rfl)) rfl rfl hl.1 rfl (lv_room (Nat.le_of_ble_eq_true rfl)) dX6_setExpected_28 ⟨Nat.le_of_ble_eq_true rfl, Nat.le_of_ble_eq_true rfl⟩) hS hD hA (fun r _ H locs hr hP hD hS => ?_)
      rcases hr with ⟨b28, rfl⟩ | ⟨b28, rfl⟩
      · skip
        exact absurd b28 (by decide)
      · skip
        obtain ⟨k, hk, rfl⟩ := b3
        have hnp := hI.np
        obtain ⟨m1, hm1a, hm1b, rfl⟩ := okR_nat (a := 0) (b := 20) b17 (by decide) (by decide)
        refine lv_if_eq (tgt := 36) hx hb dX6_setExpected_31 (by decide) (fun _ => ?_) (fun q => by first | exact absurd q (by decide) | exact absurd (by decide) q)
        refine lv_aload_n hx hb dX6_setExpected_36 rfl (lv_at hl 0 rfl) ?_
        refine mg (v := .ref (ad 6)) hx hb hts fX6_setExpected_6 hown hK hP 6 (by decide) kX6_setExpected_37 rfl rfl dX6_setExpected_37 ?_
        refine lv_iload_n hx hb dX6_setExpected_40 rfl (lv_at hl 1 rfl) ?_
        refine ml6 (v := σ 6 k) hx hb hK hP (by omega) rfl dX6_setExpected_41 ?_
        refine lv_istore_n (lv' := [(3, .int (nI (σ 6 k))), (0, .ref (ad 0)), (1, .int (nI k)), (2, .int (nI m1))]) hx hb dX6_setExpected_42 rfl hl (by decide) rfl (fun ls hl => ?_)
        refine lv_aload_n hx hb dX6_setExpected_43 rfl (lv_at hl 1 rfl) ?_
        refine mg (v := .ref (ad 6)) hx hb hts fX6_setExpected_6 hown hK hP 6 (by decide) kX6_setExpected_44 rfl rfl dX6_setExpected_44 ?_
        refine lv_iload_n hx hb dX6_setExpected_47 rfl (lv_at hl 2 rfl) ?_
        refine lv_iload_n hx hb dX6_setExpected_48 rfl (lv_at hl 3 rfl) ?_
        refine ms6 hx hb hK hP hD hS (by omega) dX6_setExpected_49 (fun H locs hP hD hS => ?_)
        refine lv_iload_n hx hb dX6_setExpected_50 rfl (lv_at hl 0 rfl) ?_
        have hP : va_P D vwCl (WM ad cy (va_up σ 6 (va_up (σ 6) k m1)) er wo 0) H := hP
        have hD : va_D A (WM ad cy (va_up σ 6 (va_up (σ 6) k m1)) er wo 0) := hD
        exact hret (0, exF σ k m1) dX6_setExpected_51 hP hD hS (Or.inr (Or.inr ⟨⟨k, hk, rfl⟩, b17, by rw [cN_nI (by omega), cN_nI (by omega)], by rw [cN_nI (by omega)]⟩))
    · skip
      refine lv_if_eq (tgt := 27) hx hb dX6_setExpected_20 (by decide) (fun _ => ?_) (fun q => by first | exact absurd q (by decide) | exact absurd (by decide) q)
      refine lv_iconst (v := nI 2) hx hb dX6_setExpected_27 (by decide) ?_
      refine mw_calli (va_runV (As := [.int (nI 2)]) (rest := []) ⟨hx, hb, hml, hown, hts⟩ (c_X6_fails l D cy ad σ er wo th 2 (by omega) H.size) (cwV 1 hts gX6_setExpected_X6_fails rfl rfl rfl hdX6_fails ⟨Nat.le_of_ble_eq_true rfl, Nat.le_of_ble_eq_true rfl⟩) (mo_preV hK rfl hP hD (va_recv hK.1 hP (ci := 6) (q0 := 0) rfl rfl)) rfl rfl hl.1 rfl (lv_room (Nat.le_of_ble_eq_true rfl)) dX6_setExpected_28 ⟨Nat.le_of_ble_eq_true rfl, Nat.le_of_ble_eq_true rfl⟩) hS hD hA (fun r _ H locs hr hP hD hS => ?_)
      rcases hr with ⟨b28, rfl⟩ | ⟨b28, rfl⟩
      · skip
        refine lv_if_eq (tgt := 36) hx hb dX6_setExpected_31 (by decide) (fun q => by first | exact absurd q (by decide) | exact absurd (by decide) q) (fun _ => ?_)
        refine lv_iconst (v := nI 0) hx hb dX6_setExpected_34 (by decide) ?_
        exact hret (2, σ) dX6_setExpected_35 hP hD hS (Or.inr (Or.inl ⟨b3, b17, rfl⟩))
      · skip
        exact absurd (by decide) b28
  · skip
    refine lv_if_ne (tgt := 13) hx hb dX6_setExpected_6 (by decide) (fun q => by first | exact absurd q (by decide) | exact absurd (by decide) q) (fun _ => ?_)
    refine lv_iconst (v := nI 1) hx hb dX6_setExpected_9 (by decide) ?_
    refine lv_goto (tgt := 28) hx hb dX6_setExpected_10 (by decide) ?_
    refine mw_calli (va_runV (As := [.int (nI 1)]) (rest := []) ⟨hx, hb, hml, hown, hts⟩ (c_X6_fails l D cy ad σ er wo th 1 (by omega) H.size) (cwV 1 hts gX6_setExpected_X6_fails rfl rfl rfl hdX6_fails ⟨Nat.le_of_ble_eq_true rfl, Nat.le_of_ble_eq_true rfl⟩) (mo_preV hK rfl hP hD (va_recv hK.1 hP (ci := 6) (q0 := 0) rfl rfl)) rfl rfl hl.1 rfl (lv_room (Nat.le_of_ble_eq_true rfl)) dX6_setExpected_28 ⟨Nat.le_of_ble_eq_true rfl, Nat.le_of_ble_eq_true rfl⟩) hS hD hA (fun r _ H locs hr hP hD hS => ?_)
    rcases hr with ⟨b28, rfl⟩ | ⟨b28, rfl⟩
    · skip
      refine lv_if_eq (tgt := 36) hx hb dX6_setExpected_31 (by decide) (fun q => by first | exact absurd q (by decide) | exact absurd (by decide) q) (fun _ => ?_)
      refine lv_iconst (v := nI 0) hx hb dX6_setExpected_34 (by decide) ?_
      exact hret (1, σ) dX6_setExpected_35 hP hD hS (Or.inl ⟨b3, rfl⟩)
    · skip
      exact absurd (by decide) b28
set_option maxHeartbeats 4000000 in
set_option maxRecDepth 100000 in
theorem c_X6_setRate (l : Launch) (D : va_G) (cy : Nat → ClassId) (ad : Nat → Nat) (σ : SF) (er : Int64) (wo : Nat → Nat) (th : Nat) (v : Int32) : cMI l D cy yX6_setRate wsX6_setRate rmX6_setRate [.ref (ad 0), .int v] (WM ad cy σ er wo th) (T := Nat × SF) (fun u => WM ad cy u.2 er wo u.1) (fun r u => (okR v 50 100 ∧ u = (0, raF σ (cN v)) ∧ r = nI (σ 0 2)) ∨ (¬ okR v 50 100 ∧ u = (1, σ))) 0 0 := by
  refine cMI.of (cc := cX6_setRate) (maxL := 3) (by decide) rfl (Nat.le_of_ble_eq_true rfl) (Or.inl rfl) ?_
  intro p e s m args below meth c H0 A Q hx hb hml hown hts hP hK hD hS hA hret ls hl
  obtain ⟨H, locs, hH, hlo⟩ : ∃ (H : Heap) (locs : List Loc), H = H0 ∧ locs = [] := ⟨_, _, rfl, rfl⟩
  rw [← hH] at hP
  rw [show va_S A H0 H0 [] = va_S A H0 H locs by rw [hH, hlo]] at hS
  rw [show W p l e rmX6_setRate s m args below meth c H0 [] 0 0 Q (F0 m 0 ls []) = W p l e rmX6_setRate s m args below meth c H locs 0 0 Q (F0 m 0 ls []) by rw [hH, hlo]]
  refine lv_aload_n hx hb dX6_setRate_0 rfl (lv_at hl 0 rfl) ?_
  refine lv_iload_n hx hb dX6_setRate_1 rfl (lv_at hl 1 rfl) ?_
  refine lv_bipush (v := nI 50) hx hb dX6_setRate_2 (by decide) ?_
  refine lv_bipush (v := nI 100) hx hb dX6_setRate_4 (by decide) ?_
  refine ro_calliB (va_runS (As := [.int v, .int (nI 50), .int (nI 100)]) (rest := [.ref (ad 0)]) ⟨hx, hb, hml, hown, hts⟩ (c_X6_isIn l D cy (v) ((nI 50)) ((nI 100)) H va_P0) (va_cwS 3 hts gX6_setRate_X6_isIn rfl rfl rfl hdX6_isIn.2 ⟨Nat.le_of_ble_eq_true rfl, Nat.le_of_ble_eq_true rfl⟩) (ro_pre hK rfl) rfl rfl hl.1 rfl (lv_room (Nat.le_of_ble_eq_true rfl)) dX6_setRate_6 ⟨Nat.le_of_ble_eq_true rfl, Nat.le_of_ble_eq_true rfl⟩) (fun b6 => ?_) (fun b6 => ?_)
  · skip
    refine lv_if_eq (tgt := 16) hx hb dX6_setRate_9 (by decide) (fun q => by first | exact absurd q (by decide) | exact absurd (by decide) q) (fun _ => ?_)
    refine lv_iconst (v := nI 0) hx hb dX6_setRate_12 (by decide) ?_
    refine lv_goto (tgt := 17) hx hb dX6_setRate_13 (by decide) ?_
    refine mw_calli (va_runV (As := [.int (nI 0)]) (rest := []) ⟨hx, hb, hml, hown, hts⟩ (c_X6_fails l D cy ad σ er wo th 0 (by omega) H.size) (cwV 1 hts gX6_setRate_X6_fails rfl rfl rfl hdX6_fails ⟨Nat.le_of_ble_eq_true rfl, Nat.le_of_ble_eq_true rfl⟩) (mo_preV hK rfl hP hD (va_recv hK.1 hP (ci := 6) (q0 := 0) rfl rfl)) rfl rfl hl.1 rfl (lv_room (Nat.le_of_ble_eq_true rfl)) dX6_setRate_17 ⟨Nat.le_of_ble_eq_true rfl, Nat.le_of_ble_eq_true rfl⟩) hS hD hA (fun r _ H locs hr hP hD hS => ?_)
    rcases hr with ⟨b17, rfl⟩ | ⟨b17, rfl⟩
    · skip
      exact absurd b17 (by decide)
    · skip
      obtain ⟨r1, hr1a, hr1b, rfl⟩ := okR_nat (a := 50) (b := 100) b6 (by decide) (by decide)
      refine lv_if_eq (tgt := 25) hx hb dX6_setRate_20 (by decide) (fun _ => ?_) (fun q => by first | exact absurd q (by decide) | exact absurd (by decide) q)
      refine lv_aload_n hx hb dX6_setRate_25 rfl (lv_at hl 0 rfl) ?_
      refine mg (v := .int (nI (σ 0 2))) hx hb hts fX6_setRate_6 hown hK hP 11 (by decide) kX6_setRate_26 rfl rfl dX6_setRate_26 ?_
      refine lv_istore_n (lv' := [(2, .int (nI (σ 0 2))), (0, .ref (ad 0)), (1, .int (nI r1))]) hx hb dX6_setRate_29 rfl hl (by decide) rfl (fun ls hl => ?_)
      refine lv_aload_n hx hb dX6_setRate_30 rfl (lv_at hl 1 rfl) ?_
      refine lv_iload_n hx hb dX6_setRate_31 rfl (lv_at hl 2 rfl) ?_
      refine mp_rate hx hb hts fX6_setRate_6 hown hK hP hD hS kX6_setRate_32 dX6_setRate_32 (fun H locs hP hD hS => ?_)
      refine lv_iload_n hx hb dX6_setRate_35 rfl (lv_at hl 0 rfl) ?_
      have hP : va_P D vwCl (WM ad cy (va_up σ 0 (va_up (σ 0) 2 r1)) er wo 0) H := hP
      have hD : va_D A (WM ad cy (va_up σ 0 (va_up (σ 0) 2 r1)) er wo 0) := hD
      exact hret (0, raF σ r1) dX6_setRate_36 hP hD hS (Or.inl ⟨b6, by rw [cN_nI (by omega)], rfl⟩)
  · skip
    refine lv_if_eq (tgt := 16) hx hb dX6_setRate_9 (by decide) (fun _ => ?_) (fun q => by first | exact absurd q (by decide) | exact absurd (by decide) q)
    refine lv_iconst (v := nI 1) hx hb dX6_setRate_16 (by decide) ?_
    refine mw_calli (va_runV (As := [.int (nI 1)]) (rest := []) ⟨hx, hb, hml, hown, hts⟩ (c_X6_fails l D cy ad σ er wo th 1 (by omega) H.size) (cwV 1 hts gX6_setRate_X6_fails rfl rfl rfl hdX6_fails ⟨Nat.le_of_ble_eq_true rfl, Nat.le_of_ble_eq_true rfl⟩) (mo_preV hK rfl hP hD (va_recv hK.1 hP (ci := 6) (q0 := 0) rfl rfl)) rfl rfl hl.1 rfl (lv_room (Nat.le_of_ble_eq_true rfl)) dX6_setRate_17 ⟨Nat.le_of_ble_eq_true rfl, Nat.le_of_ble_eq_true rfl⟩) hS hD hA (fun r _ H locs hr hP hD hS => ?_)
    rcases hr with ⟨b17, rfl⟩ | ⟨b17, rfl⟩
    · skip
      refine lv_if_eq (tgt := 25) hx hb dX6_setRate_20 (by decide) (fun q => by first | exact absurd q (by decide) | exact absurd (by decide) q) (fun _ => ?_)
      refine lv_iconst (v := nI 0) hx hb dX6_setRate_23 (by decide) ?_
      exact hret (1, σ) dX6_setRate_24 hP hD hS (Or.inr ⟨b6, rfl⟩)
    · skip
      exact absurd (by decide) b17
