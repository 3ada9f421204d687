set_option maxRecDepth 20000 in
theorem xo_IA : ∀ w ∈ (vx_atS RX5 76 "java/lang/IllegalArgumentException" ["java/lang/RuntimeException", "java/lang/Exception"]).filter (fun w => !goodWord w), w.onTables = true := by decide +kernel
theorem xhat_IA {s : State} {args : Array Value} (h1 : ∀ w ∈ (vx_atS RX5 76 "java/lang/IllegalArgumentException" ["java/lang/RuntimeException", "java/lang/Exception"]).filter goodWord, w.before args s = true) (hXW : XW s) : ∀ w ∈ vx_atS RX5 76 "java/lang/IllegalArgumentException" ["java/lang/RuntimeException", "java/lang/Exception"], w.before args s = true := vx_hat h1 (fun w hw => hw) (fun w hw => va_Nw.use (xo_IA w hw) (hXW.1 w (xn_IA w hw).1 (xn_IA w hw).2))
set_option maxRecDepth 20000 in
theorem xo_IO : ∀ w ∈ (vx_atS RX5 91 "java/lang/IndexOutOfBoundsException" ["java/lang/RuntimeException", "java/lang/Exception"]).filter (fun w => !goodWord w), w.onTables = true := by decide +kernel
theorem xhat_IO {s : State} {args : Array Value} (h1 : ∀ w ∈ (vx_atS RX5 91 "java/lang/IndexOutOfBoundsException" ["java/lang/RuntimeException", "java/lang/Exception"]).filter goodWord, w.before args s = true) (hXW : XW s) : ∀ w ∈ vx_atS RX5 91 "java/lang/IndexOutOfBoundsException" ["java/lang/RuntimeException", "java/lang/Exception"], w.before args s = true := vx_hat h1 (fun w hw => hw) (fun w hw => va_Nw.use (xo_IO w hw) (hXW.1 w (xn_IO w hw).1 (xn_IO w hw).2))
set_option maxRecDepth 20000 in
theorem xo_IS : ∀ w ∈ (vx_atS RX5 101 "java/lang/IllegalStateException" ["java/lang/RuntimeException", "java/lang/Exception"]).filter (fun w => !goodWord w), w.onTables = true := by decide +kernel
theorem xhat_IS {s : State} {args : Array Value} (h1 : ∀ w ∈ (vx_atS RX5 101 "java/lang/IllegalStateException" ["java/lang/RuntimeException", "java/lang/Exception"]).filter goodWord, w.before args s = true) (hXW : XW s) : ∀ w ∈ vx_atS RX5 101 "java/lang/IllegalStateException" ["java/lang/RuntimeException", "java/lang/Exception"], w.before args s = true := vx_hat h1 (fun w hw => hw) (fun w hw => va_Nw.use (xo_IS w hw) (hXW.1 w (xn_IS w hw).1 (xn_IS w hw).2))
set_option maxHeartbeats 4000000 in
set_option maxRecDepth 100000 in
theorem c_X5_setSeats (l : Launch) (hfl : l.stackTraces = false) (D : va_G) (cy : Nat → ClassId) (ad : Nat → Nat → Nat) (σ : SF) (er : Int64) (ofd de bo : Nat → Option Nat) (ql : Nat → Nat) (qs : Nat → Nat → Nat) (tv : Nat → Nat) (f t q : Int32) : cXV l D cy yX5_setSeats wsX5_setSeats rmX5_setSeats [.ref (ad 0 0), .int f, .int t, .int q] (WG ad cy (σ 0 0) (σ 0 3) σ er ofd de bo ql qs tv) (T := Unit) (fun _ => WG ad cy (σ 0 0) (σ 0 3) ((seF σ (cN f) (cN t) (cN q))) er ofd de bo ql qs tv) (fun _ => (okR f 0 10 ∧ okR t 0 10 ∧ okR q 0 10)) (fun E => ¬ (okR f 0 10 ∧ okR t 0 10 ∧ okR q 0 10) ∧ E = eIA) 1 6 := by
  refine cXV.of (cc := cX5_setSeats) (maxL := 4) hfl (by decide) rfl (Nat.le_of_ble_eq_true rfl) ?_
  intro p e s m args below meth c H0 A Q hx hb hml hown hts hP hK hD hS hA hXW hH0s hret hthr ls hl
  obtain ⟨H, locs, hH, hlo⟩ : ∃ (H : Heap) (locs : List Loc), H = H0 ∧ locs = [] := ⟨_, _, rfl, rfl⟩
  rw [← hH] at hP
  rw [show va_S A H0 H0 [] = va_S A H0 H locs by rw [hH, hlo]] at hS
  rw [show W p l e rmX5_setSeats s m args below meth c H0 [] 0 0 Q (F0 m 0 ls []) = W p l e rmX5_setSeats s m args below meth c H locs 0 0 Q (F0 m 0 ls []) by rw [hH, hlo]]
  refine lv_iload_n hx hb dX5_setSeats_0 rfl (lv_at hl 1 rfl) ?_
  refine lv_iconst (v := nI 0) hx hb dX5_setSeats_1 (by decide) ?_
  refine lv_bipush (v := nI 10) hx hb dX5_setSeats_2 (by decide) ?_
  refine ro_calliB (va_runS (As := [.int f, .int (nI 0), .int (nI 10)]) (rest := []) ⟨hx, hb, hml, hown, hts⟩ (c_X5_within l D cy (f) ((nI 0)) ((nI 10)) H va_P0) (va_cwS 3 hts gX5_setSeats_X5_within rfl rfl rfl hdX5_within.2 ⟨Nat.le_of_ble_eq_true rfl, Nat.le_of_ble_eq_true rfl⟩) (ro_pre hK rfl) rfl rfl hl.1 rfl (lv_room (Nat.le_of_ble_eq_true rfl)) dX5_setSeats_4 ⟨Nat.le_of_ble_eq_true rfl, Nat.le_of_ble_eq_true rfl⟩) (fun b4 => ?_) (fun b4 => ?_)
  · skip
    refine lv_if_eq (tgt := 30) hx hb dX5_setSeats_7 (by decide) (fun q => by first | exact absurd q (by decide) | exact absurd (by decide) q) (fun _ => ?_)
    refine lv_iload_n hx hb dX5_setSeats_10 rfl (lv_at hl 2 rfl) ?_
    refine lv_iconst (v := nI 0) hx hb dX5_setSeats_11 (by decide) ?_
    refine lv_bipush (v := nI 10) hx hb dX5_setSeats_12 (by decide) ?_
    refine ro_calliB (va_runS (As := [.int t, .int (nI 0), .int (nI 10)]) (rest := []) ⟨hx, hb, hml, hown, hts⟩ (c_X5_within l D cy (t) ((nI 0)) ((nI 10)) H va_P0) (va_cwS 3 hts gX5_setSeats_X5_within rfl rfl rfl hdX5_within.2 ⟨Nat.le_of_ble_eq_true rfl, Nat.le_of_ble_eq_true rfl⟩) (ro_pre hK rfl) rfl rfl hl.1 rfl (lv_room (Nat.le_of_ble_eq_true rfl)) dX5_setSeats_14 ⟨Nat.le_of_ble_eq_true rfl, Nat.le_of_ble_eq_true rfl⟩) (fun b14 => ?_) (fun b14 => ?_)
    · skip
      refine lv_if_eq (tgt := 30) hx hb dX5_setSeats_17 (by decide) (fun q => by first | exact absurd q (by decide) | exact absurd (by decide) q) (fun _ => ?_)
      refine lv_iload_n hx hb dX5_setSeats_20 rfl (lv_at hl 3 rfl) ?_
      refine lv_iconst (v := nI 0) hx hb dX5_setSeats_21 (by decide) ?_
      refine lv_bipush (v := nI 10) hx hb dX5_setSeats_22 (by decide) ?_
      refine ro_calliB (va_runS (As := [.int q, .int (nI 0), .int (nI 10)]) (rest := []) ⟨hx, hb, hml, hown, hts⟩ (c_X5_within l D cy (q) ((nI 0)) ((nI 10)) H va_P0) (va_cwS 3 hts gX5_setSeats_X5_within rfl rfl rfl hdX5_within.2 ⟨Nat.le_of_ble_eq_true rfl, Nat.le_of_ble_eq_true rfl⟩) (ro_pre hK rfl) rfl rfl hl.1 rfl (lv_room (Nat.le_of_ble_eq_true rfl)) dX5_setSeats_24 ⟨Nat.le_of_ble_eq_true rfl, Nat.le_of_ble_eq_true rfl⟩) (fun b24 => ?_) (fun b24 => ?_)
      · skip
        have hO : (okR f 0 10 ∧ okR t 0 10 ∧ okR q 0 10) := ⟨b4, b14, b24⟩
        obtain ⟨f1, hf1a, hf1b, rfl⟩ := okR_nat (a := 0) (b := 10) b4 (by decide) (by decide)
        obtain ⟨t1, ht1a, ht1b, rfl⟩ := okR_nat (a := 0) (b := 10) b14 (by decide) (by decide)
        obtain ⟨q1, hq1a, hq1b, rfl⟩ := okR_nat (a := 0) (b := 10) b24 (by decide) (by decide)
        refine lv_if_ne (tgt := 40) hx hb dX5_setSeats_27 (by decide) (fun _ => ?_) (fun q => by first | exact absurd q (by decide) | exact absurd (by decide) q)
        refine lv_aload_n hx hb dX5_setSeats_40 rfl (lv_at hl 0 rfl) ?_
        refine lv_iconst (v := nI 0) hx hb dX5_setSeats_41 (by decide) ?_
        refine lv_iload_n hx hb dX5_setSeats_42 rfl (lv_at hl 1 rfl) ?_
        refine mw_callv (va_runV (As := [.int (nI 0), .int (nI f1)]) (rest := []) ⟨hx, hb, hml, hown, hts⟩ (c_X5_putSeats l D cy ad σ er ofd de bo ql qs tv 0 f1 (by decide) H.size) (cwV 2 hts gX5_setSeats_X5_putSeats rfl rfl rfl hdX5_putSeats ⟨Nat.le_of_ble_eq_true rfl, Nat.le_of_ble_eq_true rfl⟩) (mo_preV hK rfl hP hD (va_recv hK.1 hP (ci := 5) (q0 := 0) rfl rfl)) rfl rfl hl.1 rfl (lv_room (Nat.le_of_ble_eq_true rfl)) dX5_setSeats_43 ⟨Nat.le_of_ble_eq_true rfl, Nat.le_of_ble_eq_true rfl⟩) hS hD hA (fun u43 H locs hr43 hP hD hS => ?_)
        refine lv_aload_n hx hb dX5_setSeats_46 rfl (lv_at hl 0 rfl) ?_
        refine lv_iconst (v := nI 1) hx hb dX5_setSeats_47 (by decide) ?_
        refine lv_iload_n hx hb dX5_setSeats_48 rfl (lv_at hl 2 rfl) ?_
        refine mw_callv (va_runV (As := [.int (nI 1), .int (nI t1)]) (rest := []) ⟨hx, hb, hml, hown, hts⟩ (c_X5_putSeats l D cy ad (va_up σ 1 (va_up (σ 1) 0 f1)) er ofd de bo ql qs tv 1 t1 (by decide) H.size) (cwV 2 hts gX5_setSeats_X5_putSeats rfl rfl rfl hdX5_putSeats ⟨Nat.le_of_ble_eq_true rfl, Nat.le_of_ble_eq_true rfl⟩) (mo_preV hK rfl hP hD (va_recv hK.1 hP (ci := 5) (q0 := 0) rfl rfl)) rfl rfl hl.1 rfl (lv_room (Nat.le_of_ble_eq_true rfl)) dX5_setSeats_49 ⟨Nat.le_of_ble_eq_true rfl, Nat.le_of_ble_eq_true rfl⟩) hS hD hA (fun u49 H locs hr49 hP hD hS => ?_)
        refine lv_aload_n hx hb dX5_setSeats_52 rfl (lv_at hl 0 rfl) ?_
        refine lv_iconst (v := nI 2) hx hb dX5_setSeats_53 (by decide) ?_
        refine lv_iload_n hx hb dX5_setSeats_54 rfl (lv_at hl 3 rfl) ?_
        refine mw_callv (va_runV (As := [.int (nI 2), .int (nI q1)]) (rest := []) ⟨hx, hb, hml, hown, hts⟩ (c_X5_putSeats l D cy ad (va_up σ 1 (va_up (va_up (σ 1) 0 f1) 1 t1)) er ofd de bo ql qs tv 2 q1 (by decide) H.size) (cwV 2 hts gX5_setSeats_X5_putSeats rfl rfl rfl hdX5_putSeats ⟨Nat.le_of_ble_eq_true rfl, Nat.le_of_ble_eq_true rfl⟩) (mo_preV hK rfl hP hD (va_recv hK.1 hP (ci := 5) (q0 := 0) rfl rfl)) rfl rfl hl.1 rfl (lv_room (Nat.le_of_ble_eq_true rfl)) dX5_setSeats_55 ⟨Nat.le_of_ble_eq_true rfl, Nat.le_of_ble_eq_true rfl⟩) hS hD hA (fun u55 H locs hr55 hP hD hS => ?_)
        have hP : va_P D vwCl (WG ad cy (σ 0 0) (σ 0 3) ((seF σ (cN (nI f1)) (cN (nI t1)) (cN (nI q1)))) er ofd de bo ql qs tv) H := by rw [cN_nI (by omega), cN_nI (by omega), cN_nI (by omega)]; exact hP
        have hD : va_D A (WG ad cy (σ 0 0) (σ 0 3) ((seF σ (cN (nI f1)) (cN (nI t1)) (cN (nI q1)))) er ofd de bo ql qs tv) := by rw [cN_nI (by omega), cN_nI (by omega), cN_nI (by omega)]; exact hD
        refine W.widen (k := 1) (n := 6) (Nat.le_of_ble_eq_true rfl) (Nat.le_of_ble_eq_true rfl) ?_
        exact hret () dX5_setSeats_58 hP hD hS hO
      · skip
        refine lv_if_ne (tgt := 40) hx hb dX5_setSeats_27 (by decide) (fun q => by first | exact absurd q (by decide) | exact absurd (by decide) q) (fun _ => ?_)
        exact hthr "java/lang/IllegalArgumentException" "a leg has 0 to 10 seats" ["java/lang/RuntimeException", "java/lang/Exception"] 72 74 76 ⟨fun z => by first | exact b4 z.1 | exact b14 z.2.1 | exact b24 z.2.2, rfl⟩ (by decide +kernel) (by decide +kernel) (hts _ (List.mem_of_getElem? (i := 1) rfl)) (hts _ (List.mem_of_getElem? (i := 2) rfl)) (hXW.2.2 (74, "a leg has 0 to 10 seats") (by decide)) (xhat_IA (fun w hw => hts w (List.mem_cons_of_mem _ (List.mem_append_right _ hw))) hXW) xg_IA hP hD (hH0s ▸ hS) (hl.1.trans hml.symm) dX5_setSeats_30 dX5_setSeats_33 dX5_setSeats_34 dX5_setSeats_36 dX5_setSeats_39 (Nat.le_of_ble_eq_true rfl) (Nat.le_of_ble_eq_true rfl) (Nat.le_of_ble_eq_true rfl) (Nat.le_of_ble_eq_true rfl) (Nat.le_of_ble_eq_true rfl) (Nat.le_of_ble_eq_true rfl)
    · skip
      refine lv_if_eq (tgt := 30) hx hb dX5_setSeats_17 (by decide) (fun _ => ?_) (fun q => by first | exact absurd q (by decide) | exact absurd (by decide) q)
      exact hthr "java/lang/IllegalArgumentException" "a leg has 0 to 10 seats" ["java/lang/RuntimeException", "java/lang/Exception"] 72 74 76 ⟨fun z => by first | exact b4 z.1 | exact b14 z.2.1 | exact b24 z.2.2, rfl⟩ (by decide +kernel) (by decide +kernel) (hts _ (List.mem_of_getElem? (i := 1) rfl)) (hts _ (List.mem_of_getElem? (i := 2) rfl)) (hXW.2.2 (74, "a leg has 0 to 10 seats") (by decide)) (xhat_IA (fun w hw => hts w (List.mem_cons_of_mem _ (List.mem_append_right _ hw))) hXW) xg_IA hP hD (hH0s ▸ hS) (hl.1.trans hml.symm) dX5_setSeats_30 dX5_setSeats_33 dX5_setSeats_34 dX5_setSeats_36 dX5_setSeats_39 (Nat.le_of_ble_eq_true rfl) (Nat.le_of_ble_eq_true rfl) (Nat.le_of_ble_eq_true rfl) (Nat.le_of_ble_eq_true rfl) (Nat.le_of_ble_eq_true rfl) (Nat.le_of_ble_eq_true rfl)
  · skip
    refine lv_if_eq (tgt := 30) hx hb dX5_setSeats_7 (by decide) (fun _ => ?_) (fun q => by first | exact absurd q (by decide) | exact absurd (by decide) q)
    exact hthr "java/lang/IllegalArgumentException" "a leg has 0 to 10 seats" ["java/lang/RuntimeException", "java/lang/Exception"] 72 74 76 ⟨fun z => by first | exact b4 z.1 | exact b14 z.2.1 | exact b24 z.2.2, rfl⟩ (by decide +kernel) (by decide +kernel) (hts _ (List.mem_of_getElem? (i := 1) rfl)) (hts _ (List.mem_of_getElem? (i := 2) rfl)) (hXW.2.2 (74, "a leg has 0 to 10 seats") (by decide)) (xhat_IA (fun w hw => hts w (List.mem_cons_of_mem _ (List.mem_append_right _ hw))) hXW) xg_IA hP hD (hH0s ▸ hS) (hl.1.trans hml.symm) dX5_setSeats_30 dX5_setSeats_33 dX5_setSeats_34 dX5_setSeats_36 dX5_setSeats_39 (Nat.le_of_ble_eq_true rfl) (Nat.le_of_ble_eq_true rfl) (Nat.le_of_ble_eq_true rfl) (Nat.le_of_ble_eq_true rfl) (Nat.le_of_ble_eq_true rfl) (Nat.le_of_ble_eq_true rfl)
set_option maxHeartbeats 4000000 in
set_option maxRecDepth 100000 in
theorem c_X5_setRate (l : Launch) (hfl : l.stackTraces = false) (D : va_G) (cy : Nat → ClassId) (ad : Nat → Nat → Nat) (σ : SF) (er : Int64) (ofd de bo : Nat → Option Nat) (ql : Nat → Nat) (qs : Nat → Nat → Nat) (tv : Nat → Nat) (v : Int32) : cXI l D cy yX5_setRate wsX5_setRate rmX5_setRate [.ref (ad 0 0), .int v] (WG ad cy (σ 0 0) (σ 0 3) σ er ofd de bo ql qs tv) (T := Unit) (fun _ => WG ad cy (σ 0 0) (σ 0 3) ((raF σ (cN v))) er ofd de bo ql qs tv) (fun r _ => okR v 50 100 ∧ r = nI (σ 0 2)) (fun E => ¬ okR v 50 100 ∧ E = eIA) 1 6 := by
  refine cXI.of (cc := cX5_setRate) (maxL := 3) hfl (by decide) rfl (Nat.le_of_ble_eq_true rfl) ?_
  intro p e s m args below meth c H0 A Q hx hb hml hown hts hP hK hD hS hA hXW hH0s hret hthr ls hl
  obtain ⟨H, locs, hH, hlo⟩ : ∃ (H : Heap) (locs : List Loc), H = H0 ∧ locs = [] := ⟨_, _, rfl, rfl⟩
  rw [← hH] at hP
  rw [show va_S A H0 H0 [] = va_S A H0 H locs by rw [hH, hlo]] at hS
  rw [show W p l e rmX5_setRate s m args below meth c H0 [] 0 0 Q (F0 m 0 ls []) = W p l e rmX5_setRate s m args below meth c H locs 0 0 Q (F0 m 0 ls []) by rw [hH, hlo]]
  refine lv_iload_n hx hb dX5_setRate_0 rfl (lv_at hl 1 rfl) ?_
  refine lv_bipush (v := nI 50) hx hb dX5_setRate_1 (by decide) ?_
  refine lv_bipush (v := nI 100) hx hb dX5_setRate_3 (by decide) ?_
  refine ro_calliB (va_runS (As := [.int v, .int (nI 50), .int (nI 100)]) (rest := []) ⟨hx, hb, hml, hown, hts⟩ (c_X5_within l D cy (v) ((nI 50)) ((nI 100)) H va_P0) (va_cwS 3 hts gX5_setRate_X5_within rfl rfl rfl hdX5_within.2 ⟨Nat.le_of_ble_eq_true rfl, Nat.le_of_ble_eq_true rfl⟩) (ro_pre hK rfl) rfl rfl hl.1 rfl (lv_room (Nat.le_of_ble_eq_true rfl)) dX5_setRate_5 ⟨Nat.le_of_ble_eq_true rfl, Nat.le_of_ble_eq_true rfl⟩) (fun b5 => ?_) (fun b5 => ?_)
  · skip
    have hO := b5
    obtain ⟨r1, hr1a, hr1b, rfl⟩ := okR_nat (a := 50) (b := 100) b5 (by decide) (by decide)
    refine lv_if_ne (tgt := 21) hx hb dX5_setRate_8 (by decide) (fun _ => ?_) (fun q => by first | exact absurd q (by decide) | exact absurd (by decide) q)
    refine lv_aload_n hx hb dX5_setRate_21 rfl (lv_at hl 0 rfl) ?_
    refine gf5 (v := .int (nI (σ 0 2))) hx hb hts fX5_setRate_5 hown hK.1 hP 0 9 rfl (by decide) kX5_setRate_22 rfl rfl dX5_setRate_22 ?_
    refine lv_istore_n (lv' := [(2, .int (nI (σ 0 2))), (0, .ref (ad 0 0)), (1, .int (nI r1))]) hx hb dX5_setRate_25 rfl hl (by decide) rfl (fun ls hl => ?_)
    refine lv_aload_n hx hb dX5_setRate_26 rfl (lv_at hl 1 rfl) ?_
    refine lv_iload_n hx hb dX5_setRate_27 rfl (lv_at hl 2 rfl) ?_
    refine pf5 hx hb hts fX5_setRate_5 hown hK.1 hP hD hS 0 9 rfl (by decide) kX5_setRate_28 rfl rfl (ty := .int) (by decide) rfl rfl (Nat.le_of_ble_eq_true rfl) dX5_setRate_28 (fun H locs hP hD hS => ?_)
    refine lv_iload_n hx hb dX5_setRate_31 rfl (lv_at hl 0 rfl) ?_
    have hP : va_P D vwCl (WG ad cy (σ 0 0) (σ 0 3) (va_up σ 0 (va_up (σ 0) 2 r1)) er ofd de bo ql qs tv) H := hP
    have hD : va_D A (WG ad cy (σ 0 0) (σ 0 3) (va_up σ 0 (va_up (σ 0) 2 r1)) er ofd de bo ql qs tv) := hD
    have hP : va_P D vwCl (WG ad cy (σ 0 0) (σ 0 3) ((raF σ (cN (nI r1)))) er ofd de bo ql qs tv) H := by rw [cN_nI (by omega)]; exact hP
    have hD : va_D A (WG ad cy (σ 0 0) (σ 0 3) ((raF σ (cN (nI r1)))) er ofd de bo ql qs tv) := by rw [cN_nI (by omega)]; exact hD
    refine W.widen (k := 1) (n := 6) (Nat.le_of_ble_eq_true rfl) (Nat.le_of_ble_eq_true rfl) ?_
    exact hret () dX5_setRate_32 hP hD hS ⟨hO, rfl⟩
  · skip
    refine lv_if_ne (tgt := 21) hx hb dX5_setRate_8 (by decide) (fun q => by first | exact absurd q (by decide) | exact absurd (by decide) q) (fun _ => ?_)
    exact hthr "java/lang/IllegalArgumentException" "the show rate is 50 to 100" ["java/lang/RuntimeException", "java/lang/Exception"] 72 120 76 ⟨b5, rfl⟩ (by decide +kernel) (by decide +kernel) (hts _ (List.mem_of_getElem? (i := 1) rfl)) (hts _ (List.mem_of_getElem? (i := 2) rfl)) (hXW.2.2 (120, "the show rate is 50 to 100") (by decide)) (xhat_IA (fun w hw => hts w (List.mem_cons_of_mem _ (List.mem_append_right _ hw))) hXW) xg_IA hP hD (hH0s ▸ hS) (hl.1.trans hml.symm) dX5_setRate_11 dX5_setRate_14 dX5_setRate_15 dX5_setRate_17 dX5_setRate_20 (Nat.le_of_ble_eq_true rfl) (Nat.le_of_ble_eq_true rfl) (Nat.le_of_ble_eq_true rfl) (Nat.le_of_ble_eq_true rfl) (Nat.le_of_ble_eq_true rfl) (Nat.le_of_ble_eq_true rfl)
set_option maxHeartbeats 4000000 in
set_option maxRecDepth 100000 in
theorem c_X5_setExpected (l : Launch) (hfl : l.stackTraces = false) (D : va_G) (cy : Nat → ClassId) (ad : Nat → Nat → Nat) (σ : SF) (er : Int64) (ofd de bo : Nat → Option Nat) (ql : Nat → Nat) (qs : Nat → Nat → Nat) (tv : Nat → Nat) (hof : OF ad σ ofd) {n : Nat} (hI : Iv n σ) (v x : Int32) : cXI l D cy yX5_setExpected wsX5_setExpected rmX5_setExpected [.ref (ad 0 0), .int v, .int x] (WG ad cy (σ 0 0) (σ 0 3) σ er ofd de bo ql qs tv) (T := Unit) (fun _ => WG ad cy (σ 0 0) (σ 0 3) ((exF σ (cN v) (cN x))) er ofd de bo ql qs tv) (fun r _ => isP σ v ∧ okR x 0 20 ∧ r = nI (σ 6 (cN v))) (fun E => (¬ isP σ v ∧ E = eIO) ∨ (isP σ v ∧ ¬ okR x 0 20 ∧ E = eIA)) 1 6 := by
  refine cXI.of (cc := cX5_setExpected) (maxL := 5) hfl (by decide) rfl (Nat.le_of_ble_eq_true rfl) ?_
  intro p e s m args below meth c H0 A Q hx hb hml hown hts hP hK hD hS hA hXW hH0s hret hthr ls hl
  obtain ⟨H, locs, hH, hlo⟩ : ∃ (H : Heap) (locs : List Loc), H = H0 ∧ locs = [] := ⟨_, _, rfl, rfl⟩
  rw [← hH] at hP
  rw [show va_S A H0 H0 [] = va_S A H0 H locs by rw [hH, hlo]] at hS
  rw [show W p l e rmX5_setExpected s m args below meth c H0 [] 0 0 Q (F0 m 0 ls []) = W p l e rmX5_setExpected s m args below meth c H locs 0 0 Q (F0 m 0 ls []) by rw [hH, hlo]]
  have hnp := hI.np
  refine lv_aload_n hx hb dX5_setExpected_0 rfl (lv_at hl 0 rfl) ?_
  refine lv_iload_n hx hb dX5_setExpected_1 rfl (lv_at hl 1 rfl) ?_
  refine ro_callqP (va_runV (As := [.int v]) (rest := []) ⟨hx, hb, hml, hown, hts⟩ (c_X5_productAt l D cy ad σ er ofd de bo ql qs tv hof hnp (v) H hP) (cwV 1 hts gX5_setExpected_X5_productAt rfl rfl rfl hdX5_productAt ⟨Nat.le_of_ble_eq_true rfl, Nat.le_of_ble_eq_true rfl⟩) (ro_preV hK (va_recv hK.1 hP (ci := 5) (q0 := 0) rfl rfl)) rfl rfl hl.1 rfl (lv_room (Nat.le_of_ble_eq_true rfl)) dX5_setExpected_2 ⟨Nat.le_of_ble_eq_true rfl, Nat.le_of_ble_eq_true rfl⟩) (fun a2 r2 => ?_) (fun r2 => ?_)
  · skip
    obtain ⟨k, hk, rfl, rfl⟩ := r2
    refine lv_astore_n (lv' := [(3, .ref (ad 1 k)), (0, .ref (ad 0 0)), (1, .int (nI k)), (2, .int x)]) hx hb dX5_setExpected_5 rfl hl (by decide) rfl (fun ls hl => ?_)
    refine lv_aload_n hx hb dX5_setExpected_6 rfl (lv_at hl 0 rfl) ?_
    refine lv_ifnonnull (tgt := 20) hx hb dX5_setExpected_7 (by decide) ?_
    refine lv_iload_n hx hb dX5_setExpected_20 rfl (lv_at hl 3 rfl) ?_
    refine lv_iconst (v := nI 0) hx hb dX5_setExpected_21 (by decide) ?_
    refine lv_bipush (v := nI 20) hx hb dX5_setExpected_22 (by decide) ?_
    refine ro_calliB (va_runS (As := [.int x, .int (nI 0), .int (nI 20)]) (rest := []) ⟨hx, hb, hml, hown, hts⟩ (c_X5_within l D cy (x) ((nI 0)) ((nI 20)) H va_P0) (va_cwS 3 hts gX5_setExpected_X5_within rfl rfl rfl hdX5_within.2 ⟨Nat.le_of_ble_eq_true rfl, Nat.le_of_ble_eq_true rfl⟩) (ro_pre hK rfl) rfl rfl hl.1 rfl (lv_room (Nat.le_of_ble_eq_true rfl)) dX5_setExpected_24 ⟨Nat.le_of_ble_eq_true rfl, Nat.le_of_ble_eq_true rfl⟩) (fun b24 => ?_) (fun b24 => ?_)
    · skip
      have hO := b24
      obtain ⟨m1, hm1a, hm1b, rfl⟩ := okR_nat (a := 0) (b := 20) b24 (by decide) (by decide)
      refine lv_if_ne (tgt := 40) hx hb dX5_setExpected_27 (by decide) (fun _ => ?_) (fun q => by first | exact absurd q (by decide) | exact absurd (by decide) q)
      refine lv_aload_n hx hb dX5_setExpected_40 rfl (lv_at hl 0 rfl) ?_
      refine gn2 (v := .int (nI (σ 6 k))) hx hb hts fX5_setExpected_2 hown hK.1 hP (k + 20) 4 (WG_pd hk) (by decide) (hK.2 _ nwf_X5_117 rfl) rfl rfl dX5_setExpected_41 ?_
      refine lv_istore (lv' := [(4, .int (nI (σ 6 k))), (3, .ref (ad 1 k)), (0, .ref (ad 0 0)), (1, .int (nI k)), (2, .int (nI m1))]) hx hb dX5_setExpected_44 hl (by decide) rfl (fun ls hl => ?_)
      refine lv_aload_n hx hb dX5_setExpected_46 rfl (lv_at hl 1 rfl) ?_
      refine lv_iload_n hx hb dX5_setExpected_47 rfl (lv_at hl 4 rfl) ?_
      refine pn2 hx hb hts fX5_setExpected_2 hown hK.1 hP hD hS (k + 20) 4 (WG_pd hk) (by decide) (hK.2 _ nwf_X5_117 rfl) rfl rfl (ty := .int) (by decide) rfl rfl (Nat.le_of_ble_eq_true rfl) dX5_setExpected_48 (fun H locs hP hD hS => ?_)
      refine lv_iload hx hb dX5_setExpected_51 (lv_at hl 0 rfl) ?_
      rw [pd_put6 hk] at hP hD
      have hP : va_P D vwCl (WG ad cy (σ 0 0) (σ 0 3) (va_up σ 6 (va_up (σ 6) k m1)) er ofd de bo ql qs tv) H := hP
      have hD : va_D A (WG ad cy (σ 0 0) (σ 0 3) (va_up σ 6 (va_up (σ 6) k m1)) er ofd de bo ql qs tv) := hD
      have hP : va_P D vwCl (WG ad cy (σ 0 0) (σ 0 3) ((exF σ (cN (nI k)) (cN (nI m1)))) er ofd de bo ql qs tv) H := by rw [cN_nI (by omega), cN_nI (by omega)]; exact hP
      have hD : va_D A (WG ad cy (σ 0 0) (σ 0 3) ((exF σ (cN (nI k)) (cN (nI m1)))) er ofd de bo ql qs tv) := by rw [cN_nI (by omega), cN_nI (by omega)]; exact hD
      refine W.widen (k := 1) (n := 6) (Nat.le_of_ble_eq_true rfl) (Nat.le_of_ble_eq_true rfl) ?_
      exact hret () dX5_setExpected_53 hP hD hS ⟨⟨k, hk, rfl⟩, hO, by rw [cN_nI (by omega)]⟩
    · skip
      refine lv_if_ne (tgt := 40) hx hb dX5_setExpected_27 (by decide) (fun q => by first | exact absurd q (by decide) | exact absurd (by decide) q) (fun _ => ?_)
      exact hthr "java/lang/IllegalArgumentException" "0 to 20 passengers can be expected" ["java/lang/RuntimeException", "java/lang/Exception"] 72 115 76 (Or.inr ⟨⟨k, hk, rfl⟩, b24, rfl⟩) (by decide +kernel) (by decide +kernel) (hts _ (List.mem_of_getElem? (i := 3) rfl)) (hts _ (List.mem_of_getElem? (i := 4) rfl)) (hXW.2.2 (115, "0 to 20 passengers can be expected") (by decide)) (xhat_IA (fun w hw => hts w (List.mem_cons_of_mem _ (List.mem_append_right _ hw))) hXW) xg_IA hP hD (hH0s ▸ hS) (hl.1.trans hml.symm) dX5_setExpected_30 dX5_setExpected_33 dX5_setExpected_34 dX5_setExpected_36 dX5_setExpected_39 (Nat.le_of_ble_eq_true rfl) (Nat.le_of_ble_eq_true rfl) (Nat.le_of_ble_eq_true rfl) (Nat.le_of_ble_eq_true rfl) (Nat.le_of_ble_eq_true rfl) (Nat.le_of_ble_eq_true rfl)
  · skip
    refine lv_astore_nN (lv' := [(3, .null), (0, .ref (ad 0 0)), (1, .int v), (2, .int x)]) hx hb dX5_setExpected_5 rfl hl (by decide) rfl (fun ls hl => ?_)
    refine lv_aload_nN hx hb dX5_setExpected_6 rfl (lv_at hl 0 rfl) ?_
    refine lv_ifnonnullN hx hb dX5_setExpected_7 ?_
    exact hthr "java/lang/IndexOutOfBoundsException" "there is no such product" ["java/lang/RuntimeException", "java/lang/Exception"] 87 113 91 (Or.inl ⟨r2, rfl⟩) (by decide +kernel) (by decide +kernel) (hts _ (List.mem_of_getElem? (i := 1) rfl)) (hts _ (List.mem_of_getElem? (i := 2) rfl)) (hXW.2.2 (113, "there is no such product") (by decide)) (xhat_IO (fun w hw => hts w (List.mem_cons_of_mem _ (List.mem_append_left _ (List.mem_append_right _ hw)))) hXW) xg_IO hP hD (hH0s ▸ hS) (hl.1.trans hml.symm) dX5_setExpected_10 dX5_setExpected_13 dX5_setExpected_14 dX5_setExpected_16 dX5_setExpected_19 (Nat.le_of_ble_eq_true rfl) (Nat.le_of_ble_eq_true rfl) (Nat.le_of_ble_eq_true rfl) (Nat.le_of_ble_eq_true rfl) (Nat.le_of_ble_eq_true rfl) (Nat.le_of_ble_eq_true rfl)
set_option maxHeartbeats 4000000 in
set_option maxRecDepth 100000 in
theorem c_X5_booked (l : Launch) (hfl : l.stackTraces = false) (D : va_G) (cy : Nat → ClassId) (ad : Nat → Nat → Nat) (σ : SF) (er : Int64) (ofd de bo : Nat → Option Nat) (ql : Nat → Nat) (qs : Nat → Nat → Nat) (tv : Nat → Nat) (hbo : BO ad σ bo) {n : Nat} (hI : Iv n σ) (v : Int32) : cXI l D cy yX5_booked wsX5_booked rmX5_booked [.ref (ad 0 0), .int v] (WG ad cy (σ 0 0) (σ 0 3) σ er ofd de bo ql qs tv) (T := Unit) (fun _ => WG ad cy (σ 0 0) (σ 0 3) σ er ofd de bo ql qs tv) (fun r _ => okR v 0 2 ∧ r = nI (σ 2 (cN v))) (fun E => ¬ okR v 0 2 ∧ E = eIO) 1 6 := by
  refine cXI.of (cc := cX5_booked) (maxL := 2) hfl (by decide) rfl (Nat.le_of_ble_eq_true rfl) ?_
  intro p e s m args below meth c H0 A Q hx hb hml hown hts hP hK hD hS hA hXW hH0s hret hthr ls hl
  obtain ⟨H, locs, hH, hlo⟩ : ∃ (H : Heap) (locs : List Loc), H = H0 ∧ locs = [] := ⟨_, _, rfl, rfl⟩
  rw [← hH] at hP
  rw [show va_S A H0 H0 [] = va_S A H0 H locs by rw [hH, hlo]] at hS
  rw [show W p l e rmX5_booked s m args below meth c H0 [] 0 0 Q (F0 m 0 ls []) = W p l e rmX5_booked s m args below meth c H locs 0 0 Q (F0 m 0 ls []) by rw [hH, hlo]]
  refine lv_iload_n hx hb dX5_booked_0 rfl (lv_at hl 1 rfl) ?_
  refine ro_calliB (va_runS (As := [.int v]) (rest := []) ⟨hx, hb, hml, hown, hts⟩ (c_X5_isLeg l D cy (v) H va_P0) (va_cwS 1 hts gX5_booked_X5_isLeg rfl rfl rfl hdX5_isLeg.2 ⟨Nat.le_of_ble_eq_true rfl, Nat.le_of_ble_eq_true rfl⟩) (ro_pre hK rfl) rfl rfl hl.1 rfl (lv_room (Nat.le_of_ble_eq_true rfl)) dX5_booked_1 ⟨Nat.le_of_ble_eq_true rfl, Nat.le_of_ble_eq_true rfl⟩) (fun b1 => ?_) (fun b1 => ?_)
  · skip
    have hO := b1
    obtain ⟨j, hja, hjb, rfl⟩ := okR_nat (a := 0) (b := 2) b1 (by decide) (by decide)
    refine lv_if_ne (tgt := 17) hx hb dX5_booked_4 (by decide) (fun _ => ?_) (fun q => by first | exact absurd q (by decide) | exact absurd (by decide) q)
    refine lv_aload_n hx hb dX5_booked_17 rfl (lv_at hl 0 rfl) ?_
    refine lv_iload_n hx hb dX5_booked_18 rfl (lv_at hl 1 rfl) ?_
    refine ro_calliN (va_runV (As := [.int (nI j)]) (rest := []) ⟨hx, hb, hml, hown, hts⟩ (c_X5_bookedOn l D cy ad σ er ofd de bo ql qs tv hbo hI j (by omega) H hP) (cwV 1 hts gX5_booked_X5_bookedOn rfl rfl rfl hdX5_bookedOn ⟨Nat.le_of_ble_eq_true rfl, Nat.le_of_ble_eq_true rfl⟩) (ro_preV hK (va_recv hK.1 hP (ci := 5) (q0 := 0) rfl rfl)) rfl rfl hl.1 rfl (lv_room (Nat.le_of_ble_eq_true rfl)) dX5_booked_19 ⟨Nat.le_of_ble_eq_true rfl, Nat.le_of_ble_eq_true rfl⟩) (fun z19 hz19 => ?_)
    refine W.widen (k := 1) (n := 6) (Nat.le_of_ble_eq_true rfl) (Nat.le_of_ble_eq_true rfl) ?_
    exact hret () dX5_booked_22 hP hD hS ⟨hO, by rw [cN_nI (by omega), hz19]⟩
  · skip
    refine lv_if_ne (tgt := 17) hx hb dX5_booked_4 (by decide) (fun q => by first | exact absurd q (by decide) | exact absurd (by decide) q) (fun _ => ?_)
    exact hthr "java/lang/IndexOutOfBoundsException" "there is no such leg" ["java/lang/RuntimeException", "java/lang/Exception"] 87 89 91 ⟨b1, rfl⟩ (by decide +kernel) (by decide +kernel) (hts _ (List.mem_of_getElem? (i := 1) rfl)) (hts _ (List.mem_of_getElem? (i := 2) rfl)) (hXW.2.2 (89, "there is no such leg") (by decide)) (xhat_IO (fun w hw => hts w (List.mem_cons_of_mem _ (List.mem_append_right _ hw))) hXW) xg_IO hP hD (hH0s ▸ hS) (hl.1.trans hml.symm) dX5_booked_7 dX5_booked_10 dX5_booked_11 dX5_booked_13 dX5_booked_16 (Nat.le_of_ble_eq_true rfl) (Nat.le_of_ble_eq_true rfl) (Nat.le_of_ble_eq_true rfl) (Nat.le_of_ble_eq_true rfl) (Nat.le_of_ble_eq_true rfl) (Nat.le_of_ble_eq_true rfl)
set_option maxHeartbeats 4000000 in
set_option maxRecDepth 100000 in
theorem c_X5_authorised (l : Launch) (hfl : l.stackTraces = false) (D : va_G) (cy : Nat → ClassId) (ad : Nat → Nat → Nat) (σ : SF) (er : Int64) (ofd de bo : Nat → Option Nat) (ql : Nat → Nat) (qs : Nat → Nat → Nat) (tv : Nat → Nat) {n : Nat} (hI : Iv n σ) (v : Int32) : cXI l D cy yX5_authorised wsX5_authorised rmX5_authorised [.ref (ad 0 0), .int v] (WG ad cy (σ 0 0) (σ 0 3) σ er ofd de bo ql qs tv) (T := Unit) (fun _ => WG ad cy (σ 0 0) (σ 0 3) σ er ofd de bo ql qs tv) (fun r _ => okR v 0 2 ∧ r = nI (aut σ (cN v))) (fun E => ¬ okR v 0 2 ∧ E = eIO) 1 6 := by
  refine cXI.of (cc := cX5_authorised) (maxL := 2) hfl (by decide) rfl (Nat.le_of_ble_eq_true rfl) ?_
  intro p e s m args below meth c H0 A Q hx hb hml hown hts hP hK hD hS hA hXW hH0s hret hthr ls hl
  obtain ⟨H, locs, hH, hlo⟩ : ∃ (H : Heap) (locs : List Loc), H = H0 ∧ locs = [] := ⟨_, _, rfl, rfl⟩
  rw [← hH] at hP
  rw [show va_S A H0 H0 [] = va_S A H0 H locs by rw [hH, hlo]] at hS
  rw [show W p l e rmX5_authorised s m args below meth c H0 [] 0 0 Q (F0 m 0 ls []) = W p l e rmX5_authorised s m args below meth c H locs 0 0 Q (F0 m 0 ls []) by rw [hH, hlo]]
  refine lv_iload_n hx hb dX5_authorised_0 rfl (lv_at hl 1 rfl) ?_
  refine ro_calliB (va_runS (As := [.int v]) (rest := []) ⟨hx, hb, hml, hown, hts⟩ (c_X5_isLeg l D cy (v) H va_P0) (va_cwS 1 hts gX5_authorised_X5_isLeg rfl rfl rfl hdX5_isLeg.2 ⟨Nat.le_of_ble_eq_true rfl, Nat.le_of_ble_eq_true rfl⟩) (ro_pre hK rfl) rfl rfl hl.1 rfl (lv_room (Nat.le_of_ble_eq_true rfl)) dX5_authorised_1 ⟨Nat.le_of_ble_eq_true rfl, Nat.le_of_ble_eq_true rfl⟩) (fun b1 => ?_) (fun b1 => ?_)
  · skip
    have hO := b1
    obtain ⟨j, hja, hjb, rfl⟩ := okR_nat (a := 0) (b := 2) b1 (by decide) (by decide)
    refine lv_if_ne (tgt := 17) hx hb dX5_authorised_4 (by decide) (fun _ => ?_) (fun q => by first | exact absurd q (by decide) | exact absurd (by decide) q)
    refine lv_aload_n hx hb dX5_authorised_17 rfl (lv_at hl 0 rfl) ?_
    refine lv_iload_n hx hb dX5_authorised_18 rfl (lv_at hl 1 rfl) ?_
    refine ro_calliN (va_runV (As := [.int (nI j)]) (rest := []) ⟨hx, hb, hml, hown, hts⟩ (c_X5_authorisedOn l D cy ad σ er ofd de bo ql qs tv hI j (by omega) H hP) (cwV 1 hts gX5_authorised_X5_authorisedOn rfl rfl rfl hdX5_authorisedOn ⟨Nat.le_of_ble_eq_true rfl, Nat.le_of_ble_eq_true rfl⟩) (ro_preV hK (va_recv hK.1 hP (ci := 5) (q0 := 0) rfl rfl)) rfl rfl hl.1 rfl (lv_room (Nat.le_of_ble_eq_true rfl)) dX5_authorised_19 ⟨Nat.le_of_ble_eq_true rfl, Nat.le_of_ble_eq_true rfl⟩) (fun z19 hz19 => ?_)
    refine W.widen (k := 1) (n := 6) (Nat.le_of_ble_eq_true rfl) (Nat.le_of_ble_eq_true rfl) ?_
    exact hret () dX5_authorised_22 hP hD hS ⟨hO, by rw [cN_nI (by omega), hz19]⟩
  · skip
    refine lv_if_ne (tgt := 17) hx hb dX5_authorised_4 (by decide) (fun q => by first | exact absurd q (by decide) | exact absurd (by decide) q) (fun _ => ?_)
    exact hthr "java/lang/IndexOutOfBoundsException" "there is no such leg" ["java/lang/RuntimeException", "java/lang/Exception"] 87 89 91 ⟨b1, rfl⟩ (by decide +kernel) (by decide +kernel) (hts _ (List.mem_of_getElem? (i := 1) rfl)) (hts _ (List.mem_of_getElem? (i := 2) rfl)) (hXW.2.2 (89, "there is no such leg") (by decide)) (xhat_IO (fun w hw => hts w (List.mem_cons_of_mem _ (List.mem_append_right _ hw))) hXW) xg_IO hP hD (hH0s ▸ hS) (hl.1.trans hml.symm) dX5_authorised_7 dX5_authorised_10 dX5_authorised_11 dX5_authorised_13 dX5_authorised_16 (Nat.le_of_ble_eq_true rfl) (Nat.le_of_ble_eq_true rfl) (Nat.le_of_ble_eq_true rfl) (Nat.le_of_ble_eq_true rfl) (Nat.le_of_ble_eq_true rfl) (Nat.le_of_ble_eq_true rfl)
set_option maxHeartbeats 4000000 in
set_option maxRecDepth 100000 in
theorem c_X5_protectedSeats (l : Launch) (hfl : l.stackTraces = false) (D : va_G) (cy : Nat → ClassId) (ad : Nat → Nat → Nat) (σ : SF) (er : Int64) (ofd de bo : Nat → Option Nat) (ql : Nat → Nat) (qs : Nat → Nat → Nat) (tv : Nat → Nat) (hof : OF ad σ ofd) {n : Nat} (hI : Iv n σ) (v x : Int32) : cXI l D cy yX5_protectedSeats wsX5_protectedSeats rmX5_protectedSeats [.ref (ad 0 0), .int v, .int x] (WG ad cy (σ 0 0) (σ 0 3) σ er ofd de bo ql qs tv) (T := Unit) (fun _ => WG ad cy (σ 0 0) (σ 0 3) σ er ofd de bo ql qs tv) (fun r _ => okR v 0 2 ∧ okR x 1 1000 ∧ r = nI (prot σ (cN v) (cN x))) (fun E => (¬ okR v 0 2 ∧ E = eIO) ∨ (okR v 0 2 ∧ ¬ okR x 1 1000 ∧ E = eIA)) 1 6 := by
  refine cXI.of (cc := cX5_protectedSeats) (maxL := 3) hfl (by decide) rfl (Nat.le_of_ble_eq_true rfl) ?_
  intro p e s m args below meth c H0 A Q hx hb hml hown hts hP hK hD hS hA hXW hH0s hret hthr ls hl
  obtain ⟨H, locs, hH, hlo⟩ : ∃ (H : Heap) (locs : List Loc), H = H0 ∧ locs = [] := ⟨_, _, rfl, rfl⟩
  rw [← hH] at hP
  rw [show va_S A H0 H0 [] = va_S A H0 H locs by rw [hH, hlo]] at hS
  rw [show W p l e rmX5_protectedSeats s m args below meth c H0 [] 0 0 Q (F0 m 0 ls []) = W p l e rmX5_protectedSeats s m args below meth c H locs 0 0 Q (F0 m 0 ls []) by rw [hH, hlo]]
  refine lv_iload_n hx hb dX5_protectedSeats_0 rfl (lv_at hl 1 rfl) ?_
  refine ro_calliB (va_runS (As := [.int v]) (rest := []) ⟨hx, hb, hml, hown, hts⟩ (c_X5_isLeg l D cy (v) H va_P0) (va_cwS 1 hts gX5_protectedSeats_X5_isLeg rfl rfl rfl hdX5_isLeg.2 ⟨Nat.le_of_ble_eq_true rfl, Nat.le_of_ble_eq_true rfl⟩) (ro_pre hK rfl) rfl rfl hl.1 rfl (lv_room (Nat.le_of_ble_eq_true rfl)) dX5_protectedSeats_1 ⟨Nat.le_of_ble_eq_true rfl, Nat.le_of_ble_eq_true rfl⟩) (fun b1 => ?_) (fun b1 => ?_)
  · skip
    refine lv_if_ne (tgt := 17) hx hb dX5_protectedSeats_4 (by decide) (fun _ => ?_) (fun q => by first | exact absurd q (by decide) | exact absurd (by decide) q)
    refine lv_iload_n hx hb dX5_protectedSeats_17 rfl (lv_at hl 2 rfl) ?_
    refine lv_iconst (v := nI 1) hx hb dX5_protectedSeats_18 (by decide) ?_
    refine lv_sipush (v := nI 1000) hx hb dX5_protectedSeats_19 (by decide) ?_
    refine ro_calliB (va_runS (As := [.int x, .int (nI 1), .int (nI 1000)]) (rest := []) ⟨hx, hb, hml, hown, hts⟩ (c_X5_within l D cy (x) ((nI 1)) ((nI 1000)) H va_P0) (va_cwS 3 hts gX5_protectedSeats_X5_within rfl rfl rfl hdX5_within.2 ⟨Nat.le_of_ble_eq_true rfl, Nat.le_of_ble_eq_true rfl⟩) (ro_pre hK rfl) rfl rfl hl.1 rfl (lv_room (Nat.le_of_ble_eq_true rfl)) dX5_protectedSeats_22 ⟨Nat.le_of_ble_eq_true rfl, Nat.le_of_ble_eq_true rfl⟩) (fun b22 => ?_) (fun b22 => ?_)
    · skip
      have hO := b1
      have hO2 := b22
      obtain ⟨j, hja, hjb, rfl⟩ := okR_nat (a := 0) (b := 2) b1 (by decide) (by decide)
      obtain ⟨q, hqa, hqb, rfl⟩ := okR_nat (a := 1) (b := 1000) b22 (by decide) (by decide)
      refine lv_if_ne (tgt := 38) hx hb dX5_protectedSeats_25 (by decide) (fun _ => ?_) (fun q => by first | exact absurd q (by decide) | exact absurd (by decide) q)
      refine lv_aload_n hx hb dX5_protectedSeats_38 rfl (lv_at hl 0 rfl) ?_
      refine lv_iload_n hx hb dX5_protectedSeats_39 rfl (lv_at hl 1 rfl) ?_
      refine lv_iload_n hx hb dX5_protectedSeats_40 rfl (lv_at hl 2 rfl) ?_
      refine ro_calliN (va_runV (As := [.int (nI j), .int (nI q)]) (rest := []) ⟨hx, hb, hml, hown, hts⟩ (c_X5_protectedOn l D cy ad σ er ofd de bo ql qs tv hof hI j q (by omega) (by omega) H hP) (cwV 2 hts gX5_protectedSeats_X5_protectedOn rfl rfl rfl hdX5_protectedOn ⟨Nat.le_of_ble_eq_true rfl, Nat.le_of_ble_eq_true rfl⟩) (ro_preV hK (va_recv hK.1 hP (ci := 5) (q0 := 0) rfl rfl)) rfl rfl hl.1 rfl (lv_room (Nat.le_of_ble_eq_true rfl)) dX5_protectedSeats_41 ⟨Nat.le_of_ble_eq_true rfl, Nat.le_of_ble_eq_true rfl⟩) (fun z41 hz41 => ?_)
      refine W.widen (k := 1) (n := 6) (Nat.le_of_ble_eq_true rfl) (Nat.le_of_ble_eq_true rfl) ?_
      exact hret () dX5_protectedSeats_44 hP hD hS ⟨hO, hO2, by rw [cN_nI (by omega), cN_nI (by omega), hz41]⟩
    · skip
      refine lv_if_ne (tgt := 38) hx hb dX5_protectedSeats_25 (by decide) (fun q => by first | exact absurd q (by decide) | exact absurd (by decide) q) (fun _ => ?_)
      exact hthr "java/lang/IllegalArgumentException" "a fare is 1 to 1000" ["java/lang/RuntimeException", "java/lang/Exception"] 72 197 76 (Or.inr ⟨b1, b22, rfl⟩) (by decide +kernel) (by decide +kernel) (hts _ (List.mem_of_getElem? (i := 3) rfl)) (hts _ (List.mem_of_getElem? (i := 4) rfl)) (hXW.2.2 (197, "a fare is 1 to 1000") (by decide)) (xhat_IA (fun w hw => hts w (List.mem_cons_of_mem _ (List.mem_append_right _ hw))) hXW) xg_IA hP hD (hH0s ▸ hS) (hl.1.trans hml.symm) dX5_protectedSeats_28 dX5_protectedSeats_31 dX5_protectedSeats_32 dX5_protectedSeats_34 dX5_protectedSeats_37 (Nat.le_of_ble_eq_true rfl) (Nat.le_of_ble_eq_true rfl) (Nat.le_of_ble_eq_true rfl) (Nat.le_of_ble_eq_true rfl) (Nat.le_of_ble_eq_true rfl) (Nat.le_of_ble_eq_true rfl)
  · skip
    refine lv_if_ne (tgt := 17) hx hb dX5_protectedSeats_4 (by decide) (fun q => by first | exact absurd q (by decide) | exact absurd (by decide) q) (fun _ => ?_)
    exact hthr "java/lang/IndexOutOfBoundsException" "there is no such leg" ["java/lang/RuntimeException", "java/lang/Exception"] 87 89 91 (Or.inl ⟨b1, rfl⟩) (by decide +kernel) (by decide +kernel) (hts _ (List.mem_of_getElem? (i := 1) rfl)) (hts _ (List.mem_of_getElem? (i := 2) rfl)) (hXW.2.2 (89, "there is no such leg") (by decide)) (xhat_IO (fun w hw => hts w (List.mem_cons_of_mem _ (List.mem_append_left _ (List.mem_append_right _ hw)))) hXW) xg_IO hP hD (hH0s ▸ hS) (hl.1.trans hml.symm) dX5_protectedSeats_7 dX5_protectedSeats_10 dX5_protectedSeats_11 dX5_protectedSeats_13 dX5_protectedSeats_16 (Nat.le_of_ble_eq_true rfl) (Nat.le_of_ble_eq_true rfl) (Nat.le_of_ble_eq_true rfl) (Nat.le_of_ble_eq_true rfl) (Nat.le_of_ble_eq_true rfl) (Nat.le_of_ble_eq_true rfl)
set_option maxHeartbeats 4000000 in
set_option maxRecDepth 100000 in
theorem c_X5_expected (l : Launch) (hfl : l.stackTraces = false) (D : va_G) (cy : Nat → ClassId) (ad : Nat → Nat → Nat) (σ : SF) (er : Int64) (ofd de bo : Nat → Option Nat) (ql : Nat → Nat) (qs : Nat → Nat → Nat) (tv : Nat → Nat) (hof : OF ad σ ofd) {n : Nat} (hI : Iv n σ) (v : Int32) : cXI l D cy yX5_expected wsX5_expected rmX5_expected [.ref (ad 0 0), .int v] (WG ad cy (σ 0 0) (σ 0 3) σ er ofd de bo ql qs tv) (T := Unit) (fun _ => WG ad cy (σ 0 0) (σ 0 3) σ er ofd de bo ql qs tv) (fun r _ => isP σ v ∧ r = nI (σ 6 (cN v))) (fun E => ¬ isP σ v ∧ E = eIO) 1 6 := by
  refine cXI.of (cc := cX5_expected) (maxL := 3) hfl (by decide) rfl (Nat.le_of_ble_eq_true rfl) ?_
  intro p e s m args below meth c H0 A Q hx hb hml hown hts hP hK hD hS hA hXW hH0s hret hthr ls hl
  obtain ⟨H, locs, hH, hlo⟩ : ∃ (H : Heap) (locs : List Loc), H = H0 ∧ locs = [] := ⟨_, _, rfl, rfl⟩
  rw [← hH] at hP
  rw [show va_S A H0 H0 [] = va_S A H0 H locs by rw [hH, hlo]] at hS
  rw [show W p l e rmX5_expected s m args below meth c H0 [] 0 0 Q (F0 m 0 ls []) = W p l e rmX5_expected s m args below meth c H locs 0 0 Q (F0 m 0 ls []) by rw [hH, hlo]]
  have hnp := hI.np
  refine lv_aload_n hx hb dX5_expected_0 rfl (lv_at hl 0 rfl) ?_
  refine lv_iload_n hx hb dX5_expected_1 rfl (lv_at hl 1 rfl) ?_
  refine ro_callqP (va_runV (As := [.int v]) (rest := []) ⟨hx, hb, hml, hown, hts⟩ (c_X5_productAt l D cy ad σ er ofd de bo ql qs tv hof hnp (v) H hP) (cwV 1 hts gX5_expected_X5_productAt rfl rfl rfl hdX5_productAt ⟨Nat.le_of_ble_eq_true rfl, Nat.le_of_ble_eq_true rfl⟩) (ro_preV hK (va_recv hK.1 hP (ci := 5) (q0 := 0) rfl rfl)) rfl rfl hl.1 rfl (lv_room (Nat.le_of_ble_eq_true rfl)) dX5_expected_2 ⟨Nat.le_of_ble_eq_true rfl, Nat.le_of_ble_eq_true rfl⟩) (fun a2 r2 => ?_) (fun r2 => ?_)
  · skip
    obtain ⟨k, hk, rfl, rfl⟩ := r2
    refine lv_astore_n (lv' := [(2, .ref (ad 1 k)), (0, .ref (ad 0 0)), (1, .int (nI k))]) hx hb dX5_expected_5 rfl hl (by decide) rfl (fun ls hl => ?_)
    refine lv_aload_n hx hb dX5_expected_6 rfl (lv_at hl 0 rfl) ?_
    refine lv_ifnonnull (tgt := 20) hx hb dX5_expected_7 (by decide) ?_
    refine lv_aload_n hx hb dX5_expected_20 rfl (lv_at hl 0 rfl) ?_
    refine gn2 (v := .int (nI (σ 6 k))) hx hb hts fX5_expected_2 hown hK.1 hP (k + 20) 4 (WG_pd hk) (by decide) (hK.2 _ nwf_X5_117 rfl) rfl rfl dX5_expected_21 ?_
    refine W.widen (k := 1) (n := 6) (Nat.le_of_ble_eq_true rfl) (Nat.le_of_ble_eq_true rfl) ?_
    exact hret () dX5_expected_24 hP hD hS ⟨⟨k, hk, rfl⟩, by rw [cN_nI (by omega)]⟩
  · skip
    refine lv_astore_nN (lv' := [(2, .null), (0, .ref (ad 0 0)), (1, .int v)]) hx hb dX5_expected_5 rfl hl (by decide) rfl (fun ls hl => ?_)
    refine lv_aload_nN hx hb dX5_expected_6 rfl (lv_at hl 0 rfl) ?_
    refine lv_ifnonnullN hx hb dX5_expected_7 ?_
    exact hthr "java/lang/IndexOutOfBoundsException" "there is no such product" ["java/lang/RuntimeException", "java/lang/Exception"] 87 113 91 ⟨r2, rfl⟩ (by decide +kernel) (by decide +kernel) (hts _ (List.mem_of_getElem? (i := 1) rfl)) (hts _ (List.mem_of_getElem? (i := 2) rfl)) (hXW.2.2 (113, "there is no such product") (by decide)) (xhat_IO (fun w hw => hts w (List.mem_cons_of_mem _ (List.mem_append_right _ hw))) hXW) xg_IO hP hD (hH0s ▸ hS) (hl.1.trans hml.symm) dX5_expected_10 dX5_expected_13 dX5_expected_14 dX5_expected_16 dX5_expected_19 (Nat.le_of_ble_eq_true rfl) (Nat.le_of_ble_eq_true rfl) (Nat.le_of_ble_eq_true rfl) (Nat.le_of_ble_eq_true rfl) (Nat.le_of_ble_eq_true rfl) (Nat.le_of_ble_eq_true rfl)
set_option maxHeartbeats 4000000 in
set_option maxRecDepth 100000 in
theorem c_X5_asked (l : Launch) (hfl : l.stackTraces = false) (D : va_G) (cy : Nat → ClassId) (ad : Nat → Nat → Nat) (σ : SF) (er : Int64) (ofd de bo : Nat → Option Nat) (ql : Nat → Nat) (qs : Nat → Nat → Nat) (tv : Nat → Nat) (hof : OF ad σ ofd) {n : Nat} (hI : Iv n σ) (v : Int32) : cXI l D cy yX5_asked wsX5_asked rmX5_asked [.ref (ad 0 0), .int v] (WG ad cy (σ 0 0) (σ 0 3) σ er ofd de bo ql qs tv) (T := Unit) (fun _ => WG ad cy (σ 0 0) (σ 0 3) σ er ofd de bo ql qs tv) (fun r _ => isP σ v ∧ r = nI (σ 7 (cN v))) (fun E => ¬ isP σ v ∧ E = eIO) 1 6 := by
  refine cXI.of (cc := cX5_asked) (maxL := 3) hfl (by decide) rfl (Nat.le_of_ble_eq_true rfl) ?_
  intro p e s m args below meth c H0 A Q hx hb hml hown hts hP hK hD hS hA hXW hH0s hret hthr ls hl
  obtain ⟨H, locs, hH, hlo⟩ : ∃ (H : Heap) (locs : List Loc), H = H0 ∧ locs = [] := ⟨_, _, rfl, rfl⟩
  rw [← hH] at hP
  rw [show va_S A H0 H0 [] = va_S A H0 H locs by rw [hH, hlo]] at hS
  rw [show W p l e rmX5_asked s m args below meth c H0 [] 0 0 Q (F0 m 0 ls []) = W p l e rmX5_asked s m args below meth c H locs 0 0 Q (F0 m 0 ls []) by rw [hH, hlo]]
  have hnp := hI.np
  refine lv_aload_n hx hb dX5_asked_0 rfl (lv_at hl 0 rfl) ?_
  refine lv_iload_n hx hb dX5_asked_1 rfl (lv_at hl 1 rfl) ?_
  refine ro_callqP (va_runV (As := [.int v]) (rest := []) ⟨hx, hb, hml, hown, hts⟩ (c_X5_productAt l D cy ad σ er ofd de bo ql qs tv hof hnp (v) H hP) (cwV 1 hts gX5_asked_X5_productAt rfl rfl rfl hdX5_productAt ⟨Nat.le_of_ble_eq_true rfl, Nat.le_of_ble_eq_true rfl⟩) (ro_preV hK (va_recv hK.1 hP (ci := 5) (q0 := 0) rfl rfl)) rfl rfl hl.1 rfl (lv_room (Nat.le_of_ble_eq_true rfl)) dX5_asked_2 ⟨Nat.le_of_ble_eq_true rfl, Nat.le_of_ble_eq_true rfl⟩) (fun a2 r2 => ?_) (fun r2 => ?_)
  · skip
    obtain ⟨k, hk, rfl, rfl⟩ := r2
    refine lv_astore_n (lv' := [(2, .ref (ad 1 k)), (0, .ref (ad 0 0)), (1, .int (nI k))]) hx hb dX5_asked_5 rfl hl (by decide) rfl (fun ls hl => ?_)
    refine lv_aload_n hx hb dX5_asked_6 rfl (lv_at hl 0 rfl) ?_
    refine lv_ifnonnull (tgt := 20) hx hb dX5_asked_7 (by decide) ?_
    refine lv_aload_n hx hb dX5_asked_20 rfl (lv_at hl 0 rfl) ?_
    refine gn2 (v := .int (nI (σ 7 k))) hx hb hts fX5_asked_2 hown hK.1 hP (k + 20) 5 (WG_pd hk) (by decide) (hK.2 _ nwf_X5_124 rfl) rfl rfl dX5_asked_21 ?_
    refine W.widen (k := 1) (n := 6) (Nat.le_of_ble_eq_true rfl) (Nat.le_of_ble_eq_true rfl) ?_
    exact hret () dX5_asked_24 hP hD hS ⟨⟨k, hk, rfl⟩, by rw [cN_nI (by omega)]⟩
  · skip
    refine lv_astore_nN (lv' := [(2, .null), (0, .ref (ad 0 0)), (1, .int v)]) hx hb dX5_asked_5 rfl hl (by decide) rfl (fun ls hl => ?_)
    refine lv_aload_nN hx hb dX5_asked_6 rfl (lv_at hl 0 rfl) ?_
    refine lv_ifnonnullN hx hb dX5_asked_7 ?_
    exact hthr "java/lang/IndexOutOfBoundsException" "there is no such product" ["java/lang/RuntimeException", "java/lang/Exception"] 87 113 91 ⟨r2, rfl⟩ (by decide +kernel) (by decide +kernel) (hts _ (List.mem_of_getElem? (i := 1) rfl)) (hts _ (List.mem_of_getElem? (i := 2) rfl)) (hXW.2.2 (113, "there is no such product") (by decide)) (xhat_IO (fun w hw => hts w (List.mem_cons_of_mem _ (List.mem_append_right _ hw))) hXW) xg_IO hP hD (hH0s ▸ hS) (hl.1.trans hml.symm) dX5_asked_10 dX5_asked_13 dX5_asked_14 dX5_asked_16 dX5_asked_19 (Nat.le_of_ble_eq_true rfl) (Nat.le_of_ble_eq_true rfl) (Nat.le_of_ble_eq_true rfl) (Nat.le_of_ble_eq_true rfl) (Nat.le_of_ble_eq_true rfl) (Nat.le_of_ble_eq_true rfl)
set_option maxHeartbeats 4000000 in
set_option maxRecDepth 100000 in
theorem c_X5_bid (l : Launch) (hfl : l.stackTraces = false) (D : va_G) (cy : Nat → ClassId) (ad : Nat → Nat → Nat) (σ : SF) (er : Int64) (ofd de bo : Nat → Option Nat) (ql : Nat → Nat) (qs : Nat → Nat → Nat) (tv : Nat → Nat) (hbo : BO ad σ bo) {n : Nat} (hI : Iv n σ) {dl : List Nat} (hDL : DL ad σ de dl) (hQZ : QZ qs) (v : Int32) : cXI l D cy yX5_bid wsX5_bid rmX5_bid [.ref (ad 0 0), .int v] (WG ad cy (σ 0 0) (σ 0 3) σ er ofd de bo ql qs tv) (T := (Nat → Nat) × (Nat → Nat → Nat)) (fun u => WG ad cy (σ 0 0) (σ 0 3) σ er ofd de bo u.1 u.2 tv) (fun r u => okR v 0 2 ∧ r = bidI σ (cN v) ∧ QZ u.2) (fun E => ¬ okR v 0 2 ∧ E = eIO) 1 6 := by
  refine cXI.of (cc := cX5_bid) (maxL := 2) hfl (by decide) rfl (Nat.le_of_ble_eq_true rfl) ?_
  intro p e s m args below meth c H0 A Q hx hb hml hown hts hP hK hD hS hA hXW hH0s hret hthr ls hl
  obtain ⟨H, locs, hH, hlo⟩ : ∃ (H : Heap) (locs : List Loc), H = H0 ∧ locs = [] := ⟨_, _, rfl, rfl⟩
  rw [← hH] at hP
  rw [show va_S A H0 H0 [] = va_S A H0 H locs by rw [hH, hlo]] at hS
  rw [show W p l e rmX5_bid s m args below meth c H0 [] 0 0 Q (F0 m 0 ls []) = W p l e rmX5_bid s m args below meth c H locs 0 0 Q (F0 m 0 ls []) by rw [hH, hlo]]
  refine lv_iload_n hx hb dX5_bid_0 rfl (lv_at hl 1 rfl) ?_
  refine ro_calliB (va_runS (As := [.int v]) (rest := []) ⟨hx, hb, hml, hown, hts⟩ (c_X5_isLeg l D cy (v) H va_P0) (va_cwS 1 hts gX5_bid_X5_isLeg rfl rfl rfl hdX5_isLeg.2 ⟨Nat.le_of_ble_eq_true rfl, Nat.le_of_ble_eq_true rfl⟩) (ro_pre hK rfl) rfl rfl hl.1 rfl (lv_room (Nat.le_of_ble_eq_true rfl)) dX5_bid_1 ⟨Nat.le_of_ble_eq_true rfl, Nat.le_of_ble_eq_true rfl⟩) (fun b1 => ?_) (fun b1 => ?_)
  · skip
    have hO := b1
    obtain ⟨j, hja, hjb, rfl⟩ := okR_nat (a := 0) (b := 2) b1 (by decide) (by decide)
    refine lv_if_ne (tgt := 17) hx hb dX5_bid_4 (by decide) (fun _ => ?_) (fun q => by first | exact absurd q (by decide) | exact absurd (by decide) q)
    refine lv_aload_n hx hb dX5_bid_17 rfl (lv_at hl 0 rfl) ?_
    refine lv_iload_n hx hb dX5_bid_18 rfl (lv_at hl 1 rfl) ?_
    refine lv_iload_n hx hb dX5_bid_19 rfl (lv_at hl 1 rfl) ?_
    refine mw_calli (va_runV (As := [.int (nI j), .int (nI j)]) (rest := []) ⟨hx, hb, hml, hown, hts⟩ (c_X5_bidsOver l D cy ad σ er ofd de bo ql qs tv hbo hI hDL hQZ j j (by omega) (by omega) H.size) (cwV 2 hts gX5_bid_X5_bidsOver rfl rfl rfl hdX5_bidsOver ⟨Nat.le_of_ble_eq_true rfl, Nat.le_of_ble_eq_true rfl⟩) (mo_preV hK rfl hP hD (va_recv hK.1 hP (ci := 5) (q0 := 0) rfl rfl)) rfl rfl hl.1 rfl (lv_room (Nat.le_of_ble_eq_true rfl)) dX5_bid_20 ⟨Nat.le_of_ble_eq_true rfl, Nat.le_of_ble_eq_true rfl⟩) hS hD hA (fun z20 u20 H locs hz20 hP hD hS => ?_)
    have hQZ := hz20.2
    refine W.widen (k := 1) (n := 6) (Nat.le_of_ble_eq_true rfl) (Nat.le_of_ble_eq_true rfl) ?_
    exact hret u20 dX5_bid_23 hP hD hS ⟨hO, by rw [cN_nI (by omega), hz20.1, show j + 1 - j = 1 by omega]; exact Int32.zero_add _, hQZ⟩
  · skip
    refine lv_if_ne (tgt := 17) hx hb dX5_bid_4 (by decide) (fun q => by first | exact absurd q (by decide) | exact absurd (by decide) q) (fun _ => ?_)
    exact hthr "java/lang/IndexOutOfBoundsException" "there is no such leg" ["java/lang/RuntimeException", "java/lang/Exception"] 87 89 91 ⟨b1, rfl⟩ (by decide +kernel) (by decide +kernel) (hts _ (List.mem_of_getElem? (i := 1) rfl)) (hts _ (List.mem_of_getElem? (i := 2) rfl)) (hXW.2.2 (89, "there is no such leg") (by decide)) (xhat_IO (fun w hw => hts w (List.mem_cons_of_mem _ (List.mem_append_right _ hw))) hXW) xg_IO hP hD (hH0s ▸ hS) (hl.1.trans hml.symm) dX5_bid_7 dX5_bid_10 dX5_bid_11 dX5_bid_13 dX5_bid_16 (Nat.le_of_ble_eq_true rfl) (Nat.le_of_ble_eq_true rfl) (Nat.le_of_ble_eq_true rfl) (Nat.le_of_ble_eq_true rfl) (Nat.le_of_ble_eq_true rfl) (Nat.le_of_ble_eq_true rfl)
set_option maxHeartbeats 4000000 in
set_option maxRecDepth 100000 in
theorem c_X5_displaced (l : Launch) (hfl : l.stackTraces = false) (D : va_G) (cy : Nat → ClassId) (ad : Nat → Nat → Nat) (σ : SF) (er : Int64) (ofd de bo : Nat → Option Nat) (ql : Nat → Nat) (qs : Nat → Nat → Nat) (tv : Nat → Nat) (hbo : BO ad σ bo) {n : Nat} (hI : Iv n σ) {dl : List Nat} (hDL : DL ad σ de dl) (hQZ : QZ qs) (f t q : Int32) : cXI l D cy yX5_displaced wsX5_displaced rmX5_displaced [.ref (ad 0 0), .int f, .int t, .int q] (WG ad cy (σ 0 0) (σ 0 3) σ er ofd de bo ql qs tv) (T := (Nat → Nat) × (Nat → Nat → Nat)) (fun u => WG ad cy (σ 0 0) (σ 0 3) σ er ofd de bo u.1 u.2 tv) (fun r u => (okR f 0 2 ∧ okR t 0 2) ∧ (f ≤ t ∧ okR q 1 10) ∧ ((tooFull σ (cN f) (cN t) (cN q) ∧ r = -1) ∨ (¬ tooFull σ (cN f) (cN t) (cN q) ∧ r = disI σ (cN f) (cN t) (cN q))) ∧ QZ u.2) (fun E => (¬ (okR f 0 2 ∧ okR t 0 2) ∧ E = eIO) ∨ ((okR f 0 2 ∧ okR t 0 2) ∧ ¬ (f ≤ t ∧ okR q 1 10) ∧ E = eIA)) 1 6 := by
  refine cXI.of (cc := cX5_displaced) (maxL := 4) hfl (by decide) rfl (Nat.le_of_ble_eq_true rfl) ?_
  intro p e s m args below meth c H0 A Q hx hb hml hown hts hP hK hD hS hA hXW hH0s hret hthr ls hl
  obtain ⟨H, locs, hH, hlo⟩ : ∃ (H : Heap) (locs : List Loc), H = H0 ∧ locs = [] := ⟨_, _, rfl, rfl⟩
  rw [← hH] at hP
  rw [show va_S A H0 H0 [] = va_S A H0 H locs by rw [hH, hlo]] at hS
  rw [show W p l e rmX5_displaced s m args below meth c H0 [] 0 0 Q (F0 m 0 ls []) = W p l e rmX5_displaced s m args below meth c H locs 0 0 Q (F0 m 0 ls []) by rw [hH, hlo]]
  refine lv_iload_n hx hb dX5_displaced_0 rfl (lv_at hl 1 rfl) ?_
  refine ro_calliB (va_runS (As := [.int f]) (rest := []) ⟨hx, hb, hml, hown, hts⟩ (c_X5_isLeg l D cy (f) H va_P0) (va_cwS 1 hts gX5_displaced_X5_isLeg rfl rfl rfl hdX5_isLeg.2 ⟨Nat.le_of_ble_eq_true rfl, Nat.le_of_ble_eq_true rfl⟩) (ro_pre hK rfl) rfl rfl hl.1 rfl (lv_room (Nat.le_of_ble_eq_true rfl)) dX5_displaced_1 ⟨Nat.le_of_ble_eq_true rfl, Nat.le_of_ble_eq_true rfl⟩) (fun b1 => ?_) (fun b1 => ?_)
  · skip
    refine lv_if_eq (tgt := 14) hx hb dX5_displaced_4 (by decide) (fun q => by first | exact absurd q (by decide) | exact absurd (by decide) q) (fun _ => ?_)
    refine lv_iload_n hx hb dX5_displaced_7 rfl (lv_at hl 2 rfl) ?_
    refine ro_calliB (va_runS (As := [.int t]) (rest := []) ⟨hx, hb, hml, hown, hts⟩ (c_X5_isLeg l D cy (t) H va_P0) (va_cwS 1 hts gX5_displaced_X5_isLeg rfl rfl rfl hdX5_isLeg.2 ⟨Nat.le_of_ble_eq_true rfl, Nat.le_of_ble_eq_true rfl⟩) (ro_pre hK rfl) rfl rfl hl.1 rfl (lv_room (Nat.le_of_ble_eq_true rfl)) dX5_displaced_8 ⟨Nat.le_of_ble_eq_true rfl, Nat.le_of_ble_eq_true rfl⟩) (fun b8 => ?_) (fun b8 => ?_)
    · skip
      refine lv_if_ne (tgt := 24) hx hb dX5_displaced_11 (by decide) (fun _ => ?_) (fun q => by first | exact absurd q (by decide) | exact absurd (by decide) q)
      refine lv_iload_n hx hb dX5_displaced_24 rfl (lv_at hl 2 rfl) ?_
      refine lv_iload_n hx hb dX5_displaced_25 rfl (lv_at hl 1 rfl) ?_
      refine lv_icmp_lt (tgt := 39) hx hb dX5_displaced_26 (by decide) (fun c26 => ?_) (fun c26 => ?_)
      · skip
        exact hthr "java/lang/IllegalArgumentException" "the legs are in the wrong order, or seats is out of range" ["java/lang/RuntimeException", "java/lang/Exception"] 72 218 76 (Or.inr ⟨⟨b1, b8⟩, fun z => by first | exact absurd z.1 (Int32.not_le.mpr c26) | exact b33 z.2, rfl⟩) (by decide +kernel) (by decide +kernel) (hts _ (List.mem_of_getElem? (i := 3) rfl)) (hts _ (List.mem_of_getElem? (i := 4) rfl)) (hXW.2.2 (218, "the legs are in the wrong order, or seats is out of range") (by decide)) (xhat_IA (fun w hw => hts w (List.mem_cons_of_mem _ (List.mem_append_right _ hw))) hXW) xg_IA hP hD (hH0s ▸ hS) (hl.1.trans hml.symm) dX5_displaced_39 dX5_displaced_42 dX5_displaced_43 dX5_displaced_45 dX5_displaced_48 (Nat.le_of_ble_eq_true rfl) (Nat.le_of_ble_eq_true rfl) (Nat.le_of_ble_eq_true rfl) (Nat.le_of_ble_eq_true rfl) (Nat.le_of_ble_eq_true rfl) (Nat.le_of_ble_eq_true rfl)
      · skip
        refine lv_iload_n hx hb dX5_displaced_29 rfl (lv_at hl 3 rfl) ?_
        refine lv_iconst (v := nI 1) hx hb dX5_displaced_30 (by decide) ?_
        refine lv_bipush (v := nI 10) hx hb dX5_displaced_31 (by decide) ?_
        refine ro_calliB (va_runS (As := [.int q, .int (nI 1), .int (nI 10)]) (rest := []) ⟨hx, hb, hml, hown, hts⟩ (c_X5_within l D cy (q) ((nI 1)) ((nI 10)) H va_P0) (va_cwS 3 hts gX5_displaced_X5_within rfl rfl rfl hdX5_within.2 ⟨Nat.le_of_ble_eq_true rfl, Nat.le_of_ble_eq_true rfl⟩) (ro_pre hK rfl) rfl rfl hl.1 rfl (lv_room (Nat.le_of_ble_eq_true rfl)) dX5_displaced_33 ⟨Nat.le_of_ble_eq_true rfl, Nat.le_of_ble_eq_true rfl⟩) (fun b33 => ?_) (fun b33 => ?_)
        · skip
          have hL : (okR f 0 2 ∧ okR t 0 2) := ⟨b1, b8⟩
          have hR : (f ≤ t ∧ okR q 1 10) := ⟨Int32.not_lt.mp c26, b33⟩
          have hR1 := hR.1
          obtain ⟨f1, hf1a, hf1b, rfl⟩ := okR_nat (a := 0) (b := 2) b1 (by decide) (by decide)
          obtain ⟨t1, ht1a, ht1b, rfl⟩ := okR_nat (a := 0) (b := 2) b8 (by decide) (by decide)
          obtain ⟨q1, hq1a, hq1b, rfl⟩ := okR_nat (a := 1) (b := 10) b33 (by decide) (by decide)
          have hft := (nI_leI (by omega) (by omega)).mp hR1
          refine lv_if_ne (tgt := 49) hx hb dX5_displaced_36 (by decide) (fun _ => ?_) (fun q => by first | exact absurd q (by decide) | exact absurd (by decide) q)
          refine lv_aload_n hx hb dX5_displaced_49 rfl (lv_at hl 0 rfl) ?_
          refine lv_iload_n hx hb dX5_displaced_50 rfl (lv_at hl 1 rfl) ?_
          refine lv_iload_n hx hb dX5_displaced_51 rfl (lv_at hl 2 rfl) ?_
          refine lv_iload_n hx hb dX5_displaced_52 rfl (lv_at hl 3 rfl) ?_
          refine ro_calliB (va_runV (As := [.int (nI f1), .int (nI t1), .int (nI q1)]) (rest := []) ⟨hx, hb, hml, hown, hts⟩ (c_X5_hasLeft l D cy ad σ er ofd de bo ql qs tv hbo hI f1 t1 q1 (by omega) (by omega) (by omega) H hP) (cwV 3 hts gX5_displaced_X5_hasLeft rfl rfl rfl hdX5_hasLeft ⟨Nat.le_of_ble_eq_true rfl, Nat.le_of_ble_eq_true rfl⟩) (ro_preV hK (va_recv hK.1 hP (ci := 5) (q0 := 0) rfl rfl)) rfl rfl hl.1 rfl (lv_room (Nat.le_of_ble_eq_true rfl)) dX5_displaced_53 ⟨Nat.le_of_ble_eq_true rfl, Nat.le_of_ble_eq_true rfl⟩) (fun b53 => ?_) (fun b53 => ?_)
          · skip
            refine lv_if_eq (tgt := 69) hx hb dX5_displaced_56 (by decide) (fun q => by first | exact absurd q (by decide) | exact absurd (by decide) q) (fun _ => ?_)
            refine lv_aload_n hx hb dX5_displaced_59 rfl (lv_at hl 0 rfl) ?_
            refine lv_iload_n hx hb dX5_displaced_60 rfl (lv_at hl 1 rfl) ?_
            refine lv_iload_n hx hb dX5_displaced_61 rfl (lv_at hl 2 rfl) ?_
            refine lv_iload_n hx hb dX5_displaced_62 rfl (lv_at hl 3 rfl) ?_
            refine mw_calli (va_runV (As := [.int (nI f1), .int (nI t1), .int (nI q1)]) (rest := []) ⟨hx, hb, hml, hown, hts⟩ (c_X5_displacement l D cy ad σ er ofd de bo ql qs tv hbo hI hDL hQZ f1 t1 q1 (by omega) (by omega) (by omega) (fun j h1 h2 => Nat.le_of_not_lt (fun z => b53 ⟨j, h1, h2, z⟩)) H.size) (cwV 3 hts gX5_displaced_X5_displacement rfl rfl rfl hdX5_displacement ⟨Nat.le_of_ble_eq_true rfl, Nat.le_of_ble_eq_true rfl⟩) (mo_preV hK rfl hP hD (va_recv hK.1 hP (ci := 5) (q0 := 0) rfl rfl)) rfl rfl hl.1 rfl (lv_room (Nat.le_of_ble_eq_true rfl)) dX5_displaced_63 ⟨Nat.le_of_ble_eq_true rfl, Nat.le_of_ble_eq_true rfl⟩) hS hD hA (fun z63 u63 H locs hz63 hP hD hS => ?_)
            have hQZ := hz63.2
            refine lv_goto (tgt := 70) hx hb dX5_displaced_66 (by decide) ?_
            refine W.widen (k := 1) (n := 6) (Nat.le_of_ble_eq_true rfl) (Nat.le_of_ble_eq_true rfl) ?_
            exact hret u63 dX5_displaced_70 hP hD hS ⟨hL, hR, Or.inr (by rw [cN_nI (by omega), cN_nI (by omega), cN_nI (by omega)]; exact ⟨b53, hz63.1⟩), hQZ⟩
          · skip
            refine lv_if_eq (tgt := 69) hx hb dX5_displaced_56 (by decide) (fun _ => ?_) (fun q => by first | exact absurd q (by decide) | exact absurd (by decide) q)
            refine lv_iconst (v := -1) hx hb dX5_displaced_69 (by decide) ?_
            refine W.widen (k := 1) (n := 6) (Nat.le_of_ble_eq_true rfl) (Nat.le_of_ble_eq_true rfl) ?_
            exact hret (ql, qs) dX5_displaced_70 hP hD hS ⟨hL, hR, Or.inl (by rw [cN_nI (by omega), cN_nI (by omega), cN_nI (by omega)]; exact ⟨Classical.not_not.mp b53, rfl⟩), hQZ⟩
        · skip
          refine lv_if_ne (tgt := 49) hx hb dX5_displaced_36 (by decide) (fun q => by first | exact absurd q (by decide) | exact absurd (by decide) q) (fun _ => ?_)
          exact hthr "java/lang/IllegalArgumentException" "the legs are in the wrong order, or seats is out of range" ["java/lang/RuntimeException", "java/lang/Exception"] 72 218 76 (Or.inr ⟨⟨b1, b8⟩, fun z => by first | exact absurd z.1 (Int32.not_le.mpr c26) | exact b33 z.2, rfl⟩) (by decide +kernel) (by decide +kernel) (hts _ (List.mem_of_getElem? (i := 3) rfl)) (hts _ (List.mem_of_getElem? (i := 4) rfl)) (hXW.2.2 (218, "the legs are in the wrong order, or seats is out of range") (by decide)) (xhat_IA (fun w hw => hts w (List.mem_cons_of_mem _ (List.mem_append_right _ hw))) hXW) xg_IA hP hD (hH0s ▸ hS) (hl.1.trans hml.symm) dX5_displaced_39 dX5_displaced_42 dX5_displaced_43 dX5_displaced_45 dX5_displaced_48 (Nat.le_of_ble_eq_true rfl) (Nat.le_of_ble_eq_true rfl) (Nat.le_of_ble_eq_true rfl) (Nat.le_of_ble_eq_true rfl) (Nat.le_of_ble_eq_true rfl) (Nat.le_of_ble_eq_true rfl)
    · skip
      refine lv_if_ne (tgt := 24) hx hb dX5_displaced_11 (by decide) (fun q => by first | exact absurd q (by decide) | exact absurd (by decide) q) (fun _ => ?_)
      exact hthr "java/lang/IndexOutOfBoundsException" "there is no such leg" ["java/lang/RuntimeException", "java/lang/Exception"] 87 89 91 (Or.inl ⟨fun z => by first | exact b1 z.1 | exact b8 z.2, rfl⟩) (by decide +kernel) (by decide +kernel) (hts _ (List.mem_of_getElem? (i := 1) rfl)) (hts _ (List.mem_of_getElem? (i := 2) rfl)) (hXW.2.2 (89, "there is no such leg") (by decide)) (xhat_IO (fun w hw => hts w (List.mem_cons_of_mem _ (List.mem_append_left _ (List.mem_append_right _ hw)))) hXW) xg_IO hP hD (hH0s ▸ hS) (hl.1.trans hml.symm) dX5_displaced_14 dX5_displaced_17 dX5_displaced_18 dX5_displaced_20 dX5_displaced_23 (Nat.le_of_ble_eq_true rfl) (Nat.le_of_ble_eq_true rfl) (Nat.le_of_ble_eq_true rfl) (Nat.le_of_ble_eq_true rfl) (Nat.le_of_ble_eq_true rfl) (Nat.le_of_ble_eq_true rfl)
  · skip
    refine lv_if_eq (tgt := 14) hx hb dX5_displaced_4 (by decide) (fun _ => ?_) (fun q => by first | exact absurd q (by decide) | exact absurd (by decide) q)
    exact hthr "java/lang/IndexOutOfBoundsException" "there is no such leg" ["java/lang/RuntimeException", "java/lang/Exception"] 87 89 91 (Or.inl ⟨fun z => by first | exact b1 z.1 | exact b8 z.2, rfl⟩) (by decide +kernel) (by decide +kernel) (hts _ (List.mem_of_getElem? (i := 1) rfl)) (hts _ (List.mem_of_getElem? (i := 2) rfl)) (hXW.2.2 (89, "there is no such leg") (by decide)) (xhat_IO (fun w hw => hts w (List.mem_cons_of_mem _ (List.mem_append_left _ (List.mem_append_right _ hw)))) hXW) xg_IO hP hD (hH0s ▸ hS) (hl.1.trans hml.symm) dX5_displaced_14 dX5_displaced_17 dX5_displaced_18 dX5_displaced_20 dX5_displaced_23 (Nat.le_of_ble_eq_true rfl) (Nat.le_of_ble_eq_true rfl) (Nat.le_of_ble_eq_true rfl) (Nat.le_of_ble_eq_true rfl) (Nat.le_of_ble_eq_true rfl) (Nat.le_of_ble_eq_true rfl)
set_option maxHeartbeats 4000000 in
set_option maxRecDepth 100000 in
theorem c_X5_cancel (l : Launch) (hfl : l.stackTraces = false) (D : va_G) (cy : Nat → ClassId) (ad : Nat → Nat → Nat) (σ : SF) (er : Int64) (ofd de bo : Nat → Option Nat) (ql : Nat → Nat) (qs : Nat → Nat → Nat) (tv : Nat → Nat) (hbo : BO ad σ bo) {n : Nat} (hI : Iv n σ) (v : Int32) : cXI l D cy yX5_cancel wsX5_cancel rmX5_cancel [.ref (ad 0 0), .int v] (WG ad cy (σ 0 0) (σ 0 3) σ er ofd de bo ql qs tv) (T := Unit) (fun _ => WG ad cy (σ 0 0) (σ 0 3) ((caF σ (cN v))) er ofd de bo ql qs tv) (fun r _ => isB σ v ∧ σ 14 (cN v) = 0 ∧ r = nI (σ 12 (cN v))) (fun E => (¬ isB σ v ∧ E = eIO) ∨ (isB σ v ∧ ¬ σ 14 (cN v) = 0 ∧ E = eIS)) 1 6 := by
  refine cXI.of (cc := cX5_cancel) (maxL := 3) hfl (by decide) rfl (Nat.le_of_ble_eq_true rfl) ?_
  intro p e s m args below meth c H0 A Q hx hb hml hown hts hP hK hD hS hA hXW hH0s hret hthr ls hl
  obtain ⟨H, locs, hH, hlo⟩ : ∃ (H : Heap) (locs : List Loc), H = H0 ∧ locs = [] := ⟨_, _, rfl, rfl⟩
  rw [← hH] at hP
  rw [show va_S A H0 H0 [] = va_S A H0 H locs by rw [hH, hlo]] at hS
  rw [show W p l e rmX5_cancel s m args below meth c H0 [] 0 0 Q (F0 m 0 ls []) = W p l e rmX5_cancel s m args below meth c H locs 0 0 Q (F0 m 0 ls []) by rw [hH, hlo]]
  have hnb := hI.nb
  refine lv_aload_n hx hb dX5_cancel_0 rfl (lv_at hl 0 rfl) ?_
  refine lv_iload_n hx hb dX5_cancel_1 rfl (lv_at hl 1 rfl) ?_
  refine ro_callqP (va_runV (As := [.int v]) (rest := []) ⟨hx, hb, hml, hown, hts⟩ (c_X5_bookingAt l D cy ad σ er ofd de bo ql qs tv hbo hnb (v) H hP) (cwV 1 hts gX5_cancel_X5_bookingAt rfl rfl rfl hdX5_bookingAt ⟨Nat.le_of_ble_eq_true rfl, Nat.le_of_ble_eq_true rfl⟩) (ro_preV hK (va_recv hK.1 hP (ci := 5) (q0 := 0) rfl rfl)) rfl rfl hl.1 rfl (lv_room (Nat.le_of_ble_eq_true rfl)) dX5_cancel_2 ⟨Nat.le_of_ble_eq_true rfl, Nat.le_of_ble_eq_true rfl⟩) (fun a2 r2 => ?_) (fun r2 => ?_)
  · skip
    obtain ⟨b, hb1, rfl, rfl⟩ := r2
    have hbo9 := hI.bo b hb1
    refine lv_astore_n (lv' := [(2, .ref (ad 3 b)), (0, .ref (ad 0 0)), (1, .int (nI b))]) hx hb dX5_cancel_5 rfl hl (by decide) rfl (fun ls hl => ?_)
    refine lv_aload_n hx hb dX5_cancel_6 rfl (lv_at hl 0 rfl) ?_
    refine lv_ifnonnull (tgt := 20) hx hb dX5_cancel_7 (by decide) ?_
    refine lv_aload_n hx hb dX5_cancel_20 rfl (lv_at hl 0 rfl) ?_
    refine gn0 (v := .int (nI (σ 14 b))) hx hb hts fX5_cancel_0 hown hK.1 hP ((σ 0 0) + ((σ 0 0) + b) + 20) 4 (WG_bk hb1) (by decide) (hK.2 _ nwf_X5_171 rfl) rfl rfl dX5_cancel_21 ?_
    refine ln_if_eq (tgt := 37) hx hb (by omega) dX5_cancel_24 (by decide) (fun c24 => ?_) (fun c24 => ?_)
    · skip
      refine lv_aload_n hx hb dX5_cancel_37 rfl (lv_at hl 0 rfl) ?_
      refine lv_iconst (v := nI 1) hx hb dX5_cancel_38 (by decide) ?_
      refine pn0 hx hb hts fX5_cancel_0 hown hK.1 hP hD hS ((σ 0 0) + ((σ 0 0) + b) + 20) 4 (WG_bk hb1) (by decide) (hK.2 _ nwf_X5_171 rfl) rfl rfl (ty := .boolean) (by decide) (by decide) rfl (Nat.le_of_ble_eq_true rfl) dX5_cancel_39 (fun H locs hP hD hS => ?_)
      refine lv_aload_n hx hb dX5_cancel_42 rfl (lv_at hl 0 rfl) ?_
      rw [bk_put hb1] at hP hD
      have hP : va_P D vwCl (WG ad cy (σ 0 0) (σ 0 3) (va_up σ 14 (va_up (σ 14) b 1)) er ofd de bo ql qs tv) H := hP
      have hD : va_D A (WG ad cy (σ 0 0) (σ 0 3) (va_up σ 14 (va_up (σ 14) b 1)) er ofd de bo ql qs tv) := hD
      refine gn0 (v := .int (nI (σ 12 b))) hx hb hts fX5_cancel_0 hown hK.1 hP ((σ 0 0) + ((σ 0 0) + b) + 20) 2 (WG_bk hb1) (by decide) (hK.2 _ nwf_X5_177 rfl) rfl rfl dX5_cancel_43 ?_
      have hP : va_P D vwCl (WG ad cy (σ 0 0) (σ 0 3) ((caF σ (cN (nI b)))) er ofd de bo ql qs tv) H := by rw [cN_nI (by omega)]; exact hP
      have hD : va_D A (WG ad cy (σ 0 0) (σ 0 3) ((caF σ (cN (nI b)))) er ofd de bo ql qs tv) := by rw [cN_nI (by omega)]; exact hD
      refine W.widen (k := 1) (n := 6) (Nat.le_of_ble_eq_true rfl) (Nat.le_of_ble_eq_true rfl) ?_
      exact hret () dX5_cancel_46 hP hD hS ⟨⟨b, hb1, rfl⟩, by rw [cN_nI (by omega)]; exact c24, by rw [cN_nI (by omega)]⟩
    · skip
      exact hthr "java/lang/IllegalStateException" "the booking is cancelled" ["java/lang/RuntimeException", "java/lang/Exception"] 97 175 101 (Or.inr ⟨⟨b, hb1, rfl⟩, by rw [cN_nI (by omega)]; exact c24, rfl⟩) (by decide +kernel) (by decide +kernel) (hts _ (List.mem_of_getElem? (i := 3) rfl)) (hts _ (List.mem_of_getElem? (i := 4) rfl)) (hXW.2.2 (175, "the booking is cancelled") (by decide)) (xhat_IS (fun w hw => hts w (List.mem_cons_of_mem _ (List.mem_append_right _ hw))) hXW) xg_IS hP hD (hH0s ▸ hS) (hl.1.trans hml.symm) dX5_cancel_27 dX5_cancel_30 dX5_cancel_31 dX5_cancel_33 dX5_cancel_36 (Nat.le_of_ble_eq_true rfl) (Nat.le_of_ble_eq_true rfl) (Nat.le_of_ble_eq_true rfl) (Nat.le_of_ble_eq_true rfl) (Nat.le_of_ble_eq_true rfl) (Nat.le_of_ble_eq_true rfl)
  · skip
    refine lv_astore_nN (lv' := [(2, .null), (0, .ref (ad 0 0)), (1, .int v)]) hx hb dX5_cancel_5 rfl hl (by decide) rfl (fun ls hl => ?_)
    refine lv_aload_nN hx hb dX5_cancel_6 rfl (lv_at hl 0 rfl) ?_
    refine lv_ifnonnullN hx hb dX5_cancel_7 ?_
    exact hthr "java/lang/IndexOutOfBoundsException" "there is no such booking" ["java/lang/RuntimeException", "java/lang/Exception"] 87 169 91 (Or.inl ⟨r2, rfl⟩) (by decide +kernel) (by decide +kernel) (hts _ (List.mem_of_getElem? (i := 1) rfl)) (hts _ (List.mem_of_getElem? (i := 2) rfl)) (hXW.2.2 (169, "there is no such booking") (by decide)) (xhat_IO (fun w hw => hts w (List.mem_cons_of_mem _ (List.mem_append_left _ (List.mem_append_right _ hw)))) hXW) xg_IO hP hD (hH0s ▸ hS) (hl.1.trans hml.symm) dX5_cancel_10 dX5_cancel_13 dX5_cancel_14 dX5_cancel_16 dX5_cancel_19 (Nat.le_of_ble_eq_true rfl) (Nat.le_of_ble_eq_true rfl) (Nat.le_of_ble_eq_true rfl) (Nat.le_of_ble_eq_true rfl) (Nat.le_of_ble_eq_true rfl) (Nat.le_of_ble_eq_true rfl)
set_option maxHeartbeats 4000000 in
set_option maxRecDepth 100000 in
theorem c_X5_products (l : Launch) (D : va_G) (cy : Nat → ClassId) (ad : Nat → Nat → Nat) (σ : SF) (er : Int64) (ofd de bo : Nat → Option Nat) (ql : Nat → Nat) (qs : Nat → Nat → Nat) (tv : Nat → Nat) : cRO l D cy yX5_products wsX5_products rmX5_products [.ref (ad 0 0)] (WG ad cy (σ 0 0) (σ 0 3) σ er ofd de bo ql qs tv) (pN (σ 0 0)) := by
  refine cRO.of (cc := cX5_products) (maxL := 1) (by decide) rfl (Nat.le_of_ble_eq_true rfl) (Or.inl rfl) ?_
  intro p e s m args below meth c H Q hx hb hml hown hts hP hK hret ls hl
  refine lv_aload_n hx hb dX5_products_0 rfl (lv_at hl 0 rfl) ?_
  refine gf5 (v := .int (nI (σ 0 0))) hx hb hts fX5_products_5 hown hK.1 hP 0 6 rfl (by decide) kX5_products_1 rfl rfl dX5_products_1 ?_
  exact hret dX5_products_4 rfl
set_option maxHeartbeats 4000000 in
set_option maxRecDepth 100000 in
theorem c_X5_days (l : Launch) (D : va_G) (cy : Nat → ClassId) (ad : Nat → Nat → Nat) (σ : SF) (er : Int64) (ofd de bo : Nat → Option Nat) (ql : Nat → Nat) (qs : Nat → Nat → Nat) (tv : Nat → Nat) : cRO l D cy yX5_days wsX5_days rmX5_days [.ref (ad 0 0)] (WG ad cy (σ 0 0) (σ 0 3) σ er ofd de bo ql qs tv) (pN (σ 0 1)) := by
  refine cRO.of (cc := cX5_days) (maxL := 1) (by decide) rfl (Nat.le_of_ble_eq_true rfl) (Or.inl rfl) ?_
  intro p e s m args below meth c H Q hx hb hml hown hts hP hK hret ls hl
  refine lv_aload_n hx hb dX5_days_0 rfl (lv_at hl 0 rfl) ?_
  refine gf5 (v := .int (nI (σ 0 1))) hx hb hts fX5_days_5 hown hK.1 hP 0 8 rfl (by decide) kX5_days_1 rfl rfl dX5_days_1 ?_
  exact hret dX5_days_4 rfl
set_option maxHeartbeats 4000000 in
set_option maxRecDepth 100000 in
theorem c_X5_revenue (l : Launch) (D : va_G) (cy : Nat → ClassId) (ad : Nat → Nat → Nat) (σ : SF) (er : Int64) (ofd de bo : Nat → Option Nat) (ql : Nat → Nat) (qs : Nat → Nat → Nat) (tv : Nat → Nat) (hbo : BO ad σ bo) {n : Nat} (hI : Iv n σ) : cRO l D cy yX5_revenue wsX5_revenue rmX5_revenue [.ref (ad 0 0)] (WG ad cy (σ 0 0) (σ 0 3) σ er ofd de bo ql qs tv) (pN (psum σ (σ 0 3))) := by
  refine cRO.of (cc := cX5_revenue) (maxL := 1) (by decide) rfl (Nat.le_of_ble_eq_true rfl) (Or.inl rfl) ?_
  intro p e s m args below meth c H Q hx hb hml hown hts hP hK hret ls hl
  refine lv_aload_n hx hb dX5_revenue_0 rfl (lv_at hl 0 rfl) ?_
  refine ro_calliN (va_runV (As := []) (rest := []) ⟨hx, hb, hml, hown, hts⟩ (c_X5_faresOfToday l D cy ad σ er ofd de bo ql qs tv hbo hI.nb (fun b hb => (hI.bo b hb).2.2.2.2) H hP) (cwV 0 hts gX5_revenue_X5_faresOfToday rfl rfl rfl hdX5_faresOfToday ⟨Nat.le_of_ble_eq_true rfl, Nat.le_of_ble_eq_true rfl⟩) (ro_preV hK (va_recv hK.1 hP (ci := 5) (q0 := 0) rfl rfl)) rfl rfl hl.1 rfl (lv_room (Nat.le_of_ble_eq_true rfl)) dX5_revenue_1 ⟨Nat.le_of_ble_eq_true rfl, Nat.le_of_ble_eq_true rfl⟩) (fun z1 hz1 => ?_)
  exact hret dX5_revenue_4 (pnE (by rw [hz1]))
set_option maxHeartbeats 4000000 in
set_option maxRecDepth 100000 in
theorem c_X5_earned (l : Launch) (D : va_G) (cy : Nat → ClassId) (ad : Nat → Nat → Nat) (σ : SF) (er : Int64) (ofd de bo : Nat → Option Nat) (ql : Nat → Nat) (qs : Nat → Nat → Nat) (tv : Nat → Nat) : cRL l D cy yX5_earned wsX5_earned rmX5_earned [.ref (ad 0 0)] (WG ad cy (σ 0 0) (σ 0 3) σ er ofd de bo ql qs tv) (fun r => r = er) := by
  refine cRL.of (cc := cX5_earned) (maxL := 1) (by decide) rfl (Nat.le_of_ble_eq_true rfl) ?_
  intro p e s m args below meth c H Q hx hb hml hown hts hP hK hret ls hl
  refine lv_aload_n hx hb dX5_earned_0 rfl (lv_at hl 0 rfl) ?_
  refine gf5 (v := .long er) hx hb hts fX5_earned_5 hown hK.1 hP 0 13 rfl (by decide) kX5_earned_1 rfl rfl dX5_earned_1 ?_
  exact hret dX5_earned_4 rfl
