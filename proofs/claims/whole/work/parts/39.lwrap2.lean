set_option maxHeartbeats 4000000 in
set_option maxRecDepth 100000 in
theorem c_L_setSeats (l : Launch) (hfl : l.stackTraces = false) (D : va_G) (cy : Nat → ClassId) (ad : Nat → Nat → Nat) (σ : SF) (er : Int64) (ofd de bo : Nat → Option Nat) (ql : Nat → Nat) (qs : Nat → Nat → Nat) (tv : Nat → Nat) (f t q : Int32) (ao aD : Nat) (o : Nat → Int64) (d : Nat → UInt64) : cLI l D cy yL_setSeats wsL_setSeats rmL_setSeats [.ref (ad 0 0), .int f, .int t, .int q] ((WG ad cy (σ 0 0) (σ 0 3) σ er ofd de bo ql qs tv) ++ oC cy ao aD o d) (T := TL (Unit)) (wL cy (WG ad cy (σ 0 0) (σ 0 3) σ er ofd de bo ql qs tv) (fun _ => WG ad cy (σ 0 0) (σ 0 3) ((seF σ (cN f) (cN t) (cN q))) er ofd de bo ql qs tv) ao aD) (pLv (fun _ => (okR f 0 10 ∧ okR t 0 10 ∧ okR q 0 10)) (fun E => ¬ (okR f 0 10 ∧ okR t 0 10 ∧ okR q 0 10) ∧ E = eIA) (cd1 eIA)) 1 6 := by
  refine cLI.of (cc := cL_setSeats) (maxL := 5) (hh := [(0, 7, 10, 13)]) (by decide) rfl (Nat.le_of_ble_eq_true rfl) ?_
  intro p e s m args below meth c H0 A Q hx hb hml hown hts hP hK hD hS hA hXW hXZ htab hret ls hl
  obtain ⟨H, locs, hH, hlo⟩ : ∃ (H : Heap) (locs : List Loc), H = H0 ∧ locs = [] := ⟨_, _, rfl, rfl⟩
  rw [← hH] at hP
  rw [show va_S A H0 H0 [] = va_S A H0 H locs by rw [hH, hlo]] at hS
  rw [show W p l e rmL_setSeats s m args below meth c H0 [] 0 0 Q (F0 m 0 ls []) = W p l e rmL_setSeats s m args below meth c H locs 0 0 Q (F0 m 0 ls []) by rw [hH, hlo]]
  refine lv_aload_n hx hb dL_setSeats_0 rfl (lv_at hl 0 rfl) ?_
  refine lv_iload_n hx hb dL_setSeats_1 rfl (lv_at hl 1 rfl) ?_
  refine lv_iload_n hx hb dL_setSeats_2 rfl (lv_at hl 2 rfl) ?_
  refine lv_iload_n hx hb dL_setSeats_3 rfl (lv_at hl 3 rfl) ?_
  refine xl_callv (vx_runV (As := [.int f, .int t, .int q]) (rest := []) ⟨hx, hb, hml, hown, hts⟩ (c_X5_setSeats l hfl D cy ad σ er ofd de bo ql qs tv f t q H.size) (cwV 3 hts gL_setSeats_X5_setSeats rfl rfl rfl hdX5_setSeats ⟨Nat.le_of_ble_eq_true rfl, Nat.le_of_ble_eq_true rfl⟩) (xo_preV hK rfl (hP.mem (fun _ hq => List.mem_append_left _ hq)) (hD.subl (List.sublist_append_left _ _)) hXW (hXZ.at hS hD hA (fun _ hq => List.mem_append_left _ hq)) (va_recv hK.1 hP (ci := 5) (q0 := 0) rfl rfl)) rfl rfl hl.1 rfl (lv_room (Nat.le_of_ble_eq_true rfl)) dL_setSeats_4 ⟨Nat.le_of_ble_eq_true rfl, Nat.le_of_ble_eq_true rfl⟩) hS hP hD hA (fun E ce q9 H locs hex hP hD hS hc9 hv9 hcl9 => ?_) (fun u H locs hr hP hD hS => ?_)
  · skip
    have hex0 := hex
    rcases hex with hex
    · skip
      obtain rfl : E = eIA := by first | exact hex.2 | exact hex.2.2 | exact hex.2.2.2
      refine vx_catch hown [] ⟨0, 7, 10, 13⟩ [] (htab.trans rfl) (fun z hz => absurd hz List.not_mem_nil) rfl (by decide) (hts _ (List.mem_of_getElem? (i := 1) rfl)) (va_Nw.use rfl (hXW.1 _ xc_IA rfl)) hc9 hv9 hcl9 ?_
      refine lv_astore (lv' := [(4, .ref q9), (0, .ref ((ad 0 0))), (1, .int f), (2, .int t), (3, .int q)]) hx hb dL_setSeats_10 hl (by decide) rfl (fun ls hl => ?_)
      refine lv_iconst (v := nI 1) hx hb dL_setSeats_12 (by decide) ?_
      refine W.widen (k := 1) (n := 6) (Nat.le_of_ble_eq_true rfl) (Nat.le_of_ble_eq_true rfl) ?_
      exact hret (none, o, d) dL_setSeats_13 hP hD hS (Or.inr ⟨eIA, rfl, hex0, by decide +kernel⟩)
  · skip
    refine lv_goto (tgt := 14) hx hb dL_setSeats_7 (by decide) ?_
    refine lv_iconst (v := nI 0) hx hb dL_setSeats_14 (by decide) ?_
    refine W.widen (k := 1) (n := 6) (Nat.le_of_ble_eq_true rfl) (Nat.le_of_ble_eq_true rfl) ?_
    exact hret (some u, o, d) dL_setSeats_15 hP hD hS (Or.inl ⟨u, rfl, rfl, hr⟩)
set_option maxHeartbeats 4000000 in
set_option maxRecDepth 100000 in
theorem c_L_addProduct (l : Launch) (hfl : l.stackTraces = false) (D : va_G) (cy : Nat → ClassId) (ad : Nat → Nat → Nat) (σ : SF) (er : Int64) (ofd de bo : Nat → Option Nat) (ql : Nat → Nat) (qs : Nat → Nat → Nat) (tv : Nat → Nat) (hof : OF ad σ ofd) {n : Nat} (hI : Iv n σ) {dl : List Nat} (hDL : DL ad σ de dl) (f t q : Int32) (ao aD : Nat) (o : Nat → Int64) (d : Nat → UInt64) : cLI l D cy yL_addProduct wsL_addProduct rmL_addProduct [.ref (ad 0 0), .int f, .int t, .int q, .ref ao] ((WG ad cy (σ 0 0) (σ 0 3) σ er ofd de bo ql qs tv) ++ oC cy ao aD o d) (T := TL (Nat × Nat × (Nat → Option Nat))) (wL cy (WG ad cy (σ 0 0) (σ 0 3) σ er ofd de bo ql qs tv) (fun u => WG ((adP ad (σ 0 0) u.1 u.2.1)) cy ((σ 0 0 + 1)) (σ 0 3) ((adF σ (cN f) (cN t) (cN q))) er ((va_up ofd (σ 0 0) (some u.1))) u.2.2 bo ql qs tv) ao aD) (pL (fun r u => (okR f 0 2 ∧ okR t 0 2) ∧ (f ≤ t ∧ okR q 1 1000) ∧ ¬ (σ 0 0 = 8 ∨ isSame σ f t q) ∧ r = nI (σ 0 0) ∧ ∃ dl2, DL (adP ad (σ 0 0) u.1 u.2.1) (adF σ (cN f) (cN t) (cN q)) u.2.2 dl2) (fun E => (¬ (okR f 0 2 ∧ okR t 0 2) ∧ E = eIO) ∨ ((okR f 0 2 ∧ okR t 0 2) ∧ ¬ (f ≤ t ∧ okR q 1 1000) ∧ E = eIA) ∨ ((okR f 0 2 ∧ okR t 0 2) ∧ (f ≤ t ∧ okR q 1 1000) ∧ (σ 0 0 = 8 ∨ isSame σ f t q) ∧ E = eIS)) (cd3 eIO eIA)) 2 28 := by
  refine cLI.of (cc := cL_addProduct) (maxL := 6) (hh := [(0, 12, 15, 19), (0, 12, 19, 13), (0, 12, 23, 21)]) (by decide) rfl (Nat.le_of_ble_eq_true rfl) ?_
  intro p e s m args below meth c H0 A Q hx hb hml hown hts hP hK hD hS hA hXW hXZ htab hret ls hl
  obtain ⟨H, locs, hH, hlo⟩ : ∃ (H : Heap) (locs : List Loc), H = H0 ∧ locs = [] := ⟨_, _, rfl, rfl⟩
  rw [← hH] at hP
  rw [show va_S A H0 H0 [] = va_S A H0 H locs by rw [hH, hlo]] at hS
  rw [show W p l e rmL_addProduct s m args below meth c H0 [] 0 0 Q (F0 m 0 ls []) = W p l e rmL_addProduct s m args below meth c H locs 0 0 Q (F0 m 0 ls []) by rw [hH, hlo]]
  refine lv_aload hx hb dL_addProduct_0 (lv_at hl 4 rfl) ?_
  refine lv_iconst (v := nI 0) hx hb dL_addProduct_2 (by decide) ?_
  refine lv_aload_n hx hb dL_addProduct_3 rfl (lv_at hl 0 rfl) ?_
  refine lv_iload_n hx hb dL_addProduct_4 rfl (lv_at hl 1 rfl) ?_
  refine lv_iload_n hx hb dL_addProduct_5 rfl (lv_at hl 2 rfl) ?_
  refine lv_iload_n hx hb dL_addProduct_6 rfl (lv_at hl 3 rfl) ?_
  refine xl_calli (vx_runV (As := [.int f, .int t, .int q]) (rest := [.int (nI 0), .ref ao]) ⟨hx, hb, hml, hown, hts⟩ (c_X5_addProduct l hfl D cy ad σ er ofd de bo ql qs tv hof hI hDL f t q H.size) (cwV 3 hts gL_addProduct_X5_addProduct rfl rfl rfl hdX5_addProduct ⟨Nat.le_of_ble_eq_true rfl, Nat.le_of_ble_eq_true rfl⟩) (xo_preV hK rfl (hP.mem (fun _ hq => List.mem_append_left _ hq)) (hD.subl (List.sublist_append_left _ _)) hXW (hXZ.at hS hD hA (fun _ hq => List.mem_append_left _ hq)) (va_recv hK.1 hP (ci := 5) (q0 := 0) rfl rfl)) rfl rfl hl.1 rfl (lv_room (Nat.le_of_ble_eq_true rfl)) dL_addProduct_7 ⟨Nat.le_of_ble_eq_true rfl, Nat.le_of_ble_eq_true rfl⟩) hS hP hD hA (fun E ce q9 H locs hex hP hD hS hc9 hv9 hcl9 => ?_) (fun r u H locs hr hP hD hS => ?_)
  · skip
    have hex0 := hex
    rcases hex with hex | hex | hex
    · skip
      obtain rfl : E = eIO := by first | exact hex.2 | exact hex.2.2 | exact hex.2.2.2
      refine vx_catch hown [] ⟨0, 12, 15, 19⟩ [⟨0, 12, 19, 13⟩, ⟨0, 12, 23, 21⟩] (htab.trans rfl) (fun z hz => absurd hz List.not_mem_nil) rfl (by decide) (hts _ (List.mem_of_getElem? (i := 1) rfl)) (va_Nw.use rfl (hXW.1 _ xc_IO rfl)) hc9 hv9 hcl9 ?_
      refine lv_astore (lv' := [(5, .ref q9), (0, .ref ((ad 0 0))), (1, .int f), (2, .int t), (3, .int q), (4, .ref ao)]) hx hb dL_addProduct_15 hl (by decide) rfl (fun ls hl => ?_)
      refine lv_iconst (v := nI 1) hx hb dL_addProduct_17 (by decide) ?_
      refine W.widen (k := 2) (n := 28) (Nat.le_of_ble_eq_true rfl) (Nat.le_of_ble_eq_true rfl) ?_
      exact hret (none, o, d) dL_addProduct_18 hP hD hS (Or.inr ⟨eIO, rfl, hex0, by decide +kernel⟩)
    · skip
      obtain rfl : E = eIA := by first | exact hex.2 | exact hex.2.2 | exact hex.2.2.2
      refine vx_catch hown [⟨0, 12, 15, 19⟩] ⟨0, 12, 19, 13⟩ [⟨0, 12, 23, 21⟩] (htab.trans rfl) (List.forall_mem_cons.mpr ⟨Or.inr ⟨by decide, "java/lang/IndexOutOfBoundsException", hts _ (List.mem_of_getElem? (i := 1) rfl), hXW.2.1 (eIA, eIO) (by decide)⟩, (fun _ h => absurd h List.not_mem_nil)⟩) rfl (by decide) (hts _ (List.mem_of_getElem? (i := 2) rfl)) (va_Nw.use rfl (hXW.1 _ xc_IA rfl)) hc9 hv9 hcl9 ?_
      refine lv_astore (lv' := [(5, .ref q9), (0, .ref ((ad 0 0))), (1, .int f), (2, .int t), (3, .int q), (4, .ref ao)]) hx hb dL_addProduct_19 hl (by decide) rfl (fun ls hl => ?_)
      refine lv_iconst (v := nI 2) hx hb dL_addProduct_21 (by decide) ?_
      refine W.widen (k := 2) (n := 28) (Nat.le_of_ble_eq_true rfl) (Nat.le_of_ble_eq_true rfl) ?_
      exact hret (none, o, d) dL_addProduct_22 hP hD hS (Or.inr ⟨eIA, rfl, hex0, by decide +kernel⟩)
    · skip
      obtain rfl : E = eIS := by first | exact hex.2 | exact hex.2.2 | exact hex.2.2.2
      refine vx_catch hown [⟨0, 12, 15, 19⟩, ⟨0, 12, 19, 13⟩] ⟨0, 12, 23, 21⟩ [] (htab.trans rfl) (List.forall_mem_cons.mpr ⟨Or.inr ⟨by decide, "java/lang/IndexOutOfBoundsException", hts _ (List.mem_of_getElem? (i := 1) rfl), hXW.2.1 (eIS, eIO) (by decide)⟩, (List.forall_mem_cons.mpr ⟨Or.inr ⟨by decide, "java/lang/IllegalArgumentException", hts _ (List.mem_of_getElem? (i := 2) rfl), hXW.2.1 (eIS, eIA) (by decide)⟩, (fun _ h => absurd h List.not_mem_nil)⟩)⟩) rfl (by decide) (hts _ (List.mem_of_getElem? (i := 3) rfl)) (va_Nw.use rfl (hXW.1 _ xc_IS rfl)) hc9 hv9 hcl9 ?_
      refine lv_astore (lv' := [(5, .ref q9), (0, .ref ((ad 0 0))), (1, .int f), (2, .int t), (3, .int q), (4, .ref ao)]) hx hb dL_addProduct_23 hl (by decide) rfl (fun ls hl => ?_)
      refine lv_iconst (v := nI 3) hx hb dL_addProduct_25 (by decide) ?_
      refine W.widen (k := 2) (n := 28) (Nat.le_of_ble_eq_true rfl) (Nat.le_of_ble_eq_true rfl) ?_
      exact hret (none, o, d) dL_addProduct_26 hP hD hS (Or.inr ⟨eIS, rfl, hex0, by decide +kernel⟩)
  · skip
    refine lv_i2l hx hb dL_addProduct_10 rfl ?_
    refine ll_st hx hb hK hP hD hS dL_addProduct_11 (fun o2 H locs ho hP hD hS => ?_)
    refine lv_goto (tgt := 27) hx hb dL_addProduct_12 (by decide) ?_
    refine lv_iconst (v := nI 0) hx hb dL_addProduct_27 (by decide) ?_
    refine W.widen (k := 2) (n := 28) (Nat.le_of_ble_eq_true rfl) (Nat.le_of_ble_eq_true rfl) ?_
    exact hret (some u, o2, d) dL_addProduct_28 hP hD hS (Or.inl ⟨u, r, rfl, rfl, hr, ho⟩)
set_option maxHeartbeats 4000000 in
set_option maxRecDepth 100000 in
theorem c_L_setExpected (l : Launch) (hfl : l.stackTraces = false) (D : va_G) (cy : Nat → ClassId) (ad : Nat → Nat → Nat) (σ : SF) (er : Int64) (ofd de bo : Nat → Option Nat) (ql : Nat → Nat) (qs : Nat → Nat → Nat) (tv : Nat → Nat) (hof : OF ad σ ofd) {n : Nat} (hI : Iv n σ) (v x : Int32) (ao aD : Nat) (o : Nat → Int64) (d : Nat → UInt64) : cLI l D cy yL_setExpected wsL_setExpected rmL_setExpected [.ref (ad 0 0), .int v, .int x, .ref ao] ((WG ad cy (σ 0 0) (σ 0 3) σ er ofd de bo ql qs tv) ++ oC cy ao aD o d) (T := TL (Unit)) (wL cy (WG ad cy (σ 0 0) (σ 0 3) σ er ofd de bo ql qs tv) (fun _ => WG ad cy (σ 0 0) (σ 0 3) ((exF σ (cN v) (cN x))) er ofd de bo ql qs tv) ao aD) (pL (fun r _ => isP σ v ∧ okR x 0 20 ∧ r = nI (σ 6 (cN v))) (fun E => (¬ isP σ v ∧ E = eIO) ∨ (isP σ v ∧ ¬ okR x 0 20 ∧ E = eIA)) (cd2 eIO)) 1 6 := by
  refine cLI.of (cc := cL_setExpected) (maxL := 5) (hh := [(0, 10, 13, 19), (0, 10, 17, 13)]) (by decide) rfl (Nat.le_of_ble_eq_true rfl) ?_
  intro p e s m args below meth c H0 A Q hx hb hml hown hts hP hK hD hS hA hXW hXZ htab hret ls hl
  obtain ⟨H, locs, hH, hlo⟩ : ∃ (H : Heap) (locs : List Loc), H = H0 ∧ locs = [] := ⟨_, _, rfl, rfl⟩
  rw [← hH] at hP
  rw [show va_S A H0 H0 [] = va_S A H0 H locs by rw [hH, hlo]] at hS
  rw [show W p l e rmL_setExpected s m args below meth c H0 [] 0 0 Q (F0 m 0 ls []) = W p l e rmL_setExpected s m args below meth c H locs 0 0 Q (F0 m 0 ls []) by rw [hH, hlo]]
  refine lv_aload_n hx hb dL_setExpected_0 rfl (lv_at hl 3 rfl) ?_
  refine lv_iconst (v := nI 0) hx hb dL_setExpected_1 (by decide) ?_
  refine lv_aload_n hx hb dL_setExpected_2 rfl (lv_at hl 0 rfl) ?_
  refine lv_iload_n hx hb dL_setExpected_3 rfl (lv_at hl 1 rfl) ?_
  refine lv_iload_n hx hb dL_setExpected_4 rfl (lv_at hl 2 rfl) ?_
  refine xl_calli (vx_runV (As := [.int v, .int x]) (rest := [.int (nI 0), .ref ao]) ⟨hx, hb, hml, hown, hts⟩ (c_X5_setExpected l hfl D cy ad σ er ofd de bo ql qs tv hof hI v x H.size) (cwV 2 hts gL_setExpected_X5_setExpected rfl rfl rfl hdX5_setExpected ⟨Nat.le_of_ble_eq_true rfl, Nat.le_of_ble_eq_true rfl⟩) (xo_preV hK rfl (hP.mem (fun _ hq => List.mem_append_left _ hq)) (hD.subl (List.sublist_append_left _ _)) hXW (hXZ.at hS hD hA (fun _ hq => List.mem_append_left _ hq)) (va_recv hK.1 hP (ci := 5) (q0 := 0) rfl rfl)) rfl rfl hl.1 rfl (lv_room (Nat.le_of_ble_eq_true rfl)) dL_setExpected_5 ⟨Nat.le_of_ble_eq_true rfl, Nat.le_of_ble_eq_true rfl⟩) hS hP hD hA (fun E ce q9 H locs hex hP hD hS hc9 hv9 hcl9 => ?_) (fun r u H locs hr hP hD hS => ?_)
  · skip
    have hex0 := hex
    rcases hex with hex | hex
    · skip
      obtain rfl : E = eIO := by first | exact hex.2 | exact hex.2.2 | exact hex.2.2.2
      refine vx_catch hown [] ⟨0, 10, 13, 19⟩ [⟨0, 10, 17, 13⟩] (htab.trans rfl) (fun z hz => absurd hz List.not_mem_nil) rfl (by decide) (hts _ (List.mem_of_getElem? (i := 1) rfl)) (va_Nw.use rfl (hXW.1 _ xc_IO rfl)) hc9 hv9 hcl9 ?_
      refine lv_astore (lv' := [(4, .ref q9), (0, .ref ((ad 0 0))), (1, .int v), (2, .int x), (3, .ref ao)]) hx hb dL_setExpected_13 hl (by decide) rfl (fun ls hl => ?_)
      refine lv_iconst (v := nI 1) hx hb dL_setExpected_15 (by decide) ?_
      refine W.widen (k := 1) (n := 6) (Nat.le_of_ble_eq_true rfl) (Nat.le_of_ble_eq_true rfl) ?_
      exact hret (none, o, d) dL_setExpected_16 hP hD hS (Or.inr ⟨eIO, rfl, hex0, by decide +kernel⟩)
    · skip
      obtain rfl : E = eIA := by first | exact hex.2 | exact hex.2.2 | exact hex.2.2.2
      refine vx_catch hown [⟨0, 10, 13, 19⟩] ⟨0, 10, 17, 13⟩ [] (htab.trans rfl) (List.forall_mem_cons.mpr ⟨Or.inr ⟨by decide, "java/lang/IndexOutOfBoundsException", hts _ (List.mem_of_getElem? (i := 1) rfl), hXW.2.1 (eIA, eIO) (by decide)⟩, (fun _ h => absurd h List.not_mem_nil)⟩) rfl (by decide) (hts _ (List.mem_of_getElem? (i := 2) rfl)) (va_Nw.use rfl (hXW.1 _ xc_IA rfl)) hc9 hv9 hcl9 ?_
      refine lv_astore (lv' := [(4, .ref q9), (0, .ref ((ad 0 0))), (1, .int v), (2, .int x), (3, .ref ao)]) hx hb dL_setExpected_17 hl (by decide) rfl (fun ls hl => ?_)
      refine lv_iconst (v := nI 2) hx hb dL_setExpected_19 (by decide) ?_
      refine W.widen (k := 1) (n := 6) (Nat.le_of_ble_eq_true rfl) (Nat.le_of_ble_eq_true rfl) ?_
      exact hret (none, o, d) dL_setExpected_20 hP hD hS (Or.inr ⟨eIA, rfl, hex0, by decide +kernel⟩)
  · skip
    refine lv_i2l hx hb dL_setExpected_8 rfl ?_
    refine ll_st hx hb hK hP hD hS dL_setExpected_9 (fun o2 H locs ho hP hD hS => ?_)
    refine lv_goto (tgt := 21) hx hb dL_setExpected_10 (by decide) ?_
    refine lv_iconst (v := nI 0) hx hb dL_setExpected_21 (by decide) ?_
    refine W.widen (k := 1) (n := 6) (Nat.le_of_ble_eq_true rfl) (Nat.le_of_ble_eq_true rfl) ?_
    exact hret (some u, o2, d) dL_setExpected_22 hP hD hS (Or.inl ⟨u, r, rfl, rfl, hr, ho⟩)
set_option maxHeartbeats 4000000 in
set_option maxRecDepth 100000 in
theorem c_L_setRate (l : Launch) (hfl : l.stackTraces = false) (D : va_G) (cy : Nat → ClassId) (ad : Nat → Nat → Nat) (σ : SF) (er : Int64) (ofd de bo : Nat → Option Nat) (ql : Nat → Nat) (qs : Nat → Nat → Nat) (tv : Nat → Nat) (v : Int32) (ao aD : Nat) (o : Nat → Int64) (d : Nat → UInt64) : cLI l D cy yL_setRate wsL_setRate rmL_setRate [.ref (ad 0 0), .int v, .ref ao] ((WG ad cy (σ 0 0) (σ 0 3) σ er ofd de bo ql qs tv) ++ oC cy ao aD o d) (T := TL (Unit)) (wL cy (WG ad cy (σ 0 0) (σ 0 3) σ er ofd de bo ql qs tv) (fun _ => WG ad cy (σ 0 0) (σ 0 3) ((raF σ (cN v))) er ofd de bo ql qs tv) ao aD) (pL (fun r _ => okR v 50 100 ∧ r = nI (σ 0 2)) (fun E => ¬ okR v 50 100 ∧ E = eIA) (cd1 eIA)) 1 6 := by
  refine cLI.of (cc := cL_setRate) (maxL := 4) (hh := [(0, 9, 12, 13)]) (by decide) rfl (Nat.le_of_ble_eq_true rfl) ?_
  intro p e s m args below meth c H0 A Q hx hb hml hown hts hP hK hD hS hA hXW hXZ htab hret ls hl
  obtain ⟨H, locs, hH, hlo⟩ : ∃ (H : Heap) (locs : List Loc), H = H0 ∧ locs = [] := ⟨_, _, rfl, rfl⟩
  rw [← hH] at hP
  rw [show va_S A H0 H0 [] = va_S A H0 H locs by rw [hH, hlo]] at hS
  rw [show W p l e rmL_setRate s m args below meth c H0 [] 0 0 Q (F0 m 0 ls []) = W p l e rmL_setRate s m args below meth c H locs 0 0 Q (F0 m 0 ls []) by rw [hH, hlo]]
  refine lv_aload_n hx hb dL_setRate_0 rfl (lv_at hl 2 rfl) ?_
  refine lv_iconst (v := nI 0) hx hb dL_setRate_1 (by decide) ?_
  refine lv_aload_n hx hb dL_setRate_2 rfl (lv_at hl 0 rfl) ?_
  refine lv_iload_n hx hb dL_setRate_3 rfl (lv_at hl 1 rfl) ?_
  refine xl_calli (vx_runV (As := [.int v]) (rest := [.int (nI 0), .ref ao]) ⟨hx, hb, hml, hown, hts⟩ (c_X5_setRate l hfl D cy ad σ er ofd de bo ql qs tv v H.size) (cwV 1 hts gL_setRate_X5_setRate rfl rfl rfl hdX5_setRate ⟨Nat.le_of_ble_eq_true rfl, Nat.le_of_ble_eq_true rfl⟩) (xo_preV hK rfl (hP.mem (fun _ hq => List.mem_append_left _ hq)) (hD.subl (List.sublist_append_left _ _)) hXW (hXZ.at hS hD hA (fun _ hq => List.mem_append_left _ hq)) (va_recv hK.1 hP (ci := 5) (q0 := 0) rfl rfl)) rfl rfl hl.1 rfl (lv_room (Nat.le_of_ble_eq_true rfl)) dL_setRate_4 ⟨Nat.le_of_ble_eq_true rfl, Nat.le_of_ble_eq_true rfl⟩) hS hP hD hA (fun E ce q9 H locs hex hP hD hS hc9 hv9 hcl9 => ?_) (fun r u H locs hr hP hD hS => ?_)
  · skip
    have hex0 := hex
    rcases hex with hex
    · skip
      obtain rfl : E = eIA := by first | exact hex.2 | exact hex.2.2 | exact hex.2.2.2
      refine vx_catch hown [] ⟨0, 9, 12, 13⟩ [] (htab.trans rfl) (fun z hz => absurd hz List.not_mem_nil) rfl (by decide) (hts _ (List.mem_of_getElem? (i := 1) rfl)) (va_Nw.use rfl (hXW.1 _ xc_IA rfl)) hc9 hv9 hcl9 ?_
      refine lv_astore_n (lv' := [(3, .ref q9), (0, .ref ((ad 0 0))), (1, .int v), (2, .ref ao)]) hx hb dL_setRate_12 rfl hl (by decide) rfl (fun ls hl => ?_)
      refine lv_iconst (v := nI 1) hx hb dL_setRate_13 (by decide) ?_
      refine W.widen (k := 1) (n := 6) (Nat.le_of_ble_eq_true rfl) (Nat.le_of_ble_eq_true rfl) ?_
      exact hret (none, o, d) dL_setRate_14 hP hD hS (Or.inr ⟨eIA, rfl, hex0, by decide +kernel⟩)
  · skip
    refine lv_i2l hx hb dL_setRate_7 rfl ?_
    refine ll_st hx hb hK hP hD hS dL_setRate_8 (fun o2 H locs ho hP hD hS => ?_)
    refine lv_goto (tgt := 15) hx hb dL_setRate_9 (by decide) ?_
    refine lv_iconst (v := nI 0) hx hb dL_setRate_15 (by decide) ?_
    refine W.widen (k := 1) (n := 6) (Nat.le_of_ble_eq_true rfl) (Nat.le_of_ble_eq_true rfl) ?_
    exact hret (some u, o2, d) dL_setRate_16 hP hD hS (Or.inl ⟨u, r, rfl, rfl, hr, ho⟩)
set_option maxHeartbeats 4000000 in
set_option maxRecDepth 100000 in
theorem c_L_ask (l : Launch) (hfl : l.stackTraces = false) (D : va_G) (cy : Nat → ClassId) (ad : Nat → Nat → Nat) (σ : SF) (er : Int64) (ofd de bo : Nat → Option Nat) (ql : Nat → Nat) (qs : Nat → Nat → Nat) (tv : Nat → Nat) (hof : OF ad σ ofd) (hbo : BO ad σ bo) {n : Nat} (hI : Iv n σ) {dl : List Nat} (hDL : DL ad σ de dl) (hQZ : QZ qs) (hn : n < 512) (v : Int32) (ao aD : Nat) (o : Nat → Int64) (d : Nat → UInt64) : cLI l D cy yL_ask wsL_ask rmL_ask [.ref (ad 0 0), .int v, .ref ao] ((WG ad cy (σ 0 0) (σ 0 3) σ er ofd de bo ql qs tv) ++ oC cy ao aD o d) (T := TL (TA)) (wL cy (WG ad cy (σ 0 0) (σ 0 3) σ er ofd de bo ql qs tv) (fun u => WG u.1 cy (u.2.1 0 0) (u.2.1 0 3) u.2.1 er ofd de u.2.2.1 u.2.2.2.1 u.2.2.2.2 tv) ao aD) (pL (fun r u => isP σ v ∧ ¬ σ 0 3 = 60 ∧ askA (asF σ (cN v)) (cN v) r u.2.1 ∧ okA ad u) (fun E => (¬ isP σ v ∧ E = eIO) ∨ (isP σ v ∧ σ 0 3 = 60 ∧ E = eIS)) (cd2 eIO)) 1 6 := by
  refine cLI.of (cc := cL_ask) (maxL := 4) (hh := [(0, 9, 12, 19), (0, 9, 15, 21)]) (by decide) rfl (Nat.le_of_ble_eq_true rfl) ?_
  intro p e s m args below meth c H0 A Q hx hb hml hown hts hP hK hD hS hA hXW hXZ htab hret ls hl
  obtain ⟨H, locs, hH, hlo⟩ : ∃ (H : Heap) (locs : List Loc), H = H0 ∧ locs = [] := ⟨_, _, rfl, rfl⟩
  rw [← hH] at hP
  rw [show va_S A H0 H0 [] = va_S A H0 H locs by rw [hH, hlo]] at hS
  rw [show W p l e rmL_ask s m args below meth c H0 [] 0 0 Q (F0 m 0 ls []) = W p l e rmL_ask s m args below meth c H locs 0 0 Q (F0 m 0 ls []) by rw [hH, hlo]]
  refine lv_aload_n hx hb dL_ask_0 rfl (lv_at hl 2 rfl) ?_
  refine lv_iconst (v := nI 0) hx hb dL_ask_1 (by decide) ?_
  refine lv_aload_n hx hb dL_ask_2 rfl (lv_at hl 0 rfl) ?_
  refine lv_iload_n hx hb dL_ask_3 rfl (lv_at hl 1 rfl) ?_
  refine xl_calli (vx_runV (As := [.int v]) (rest := [.int (nI 0), .ref ao]) ⟨hx, hb, hml, hown, hts⟩ (c_X5_ask l hfl D cy ad σ er ofd de bo ql qs tv hof hbo hI hDL hQZ hn v H.size) (cwV 1 hts gL_ask_X5_ask rfl rfl rfl hdX5_ask ⟨Nat.le_of_ble_eq_true rfl, Nat.le_of_ble_eq_true rfl⟩) (xo_preV hK rfl (hP.mem (fun _ hq => List.mem_append_left _ hq)) (hD.subl (List.sublist_append_left _ _)) hXW (hXZ.at hS hD hA (fun _ hq => List.mem_append_left _ hq)) (va_recv hK.1 hP (ci := 5) (q0 := 0) rfl rfl)) rfl rfl hl.1 rfl (lv_room (Nat.le_of_ble_eq_true rfl)) dL_ask_4 ⟨Nat.le_of_ble_eq_true rfl, Nat.le_of_ble_eq_true rfl⟩) hS hP hD hA (fun E ce q9 H locs hex hP hD hS hc9 hv9 hcl9 => ?_) (fun r u H locs hr hP hD hS => ?_)
  · skip
    have hex0 := hex
    rcases hex with hex | hex
    · skip
      obtain rfl : E = eIO := by first | exact hex.2 | exact hex.2.2 | exact hex.2.2.2
      refine vx_catch hown [] ⟨0, 9, 12, 19⟩ [⟨0, 9, 15, 21⟩] (htab.trans rfl) (fun z hz => absurd hz List.not_mem_nil) rfl (by decide) (hts _ (List.mem_of_getElem? (i := 1) rfl)) (va_Nw.use rfl (hXW.1 _ xc_IO rfl)) hc9 hv9 hcl9 ?_
      refine lv_astore_n (lv' := [(3, .ref q9), (0, .ref ((ad 0 0))), (1, .int v), (2, .ref ao)]) hx hb dL_ask_12 rfl hl (by decide) rfl (fun ls hl => ?_)
      refine lv_iconst (v := nI 1) hx hb dL_ask_13 (by decide) ?_
      refine W.widen (k := 1) (n := 6) (Nat.le_of_ble_eq_true rfl) (Nat.le_of_ble_eq_true rfl) ?_
      exact hret (none, o, d) dL_ask_14 hP hD hS (Or.inr ⟨eIO, rfl, hex0, by decide +kernel⟩)
    · skip
      obtain rfl : E = eIS := by first | exact hex.2 | exact hex.2.2 | exact hex.2.2.2
      refine vx_catch hown [⟨0, 9, 12, 19⟩] ⟨0, 9, 15, 21⟩ [] (htab.trans rfl) (List.forall_mem_cons.mpr ⟨Or.inr ⟨by decide, "java/lang/IndexOutOfBoundsException", hts _ (List.mem_of_getElem? (i := 1) rfl), hXW.2.1 (eIS, eIO) (by decide)⟩, (fun _ h => absurd h List.not_mem_nil)⟩) rfl (by decide) (hts _ (List.mem_of_getElem? (i := 2) rfl)) (va_Nw.use rfl (hXW.1 _ xc_IS rfl)) hc9 hv9 hcl9 ?_
      refine lv_astore_n (lv' := [(3, .ref q9), (0, .ref ((ad 0 0))), (1, .int v), (2, .ref ao)]) hx hb dL_ask_15 rfl hl (by decide) rfl (fun ls hl => ?_)
      refine lv_iconst (v := nI 2) hx hb dL_ask_16 (by decide) ?_
      refine W.widen (k := 1) (n := 6) (Nat.le_of_ble_eq_true rfl) (Nat.le_of_ble_eq_true rfl) ?_
      exact hret (none, o, d) dL_ask_17 hP hD hS (Or.inr ⟨eIS, rfl, hex0, by decide +kernel⟩)
  · skip
    refine lv_i2l hx hb dL_ask_7 rfl ?_
    refine ll_st hx hb hK hP hD hS dL_ask_8 (fun o2 H locs ho hP hD hS => ?_)
    refine lv_goto (tgt := 18) hx hb dL_ask_9 (by decide) ?_
    refine lv_iconst (v := nI 0) hx hb dL_ask_18 (by decide) ?_
    refine W.widen (k := 1) (n := 6) (Nat.le_of_ble_eq_true rfl) (Nat.le_of_ble_eq_true rfl) ?_
    exact hret (some u, o2, d) dL_ask_19 hP hD hS (Or.inl ⟨u, r, rfl, rfl, hr, ho⟩)
set_option maxHeartbeats 4000000 in
set_option maxRecDepth 100000 in
theorem c_L_group (l : Launch) (hfl : l.stackTraces = false) (D : va_G) (cy : Nat → ClassId) (ad : Nat → Nat → Nat) (σ : SF) (er : Int64) (ofd de bo : Nat → Option Nat) (ql : Nat → Nat) (qs : Nat → Nat → Nat) (tv : Nat → Nat) (hbo : BO ad σ bo) {n : Nat} (hI : Iv n σ) {dl : List Nat} (hDL : DL ad σ de dl) (hQZ : QZ qs) (f t q g : Int32) (ao aD : Nat) (o : Nat → Int64) (d : Nat → UInt64) : cLI l D cy yL_group wsL_group rmL_group [.ref (ad 0 0), .int f, .int t, .int q, .int g, .ref ao] ((WG ad cy (σ 0 0) (σ 0 3) σ er ofd de bo ql qs tv) ++ oC cy ao aD o d) (T := TL (TA)) (wL cy (WG ad cy (σ 0 0) (σ 0 3) σ er ofd de bo ql qs tv) (fun u => WG u.1 cy (u.2.1 0 0) (u.2.1 0 3) u.2.1 er ofd de u.2.2.1 u.2.2.2.1 u.2.2.2.2 tv) ao aD) (pL (fun r u => (okR f 0 2 ∧ okR t 0 2) ∧ (f ≤ t ∧ okR q 1 10 ∧ okR g 1 3000) ∧ ¬ σ 0 3 = 60 ∧ grpA σ (cN f) (cN t) (cN q) (cN g) r u.2.1 ∧ okA ad u) (fun E => (¬ (okR f 0 2 ∧ okR t 0 2) ∧ E = eIO) ∨ ((okR f 0 2 ∧ okR t 0 2) ∧ ¬ (f ≤ t ∧ okR q 1 10 ∧ okR g 1 3000) ∧ E = eIA) ∨ ((okR f 0 2 ∧ okR t 0 2) ∧ (f ≤ t ∧ okR q 1 10 ∧ okR g 1 3000) ∧ σ 0 3 = 60 ∧ E = eIS)) (cd3 eIO eIA)) 1 6 := by
  refine cLI.of (cc := cL_group) (maxL := 7) (hh := [(0, 14, 17, 19), (0, 14, 21, 13), (0, 14, 25, 21)]) (by decide) rfl (Nat.le_of_ble_eq_true rfl) ?_
  intro p e s m args below meth c H0 A Q hx hb hml hown hts hP hK hD hS hA hXW hXZ htab hret ls hl
  obtain ⟨H, locs, hH, hlo⟩ : ∃ (H : Heap) (locs : List Loc), H = H0 ∧ locs = [] := ⟨_, _, rfl, rfl⟩
  rw [← hH] at hP
  rw [show va_S A H0 H0 [] = va_S A H0 H locs by rw [hH, hlo]] at hS
  rw [show W p l e rmL_group s m args below meth c H0 [] 0 0 Q (F0 m 0 ls []) = W p l e rmL_group s m args below meth c H locs 0 0 Q (F0 m 0 ls []) by rw [hH, hlo]]
  refine lv_aload hx hb dL_group_0 (lv_at hl 5 rfl) ?_
  refine lv_iconst (v := nI 0) hx hb dL_group_2 (by decide) ?_
  refine lv_aload_n hx hb dL_group_3 rfl (lv_at hl 0 rfl) ?_
  refine lv_iload_n hx hb dL_group_4 rfl (lv_at hl 1 rfl) ?_
  refine lv_iload_n hx hb dL_group_5 rfl (lv_at hl 2 rfl) ?_
  refine lv_iload_n hx hb dL_group_6 rfl (lv_at hl 3 rfl) ?_
  refine lv_iload hx hb dL_group_7 (lv_at hl 4 rfl) ?_
  refine xl_calli (vx_runV (As := [.int f, .int t, .int q, .int g]) (rest := [.int (nI 0), .ref ao]) ⟨hx, hb, hml, hown, hts⟩ (c_X5_group l hfl D cy ad σ er ofd de bo ql qs tv hbo hI hDL hQZ f t q g H.size) (cwV 4 hts gL_group_X5_group rfl rfl rfl hdX5_group ⟨Nat.le_of_ble_eq_true rfl, Nat.le_of_ble_eq_true rfl⟩) (xo_preV hK rfl (hP.mem (fun _ hq => List.mem_append_left _ hq)) (hD.subl (List.sublist_append_left _ _)) hXW (hXZ.at hS hD hA (fun _ hq => List.mem_append_left _ hq)) (va_recv hK.1 hP (ci := 5) (q0 := 0) rfl rfl)) rfl rfl hl.1 rfl (lv_room (Nat.le_of_ble_eq_true rfl)) dL_group_9 ⟨Nat.le_of_ble_eq_true rfl, Nat.le_of_ble_eq_true rfl⟩) hS hP hD hA (fun E ce q9 H locs hex hP hD hS hc9 hv9 hcl9 => ?_) (fun r u H locs hr hP hD hS => ?_)
  · skip
    have hex0 := hex
    rcases hex with hex | hex | hex
    · skip
      obtain rfl : E = eIO := by first | exact hex.2 | exact hex.2.2 | exact hex.2.2.2
      refine vx_catch hown [] ⟨0, 14, 17, 19⟩ [⟨0, 14, 21, 13⟩, ⟨0, 14, 25, 21⟩] (htab.trans rfl) (fun z hz => absurd hz List.not_mem_nil) rfl (by decide) (hts _ (List.mem_of_getElem? (i := 1) rfl)) (va_Nw.use rfl (hXW.1 _ xc_IO rfl)) hc9 hv9 hcl9 ?_
      refine lv_astore (lv' := [(6, .ref q9), (0, .ref ((ad 0 0))), (1, .int f), (2, .int t), (3, .int q), (4, .int g), (5, .ref ao)]) hx hb dL_group_17 hl (by decide) rfl (fun ls hl => ?_)
      refine lv_iconst (v := nI 1) hx hb dL_group_19 (by decide) ?_
      refine W.widen (k := 1) (n := 6) (Nat.le_of_ble_eq_true rfl) (Nat.le_of_ble_eq_true rfl) ?_
      exact hret (none, o, d) dL_group_20 hP hD hS (Or.inr ⟨eIO, rfl, hex0, by decide +kernel⟩)
    · skip
      obtain rfl : E = eIA := by first | exact hex.2 | exact hex.2.2 | exact hex.2.2.2
      refine vx_catch hown [⟨0, 14, 17, 19⟩] ⟨0, 14, 21, 13⟩ [⟨0, 14, 25, 21⟩] (htab.trans rfl) (List.forall_mem_cons.mpr ⟨Or.inr ⟨by decide, "java/lang/IndexOutOfBoundsException", hts _ (List.mem_of_getElem? (i := 1) rfl), hXW.2.1 (eIA, eIO) (by decide)⟩, (fun _ h => absurd h List.not_mem_nil)⟩) rfl (by decide) (hts _ (List.mem_of_getElem? (i := 2) rfl)) (va_Nw.use rfl (hXW.1 _ xc_IA rfl)) hc9 hv9 hcl9 ?_
      refine lv_astore (lv' := [(6, .ref q9), (0, .ref ((ad 0 0))), (1, .int f), (2, .int t), (3, .int q), (4, .int g), (5, .ref ao)]) hx hb dL_group_21 hl (by decide) rfl (fun ls hl => ?_)
      refine lv_iconst (v := nI 2) hx hb dL_group_23 (by decide) ?_
      refine W.widen (k := 1) (n := 6) (Nat.le_of_ble_eq_true rfl) (Nat.le_of_ble_eq_true rfl) ?_
      exact hret (none, o, d) dL_group_24 hP hD hS (Or.inr ⟨eIA, rfl, hex0, by decide +kernel⟩)
    · skip
      obtain rfl : E = eIS := by first | exact hex.2 | exact hex.2.2 | exact hex.2.2.2
      refine vx_catch hown [⟨0, 14, 17, 19⟩, ⟨0, 14, 21, 13⟩] ⟨0, 14, 25, 21⟩ [] (htab.trans rfl) (List.forall_mem_cons.mpr ⟨Or.inr ⟨by decide, "java/lang/IndexOutOfBoundsException", hts _ (List.mem_of_getElem? (i := 1) rfl), hXW.2.1 (eIS, eIO) (by decide)⟩, (List.forall_mem_cons.mpr ⟨Or.inr ⟨by decide, "java/lang/IllegalArgumentException", hts _ (List.mem_of_getElem? (i := 2) rfl), hXW.2.1 (eIS, eIA) (by decide)⟩, (fun _ h => absurd h List.not_mem_nil)⟩)⟩) rfl (by decide) (hts _ (List.mem_of_getElem? (i := 3) rfl)) (va_Nw.use rfl (hXW.1 _ xc_IS rfl)) hc9 hv9 hcl9 ?_
      refine lv_astore (lv' := [(6, .ref q9), (0, .ref ((ad 0 0))), (1, .int f), (2, .int t), (3, .int q), (4, .int g), (5, .ref ao)]) hx hb dL_group_25 hl (by decide) rfl (fun ls hl => ?_)
      refine lv_iconst (v := nI 3) hx hb dL_group_27 (by decide) ?_
      refine W.widen (k := 1) (n := 6) (Nat.le_of_ble_eq_true rfl) (Nat.le_of_ble_eq_true rfl) ?_
      exact hret (none, o, d) dL_group_28 hP hD hS (Or.inr ⟨eIS, rfl, hex0, by decide +kernel⟩)
  · skip
    refine lv_i2l hx hb dL_group_12 rfl ?_
    refine ll_st hx hb hK hP hD hS dL_group_13 (fun o2 H locs ho hP hD hS => ?_)
    refine lv_goto (tgt := 29) hx hb dL_group_14 (by decide) ?_
    refine lv_iconst (v := nI 0) hx hb dL_group_29 (by decide) ?_
    refine W.widen (k := 1) (n := 6) (Nat.le_of_ble_eq_true rfl) (Nat.le_of_ble_eq_true rfl) ?_
    exact hret (some u, o2, d) dL_group_30 hP hD hS (Or.inl ⟨u, r, rfl, rfl, hr, ho⟩)
set_option maxHeartbeats 4000000 in
set_option maxRecDepth 100000 in
theorem c_L_cancel (l : Launch) (hfl : l.stackTraces = false) (D : va_G) (cy : Nat → ClassId) (ad : Nat → Nat → Nat) (σ : SF) (er : Int64) (ofd de bo : Nat → Option Nat) (ql : Nat → Nat) (qs : Nat → Nat → Nat) (tv : Nat → Nat) (hbo : BO ad σ bo) {n : Nat} (hI : Iv n σ) (v : Int32) (ao aD : Nat) (o : Nat → Int64) (d : Nat → UInt64) : cLI l D cy yL_cancel wsL_cancel rmL_cancel [.ref (ad 0 0), .int v, .ref ao] ((WG ad cy (σ 0 0) (σ 0 3) σ er ofd de bo ql qs tv) ++ oC cy ao aD o d) (T := TL (Unit)) (wL cy (WG ad cy (σ 0 0) (σ 0 3) σ er ofd de bo ql qs tv) (fun _ => WG ad cy (σ 0 0) (σ 0 3) ((caF σ (cN v))) er ofd de bo ql qs tv) ao aD) (pL (fun r _ => isB σ v ∧ σ 14 (cN v) = 0 ∧ r = nI (σ 12 (cN v))) (fun E => (¬ isB σ v ∧ E = eIO) ∨ (isB σ v ∧ ¬ σ 14 (cN v) = 0 ∧ E = eIS)) (cd2 eIO)) 1 6 := by
  refine cLI.of (cc := cL_cancel) (maxL := 4) (hh := [(0, 9, 12, 19), (0, 9, 15, 21)]) (by decide) rfl (Nat.le_of_ble_eq_true rfl) ?_
  intro p e s m args below meth c H0 A Q hx hb hml hown hts hP hK hD hS hA hXW hXZ htab hret ls hl
  obtain ⟨H, locs, hH, hlo⟩ : ∃ (H : Heap) (locs : List Loc), H = H0 ∧ locs = [] := ⟨_, _, rfl, rfl⟩
  rw [← hH] at hP
  rw [show va_S A H0 H0 [] = va_S A H0 H locs by rw [hH, hlo]] at hS
  rw [show W p l e rmL_cancel s m args below meth c H0 [] 0 0 Q (F0 m 0 ls []) = W p l e rmL_cancel s m args below meth c H locs 0 0 Q (F0 m 0 ls []) by rw [hH, hlo]]
  refine lv_aload_n hx hb dL_cancel_0 rfl (lv_at hl 2 rfl) ?_
  refine lv_iconst (v := nI 0) hx hb dL_cancel_1 (by decide) ?_
  refine lv_aload_n hx hb dL_cancel_2 rfl (lv_at hl 0 rfl) ?_
  refine lv_iload_n hx hb dL_cancel_3 rfl (lv_at hl 1 rfl) ?_
  refine xl_calli (vx_runV (As := [.int v]) (rest := [.int (nI 0), .ref ao]) ⟨hx, hb, hml, hown, hts⟩ (c_X5_cancel l hfl D cy ad σ er ofd de bo ql qs tv hbo hI v H.size) (cwV 1 hts gL_cancel_X5_cancel rfl rfl rfl hdX5_cancel ⟨Nat.le_of_ble_eq_true rfl, Nat.le_of_ble_eq_true rfl⟩) (xo_preV hK rfl (hP.mem (fun _ hq => List.mem_append_left _ hq)) (hD.subl (List.sublist_append_left _ _)) hXW (hXZ.at hS hD hA (fun _ hq => List.mem_append_left _ hq)) (va_recv hK.1 hP (ci := 5) (q0 := 0) rfl rfl)) rfl rfl hl.1 rfl (lv_room (Nat.le_of_ble_eq_true rfl)) dL_cancel_4 ⟨Nat.le_of_ble_eq_true rfl, Nat.le_of_ble_eq_true rfl⟩) hS hP hD hA (fun E ce q9 H locs hex hP hD hS hc9 hv9 hcl9 => ?_) (fun r u H locs hr hP hD hS => ?_)
  · skip
    have hex0 := hex
    rcases hex with hex | hex
    · skip
      obtain rfl : E = eIO := by first | exact hex.2 | exact hex.2.2 | exact hex.2.2.2
      refine vx_catch hown [] ⟨0, 9, 12, 19⟩ [⟨0, 9, 15, 21⟩] (htab.trans rfl) (fun z hz => absurd hz List.not_mem_nil) rfl (by decide) (hts _ (List.mem_of_getElem? (i := 1) rfl)) (va_Nw.use rfl (hXW.1 _ xc_IO rfl)) hc9 hv9 hcl9 ?_
      refine lv_astore_n (lv' := [(3, .ref q9), (0, .ref ((ad 0 0))), (1, .int v), (2, .ref ao)]) hx hb dL_cancel_12 rfl hl (by decide) rfl (fun ls hl => ?_)
      refine lv_iconst (v := nI 1) hx hb dL_cancel_13 (by decide) ?_
      refine W.widen (k := 1) (n := 6) (Nat.le_of_ble_eq_true rfl) (Nat.le_of_ble_eq_true rfl) ?_
      exact hret (none, o, d) dL_cancel_14 hP hD hS (Or.inr ⟨eIO, rfl, hex0, by decide +kernel⟩)
    · skip
      obtain rfl : E = eIS := by first | exact hex.2 | exact hex.2.2 | exact hex.2.2.2
      refine vx_catch hown [⟨0, 9, 12, 19⟩] ⟨0, 9, 15, 21⟩ [] (htab.trans rfl) (List.forall_mem_cons.mpr ⟨Or.inr ⟨by decide, "java/lang/IndexOutOfBoundsException", hts _ (List.mem_of_getElem? (i := 1) rfl), hXW.2.1 (eIS, eIO) (by decide)⟩, (fun _ h => absurd h List.not_mem_nil)⟩) rfl (by decide) (hts _ (List.mem_of_getElem? (i := 2) rfl)) (va_Nw.use rfl (hXW.1 _ xc_IS rfl)) hc9 hv9 hcl9 ?_
      refine lv_astore_n (lv' := [(3, .ref q9), (0, .ref ((ad 0 0))), (1, .int v), (2, .ref ao)]) hx hb dL_cancel_15 rfl hl (by decide) rfl (fun ls hl => ?_)
      refine lv_iconst (v := nI 2) hx hb dL_cancel_16 (by decide) ?_
      refine W.widen (k := 1) (n := 6) (Nat.le_of_ble_eq_true rfl) (Nat.le_of_ble_eq_true rfl) ?_
      exact hret (none, o, d) dL_cancel_17 hP hD hS (Or.inr ⟨eIS, rfl, hex0, by decide +kernel⟩)
  · skip
    refine lv_i2l hx hb dL_cancel_7 rfl ?_
    refine ll_st hx hb hK hP hD hS dL_cancel_8 (fun o2 H locs ho hP hD hS => ?_)
    refine lv_goto (tgt := 18) hx hb dL_cancel_9 (by decide) ?_
    refine lv_iconst (v := nI 0) hx hb dL_cancel_18 (by decide) ?_
    refine W.widen (k := 1) (n := 6) (Nat.le_of_ble_eq_true rfl) (Nat.le_of_ble_eq_true rfl) ?_
    exact hret (some u, o2, d) dL_cancel_19 hP hD hS (Or.inl ⟨u, r, rfl, rfl, hr, ho⟩)
set_option maxHeartbeats 4000000 in
set_option maxRecDepth 100000 in
theorem c_L_endDay (l : Launch) (hfl : l.stackTraces = false) (D : va_G) (cy : Nat → ClassId) (ad : Nat → Nat → Nat) (σ : SF) (er : Int64) (ofd de bo : Nat → Option Nat) (ql : Nat → Nat) (qs : Nat → Nat → Nat) (tv : Nat → Nat) (hof : OF ad σ ofd) (hbo : BO ad σ bo) {n : Nat} (hI : Iv n σ) (hn : n < 512) (v : Int32) (ao aD : Nat) (o : Nat → Int64) (d : Nat → UInt64) : cLI l D cy yL_endDay wsL_endDay rmL_endDay [.ref (ad 0 0), .int v, .ref ao] ((WG ad cy (σ 0 0) (σ 0 3) σ er ofd de bo ql qs tv) ++ oC cy ao aD o d) (T := TL (Unit)) (wL cy (WG ad cy (σ 0 0) (σ 0 3) σ er ofd de bo ql qs tv) (fun _ => WG ad cy (σ 0 0) 0 (enF σ) (enE σ er (cN v)) ofd de bo ql qs tv) ao aD) (pL (fun r _ => okR v 0 100 ∧ r = nI (den σ (cN v) 3)) (fun E => ¬ okR v 0 100 ∧ E = eIA) (cd1 eIA)) 1 6 := by
  refine cLI.of (cc := cL_endDay) (maxL := 4) (hh := [(0, 9, 12, 13)]) (by decide) rfl (Nat.le_of_ble_eq_true rfl) ?_
  intro p e s m args below meth c H0 A Q hx hb hml hown hts hP hK hD hS hA hXW hXZ htab hret ls hl
  obtain ⟨H, locs, hH, hlo⟩ : ∃ (H : Heap) (locs : List Loc), H = H0 ∧ locs = [] := ⟨_, _, rfl, rfl⟩
  rw [← hH] at hP
  rw [show va_S A H0 H0 [] = va_S A H0 H locs by rw [hH, hlo]] at hS
  rw [show W p l e rmL_endDay s m args below meth c H0 [] 0 0 Q (F0 m 0 ls []) = W p l e rmL_endDay s m args below meth c H locs 0 0 Q (F0 m 0 ls []) by rw [hH, hlo]]
  refine lv_aload_n hx hb dL_endDay_0 rfl (lv_at hl 2 rfl) ?_
  refine lv_iconst (v := nI 0) hx hb dL_endDay_1 (by decide) ?_
  refine lv_aload_n hx hb dL_endDay_2 rfl (lv_at hl 0 rfl) ?_
  refine lv_iload_n hx hb dL_endDay_3 rfl (lv_at hl 1 rfl) ?_
  refine xl_calli (vx_runV (As := [.int v]) (rest := [.int (nI 0), .ref ao]) ⟨hx, hb, hml, hown, hts⟩ (c_X5_endDay l hfl D cy ad σ er ofd de bo ql qs tv hof hbo hI hn v H.size) (cwV 1 hts gL_endDay_X5_endDay rfl rfl rfl hdX5_endDay ⟨Nat.le_of_ble_eq_true rfl, Nat.le_of_ble_eq_true rfl⟩) (xo_preV hK rfl (hP.mem (fun _ hq => List.mem_append_left _ hq)) (hD.subl (List.sublist_append_left _ _)) hXW (hXZ.at hS hD hA (fun _ hq => List.mem_append_left _ hq)) (va_recv hK.1 hP (ci := 5) (q0 := 0) rfl rfl)) rfl rfl hl.1 rfl (lv_room (Nat.le_of_ble_eq_true rfl)) dL_endDay_4 ⟨Nat.le_of_ble_eq_true rfl, Nat.le_of_ble_eq_true rfl⟩) hS hP hD hA (fun E ce q9 H locs hex hP hD hS hc9 hv9 hcl9 => ?_) (fun r u H locs hr hP hD hS => ?_)
  · skip
    have hex0 := hex
    rcases hex with hex
    · skip
      obtain rfl : E = eIA := by first | exact hex.2 | exact hex.2.2 | exact hex.2.2.2
      refine vx_catch hown [] ⟨0, 9, 12, 13⟩ [] (htab.trans rfl) (fun z hz => absurd hz List.not_mem_nil) rfl (by decide) (hts _ (List.mem_of_getElem? (i := 1) rfl)) (va_Nw.use rfl (hXW.1 _ xc_IA rfl)) hc9 hv9 hcl9 ?_
      refine lv_astore_n (lv' := [(3, .ref q9), (0, .ref ((ad 0 0))), (1, .int v), (2, .ref ao)]) hx hb dL_endDay_12 rfl hl (by decide) rfl (fun ls hl => ?_)
      refine lv_iconst (v := nI 1) hx hb dL_endDay_13 (by decide) ?_
      refine W.widen (k := 1) (n := 6) (Nat.le_of_ble_eq_true rfl) (Nat.le_of_ble_eq_true rfl) ?_
      exact hret (none, o, d) dL_endDay_14 hP hD hS (Or.inr ⟨eIA, rfl, hex0, by decide +kernel⟩)
  · skip
    refine lv_i2l hx hb dL_endDay_7 rfl ?_
    refine ll_st hx hb hK hP hD hS dL_endDay_8 (fun o2 H locs ho hP hD hS => ?_)
    refine lv_goto (tgt := 15) hx hb dL_endDay_9 (by decide) ?_
    refine lv_iconst (v := nI 0) hx hb dL_endDay_15 (by decide) ?_
    refine W.widen (k := 1) (n := 6) (Nat.le_of_ble_eq_true rfl) (Nat.le_of_ble_eq_true rfl) ?_
    exact hret (some u, o2, d) dL_endDay_16 hP hD hS (Or.inl ⟨u, r, rfl, rfl, hr, ho⟩)
set_option maxHeartbeats 4000000 in
set_option maxRecDepth 100000 in
theorem c_L_booked (l : Launch) (hfl : l.stackTraces = false) (D : va_G) (cy : Nat → ClassId) (ad : Nat → Nat → Nat) (σ : SF) (er : Int64) (ofd de bo : Nat → Option Nat) (ql : Nat → Nat) (qs : Nat → Nat → Nat) (tv : Nat → Nat) (hbo : BO ad σ bo) {n : Nat} (hI : Iv n σ) (v : Int32) (ao aD : Nat) (o : Nat → Int64) (d : Nat → UInt64) : cLI l D cy yL_booked wsL_booked rmL_booked [.ref (ad 0 0), .int v, .ref ao] ((WG ad cy (σ 0 0) (σ 0 3) σ er ofd de bo ql qs tv) ++ oC cy ao aD o d) (T := TL (Unit)) (wL cy (WG ad cy (σ 0 0) (σ 0 3) σ er ofd de bo ql qs tv) (fun _ => WG ad cy (σ 0 0) (σ 0 3) σ er ofd de bo ql qs tv) ao aD) (pL (fun r _ => okR v 0 2 ∧ r = nI (σ 2 (cN v))) (fun E => ¬ okR v 0 2 ∧ E = eIO) (cd1 eIO)) 1 6 := by
  refine cLI.of (cc := cL_booked) (maxL := 4) (hh := [(0, 9, 12, 19)]) (by decide) rfl (Nat.le_of_ble_eq_true rfl) ?_
  intro p e s m args below meth c H0 A Q hx hb hml hown hts hP hK hD hS hA hXW hXZ htab hret ls hl
  obtain ⟨H, locs, hH, hlo⟩ : ∃ (H : Heap) (locs : List Loc), H = H0 ∧ locs = [] := ⟨_, _, rfl, rfl⟩
  rw [← hH] at hP
  rw [show va_S A H0 H0 [] = va_S A H0 H locs by rw [hH, hlo]] at hS
  rw [show W p l e rmL_booked s m args below meth c H0 [] 0 0 Q (F0 m 0 ls []) = W p l e rmL_booked s m args below meth c H locs 0 0 Q (F0 m 0 ls []) by rw [hH, hlo]]
  refine lv_aload_n hx hb dL_booked_0 rfl (lv_at hl 2 rfl) ?_
  refine lv_iconst (v := nI 0) hx hb dL_booked_1 (by decide) ?_
  refine lv_aload_n hx hb dL_booked_2 rfl (lv_at hl 0 rfl) ?_
  refine lv_iload_n hx hb dL_booked_3 rfl (lv_at hl 1 rfl) ?_
  refine xl_calli (vx_runV (As := [.int v]) (rest := [.int (nI 0), .ref ao]) ⟨hx, hb, hml, hown, hts⟩ (c_X5_booked l hfl D cy ad σ er ofd de bo ql qs tv hbo hI v H.size) (cwV 1 hts gL_booked_X5_booked rfl rfl rfl hdX5_booked ⟨Nat.le_of_ble_eq_true rfl, Nat.le_of_ble_eq_true rfl⟩) (xo_preV hK rfl (hP.mem (fun _ hq => List.mem_append_left _ hq)) (hD.subl (List.sublist_append_left _ _)) hXW (hXZ.at hS hD hA (fun _ hq => List.mem_append_left _ hq)) (va_recv hK.1 hP (ci := 5) (q0 := 0) rfl rfl)) rfl rfl hl.1 rfl (lv_room (Nat.le_of_ble_eq_true rfl)) dL_booked_4 ⟨Nat.le_of_ble_eq_true rfl, Nat.le_of_ble_eq_true rfl⟩) hS hP hD hA (fun E ce q9 H locs hex hP hD hS hc9 hv9 hcl9 => ?_) (fun r u H locs hr hP hD hS => ?_)
  · skip
    have hex0 := hex
    rcases hex with hex
    · skip
      obtain rfl : E = eIO := by first | exact hex.2 | exact hex.2.2 | exact hex.2.2.2
      refine vx_catch hown [] ⟨0, 9, 12, 19⟩ [] (htab.trans rfl) (fun z hz => absurd hz List.not_mem_nil) rfl (by decide) (hts _ (List.mem_of_getElem? (i := 1) rfl)) (va_Nw.use rfl (hXW.1 _ xc_IO rfl)) hc9 hv9 hcl9 ?_
      refine lv_astore_n (lv' := [(3, .ref q9), (0, .ref ((ad 0 0))), (1, .int v), (2, .ref ao)]) hx hb dL_booked_12 rfl hl (by decide) rfl (fun ls hl => ?_)
      refine lv_iconst (v := nI 1) hx hb dL_booked_13 (by decide) ?_
      refine W.widen (k := 1) (n := 6) (Nat.le_of_ble_eq_true rfl) (Nat.le_of_ble_eq_true rfl) ?_
      exact hret (none, o, d) dL_booked_14 hP hD hS (Or.inr ⟨eIO, rfl, hex0, by decide +kernel⟩)
  · skip
    refine lv_i2l hx hb dL_booked_7 rfl ?_
    refine ll_st hx hb hK hP hD hS dL_booked_8 (fun o2 H locs ho hP hD hS => ?_)
    refine lv_goto (tgt := 15) hx hb dL_booked_9 (by decide) ?_
    refine lv_iconst (v := nI 0) hx hb dL_booked_15 (by decide) ?_
    refine W.widen (k := 1) (n := 6) (Nat.le_of_ble_eq_true rfl) (Nat.le_of_ble_eq_true rfl) ?_
    exact hret (some u, o2, d) dL_booked_16 hP hD hS (Or.inl ⟨u, r, rfl, rfl, hr, ho⟩)
set_option maxHeartbeats 4000000 in
set_option maxRecDepth 100000 in
theorem c_L_authorised (l : Launch) (hfl : l.stackTraces = false) (D : va_G) (cy : Nat → ClassId) (ad : Nat → Nat → Nat) (σ : SF) (er : Int64) (ofd de bo : Nat → Option Nat) (ql : Nat → Nat) (qs : Nat → Nat → Nat) (tv : Nat → Nat) {n : Nat} (hI : Iv n σ) (v : Int32) (ao aD : Nat) (o : Nat → Int64) (d : Nat → UInt64) : cLI l D cy yL_authorised wsL_authorised rmL_authorised [.ref (ad 0 0), .int v, .ref ao] ((WG ad cy (σ 0 0) (σ 0 3) σ er ofd de bo ql qs tv) ++ oC cy ao aD o d) (T := TL (Unit)) (wL cy (WG ad cy (σ 0 0) (σ 0 3) σ er ofd de bo ql qs tv) (fun _ => WG ad cy (σ 0 0) (σ 0 3) σ er ofd de bo ql qs tv) ao aD) (pL (fun r _ => okR v 0 2 ∧ r = nI (aut σ (cN v))) (fun E => ¬ okR v 0 2 ∧ E = eIO) (cd1 eIO)) 1 6 := by
  refine cLI.of (cc := cL_authorised) (maxL := 4) (hh := [(0, 9, 12, 19)]) (by decide) rfl (Nat.le_of_ble_eq_true rfl) ?_
  intro p e s m args below meth c H0 A Q hx hb hml hown hts hP hK hD hS hA hXW hXZ htab hret ls hl
  obtain ⟨H, locs, hH, hlo⟩ : ∃ (H : Heap) (locs : List Loc), H = H0 ∧ locs = [] := ⟨_, _, rfl, rfl⟩
  rw [← hH] at hP
  rw [show va_S A H0 H0 [] = va_S A H0 H locs by rw [hH, hlo]] at hS
  rw [show W p l e rmL_authorised s m args below meth c H0 [] 0 0 Q (F0 m 0 ls []) = W p l e rmL_authorised s m args below meth c H locs 0 0 Q (F0 m 0 ls []) by rw [hH, hlo]]
  refine lv_aload_n hx hb dL_authorised_0 rfl (lv_at hl 2 rfl) ?_
  refine lv_iconst (v := nI 0) hx hb dL_authorised_1 (by decide) ?_
  refine lv_aload_n hx hb dL_authorised_2 rfl (lv_at hl 0 rfl) ?_
  refine lv_iload_n hx hb dL_authorised_3 rfl (lv_at hl 1 rfl) ?_
  refine xl_calli (vx_runV (As := [.int v]) (rest := [.int (nI 0), .ref ao]) ⟨hx, hb, hml, hown, hts⟩ (c_X5_authorised l hfl D cy ad σ er ofd de bo ql qs tv hI v H.size) (cwV 1 hts gL_authorised_X5_authorised rfl rfl rfl hdX5_authorised ⟨Nat.le_of_ble_eq_true rfl, Nat.le_of_ble_eq_true rfl⟩) (xo_preV hK rfl (hP.mem (fun _ hq => List.mem_append_left _ hq)) (hD.subl (List.sublist_append_left _ _)) hXW (hXZ.at hS hD hA (fun _ hq => List.mem_append_left _ hq)) (va_recv hK.1 hP (ci := 5) (q0 := 0) rfl rfl)) rfl rfl hl.1 rfl (lv_room (Nat.le_of_ble_eq_true rfl)) dL_authorised_4 ⟨Nat.le_of_ble_eq_true rfl, Nat.le_of_ble_eq_true rfl⟩) hS hP hD hA (fun E ce q9 H locs hex hP hD hS hc9 hv9 hcl9 => ?_) (fun r u H locs hr hP hD hS => ?_)
  · skip
    have hex0 := hex
    rcases hex with hex
    · skip
      obtain rfl : E = eIO := by first | exact hex.2 | exact hex.2.2 | exact hex.2.2.2
      refine vx_catch hown [] ⟨0, 9, 12, 19⟩ [] (htab.trans rfl) (fun z hz => absurd hz List.not_mem_nil) rfl (by decide) (hts _ (List.mem_of_getElem? (i := 1) rfl)) (va_Nw.use rfl (hXW.1 _ xc_IO rfl)) hc9 hv9 hcl9 ?_
      refine lv_astore_n (lv' := [(3, .ref q9), (0, .ref ((ad 0 0))), (1, .int v), (2, .ref ao)]) hx hb dL_authorised_12 rfl hl (by decide) rfl (fun ls hl => ?_)
      refine lv_iconst (v := nI 1) hx hb dL_authorised_13 (by decide) ?_
      refine W.widen (k := 1) (n := 6) (Nat.le_of_ble_eq_true rfl) (Nat.le_of_ble_eq_true rfl) ?_
      exact hret (none, o, d) dL_authorised_14 hP hD hS (Or.inr ⟨eIO, rfl, hex0, by decide +kernel⟩)
  · skip
    refine lv_i2l hx hb dL_authorised_7 rfl ?_
    refine ll_st hx hb hK hP hD hS dL_authorised_8 (fun o2 H locs ho hP hD hS => ?_)
    refine lv_goto (tgt := 15) hx hb dL_authorised_9 (by decide) ?_
    refine lv_iconst (v := nI 0) hx hb dL_authorised_15 (by decide) ?_
    refine W.widen (k := 1) (n := 6) (Nat.le_of_ble_eq_true rfl) (Nat.le_of_ble_eq_true rfl) ?_
    exact hret (some u, o2, d) dL_authorised_16 hP hD hS (Or.inl ⟨u, r, rfl, rfl, hr, ho⟩)
set_option maxHeartbeats 4000000 in
set_option maxRecDepth 100000 in
theorem c_L_protectedSeats (l : Launch) (hfl : l.stackTraces = false) (D : va_G) (cy : Nat → ClassId) (ad : Nat → Nat → Nat) (σ : SF) (er : Int64) (ofd de bo : Nat → Option Nat) (ql : Nat → Nat) (qs : Nat → Nat → Nat) (tv : Nat → Nat) (hof : OF ad σ ofd) {n : Nat} (hI : Iv n σ) (v x : Int32) (ao aD : Nat) (o : Nat → Int64) (d : Nat → UInt64) : cLI l D cy yL_protectedSeats wsL_protectedSeats rmL_protectedSeats [.ref (ad 0 0), .int v, .int x, .ref ao] ((WG ad cy (σ 0 0) (σ 0 3) σ er ofd de bo ql qs tv) ++ oC cy ao aD o d) (T := TL (Unit)) (wL cy (WG ad cy (σ 0 0) (σ 0 3) σ er ofd de bo ql qs tv) (fun _ => WG ad cy (σ 0 0) (σ 0 3) σ er ofd de bo ql qs tv) ao aD) (pL (fun r _ => okR v 0 2 ∧ okR x 1 1000 ∧ r = nI (prot σ (cN v) (cN x))) (fun E => (¬ okR v 0 2 ∧ E = eIO) ∨ (okR v 0 2 ∧ ¬ okR x 1 1000 ∧ E = eIA)) (cd2 eIO)) 1 6 := by
  refine cLI.of (cc := cL_protectedSeats) (maxL := 5) (hh := [(0, 10, 13, 19), (0, 10, 17, 13)]) (by decide) rfl (Nat.le_of_ble_eq_true rfl) ?_
  intro p e s m args below meth c H0 A Q hx hb hml hown hts hP hK hD hS hA hXW hXZ htab hret ls hl
  obtain ⟨H, locs, hH, hlo⟩ : ∃ (H : Heap) (locs : List Loc), H = H0 ∧ locs = [] := ⟨_, _, rfl, rfl⟩
  rw [← hH] at hP
  rw [show va_S A H0 H0 [] = va_S A H0 H locs by rw [hH, hlo]] at hS
  rw [show W p l e rmL_protectedSeats s m args below meth c H0 [] 0 0 Q (F0 m 0 ls []) = W p l e rmL_protectedSeats s m args below meth c H locs 0 0 Q (F0 m 0 ls []) by rw [hH, hlo]]
  refine lv_aload_n hx hb dL_protectedSeats_0 rfl (lv_at hl 3 rfl) ?_
  refine lv_iconst (v := nI 0) hx hb dL_protectedSeats_1 (by decide) ?_
  refine lv_aload_n hx hb dL_protectedSeats_2 rfl (lv_at hl 0 rfl) ?_
  refine lv_iload_n hx hb dL_protectedSeats_3 rfl (lv_at hl 1 rfl) ?_
  refine lv_iload_n hx hb dL_protectedSeats_4 rfl (lv_at hl 2 rfl) ?_
  refine xl_calli (vx_runV (As := [.int v, .int x]) (rest := [.int (nI 0), .ref ao]) ⟨hx, hb, hml, hown, hts⟩ (c_X5_protectedSeats l hfl D cy ad σ er ofd de bo ql qs tv hof hI v x H.size) (cwV 2 hts gL_protectedSeats_X5_protectedSeats rfl rfl rfl hdX5_protectedSeats ⟨Nat.le_of_ble_eq_true rfl, Nat.le_of_ble_eq_true rfl⟩) (xo_preV hK rfl (hP.mem (fun _ hq => List.mem_append_left _ hq)) (hD.subl (List.sublist_append_left _ _)) hXW (hXZ.at hS hD hA (fun _ hq => List.mem_append_left _ hq)) (va_recv hK.1 hP (ci := 5) (q0 := 0) rfl rfl)) rfl rfl hl.1 rfl (lv_room (Nat.le_of_ble_eq_true rfl)) dL_protectedSeats_5 ⟨Nat.le_of_ble_eq_true rfl, Nat.le_of_ble_eq_true rfl⟩) hS hP hD hA (fun E ce q9 H locs hex hP hD hS hc9 hv9 hcl9 => ?_) (fun r u H locs hr hP hD hS => ?_)
  · skip
    have hex0 := hex
    rcases hex with hex | hex
    · skip
      obtain rfl : E = eIO := by first | exact hex.2 | exact hex.2.2 | exact hex.2.2.2
      refine vx_catch hown [] ⟨0, 10, 13, 19⟩ [⟨0, 10, 17, 13⟩] (htab.trans rfl) (fun z hz => absurd hz List.not_mem_nil) rfl (by decide) (hts _ (List.mem_of_getElem? (i := 1) rfl)) (va_Nw.use rfl (hXW.1 _ xc_IO rfl)) hc9 hv9 hcl9 ?_
      refine lv_astore (lv' := [(4, .ref q9), (0, .ref ((ad 0 0))), (1, .int v), (2, .int x), (3, .ref ao)]) hx hb dL_protectedSeats_13 hl (by decide) rfl (fun ls hl => ?_)
      refine lv_iconst (v := nI 1) hx hb dL_protectedSeats_15 (by decide) ?_
      refine W.widen (k := 1) (n := 6) (Nat.le_of_ble_eq_true rfl) (Nat.le_of_ble_eq_true rfl) ?_
      exact hret (none, o, d) dL_protectedSeats_16 hP hD hS (Or.inr ⟨eIO, rfl, hex0, by decide +kernel⟩)
    · skip
      obtain rfl : E = eIA := by first | exact hex.2 | exact hex.2.2 | exact hex.2.2.2
      refine vx_catch hown [⟨0, 10, 13, 19⟩] ⟨0, 10, 17, 13⟩ [] (htab.trans rfl) (List.forall_mem_cons.mpr ⟨Or.inr ⟨by decide, "java/lang/IndexOutOfBoundsException", hts _ (List.mem_of_getElem? (i := 1) rfl), hXW.2.1 (eIA, eIO) (by decide)⟩, (fun _ h => absurd h List.not_mem_nil)⟩) rfl (by decide) (hts _ (List.mem_of_getElem? (i := 2) rfl)) (va_Nw.use rfl (hXW.1 _ xc_IA rfl)) hc9 hv9 hcl9 ?_
      refine lv_astore (lv' := [(4, .ref q9), (0, .ref ((ad 0 0))), (1, .int v), (2, .int x), (3, .ref ao)]) hx hb dL_protectedSeats_17 hl (by decide) rfl (fun ls hl => ?_)
      refine lv_iconst (v := nI 2) hx hb dL_protectedSeats_19 (by decide) ?_
      refine W.widen (k := 1) (n := 6) (Nat.le_of_ble_eq_true rfl) (Nat.le_of_ble_eq_true rfl) ?_
      exact hret (none, o, d) dL_protectedSeats_20 hP hD hS (Or.inr ⟨eIA, rfl, hex0, by decide +kernel⟩)
  · skip
    refine lv_i2l hx hb dL_protectedSeats_8 rfl ?_
    refine ll_st hx hb hK hP hD hS dL_protectedSeats_9 (fun o2 H locs ho hP hD hS => ?_)
    refine lv_goto (tgt := 21) hx hb dL_protectedSeats_10 (by decide) ?_
    refine lv_iconst (v := nI 0) hx hb dL_protectedSeats_21 (by decide) ?_
    refine W.widen (k := 1) (n := 6) (Nat.le_of_ble_eq_true rfl) (Nat.le_of_ble_eq_true rfl) ?_
    exact hret (some u, o2, d) dL_protectedSeats_22 hP hD hS (Or.inl ⟨u, r, rfl, rfl, hr, ho⟩)
set_option maxHeartbeats 4000000 in
set_option maxRecDepth 100000 in
theorem c_L_bid (l : Launch) (hfl : l.stackTraces = false) (D : va_G) (cy : Nat → ClassId) (ad : Nat → Nat → Nat) (σ : SF) (er : Int64) (ofd de bo : Nat → Option Nat) (ql : Nat → Nat) (qs : Nat → Nat → Nat) (tv : Nat → Nat) (hbo : BO ad σ bo) {n : Nat} (hI : Iv n σ) {dl : List Nat} (hDL : DL ad σ de dl) (hQZ : QZ qs) (v : Int32) (ao aD : Nat) (o : Nat → Int64) (d : Nat → UInt64) : cLI l D cy yL_bid wsL_bid rmL_bid [.ref (ad 0 0), .int v, .ref ao] ((WG ad cy (σ 0 0) (σ 0 3) σ er ofd de bo ql qs tv) ++ oC cy ao aD o d) (T := TL ((Nat → Nat) × (Nat → Nat → Nat))) (wL cy (WG ad cy (σ 0 0) (σ 0 3) σ er ofd de bo ql qs tv) (fun u => WG ad cy (σ 0 0) (σ 0 3) σ er ofd de bo u.1 u.2 tv) ao aD) (pL (fun r u => okR v 0 2 ∧ r = bidI σ (cN v) ∧ QZ u.2) (fun E => ¬ okR v 0 2 ∧ E = eIO) (cd1 eIO)) 1 6 := by
  refine cLI.of (cc := cL_bid) (maxL := 4) (hh := [(0, 9, 12, 19)]) (by decide) rfl (Nat.le_of_ble_eq_true rfl) ?_
  intro p e s m args below meth c H0 A Q hx hb hml hown hts hP hK hD hS hA hXW hXZ htab hret ls hl
  obtain ⟨H, locs, hH, hlo⟩ : ∃ (H : Heap) (locs : List Loc), H = H0 ∧ locs = [] := ⟨_, _, rfl, rfl⟩
  rw [← hH] at hP
  rw [show va_S A H0 H0 [] = va_S A H0 H locs by rw [hH, hlo]] at hS
  rw [show W p l e rmL_bid s m args below meth c H0 [] 0 0 Q (F0 m 0 ls []) = W p l e rmL_bid s m args below meth c H locs 0 0 Q (F0 m 0 ls []) by rw [hH, hlo]]
  refine lv_aload_n hx hb dL_bid_0 rfl (lv_at hl 2 rfl) ?_
  refine lv_iconst (v := nI 0) hx hb dL_bid_1 (by decide) ?_
  refine lv_aload_n hx hb dL_bid_2 rfl (lv_at hl 0 rfl) ?_
  refine lv_iload_n hx hb dL_bid_3 rfl (lv_at hl 1 rfl) ?_
  refine xl_calli (vx_runV (As := [.int v]) (rest := [.int (nI 0), .ref ao]) ⟨hx, hb, hml, hown, hts⟩ (c_X5_bid l hfl D cy ad σ er ofd de bo ql qs tv hbo hI hDL hQZ v H.size) (cwV 1 hts gL_bid_X5_bid rfl rfl rfl hdX5_bid ⟨Nat.le_of_ble_eq_true rfl, Nat.le_of_ble_eq_true rfl⟩) (xo_preV hK rfl (hP.mem (fun _ hq => List.mem_append_left _ hq)) (hD.subl (List.sublist_append_left _ _)) hXW (hXZ.at hS hD hA (fun _ hq => List.mem_append_left _ hq)) (va_recv hK.1 hP (ci := 5) (q0 := 0) rfl rfl)) rfl rfl hl.1 rfl (lv_room (Nat.le_of_ble_eq_true rfl)) dL_bid_4 ⟨Nat.le_of_ble_eq_true rfl, Nat.le_of_ble_eq_true rfl⟩) hS hP hD hA (fun E ce q9 H locs hex hP hD hS hc9 hv9 hcl9 => ?_) (fun r u H locs hr hP hD hS => ?_)
  · skip
    have hex0 := hex
    rcases hex with hex
    · skip
      obtain rfl : E = eIO := by first | exact hex.2 | exact hex.2.2 | exact hex.2.2.2
      refine vx_catch hown [] ⟨0, 9, 12, 19⟩ [] (htab.trans rfl) (fun z hz => absurd hz List.not_mem_nil) rfl (by decide) (hts _ (List.mem_of_getElem? (i := 1) rfl)) (va_Nw.use rfl (hXW.1 _ xc_IO rfl)) hc9 hv9 hcl9 ?_
      refine lv_astore_n (lv' := [(3, .ref q9), (0, .ref ((ad 0 0))), (1, .int v), (2, .ref ao)]) hx hb dL_bid_12 rfl hl (by decide) rfl (fun ls hl => ?_)
      refine lv_iconst (v := nI 1) hx hb dL_bid_13 (by decide) ?_
      refine W.widen (k := 1) (n := 6) (Nat.le_of_ble_eq_true rfl) (Nat.le_of_ble_eq_true rfl) ?_
      exact hret (none, o, d) dL_bid_14 hP hD hS (Or.inr ⟨eIO, rfl, hex0, by decide +kernel⟩)
  · skip
    refine lv_i2l hx hb dL_bid_7 rfl ?_
    refine ll_st hx hb hK hP hD hS dL_bid_8 (fun o2 H locs ho hP hD hS => ?_)
    refine lv_goto (tgt := 15) hx hb dL_bid_9 (by decide) ?_
    refine lv_iconst (v := nI 0) hx hb dL_bid_15 (by decide) ?_
    refine W.widen (k := 1) (n := 6) (Nat.le_of_ble_eq_true rfl) (Nat.le_of_ble_eq_true rfl) ?_
    exact hret (some u, o2, d) dL_bid_16 hP hD hS (Or.inl ⟨u, r, rfl, rfl, hr, ho⟩)
set_option maxHeartbeats 4000000 in
set_option maxRecDepth 100000 in
theorem c_L_displaced (l : Launch) (hfl : l.stackTraces = false) (D : va_G) (cy : Nat → ClassId) (ad : Nat → Nat → Nat) (σ : SF) (er : Int64) (ofd de bo : Nat → Option Nat) (ql : Nat → Nat) (qs : Nat → Nat → Nat) (tv : Nat → Nat) (hbo : BO ad σ bo) {n : Nat} (hI : Iv n σ) {dl : List Nat} (hDL : DL ad σ de dl) (hQZ : QZ qs) (f t q : Int32) (ao aD : Nat) (o : Nat → Int64) (d : Nat → UInt64) : cLI l D cy yL_displaced wsL_displaced rmL_displaced [.ref (ad 0 0), .int f, .int t, .int q, .ref ao] ((WG ad cy (σ 0 0) (σ 0 3) σ er ofd de bo ql qs tv) ++ oC cy ao aD o d) (T := TL ((Nat → Nat) × (Nat → Nat → Nat))) (wL cy (WG ad cy (σ 0 0) (σ 0 3) σ er ofd de bo ql qs tv) (fun u => WG ad cy (σ 0 0) (σ 0 3) σ er ofd de bo u.1 u.2 tv) ao aD) (pL (fun r u => (okR f 0 2 ∧ okR t 0 2) ∧ (f ≤ t ∧ okR q 1 10) ∧ ((tooFull σ (cN f) (cN t) (cN q) ∧ r = -1) ∨ (¬ tooFull σ (cN f) (cN t) (cN q) ∧ r = disI σ (cN f) (cN t) (cN q))) ∧ QZ u.2) (fun E => (¬ (okR f 0 2 ∧ okR t 0 2) ∧ E = eIO) ∨ ((okR f 0 2 ∧ okR t 0 2) ∧ ¬ (f ≤ t ∧ okR q 1 10) ∧ E = eIA)) (cd2 eIO)) 1 6 := by
  refine cLI.of (cc := cL_displaced) (maxL := 6) (hh := [(0, 12, 15, 19), (0, 12, 19, 13)]) (by decide) rfl (Nat.le_of_ble_eq_true rfl) ?_
  intro p e s m args below meth c H0 A Q hx hb hml hown hts hP hK hD hS hA hXW hXZ htab hret ls hl
  obtain ⟨H, locs, hH, hlo⟩ : ∃ (H : Heap) (locs : List Loc), H = H0 ∧ locs = [] := ⟨_, _, rfl, rfl⟩
  rw [← hH] at hP
  rw [show va_S A H0 H0 [] = va_S A H0 H locs by rw [hH, hlo]] at hS
  rw [show W p l e rmL_displaced s m args below meth c H0 [] 0 0 Q (F0 m 0 ls []) = W p l e rmL_displaced s m args below meth c H locs 0 0 Q (F0 m 0 ls []) by rw [hH, hlo]]
  refine lv_aload hx hb dL_displaced_0 (lv_at hl 4 rfl) ?_
  refine lv_iconst (v := nI 0) hx hb dL_displaced_2 (by decide) ?_
  refine lv_aload_n hx hb dL_displaced_3 rfl (lv_at hl 0 rfl) ?_
  refine lv_iload_n hx hb dL_displaced_4 rfl (lv_at hl 1 rfl) ?_
  refine lv_iload_n hx hb dL_displaced_5 rfl (lv_at hl 2 rfl) ?_
  refine lv_iload_n hx hb dL_displaced_6 rfl (lv_at hl 3 rfl) ?_
  refine xl_calli (vx_runV (As := [.int f, .int t, .int q]) (rest := [.int (nI 0), .ref ao]) ⟨hx, hb, hml, hown, hts⟩ (c_X5_displaced l hfl D cy ad σ er ofd de bo ql qs tv hbo hI hDL hQZ f t q H.size) (cwV 3 hts gL_displaced_X5_displaced rfl rfl rfl hdX5_displaced ⟨Nat.le_of_ble_eq_true rfl, Nat.le_of_ble_eq_true rfl⟩) (xo_preV hK rfl (hP.mem (fun _ hq => List.mem_append_left _ hq)) (hD.subl (List.sublist_append_left _ _)) hXW (hXZ.at hS hD hA (fun _ hq => List.mem_append_left _ hq)) (va_recv hK.1 hP (ci := 5) (q0 := 0) rfl rfl)) rfl rfl hl.1 rfl (lv_room (Nat.le_of_ble_eq_true rfl)) dL_displaced_7 ⟨Nat.le_of_ble_eq_true rfl, Nat.le_of_ble_eq_true rfl⟩) hS hP hD hA (fun E ce q9 H locs hex hP hD hS hc9 hv9 hcl9 => ?_) (fun r u H locs hr hP hD hS => ?_)
  · skip
    have hex0 := hex
    rcases hex with hex | hex
    · skip
      obtain rfl : E = eIO := by first | exact hex.2 | exact hex.2.2 | exact hex.2.2.2
      refine vx_catch hown [] ⟨0, 12, 15, 19⟩ [⟨0, 12, 19, 13⟩] (htab.trans rfl) (fun z hz => absurd hz List.not_mem_nil) rfl (by decide) (hts _ (List.mem_of_getElem? (i := 1) rfl)) (va_Nw.use rfl (hXW.1 _ xc_IO rfl)) hc9 hv9 hcl9 ?_
      refine lv_astore (lv' := [(5, .ref q9), (0, .ref ((ad 0 0))), (1, .int f), (2, .int t), (3, .int q), (4, .ref ao)]) hx hb dL_displaced_15 hl (by decide) rfl (fun ls hl => ?_)
      refine lv_iconst (v := nI 1) hx hb dL_displaced_17 (by decide) ?_
      refine W.widen (k := 1) (n := 6) (Nat.le_of_ble_eq_true rfl) (Nat.le_of_ble_eq_true rfl) ?_
      exact hret (none, o, d) dL_displaced_18 hP hD hS (Or.inr ⟨eIO, rfl, hex0, by decide +kernel⟩)
    · skip
      obtain rfl : E = eIA := by first | exact hex.2 | exact hex.2.2 | exact hex.2.2.2
      refine vx_catch hown [⟨0, 12, 15, 19⟩] ⟨0, 12, 19, 13⟩ [] (htab.trans rfl) (List.forall_mem_cons.mpr ⟨Or.inr ⟨by decide, "java/lang/IndexOutOfBoundsException", hts _ (List.mem_of_getElem? (i := 1) rfl), hXW.2.1 (eIA, eIO) (by decide)⟩, (fun _ h => absurd h List.not_mem_nil)⟩) rfl (by decide) (hts _ (List.mem_of_getElem? (i := 2) rfl)) (va_Nw.use rfl (hXW.1 _ xc_IA rfl)) hc9 hv9 hcl9 ?_
      refine lv_astore (lv' := [(5, .ref q9), (0, .ref ((ad 0 0))), (1, .int f), (2, .int t), (3, .int q), (4, .ref ao)]) hx hb dL_displaced_19 hl (by decide) rfl (fun ls hl => ?_)
      refine lv_iconst (v := nI 2) hx hb dL_displaced_21 (by decide) ?_
      refine W.widen (k := 1) (n := 6) (Nat.le_of_ble_eq_true rfl) (Nat.le_of_ble_eq_true rfl) ?_
      exact hret (none, o, d) dL_displaced_22 hP hD hS (Or.inr ⟨eIA, rfl, hex0, by decide +kernel⟩)
  · skip
    refine lv_i2l hx hb dL_displaced_10 rfl ?_
    refine ll_st hx hb hK hP hD hS dL_displaced_11 (fun o2 H locs ho hP hD hS => ?_)
    refine lv_goto (tgt := 23) hx hb dL_displaced_12 (by decide) ?_
    refine lv_iconst (v := nI 0) hx hb dL_displaced_23 (by decide) ?_
    refine W.widen (k := 1) (n := 6) (Nat.le_of_ble_eq_true rfl) (Nat.le_of_ble_eq_true rfl) ?_
    exact hret (some u, o2, d) dL_displaced_24 hP hD hS (Or.inl ⟨u, r, rfl, rfl, hr, ho⟩)
set_option maxHeartbeats 4000000 in
set_option maxRecDepth 100000 in
theorem c_L_expected (l : Launch) (hfl : l.stackTraces = false) (D : va_G) (cy : Nat → ClassId) (ad : Nat → Nat → Nat) (σ : SF) (er : Int64) (ofd de bo : Nat → Option Nat) (ql : Nat → Nat) (qs : Nat → Nat → Nat) (tv : Nat → Nat) (hof : OF ad σ ofd) {n : Nat} (hI : Iv n σ) (v : Int32) (ao aD : Nat) (o : Nat → Int64) (d : Nat → UInt64) : cLI l D cy yL_expected wsL_expected rmL_expected [.ref (ad 0 0), .int v, .ref ao] ((WG ad cy (σ 0 0) (σ 0 3) σ er ofd de bo ql qs tv) ++ oC cy ao aD o d) (T := TL (Unit)) (wL cy (WG ad cy (σ 0 0) (σ 0 3) σ er ofd de bo ql qs tv) (fun _ => WG ad cy (σ 0 0) (σ 0 3) σ er ofd de bo ql qs tv) ao aD) (pL (fun r _ => isP σ v ∧ r = nI (σ 6 (cN v))) (fun E => ¬ isP σ v ∧ E = eIO) (cd1 eIO)) 1 6 := by
  refine cLI.of (cc := cL_expected) (maxL := 4) (hh := [(0, 9, 12, 19)]) (by decide) rfl (Nat.le_of_ble_eq_true rfl) ?_
  intro p e s m args below meth c H0 A Q hx hb hml hown hts hP hK hD hS hA hXW hXZ htab hret ls hl
  obtain ⟨H, locs, hH, hlo⟩ : ∃ (H : Heap) (locs : List Loc), H = H0 ∧ locs = [] := ⟨_, _, rfl, rfl⟩
  rw [← hH] at hP
  rw [show va_S A H0 H0 [] = va_S A H0 H locs by rw [hH, hlo]] at hS
  rw [show W p l e rmL_expected s m args below meth c H0 [] 0 0 Q (F0 m 0 ls []) = W p l e rmL_expected s m args below meth c H locs 0 0 Q (F0 m 0 ls []) by rw [hH, hlo]]
  refine lv_aload_n hx hb dL_expected_0 rfl (lv_at hl 2 rfl) ?_
  refine lv_iconst (v := nI 0) hx hb dL_expected_1 (by decide) ?_
  refine lv_aload_n hx hb dL_expected_2 rfl (lv_at hl 0 rfl) ?_
  refine lv_iload_n hx hb dL_expected_3 rfl (lv_at hl 1 rfl) ?_
  refine xl_calli (vx_runV (As := [.int v]) (rest := [.int (nI 0), .ref ao]) ⟨hx, hb, hml, hown, hts⟩ (c_X5_expected l hfl D cy ad σ er ofd de bo ql qs tv hof hI v H.size) (cwV 1 hts gL_expected_X5_expected rfl rfl rfl hdX5_expected ⟨Nat.le_of_ble_eq_true rfl, Nat.le_of_ble_eq_true rfl⟩) (xo_preV hK rfl (hP.mem (fun _ hq => List.mem_append_left _ hq)) (hD.subl (List.sublist_append_left _ _)) hXW (hXZ.at hS hD hA (fun _ hq => List.mem_append_left _ hq)) (va_recv hK.1 hP (ci := 5) (q0 := 0) rfl rfl)) rfl rfl hl.1 rfl (lv_room (Nat.le_of_ble_eq_true rfl)) dL_expected_4 ⟨Nat.le_of_ble_eq_true rfl, Nat.le_of_ble_eq_true rfl⟩) hS hP hD hA (fun E ce q9 H locs hex hP hD hS hc9 hv9 hcl9 => ?_) (fun r u H locs hr hP hD hS => ?_)
  · skip
    have hex0 := hex
    rcases hex with hex
    · skip
      obtain rfl : E = eIO := by first | exact hex.2 | exact hex.2.2 | exact hex.2.2.2
      refine vx_catch hown [] ⟨0, 9, 12, 19⟩ [] (htab.trans rfl) (fun z hz => absurd hz List.not_mem_nil) rfl (by decide) (hts _ (List.mem_of_getElem? (i := 1) rfl)) (va_Nw.use rfl (hXW.1 _ xc_IO rfl)) hc9 hv9 hcl9 ?_
      refine lv_astore_n (lv' := [(3, .ref q9), (0, .ref ((ad 0 0))), (1, .int v), (2, .ref ao)]) hx hb dL_expected_12 rfl hl (by decide) rfl (fun ls hl => ?_)
      refine lv_iconst (v := nI 1) hx hb dL_expected_13 (by decide) ?_
      refine W.widen (k := 1) (n := 6) (Nat.le_of_ble_eq_true rfl) (Nat.le_of_ble_eq_true rfl) ?_
      exact hret (none, o, d) dL_expected_14 hP hD hS (Or.inr ⟨eIO, rfl, hex0, by decide +kernel⟩)
  · skip
    refine lv_i2l hx hb dL_expected_7 rfl ?_
    refine ll_st hx hb hK hP hD hS dL_expected_8 (fun o2 H locs ho hP hD hS => ?_)
    refine lv_goto (tgt := 15) hx hb dL_expected_9 (by decide) ?_
    refine lv_iconst (v := nI 0) hx hb dL_expected_15 (by decide) ?_
    refine W.widen (k := 1) (n := 6) (Nat.le_of_ble_eq_true rfl) (Nat.le_of_ble_eq_true rfl) ?_
    exact hret (some u, o2, d) dL_expected_16 hP hD hS (Or.inl ⟨u, r, rfl, rfl, hr, ho⟩)
set_option maxHeartbeats 4000000 in
set_option maxRecDepth 100000 in
theorem c_L_average (l : Launch) (hfl : l.stackTraces = false) (D : va_G) (cy : Nat → ClassId) (ad : Nat → Nat → Nat) (σ : SF) (er : Int64) (ofd de bo : Nat → Option Nat) (ql : Nat → Nat) (qs : Nat → Nat → Nat) (tv : Nat → Nat) (hof : OF ad σ ofd) {n : Nat} (hI : Iv n σ) (v : Int32) (ao aD : Nat) (o : Nat → Int64) (d : Nat → UInt64) : cLI l D cy yL_average wsL_average rmL_average [.ref (ad 0 0), .int v, .ref aD] ((WG ad cy (σ 0 0) (σ 0 3) σ er ofd de bo ql qs tv) ++ oC cy ao aD o d) (T := TL (Unit)) (wL cy (WG ad cy (σ 0 0) (σ 0 3) σ er ofd de bo ql qs tv) (fun _ => WG ad cy (σ 0 0) (σ 0 3) σ er ofd de bo ql qs tv) ao aD) (pLf (fun r _ => isP σ v ∧ r = avg σ (cN v)) (fun E => ¬ isP σ v ∧ E = eIO) (cd1 eIO)) 1 6 := by
  refine cLI.of (cc := cL_average) (maxL := 4) (hh := [(0, 9, 12, 19)]) (by decide) rfl (Nat.le_of_ble_eq_true rfl) ?_
  intro p e s m args below meth c H0 A Q hx hb hml hown hts hP hK hD hS hA hXW hXZ htab hret ls hl
  obtain ⟨H, locs, hH, hlo⟩ : ∃ (H : Heap) (locs : List Loc), H = H0 ∧ locs = [] := ⟨_, _, rfl, rfl⟩
  rw [← hH] at hP
  rw [show va_S A H0 H0 [] = va_S A H0 H locs by rw [hH, hlo]] at hS
  rw [show W p l e rmL_average s m args below meth c H0 [] 0 0 Q (F0 m 0 ls []) = W p l e rmL_average s m args below meth c H locs 0 0 Q (F0 m 0 ls []) by rw [hH, hlo]]
  refine lv_aload_n hx hb dL_average_0 rfl (lv_at hl 2 rfl) ?_
  refine lv_iconst (v := nI 0) hx hb dL_average_1 (by decide) ?_
  refine lv_aload_n hx hb dL_average_2 rfl (lv_at hl 0 rfl) ?_
  refine lv_iload_n hx hb dL_average_3 rfl (lv_at hl 1 rfl) ?_
  refine xl_callf (vx_runV (As := [.int v]) (rest := [.int (nI 0), .ref aD]) ⟨hx, hb, hml, hown, hts⟩ (c_X5_average l hfl D cy ad σ er ofd de bo ql qs tv hof hI v H.size) (cwV 1 hts gL_average_X5_average rfl rfl rfl hdX5_average ⟨Nat.le_of_ble_eq_true rfl, Nat.le_of_ble_eq_true rfl⟩) (xo_preV hK rfl (hP.mem (fun _ hq => List.mem_append_left _ hq)) (hD.subl (List.sublist_append_left _ _)) hXW (hXZ.at hS hD hA (fun _ hq => List.mem_append_left _ hq)) (va_recv hK.1 hP (ci := 5) (q0 := 0) rfl rfl)) rfl rfl hl.1 rfl (lv_room (Nat.le_of_ble_eq_true rfl)) dL_average_4 ⟨Nat.le_of_ble_eq_true rfl, Nat.le_of_ble_eq_true rfl⟩) hS hP hD hA (fun E ce q9 H locs hex hP hD hS hc9 hv9 hcl9 => ?_) (fun r u H locs hr hP hD hS => ?_)
  · skip
    have hex0 := hex
    rcases hex with hex
    · skip
      obtain rfl : E = eIO := by first | exact hex.2 | exact hex.2.2 | exact hex.2.2.2
      refine vx_catch hown [] ⟨0, 9, 12, 19⟩ [] (htab.trans rfl) (fun z hz => absurd hz List.not_mem_nil) rfl (by decide) (hts _ (List.mem_of_getElem? (i := 1) rfl)) (va_Nw.use rfl (hXW.1 _ xc_IO rfl)) hc9 hv9 hcl9 ?_
      refine lv_astore_n (lv' := [(3, .ref q9), (0, .ref ((ad 0 0))), (1, .int v), (2, .ref aD)]) hx hb dL_average_12 rfl hl (by decide) rfl (fun ls hl => ?_)
      refine lv_iconst (v := nI 1) hx hb dL_average_13 (by decide) ?_
      refine W.widen (k := 1) (n := 6) (Nat.le_of_ble_eq_true rfl) (Nat.le_of_ble_eq_true rfl) ?_
      exact hret (none, o, d) dL_average_14 hP hD hS (Or.inr ⟨eIO, rfl, hex0, by decide +kernel⟩)
  · skip
    refine lv_f2d hx hb dL_average_7 (by rw [hr.2]; exact avg_d (by have := hI.dy; have := hI.nn; omega)) ?_
    refine ll_dst hx hb hK hP hD hS dL_average_8 (fun d2 H locs ho hP hD hS => ?_)
    refine lv_goto (tgt := 15) hx hb dL_average_9 (by decide) ?_
    refine lv_iconst (v := nI 0) hx hb dL_average_15 (by decide) ?_
    refine W.widen (k := 1) (n := 6) (Nat.le_of_ble_eq_true rfl) (Nat.le_of_ble_eq_true rfl) ?_
    exact hret (some u, o, d2) dL_average_16 hP hD hS (Or.inl ⟨u, r, rfl, rfl, hr, ho⟩)
set_option maxHeartbeats 4000000 in
set_option maxRecDepth 100000 in
theorem c_L_asked (l : Launch) (hfl : l.stackTraces = false) (D : va_G) (cy : Nat → ClassId) (ad : Nat → Nat → Nat) (σ : SF) (er : Int64) (ofd de bo : Nat → Option Nat) (ql : Nat → Nat) (qs : Nat → Nat → Nat) (tv : Nat → Nat) (hof : OF ad σ ofd) {n : Nat} (hI : Iv n σ) (v : Int32) (ao aD : Nat) (o : Nat → Int64) (d : Nat → UInt64) : cLI l D cy yL_asked wsL_asked rmL_asked [.ref (ad 0 0), .int v, .ref ao] ((WG ad cy (σ 0 0) (σ 0 3) σ er ofd de bo ql qs tv) ++ oC cy ao aD o d) (T := TL (Unit)) (wL cy (WG ad cy (σ 0 0) (σ 0 3) σ er ofd de bo ql qs tv) (fun _ => WG ad cy (σ 0 0) (σ 0 3) σ er ofd de bo ql qs tv) ao aD) (pL (fun r _ => isP σ v ∧ r = nI (σ 7 (cN v))) (fun E => ¬ isP σ v ∧ E = eIO) (cd1 eIO)) 1 6 := by
  refine cLI.of (cc := cL_asked) (maxL := 4) (hh := [(0, 9, 12, 19)]) (by decide) rfl (Nat.le_of_ble_eq_true rfl) ?_
  intro p e s m args below meth c H0 A Q hx hb hml hown hts hP hK hD hS hA hXW hXZ htab hret ls hl
  obtain ⟨H, locs, hH, hlo⟩ : ∃ (H : Heap) (locs : List Loc), H = H0 ∧ locs = [] := ⟨_, _, rfl, rfl⟩
  rw [← hH] at hP
  rw [show va_S A H0 H0 [] = va_S A H0 H locs by rw [hH, hlo]] at hS
  rw [show W p l e rmL_asked s m args below meth c H0 [] 0 0 Q (F0 m 0 ls []) = W p l e rmL_asked s m args below meth c H locs 0 0 Q (F0 m 0 ls []) by rw [hH, hlo]]
  refine lv_aload_n hx hb dL_asked_0 rfl (lv_at hl 2 rfl) ?_
  refine lv_iconst (v := nI 0) hx hb dL_asked_1 (by decide) ?_
  refine lv_aload_n hx hb dL_asked_2 rfl (lv_at hl 0 rfl) ?_
  refine lv_iload_n hx hb dL_asked_3 rfl (lv_at hl 1 rfl) ?_
  refine xl_calli (vx_runV (As := [.int v]) (rest := [.int (nI 0), .ref ao]) ⟨hx, hb, hml, hown, hts⟩ (c_X5_asked l hfl D cy ad σ er ofd de bo ql qs tv hof hI v H.size) (cwV 1 hts gL_asked_X5_asked rfl rfl rfl hdX5_asked ⟨Nat.le_of_ble_eq_true rfl, Nat.le_of_ble_eq_true rfl⟩) (xo_preV hK rfl (hP.mem (fun _ hq => List.mem_append_left _ hq)) (hD.subl (List.sublist_append_left _ _)) hXW (hXZ.at hS hD hA (fun _ hq => List.mem_append_left _ hq)) (va_recv hK.1 hP (ci := 5) (q0 := 0) rfl rfl)) rfl rfl hl.1 rfl (lv_room (Nat.le_of_ble_eq_true rfl)) dL_asked_4 ⟨Nat.le_of_ble_eq_true rfl, Nat.le_of_ble_eq_true rfl⟩) hS hP hD hA (fun E ce q9 H locs hex hP hD hS hc9 hv9 hcl9 => ?_) (fun r u H locs hr hP hD hS => ?_)
  · skip
    have hex0 := hex
    rcases hex with hex
    · skip
      obtain rfl : E = eIO := by first | exact hex.2 | exact hex.2.2 | exact hex.2.2.2
      refine vx_catch hown [] ⟨0, 9, 12, 19⟩ [] (htab.trans rfl) (fun z hz => absurd hz List.not_mem_nil) rfl (by decide) (hts _ (List.mem_of_getElem? (i := 1) rfl)) (va_Nw.use rfl (hXW.1 _ xc_IO rfl)) hc9 hv9 hcl9 ?_
      refine lv_astore_n (lv' := [(3, .ref q9), (0, .ref ((ad 0 0))), (1, .int v), (2, .ref ao)]) hx hb dL_asked_12 rfl hl (by decide) rfl (fun ls hl => ?_)
      refine lv_iconst (v := nI 1) hx hb dL_asked_13 (by decide) ?_
      refine W.widen (k := 1) (n := 6) (Nat.le_of_ble_eq_true rfl) (Nat.le_of_ble_eq_true rfl) ?_
      exact hret (none, o, d) dL_asked_14 hP hD hS (Or.inr ⟨eIO, rfl, hex0, by decide +kernel⟩)
  · skip
    refine lv_i2l hx hb dL_asked_7 rfl ?_
    refine ll_st hx hb hK hP hD hS dL_asked_8 (fun o2 H locs ho hP hD hS => ?_)
    refine lv_goto (tgt := 15) hx hb dL_asked_9 (by decide) ?_
    refine lv_iconst (v := nI 0) hx hb dL_asked_15 (by decide) ?_
    refine W.widen (k := 1) (n := 6) (Nat.le_of_ble_eq_true rfl) (Nat.le_of_ble_eq_true rfl) ?_
    exact hret (some u, o2, d) dL_asked_16 hP hD hS (Or.inl ⟨u, r, rfl, rfl, hr, ho⟩)
set_option maxHeartbeats 4000000 in
set_option maxRecDepth 100000 in
theorem c_L_refused (l : Launch) (hfl : l.stackTraces = false) (D : va_G) (cy : Nat → ClassId) (ad : Nat → Nat → Nat) (σ : SF) (er : Int64) (ofd de bo : Nat → Option Nat) (ql : Nat → Nat) (qs : Nat → Nat → Nat) (tv : Nat → Nat) (v : Int32) (ao aD : Nat) (o : Nat → Int64) (d : Nat → UInt64) : cLI l D cy yL_refused wsL_refused rmL_refused [.ref (ad 0 0), .int v, .ref ao] ((WG ad cy (σ 0 0) (σ 0 3) σ er ofd de bo ql qs tv) ++ oC cy ao aD o d) (T := TL (Unit)) (wL cy (WG ad cy (σ 0 0) (σ 0 3) σ er ofd de bo ql qs tv) (fun _ => WG ad cy (σ 0 0) (σ 0 3) σ er ofd de bo ql qs tv) ao aD) (pL (fun r _ => okN v ∧ r = nI (σ 15 (cN (-v)))) (fun E => ¬ okN v ∧ E = eIA) (cd1 eIA)) 1 6 := by
  refine cLI.of (cc := cL_refused) (maxL := 4) (hh := [(0, 9, 12, 13)]) (by decide) rfl (Nat.le_of_ble_eq_true rfl) ?_
  intro p e s m args below meth c H0 A Q hx hb hml hown hts hP hK hD hS hA hXW hXZ htab hret ls hl
  obtain ⟨H, locs, hH, hlo⟩ : ∃ (H : Heap) (locs : List Loc), H = H0 ∧ locs = [] := ⟨_, _, rfl, rfl⟩
  rw [← hH] at hP
  rw [show va_S A H0 H0 [] = va_S A H0 H locs by rw [hH, hlo]] at hS
  rw [show W p l e rmL_refused s m args below meth c H0 [] 0 0 Q (F0 m 0 ls []) = W p l e rmL_refused s m args below meth c H locs 0 0 Q (F0 m 0 ls []) by rw [hH, hlo]]
  refine lv_aload_n hx hb dL_refused_0 rfl (lv_at hl 2 rfl) ?_
  refine lv_iconst (v := nI 0) hx hb dL_refused_1 (by decide) ?_
  refine lv_aload_n hx hb dL_refused_2 rfl (lv_at hl 0 rfl) ?_
  refine lv_iload_n hx hb dL_refused_3 rfl (lv_at hl 1 rfl) ?_
  refine xl_calli (vx_runV (As := [.int v]) (rest := [.int (nI 0), .ref ao]) ⟨hx, hb, hml, hown, hts⟩ (c_X5_refused l hfl D cy ad σ er ofd de bo ql qs tv v H.size) (cwV 1 hts gL_refused_X5_refused rfl rfl rfl hdX5_refused ⟨Nat.le_of_ble_eq_true rfl, Nat.le_of_ble_eq_true rfl⟩) (xo_preV hK rfl (hP.mem (fun _ hq => List.mem_append_left _ hq)) (hD.subl (List.sublist_append_left _ _)) hXW (hXZ.at hS hD hA (fun _ hq => List.mem_append_left _ hq)) (va_recv hK.1 hP (ci := 5) (q0 := 0) rfl rfl)) rfl rfl hl.1 rfl (lv_room (Nat.le_of_ble_eq_true rfl)) dL_refused_4 ⟨Nat.le_of_ble_eq_true rfl, Nat.le_of_ble_eq_true rfl⟩) hS hP hD hA (fun E ce q9 H locs hex hP hD hS hc9 hv9 hcl9 => ?_) (fun r u H locs hr hP hD hS => ?_)
  · skip
    have hex0 := hex
    rcases hex with hex
    · skip
      obtain rfl : E = eIA := by first | exact hex.2 | exact hex.2.2 | exact hex.2.2.2
      refine vx_catch hown [] ⟨0, 9, 12, 13⟩ [] (htab.trans rfl) (fun z hz => absurd hz List.not_mem_nil) rfl (by decide) (hts _ (List.mem_of_getElem? (i := 1) rfl)) (va_Nw.use rfl (hXW.1 _ xc_IA rfl)) hc9 hv9 hcl9 ?_
      refine lv_astore_n (lv' := [(3, .ref q9), (0, .ref ((ad 0 0))), (1, .int v), (2, .ref ao)]) hx hb dL_refused_12 rfl hl (by decide) rfl (fun ls hl => ?_)
      refine lv_iconst (v := nI 1) hx hb dL_refused_13 (by decide) ?_
      refine W.widen (k := 1) (n := 6) (Nat.le_of_ble_eq_true rfl) (Nat.le_of_ble_eq_true rfl) ?_
      exact hret (none, o, d) dL_refused_14 hP hD hS (Or.inr ⟨eIA, rfl, hex0, by decide +kernel⟩)
  · skip
    refine lv_i2l hx hb dL_refused_7 rfl ?_
    refine ll_st hx hb hK hP hD hS dL_refused_8 (fun o2 H locs ho hP hD hS => ?_)
    refine lv_goto (tgt := 15) hx hb dL_refused_9 (by decide) ?_
    refine lv_iconst (v := nI 0) hx hb dL_refused_15 (by decide) ?_
    refine W.widen (k := 1) (n := 6) (Nat.le_of_ble_eq_true rfl) (Nat.le_of_ble_eq_true rfl) ?_
    exact hret (some u, o2, d) dL_refused_16 hP hD hS (Or.inl ⟨u, r, rfl, rfl, hr, ho⟩)
