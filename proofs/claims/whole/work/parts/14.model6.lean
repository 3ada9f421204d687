set_option maxHeartbeats 4000000 in
set_option maxRecDepth 100000 in
theorem c_X6_thrown (l : Launch) (D : va_G) (cy : Nat → ClassId) (ad : Nat → Nat) (σ : SF) (er : Int64) (wo : Nat → Nat) (th : Nat) : cRO l D cy yX6_thrown wsX6_thrown rmX6_thrown [.ref (ad 0)] (WM ad cy σ er wo th) (pN th) := by
  refine cRO.of (cc := cX6_thrown) (maxL := 1) (by decide) rfl (Nat.le_of_ble_eq_true rfl) (Or.inl rfl) ?_
  intro p e s m args below meth c H Q hx hb hml hown hts hP hK hret ls hl
  refine lv_aload_n hx hb dX6_thrown_0 rfl (lv_at hl 0 rfl) ?_
  refine mg (v := .int (nI th)) hx hb hts fX6_thrown_6 hown hK hP 21 (by decide) kX6_thrown_1 rfl rfl dX6_thrown_1 ?_
  exact hret dX6_thrown_4 rfl
set_option maxHeartbeats 4000000 in
set_option maxRecDepth 100000 in
theorem c_X6_products (l : Launch) (D : va_G) (cy : Nat → ClassId) (ad : Nat → Nat) (σ : SF) (er : Int64) (wo : Nat → Nat) (th : Nat) : cMI l D cy yX6_products wsX6_products rmX6_products [.ref (ad 0)] (WM ad cy σ er wo th) (T := Unit) (fun _ => WM ad cy σ er wo 0) (fun r _ => r = nI (σ 0 0)) 0 0 := by
  refine cMI.of (cc := cX6_products) (maxL := 1) (by decide) rfl (Nat.le_of_ble_eq_true rfl) (Or.inl rfl) ?_
  intro p e s m args below meth c H0 A Q hx hb hml hown hts hP hK hD hS hA hret ls hl
  obtain ⟨H, locs, hH, hlo⟩ : ∃ (H : Heap) (locs : List Loc), H = H0 ∧ locs = [] := ⟨_, _, rfl, rfl⟩
  rw [← hH] at hP
  rw [show va_S A H0 H0 [] = va_S A H0 H locs by rw [hH, hlo]] at hS
  rw [show W p l e rmX6_products s m args below meth c H0 [] 0 0 Q (F0 m 0 ls []) = W p l e rmX6_products s m args below meth c H locs 0 0 Q (F0 m 0 ls []) by rw [hH, hlo]]
  refine lv_aload_n hx hb dX6_products_0 rfl (lv_at hl 0 rfl) ?_
  refine lv_aload_n hx hb dX6_products_1 rfl (lv_at hl 0 rfl) ?_
  refine mg (v := .int (nI (σ 0 0))) hx hb hts fX6_products_6 hown hK hP 2 (by decide) kX6_products_2 rfl rfl dX6_products_2 ?_
  refine mw_calli (va_runV (As := [.int (nI (σ 0 0))]) (rest := []) ⟨hx, hb, hml, hown, hts⟩ (c_X6_tells l D cy ad σ er wo th ((nI (σ 0 0))) H.size) (cwV 1 hts gX6_products_X6_tells rfl rfl rfl hdX6_tells ⟨Nat.le_of_ble_eq_true rfl, Nat.le_of_ble_eq_true rfl⟩) (mo_preV hK rfl hP hD (va_recv hK.1 hP (ci := 6) (q0 := 0) rfl rfl)) rfl rfl hl.1 rfl (lv_room (Nat.le_of_ble_eq_true rfl)) dX6_products_5 ⟨Nat.le_of_ble_eq_true rfl, Nat.le_of_ble_eq_true rfl⟩) hS hD hA (fun z5 _ H locs hz5 hP hD hS => ?_)
  exact hret () dX6_products_8 hP hD hS (by rw [hz5])
set_option maxHeartbeats 4000000 in
set_option maxRecDepth 100000 in
theorem c_X6_days (l : Launch) (D : va_G) (cy : Nat → ClassId) (ad : Nat → Nat) (σ : SF) (er : Int64) (wo : Nat → Nat) (th : Nat) : cMI l D cy yX6_days wsX6_days rmX6_days [.ref (ad 0)] (WM ad cy σ er wo th) (T := Unit) (fun _ => WM ad cy σ er wo 0) (fun r _ => r = nI (σ 0 1)) 0 0 := by
  refine cMI.of (cc := cX6_days) (maxL := 1) (by decide) rfl (Nat.le_of_ble_eq_true rfl) (Or.inl rfl) ?_
  intro p e s m args below meth c H0 A Q hx hb hml hown hts hP hK hD hS hA hret ls hl
  obtain ⟨H, locs, hH, hlo⟩ : ∃ (H : Heap) (locs : List Loc), H = H0 ∧ locs = [] := ⟨_, _, rfl, rfl⟩
  rw [← hH] at hP
  rw [show va_S A H0 H0 [] = va_S A H0 H locs by rw [hH, hlo]] at hS
  rw [show W p l e rmX6_days s m args below meth c H0 [] 0 0 Q (F0 m 0 ls []) = W p l e rmX6_days s m args below meth c H locs 0 0 Q (F0 m 0 ls []) by rw [hH, hlo]]
  refine lv_aload_n hx hb dX6_days_0 rfl (lv_at hl 0 rfl) ?_
  refine lv_aload_n hx hb dX6_days_1 rfl (lv_at hl 0 rfl) ?_
  refine mg (v := .int (nI (σ 0 1))) hx hb hts fX6_days_6 hown hK hP 10 (by decide) kX6_days_2 rfl rfl dX6_days_2 ?_
  refine mw_calli (va_runV (As := [.int (nI (σ 0 1))]) (rest := []) ⟨hx, hb, hml, hown, hts⟩ (c_X6_tells l D cy ad σ er wo th ((nI (σ 0 1))) H.size) (cwV 1 hts gX6_days_X6_tells rfl rfl rfl hdX6_tells ⟨Nat.le_of_ble_eq_true rfl, Nat.le_of_ble_eq_true rfl⟩) (mo_preV hK rfl hP hD (va_recv hK.1 hP (ci := 6) (q0 := 0) rfl rfl)) rfl rfl hl.1 rfl (lv_room (Nat.le_of_ble_eq_true rfl)) dX6_days_5 ⟨Nat.le_of_ble_eq_true rfl, Nat.le_of_ble_eq_true rfl⟩) hS hD hA (fun z5 _ H locs hz5 hP hD hS => ?_)
  exact hret () dX6_days_8 hP hD hS (by rw [hz5])
set_option maxHeartbeats 4000000 in
set_option maxRecDepth 100000 in
theorem c_X6_revenue (l : Launch) (D : va_G) (cy : Nat → ClassId) (ad : Nat → Nat) (σ : SF) (er : Int64) (wo : Nat → Nat) (th : Nat) {n : Nat} (hI : Iv n σ) : cMI l D cy yX6_revenue wsX6_revenue rmX6_revenue [.ref (ad 0)] (WM ad cy σ er wo th) (T := Unit) (fun _ => WM ad cy σ er wo 0) (fun r _ => r = nI (psum σ (σ 0 3))) 0 0 := by
  refine cMI.of (cc := cX6_revenue) (maxL := 1) (by decide) rfl (Nat.le_of_ble_eq_true rfl) (Or.inl rfl) ?_
  intro p e s m args below meth c H0 A Q hx hb hml hown hts hP hK hD hS hA hret ls hl
  obtain ⟨H, locs, hH, hlo⟩ : ∃ (H : Heap) (locs : List Loc), H = H0 ∧ locs = [] := ⟨_, _, rfl, rfl⟩
  rw [← hH] at hP
  rw [show va_S A H0 H0 [] = va_S A H0 H locs by rw [hH, hlo]] at hS
  rw [show W p l e rmX6_revenue s m args below meth c H0 [] 0 0 Q (F0 m 0 ls []) = W p l e rmX6_revenue s m args below meth c H locs 0 0 Q (F0 m 0 ls []) by rw [hH, hlo]]
  refine lv_aload_n hx hb dX6_revenue_0 rfl (lv_at hl 0 rfl) ?_
  refine lv_aload_n hx hb dX6_revenue_1 rfl (lv_at hl 0 rfl) ?_
  refine ro_calliN (va_runV (As := []) (rest := [.ref (ad 0)]) ⟨hx, hb, hml, hown, hts⟩ (c_X6_sold l D cy ad σ er wo th hI.nb (fun b hb => ⟨(hI.bo b hb).2.2.2.1, (hI.bo b hb).2.2.2.2⟩) H hP) (cwV 0 hts gX6_revenue_X6_sold rfl rfl rfl hdX6_sold ⟨Nat.le_of_ble_eq_true rfl, Nat.le_of_ble_eq_true rfl⟩) (ro_preV hK (va_recv hK.1 hP (ci := 6) (q0 := 0) rfl rfl)) rfl rfl hl.1 rfl (lv_room (Nat.le_of_ble_eq_true rfl)) dX6_revenue_2 ⟨Nat.le_of_ble_eq_true rfl, Nat.le_of_ble_eq_true rfl⟩) (fun z2 hz2 => ?_)
  refine mw_calli (va_runV (As := [.int (nI z2)]) (rest := []) ⟨hx, hb, hml, hown, hts⟩ (c_X6_tells l D cy ad σ er wo th ((nI z2)) H.size) (cwV 1 hts gX6_revenue_X6_tells rfl rfl rfl hdX6_tells ⟨Nat.le_of_ble_eq_true rfl, Nat.le_of_ble_eq_true rfl⟩) (mo_preV hK rfl hP hD (va_recv hK.1 hP (ci := 6) (q0 := 0) rfl rfl)) rfl rfl hl.1 rfl (lv_room (Nat.le_of_ble_eq_true rfl)) dX6_revenue_5 ⟨Nat.le_of_ble_eq_true rfl, Nat.le_of_ble_eq_true rfl⟩) hS hD hA (fun z5 _ H locs hz5 hP hD hS => ?_)
  exact hret () dX6_revenue_8 hP hD hS (by rw [hz5, hz2])
set_option maxHeartbeats 4000000 in
set_option maxRecDepth 100000 in
theorem c_X6_worth (l : Launch) (D : va_G) (cy : Nat → ClassId) (ad : Nat → Nat) (σ : SF) (er : Int64) (wo : Nat → Nat) (th : Nat) {n : Nat} (hI : Iv n σ) : cMI l D cy yX6_worth wsX6_worth rmX6_worth [.ref (ad 0)] (WM ad cy σ er wo th) (T := Nat → Nat) (fun u => WM ad cy σ er u 0) (fun r _ => r = nI (wM σ 0 0 0)) 0 0 := by
  refine cMI.of (cc := cX6_worth) (maxL := 1) (by decide) rfl (Nat.le_of_ble_eq_true rfl) (Or.inl rfl) ?_
  intro p e s m args below meth c H0 A Q hx hb hml hown hts hP hK hD hS hA hret ls hl
  obtain ⟨H, locs, hH, hlo⟩ : ∃ (H : Heap) (locs : List Loc), H = H0 ∧ locs = [] := ⟨_, _, rfl, rfl⟩
  rw [← hH] at hP
  rw [show va_S A H0 H0 [] = va_S A H0 H locs by rw [hH, hlo]] at hS
  rw [show W p l e rmX6_worth s m args below meth c H0 [] 0 0 Q (F0 m 0 ls []) = W p l e rmX6_worth s m args below meth c H locs 0 0 Q (F0 m 0 ls []) by rw [hH, hlo]]
  have hl0 := hI.lf 0 (by decide)
  have hl1 := hI.lf 1 (by decide)
  have hl2 := hI.lf 2 (by decide)
  refine lv_aload_n hx hb dX6_worth_0 rfl (lv_at hl 0 rfl) ?_
  refine lv_iconst (v := nI 0) hx hb dX6_worth_1 (by decide) ?_
  refine mp_thrown hx hb hts fX6_worth_6 hown hK hP hD hS kX6_worth_2 dX6_worth_2 (fun H locs hP hD hS => ?_)
  refine lv_aload_n hx hb dX6_worth_5 rfl (lv_at hl 0 rfl) ?_
  have hP : va_P D vwCl (WM ad cy σ er wo 0) H := hP
  have hD : va_D A (WM ad cy σ er wo 0) := hD
  refine mw_callv (va_runV (As := []) (rest := []) ⟨hx, hb, hml, hown, hts⟩ (c_X6_finds l D cy ad σ er wo 0 hI H.size) (cwV 0 hts gX6_worth_X6_finds rfl rfl rfl hdX6_finds ⟨Nat.le_of_ble_eq_true rfl, Nat.le_of_ble_eq_true rfl⟩) (mo_preV hK rfl hP hD (va_recv hK.1 hP (ci := 6) (q0 := 0) rfl rfl)) rfl rfl hl.1 rfl (lv_room (Nat.le_of_ble_eq_true rfl)) dX6_worth_6 ⟨Nat.le_of_ble_eq_true rfl, Nat.le_of_ble_eq_true rfl⟩) hS hD hA (fun u H locs hr6 hP hD hS => ?_)
  have hT := hr6
  refine lv_aload_n hx hb dX6_worth_9 rfl (lv_at hl 0 rfl) ?_
  refine lv_iconst (v := nI 0) hx hb dX6_worth_10 (by decide) ?_
  refine lv_iconst (v := nI 0) hx hb dX6_worth_11 (by decide) ?_
  refine lv_iconst (v := nI 0) hx hb dX6_worth_12 (by decide) ?_
  refine ro_calliN (va_runV (As := [.int (nI 0), .int (nI 0), .int (nI 0)]) (rest := []) ⟨hx, hb, hml, hown, hts⟩ (c_X6_worthOf l D cy ad σ er u 0 hI ((nI 0)) ((nI 0)) ((nI 0)) (lft σ 0 + 0) (lft σ 1 + 0) (lft σ 2 + 0) (nI_add _ _) (nI_add _ _) (nI_add _ _) (by omega) (by omega) (by omega) H hP) (cwV 3 hts gX6_worth_X6_worthOf rfl rfl rfl hdX6_worthOf ⟨Nat.le_of_ble_eq_true rfl, Nat.le_of_ble_eq_true rfl⟩) (ro_preV hK (va_recv hK.1 hP (ci := 6) (q0 := 0) rfl rfl)) rfl rfl hl.1 rfl (lv_room (Nat.le_of_ble_eq_true rfl)) dX6_worth_13 ⟨Nat.le_of_ble_eq_true rfl, Nat.le_of_ble_eq_true rfl⟩) (fun z13 hz13 => ?_)
  exact hret u dX6_worth_16 hP hD hS (by rw [hz13, hT _ _ _ (by omega) (by omega) (by omega)]; rfl)
set_option maxHeartbeats 4000000 in
set_option maxRecDepth 100000 in
theorem c_X6_worthByTable (l : Launch) (D : va_G) (cy : Nat → ClassId) (ad : Nat → Nat) (σ : SF) (er : Int64) (wo : Nat → Nat) (th : Nat) {n : Nat} (hI : Iv n σ) : cMI l D cy yX6_worthByTable wsX6_worthByTable rmX6_worthByTable [.ref (ad 0)] (WM ad cy σ er wo th) (T := Nat → Nat) (fun u => WM ad cy σ er u 0) (fun r _ => r = nI (wM σ 0 0 0)) 0 0 := by
  refine cMI.of (cc := cX6_worthByTable) (maxL := 1) (by decide) rfl (Nat.le_of_ble_eq_true rfl) (Or.inl rfl) ?_
  intro p e s m args below meth c H0 A Q hx hb hml hown hts hP hK hD hS hA hret ls hl
  obtain ⟨H, locs, hH, hlo⟩ : ∃ (H : Heap) (locs : List Loc), H = H0 ∧ locs = [] := ⟨_, _, rfl, rfl⟩
  rw [← hH] at hP
  rw [show va_S A H0 H0 [] = va_S A H0 H locs by rw [hH, hlo]] at hS
  rw [show W p l e rmX6_worthByTable s m args below meth c H0 [] 0 0 Q (F0 m 0 ls []) = W p l e rmX6_worthByTable s m args below meth c H locs 0 0 Q (F0 m 0 ls []) by rw [hH, hlo]]
  have hl0 := hI.lf 0 (by decide)
  have hl1 := hI.lf 1 (by decide)
  have hl2 := hI.lf 2 (by decide)
  refine lv_aload_n hx hb dX6_worthByTable_0 rfl (lv_at hl 0 rfl) ?_
  refine lv_iconst (v := nI 0) hx hb dX6_worthByTable_1 (by decide) ?_
  refine mp_thrown hx hb hts fX6_worthByTable_6 hown hK hP hD hS kX6_worthByTable_2 dX6_worthByTable_2 (fun H locs hP hD hS => ?_)
  refine lv_aload_n hx hb dX6_worthByTable_5 rfl (lv_at hl 0 rfl) ?_
  have hP : va_P D vwCl (WM ad cy σ er wo 0) H := hP
  have hD : va_D A (WM ad cy σ er wo 0) := hD
  refine mw_callv (va_runV (As := []) (rest := []) ⟨hx, hb, hml, hown, hts⟩ (c_X6_finds l D cy ad σ er wo 0 hI H.size) (cwV 0 hts gX6_worthByTable_X6_finds rfl rfl rfl hdX6_finds ⟨Nat.le_of_ble_eq_true rfl, Nat.le_of_ble_eq_true rfl⟩) (mo_preV hK rfl hP hD (va_recv hK.1 hP (ci := 6) (q0 := 0) rfl rfl)) rfl rfl hl.1 rfl (lv_room (Nat.le_of_ble_eq_true rfl)) dX6_worthByTable_6 ⟨Nat.le_of_ble_eq_true rfl, Nat.le_of_ble_eq_true rfl⟩) hS hD hA (fun u H locs hr6 hP hD hS => ?_)
  have hT := hr6
  refine lv_aload_n hx hb dX6_worthByTable_9 rfl (lv_at hl 0 rfl) ?_
  refine lv_iconst (v := nI 0) hx hb dX6_worthByTable_10 (by decide) ?_
  refine lv_iconst (v := nI 0) hx hb dX6_worthByTable_11 (by decide) ?_
  refine lv_iconst (v := nI 0) hx hb dX6_worthByTable_12 (by decide) ?_
  refine ro_calliN (va_runV (As := [.int (nI 0), .int (nI 0), .int (nI 0)]) (rest := []) ⟨hx, hb, hml, hown, hts⟩ (c_X6_worthOf l D cy ad σ er u 0 hI ((nI 0)) ((nI 0)) ((nI 0)) (lft σ 0 + 0) (lft σ 1 + 0) (lft σ 2 + 0) (nI_add _ _) (nI_add _ _) (nI_add _ _) (by omega) (by omega) (by omega) H hP) (cwV 3 hts gX6_worthByTable_X6_worthOf rfl rfl rfl hdX6_worthOf ⟨Nat.le_of_ble_eq_true rfl, Nat.le_of_ble_eq_true rfl⟩) (ro_preV hK (va_recv hK.1 hP (ci := 6) (q0 := 0) rfl rfl)) rfl rfl hl.1 rfl (lv_room (Nat.le_of_ble_eq_true rfl)) dX6_worthByTable_13 ⟨Nat.le_of_ble_eq_true rfl, Nat.le_of_ble_eq_true rfl⟩) (fun z13 hz13 => ?_)
  exact hret u dX6_worthByTable_16 hP hD hS (by rw [hz13, hT _ _ _ (by omega) (by omega) (by omega)]; rfl)
set_option maxHeartbeats 4000000 in
set_option maxRecDepth 100000 in
theorem c_X6_booked (l : Launch) (D : va_G) (cy : Nat → ClassId) (ad : Nat → Nat) (σ : SF) (er : Int64) (wo : Nat → Nat) (th : Nat) {n : Nat} (hI : Iv n σ) (v : Int32) : cMI l D cy yX6_booked wsX6_booked rmX6_booked [.ref (ad 0), .int v] (WM ad cy σ er wo th) (T := Nat) (fun u => WM ad cy σ er wo u) (fun r u => (okR v 0 2 ∧ u = 0 ∧ r = nI (σ 2 (cN v))) ∨ (¬ okR v 0 2 ∧ u = 1)) 0 0 := by
  refine cMI.of (cc := cX6_booked) (maxL := 2) (by decide) rfl (Nat.le_of_ble_eq_true rfl) (Or.inl rfl) ?_
  intro p e s m args below meth c H0 A Q hx hb hml hown hts hP hK hD hS hA hret ls hl
  obtain ⟨H, locs, hH, hlo⟩ : ∃ (H : Heap) (locs : List Loc), H = H0 ∧ locs = [] := ⟨_, _, rfl, rfl⟩
  rw [← hH] at hP
  rw [show va_S A H0 H0 [] = va_S A H0 H locs by rw [hH, hlo]] at hS
  rw [show W p l e rmX6_booked s m args below meth c H0 [] 0 0 Q (F0 m 0 ls []) = W p l e rmX6_booked s m args below meth c H locs 0 0 Q (F0 m 0 ls []) by rw [hH, hlo]]
  refine lv_aload_n hx hb dX6_booked_0 rfl (lv_at hl 0 rfl) ?_
  refine lv_iload_n hx hb dX6_booked_1 rfl (lv_at hl 1 rfl) ?_
  refine ro_calliB (va_runS (As := [.int v]) (rest := [.ref (ad 0)]) ⟨hx, hb, hml, hown, hts⟩ (c_X6_isLeg l D cy (v) H va_P0) (va_cwS 1 hts gX6_booked_X6_isLeg rfl rfl rfl hdX6_isLeg.2 ⟨Nat.le_of_ble_eq_true rfl, Nat.le_of_ble_eq_true rfl⟩) (ro_pre hK rfl) rfl rfl hl.1 rfl (lv_room (Nat.le_of_ble_eq_true rfl)) dX6_booked_2 ⟨Nat.le_of_ble_eq_true rfl, Nat.le_of_ble_eq_true rfl⟩) (fun b2 => ?_) (fun b2 => ?_)
  · skip
    refine lv_if_eq (tgt := 12) hx hb dX6_booked_5 (by decide) (fun q => by first | exact absurd q (by decide) | exact absurd (by decide) q) (fun _ => ?_)
    refine lv_iconst (v := nI 0) hx hb dX6_booked_8 (by decide) ?_
    refine lv_goto (tgt := 13) hx hb dX6_booked_9 (by decide) ?_
    refine mw_calli (va_runV (As := [.int (nI 0)]) (rest := []) ⟨hx, hb, hml, hown, hts⟩ (c_X6_fails l D cy ad σ er wo th 0 (by omega) H.size) (cwV 1 hts gX6_booked_X6_fails rfl rfl rfl hdX6_fails ⟨Nat.le_of_ble_eq_true rfl, Nat.le_of_ble_eq_true rfl⟩) (mo_preV hK rfl hP hD (va_recv hK.1 hP (ci := 6) (q0 := 0) rfl rfl)) rfl rfl hl.1 rfl (lv_room (Nat.le_of_ble_eq_true rfl)) dX6_booked_13 ⟨Nat.le_of_ble_eq_true rfl, Nat.le_of_ble_eq_true rfl⟩) hS hD hA (fun r _ H locs hr hP hD hS => ?_)
    rcases hr with ⟨b13, rfl⟩ | ⟨b13, rfl⟩
    · skip
      exact absurd b13 (by decide)
    · skip
      obtain ⟨j, hja, hjb, rfl⟩ := okR_nat (a := 0) (b := 2) b2 (by decide) (by decide)
      refine lv_if_eq (tgt := 23) hx hb dX6_booked_16 (by decide) (fun _ => ?_) (fun q => by first | exact absurd q (by decide) | exact absurd (by decide) q)
      refine lv_aload_n hx hb dX6_booked_23 rfl (lv_at hl 0 rfl) ?_
      refine mg (v := .ref (ad 2)) hx hb hts fX6_booked_6 hown hK hP 1 (by decide) kX6_booked_24 rfl rfl dX6_booked_24 ?_
      refine lv_iload_n hx hb dX6_booked_27 rfl (lv_at hl 1 rfl) ?_
      refine ml2 (v := σ 2 j) hx hb hK hP (by omega) rfl dX6_booked_28 ?_
      exact hret 0 dX6_booked_29 hP hD hS (Or.inl ⟨b2, rfl, by rw [cN_nI (by omega)]⟩)
  · skip
    refine lv_if_eq (tgt := 12) hx hb dX6_booked_5 (by decide) (fun _ => ?_) (fun q => by first | exact absurd q (by decide) | exact absurd (by decide) q)
    refine lv_iconst (v := nI 1) hx hb dX6_booked_12 (by decide) ?_
    refine mw_calli (va_runV (As := [.int (nI 1)]) (rest := []) ⟨hx, hb, hml, hown, hts⟩ (c_X6_fails l D cy ad σ er wo th 1 (by omega) H.size) (cwV 1 hts gX6_booked_X6_fails rfl rfl rfl hdX6_fails ⟨Nat.le_of_ble_eq_true rfl, Nat.le_of_ble_eq_true rfl⟩) (mo_preV hK rfl hP hD (va_recv hK.1 hP (ci := 6) (q0 := 0) rfl rfl)) rfl rfl hl.1 rfl (lv_room (Nat.le_of_ble_eq_true rfl)) dX6_booked_13 ⟨Nat.le_of_ble_eq_true rfl, Nat.le_of_ble_eq_true rfl⟩) hS hD hA (fun r _ H locs hr hP hD hS => ?_)
    rcases hr with ⟨b13, rfl⟩ | ⟨b13, rfl⟩
    · skip
      refine lv_if_eq (tgt := 23) hx hb dX6_booked_16 (by decide) (fun q => by first | exact absurd q (by decide) | exact absurd (by decide) q) (fun _ => ?_)
      refine lv_iconst (v := nI 0) hx hb dX6_booked_19 (by decide) ?_
      refine lv_goto (tgt := 29) hx hb dX6_booked_20 (by decide) ?_
      exact hret 1 dX6_booked_29 hP hD hS (Or.inr ⟨b2, rfl⟩)
    · skip
      exact absurd (by decide) b13
set_option maxHeartbeats 4000000 in
set_option maxRecDepth 100000 in
theorem c_X6_authorised (l : Launch) (D : va_G) (cy : Nat → ClassId) (ad : Nat → Nat) (σ : SF) (er : Int64) (wo : Nat → Nat) (th : Nat) {n : Nat} (hI : Iv n σ) (v : Int32) : cMI l D cy yX6_authorised wsX6_authorised rmX6_authorised [.ref (ad 0), .int v] (WM ad cy σ er wo th) (T := Nat) (fun u => WM ad cy σ er wo u) (fun r u => (okR v 0 2 ∧ u = 0 ∧ r = nI (aut σ (cN v))) ∨ (¬ okR v 0 2 ∧ u = 1)) 0 0 := by
  refine cMI.of (cc := cX6_authorised) (maxL := 2) (by decide) rfl (Nat.le_of_ble_eq_true rfl) (Or.inl rfl) ?_
  intro p e s m args below meth c H0 A Q hx hb hml hown hts hP hK hD hS hA hret ls hl
  obtain ⟨H, locs, hH, hlo⟩ : ∃ (H : Heap) (locs : List Loc), H = H0 ∧ locs = [] := ⟨_, _, rfl, rfl⟩
  rw [← hH] at hP
  rw [show va_S A H0 H0 [] = va_S A H0 H locs by rw [hH, hlo]] at hS
  rw [show W p l e rmX6_authorised s m args below meth c H0 [] 0 0 Q (F0 m 0 ls []) = W p l e rmX6_authorised s m args below meth c H locs 0 0 Q (F0 m 0 ls []) by rw [hH, hlo]]
  refine lv_aload_n hx hb dX6_authorised_0 rfl (lv_at hl 0 rfl) ?_
  refine lv_iload_n hx hb dX6_authorised_1 rfl (lv_at hl 1 rfl) ?_
  refine ro_calliB (va_runS (As := [.int v]) (rest := [.ref (ad 0)]) ⟨hx, hb, hml, hown, hts⟩ (c_X6_isLeg l D cy (v) H va_P0) (va_cwS 1 hts gX6_authorised_X6_isLeg rfl rfl rfl hdX6_isLeg.2 ⟨Nat.le_of_ble_eq_true rfl, Nat.le_of_ble_eq_true rfl⟩) (ro_pre hK rfl) rfl rfl hl.1 rfl (lv_room (Nat.le_of_ble_eq_true rfl)) dX6_authorised_2 ⟨Nat.le_of_ble_eq_true rfl, Nat.le_of_ble_eq_true rfl⟩) (fun b2 => ?_) (fun b2 => ?_)
  · skip
    refine lv_if_eq (tgt := 12) hx hb dX6_authorised_5 (by decide) (fun q => by first | exact absurd q (by decide) | exact absurd (by decide) q) (fun _ => ?_)
    refine lv_iconst (v := nI 0) hx hb dX6_authorised_8 (by decide) ?_
    refine lv_goto (tgt := 13) hx hb dX6_authorised_9 (by decide) ?_
    refine mw_calli (va_runV (As := [.int (nI 0)]) (rest := []) ⟨hx, hb, hml, hown, hts⟩ (c_X6_fails l D cy ad σ er wo th 0 (by omega) H.size) (cwV 1 hts gX6_authorised_X6_fails rfl rfl rfl hdX6_fails ⟨Nat.le_of_ble_eq_true rfl, Nat.le_of_ble_eq_true rfl⟩) (mo_preV hK rfl hP hD (va_recv hK.1 hP (ci := 6) (q0 := 0) rfl rfl)) rfl rfl hl.1 rfl (lv_room (Nat.le_of_ble_eq_true rfl)) dX6_authorised_13 ⟨Nat.le_of_ble_eq_true rfl, Nat.le_of_ble_eq_true rfl⟩) hS hD hA (fun r _ H locs hr hP hD hS => ?_)
    rcases hr with ⟨b13, rfl⟩ | ⟨b13, rfl⟩
    · skip
      exact absurd b13 (by decide)
    · skip
      obtain ⟨j, hja, hjb, rfl⟩ := okR_nat (a := 0) (b := 2) b2 (by decide) (by decide)
      refine lv_if_eq (tgt := 23) hx hb dX6_authorised_16 (by decide) (fun _ => ?_) (fun q => by first | exact absurd q (by decide) | exact absurd (by decide) q)
      refine lv_aload_n hx hb dX6_authorised_23 rfl (lv_at hl 0 rfl) ?_
      refine lv_iload_n hx hb dX6_authorised_24 rfl (lv_at hl 1 rfl) ?_
      refine ro_calliN (va_runV (As := [.int (nI j)]) (rest := []) ⟨hx, hb, hml, hown, hts⟩ (c_X6_authorisedOf l D cy ad σ er wo 0 j (by omega) (hI.se _ (by omega)) hI.rt.2 H hP) (cwV 1 hts gX6_authorised_X6_authorisedOf rfl rfl rfl hdX6_authorisedOf ⟨Nat.le_of_ble_eq_true rfl, Nat.le_of_ble_eq_true rfl⟩) (ro_preV hK (va_recv hK.1 hP (ci := 6) (q0 := 0) rfl rfl)) rfl rfl hl.1 rfl (lv_room (Nat.le_of_ble_eq_true rfl)) dX6_authorised_25 ⟨Nat.le_of_ble_eq_true rfl, Nat.le_of_ble_eq_true rfl⟩) (fun z25 hz25 => ?_)
      exact hret 0 dX6_authorised_28 hP hD hS (Or.inl ⟨b2, rfl, by rw [cN_nI (by omega)]; rw [hz25]⟩)
  · skip
    refine lv_if_eq (tgt := 12) hx hb dX6_authorised_5 (by decide) (fun _ => ?_) (fun q => by first | exact absurd q (by decide) | exact absurd (by decide) q)
    refine lv_iconst (v := nI 1) hx hb dX6_authorised_12 (by decide) ?_
    refine mw_calli (va_runV (As := [.int (nI 1)]) (rest := []) ⟨hx, hb, hml, hown, hts⟩ (c_X6_fails l D cy ad σ er wo th 1 (by omega) H.size) (cwV 1 hts gX6_authorised_X6_fails rfl rfl rfl hdX6_fails ⟨Nat.le_of_ble_eq_true rfl, Nat.le_of_ble_eq_true rfl⟩) (mo_preV hK rfl hP hD (va_recv hK.1 hP (ci := 6) (q0 := 0) rfl rfl)) rfl rfl hl.1 rfl (lv_room (Nat.le_of_ble_eq_true rfl)) dX6_authorised_13 ⟨Nat.le_of_ble_eq_true rfl, Nat.le_of_ble_eq_true rfl⟩) hS hD hA (fun r _ H locs hr hP hD hS => ?_)
    rcases hr with ⟨b13, rfl⟩ | ⟨b13, rfl⟩
    · skip
      refine lv_if_eq (tgt := 23) hx hb dX6_authorised_16 (by decide) (fun q => by first | exact absurd q (by decide) | exact absurd (by decide) q) (fun _ => ?_)
      refine lv_iconst (v := nI 0) hx hb dX6_authorised_19 (by decide) ?_
      refine lv_goto (tgt := 28) hx hb dX6_authorised_20 (by decide) ?_
      exact hret 1 dX6_authorised_28 hP hD hS (Or.inr ⟨b2, rfl⟩)
    · skip
      exact absurd (by decide) b13
