theorem va_P0 {D : va_G} {cl : List vw_C} {H : Heap} : va_P D cl [] H := fun k q h => by simp at h
set_option maxHeartbeats 4000000 in
set_option maxRecDepth 100000 in
/-- isIn(v, from, to) -/
theorem c_X6_isIn (l : Launch) (D : va_G) (cy : Nat → ClassId) (v a b : Int32) : cRO l D cy yX6_isIn wsX6_isIn rmX6_isIn [.int v, .int a, .int b] [] (pB (a ≤ v ∧ v ≤ b)) := by
  refine cRO.of (cc := cX6_isIn) (maxL := 3) (by decide) rfl (Nat.le_of_ble_eq_true rfl) (Or.inr ⟨rfl, pB.z⟩) ?_
  intro p e s m args below meth c H Q hx hb hml hown hts hP hK hret ls hl
  refine lv_iload_n hx hb dX6_isIn_0 rfl (lv_at hl 0 rfl) ?_
  refine lv_iload_n hx hb dX6_isIn_1 rfl (lv_at hl 1 rfl) ?_
  refine lv_icmp_lt (tgt := 14) hx hb dX6_isIn_2 (by decide) (fun c2 => ?_) (fun c2 => ?_)
  · skip
    refine lv_iconst (v := nI 0) hx hb dX6_isIn_14 (by decide) ?_
    exact hret dX6_isIn_15 (pB.f (fun q => by first | exact absurd q.1 (Int32.not_le.mpr c2) | exact absurd q.2 (Int32.not_le.mpr c7)))
  · skip
    refine lv_iload_n hx hb dX6_isIn_5 rfl (lv_at hl 0 rfl) ?_
    refine lv_iload_n hx hb dX6_isIn_6 rfl (lv_at hl 2 rfl) ?_
    refine lv_icmp_gt (tgt := 14) hx hb dX6_isIn_7 (by decide) (fun c7 => ?_) (fun c7 => ?_)
    · skip
      refine lv_iconst (v := nI 0) hx hb dX6_isIn_14 (by decide) ?_
      exact hret dX6_isIn_15 (pB.f (fun q => by first | exact absurd q.1 (Int32.not_le.mpr c2) | exact absurd q.2 (Int32.not_le.mpr c7)))
    · skip
      refine lv_iconst (v := nI 1) hx hb dX6_isIn_10 (by decide) ?_
      refine lv_goto (tgt := 15) hx hb dX6_isIn_11 (by decide) ?_
      exact hret dX6_isIn_15 (pB.t ⟨Int32.not_lt.mp c2, Int32.not_lt.mp c7⟩)
set_option maxHeartbeats 4000000 in
set_option maxRecDepth 100000 in
theorem c_X6_isLeg (l : Launch) (D : va_G) (cy : Nat → ClassId) (v : Int32) : cRO l D cy yX6_isLeg wsX6_isLeg rmX6_isLeg [.int v] [] (pB (nI 0 ≤ v ∧ v ≤ nI 2)) := by
  refine cRO.of (cc := cX6_isLeg) (maxL := 1) (by decide) rfl (Nat.le_of_ble_eq_true rfl) (Or.inr ⟨rfl, pB.z⟩) ?_
  intro p e s m args below meth c H Q hx hb hml hown hts hP hK hret ls hl
  have hE : va_P D vwCl [] H := va_P0
  refine lv_iload_n hx hb dX6_isLeg_0 rfl (lv_at hl 0 rfl) ?_
  refine lv_iconst (v := nI 0) hx hb dX6_isLeg_1 (by decide) ?_
  refine lv_iconst (v := nI 2) hx hb dX6_isLeg_2 (by decide) ?_
  refine ro_calliB (va_runS (As := [.int v, .int (nI 0), .int (nI 2)]) (rest := []) ⟨hx, hb, hml, hown, hts⟩ (c_X6_isIn l D cy (v) ((nI 0)) ((nI 2)) H va_P0) (va_cwS 3 hts gX6_isLeg_X6_isIn rfl rfl rfl hdX6_isIn.2 ⟨Nat.le_of_ble_eq_true rfl, Nat.le_of_ble_eq_true rfl⟩) (ro_pre hK rfl) rfl rfl hl.1 rfl (lv_room (Nat.le_of_ble_eq_true rfl)) dX6_isLeg_3 ⟨Nat.le_of_ble_eq_true rfl, Nat.le_of_ble_eq_true rfl⟩) (fun b3 => ?_) (fun b3 => ?_)
  · skip
    exact hret dX6_isLeg_6 (pB.t b3)
  · skip
    exact hret dX6_isLeg_6 (pB.f b3)
set_option maxHeartbeats 4000000 in
set_option maxRecDepth 100000 in
theorem c_X6_isSeats (l : Launch) (D : va_G) (cy : Nat → ClassId) (v : Int32) : cRO l D cy yX6_isSeats wsX6_isSeats rmX6_isSeats [.int v] [] (pB (nI 0 ≤ v ∧ v ≤ nI 10)) := by
  refine cRO.of (cc := cX6_isSeats) (maxL := 1) (by decide) rfl (Nat.le_of_ble_eq_true rfl) (Or.inr ⟨rfl, pB.z⟩) ?_
  intro p e s m args below meth c H Q hx hb hml hown hts hP hK hret ls hl
  have hE : va_P D vwCl [] H := va_P0
  refine lv_iload_n hx hb dX6_isSeats_0 rfl (lv_at hl 0 rfl) ?_
  refine lv_iconst (v := nI 0) hx hb dX6_isSeats_1 (by decide) ?_
  refine lv_bipush (v := nI 10) hx hb dX6_isSeats_2 (by decide) ?_
  refine ro_calliB (va_runS (As := [.int v, .int (nI 0), .int (nI 10)]) (rest := []) ⟨hx, hb, hml, hown, hts⟩ (c_X6_isIn l D cy (v) ((nI 0)) ((nI 10)) H va_P0) (va_cwS 3 hts gX6_isSeats_X6_isIn rfl rfl rfl hdX6_isIn.2 ⟨Nat.le_of_ble_eq_true rfl, Nat.le_of_ble_eq_true rfl⟩) (ro_pre hK rfl) rfl rfl hl.1 rfl (lv_room (Nat.le_of_ble_eq_true rfl)) dX6_isSeats_4 ⟨Nat.le_of_ble_eq_true rfl, Nat.le_of_ble_eq_true rfl⟩) (fun b4 => ?_) (fun b4 => ?_)
  · skip
    exact hret dX6_isSeats_7 (pB.t b4)
  · skip
    exact hret dX6_isSeats_7 (pB.f b4)
set_option maxHeartbeats 4000000 in
set_option maxRecDepth 100000 in
theorem c_X6_place (l : Launch) (D : va_G) (cy : Nat → ClassId) (a b g : Nat) : cRO l D cy yX6_place wsX6_place rmX6_place [.int (nI a), .int (nI b), .int (nI g)] [] (pN (12 * (12 * a + b) + g)) := by
  refine cRO.of (cc := cX6_place) (maxL := 3) (by decide) rfl (Nat.le_of_ble_eq_true rfl) (Or.inl rfl) ?_
  intro p e s m args below meth c H Q hx hb hml hown hts hP hK hret ls hl
  refine lv_bipush (v := nI 12) hx hb dX6_place_0 (by decide) ?_
  refine lv_bipush (v := nI 12) hx hb dX6_place_2 (by decide) ?_
  refine lv_iload_n hx hb dX6_place_4 rfl (lv_at hl 0 rfl) ?_
  refine ln_imul hx hb dX6_place_5 (fun z5 hz5 => ?_)
  refine lv_iload_n hx hb dX6_place_6 rfl (lv_at hl 1 rfl) ?_
  refine ln_iadd hx hb dX6_place_7 (fun z7 hz7 => ?_)
  refine ln_imul hx hb dX6_place_8 (fun z8 hz8 => ?_)
  refine lv_iload_n hx hb dX6_place_9 rfl (lv_at hl 2 rfl) ?_
  refine ln_iadd hx hb dX6_place_10 (fun z10 hz10 => ?_)
  exact hret dX6_place_11 (show nI z10 = nI (12 * (12 * a + b) + g) by rw [show z10 = 12 * (12 * a + b) + g by omega])
set_option maxHeartbeats 4000000 in
set_option maxRecDepth 100000 in
theorem c_X6_left (l : Launch) (D : va_G) (cy : Nat → ClassId) (ad : Nat → Nat) (σ : SF) (er : Int64) (wo : Nat → Nat) (th : Nat) (j : Nat) (hj : j < 3) (h1 : σ 1 j ≤ 10) (h2 : σ 2 j ≤ 600) : cRO l D cy yX6_left wsX6_left rmX6_left [.ref (ad 0), .int (nI j)] (WM ad cy σ er wo th) (pN (lft σ j)) := by
  refine cRO.of (cc := cX6_left) (maxL := 2) (by decide) rfl (Nat.le_of_ble_eq_true rfl) (Or.inl rfl) ?_
  intro p e s m args below meth c H Q hx hb hml hown hts hP hK hret ls hl
  refine lv_aload_n hx hb dX6_left_0 rfl (lv_at hl 0 rfl) ?_
  refine mg (v := .ref (ad 1)) hx hb hts fX6_left_6 hown hK hP 0 (by decide) kX6_left_1 rfl rfl dX6_left_1 ?_
  refine lv_iload_n hx hb dX6_left_4 rfl (lv_at hl 1 rfl) ?_
  refine ml1 (v := σ 1 j) hx hb hK hP (by omega) rfl dX6_left_5 ?_
  refine lv_aload_n hx hb dX6_left_6 rfl (lv_at hl 0 rfl) ?_
  refine mg (v := .ref (ad 2)) hx hb hts fX6_left_6 hown hK hP 1 (by decide) kX6_left_7 rfl rfl dX6_left_7 ?_
  refine lv_iload_n hx hb dX6_left_10 rfl (lv_at hl 1 rfl) ?_
  refine ml2 (v := σ 2 j) hx hb hK hP (by omega) rfl dX6_left_11 ?_
  refine ln_icmp_le (tgt := 31) hx hb (by omega) (by omega) dX6_left_12 (by decide) (fun c12 => ?_) (fun c12 => ?_)
  · skip
    refine lv_iconst (v := nI 0) hx hb dX6_left_31 (by decide) ?_
    exact hret dX6_left_32 (show nI 0 = nI (lft σ j) by rw [show 0 = lft σ j by unfold lft; omega])
  · skip
    refine lv_aload_n hx hb dX6_left_15 rfl (lv_at hl 0 rfl) ?_
    refine mg (v := .ref (ad 1)) hx hb hts fX6_left_6 hown hK hP 0 (by decide) kX6_left_16 rfl rfl dX6_left_16 ?_
    refine lv_iload_n hx hb dX6_left_19 rfl (lv_at hl 1 rfl) ?_
    refine ml1 (v := σ 1 j) hx hb hK hP (by omega) rfl dX6_left_20 ?_
    refine lv_aload_n hx hb dX6_left_21 rfl (lv_at hl 0 rfl) ?_
    refine mg (v := .ref (ad 2)) hx hb hts fX6_left_6 hown hK hP 1 (by decide) kX6_left_22 rfl rfl dX6_left_22 ?_
    refine lv_iload_n hx hb dX6_left_25 rfl (lv_at hl 1 rfl) ?_
    refine ml2 (v := σ 2 j) hx hb hK hP (by omega) rfl dX6_left_26 ?_
    refine ln_isub hx hb (by omega) dX6_left_27 (fun z27 hz27 => ?_)
    refine lv_goto (tgt := 32) hx hb dX6_left_28 (by decide) ?_
    exact hret dX6_left_32 (show nI z27 = nI (lft σ j) by rw [show z27 = lft σ j by unfold lft; omega])
