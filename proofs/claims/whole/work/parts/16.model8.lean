theorem ca_s {g bk : Nat → Nat} {f k n z : Nat} (hbk : bk = fun j => g j - if f ≤ j ∧ j < k then n else 0) (hz : z = bk k - n) (hf : f ≤ k) : va_up bk k z = fun j => g j - if f ≤ j ∧ j < k + 1 then n else 0 := by
  funext j
  unfold va_up
  by_cases q : j = k
  · subst q; rw [if_pos rfl, hz, hbk]; dsimp only; rw [if_neg (by omega), if_pos (by omega)]; omega
  · rw [if_neg q, hbk]; dsimp only
    by_cases q2 : f ≤ j ∧ j < k
    · rw [if_pos q2, if_pos (by omega)]
    · rw [if_neg q2, if_neg (by omega)]
theorem ca_0 {g : Nat → Nat} {f n : Nat} : g = fun j => g j - if f ≤ j ∧ j < f then n else 0 := by
  funext j; rw [if_neg (by omega)]; rfl
theorem ca_e {g bk : Nat → Nat} {f t k n : Nat} (hbk : bk = fun j => g j - if f ≤ j ∧ j < k then n else 0) (hk : k = t + 1) : bk = fun j => g j - if f ≤ j ∧ j ≤ t then n else 0 := by
  rw [hbk]; funext j; subst hk
  by_cases q : f ≤ j ∧ j ≤ t
  · rw [if_pos q, if_pos (by omega)]
  · rw [if_neg q, if_neg (by omega)]
theorem bsum_ge {σ : SF} {leg b : Nat} (hb : σ 14 b = 0) (h1 : σ 10 b ≤ leg) (h2 : leg ≤ σ 11 b) : ∀ n, b < n → σ 12 b ≤ bsum σ leg n := by
  intro n
  induction n with
  | zero => intro h; omega
  | succ n ih =>
    intro h
    unfold bsum
    rcases Nat.lt_or_eq_of_le (Nat.le_of_lt_succ h) with q | q
    · have := ih q; split <;> omega
    · subst q; rw [if_pos ⟨hb, h1, h2⟩]; omega
set_option maxHeartbeats 4000000 in
set_option maxRecDepth 100000 in
theorem c_X6_cancel (l : Launch) (D : va_G) (cy : Nat → ClassId) (ad : Nat → Nat) (σ : SF) (er : Int64) (wo : Nat → Nat) (th : Nat) {n : Nat} (hI : Iv n σ) (v : Int32) : cMI l D cy yX6_cancel wsX6_cancel rmX6_cancel [.ref (ad 0), .int v] (WM ad cy σ er wo th) (T := Nat × SF) (fun u => WM ad cy u.2 er wo u.1) (fun r u => (¬ isB σ v ∧ u = (1, σ)) ∨ (isB σ v ∧ ¬ σ 14 (cN v) = 0 ∧ u = (2, σ)) ∨ (isB σ v ∧ σ 14 (cN v) = 0 ∧ u = (0, caF σ (cN v)) ∧ r = nI (σ 12 (cN v)))) 0 0 := by
  refine cMI.of (cc := cX6_cancel) (maxL := 4) (by decide) rfl (Nat.le_of_ble_eq_true rfl) (Or.inl rfl) ?_
  intro p e s m args below meth c H0 A Q hx hb hml hown hts hP hK hD hS hA hret ls hl
  obtain ⟨H, locs, hH, hlo⟩ : ∃ (H : Heap) (locs : List Loc), H = H0 ∧ locs = [] := ⟨_, _, rfl, rfl⟩
  rw [← hH] at hP
  rw [show va_S A H0 H0 [] = va_S A H0 H locs by rw [hH, hlo]] at hS
  rw [show W p l e rmX6_cancel s m args below meth c H0 [] 0 0 Q (F0 m 0 ls []) = W p l e rmX6_cancel s m args below meth c H locs 0 0 Q (F0 m 0 ls []) by rw [hH, hlo]]
  have hnb := hI.nb
  refine lv_iload_n hx hb dX6_cancel_0 rfl (lv_at hl 1 rfl) ?_
  refine lv_iconst (v := nI 0) hx hb dX6_cancel_1 (by decide) ?_
  refine lv_aload_n hx hb dX6_cancel_2 rfl (lv_at hl 0 rfl) ?_
  refine mg (v := .int (nI (σ 0 3))) hx hb hts fX6_cancel_6 hown hK hP 12 (by decide) kX6_cancel_3 rfl rfl dX6_cancel_3 ?_
  refine lv_iconst (v := nI 1) hx hb dX6_cancel_6 (by decide) ?_
  refine lv_isub hx hb dX6_cancel_7 ?_
  refine ro_calliB (va_runS (As := [.int v, .int (nI 0), .int (nI (σ 0 3) - nI 1)]) (rest := []) ⟨hx, hb, hml, hown, hts⟩ (c_X6_isIn l D cy (v) ((nI 0)) ((nI (σ 0 3) - nI 1)) H va_P0) (va_cwS 3 hts gX6_cancel_X6_isIn rfl rfl rfl hdX6_isIn.2 ⟨Nat.le_of_ble_eq_true rfl, Nat.le_of_ble_eq_true rfl⟩) (ro_pre hK rfl) rfl rfl hl.1 rfl (lv_room (Nat.le_of_ble_eq_true rfl)) dX6_cancel_8 ⟨Nat.le_of_ble_eq_true rfl, Nat.le_of_ble_eq_true rfl⟩) (fun b8 => ?_) (fun b8 => ?_)
  · skip
    have hB := (ip_iff (by omega)).mp b8
    obtain ⟨b, hb1, rfl⟩ := hB
    have hbo := hI.bo b hb1
    refine lv_istore_n (lv' := [(2, .int (nI 1)), (0, .ref (ad 0)), (1, .int (nI b))]) hx hb dX6_cancel_11 rfl hl (by decide) rfl (fun ls hl => ?_)
    refine lv_aload_n hx hb dX6_cancel_12 rfl (lv_at hl 1 rfl) ?_
    refine lv_iload_n hx hb dX6_cancel_13 rfl (lv_at hl 0 rfl) ?_
    refine lv_if_ne (tgt := 21) hx hb dX6_cancel_14 (by decide) (fun _ => ?_) (fun q => by first | exact absurd q (by decide) | exact absurd (by decide) q)
    refine lv_aload_n hx hb dX6_cancel_21 rfl (lv_at hl 1 rfl) ?_
    refine mg (v := .ref (ad 14)) hx hb hts fX6_cancel_6 hown hK hP 17 (by decide) kX6_cancel_22 rfl rfl dX6_cancel_22 ?_
    refine lv_iload_n hx hb dX6_cancel_25 rfl (lv_at hl 2 rfl) ?_
    refine ml14 (v := σ 14 b) hx hb hK hP (by omega) rfl dX6_cancel_26 ?_
    refine ln_if_eq (tgt := 34) hx hb (by omega) dX6_cancel_27 (by decide) (fun c27 => ?_) (fun c27 => ?_)
    · skip
      refine lv_iconst (v := nI 0) hx hb dX6_cancel_34 (by decide) ?_
      refine mw_calli (va_runV (As := [.int (nI 0)]) (rest := []) ⟨hx, hb, hml, hown, hts⟩ (c_X6_fails l D cy ad σ er wo th 0 (by omega) H.size) (cwV 1 hts gX6_cancel_X6_fails rfl rfl rfl hdX6_fails ⟨Nat.le_of_ble_eq_true rfl, Nat.le_of_ble_eq_true rfl⟩) (mo_preV hK rfl hP hD (va_recv hK.1 hP (ci := 6) (q0 := 0) rfl rfl)) rfl rfl hl.1 rfl (lv_room (Nat.le_of_ble_eq_true rfl)) dX6_cancel_35 ⟨Nat.le_of_ble_eq_true rfl, Nat.le_of_ble_eq_true rfl⟩) hS hD hA (fun r _ H locs hr hP hD hS => ?_)
      rcases hr with ⟨b35, rfl⟩ | ⟨b35, rfl⟩
      · skip
        exact absurd b35 (by decide)
      · skip
        refine lv_if_eq (tgt := 43) hx hb dX6_cancel_38 (by decide) (fun _ => ?_) (fun q => by first | exact absurd q (by decide) | exact absurd (by decide) q)
        refine lv_aload_n hx hb dX6_cancel_43 rfl (lv_at hl 1 rfl) ?_
        refine mg (v := .ref (ad 14)) hx hb hts fX6_cancel_6 hown hK hP 17 (by decide) kX6_cancel_44 rfl rfl dX6_cancel_44 ?_
        refine lv_iload_n hx hb dX6_cancel_47 rfl (lv_at hl 2 rfl) ?_
        refine lv_iconst (v := nI 1) hx hb dX6_cancel_48 (by decide) ?_
        refine ms14 hx hb hK hP hD hS (by omega) (by omega) dX6_cancel_49 (fun H locs hP hD hS => ?_)
        refine lv_aload_n hx hb dX6_cancel_50 rfl (lv_at hl 1 rfl) ?_
        refine mg (v := .ref (ad 10)) hx hb hts fX6_cancel_6 hown hK hP 13 (by decide) kX6_cancel_51 rfl rfl dX6_cancel_51 ?_
        refine lv_iload_n hx hb dX6_cancel_54 rfl (lv_at hl 2 rfl) ?_
        refine ml10 (v := σ 10 b) hx hb hK hP (by omega) rfl dX6_cancel_55 ?_
        have K57 : ∀ (n57 : Nat) (k : Nat) (bk : Nat → Nat), σ 11 b + 1 - k < n57 → (bk = (fun j => σ 2 j - if σ 10 b ≤ j ∧ j < k then σ 12 b else 0)) → (σ 10 b ≤ k) → (k ≤ σ 11 b + 1) → ∀ (H : Heap) (locs : List Loc), va_P D vwCl (WM ad cy (va_up (va_up σ 2 bk) 14 (va_up (σ 14) b 1)) er wo 0) H → va_D A (WM ad cy (va_up (va_up σ 2 bk) 14 (va_up (σ 14) b 1)) er wo 0) → va_S A H0 H locs → ∀ ls : Array Slot, lv_has ls 4 [(0, .ref (ad 0)), (1, .int (nI b)), (3, .int (nI k))] → W p l e rmX6_cancel s m args below meth c H locs 0 0 Q (F0 m 57 ls []) := by
          intro n57
          induction n57 with
          | zero =>
            intro k bk hfu
            exact absurd hfu (Nat.not_lt_zero _)
          | succ n57 ih57 =>
            intro k bk hfu hbk hk1 hk2 H locs hP hD hS ls hl
            refine lv_iload_n hx hb dX6_cancel_57 rfl (lv_at hl 2 rfl) ?_
            refine lv_aload_n hx hb dX6_cancel_58 rfl (lv_at hl 0 rfl) ?_
            refine mg (v := .ref (ad 11)) hx hb hts fX6_cancel_6 hown hK hP 14 (by decide) kX6_cancel_59 rfl rfl dX6_cancel_59 ?_
            refine lv_iload_n hx hb dX6_cancel_62 rfl (lv_at hl 1 rfl) ?_
            refine ml11 (v := σ 11 b) hx hb hK hP (by omega) rfl dX6_cancel_63 ?_
            refine ln_icmp_gt (tgt := 88) hx hb (by omega) (by omega) dX6_cancel_64 (by decide) (fun c64 => ?_) (fun c64 => ?_)
            · skip
              refine lv_aload_n hx hb dX6_cancel_88 rfl (lv_at hl 0 rfl) ?_
              refine mg (v := .ref (ad 12)) hx hb hts fX6_cancel_6 hown hK hP 15 (by decide) kX6_cancel_89 rfl rfl dX6_cancel_89 ?_
              refine lv_iload_n hx hb dX6_cancel_92 rfl (lv_at hl 1 rfl) ?_
              refine ml12 (v := σ 12 b) hx hb hK hP (by omega) rfl dX6_cancel_93 ?_
              rw [ca_e (t := σ 11 b) hbk (by omega)] at hP hD
              exact hret (0, caF σ b) dX6_cancel_94 hP hD hS (Or.inr (Or.inr ⟨⟨b, hb1, rfl⟩, by rw [cN_nI (by omega)]; exact c27, by rw [cN_nI (by omega)], by rw [cN_nI (by omega)]⟩))
            · skip
              refine lv_aload_n hx hb dX6_cancel_67 rfl (lv_at hl 0 rfl) ?_
              refine mg (v := .ref (ad 2)) hx hb hts fX6_cancel_6 hown hK hP 1 (by decide) kX6_cancel_68 rfl rfl dX6_cancel_68 ?_
              refine lv_iload_n hx hb dX6_cancel_71 rfl (lv_at hl 2 rfl) ?_
              refine lv_dup2_11 hx hb dX6_cancel_72 rfl rfl ?_
              refine ml2 (v := bk k) hx hb hK hP (by omega) rfl dX6_cancel_73 ?_
              refine lv_aload_n hx hb dX6_cancel_74 rfl (lv_at hl 0 rfl) ?_
              refine mg (v := .ref (ad 12)) hx hb hts fX6_cancel_6 hown hK hP 15 (by decide) kX6_cancel_75 rfl rfl dX6_cancel_75 ?_
              refine lv_iload_n hx hb dX6_cancel_78 rfl (lv_at hl 1 rfl) ?_
              refine ml12 (v := σ 12 b) hx hb hK hP (by omega) rfl dX6_cancel_79 ?_
              have hbg := bsum_ge (leg := k) c27 (by omega) (by omega) (σ 0 3) hb1
              have hbk2 := hI.bk k (by omega)
              have hbk3 : bk k = σ 2 k := by rw [hbk]; dsimp only; rw [if_neg (by omega)]; rfl
              refine ln_isub hx hb (by omega) dX6_cancel_80 (fun z80 hz80 => ?_)
              refine ms2 hx hb hK hP hD hS (by omega) dX6_cancel_81 (fun H locs hP hD hS => ?_)
              obtain ⟨z82, hz82⟩ : ∃ z : Nat, z = k + 1 := ⟨_, rfl⟩
              refine lv_iinc (v := nI z82) (lv' := [(3, .int (nI z82)), (0, .ref (ad 0)), (1, .int (nI b))]) hx hb dX6_cancel_82 hl (k := 2) rfl (by rw [hz82]; exact nI_add _ 1) (by decide) rfl (fun ls hl => ?_)
              refine lv_goto (tgt := 57) hx hb dX6_cancel_85 (by decide) ?_
              have hP : va_P D vwCl (WM ad cy (va_up (va_up σ 2 (va_up bk k z80)) 14 (va_up (σ 14) b 1)) er wo 0) H := hP
              have hD : va_D A (WM ad cy (va_up (va_up σ 2 (va_up bk k z80)) 14 (va_up (σ 14) b 1)) er wo 0) := hD
              exact ih57 z82 (va_up bk k z80) (by omega) (by rw [hz82]; exact ca_s hbk hz80 (by omega)) (by omega) (by omega) H locs hP hD hS ls (lv_sub hl [1, 2, 0] rfl)
        refine lv_istore_n (lv' := [(3, .int (nI (σ 10 b))), (2, .int (nI 1)), (0, .ref (ad 0)), (1, .int (nI b))]) hx hb dX6_cancel_56 rfl hl (by decide) rfl (fun ls hl => ?_)
        have hP : va_P D vwCl (WM ad cy (va_up σ 14 (va_up (σ 14) b 1)) er wo 0) H := hP
        have hD : va_D A (WM ad cy (va_up σ 14 (va_up (σ 14) b 1)) er wo 0) := hD
        exact K57 _ (σ 10 b) (σ 2) (Nat.lt_succ_self _) ca_0 (by omega) (by omega) H locs hP hD hS ls (lv_sub hl [2, 3, 0] rfl)
    · skip
      refine lv_iconst (v := nI 2) hx hb dX6_cancel_30 (by decide) ?_
      refine lv_goto (tgt := 35) hx hb dX6_cancel_31 (by decide) ?_
      refine mw_calli (va_runV (As := [.int (nI 2)]) (rest := []) ⟨hx, hb, hml, hown, hts⟩ (c_X6_fails l D cy ad σ er wo th 2 (by omega) H.size) (cwV 1 hts gX6_cancel_X6_fails rfl rfl rfl hdX6_fails ⟨Nat.le_of_ble_eq_true rfl, Nat.le_of_ble_eq_true rfl⟩) (mo_preV hK rfl hP hD (va_recv hK.1 hP (ci := 6) (q0 := 0) rfl rfl)) rfl rfl hl.1 rfl (lv_room (Nat.le_of_ble_eq_true rfl)) dX6_cancel_35 ⟨Nat.le_of_ble_eq_true rfl, Nat.le_of_ble_eq_true rfl⟩) hS hD hA (fun r _ H locs hr hP hD hS => ?_)
      rcases hr with ⟨b35, rfl⟩ | ⟨b35, rfl⟩
      · skip
        refine lv_if_eq (tgt := 43) hx hb dX6_cancel_38 (by decide) (fun q => by first | exact absurd q (by decide) | exact absurd (by decide) q) (fun _ => ?_)
        refine lv_iconst (v := nI 0) hx hb dX6_cancel_41 (by decide) ?_
        exact hret (2, σ) dX6_cancel_42 hP hD hS (Or.inr (Or.inl ⟨⟨b, hb1, rfl⟩, by rw [cN_nI (by omega)]; exact c27, rfl⟩))
      · skip
        exact absurd (by decide) b35
  · skip
    have hB : ¬ isB σ v := fun q => b8 ((ip_iff (by omega)).mpr q)
    refine lv_istore_n (lv' := [(2, .int (nI 0)), (0, .ref (ad 0)), (1, .int v)]) hx hb dX6_cancel_11 rfl hl (by decide) rfl (fun ls hl => ?_)
    refine lv_aload_n hx hb dX6_cancel_12 rfl (lv_at hl 1 rfl) ?_
    refine lv_iload_n hx hb dX6_cancel_13 rfl (lv_at hl 0 rfl) ?_
    refine lv_if_ne (tgt := 21) hx hb dX6_cancel_14 (by decide) (fun q => by first | exact absurd q (by decide) | exact absurd (by decide) q) (fun _ => ?_)
    refine lv_iconst (v := nI 1) hx hb dX6_cancel_17 (by decide) ?_
    refine lv_goto (tgt := 35) hx hb dX6_cancel_18 (by decide) ?_
    refine mw_calli (va_runV (As := [.int (nI 1)]) (rest := []) ⟨hx, hb, hml, hown, hts⟩ (c_X6_fails l D cy ad σ er wo th 1 (by omega) H.size) (cwV 1 hts gX6_cancel_X6_fails rfl rfl rfl hdX6_fails ⟨Nat.le_of_ble_eq_true rfl, Nat.le_of_ble_eq_true rfl⟩) (mo_preV hK rfl hP hD (va_recv hK.1 hP (ci := 6) (q0 := 0) rfl rfl)) rfl rfl hl.1 rfl (lv_room (Nat.le_of_ble_eq_true rfl)) dX6_cancel_35 ⟨Nat.le_of_ble_eq_true rfl, Nat.le_of_ble_eq_true rfl⟩) hS hD hA (fun r _ H locs hr hP hD hS => ?_)
    rcases hr with ⟨b35, rfl⟩ | ⟨b35, rfl⟩
    · skip
      refine lv_if_eq (tgt := 43) hx hb dX6_cancel_38 (by decide) (fun q => by first | exact absurd q (by decide) | exact absurd (by decide) q) (fun _ => ?_)
      refine lv_iconst (v := nI 0) hx hb dX6_cancel_41 (by decide) ?_
      exact hret (1, σ) dX6_cancel_42 hP hD hS (Or.inl ⟨hB, rfl⟩)
    · skip
      exact absurd (by decide) b35
theorem ex_0P {P : Nat → Prop} : (0 : Nat) = 1 ↔ exP P 0 0 := ex_0
theorem ex_stepP {P : Nat → Prop} {k b b' z : Nat} (h : b = 1 ↔ exP P 0 k) (h' : b' = 1 ↔ (b = 1 ∨ P k)) (hz : z = k + 1) : b' = 1 ↔ exP P 0 z := by subst hz; exact ex_step h (Nat.zero_le _) h'
set_option maxHeartbeats 4000000 in
set_option maxRecDepth 100000 in
theorem c_X6_addProduct (l : Launch) (D : va_G) (cy : Nat → ClassId) (ad : Nat → Nat) (σ : SF) (er : Int64) (wo : Nat → Nat) (th : Nat) {n : Nat} (hI : Iv n σ) (f t q : Int32) : cMI l D cy yX6_addProduct wsX6_addProduct rmX6_addProduct [.ref (ad 0), .int f, .int t, .int q] (WM ad cy σ er wo th) (T := Nat × SF) (fun u => WM ad cy u.2 er wo u.1) (fun r u => (¬ (okR f 0 2 ∧ okR t 0 2) ∧ u = (1, σ)) ∨ ((okR f 0 2 ∧ okR t 0 2) ∧ ¬ (f ≤ t ∧ okR q 1 1000) ∧ u = (2, σ)) ∨ ((okR f 0 2 ∧ okR t 0 2) ∧ (f ≤ t ∧ okR q 1 1000) ∧ (σ 0 0 = 8 ∨ isSame σ f t q) ∧ u = (3, σ)) ∨ ((okR f 0 2 ∧ okR t 0 2) ∧ (f ≤ t ∧ okR q 1 1000) ∧ ¬ (σ 0 0 = 8 ∨ isSame σ f t q) ∧ u = (0, adF σ (cN f) (cN t) (cN q)) ∧ r = nI (σ 0 0))) 0 0 := by
  refine cMI.of (cc := cX6_addProduct) (maxL := 8) (by decide) rfl (Nat.le_of_ble_eq_true rfl) (Or.inl rfl) ?_
  intro p e s m args below meth c H0 A Q hx hb hml hown hts hP hK hD hS hA hret ls hl
  obtain ⟨H, locs, hH, hlo⟩ : ∃ (H : Heap) (locs : List Loc), H = H0 ∧ locs = [] := ⟨_, _, rfl, rfl⟩
  rw [← hH] at hP
  rw [show va_S A H0 H0 [] = va_S A H0 H locs by rw [hH, hlo]] at hS
  rw [show W p l e rmX6_addProduct s m args below meth c H0 [] 0 0 Q (F0 m 0 ls []) = W p l e rmX6_addProduct s m args below meth c H locs 0 0 Q (F0 m 0 ls []) by rw [hH, hlo]]
  have K19 : ∀ (v : Nat), (pV v (okR f 0 2 ∧ okR t 0 2)) → ∀ (H : Heap) (locs : List Loc), va_P D vwCl (WM ad cy σ er wo th) H → va_D A (WM ad cy σ er wo th) → va_S A H0 H locs → ∀ ls : Array Slot, lv_has ls 8 [(0, .ref (ad 0)), (1, .int f), (2, .int t), (3, .int q)] → W p l e rmX6_addProduct s m args below meth c H locs 0 0 Q (F0 m 19 ls [.int (nI v)]) := by
    intro v hv H locs hP hD hS ls hl
    have hvl := hv.le
    refine lv_istore (lv' := [(4, .int (nI v)), (0, .ref (ad 0)), (1, .int f), (2, .int t), (3, .int q)]) hx hb dX6_addProduct_19 hl (by decide) rfl (fun ls hl => ?_)
    have K42 : ∀ (v2 : Nat), (pV v2 (f ≤ t ∧ okR q 1 1000)) → ∀ (H : Heap) (locs : List Loc), va_P D vwCl (WM ad cy σ er wo th) H → va_D A (WM ad cy σ er wo th) → va_S A H0 H locs → ∀ ls : Array Slot, lv_has ls 8 [(0, .ref (ad 0)), (1, .int f), (2, .int t), (3, .int q), (4, .int (nI v))] → W p l e rmX6_addProduct s m args below meth c H locs 0 0 Q (F0 m 42 ls [.int (nI v2)]) := by
      intro v2 hv2 H locs hP hD hS ls hl
      have hvl2 := hv2.le
      refine lv_istore (lv' := [(5, .int (nI v2)), (0, .ref (ad 0)), (1, .int f), (2, .int t), (3, .int q), (4, .int (nI v))]) hx hb dX6_addProduct_42 hl (by decide) rfl (fun ls hl => ?_)
      refine lv_iconst (v := nI 0) hx hb dX6_addProduct_44 (by decide) ?_
      refine lv_istore (lv' := [(6, .int (nI 0)), (5, .int (nI v2)), (0, .ref (ad 0)), (1, .int f), (2, .int t), (3, .int q), (4, .int (nI v))]) hx hb dX6_addProduct_45 hl (by decide) rfl (fun ls hl => ?_)
      refine lv_iconst (v := nI 0) hx hb dX6_addProduct_47 (by decide) ?_
      have K50 : ∀ (n50 : Nat) (b : Nat) (k : Nat), σ 0 0 - k < n50 → (b ≤ 1) → ((b = 1 ↔ exP (fun j => nI (σ 3 j) = f ∧ nI (σ 4 j) = t ∧ nI (σ 5 j) = q) 0 k)) → (k ≤ σ 0 0) → ∀ (H : Heap) (locs : List Loc), va_P D vwCl (WM ad cy σ er wo th) H → va_D A (WM ad cy σ er wo th) → va_S A H0 H locs → ∀ ls : Array Slot, lv_has ls 8 [(0, .ref (ad 0)), (1, .int f), (2, .int t), (3, .int q), (4, .int (nI v)), (5, .int (nI v2)), (6, .int (nI b)), (7, .int (nI k))] → W p l e rmX6_addProduct s m args below meth c H locs 0 0 Q (F0 m 50 ls []) := by
        intro n50
        induction n50 with
        | zero =>
          intro b k hfu
          exact absurd hfu (Nat.not_lt_zero _)
        | succ n50 ih50 =>
          intro b k hfu hb1 hbx hk H locs hP hD hS ls hl
          have hnp := hI.np
          refine lv_iload hx hb dX6_addProduct_50 (lv_at hl 7 rfl) ?_
          refine lv_aload_n hx hb dX6_addProduct_52 rfl (lv_at hl 0 rfl) ?_
          refine mg (v := .int (nI (σ 0 0))) hx hb hts fX6_addProduct_6 hown hK hP 2 (by decide) kX6_addProduct_53 rfl rfl dX6_addProduct_53 ?_
          refine ln_icmp_ge (tgt := 110) hx hb (by omega) (by omega) dX6_addProduct_56 (by decide) (fun c56 => ?_) (fun c56 => ?_)
          · skip
            have hkn : k = σ 0 0 := by omega
            rw [hkn] at hbx
            have hsame : b = 1 ↔ isSame σ f t q := ⟨fun z => by obtain ⟨j, h1, h2, h3⟩ := hbx.mp z; exact ⟨j, h2, h3⟩, fun ⟨j, h1, h2⟩ => hbx.mpr ⟨j, Nat.zero_le _, h1, h2⟩⟩
            refine lv_aload_n hx hb dX6_addProduct_110 rfl (lv_at hl 0 rfl) ?_
            refine lv_iload hx hb dX6_addProduct_111 (lv_at hl 4 rfl) ?_
            refine ln_if_ne (tgt := 120) hx hb (by omega) dX6_addProduct_113 (by decide) (fun c113 => ?_) (fun c113 => ?_)
            · skip
              have hL := hv.yes c113
              refine lv_iload hx hb dX6_addProduct_120 (lv_at hl 5 rfl) ?_
              refine ln_if_ne (tgt := 129) hx hb (by omega) dX6_addProduct_122 (by decide) (fun c122 => ?_) (fun c122 => ?_)
              · skip
                have hR := hv2.yes c122
                refine lv_aload_n hx hb dX6_addProduct_129 rfl (lv_at hl 0 rfl) ?_
                refine mg (v := .int (nI (σ 0 0))) hx hb hts fX6_addProduct_6 hown hK hP 2 (by decide) kX6_addProduct_130 rfl rfl dX6_addProduct_130 ?_
                refine lv_bipush (v := nI 8) hx hb dX6_addProduct_133 (by decide) ?_
                refine ln_icmp_eq (tgt := 143) hx hb (by omega) (by omega) dX6_addProduct_135 (by decide) (fun c135 => ?_) (fun c135 => ?_)
                · skip
                  refine lv_iconst (v := nI 3) hx hb dX6_addProduct_143 (by decide) ?_
                  refine lv_goto (tgt := 148) hx hb dX6_addProduct_144 (by decide) ?_
                  refine mw_calli (va_runV (As := [.int (nI 3)]) (rest := []) ⟨hx, hb, hml, hown, hts⟩ (c_X6_fails l D cy ad σ er wo th 3 (by omega) H.size) (cwV 1 hts gX6_addProduct_X6_fails rfl rfl rfl hdX6_fails ⟨Nat.le_of_ble_eq_true rfl, Nat.le_of_ble_eq_true rfl⟩) (mo_preV hK rfl hP hD (va_recv hK.1 hP (ci := 6) (q0 := 0) rfl rfl)) rfl rfl hl.1 rfl (lv_room (Nat.le_of_ble_eq_true rfl)) dX6_addProduct_148 ⟨Nat.le_of_ble_eq_true rfl, Nat.le_of_ble_eq_true rfl⟩) hS hD hA (fun r _ H locs hr hP hD hS => ?_)
                  rcases hr with ⟨b148, rfl⟩ | ⟨b148, rfl⟩
                  · skip
                    refine lv_if_eq (tgt := 156) hx hb dX6_addProduct_151 (by decide) (fun q => by first | exact absurd q (by decide) | exact absurd (by decide) q) (fun _ => ?_)
                    refine lv_iconst (v := nI 0) hx hb dX6_addProduct_154 (by decide) ?_
                    exact hret (3, σ) dX6_addProduct_155 hP hD hS (Or.inr (Or.inr (Or.inl ⟨hL, hR, by first | exact Or.inl (by omega) | exact Or.inr (hsame.mp (by omega)), rfl⟩)))
                  · skip
                    exact absurd (by decide) b148
                · skip
                  refine lv_iload hx hb dX6_addProduct_138 (lv_at hl 6 rfl) ?_
                  refine ln_if_eq (tgt := 147) hx hb (by omega) dX6_addProduct_140 (by decide) (fun c140 => ?_) (fun c140 => ?_)
                  · skip
                    refine lv_iconst (v := nI 0) hx hb dX6_addProduct_147 (by decide) ?_
                    refine mw_calli (va_runV (As := [.int (nI 0)]) (rest := []) ⟨hx, hb, hml, hown, hts⟩ (c_X6_fails l D cy ad σ er wo th 0 (by omega) H.size) (cwV 1 hts gX6_addProduct_X6_fails rfl rfl rfl hdX6_fails ⟨Nat.le_of_ble_eq_true rfl, Nat.le_of_ble_eq_true rfl⟩) (mo_preV hK rfl hP hD (va_recv hK.1 hP (ci := 6) (q0 := 0) rfl rfl)) rfl rfl hl.1 rfl (lv_room (Nat.le_of_ble_eq_true rfl)) dX6_addProduct_148 ⟨Nat.le_of_ble_eq_true rfl, Nat.le_of_ble_eq_true rfl⟩) hS hD hA (fun r _ H locs hr hP hD hS => ?_)
                    rcases hr with ⟨b148, rfl⟩ | ⟨b148, rfl⟩
                    · skip
                      exact absurd b148 (by decide)
                    · skip
                      have hNS : ¬ (σ 0 0 = 8 ∨ isSame σ f t q) := fun z => z.elim (fun z => by omega) (fun z => absurd (hsame.mpr z) (by omega))
                      have hL1 := hL.1
                      have hL2 := hL.2
                      have hR2 := hR.2
                      obtain ⟨f1, hf1a, hf1b, rfl⟩ := okR_nat (a := 0) (b := 2) hL1 (by decide) (by decide)
                      obtain ⟨t1, ht1a, ht1b, rfl⟩ := okR_nat (a := 0) (b := 2) hL2 (by decide) (by decide)
                      obtain ⟨q1, hq1a, hq1b, rfl⟩ := okR_nat (a := 1) (b := 1000) hR2 (by decide) (by decide)
                      have hnp := hI.np
                      refine lv_if_eq (tgt := 156) hx hb dX6_addProduct_151 (by decide) (fun _ => ?_) (fun q => by first | exact absurd q (by decide) | exact absurd (by decide) q)
                      refine lv_aload_n hx hb dX6_addProduct_156 rfl (lv_at hl 0 rfl) ?_
                      refine mg (v := .ref (ad 3)) hx hb hts fX6_addProduct_6 hown hK hP 3 (by decide) kX6_addProduct_157 rfl rfl dX6_addProduct_157 ?_
                      refine lv_aload_n hx hb dX6_addProduct_160 rfl (lv_at hl 0 rfl) ?_
                      refine mg (v := .int (nI (σ 0 0))) hx hb hts fX6_addProduct_6 hown hK hP 2 (by decide) kX6_addProduct_161 rfl rfl dX6_addProduct_161 ?_
                      refine lv_iload_n hx hb dX6_addProduct_164 rfl (lv_at hl 1 rfl) ?_
                      refine ms3 hx hb hK hP hD hS (by omega) dX6_addProduct_165 (fun H locs hP hD hS => ?_)
                      refine lv_aload_n hx hb dX6_addProduct_166 rfl (lv_at hl 0 rfl) ?_
                      refine mg (v := .ref (ad 4)) hx hb hts fX6_addProduct_6 hown hK hP 4 (by decide) kX6_addProduct_167 rfl rfl dX6_addProduct_167 ?_
                      refine lv_aload_n hx hb dX6_addProduct_170 rfl (lv_at hl 0 rfl) ?_
                      refine mg (v := .int (nI (σ 0 0))) hx hb hts fX6_addProduct_6 hown hK hP 2 (by decide) kX6_addProduct_171 rfl rfl dX6_addProduct_171 ?_
                      refine lv_iload_n hx hb dX6_addProduct_174 rfl (lv_at hl 2 rfl) ?_
                      refine ms4 hx hb hK hP hD hS (by omega) dX6_addProduct_175 (fun H locs hP hD hS => ?_)
                      refine lv_aload_n hx hb dX6_addProduct_176 rfl (lv_at hl 0 rfl) ?_
                      refine mg (v := .ref (ad 5)) hx hb hts fX6_addProduct_6 hown hK hP 5 (by decide) kX6_addProduct_177 rfl rfl dX6_addProduct_177 ?_
                      refine lv_aload_n hx hb dX6_addProduct_180 rfl (lv_at hl 0 rfl) ?_
                      refine mg (v := .int (nI (σ 0 0))) hx hb hts fX6_addProduct_6 hown hK hP 2 (by decide) kX6_addProduct_181 rfl rfl dX6_addProduct_181 ?_
                      refine lv_iload_n hx hb dX6_addProduct_184 rfl (lv_at hl 3 rfl) ?_
                      refine ms5 hx hb hK hP hD hS (by omega) dX6_addProduct_185 (fun H locs hP hD hS => ?_)
                      refine lv_aload_n hx hb dX6_addProduct_186 rfl (lv_at hl 0 rfl) ?_
                      refine mg (v := .ref (ad 9)) hx hb hts fX6_addProduct_6 hown hK hP 9 (by decide) kX6_addProduct_187 rfl rfl dX6_addProduct_187 ?_
                      refine lv_bipush (v := nI 21) hx hb dX6_addProduct_190 (by decide) ?_
                      refine lv_aload_n hx hb dX6_addProduct_192 rfl (lv_at hl 0 rfl) ?_
                      refine mg (v := .int (nI (σ 0 0))) hx hb hts fX6_addProduct_6 hown hK hP 2 (by decide) kX6_addProduct_193 rfl rfl dX6_addProduct_193 ?_
                      refine ln_imul hx hb dX6_addProduct_196 (fun z196 hz196 => ?_)
                      refine lv_aload_n hx hb dX6_addProduct_197 rfl (lv_at hl 0 rfl) ?_
                      refine mg (v := .int (nI (σ 0 1))) hx hb hts fX6_addProduct_6 hown hK hP 10 (by decide) kX6_addProduct_198 rfl rfl dX6_addProduct_198 ?_
                      refine ms9 hx hb hK hP hD hS (by omega) dX6_addProduct_201 (fun H locs hP hD hS => ?_)
                      refine lv_aload_n hx hb dX6_addProduct_202 rfl (lv_at hl 0 rfl) ?_
                      refine lv_dup hx hb dX6_addProduct_203 rfl ?_
                      refine mg (v := .int (nI (σ 0 0))) hx hb hts fX6_addProduct_6 hown hK hP 2 (by decide) kX6_addProduct_204 rfl rfl dX6_addProduct_204 ?_
                      refine lv_iconst (v := nI 1) hx hb dX6_addProduct_207 (by decide) ?_
                      refine ln_iadd hx hb dX6_addProduct_208 (fun z208 hz208 => ?_)
                      refine mp_products hx hb hts fX6_addProduct_6 hown hK hP hD hS kX6_addProduct_209 dX6_addProduct_209 (fun H locs hP hD hS => ?_)
                      refine lv_aload_n hx hb dX6_addProduct_212 rfl (lv_at hl 0 rfl) ?_
                      refine mg (v := .int (nI z208)) hx hb hts fX6_addProduct_6 hown hK hP 2 (by decide) kX6_addProduct_213 rfl rfl dX6_addProduct_213 ?_
                      refine lv_iconst (v := nI 1) hx hb dX6_addProduct_216 (by decide) ?_
                      refine ln_isub hx hb (by omega) dX6_addProduct_217 (fun z217 hz217 => ?_)
                      have hP : va_P D vwCl (WM ad cy (va_up (va_up (va_up (va_up (va_up σ 0 (va_up (σ 0) 0 z208)) 3 (va_up (σ 3) (σ 0 0) f1)) 4 (va_up (σ 4) (σ 0 0) t1)) 5 (va_up (σ 5) (σ 0 0) q1)) 9 (va_up (σ 9) z196 (σ 0 1))) er wo 0) H := hP
                      have hD : va_D A (WM ad cy (va_up (va_up (va_up (va_up (va_up σ 0 (va_up (σ 0) 0 z208)) 3 (va_up (σ 3) (σ 0 0) f1)) 4 (va_up (σ 4) (σ 0 0) t1)) 5 (va_up (σ 5) (σ 0 0) q1)) 9 (va_up (σ 9) z196 (σ 0 1))) er wo 0) := hD
                      rw [hz196, hz208] at hP hD
                      exact hret (0, adF σ f1 t1 q1) dX6_addProduct_218 hP hD hS (Or.inr (Or.inr (Or.inr ⟨hL, hR, hNS, by rw [cN_nI (by omega), cN_nI (by omega), cN_nI (by omega)], by rw [show z217 = σ 0 0 by omega]⟩)))
                  · skip
                    refine lv_iconst (v := nI 3) hx hb dX6_addProduct_143 (by decide) ?_
                    refine lv_goto (tgt := 148) hx hb dX6_addProduct_144 (by decide) ?_
                    refine mw_calli (va_runV (As := [.int (nI 3)]) (rest := []) ⟨hx, hb, hml, hown, hts⟩ (c_X6_fails l D cy ad σ er wo th 3 (by omega) H.size) (cwV 1 hts gX6_addProduct_X6_fails rfl rfl rfl hdX6_fails ⟨Nat.le_of_ble_eq_true rfl, Nat.le_of_ble_eq_true rfl⟩) (mo_preV hK rfl hP hD (va_recv hK.1 hP (ci := 6) (q0 := 0) rfl rfl)) rfl rfl hl.1 rfl (lv_room (Nat.le_of_ble_eq_true rfl)) dX6_addProduct_148 ⟨Nat.le_of_ble_eq_true rfl, Nat.le_of_ble_eq_true rfl⟩) hS hD hA (fun r _ H locs hr hP hD hS => ?_)
                    rcases hr with ⟨b148, rfl⟩ | ⟨b148, rfl⟩
                    · skip
                      refine lv_if_eq (tgt := 156) hx hb dX6_addProduct_151 (by decide) (fun q => by first | exact absurd q (by decide) | exact absurd (by decide) q) (fun _ => ?_)
                      refine lv_iconst (v := nI 0) hx hb dX6_addProduct_154 (by decide) ?_
                      exact hret (3, σ) dX6_addProduct_155 hP hD hS (Or.inr (Or.inr (Or.inl ⟨hL, hR, by first | exact Or.inl (by omega) | exact Or.inr (hsame.mp (by omega)), rfl⟩)))
                    · skip
                      exact absurd (by decide) b148
              · skip
                have hR := hv2.no c122
                refine lv_iconst (v := nI 2) hx hb dX6_addProduct_125 (by decide) ?_
                refine lv_goto (tgt := 148) hx hb dX6_addProduct_126 (by decide) ?_
                refine mw_calli (va_runV (As := [.int (nI 2)]) (rest := []) ⟨hx, hb, hml, hown, hts⟩ (c_X6_fails l D cy ad σ er wo th 2 (by omega) H.size) (cwV 1 hts gX6_addProduct_X6_fails rfl rfl rfl hdX6_fails ⟨Nat.le_of_ble_eq_true rfl, Nat.le_of_ble_eq_true rfl⟩) (mo_preV hK rfl hP hD (va_recv hK.1 hP (ci := 6) (q0 := 0) rfl rfl)) rfl rfl hl.1 rfl (lv_room (Nat.le_of_ble_eq_true rfl)) dX6_addProduct_148 ⟨Nat.le_of_ble_eq_true rfl, Nat.le_of_ble_eq_true rfl⟩) hS hD hA (fun r _ H locs hr hP hD hS => ?_)
                rcases hr with ⟨b148, rfl⟩ | ⟨b148, rfl⟩
                · skip
                  refine lv_if_eq (tgt := 156) hx hb dX6_addProduct_151 (by decide) (fun q => by first | exact absurd q (by decide) | exact absurd (by decide) q) (fun _ => ?_)
                  refine lv_iconst (v := nI 0) hx hb dX6_addProduct_154 (by decide) ?_
                  exact hret (2, σ) dX6_addProduct_155 hP hD hS (Or.inr (Or.inl ⟨hL, hR, rfl⟩))
                · skip
                  exact absurd (by decide) b148
            · skip
              have hL := hv.no c113
              refine lv_iconst (v := nI 1) hx hb dX6_addProduct_116 (by decide) ?_
              refine lv_goto (tgt := 148) hx hb dX6_addProduct_117 (by decide) ?_
              refine mw_calli (va_runV (As := [.int (nI 1)]) (rest := []) ⟨hx, hb, hml, hown, hts⟩ (c_X6_fails l D cy ad σ er wo th 1 (by omega) H.size) (cwV 1 hts gX6_addProduct_X6_fails rfl rfl rfl hdX6_fails ⟨Nat.le_of_ble_eq_true rfl, Nat.le_of_ble_eq_true rfl⟩) (mo_preV hK rfl hP hD (va_recv hK.1 hP (ci := 6) (q0 := 0) rfl rfl)) rfl rfl hl.1 rfl (lv_room (Nat.le_of_ble_eq_true rfl)) dX6_addProduct_148 ⟨Nat.le_of_ble_eq_true rfl, Nat.le_of_ble_eq_true rfl⟩) hS hD hA (fun r _ H locs hr hP hD hS => ?_)
              rcases hr with ⟨b148, rfl⟩ | ⟨b148, rfl⟩
              · skip
                refine lv_if_eq (tgt := 156) hx hb dX6_addProduct_151 (by decide) (fun q => by first | exact absurd q (by decide) | exact absurd (by decide) q) (fun _ => ?_)
                refine lv_iconst (v := nI 0) hx hb dX6_addProduct_154 (by decide) ?_
                exact hret (1, σ) dX6_addProduct_155 hP hD hS (Or.inl ⟨hL, rfl⟩)
              · skip
                exact absurd (by decide) b148
          · skip
            have hpk := hI.pr k c56
            have K102 : ∀ (v8 : Nat), (v8 ≤ 1) → ((v8 = 1 ↔ (b = 1 ∨ (fun j => nI (σ 3 j) = f ∧ nI (σ 4 j) = t ∧ nI (σ 5 j) = q) k))) → ∀ (H : Heap) (locs : List Loc), va_P D vwCl (WM ad cy σ er wo th) H → va_D A (WM ad cy σ er wo th) → va_S A H0 H locs → ∀ ls : Array Slot, lv_has ls 8 [(0, .ref (ad 0)), (1, .int f), (2, .int t), (3, .int q), (4, .int (nI v)), (5, .int (nI v2)), (6, .int (nI b)), (7, .int (nI k))] → W p l e rmX6_addProduct s m args below meth c H locs 0 0 Q (F0 m 102 ls [.int (nI v8)]) := by
              intro v8 hv88 hv8 H locs hP hD hS ls hl
              refine lv_istore (lv' := [(6, .int (nI v8)), (0, .ref (ad 0)), (1, .int f), (2, .int t), (3, .int q), (4, .int (nI v)), (5, .int (nI v2)), (7, .int (nI k))]) hx hb dX6_addProduct_102 hl (by decide) rfl (fun ls hl => ?_)
              obtain ⟨z104, hz104⟩ : ∃ z : Nat, z = k + 1 := ⟨_, rfl⟩
              refine lv_iinc (v := nI z104) (lv' := [(7, .int (nI z104)), (6, .int (nI v8)), (0, .ref (ad 0)), (1, .int f), (2, .int t), (3, .int q), (4, .int (nI v)), (5, .int (nI v2))]) hx hb dX6_addProduct_104 hl (k := 7) rfl (by rw [hz104]; exact nI_add _ 1) (by decide) rfl (fun ls hl => ?_)
              refine lv_goto (tgt := 50) hx hb dX6_addProduct_107 (by decide) ?_
              exact ih50 v8 z104 (by omega) (by omega) (ex_stepP hbx hv8 hz104) (by omega) H locs hP hD hS ls (lv_sub hl [2, 3, 4, 5, 6, 7, 1, 0] rfl)
            refine lv_iload hx hb dX6_addProduct_59 (lv_at hl 6 rfl) ?_
            refine ln_if_ne (tgt := 97) hx hb (by omega) dX6_addProduct_61 (by decide) (fun c61 => ?_) (fun c61 => ?_)
            · skip
              refine lv_iconst (v := nI 1) hx hb dX6_addProduct_97 (by decide) ?_
              refine lv_goto (tgt := 102) hx hb dX6_addProduct_98 (by decide) ?_
              exact K102 1 (by omega) (by first | exact ⟨fun _ => Or.inl (by omega), fun _ => rfl⟩ | exact ⟨fun _ => Or.inr ⟨c72, c83, c94⟩, fun _ => rfl⟩) H locs hP hD hS ls (lv_sub hl [0, 1, 2, 3, 4, 5, 6, 7] rfl)
            · skip
              refine lv_aload_n hx hb dX6_addProduct_64 rfl (lv_at hl 0 rfl) ?_
              refine mg (v := .ref (ad 3)) hx hb hts fX6_addProduct_6 hown hK hP 3 (by decide) kX6_addProduct_65 rfl rfl dX6_addProduct_65 ?_
              refine lv_iload hx hb dX6_addProduct_68 (lv_at hl 7 rfl) ?_
              refine ml3 (v := σ 3 k) hx hb hK hP (by omega) rfl dX6_addProduct_70 ?_
              refine lv_iload_n hx hb dX6_addProduct_71 rfl (lv_at hl 1 rfl) ?_
              refine lv_icmp_ne (tgt := 101) hx hb dX6_addProduct_72 (by decide) (fun c72 => ?_) (fun c72 => ?_)
              · skip
                refine lv_iconst (v := nI 0) hx hb dX6_addProduct_101 (by decide) ?_
                exact K102 0 (by omega) (⟨fun z => absurd z (by decide), fun z => z.elim (fun z => absurd z (by omega)) (fun z => by first | exact absurd z.1 c72 | exact absurd z.2.1 c83 | exact absurd z.2.2 c94)⟩) H locs hP hD hS ls (lv_sub hl [0, 1, 2, 3, 4, 5, 6, 7] rfl)
              · skip
                refine lv_aload_n hx hb dX6_addProduct_75 rfl (lv_at hl 0 rfl) ?_
                refine mg (v := .ref (ad 4)) hx hb hts fX6_addProduct_6 hown hK hP 4 (by decide) kX6_addProduct_76 rfl rfl dX6_addProduct_76 ?_
                refine lv_iload hx hb dX6_addProduct_79 (lv_at hl 7 rfl) ?_
                refine ml4 (v := σ 4 k) hx hb hK hP (by omega) rfl dX6_addProduct_81 ?_
                refine lv_iload_n hx hb dX6_addProduct_82 rfl (lv_at hl 2 rfl) ?_
                refine lv_icmp_ne (tgt := 101) hx hb dX6_addProduct_83 (by decide) (fun c83 => ?_) (fun c83 => ?_)
                · skip
                  refine lv_iconst (v := nI 0) hx hb dX6_addProduct_101 (by decide) ?_
                  exact K102 0 (by omega) (⟨fun z => absurd z (by decide), fun z => z.elim (fun z => absurd z (by omega)) (fun z => by first | exact absurd z.1 c72 | exact absurd z.2.1 c83 | exact absurd z.2.2 c94)⟩) H locs hP hD hS ls (lv_sub hl [0, 1, 2, 3, 4, 5, 6, 7] rfl)
                · skip
                  refine lv_aload_n hx hb dX6_addProduct_86 rfl (lv_at hl 0 rfl) ?_
                  refine mg (v := .ref (ad 5)) hx hb hts fX6_addProduct_6 hown hK hP 5 (by decide) kX6_addProduct_87 rfl rfl dX6_addProduct_87 ?_
                  refine lv_iload hx hb dX6_addProduct_90 (lv_at hl 7 rfl) ?_
                  refine ml5 (v := σ 5 k) hx hb hK hP (by omega) rfl dX6_addProduct_92 ?_
                  refine lv_iload_n hx hb dX6_addProduct_93 rfl (lv_at hl 3 rfl) ?_
                  refine lv_icmp_ne (tgt := 101) hx hb dX6_addProduct_94 (by decide) (fun c94 => ?_) (fun c94 => ?_)
                  · skip
                    refine lv_iconst (v := nI 0) hx hb dX6_addProduct_101 (by decide) ?_
                    exact K102 0 (by omega) (⟨fun z => absurd z (by decide), fun z => z.elim (fun z => absurd z (by omega)) (fun z => by first | exact absurd z.1 c72 | exact absurd z.2.1 c83 | exact absurd z.2.2 c94)⟩) H locs hP hD hS ls (lv_sub hl [0, 1, 2, 3, 4, 5, 6, 7] rfl)
                  · skip
                    refine lv_iconst (v := nI 1) hx hb dX6_addProduct_97 (by decide) ?_
                    refine lv_goto (tgt := 102) hx hb dX6_addProduct_98 (by decide) ?_
                    exact K102 1 (by omega) (by first | exact ⟨fun _ => Or.inl (by omega), fun _ => rfl⟩ | exact ⟨fun _ => Or.inr ⟨c72, c83, c94⟩, fun _ => rfl⟩) H locs hP hD hS ls (lv_sub hl [0, 1, 2, 3, 4, 5, 6, 7] rfl)
      refine lv_istore (lv' := [(7, .int (nI 0)), (6, .int (nI 0)), (5, .int (nI v2)), (0, .ref (ad 0)), (1, .int f), (2, .int t), (3, .int q), (4, .int (nI v))]) hx hb dX6_addProduct_48 hl (by decide) rfl (fun ls hl => ?_)
      exact K50 _ 0 0 (Nat.lt_succ_self _) (by omega) ex_0P (by omega) H locs hP hD hS ls (lv_sub hl [3, 4, 5, 6, 7, 2, 1, 0] rfl)
    refine lv_iload_n hx hb dX6_addProduct_21 rfl (lv_at hl 3 rfl) ?_
    refine lv_iload_n hx hb dX6_addProduct_22 rfl (lv_at hl 2 rfl) ?_
    refine lv_icmp_lt (tgt := 41) hx hb dX6_addProduct_23 (by decide) (fun c23 => ?_) (fun c23 => ?_)
    · skip
      refine lv_iconst (v := nI 0) hx hb dX6_addProduct_41 (by decide) ?_
      exact K42 0 (pV.f (fun z => by first | exact absurd z.1 (Int32.not_le.mpr c23) | exact b31 z.2)) H locs hP hD hS ls (lv_sub hl [1, 2, 3, 4, 0] rfl)
    · skip
      refine lv_iload_n hx hb dX6_addProduct_26 rfl (lv_at hl 4 rfl) ?_
      refine lv_iconst (v := nI 1) hx hb dX6_addProduct_27 (by decide) ?_
      refine lv_sipush (v := nI 1000) hx hb dX6_addProduct_28 (by decide) ?_
      refine ro_calliB (va_runS (As := [.int q, .int (nI 1), .int (nI 1000)]) (rest := []) ⟨hx, hb, hml, hown, hts⟩ (c_X6_isIn l D cy (q) ((nI 1)) ((nI 1000)) H va_P0) (va_cwS 3 hts gX6_addProduct_X6_isIn rfl rfl rfl hdX6_isIn.2 ⟨Nat.le_of_ble_eq_true rfl, Nat.le_of_ble_eq_true rfl⟩) (ro_pre hK rfl) rfl rfl hl.1 rfl (lv_room (Nat.le_of_ble_eq_true rfl)) dX6_addProduct_31 ⟨Nat.le_of_ble_eq_true rfl, Nat.le_of_ble_eq_true rfl⟩) (fun b31 => ?_) (fun b31 => ?_)
      · skip
        refine lv_if_eq (tgt := 41) hx hb dX6_addProduct_34 (by decide) (fun q => by first | exact absurd q (by decide) | exact absurd (by decide) q) (fun _ => ?_)
        refine lv_iconst (v := nI 1) hx hb dX6_addProduct_37 (by decide) ?_
        refine lv_goto (tgt := 42) hx hb dX6_addProduct_38 (by decide) ?_
        exact K42 1 (pV.t ⟨Int32.not_lt.mp c23, b31⟩) H locs hP hD hS ls (lv_sub hl [1, 2, 3, 4, 0] rfl)
      · skip
        refine lv_if_eq (tgt := 41) hx hb dX6_addProduct_34 (by decide) (fun _ => ?_) (fun q => by first | exact absurd q (by decide) | exact absurd (by decide) q)
        refine lv_iconst (v := nI 0) hx hb dX6_addProduct_41 (by decide) ?_
        exact K42 0 (pV.f (fun z => by first | exact absurd z.1 (Int32.not_le.mpr c23) | exact b31 z.2)) H locs hP hD hS ls (lv_sub hl [1, 2, 3, 4, 0] rfl)
  refine lv_iload_n hx hb dX6_addProduct_0 rfl (lv_at hl 1 rfl) ?_
  refine ro_calliB (va_runS (As := [.int f]) (rest := []) ⟨hx, hb, hml, hown, hts⟩ (c_X6_isLeg l D cy (f) H va_P0) (va_cwS 1 hts gX6_addProduct_X6_isLeg rfl rfl rfl hdX6_isLeg.2 ⟨Nat.le_of_ble_eq_true rfl, Nat.le_of_ble_eq_true rfl⟩) (ro_pre hK rfl) rfl rfl hl.1 rfl (lv_room (Nat.le_of_ble_eq_true rfl)) dX6_addProduct_1 ⟨Nat.le_of_ble_eq_true rfl, Nat.le_of_ble_eq_true rfl⟩) (fun b1 => ?_) (fun b1 => ?_)
  · skip
    refine lv_if_eq (tgt := 18) hx hb dX6_addProduct_4 (by decide) (fun q => by first | exact absurd q (by decide) | exact absurd (by decide) q) (fun _ => ?_)
    refine lv_iload_n hx hb dX6_addProduct_7 rfl (lv_at hl 2 rfl) ?_
    refine ro_calliB (va_runS (As := [.int t]) (rest := []) ⟨hx, hb, hml, hown, hts⟩ (c_X6_isLeg l D cy (t) H va_P0) (va_cwS 1 hts gX6_addProduct_X6_isLeg rfl rfl rfl hdX6_isLeg.2 ⟨Nat.le_of_ble_eq_true rfl, Nat.le_of_ble_eq_true rfl⟩) (ro_pre hK rfl) rfl rfl hl.1 rfl (lv_room (Nat.le_of_ble_eq_true rfl)) dX6_addProduct_8 ⟨Nat.le_of_ble_eq_true rfl, Nat.le_of_ble_eq_true rfl⟩) (fun b8 => ?_) (fun b8 => ?_)
    · skip
      refine lv_if_eq (tgt := 18) hx hb dX6_addProduct_11 (by decide) (fun q => by first | exact absurd q (by decide) | exact absurd (by decide) q) (fun _ => ?_)
      refine lv_iconst (v := nI 1) hx hb dX6_addProduct_14 (by decide) ?_
      refine lv_goto (tgt := 19) hx hb dX6_addProduct_15 (by decide) ?_
      exact K19 1 (pV.t ⟨b1, b8⟩) H locs hP hD hS ls (lv_sub hl [0, 1, 2, 3] rfl)
    · skip
      refine lv_if_eq (tgt := 18) hx hb dX6_addProduct_11 (by decide) (fun _ => ?_) (fun q => by first | exact absurd q (by decide) | exact absurd (by decide) q)
      refine lv_iconst (v := nI 0) hx hb dX6_addProduct_18 (by decide) ?_
      exact K19 0 (pV.f (fun z => by first | exact b1 z.1 | exact b8 z.2)) H locs hP hD hS ls (lv_sub hl [0, 1, 2, 3] rfl)
  · skip
    refine lv_if_eq (tgt := 18) hx hb dX6_addProduct_4 (by decide) (fun _ => ?_) (fun q => by first | exact absurd q (by decide) | exact absurd (by decide) q)
    refine lv_iconst (v := nI 0) hx hb dX6_addProduct_18 (by decide) ?_
    exact K19 0 (pV.f (fun z => by first | exact b1 z.1 | exact b8 z.2)) H locs hP hD hS ls (lv_sub hl [0, 1, 2, 3] rfl)
