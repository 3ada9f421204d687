theorem ad_v {wo u : Nat → Nat} {T : Nat → Nat → Nat → Nat} {da db dc f : Nat} (hda : da ≤ 1) (hdb : db ≤ 1) (hdc : dc ≤ 1) (hT : ∀ a b g, a ≤ 11 → b ≤ 11 → g ≤ 11 → wo (12 * (12 * a + b) + g) = T a b g) (hu : ∀ j, j < 1728 → u j = adN wo da db dc (12 * (12 * da + db) + dc) f j) : ∀ a b g, a ≤ 11 → b ≤ 11 → g ≤ 11 → u (12 * (12 * a + b) + g) = vAdd T da db dc f a b g := by
  intro a b g ha hb hg
  rw [hu _ (by omega)]
  unfold adN vAdd
  rw [hT a b g ha hb hg, show (12 * (12 * a + b) + g) / 144 = a by omega, show (12 * (12 * a + b) + g) / 12 % 12 = b by omega, show (12 * (12 * a + b) + g) % 12 = g by omega]
  by_cases q : da ≤ a ∧ db ≤ b ∧ dc ≤ g
  · rw [if_pos q, if_pos q, show 12 * (12 * a + b) + g - (12 * (12 * da + db) + dc) = 12 * (12 * (a - da) + (b - db)) + (g - dc) by omega, hT _ _ _ (by omega) (by omega) (by omega)]
  · rw [if_neg q, if_neg q]
theorem ad_b {wo u : Nat → Nat} {B da db dc le f : Nat} (hle : le ≤ 157) (hB : ∀ j, j < 1728 → wo j ≤ B) (hf : f ≤ 1000) (hu : ∀ j, j < 1728 → u j = adN wo da db dc le f j) : ∀ j, j < 1728 → u j ≤ B + 1000 := by
  intro j hj
  rw [hu j hj]
  unfold adN
  have h1 := hB j hj
  have h2 := hB (j - le) (by omega)
  split <;> omega
set_option maxHeartbeats 4000000 in
set_option maxRecDepth 100000 in
theorem c_X6_finds (l : Launch) (D : va_G) (cy : Nat → ClassId) (ad : Nat → Nat) (σ : SF) (er : Int64) (wo : Nat → Nat) (th : Nat) {n : Nat} (hI : Iv n σ) : cMV l D cy yX6_finds wsX6_finds rmX6_finds [.ref (ad 0)] (WM ad cy σ er wo th) (T := Nat → Nat) (fun u => WM ad cy σ er u th) (fun u => ∀ a b g, a ≤ 11 → b ≤ 11 → g ≤ 11 → u (12 * (12 * a + b) + g) = wv σ a b g) 0 0 := by
  refine cMV.of (cc := cX6_finds) (maxL := 4) (by decide) rfl (Nat.le_of_ble_eq_true rfl) ?_
  intro p e s m args below meth c H0 A Q hx hb hml hown hts hP hK hD hS hA hin0 hret ls hl
  obtain ⟨H, locs, hH, hlo⟩ : ∃ (H : Heap) (locs : List Loc), H = H0 ∧ locs = [] := ⟨_, _, rfl, rfl⟩
  rw [← hH] at hP
  rw [show va_S A H0 H0 [] = va_S A H0 H locs by rw [hH, hlo]] at hS
  rw [show W p l e rmX6_finds s m args below meth c H0 [] 0 0 Q (F0 m 0 ls []) = W p l e rmX6_finds s m args below meth c H locs 0 0 Q (F0 m 0 ls []) by rw [hH, hlo]]
  refine lv_iconst (v := nI 0) hx hb dX6_finds_0 (by decide) ?_
  have K2 : ∀ (n2 : Nat) (k : Nat) (w1 : Nat → Nat), 1728 - k < n2 → (k ≤ 1728) → (∀ j, j < k → w1 j = 0) → ∀ (H : Heap) (locs : List Loc), va_P D vwCl (WM ad cy σ er w1 th) H → va_D A (WM ad cy σ er w1 th) → va_S A H0 H locs → ∀ ls : Array Slot, lv_has ls 4 [(0, .ref (ad 0)), (1, .int (nI k))] → W p l e rmX6_finds s m args below meth c H locs 0 0 Q (F0 m 2 ls []) := by
    intro n2
    induction n2 with
    | zero =>
      intro k w1 hfu
      exact absurd hfu (Nat.not_lt_zero _)
    | succ n2 ih2 =>
      intro k w1 hfu hk hz H locs hP hD hS ls hl
      refine lv_iload_n hx hb dX6_finds_2 rfl (lv_at hl 1 rfl) ?_
      refine lv_sipush (v := nI 1728) hx hb dX6_finds_3 (by decide) ?_
      refine ln_icmp_ge (tgt := 22) hx hb (by omega) (by omega) dX6_finds_6 (by decide) (fun c6 => ?_) (fun c6 => ?_)
      · skip
        refine lv_iconst (v := nI 0) hx hb dX6_finds_22 (by decide) ?_
        have K24 : ∀ (n24 : Nat) (k : Nat) (w2 : Nat → Nat), σ 0 0 - k < n24 → (k ≤ σ 0 0) → (∀ a b g, a ≤ 11 → b ≤ 11 → g ≤ 11 → w2 (12 * (12 * a + b) + g) = vK σ k a b g) → (∀ j, j < 1728 → w2 j ≤ 12000 * k) → ∀ (H : Heap) (locs : List Loc), va_P D vwCl (WM ad cy σ er w2 th) H → va_D A (WM ad cy σ er w2 th) → va_S A H0 H locs → ∀ ls : Array Slot, lv_has ls 4 [(0, .ref (ad 0)), (1, .int (nI k))] → W p l e rmX6_finds s m args below meth c H locs 0 0 Q (F0 m 24 ls []) := by
          intro n24
          induction n24 with
          | zero =>
            intro k w2 hfu
            exact absurd hfu (Nat.not_lt_zero _)
          | succ n24 ih24 =>
            intro k w2 hfu hk hT2 hB2 H locs hP hD hS ls hl
            have hnp := hI.np
            refine lv_iload_n hx hb dX6_finds_24 rfl (lv_at hl 1 rfl) ?_
            refine lv_aload_n hx hb dX6_finds_25 rfl (lv_at hl 0 rfl) ?_
            refine mg (v := .int (nI (σ 0 0))) hx hb hts fX6_finds_6 hown hK hP 2 (by decide) kX6_finds_26 rfl rfl dX6_finds_26 ?_
            refine ln_icmp_ge (tgt := 76) hx hb (by omega) (by omega) dX6_finds_29 (by decide) (fun c29 => ?_) (fun c29 => ?_)
            · skip
              exact hret w2 dX6_finds_76 hP hD hS (fun a b g ha hb hg => by rw [hT2 a b g ha hb hg, show k = σ 0 0 by omega]; rfl)
            · skip
              have hpk := hI.pr k c29
              have hnn := hI.nn
              refine lv_aload_n hx hb dX6_finds_32 rfl (lv_at hl 0 rfl) ?_
              refine mg (v := .ref (ad 6)) hx hb hts fX6_finds_6 hown hK hP 6 (by decide) kX6_finds_33 rfl rfl dX6_finds_33 ?_
              refine lv_iload_n hx hb dX6_finds_36 rfl (lv_at hl 1 rfl) ?_
              refine ml6 (v := σ 6 k) hx hb hK hP (by omega) rfl dX6_finds_37 ?_
              refine lv_aload_n hx hb dX6_finds_38 rfl (lv_at hl 0 rfl) ?_
              refine mg (v := .ref (ad 7)) hx hb hts fX6_finds_6 hown hK hP 7 (by decide) kX6_finds_39 rfl rfl dX6_finds_39 ?_
              refine lv_iload_n hx hb dX6_finds_42 rfl (lv_at hl 1 rfl) ?_
              refine ml7 (v := σ 7 k) hx hb hK hP (by omega) rfl dX6_finds_43 ?_
              refine lv_isub hx hb dX6_finds_44 ?_
              refine lv_istore_n (lv' := [(2, .int (nI (σ 6 k) - nI (σ 7 k))), (0, .ref (ad 0)), (1, .int (nI k))]) hx hb dX6_finds_45 rfl hl (by decide) rfl (fun ls hl => ?_)
              refine lv_iconst (v := nI 0) hx hb dX6_finds_46 (by decide) ?_
              have K48 : ∀ (n48 : Nat) (j0 : Nat) (w3 : Nat → Nat), 12 - j0 < n48 → (j0 ≤ min (σ 6 k - σ 7 k) 12) → (∀ a b g, a ≤ 11 → b ≤ 11 → g ≤ 11 → w3 (12 * (12 * a + b) + g) = vRep (vK σ k) (dA σ k 0) (dA σ k 1) (dA σ k 2) (σ 5 k) j0 a b g) → (∀ j, j < 1728 → w3 j ≤ 12000 * k + 1000 * j0) → ∀ (H : Heap) (locs : List Loc), va_P D vwCl (WM ad cy σ er w3 th) H → va_D A (WM ad cy σ er w3 th) → va_S A H0 H locs → ∀ ls : Array Slot, lv_has ls 4 [(0, .ref (ad 0)), (1, .int (nI k)), (2, .int (nI (σ 6 k) - nI (σ 7 k))), (3, .int (nI j0))] → W p l e rmX6_finds s m args below meth c H locs 0 0 Q (F0 m 48 ls []) := by
                intro n48
                induction n48 with
                | zero =>
                  intro j0 w3 hfu
                  exact absurd hfu (Nat.not_lt_zero _)
                | succ n48 ih48 =>
                  intro j0 w3 hfu hj hT3 hB3 H locs hP hD hS ls hl
                  refine lv_iload_n hx hb dX6_finds_48 rfl (lv_at hl 3 rfl) ?_
                  refine lv_iload_n hx hb dX6_finds_49 rfl (lv_at hl 2 rfl) ?_
                  refine lv_icmp_ge (tgt := 70) hx hb dX6_finds_50 (by decide) (fun c50 => ?_) (fun c50 => ?_)
                  · skip
                    have hcg := (come_ge (by omega) (by omega) (by omega)).mp c50
                    have hjm : j0 = min (σ 6 k - σ 7 k) 12 := by omega
                    obtain ⟨z70, hz70⟩ : ∃ z : Nat, z = k + 1 := ⟨_, rfl⟩
                    refine lv_iinc (v := nI z70) (lv' := [(1, .int (nI z70)), (0, .ref (ad 0)), (2, .int (nI (σ 6 k) - nI (σ 7 k))), (3, .int (nI j0))]) hx hb dX6_finds_70 hl (k := 1) rfl (by rw [hz70]; exact nI_add _ 1) (by decide) rfl (fun ls hl => ?_)
                    refine lv_goto (tgt := 24) hx hb dX6_finds_73 (by decide) ?_
                    exact ih24 z70 w3 (by omega) (by omega) (fun a b g ha hb hg => by rw [hT3 a b g ha hb hg, hjm, hz70]; rfl) (fun j hj => Nat.le_trans (hB3 j hj) (by omega)) H locs hP hD hS ls (lv_sub hl [1, 0] rfl)
                  · skip
                    have hcg : ¬ (σ 6 k - σ 7 k ≤ j0) := fun q => c50 ((come_ge (by omega) (by omega) (by omega)).mpr q)
                    refine lv_iload_n hx hb dX6_finds_53 rfl (lv_at hl 3 rfl) ?_
                    refine lv_bipush (v := nI 12) hx hb dX6_finds_54 (by decide) ?_
                    refine ln_icmp_ge (tgt := 70) hx hb (by omega) (by omega) dX6_finds_56 (by decide) (fun c56 => ?_) (fun c56 => ?_)
                    · skip
                      have hjm : j0 = min (σ 6 k - σ 7 k) 12 := by omega
                      obtain ⟨z70, hz70⟩ : ∃ z : Nat, z = k + 1 := ⟨_, rfl⟩
                      refine lv_iinc (v := nI z70) (lv' := [(1, .int (nI z70)), (0, .ref (ad 0)), (2, .int (nI (σ 6 k) - nI (σ 7 k))), (3, .int (nI j0))]) hx hb dX6_finds_70 hl (k := 1) rfl (by rw [hz70]; exact nI_add _ 1) (by decide) rfl (fun ls hl => ?_)
                      refine lv_goto (tgt := 24) hx hb dX6_finds_73 (by decide) ?_
                      exact ih24 z70 w3 (by omega) (by omega) (fun a b g ha hb hg => by rw [hT3 a b g ha hb hg, hjm, hz70]; rfl) (fun j hj => Nat.le_trans (hB3 j hj) (by omega)) H locs hP hD hS ls (lv_sub hl [1, 0] rfl)
                    · skip
                      refine lv_aload_n hx hb dX6_finds_59 rfl (lv_at hl 0 rfl) ?_
                      refine lv_iload_n hx hb dX6_finds_60 rfl (lv_at hl 1 rfl) ?_
                      refine mw_callv (va_runV (As := [.int (nI k)]) (rest := []) ⟨hx, hb, hml, hown, hts⟩ (c_X6_adds l D cy ad σ er w3 th k (by omega) hpk.1 hpk.2.1 hpk.2.2.2.1 (fun j hj => Nat.le_trans (hB3 j hj) (by omega)) H.size) (cwV 1 hts gX6_finds_X6_adds rfl rfl rfl hdX6_adds ⟨Nat.le_of_ble_eq_true rfl, Nat.le_of_ble_eq_true rfl⟩) (mo_preV hK rfl hP hD (va_recv hK.1 hP (ci := 6) (q0 := 0) rfl rfl)) rfl rfl hl.1 rfl (lv_room (Nat.le_of_ble_eq_true rfl)) dX6_finds_61 ⟨Nat.le_of_ble_eq_true rfl, Nat.le_of_ble_eq_true rfl⟩) hS hD hA (fun u H locs hr61 hP hD hS => ?_)
                      obtain ⟨z64, hz64⟩ : ∃ z : Nat, z = j0 + 1 := ⟨_, rfl⟩
                      refine lv_iinc (v := nI z64) (lv' := [(3, .int (nI z64)), (0, .ref (ad 0)), (1, .int (nI k)), (2, .int (nI (σ 6 k) - nI (σ 7 k)))]) hx hb dX6_finds_64 hl (k := 3) rfl (by rw [hz64]; exact nI_add _ 1) (by decide) rfl (fun ls hl => ?_)
                      refine lv_goto (tgt := 48) hx hb dX6_finds_67 (by decide) ?_
                      exact ih48 z64 u (by omega) (by omega) (fun a b g ha hb hg => by rw [hz64]; exact ad_v dA_le dA_le dA_le hT3 hr61 a b g ha hb hg) (fun j hj => Nat.le_trans (ad_b (by have h1 := dA_le (σ := σ) (k := k) (j := 0); have h2 := dA_le (σ := σ) (k := k) (j := 1); have h3 := dA_le (σ := σ) (k := k) (j := 2); omega) hB3 hpk.2.2.2.1 hr61 j hj) (by omega)) H locs hP hD hS ls (lv_sub hl [1, 2, 3, 0] rfl)
              refine lv_istore_n (lv' := [(3, .int (nI 0)), (2, .int (nI (σ 6 k) - nI (σ 7 k))), (0, .ref (ad 0)), (1, .int (nI k))]) hx hb dX6_finds_47 rfl hl (by decide) rfl (fun ls hl => ?_)
              exact K48 _ 0 w2 (Nat.lt_succ_self _) (by omega) hT2 (fun j hj => Nat.le_trans (hB2 j hj) (by omega)) H locs hP hD hS ls (lv_sub hl [2, 3, 1, 0] rfl)
        refine lv_istore_n (lv' := [(1, .int (nI 0)), (0, .ref (ad 0))]) hx hb dX6_finds_23 rfl hl (by decide) rfl (fun ls hl => ?_)
        exact K24 _ 0 w1 (Nat.lt_succ_self _) (by omega) (fun a b g _ _ _ => hz _ (by omega)) (fun j hj => by rw [hz j (by omega)]; exact Nat.zero_le _) H locs hP hD hS ls (lv_sub hl [1, 0] rfl)
      · skip
        refine lv_aload_n hx hb dX6_finds_9 rfl (lv_at hl 0 rfl) ?_
        refine mg (v := .ref (ad 16)) hx hb hts fX6_finds_6 hown hK hP 20 (by decide) kX6_finds_10 rfl rfl dX6_finds_10 ?_
        refine lv_iload_n hx hb dX6_finds_13 rfl (lv_at hl 1 rfl) ?_
        refine lv_iconst (v := nI 0) hx hb dX6_finds_14 (by decide) ?_
        refine ms16 hx hb hK hP hD hS (by omega) dX6_finds_15 (fun H locs hP hD hS => ?_)
        obtain ⟨z16, hz16⟩ : ∃ z : Nat, z = k + 1 := ⟨_, rfl⟩
        refine lv_iinc (v := nI z16) (lv' := [(1, .int (nI z16)), (0, .ref (ad 0))]) hx hb dX6_finds_16 hl (k := 1) rfl (by rw [hz16]; exact nI_add _ 1) (by decide) rfl (fun ls hl => ?_)
        refine lv_goto (tgt := 2) hx hb dX6_finds_19 (by decide) ?_
        have hP : va_P D vwCl (WM ad cy σ er (va_up w1 k 0) th) H := hP
        have hD : va_D A (WM ad cy σ er (va_up w1 k 0) th) := hD
        exact ih2 z16 (va_up w1 k 0) (by omega) (by omega) (fun j hj => by unfold va_up; by_cases q : j = k; exact if_pos q; rw [if_neg q]; exact hz j (by omega)) H locs hP hD hS ls (lv_sub hl [1, 0] rfl)
  refine lv_istore_n (lv' := [(1, .int (nI 0)), (0, .ref (ad 0))]) hx hb dX6_finds_1 rfl hl (by decide) rfl (fun ls hl => ?_)
  exact K2 _ 0 wo (Nat.lt_succ_self _) (by omega) (fun j hj => absurd hj (Nat.not_lt_zero _)) H locs hP hD hS ls (lv_sub hl [1, 0] rfl)
