def adN (wo : Nat → Nat) (da db dc le f : Nat) (j : Nat) : Nat := max (wo j) (if da ≤ j / 144 ∧ db ≤ j / 12 % 12 ∧ dc ≤ j % 12 then wo (j - le) + f else 0)
theorem ad_s {wo w1 : Nat → Nat} {da db dc le f i y x : Nat} (hw : ∀ j, j < 1728 → w1 j = if 1728 ≤ j + i then adN wo da db dc le f j else wo j) (hy : y + i + 1 = 1728) (hx : x = adN wo da db dc le f y) : ∀ j, j < 1728 → va_up w1 y x j = if 1728 ≤ j + (i + 1) then adN wo da db dc le f j else wo j := by
  intro j hj
  unfold va_up
  by_cases q : j = y
  · subst q; rw [if_pos rfl, if_pos (by omega), hx]
  · rw [if_neg q, hw j hj]
    by_cases q2 : 1728 ≤ j + i
    · rw [if_pos q2, if_pos (by omega)]
    · rw [if_neg q2, if_neg (by omega)]
theorem dA_one {σ : SF} {k : Nat} (h : σ 3 k ≤ σ 4 k) (h2 : σ 4 k ≤ 2) : 1 ≤ dA σ k 0 + dA σ k 1 + dA σ k 2 := by
  unfold dA
  rcases (show σ 3 k = 0 ∨ σ 3 k = 1 ∨ σ 3 k = 2 by omega) with q | q | q
  · rw [if_pos (show σ 3 k ≤ 0 ∧ 0 ≤ σ 4 k by omega)]; omega
  · rw [if_pos (show σ 3 k ≤ 1 ∧ 1 ≤ σ 4 k by omega)]; omega
  · rw [if_pos (show σ 3 k ≤ 2 ∧ 2 ≤ σ 4 k by omega)]; omega
theorem dA_le {σ : SF} {k j : Nat} : dA σ k j ≤ 1 := by unfold dA; split <;> omega
theorem dA_t {σ : SF} {k j : Nat} (h1 : σ 3 k < 2 ^ 31) (h2 : σ 4 k < 2 ^ 31) (hj : j < 2 ^ 31) (h : nI (σ 3 k) ≤ nI j ∧ nI j ≤ nI (σ 4 k)) : 1 = dA σ k j := by unfold dA; rw [if_pos ((isIn_nn hj h1 h2).mp h)]
theorem dA_f {σ : SF} {k j : Nat} (h1 : σ 3 k < 2 ^ 31) (h2 : σ 4 k < 2 ^ 31) (hj : j < 2 ^ 31) (h : ¬ (nI (σ 3 k) ≤ nI j ∧ nI j ≤ nI (σ 4 k))) : 0 = dA σ k j := by unfold dA; rw [if_neg (fun q => h ((isIn_nn hj h1 h2).mpr q))]
theorem come_ge {a b j : Nat} (ha : a < 2 ^ 30) (hb : b < 2 ^ 30) (hj : j < 2 ^ 30) : nI a - nI b ≤ nI j ↔ a - b ≤ j := by
  rw [Int32.le_iff_toInt_le, pk_sub_toInt ha hb, nI_toInt (by omega)]
  omega
set_option maxHeartbeats 4000000 in
set_option maxRecDepth 100000 in
theorem c_X6_adds (l : Launch) (D : va_G) (cy : Nat → ClassId) (ad : Nat → Nat) (σ : SF) (er : Int64) (wo : Nat → Nat) (th : Nat) (k0 : Nat) (hk8 : k0 < 8) (h3 : σ 3 k0 ≤ σ 4 k0) (h4 : σ 4 k0 ≤ 2) (h5 : σ 5 k0 ≤ 1000) (hB : ∀ j, j < 1728 → wo j ≤ 1000000) : cMV l D cy yX6_adds wsX6_adds rmX6_adds [.ref (ad 0), .int (nI k0)] (WM ad cy σ er wo th) (T := Nat → Nat) (fun u => WM ad cy σ er u th) (fun u => ∀ j, j < 1728 → u j = adN wo (dA σ k0 0) (dA σ k0 1) (dA σ k0 2) (12 * (12 * dA σ k0 0 + dA σ k0 1) + dA σ k0 2) (σ 5 k0) j) 0 0 := by
  refine cMV.of (cc := cX6_adds) (maxL := 9) (by decide) rfl (Nat.le_of_ble_eq_true rfl) ?_
  intro p e s m args below meth c H0 A Q hx hb hml hown hts hP hK hD hS hA hin0 hret ls hl
  obtain ⟨H, locs, hH, hlo⟩ : ∃ (H : Heap) (locs : List Loc), H = H0 ∧ locs = [] := ⟨_, _, rfl, rfl⟩
  rw [← hH] at hP
  rw [show va_S A H0 H0 [] = va_S A H0 H locs by rw [hH, hlo]] at hS
  rw [show W p l e rmX6_adds s m args below meth c H0 [] 0 0 Q (F0 m 0 ls []) = W p l e rmX6_adds s m args below meth c H locs 0 0 Q (F0 m 0 ls []) by rw [hH, hlo]]
  have hE : va_P D vwCl [] H := va_P0
  have K24 : ∀ (v : Nat), (v = dA σ k0 0) → ∀ (H : Heap) (locs : List Loc), va_P D vwCl (WM ad cy σ er wo th) H → va_D A (WM ad cy σ er wo th) → va_S A H0 H locs → ∀ ls : Array Slot, lv_has ls 9 [(0, .ref (ad 0)), (1, .int (nI k0))] → W p l e rmX6_adds s m args below meth c H locs 0 0 Q (F0 m 24 ls [.int (nI v)]) := by
    intro v hv0 H locs hP hD hS ls hl
    refine lv_istore_n (lv' := [(2, .int (nI v)), (0, .ref (ad 0)), (1, .int (nI k0))]) hx hb dX6_adds_24 rfl hl (by decide) rfl (fun ls hl => ?_)
    have K49 : ∀ (v1 : Nat), (v1 = dA σ k0 1) → ∀ (H : Heap) (locs : List Loc), va_P D vwCl (WM ad cy σ er wo th) H → va_D A (WM ad cy σ er wo th) → va_S A H0 H locs → ∀ ls : Array Slot, lv_has ls 9 [(0, .ref (ad 0)), (1, .int (nI k0)), (2, .int (nI v))] → W p l e rmX6_adds s m args below meth c H locs 0 0 Q (F0 m 49 ls [.int (nI v1)]) := by
      intro v1 hv1 H locs hP hD hS ls hl
      refine lv_istore_n (lv' := [(3, .int (nI v1)), (0, .ref (ad 0)), (1, .int (nI k0)), (2, .int (nI v))]) hx hb dX6_adds_49 rfl hl (by decide) rfl (fun ls hl => ?_)
      have K74 : ∀ (v2 : Nat), (v2 = dA σ k0 2) → ∀ (H : Heap) (locs : List Loc), va_P D vwCl (WM ad cy σ er wo th) H → va_D A (WM ad cy σ er wo th) → va_S A H0 H locs → ∀ ls : Array Slot, lv_has ls 9 [(0, .ref (ad 0)), (1, .int (nI k0)), (2, .int (nI v)), (3, .int (nI v1))] → W p l e rmX6_adds s m args below meth c H locs 0 0 Q (F0 m 74 ls [.int (nI v2)]) := by
        intro v2 hv2 H locs hP hD hS ls hl
        refine lv_istore (lv' := [(4, .int (nI v2)), (0, .ref (ad 0)), (1, .int (nI k0)), (2, .int (nI v)), (3, .int (nI v1))]) hx hb dX6_adds_74 hl (by decide) rfl (fun ls hl => ?_)
        refine lv_iload_n hx hb dX6_adds_76 rfl (lv_at hl 3 rfl) ?_
        refine lv_iload_n hx hb dX6_adds_77 rfl (lv_at hl 4 rfl) ?_
        refine lv_iload hx hb dX6_adds_78 (lv_at hl 0 rfl) ?_
        refine ro_calliN (va_runS (As := [.int (nI v), .int (nI v1), .int (nI v2)]) (rest := []) ⟨hx, hb, hml, hown, hts⟩ (c_X6_place l D cy v v1 v2 H va_P0) (va_cwS 3 hts gX6_adds_X6_place rfl rfl rfl hdX6_place.2 ⟨Nat.le_of_ble_eq_true rfl, Nat.le_of_ble_eq_true rfl⟩) (ro_pre hK rfl) rfl rfl hl.1 rfl (lv_room (Nat.le_of_ble_eq_true rfl)) dX6_adds_80 ⟨Nat.le_of_ble_eq_true rfl, Nat.le_of_ble_eq_true rfl⟩) (fun z80 hz80 => ?_)
        refine lv_istore (lv' := [(5, .int (nI z80)), (4, .int (nI v2)), (0, .ref (ad 0)), (1, .int (nI k0)), (2, .int (nI v)), (3, .int (nI v1))]) hx hb dX6_adds_83 hl (by decide) rfl (fun ls hl => ?_)
        obtain ⟨le, hle⟩ : ∃ z, z = z80 := ⟨_, rfl⟩
        rw [← hle] at hl
        have hle1 : le = 12 * (12 * v + v1) + v2 := by omega
        have hd1 := dA_one h3 h4
        have hda := dA_le (σ := σ) (k := k0) (j := 0)
        have hdb := dA_le (σ := σ) (k := k0) (j := 1)
        have hdc := dA_le (σ := σ) (k := k0) (j := 2)
        have K90 : ∀ (n90 : Nat) (i : Nat) (yv : Int32) (w1 : Nat → Nat), 1728 - i < n90 → (i ≤ 1728) → (yv = nI (1728 - i) + (-1)) → (∀ j, j < 1728 → w1 j = if 1728 ≤ j + i then adN wo v v1 v2 le (σ 5 k0) j else wo j) → ∀ (H : Heap) (locs : List Loc), va_P D vwCl (WM ad cy σ er w1 th) H → va_D A (WM ad cy σ er w1 th) → va_S A H0 H locs → ∀ ls : Array Slot, lv_has ls 9 [(0, .ref (ad 0)), (1, .int (nI k0)), (2, .int (nI v)), (3, .int (nI v1)), (4, .int (nI v2)), (5, .int (nI le)), (6, .int yv)] → W p l e rmX6_adds s m args below meth c H locs 0 0 Q (F0 m 90 ls []) := by
          intro n90
          induction n90 with
          | zero =>
            intro i yv w1 hfu
            exact absurd hfu (Nat.not_lt_zero _)
          | succ n90 ih90 =>
            intro i yv w1 hfu hi hyv hw H locs hP hD hS ls hl
            refine lv_iload hx hb dX6_adds_90 (lv_at hl 6 rfl) ?_
            refine lv_if_lt (tgt := 199) hx hb dX6_adds_92 (by decide) (fun c92 => ?_) (fun c92 => ?_)
            · skip
              have hi28 := dn_T hyv hi (by decide) c92
              subst hle1
              subst hv0; subst hv1; subst hv2
              exact hret w1 dX6_adds_199 hP hD hS (fun j hj => by rw [hw j hj, if_pos (by omega)])
            · skip
              obtain ⟨y, rfl, hy⟩ := dn_F hyv hi c92
              have K160 : ∀ (x : Nat), (x = (if v ≤ y / 144 ∧ v1 ≤ y / 12 % 12 ∧ v2 ≤ y % 12 then wo (y - le) + σ 5 k0 else 0)) → ∀ (H : Heap) (locs : List Loc), va_P D vwCl (WM ad cy σ er w1 th) H → va_D A (WM ad cy σ er w1 th) → va_S A H0 H locs → ∀ ls : Array Slot, lv_has ls 9 [(0, .ref (ad 0)), (1, .int (nI k0)), (2, .int (nI v)), (3, .int (nI v1)), (4, .int (nI v2)), (5, .int (nI le)), (6, .int (nI y))] → W p l e rmX6_adds s m args below meth c H locs 0 0 Q (F0 m 160 ls [.int (nI x)]) := by
                intro x hx8 H locs hP hD hS ls hl
                refine lv_istore (lv' := [(8, .int (nI x)), (0, .ref (ad 0)), (1, .int (nI k0)), (2, .int (nI v)), (3, .int (nI v1)), (4, .int (nI v2)), (5, .int (nI le)), (6, .int (nI y))]) hx hb dX6_adds_160 hl (by decide) rfl (fun ls hl => ?_)
                have hwy : w1 y = wo y := by rw [hw y (by omega), if_neg (by omega)]
                have hB1 := hB y (by omega)
                have hB2 := hB (y - le) (by omega)
                have hx9 : x ≤ 1001000 := by rw [hx8]; split <;> omega
                refine lv_aload_n hx hb dX6_adds_162 rfl (lv_at hl 1 rfl) ?_
                refine mg (v := .ref (ad 16)) hx hb hts fX6_adds_6 hown hK hP 20 (by decide) kX6_adds_163 rfl rfl dX6_adds_163 ?_
                refine lv_iload hx hb dX6_adds_166 (lv_at hl 7 rfl) ?_
                refine lv_iload hx hb dX6_adds_168 (lv_at hl 0 rfl) ?_
                refine lv_aload_n hx hb dX6_adds_170 rfl (lv_at hl 1 rfl) ?_
                refine mg (v := .ref (ad 16)) hx hb hts fX6_adds_6 hown hK hP 20 (by decide) kX6_adds_171 rfl rfl dX6_adds_171 ?_
                refine lv_iload hx hb dX6_adds_174 (lv_at hl 7 rfl) ?_
                refine ml16 (v := w1 y) hx hb hK hP (by omega) rfl dX6_adds_176 ?_
                refine ln_icmp_le (tgt := 185) hx hb (by omega) (by omega) dX6_adds_177 (by decide) (fun c177 => ?_) (fun c177 => ?_)
                · skip
                  refine lv_aload_n hx hb dX6_adds_185 rfl (lv_at hl 1 rfl) ?_
                  refine mg (v := .ref (ad 16)) hx hb hts fX6_adds_6 hown hK hP 20 (by decide) kX6_adds_186 rfl rfl dX6_adds_186 ?_
                  refine lv_iload hx hb dX6_adds_189 (lv_at hl 7 rfl) ?_
                  refine ml16 (v := w1 y) hx hb hK hP (by omega) rfl dX6_adds_191 ?_
                  refine ms16 hx hb hK hP hD hS (by omega) dX6_adds_192 (fun H locs hP hD hS => ?_)
                  refine lv_iinc (v := nI y + (-1)) (lv' := [(6, .int (nI y + (-1))), (8, .int (nI x)), (0, .ref (ad 0)), (1, .int (nI k0)), (2, .int (nI v)), (3, .int (nI v1)), (4, .int (nI v2)), (5, .int (nI le))]) hx hb dX6_adds_193 hl (k := 7) rfl rfl (by decide) rfl (fun ls hl => ?_)
                  refine lv_goto (tgt := 90) hx hb dX6_adds_196 (by decide) ?_
                  have hP : va_P D vwCl (WM ad cy σ er (va_up w1 y (w1 y)) th) H := hP
                  have hD : va_D A (WM ad cy σ er (va_up w1 y (w1 y)) th) := hD
                  exact ih90 ((i + 1)) (nI y + (-1)) (va_up w1 y (w1 y)) (by omega) (by omega) (by rw [show 1728 - (i + 1) = y by omega]) (ad_s hw hy (by unfold adN; rw [← hx8]; omega)) H locs hP hD hS ls (lv_sub hl [2, 3, 4, 5, 6, 7, 0] rfl)
                · skip
                  refine lv_iload hx hb dX6_adds_180 (lv_at hl 0 rfl) ?_
                  refine lv_goto (tgt := 192) hx hb dX6_adds_182 (by decide) ?_
                  refine ms16 hx hb hK hP hD hS (by omega) dX6_adds_192 (fun H locs hP hD hS => ?_)
                  refine lv_iinc (v := nI y + (-1)) (lv' := [(6, .int (nI y + (-1))), (8, .int (nI x)), (0, .ref (ad 0)), (1, .int (nI k0)), (2, .int (nI v)), (3, .int (nI v1)), (4, .int (nI v2)), (5, .int (nI le))]) hx hb dX6_adds_193 hl (k := 7) rfl rfl (by decide) rfl (fun ls hl => ?_)
                  refine lv_goto (tgt := 90) hx hb dX6_adds_196 (by decide) ?_
                  have hP : va_P D vwCl (WM ad cy σ er (va_up w1 y x) th) H := hP
                  have hD : va_D A (WM ad cy σ er (va_up w1 y x) th) := hD
                  exact ih90 ((i + 1)) (nI y + (-1)) (va_up w1 y x) (by omega) (by omega) (by rw [show 1728 - (i + 1) = y by omega]) (ad_s hw hy (by unfold adN; rw [← hx8]; omega)) H locs hP hD hS ls (lv_sub hl [2, 3, 4, 5, 6, 7, 0] rfl)
              refine lv_iload hx hb dX6_adds_95 (lv_at hl 6 rfl) ?_
              refine lv_sipush (v := nI 144) hx hb dX6_adds_97 (by decide) ?_
              refine ln_idiv hx hb (by omega) (by omega) (by omega) dX6_adds_100 (fun z100 hz100 => ?_)
              refine lv_iload_n hx hb dX6_adds_101 rfl (lv_at hl 2 rfl) ?_
              refine ln_icmp_lt (tgt := 131) hx hb (by omega) (by omega) dX6_adds_102 (by decide) (fun c102 => ?_) (fun c102 => ?_)
              · skip
                refine lv_iconst (v := nI 0) hx hb dX6_adds_131 (by decide) ?_
                refine lv_istore (lv' := [(7, .int (nI 0)), (0, .ref (ad 0)), (1, .int (nI k0)), (2, .int (nI v)), (3, .int (nI v1)), (4, .int (nI v2)), (5, .int (nI le)), (6, .int (nI y))]) hx hb dX6_adds_132 hl (by decide) rfl (fun ls hl => ?_)
                refine lv_iload hx hb dX6_adds_134 (lv_at hl 0 rfl) ?_
                refine lv_if_eq (tgt := 159) hx hb dX6_adds_136 (by decide) (fun _ => ?_) (fun q => by first | exact absurd q (by decide) | exact absurd (by decide) q)
                refine lv_iconst (v := nI 0) hx hb dX6_adds_159 (by decide) ?_
                exact K160 0 (by rw [if_neg (by omega)]) H locs hP hD hS ls (lv_sub hl [1, 2, 3, 4, 5, 6, 7] rfl)
              · skip
                refine lv_iload hx hb dX6_adds_105 (lv_at hl 6 rfl) ?_
                refine lv_bipush (v := nI 12) hx hb dX6_adds_107 (by decide) ?_
                refine ln_idiv hx hb (by omega) (by omega) (by omega) dX6_adds_109 (fun z109 hz109 => ?_)
                refine lv_bipush (v := nI 12) hx hb dX6_adds_110 (by decide) ?_
                refine ln_irem hx hb (by omega) (by omega) (by omega) dX6_adds_112 (fun z112 hz112 => ?_)
                refine lv_iload_n hx hb dX6_adds_113 rfl (lv_at hl 3 rfl) ?_
                refine ln_icmp_lt (tgt := 131) hx hb (by omega) (by omega) dX6_adds_114 (by decide) (fun c114 => ?_) (fun c114 => ?_)
                · skip
                  refine lv_iconst (v := nI 0) hx hb dX6_adds_131 (by decide) ?_
                  refine lv_istore (lv' := [(7, .int (nI 0)), (0, .ref (ad 0)), (1, .int (nI k0)), (2, .int (nI v)), (3, .int (nI v1)), (4, .int (nI v2)), (5, .int (nI le)), (6, .int (nI y))]) hx hb dX6_adds_132 hl (by decide) rfl (fun ls hl => ?_)
                  refine lv_iload hx hb dX6_adds_134 (lv_at hl 0 rfl) ?_
                  refine lv_if_eq (tgt := 159) hx hb dX6_adds_136 (by decide) (fun _ => ?_) (fun q => by first | exact absurd q (by decide) | exact absurd (by decide) q)
                  refine lv_iconst (v := nI 0) hx hb dX6_adds_159 (by decide) ?_
                  exact K160 0 (by rw [if_neg (by omega)]) H locs hP hD hS ls (lv_sub hl [1, 2, 3, 4, 5, 6, 7] rfl)
                · skip
                  refine lv_iload hx hb dX6_adds_117 (lv_at hl 6 rfl) ?_
                  refine lv_bipush (v := nI 12) hx hb dX6_adds_119 (by decide) ?_
                  refine ln_irem hx hb (by omega) (by omega) (by omega) dX6_adds_121 (fun z121 hz121 => ?_)
                  refine lv_iload hx hb dX6_adds_122 (lv_at hl 4 rfl) ?_
                  refine ln_icmp_lt (tgt := 131) hx hb (by omega) (by omega) dX6_adds_124 (by decide) (fun c124 => ?_) (fun c124 => ?_)
                  · skip
                    refine lv_iconst (v := nI 0) hx hb dX6_adds_131 (by decide) ?_
                    refine lv_istore (lv' := [(7, .int (nI 0)), (0, .ref (ad 0)), (1, .int (nI k0)), (2, .int (nI v)), (3, .int (nI v1)), (4, .int (nI v2)), (5, .int (nI le)), (6, .int (nI y))]) hx hb dX6_adds_132 hl (by decide) rfl (fun ls hl => ?_)
                    refine lv_iload hx hb dX6_adds_134 (lv_at hl 0 rfl) ?_
                    refine lv_if_eq (tgt := 159) hx hb dX6_adds_136 (by decide) (fun _ => ?_) (fun q => by first | exact absurd q (by decide) | exact absurd (by decide) q)
                    refine lv_iconst (v := nI 0) hx hb dX6_adds_159 (by decide) ?_
                    exact K160 0 (by rw [if_neg (by omega)]) H locs hP hD hS ls (lv_sub hl [1, 2, 3, 4, 5, 6, 7] rfl)
                  · skip
                    refine lv_iconst (v := nI 1) hx hb dX6_adds_127 (by decide) ?_
                    refine lv_goto (tgt := 132) hx hb dX6_adds_128 (by decide) ?_
                    refine lv_istore (lv' := [(7, .int (nI 1)), (0, .ref (ad 0)), (1, .int (nI k0)), (2, .int (nI v)), (3, .int (nI v1)), (4, .int (nI v2)), (5, .int (nI le)), (6, .int (nI y))]) hx hb dX6_adds_132 hl (by decide) rfl (fun ls hl => ?_)
                    refine lv_iload hx hb dX6_adds_134 (lv_at hl 0 rfl) ?_
                    refine lv_if_eq (tgt := 159) hx hb dX6_adds_136 (by decide) (fun q => by first | exact absurd q (by decide) | exact absurd (by decide) q) (fun _ => ?_)
                    refine lv_aload_n hx hb dX6_adds_139 rfl (lv_at hl 1 rfl) ?_
                    refine mg (v := .ref (ad 16)) hx hb hts fX6_adds_6 hown hK hP 20 (by decide) kX6_adds_140 rfl rfl dX6_adds_140 ?_
                    refine lv_iload hx hb dX6_adds_143 (lv_at hl 7 rfl) ?_
                    refine lv_iload hx hb dX6_adds_145 (lv_at hl 6 rfl) ?_
                    refine ln_isub hx hb (by omega) dX6_adds_147 (fun z147 hz147 => ?_)
                    refine ml16 (v := w1 z147) hx hb hK hP (by omega) rfl dX6_adds_148 ?_
                    refine lv_aload_n hx hb dX6_adds_149 rfl (lv_at hl 1 rfl) ?_
                    refine mg (v := .ref (ad 5)) hx hb hts fX6_adds_6 hown hK hP 5 (by decide) kX6_adds_150 rfl rfl dX6_adds_150 ?_
                    refine lv_iload_n hx hb dX6_adds_153 rfl (lv_at hl 2 rfl) ?_
                    refine ml5 (v := σ 5 k0) hx hb hK hP (by omega) rfl dX6_adds_154 ?_
                    refine ln_iadd hx hb dX6_adds_155 (fun z155 hz155 => ?_)
                    refine lv_goto (tgt := 160) hx hb dX6_adds_156 (by decide) ?_
                    exact K160 z155 (by rw [if_pos (by omega), hz155, hw z147 (by omega), if_neg (by omega), hz147]) H locs hP hD hS ls (lv_sub hl [1, 2, 3, 4, 5, 6, 7] rfl)
        refine lv_sipush (v := nI 1727) hx hb dX6_adds_85 (by decide) ?_
        refine lv_istore (lv' := [(6, .int (nI 1727)), (5, .int (nI le)), (4, .int (nI v2)), (0, .ref (ad 0)), (1, .int (nI k0)), (2, .int (nI v)), (3, .int (nI v1))]) hx hb dX6_adds_88 hl (by decide) rfl (fun ls hl => ?_)
        exact K90 _ 0 (nI 1727) wo (Nat.lt_succ_self _) (by omega) (by decide) (fun j hj => by rw [if_neg (by omega)]) H locs hP hD hS ls (lv_sub hl [3, 4, 5, 6, 2, 1, 0] rfl)
      refine lv_iconst (v := nI 2) hx hb dX6_adds_50 (by decide) ?_
      refine lv_aload_n hx hb dX6_adds_51 rfl (lv_at hl 1 rfl) ?_
      refine mg (v := .ref (ad 3)) hx hb hts fX6_adds_6 hown hK hP 3 (by decide) kX6_adds_52 rfl rfl dX6_adds_52 ?_
      refine lv_iload_n hx hb dX6_adds_55 rfl (lv_at hl 2 rfl) ?_
      refine ml3 (v := σ 3 k0) hx hb hK hP (by omega) rfl dX6_adds_56 ?_
      refine lv_aload_n hx hb dX6_adds_57 rfl (lv_at hl 1 rfl) ?_
      refine mg (v := .ref (ad 4)) hx hb hts fX6_adds_6 hown hK hP 4 (by decide) kX6_adds_58 rfl rfl dX6_adds_58 ?_
      refine lv_iload_n hx hb dX6_adds_61 rfl (lv_at hl 2 rfl) ?_
      refine ml4 (v := σ 4 k0) hx hb hK hP (by omega) rfl dX6_adds_62 ?_
      refine ro_calliB (va_runS (As := [.int (nI 2), .int (nI (σ 3 k0)), .int (nI (σ 4 k0))]) (rest := []) ⟨hx, hb, hml, hown, hts⟩ (c_X6_isIn l D cy ((nI 2)) ((nI (σ 3 k0))) ((nI (σ 4 k0))) H va_P0) (va_cwS 3 hts gX6_adds_X6_isIn rfl rfl rfl hdX6_isIn.2 ⟨Nat.le_of_ble_eq_true rfl, Nat.le_of_ble_eq_true rfl⟩) (ro_pre hK rfl) rfl rfl hl.1 rfl (lv_room (Nat.le_of_ble_eq_true rfl)) dX6_adds_63 ⟨Nat.le_of_ble_eq_true rfl, Nat.le_of_ble_eq_true rfl⟩) (fun b63 => ?_) (fun b63 => ?_)
      · skip
        refine lv_if_eq (tgt := 73) hx hb dX6_adds_66 (by decide) (fun q => by first | exact absurd q (by decide) | exact absurd (by decide) q) (fun _ => ?_)
        refine lv_iconst (v := nI 1) hx hb dX6_adds_69 (by decide) ?_
        refine lv_goto (tgt := 74) hx hb dX6_adds_70 (by decide) ?_
        exact K74 1 (dA_t (by omega) (by omega) (by decide) b63) H locs hP hD hS ls (lv_sub hl [1, 2, 3, 0] rfl)
      · skip
        refine lv_if_eq (tgt := 73) hx hb dX6_adds_66 (by decide) (fun _ => ?_) (fun q => by first | exact absurd q (by decide) | exact absurd (by decide) q)
        refine lv_iconst (v := nI 0) hx hb dX6_adds_73 (by decide) ?_
        exact K74 0 (dA_f (by omega) (by omega) (by decide) b63) H locs hP hD hS ls (lv_sub hl [1, 2, 3, 0] rfl)
    refine lv_iconst (v := nI 1) hx hb dX6_adds_25 (by decide) ?_
    refine lv_aload_n hx hb dX6_adds_26 rfl (lv_at hl 1 rfl) ?_
    refine mg (v := .ref (ad 3)) hx hb hts fX6_adds_6 hown hK hP 3 (by decide) kX6_adds_27 rfl rfl dX6_adds_27 ?_
    refine lv_iload_n hx hb dX6_adds_30 rfl (lv_at hl 2 rfl) ?_
    refine ml3 (v := σ 3 k0) hx hb hK hP (by omega) rfl dX6_adds_31 ?_
    refine lv_aload_n hx hb dX6_adds_32 rfl (lv_at hl 1 rfl) ?_
    refine mg (v := .ref (ad 4)) hx hb hts fX6_adds_6 hown hK hP 4 (by decide) kX6_adds_33 rfl rfl dX6_adds_33 ?_
    refine lv_iload_n hx hb dX6_adds_36 rfl (lv_at hl 2 rfl) ?_
    refine ml4 (v := σ 4 k0) hx hb hK hP (by omega) rfl dX6_adds_37 ?_
    refine ro_calliB (va_runS (As := [.int (nI 1), .int (nI (σ 3 k0)), .int (nI (σ 4 k0))]) (rest := []) ⟨hx, hb, hml, hown, hts⟩ (c_X6_isIn l D cy ((nI 1)) ((nI (σ 3 k0))) ((nI (σ 4 k0))) H va_P0) (va_cwS 3 hts gX6_adds_X6_isIn rfl rfl rfl hdX6_isIn.2 ⟨Nat.le_of_ble_eq_true rfl, Nat.le_of_ble_eq_true rfl⟩) (ro_pre hK rfl) rfl rfl hl.1 rfl (lv_room (Nat.le_of_ble_eq_true rfl)) dX6_adds_38 ⟨Nat.le_of_ble_eq_true rfl, Nat.le_of_ble_eq_true rfl⟩) (fun b38 => ?_) (fun b38 => ?_)
    · skip
      refine lv_if_eq (tgt := 48) hx hb dX6_adds_41 (by decide) (fun q => by first | exact absurd q (by decide) | exact absurd (by decide) q) (fun _ => ?_)
      refine lv_iconst (v := nI 1) hx hb dX6_adds_44 (by decide) ?_
      refine lv_goto (tgt := 49) hx hb dX6_adds_45 (by decide) ?_
      exact K49 1 (dA_t (by omega) (by omega) (by decide) b38) H locs hP hD hS ls (lv_sub hl [1, 2, 0] rfl)
    · skip
      refine lv_if_eq (tgt := 48) hx hb dX6_adds_41 (by decide) (fun _ => ?_) (fun q => by first | exact absurd q (by decide) | exact absurd (by decide) q)
      refine lv_iconst (v := nI 0) hx hb dX6_adds_48 (by decide) ?_
      exact K49 0 (dA_f (by omega) (by omega) (by decide) b38) H locs hP hD hS ls (lv_sub hl [1, 2, 0] rfl)
  refine lv_iconst (v := nI 0) hx hb dX6_adds_0 (by decide) ?_
  refine lv_aload_n hx hb dX6_adds_1 rfl (lv_at hl 0 rfl) ?_
  refine mg (v := .ref (ad 3)) hx hb hts fX6_adds_6 hown hK hP 3 (by decide) kX6_adds_2 rfl rfl dX6_adds_2 ?_
  refine lv_iload_n hx hb dX6_adds_5 rfl (lv_at hl 1 rfl) ?_
  refine ml3 (v := σ 3 k0) hx hb hK hP (by omega) rfl dX6_adds_6 ?_
  refine lv_aload_n hx hb dX6_adds_7 rfl (lv_at hl 0 rfl) ?_
  refine mg (v := .ref (ad 4)) hx hb hts fX6_adds_6 hown hK hP 4 (by decide) kX6_adds_8 rfl rfl dX6_adds_8 ?_
  refine lv_iload_n hx hb dX6_adds_11 rfl (lv_at hl 1 rfl) ?_
  refine ml4 (v := σ 4 k0) hx hb hK hP (by omega) rfl dX6_adds_12 ?_
  refine ro_calliB (va_runS (As := [.int (nI 0), .int (nI (σ 3 k0)), .int (nI (σ 4 k0))]) (rest := []) ⟨hx, hb, hml, hown, hts⟩ (c_X6_isIn l D cy ((nI 0)) ((nI (σ 3 k0))) ((nI (σ 4 k0))) H va_P0) (va_cwS 3 hts gX6_adds_X6_isIn rfl rfl rfl hdX6_isIn.2 ⟨Nat.le_of_ble_eq_true rfl, Nat.le_of_ble_eq_true rfl⟩) (ro_pre hK rfl) rfl rfl hl.1 rfl (lv_room (Nat.le_of_ble_eq_true rfl)) dX6_adds_13 ⟨Nat.le_of_ble_eq_true rfl, Nat.le_of_ble_eq_true rfl⟩) (fun b13 => ?_) (fun b13 => ?_)
  · skip
    refine lv_if_eq (tgt := 23) hx hb dX6_adds_16 (by decide) (fun q => by first | exact absurd q (by decide) | exact absurd (by decide) q) (fun _ => ?_)
    refine lv_iconst (v := nI 1) hx hb dX6_adds_19 (by decide) ?_
    refine lv_goto (tgt := 24) hx hb dX6_adds_20 (by decide) ?_
    exact K24 1 (dA_t (by omega) (by omega) (by decide) b13) H locs hP hD hS ls (lv_sub hl [0, 1] rfl)
  · skip
    refine lv_if_eq (tgt := 23) hx hb dX6_adds_16 (by decide) (fun _ => ?_) (fun q => by first | exact absurd q (by decide) | exact absurd (by decide) q)
    refine lv_iconst (v := nI 0) hx hb dX6_adds_23 (by decide) ?_
    exact K24 0 (dA_f (by omega) (by omega) (by decide) b13) H locs hP hD hS ls (lv_sub hl [0, 1] rfl)
