theorem row_s {e F G : Nat → Nat} {k z : Nat} (he : e = fun j => if j < k then G j else F j) (hz : z = G k) : va_up e k z = fun j => if j < k + 1 then G j else F j := by
  funext j
  rw [up_if, he]; dsimp only
  by_cases q : j = k
  · subst q; rw [if_pos rfl, if_pos (by omega), hz]
  · rw [if_neg q]
    by_cases q2 : j < k
    · rw [if_pos q2, if_pos (by omega)]
    · rw [if_neg q2, if_neg (by omega)]
theorem row_0 {F G : Nat → Nat} : F = fun j => if j < 0 then G j else F j := by funext j; rw [if_neg (by omega)]
theorem tab_s {e F A : Nat → Nat} {k i z : Nat} (he : e = fun j => if j / 21 < k ∧ j % 21 = min (A (j / 21)) 20 then F j + 1 else F j) (hi : i = 21 * k + min (A k) 20) (hz : z = e i + 1) : va_up e i z = fun j => if j / 21 < k + 1 ∧ j % 21 = min (A (j / 21)) 20 then F j + 1 else F j := by
  funext j
  rw [up_if]
  by_cases q : j = i
  · subst q
    have h1 : j / 21 = k := by omega
    have h2 : j % 21 = min (A k) 20 := by omega
    rw [if_pos rfl, hz, he]; dsimp only
    rw [if_neg (by rw [h1]; omega), if_pos (by rw [h1]; exact ⟨by omega, h2⟩)]
  · rw [if_neg q, he]; dsimp only
    by_cases q2 : j / 21 < k ∧ j % 21 = min (A (j / 21)) 20
    · rw [if_pos q2, if_pos ⟨by omega, q2.2⟩]
    · rw [if_neg q2, if_neg]
      rintro ⟨h1, h2⟩
      by_cases h3 : j / 21 < k
      · exact q2 ⟨h3, h2⟩
      · have h4 : j / 21 = k := by omega
        rw [h4] at h2
        exact q (by omega)
theorem tab_0 {F A : Nat → Nat} : F = fun j => if j / 21 < 0 ∧ j % 21 = min (A (j / 21)) 20 then F j + 1 else F j := by funext j; rw [if_neg (by omega)]
set_option maxHeartbeats 4000000 in
set_option maxRecDepth 100000 in
theorem c_X6_group (l : Launch) (D : va_G) (cy : Nat → ClassId) (ad : Nat → Nat) (σ : SF) (er : Int64) (wo : Nat → Nat) (th : Nat) {n : Nat} (hI : Iv n σ) (f t q g : Int32) : cMI l D cy yX6_group wsX6_group rmX6_group [.ref (ad 0), .int f, .int t, .int q, .int g] (WM ad cy σ er wo th) (T := Nat × SF × (Nat → Nat)) (fun u => WM ad cy u.2.1 er u.2.2 u.1) (fun r u => (¬ (okR f 0 2 ∧ okR t 0 2) ∧ u.1 = 1 ∧ u.2.1 = σ) ∨ ((okR f 0 2 ∧ okR t 0 2) ∧ ¬ (f ≤ t ∧ okR q 1 10 ∧ okR g 1 3000) ∧ u.1 = 2 ∧ u.2.1 = σ) ∨ ((okR f 0 2 ∧ okR t 0 2) ∧ (f ≤ t ∧ okR q 1 10 ∧ okR g 1 3000) ∧ σ 0 3 = 60 ∧ u.1 = 3 ∧ u.2.1 = σ) ∨ ((okR f 0 2 ∧ okR t 0 2) ∧ (f ≤ t ∧ okR q 1 10 ∧ okR g 1 3000) ∧ ¬ σ 0 3 = 60 ∧ u.1 = 0 ∧ grpA σ (cN f) (cN t) (cN q) (cN g) r u.2.1)) 0 0 := by
  refine cMI.of (cc := cX6_group) (maxL := 7) (by decide) rfl (Nat.le_of_ble_eq_true rfl) (Or.inl rfl) ?_
  intro p e s m args below meth c H0 A Q hx hb hml hown hts hP hK hD hS hA hret ls hl
  obtain ⟨H, locs, hH, hlo⟩ : ∃ (H : Heap) (locs : List Loc), H = H0 ∧ locs = [] := ⟨_, _, rfl, rfl⟩
  rw [← hH] at hP
  rw [show va_S A H0 H0 [] = va_S A H0 H locs by rw [hH, hlo]] at hS
  rw [show W p l e rmX6_group s m args below meth c H0 [] 0 0 Q (F0 m 0 ls []) = W p l e rmX6_group s m args below meth c H locs 0 0 Q (F0 m 0 ls []) by rw [hH, hlo]]
  have K19 : ∀ (v : Nat), (pV v (okR f 0 2 ∧ okR t 0 2)) → ∀ (H : Heap) (locs : List Loc), va_P D vwCl (WM ad cy σ er wo th) H → va_D A (WM ad cy σ er wo th) → va_S A H0 H locs → ∀ ls : Array Slot, lv_has ls 7 [(0, .ref (ad 0)), (1, .int f), (2, .int t), (3, .int q), (4, .int g)] → W p l e rmX6_group s m args below meth c H locs 0 0 Q (F0 m 19 ls [.int (nI v)]) := by
    intro v hv H locs hP hD hS ls hl
    have hvl := hv.le
    refine lv_istore (lv' := [(5, .int (nI v)), (0, .ref (ad 0)), (1, .int f), (2, .int t), (3, .int q), (4, .int g)]) hx hb dX6_group_19 hl (by decide) rfl (fun ls hl => ?_)
    have K53 : ∀ (v2 : Nat), (pV v2 (f ≤ t ∧ okR q 1 10 ∧ okR g 1 3000)) → ∀ (H : Heap) (locs : List Loc), va_P D vwCl (WM ad cy σ er wo th) H → va_D A (WM ad cy σ er wo th) → va_S A H0 H locs → ∀ ls : Array Slot, lv_has ls 7 [(0, .ref (ad 0)), (1, .int f), (2, .int t), (3, .int q), (4, .int g), (5, .int (nI v))] → W p l e rmX6_group s m args below meth c H locs 0 0 Q (F0 m 53 ls [.int (nI v2)]) := by
      intro v2 hv2 H locs hP hD hS ls hl
      have hvl2 := hv2.le
      have hnb := hI.nb
      refine lv_istore (lv' := [(6, .int (nI v2)), (0, .ref (ad 0)), (1, .int f), (2, .int t), (3, .int q), (4, .int g), (5, .int (nI v))]) hx hb dX6_group_53 hl (by decide) rfl (fun ls hl => ?_)
      refine lv_aload_n hx hb dX6_group_55 rfl (lv_at hl 1 rfl) ?_
      refine lv_iload hx hb dX6_group_56 (lv_at hl 6 rfl) ?_
      refine ln_if_ne (tgt := 65) hx hb (by omega) dX6_group_58 (by decide) (fun c58 => ?_) (fun c58 => ?_)
      · skip
        have hL := hv.yes c58
        refine lv_iload hx hb dX6_group_65 (lv_at hl 0 rfl) ?_
        refine ln_if_ne (tgt := 74) hx hb (by omega) dX6_group_67 (by decide) (fun c67 => ?_) (fun c67 => ?_)
        · skip
          have hR := hv2.yes c67
          refine lv_aload_n hx hb dX6_group_74 rfl (lv_at hl 1 rfl) ?_
          refine mg (v := .int (nI (σ 0 3))) hx hb hts fX6_group_6 hown hK hP 12 (by decide) kX6_group_75 rfl rfl dX6_group_75 ?_
          refine lv_bipush (v := nI 60) hx hb dX6_group_78 (by decide) ?_
          refine ln_icmp_ne (tgt := 87) hx hb (by omega) (by omega) dX6_group_80 (by decide) (fun c80 => ?_) (fun c80 => ?_)
          · skip
            refine lv_iconst (v := nI 0) hx hb dX6_group_87 (by decide) ?_
            refine mw_calli (va_runV (As := [.int (nI 0)]) (rest := []) ⟨hx, hb, hml, hown, hts⟩ (c_X6_fails l D cy ad σ er wo th 0 (by omega) H.size) (cwV 1 hts gX6_group_X6_fails rfl rfl rfl hdX6_fails ⟨Nat.le_of_ble_eq_true rfl, Nat.le_of_ble_eq_true rfl⟩) (mo_preV hK rfl hP hD (va_recv hK.1 hP (ci := 6) (q0 := 0) rfl rfl)) rfl rfl hl.1 rfl (lv_room (Nat.le_of_ble_eq_true rfl)) dX6_group_88 ⟨Nat.le_of_ble_eq_true rfl, Nat.le_of_ble_eq_true rfl⟩) hS hD hA (fun r _ H locs hr hP hD hS => ?_)
            rcases hr with ⟨b88, rfl⟩ | ⟨b88, rfl⟩
            · skip
              exact absurd b88 (by decide)
            · skip
              have hL1 := hL.1
              have hL2 := hL.2
              have hR2 := hR.2.1
              have hR3 := hR.2.2
              obtain ⟨f1, hf1a, hf1b, rfl⟩ := okR_nat (a := 0) (b := 2) hL1 (by decide) (by decide)
              obtain ⟨t1, ht1a, ht1b, rfl⟩ := okR_nat (a := 0) (b := 2) hL2 (by decide) (by decide)
              obtain ⟨q1, hq1a, hq1b, rfl⟩ := okR_nat (a := 1) (b := 10) hR2 (by decide) (by decide)
              obtain ⟨g1, hg1a, hg1b, rfl⟩ := okR_nat (a := 1) (b := 3000) hR3 (by decide) (by decide)
              have hft := (nI_leI (by omega) (by omega)).mp hR.1
              refine lv_if_eq (tgt := 96) hx hb dX6_group_91 (by decide) (fun _ => ?_) (fun q => by first | exact absurd q (by decide) | exact absurd (by decide) q)
              refine lv_aload_n hx hb dX6_group_96 rfl (lv_at hl 1 rfl) ?_
              refine lv_iload_n hx hb dX6_group_97 rfl (lv_at hl 2 rfl) ?_
              refine lv_iload_n hx hb dX6_group_98 rfl (lv_at hl 3 rfl) ?_
              refine lv_iload_n hx hb dX6_group_99 rfl (lv_at hl 4 rfl) ?_
              refine ro_calliB (va_runV (As := [.int (nI f1), .int (nI t1), .int (nI q1)]) (rest := []) ⟨hx, hb, hml, hown, hts⟩ (c_X6_isTooFull l D cy ad σ er wo 0 hI f1 t1 q1 (by omega) (by omega) (by omega) H hP) (cwV 3 hts gX6_group_X6_isTooFull rfl rfl rfl hdX6_isTooFull ⟨Nat.le_of_ble_eq_true rfl, Nat.le_of_ble_eq_true rfl⟩) (ro_preV hK (va_recv hK.1 hP (ci := 6) (q0 := 0) rfl rfl)) rfl rfl hl.1 rfl (lv_room (Nat.le_of_ble_eq_true rfl)) dX6_group_100 ⟨Nat.le_of_ble_eq_true rfl, Nat.le_of_ble_eq_true rfl⟩) (fun b100 => ?_) (fun b100 => ?_)
              · skip
                refine lv_if_eq (tgt := 112) hx hb dX6_group_103 (by decide) (fun q => by first | exact absurd q (by decide) | exact absurd (by decide) q) (fun _ => ?_)
                refine lv_aload_n hx hb dX6_group_106 rfl (lv_at hl 1 rfl) ?_
                refine lv_iconst (v := -1) hx hb dX6_group_107 (by decide) ?_
                refine mw_calli (va_runV (As := [.int ((-1))]) (rest := []) ⟨hx, hb, hml, hown, hts⟩ (c_X6_refuses l D cy ad σ er wo 0 (-1) 1 (by decide) (by decide) H.size) (cwV 1 hts gX6_group_X6_refuses rfl rfl rfl hdX6_refuses ⟨Nat.le_of_ble_eq_true rfl, Nat.le_of_ble_eq_true rfl⟩) (mo_preV hK rfl hP hD (va_recv hK.1 hP (ci := 6) (q0 := 0) rfl rfl)) rfl rfl hl.1 rfl (lv_room (Nat.le_of_ble_eq_true rfl)) dX6_group_108 ⟨Nat.le_of_ble_eq_true rfl, Nat.le_of_ble_eq_true rfl⟩) hS hD hA (fun z108 _ H locs hz108 hP hD hS => ?_)
                exact hret (0, (rfF σ 1), wo) dX6_group_111 hP hD hS (Or.inr (Or.inr (Or.inr ⟨hL, hR, c80, rfl, by rw [cN_nI (by omega), cN_nI (by omega), cN_nI (by omega), cN_nI (by omega)]; exact Or.inl ⟨b100, hz108, rfl⟩⟩)))
              · skip
                refine lv_if_eq (tgt := 112) hx hb dX6_group_103 (by decide) (fun _ => ?_) (fun q => by first | exact absurd q (by decide) | exact absurd (by decide) q)
                refine lv_aload_n hx hb dX6_group_112 rfl (lv_at hl 1 rfl) ?_
                refine mw_callv (va_runV (As := []) (rest := []) ⟨hx, hb, hml, hown, hts⟩ (c_X6_finds l D cy ad σ er wo 0 hI H.size) (cwV 0 hts gX6_group_X6_finds rfl rfl rfl hdX6_finds ⟨Nat.le_of_ble_eq_true rfl, Nat.le_of_ble_eq_true rfl⟩) (mo_preV hK rfl hP hD (va_recv hK.1 hP (ci := 6) (q0 := 0) rfl rfl)) rfl rfl hl.1 rfl (lv_room (Nat.le_of_ble_eq_true rfl)) dX6_group_113 ⟨Nat.le_of_ble_eq_true rfl, Nat.le_of_ble_eq_true rfl⟩) hS hD hA (fun u H locs hr113 hP hD hS => ?_)
                have hT := hr113
                refine lv_iload hx hb dX6_group_116 (lv_at hl 5 rfl) ?_
                refine lv_iload_n hx hb dX6_group_118 rfl (lv_at hl 4 rfl) ?_
                refine ln_imul hx hb dX6_group_119 (fun z119 hz119 => ?_)
                have hz119b : z119 ≤ 30000 := by rw [hz119]; have := Nat.mul_le_mul hg1b hq1b; omega
                refine lv_aload_n hx hb dX6_group_120 rfl (lv_at hl 1 rfl) ?_
                refine lv_iload_n hx hb dX6_group_121 rfl (lv_at hl 2 rfl) ?_
                refine lv_iload_n hx hb dX6_group_122 rfl (lv_at hl 3 rfl) ?_
                refine lv_iload_n hx hb dX6_group_123 rfl (lv_at hl 4 rfl) ?_
                refine ro_calli (va_runV (As := [.int (nI f1), .int (nI t1), .int (nI q1)]) (rest := [.int (nI z119)]) ⟨hx, hb, hml, hown, hts⟩ (c_X6_displaces l D cy ad σ er u 0 hI hT f1 t1 q1 (by omega) (by omega) (by omega) (fun j h1 h2 => Nat.le_of_not_lt (fun z => b100 ⟨j, h1, h2, z⟩)) H hP) (cwV 3 hts gX6_group_X6_displaces rfl rfl rfl hdX6_displaces ⟨Nat.le_of_ble_eq_true rfl, Nat.le_of_ble_eq_true rfl⟩) (ro_preV hK (va_recv hK.1 hP (ci := 6) (q0 := 0) rfl rfl)) rfl rfl hl.1 rfl (lv_room (Nat.le_of_ble_eq_true rfl)) dX6_group_124 ⟨Nat.le_of_ble_eq_true rfl, Nat.le_of_ble_eq_true rfl⟩) (fun z124 hz124 => ?_)
                refine lv_icmp_ge (tgt := 139) hx hb dX6_group_127 (by decide) (fun c127 => ?_) (fun c127 => ?_)
                · skip
                  refine lv_aload_n hx hb dX6_group_139 rfl (lv_at hl 1 rfl) ?_
                  refine lv_iload_n hx hb dX6_group_140 rfl (lv_at hl 2 rfl) ?_
                  refine lv_iload_n hx hb dX6_group_141 rfl (lv_at hl 3 rfl) ?_
                  refine lv_iload_n hx hb dX6_group_142 rfl (lv_at hl 4 rfl) ?_
                  refine lv_iload hx hb dX6_group_143 (lv_at hl 5 rfl) ?_
                  refine lv_iload_n hx hb dX6_group_145 rfl (lv_at hl 4 rfl) ?_
                  refine ln_imul hx hb dX6_group_146 (fun z146 hz146 => ?_)
                  refine mw_calli (va_runV (As := [.int (nI f1), .int (nI t1), .int (nI q1), .int (nI z146)]) (rest := []) ⟨hx, hb, hml, hown, hts⟩ (c_X6_books l D cy ad σ er u 0 hI f1 t1 q1 z146 (by omega) (by omega) (by omega) H.size) (cwV 4 hts gX6_group_X6_books rfl rfl rfl hdX6_books ⟨Nat.le_of_ble_eq_true rfl, Nat.le_of_ble_eq_true rfl⟩) (mo_preV hK rfl hP hD (va_recv hK.1 hP (ci := 6) (q0 := 0) rfl rfl)) rfl rfl hl.1 rfl (lv_room (Nat.le_of_ble_eq_true rfl)) dX6_group_147 ⟨Nat.le_of_ble_eq_true rfl, Nat.le_of_ble_eq_true rfl⟩) hS hD hA (fun z147 _ H locs hz147 hP hD hS => ?_)
                  rw [hz146] at hP hD
                  exact hret (0, (bookF σ f1 t1 q1 (g1 * q1)), u) dX6_group_150 hP hD hS (Or.inr (Or.inr (Or.inr ⟨hL, hR, c80, rfl, by rw [cN_nI (by omega), cN_nI (by omega), cN_nI (by omega), cN_nI (by omega)]; exact Or.inr (Or.inr ⟨b100, by rw [← hz119, ← hz124]; exact Int32.not_lt.mpr c127, hz147, rfl⟩)⟩)))
                · skip
                  refine lv_aload_n hx hb dX6_group_130 rfl (lv_at hl 1 rfl) ?_
                  refine lv_bipush (v := -3) hx hb dX6_group_131 (by decide) ?_
                  refine mw_calli (va_runV (As := [.int ((-3))]) (rest := []) ⟨hx, hb, hml, hown, hts⟩ (c_X6_refuses l D cy ad σ er u 0 (-3) 3 (by decide) (by decide) H.size) (cwV 1 hts gX6_group_X6_refuses rfl rfl rfl hdX6_refuses ⟨Nat.le_of_ble_eq_true rfl, Nat.le_of_ble_eq_true rfl⟩) (mo_preV hK rfl hP hD (va_recv hK.1 hP (ci := 6) (q0 := 0) rfl rfl)) rfl rfl hl.1 rfl (lv_room (Nat.le_of_ble_eq_true rfl)) dX6_group_133 ⟨Nat.le_of_ble_eq_true rfl, Nat.le_of_ble_eq_true rfl⟩) hS hD hA (fun z133 _ H locs hz133 hP hD hS => ?_)
                  refine lv_goto (tgt := 150) hx hb dX6_group_136 (by decide) ?_
                  exact hret (0, (rfF σ 3), u) dX6_group_150 hP hD hS (Or.inr (Or.inr (Or.inr ⟨hL, hR, c80, rfl, by rw [cN_nI (by omega), cN_nI (by omega), cN_nI (by omega), cN_nI (by omega)]; exact Or.inr (Or.inl ⟨b100, by rw [← hz119, ← hz124]; exact Int32.not_le.mp c127, hz133, rfl⟩)⟩)))
          · skip
            refine lv_iconst (v := nI 3) hx hb dX6_group_83 (by decide) ?_
            refine lv_goto (tgt := 88) hx hb dX6_group_84 (by decide) ?_
            refine mw_calli (va_runV (As := [.int (nI 3)]) (rest := []) ⟨hx, hb, hml, hown, hts⟩ (c_X6_fails l D cy ad σ er wo th 3 (by omega) H.size) (cwV 1 hts gX6_group_X6_fails rfl rfl rfl hdX6_fails ⟨Nat.le_of_ble_eq_true rfl, Nat.le_of_ble_eq_true rfl⟩) (mo_preV hK rfl hP hD (va_recv hK.1 hP (ci := 6) (q0 := 0) rfl rfl)) rfl rfl hl.1 rfl (lv_room (Nat.le_of_ble_eq_true rfl)) dX6_group_88 ⟨Nat.le_of_ble_eq_true rfl, Nat.le_of_ble_eq_true rfl⟩) hS hD hA (fun r _ H locs hr hP hD hS => ?_)
            rcases hr with ⟨b88, rfl⟩ | ⟨b88, rfl⟩
            · skip
              refine lv_if_eq (tgt := 96) hx hb dX6_group_91 (by decide) (fun q => by first | exact absurd q (by decide) | exact absurd (by decide) q) (fun _ => ?_)
              refine lv_iconst (v := nI 0) hx hb dX6_group_94 (by decide) ?_
              exact hret (3, σ, wo) dX6_group_95 hP hD hS (Or.inr (Or.inr (Or.inl ⟨hL, hR, by omega, rfl, rfl⟩)))
            · skip
              exact absurd (by decide) b88
        · skip
          have hR := hv2.no c67
          refine lv_iconst (v := nI 2) hx hb dX6_group_70 (by decide) ?_
          refine lv_goto (tgt := 88) hx hb dX6_group_71 (by decide) ?_
          refine mw_calli (va_runV (As := [.int (nI 2)]) (rest := []) ⟨hx, hb, hml, hown, hts⟩ (c_X6_fails l D cy ad σ er wo th 2 (by omega) H.size) (cwV 1 hts gX6_group_X6_fails rfl rfl rfl hdX6_fails ⟨Nat.le_of_ble_eq_true rfl, Nat.le_of_ble_eq_true rfl⟩) (mo_preV hK rfl hP hD (va_recv hK.1 hP (ci := 6) (q0 := 0) rfl rfl)) rfl rfl hl.1 rfl (lv_room (Nat.le_of_ble_eq_true rfl)) dX6_group_88 ⟨Nat.le_of_ble_eq_true rfl, Nat.le_of_ble_eq_true rfl⟩) hS hD hA (fun r _ H locs hr hP hD hS => ?_)
          rcases hr with ⟨b88, rfl⟩ | ⟨b88, rfl⟩
          · skip
            refine lv_if_eq (tgt := 96) hx hb dX6_group_91 (by decide) (fun q => by first | exact absurd q (by decide) | exact absurd (by decide) q) (fun _ => ?_)
            refine lv_iconst (v := nI 0) hx hb dX6_group_94 (by decide) ?_
            exact hret (2, σ, wo) dX6_group_95 hP hD hS (Or.inr (Or.inl ⟨hL, hR, rfl, rfl⟩))
          · skip
            exact absurd (by decide) b88
      · skip
        have hL := hv.no c58
        refine lv_iconst (v := nI 1) hx hb dX6_group_61 (by decide) ?_
        refine lv_goto (tgt := 88) hx hb dX6_group_62 (by decide) ?_
        refine mw_calli (va_runV (As := [.int (nI 1)]) (rest := []) ⟨hx, hb, hml, hown, hts⟩ (c_X6_fails l D cy ad σ er wo th 1 (by omega) H.size) (cwV 1 hts gX6_group_X6_fails rfl rfl rfl hdX6_fails ⟨Nat.le_of_ble_eq_true rfl, Nat.le_of_ble_eq_true rfl⟩) (mo_preV hK rfl hP hD (va_recv hK.1 hP (ci := 6) (q0 := 0) rfl rfl)) rfl rfl hl.1 rfl (lv_room (Nat.le_of_ble_eq_true rfl)) dX6_group_88 ⟨Nat.le_of_ble_eq_true rfl, Nat.le_of_ble_eq_true rfl⟩) hS hD hA (fun r _ H locs hr hP hD hS => ?_)
        rcases hr with ⟨b88, rfl⟩ | ⟨b88, rfl⟩
        · skip
          refine lv_if_eq (tgt := 96) hx hb dX6_group_91 (by decide) (fun q => by first | exact absurd q (by decide) | exact absurd (by decide) q) (fun _ => ?_)
          refine lv_iconst (v := nI 0) hx hb dX6_group_94 (by decide) ?_
          exact hret (1, σ, wo) dX6_group_95 hP hD hS (Or.inl ⟨hL, rfl, rfl⟩)
        · skip
          exact absurd (by decide) b88
    refine lv_iload_n hx hb dX6_group_21 rfl (lv_at hl 3 rfl) ?_
    refine lv_iload_n hx hb dX6_group_22 rfl (lv_at hl 2 rfl) ?_
    refine lv_icmp_lt (tgt := 52) hx hb dX6_group_23 (by decide) (fun c23 => ?_) (fun c23 => ?_)
    · skip
      refine lv_iconst (v := nI 0) hx hb dX6_group_52 (by decide) ?_
      exact K53 0 (pV.f (fun z => by first | exact absurd z.1 (Int32.not_le.mpr c23) | exact b30 z.2.1 | exact b42 z.2.2)) H locs hP hD hS ls (lv_sub hl [1, 2, 3, 4, 5, 0] rfl)
    · skip
      refine lv_iload_n hx hb dX6_group_26 rfl (lv_at hl 4 rfl) ?_
      refine lv_iconst (v := nI 1) hx hb dX6_group_27 (by decide) ?_
      refine lv_bipush (v := nI 10) hx hb dX6_group_28 (by decide) ?_
      refine ro_calliB (va_runS (As := [.int q, .int (nI 1), .int (nI 10)]) (rest := []) ⟨hx, hb, hml, hown, hts⟩ (c_X6_isIn l D cy (q) ((nI 1)) ((nI 10)) H va_P0) (va_cwS 3 hts gX6_group_X6_isIn rfl rfl rfl hdX6_isIn.2 ⟨Nat.le_of_ble_eq_true rfl, Nat.le_of_ble_eq_true rfl⟩) (ro_pre hK rfl) rfl rfl hl.1 rfl (lv_room (Nat.le_of_ble_eq_true rfl)) dX6_group_30 ⟨Nat.le_of_ble_eq_true rfl, Nat.le_of_ble_eq_true rfl⟩) (fun b30 => ?_) (fun b30 => ?_)
      · skip
        refine lv_if_eq (tgt := 52) hx hb dX6_group_33 (by decide) (fun q => by first | exact absurd q (by decide) | exact absurd (by decide) q) (fun _ => ?_)
        refine lv_iload hx hb dX6_group_36 (lv_at hl 5 rfl) ?_
        refine lv_iconst (v := nI 1) hx hb dX6_group_38 (by decide) ?_
        refine lv_sipush (v := nI 3000) hx hb dX6_group_39 (by decide) ?_
        refine ro_calliB (va_runS (As := [.int g, .int (nI 1), .int (nI 3000)]) (rest := []) ⟨hx, hb, hml, hown, hts⟩ (c_X6_isIn l D cy (g) ((nI 1)) ((nI 3000)) H va_P0) (va_cwS 3 hts gX6_group_X6_isIn rfl rfl rfl hdX6_isIn.2 ⟨Nat.le_of_ble_eq_true rfl, Nat.le_of_ble_eq_true rfl⟩) (ro_pre hK rfl) rfl rfl hl.1 rfl (lv_room (Nat.le_of_ble_eq_true rfl)) dX6_group_42 ⟨Nat.le_of_ble_eq_true rfl, Nat.le_of_ble_eq_true rfl⟩) (fun b42 => ?_) (fun b42 => ?_)
        · skip
          refine lv_if_eq (tgt := 52) hx hb dX6_group_45 (by decide) (fun q => by first | exact absurd q (by decide) | exact absurd (by decide) q) (fun _ => ?_)
          refine lv_iconst (v := nI 1) hx hb dX6_group_48 (by decide) ?_
          refine lv_goto (tgt := 53) hx hb dX6_group_49 (by decide) ?_
          exact K53 1 (pV.t ⟨Int32.not_lt.mp c23, b30, b42⟩) H locs hP hD hS ls (lv_sub hl [1, 2, 3, 4, 5, 0] rfl)
        · skip
          refine lv_if_eq (tgt := 52) hx hb dX6_group_45 (by decide) (fun _ => ?_) (fun q => by first | exact absurd q (by decide) | exact absurd (by decide) q)
          refine lv_iconst (v := nI 0) hx hb dX6_group_52 (by decide) ?_
          exact K53 0 (pV.f (fun z => by first | exact absurd z.1 (Int32.not_le.mpr c23) | exact b30 z.2.1 | exact b42 z.2.2)) H locs hP hD hS ls (lv_sub hl [1, 2, 3, 4, 5, 0] rfl)
      · skip
        refine lv_if_eq (tgt := 52) hx hb dX6_group_33 (by decide) (fun _ => ?_) (fun q => by first | exact absurd q (by decide) | exact absurd (by decide) q)
        refine lv_iconst (v := nI 0) hx hb dX6_group_52 (by decide) ?_
        exact K53 0 (pV.f (fun z => by first | exact absurd z.1 (Int32.not_le.mpr c23) | exact b30 z.2.1 | exact b42 z.2.2)) H locs hP hD hS ls (lv_sub hl [1, 2, 3, 4, 5, 0] rfl)
  refine lv_iload_n hx hb dX6_group_0 rfl (lv_at hl 1 rfl) ?_
  refine ro_calliB (va_runS (As := [.int f]) (rest := []) ⟨hx, hb, hml, hown, hts⟩ (c_X6_isLeg l D cy (f) H va_P0) (va_cwS 1 hts gX6_group_X6_isLeg rfl rfl rfl hdX6_isLeg.2 ⟨Nat.le_of_ble_eq_true rfl, Nat.le_of_ble_eq_true rfl⟩) (ro_pre hK rfl) rfl rfl hl.1 rfl (lv_room (Nat.le_of_ble_eq_true rfl)) dX6_group_1 ⟨Nat.le_of_ble_eq_true rfl, Nat.le_of_ble_eq_true rfl⟩) (fun b1 => ?_) (fun b1 => ?_)
  · skip
    refine lv_if_eq (tgt := 18) hx hb dX6_group_4 (by decide) (fun q => by first | exact absurd q (by decide) | exact absurd (by decide) q) (fun _ => ?_)
    refine lv_iload_n hx hb dX6_group_7 rfl (lv_at hl 2 rfl) ?_
    refine ro_calliB (va_runS (As := [.int t]) (rest := []) ⟨hx, hb, hml, hown, hts⟩ (c_X6_isLeg l D cy (t) H va_P0) (va_cwS 1 hts gX6_group_X6_isLeg rfl rfl rfl hdX6_isLeg.2 ⟨Nat.le_of_ble_eq_true rfl, Nat.le_of_ble_eq_true rfl⟩) (ro_pre hK rfl) rfl rfl hl.1 rfl (lv_room (Nat.le_of_ble_eq_true rfl)) dX6_group_8 ⟨Nat.le_of_ble_eq_true rfl, Nat.le_of_ble_eq_true rfl⟩) (fun b8 => ?_) (fun b8 => ?_)
    · skip
      refine lv_if_eq (tgt := 18) hx hb dX6_group_11 (by decide) (fun q => by first | exact absurd q (by decide) | exact absurd (by decide) q) (fun _ => ?_)
      refine lv_iconst (v := nI 1) hx hb dX6_group_14 (by decide) ?_
      refine lv_goto (tgt := 19) hx hb dX6_group_15 (by decide) ?_
      exact K19 1 (pV.t ⟨b1, b8⟩) H locs hP hD hS ls (lv_sub hl [0, 1, 2, 3, 4] rfl)
    · skip
      refine lv_if_eq (tgt := 18) hx hb dX6_group_11 (by decide) (fun _ => ?_) (fun q => by first | exact absurd q (by decide) | exact absurd (by decide) q)
      refine lv_iconst (v := nI 0) hx hb dX6_group_18 (by decide) ?_
      exact K19 0 (pV.f (fun z => by first | exact b1 z.1 | exact b8 z.2)) H locs hP hD hS ls (lv_sub hl [0, 1, 2, 3, 4] rfl)
  · skip
    refine lv_if_eq (tgt := 18) hx hb dX6_group_4 (by decide) (fun _ => ?_) (fun q => by first | exact absurd q (by decide) | exact absurd (by decide) q)
    refine lv_iconst (v := nI 0) hx hb dX6_group_18 (by decide) ?_
    exact K19 0 (pV.f (fun z => by first | exact b1 z.1 | exact b8 z.2)) H locs hP hD hS ls (lv_sub hl [0, 1, 2, 3, 4] rfl)
set_option maxHeartbeats 4000000 in
set_option maxRecDepth 100000 in
theorem c_X6_endDay (l : Launch) (D : va_G) (cy : Nat → ClassId) (ad : Nat → Nat) (σ : SF) (er : Int64) (wo : Nat → Nat) (th : Nat) {n : Nat} (hI : Iv n σ) (hn : n < 512) (v : Int32) : cMI l D cy yX6_endDay wsX6_endDay rmX6_endDay [.ref (ad 0), .int v] (WM ad cy σ er wo th) (T := Nat × SF × Int64) (fun u => WM ad cy u.2.1 u.2.2 wo u.1) (fun r u => (okR v 0 100 ∧ u = (0, enF σ, enE σ er (cN v)) ∧ r = nI (den σ (cN v) 3)) ∨ (¬ okR v 0 100 ∧ u = (1, σ, er))) 0 0 := by
  refine cMI.of (cc := cX6_endDay) (maxL := 5) (by decide) rfl (Nat.le_of_ble_eq_true rfl) (Or.inl rfl) ?_
  intro p e s m args below meth c H0 A Q hx hb hml hown hts hP hK hD hS hA hret ls hl
  obtain ⟨H, locs, hH, hlo⟩ : ∃ (H : Heap) (locs : List Loc), H = H0 ∧ locs = [] := ⟨_, _, rfl, rfl⟩
  rw [← hH] at hP
  rw [show va_S A H0 H0 [] = va_S A H0 H locs by rw [hH, hlo]] at hS
  rw [show W p l e rmX6_endDay s m args below meth c H0 [] 0 0 Q (F0 m 0 ls []) = W p l e rmX6_endDay s m args below meth c H locs 0 0 Q (F0 m 0 ls []) by rw [hH, hlo]]
  refine lv_aload_n hx hb dX6_endDay_0 rfl (lv_at hl 0 rfl) ?_
  refine lv_iload_n hx hb dX6_endDay_1 rfl (lv_at hl 1 rfl) ?_
  refine lv_iconst (v := nI 0) hx hb dX6_endDay_2 (by decide) ?_
  refine lv_bipush (v := nI 100) hx hb dX6_endDay_3 (by decide) ?_
  refine ro_calliB (va_runS (As := [.int v, .int (nI 0), .int (nI 100)]) (rest := [.ref (ad 0)]) ⟨hx, hb, hml, hown, hts⟩ (c_X6_isIn l D cy (v) ((nI 0)) ((nI 100)) H va_P0) (va_cwS 3 hts gX6_endDay_X6_isIn rfl rfl rfl hdX6_isIn.2 ⟨Nat.le_of_ble_eq_true rfl, Nat.le_of_ble_eq_true rfl⟩) (ro_pre hK rfl) rfl rfl hl.1 rfl (lv_room (Nat.le_of_ble_eq_true rfl)) dX6_endDay_5 ⟨Nat.le_of_ble_eq_true rfl, Nat.le_of_ble_eq_true rfl⟩) (fun b5 => ?_) (fun b5 => ?_)
  · skip
    refine lv_if_eq (tgt := 15) hx hb dX6_endDay_8 (by decide) (fun q => by first | exact absurd q (by decide) | exact absurd (by decide) q) (fun _ => ?_)
    refine lv_iconst (v := nI 0) hx hb dX6_endDay_11 (by decide) ?_
    refine lv_goto (tgt := 16) hx hb dX6_endDay_12 (by decide) ?_
    refine mw_calli (va_runV (As := [.int (nI 0)]) (rest := []) ⟨hx, hb, hml, hown, hts⟩ (c_X6_fails l D cy ad σ er wo th 0 (by omega) H.size) (cwV 1 hts gX6_endDay_X6_fails rfl rfl rfl hdX6_fails ⟨Nat.le_of_ble_eq_true rfl, Nat.le_of_ble_eq_true rfl⟩) (mo_preV hK rfl hP hD (va_recv hK.1 hP (ci := 6) (q0 := 0) rfl rfl)) rfl rfl hl.1 rfl (lv_room (Nat.le_of_ble_eq_true rfl)) dX6_endDay_16 ⟨Nat.le_of_ble_eq_true rfl, Nat.le_of_ble_eq_true rfl⟩) hS hD hA (fun r _ H locs hr hP hD hS => ?_)
    rcases hr with ⟨b16, rfl⟩ | ⟨b16, rfl⟩
    · skip
      exact absurd b16 (by decide)
    · skip
      obtain ⟨sh, hsha, hshb, rfl⟩ := okR_nat (a := 0) (b := 100) b5 (by decide) (by decide)
      refine lv_if_eq (tgt := 24) hx hb dX6_endDay_19 (by decide) (fun _ => ?_) (fun q => by first | exact absurd q (by decide) | exact absurd (by decide) q)
      refine lv_iconst (v := nI 0) hx hb dX6_endDay_24 (by decide) ?_
      refine lv_istore_n (lv' := [(2, .int (nI 0)), (0, .ref (ad 0)), (1, .int (nI sh))]) hx hb dX6_endDay_25 rfl hl (by decide) rfl (fun ls hl => ?_)
      have K28 : ∀ (n28 : Nat) (dd : Nat) (k : Nat) (bk : Nat → Nat), 3 - k < n28 → (dd = den σ sh k) → (dd ≤ 600 * k) → (k ≤ 3) → (bk = (fun j => if j < k then 0 else σ 2 j)) → ∀ (H : Heap) (locs : List Loc), va_P D vwCl (WM ad cy (va_up σ 2 bk) er wo 0) H → va_D A (WM ad cy (va_up σ 2 bk) er wo 0) → va_S A H0 H locs → ∀ ls : Array Slot, lv_has ls 5 [(0, .ref (ad 0)), (1, .int (nI sh)), (2, .int (nI dd)), (3, .int (nI k))] → W p l e rmX6_endDay s m args below meth c H locs 0 0 Q (F0 m 28 ls []) := by
        intro n28
        induction n28 with
        | zero =>
          intro dd k bk hfu
          exact absurd hfu (Nat.not_lt_zero _)
        | succ n28 ih28 =>
          intro dd k bk hfu hdd hddl hk hbk H locs hP hD hS ls hl
          refine lv_iload_n hx hb dX6_endDay_28 rfl (lv_at hl 3 rfl) ?_
          refine lv_iconst (v := nI 3) hx hb dX6_endDay_29 (by decide) ?_
          refine ln_icmp_ge (tgt := 89) hx hb (by omega) (by omega) dX6_endDay_30 (by decide) (fun c30 => ?_) (fun c30 => ?_)
          · skip
            have hk28 : k = 3 := by omega
            refine lv_aload_n hx hb dX6_endDay_89 rfl (lv_at hl 0 rfl) ?_
            refine lv_dup hx hb dX6_endDay_90 rfl ?_
            refine mg (v := .long er) hx hb hts fX6_endDay_6 hown hK hP 19 (by decide) kX6_endDay_91 rfl rfl dX6_endDay_91 ?_
            refine lv_aload_n hx hb dX6_endDay_94 rfl (lv_at hl 0 rfl) ?_
            refine ro_calliN (va_runV (As := []) (rest := [.long er, .ref (ad 0)]) ⟨hx, hb, hml, hown, hts⟩ (c_X6_sold l D cy ad (va_up σ 2 bk) er wo 0 hI.nb (fun b hb => ⟨(hI.bo b hb).2.2.2.1, (hI.bo b hb).2.2.2.2⟩) H hP) (cwV 0 hts gX6_endDay_X6_sold rfl rfl rfl hdX6_sold ⟨Nat.le_of_ble_eq_true rfl, Nat.le_of_ble_eq_true rfl⟩) (ro_preV hK (va_recv hK.1 hP (ci := 6) (q0 := 0) rfl rfl)) rfl rfl hl.1 rfl (lv_room (Nat.le_of_ble_eq_true rfl)) dX6_endDay_95 ⟨Nat.le_of_ble_eq_true rfl, Nat.le_of_ble_eq_true rfl⟩) (fun z95 hz95 => ?_)
            refine lv_bipush (v := nI 100) hx hb dX6_endDay_98 (by decide) ?_
            refine lv_iload_n hx hb dX6_endDay_100 rfl (lv_at hl 2 rfl) ?_
            refine ln_imul hx hb dX6_endDay_101 (fun z101 hz101 => ?_)
            refine lv_isub hx hb dX6_endDay_102 ?_
            refine lv_i2l hx hb dX6_endDay_103 rfl ?_
            refine lv_ladd hx hb dX6_endDay_104 ?_
            refine mp_earned hx hb hts fX6_endDay_6 hown hK hP hD hS kX6_endDay_105 dX6_endDay_105 (fun H locs hP hD hS => ?_)
            refine lv_aload_n hx hb dX6_endDay_108 rfl (lv_at hl 0 rfl) ?_
            refine lv_iconst (v := nI 0) hx hb dX6_endDay_109 (by decide) ?_
            refine mp_bookings hx hb hts fX6_endDay_6 hown hK hP hD hS kX6_endDay_110 dX6_endDay_110 (fun H locs hP hD hS => ?_)
            refine lv_aload_n hx hb dX6_endDay_113 rfl (lv_at hl 0 rfl) ?_
            refine lv_dup hx hb dX6_endDay_114 rfl ?_
            refine mg (v := .int (nI (σ 0 1))) hx hb hts fX6_endDay_6 hown hK hP 10 (by decide) kX6_endDay_115 rfl rfl dX6_endDay_115 ?_
            refine lv_iconst (v := nI 1) hx hb dX6_endDay_118 (by decide) ?_
            refine ln_iadd hx hb dX6_endDay_119 (fun z119 hz119 => ?_)
            refine mp_days hx hb hts fX6_endDay_6 hown hK hP hD hS kX6_endDay_120 dX6_endDay_120 (fun H locs hP hD hS => ?_)
            refine lv_iconst (v := nI 0) hx hb dX6_endDay_123 (by decide) ?_
            obtain ⟨er2, her2⟩ : ∃ z : Int64, z = er + ((nI z95 - nI z101).toInt64) := ⟨_, rfl⟩
            have hP : va_P D vwCl (WM ad cy (va_up (va_up σ 0 (va_up (va_up (σ 0) 3 0) 1 z119)) 2 bk) (er + ((nI z95 - nI z101).toInt64)) wo 0) H := hP
            have hD : va_D A (WM ad cy (va_up (va_up σ 0 (va_up (va_up (σ 0) 3 0) 1 z119)) 2 bk) (er + ((nI z95 - nI z101).toInt64)) wo 0) := hD
            rw [← her2] at hP hD
            have K125 : ∀ (n125 : Nat) (k : Nat) (e6 : Nat → Nat) (e7 : Nat → Nat) (e8 : Nat → Nat) (e9 : Nat → Nat), σ 0 0 - k < n125 → (k ≤ σ 0 0) → (e6 = (fun j => if j < k then (fun j => (σ 8 j + σ 7 j) / (σ 0 1 + 1)) j else σ 6 j)) → (e7 = (fun j => if j < k then (fun _ => 0) j else σ 7 j)) → (e8 = (fun j => if j < k then (fun j => σ 8 j + σ 7 j) j else σ 8 j)) → (e9 = (fun j => if j / 21 < k ∧ j % 21 = min (σ 7 (j / 21)) 20 then σ 9 j + 1 else σ 9 j)) → ∀ (H : Heap) (locs : List Loc), va_P D vwCl (WM ad cy (va_up (va_up (va_up (va_up (va_up (va_up σ 0 (va_up (va_up (σ 0) 3 0) 1 z119)) 2 bk) 6 e6) 7 e7) 8 e8) 9 e9) er2 wo 0) H → va_D A (WM ad cy (va_up (va_up (va_up (va_up (va_up (va_up σ 0 (va_up (va_up (σ 0) 3 0) 1 z119)) 2 bk) 6 e6) 7 e7) 8 e8) 9 e9) er2 wo 0) → va_S A H0 H locs → ∀ ls : Array Slot, lv_has ls 5 [(0, .ref (ad 0)), (1, .int (nI sh)), (2, .int (nI dd)), (3, .int (nI k))] → W p l e rmX6_endDay s m args below meth c H locs 0 0 Q (F0 m 125 ls []) := by
              intro n125
              induction n125 with
              | zero =>
                intro k e6 e7 e8 e9 hfu
                exact absurd hfu (Nat.not_lt_zero _)
              | succ n125 ih125 =>
                intro k e6 e7 e8 e9 hfu hk he6 he7 he8 he9 H locs hP hD hS ls hl
                have hnp := hI.np
                refine lv_iload_n hx hb dX6_endDay_125 rfl (lv_at hl 3 rfl) ?_
                refine lv_aload_n hx hb dX6_endDay_126 rfl (lv_at hl 0 rfl) ?_
                refine mg (v := .int (nI (σ 0 0))) hx hb hts fX6_endDay_6 hown hK hP 2 (by decide) kX6_endDay_127 rfl rfl dX6_endDay_127 ?_
                refine ln_icmp_ge (tgt := 217) hx hb (by omega) (by omega) dX6_endDay_130 (by decide) (fun c130 => ?_) (fun c130 => ?_)
                · skip
                  refine lv_iload_n hx hb dX6_endDay_217 rfl (lv_at hl 2 rfl) ?_
                  have hkn : k = σ 0 0 := by omega
                  have hk3 : dd = den σ sh 3 := by rw [hdd, hk28]
                  rw [hkn] at he6 he7 he8 he9
                  have hbk3 : bk = fun j => if j < 3 then 0 else σ 2 j := by rw [hbk, hk28]
                  have her3 : er2 = enE σ er sh := by rw [her2, hz95, hz101, hk3]; unfold enE; rw [psum_congr (σ := σ) (τ := va_up σ 2 bk) (fun _ => rfl) (fun _ => rfl), pk_mul]; rfl
                  rw [he6, he7, he8, he9, hbk3, hz119, her3] at hP hD
                  exact hret (0, enF σ, enE σ er sh) dX6_endDay_218 hP hD hS (Or.inl ⟨b5, by rw [cN_nI (by omega)], by rw [cN_nI (by omega), hk3]⟩)
                · skip
                  have hdy := hI.dy
                  have hpk := hI.pr k c130
                  have hnn := hI.nn
                  have h7k : e7 k = σ 7 k := by rw [he7]; dsimp only; rw [if_neg (Nat.lt_irrefl k)]
                  have h8k : e8 k = σ 8 k := by rw [he8]; dsimp only; rw [if_neg (Nat.lt_irrefl k)]
                  refine lv_aload_n hx hb dX6_endDay_133 rfl (lv_at hl 0 rfl) ?_
                  refine mg (v := .ref (ad 9)) hx hb hts fX6_endDay_6 hown hK hP 9 (by decide) kX6_endDay_134 rfl rfl dX6_endDay_134 ?_
                  refine lv_bipush (v := nI 21) hx hb dX6_endDay_137 (by decide) ?_
                  refine lv_iload_n hx hb dX6_endDay_139 rfl (lv_at hl 3 rfl) ?_
                  refine ln_imul hx hb dX6_endDay_140 (fun z140 hz140 => ?_)
                  have K163 : ∀ (v9 : Nat), (v9 = min (σ 7 k) 20) → ∀ (H : Heap) (locs : List Loc), va_P D vwCl (WM ad cy (va_up (va_up (va_up (va_up (va_up (va_up σ 0 (va_up (va_up (σ 0) 3 0) 1 z119)) 2 bk) 6 e6) 7 e7) 8 e8) 9 e9) er2 wo 0) H → va_D A (WM ad cy (va_up (va_up (va_up (va_up (va_up (va_up σ 0 (va_up (va_up (σ 0) 3 0) 1 z119)) 2 bk) 6 e6) 7 e7) 8 e8) 9 e9) er2 wo 0) → va_S A H0 H locs → ∀ ls : Array Slot, lv_has ls 5 [(0, .ref (ad 0)), (1, .int (nI sh)), (2, .int (nI dd)), (3, .int (nI k))] → W p l e rmX6_endDay s m args below meth c H locs 0 0 Q (F0 m 163 ls [.int (nI v9), .int (nI z140), .ref (ad 9)]) := by
                    intro v9 hv9 H locs hP hD hS ls hl
                    refine ln_iadd hx hb dX6_endDay_163 (fun z163 hz163 => ?_)
                    refine lv_dup2_11 hx hb dX6_endDay_164 rfl rfl ?_
                    refine ml9 (v := e9 z163) hx hb hK hP (by omega) rfl dX6_endDay_165 ?_
                    refine lv_iconst (v := nI 1) hx hb dX6_endDay_166 (by decide) ?_
                    refine ln_iadd hx hb dX6_endDay_167 (fun z167 hz167 => ?_)
                    refine ms9 hx hb hK hP hD hS (by omega) dX6_endDay_168 (fun H locs hP hD hS => ?_)
                    refine lv_aload_n hx hb dX6_endDay_169 rfl (lv_at hl 0 rfl) ?_
                    refine mg (v := .ref (ad 8)) hx hb hts fX6_endDay_6 hown hK hP 8 (by decide) kX6_endDay_170 rfl rfl dX6_endDay_170 ?_
                    refine lv_iload_n hx hb dX6_endDay_173 rfl (lv_at hl 3 rfl) ?_
                    refine lv_dup2_11 hx hb dX6_endDay_174 rfl rfl ?_
                    refine ml8 (v := e8 k) hx hb hK hP (by omega) rfl dX6_endDay_175 ?_
                    refine lv_aload_n hx hb dX6_endDay_176 rfl (lv_at hl 0 rfl) ?_
                    refine mg (v := .ref (ad 7)) hx hb hts fX6_endDay_6 hown hK hP 7 (by decide) kX6_endDay_177 rfl rfl dX6_endDay_177 ?_
                    refine lv_iload_n hx hb dX6_endDay_180 rfl (lv_at hl 3 rfl) ?_
                    refine ml7 (v := e7 k) hx hb hK hP (by omega) rfl dX6_endDay_181 ?_
                    refine lv_i2l (v := lN (e7 k)) hx hb dX6_endDay_182 (nI_l (by omega)) ?_
                    refine ln_ladd hx hb dX6_endDay_183 (fun z183 hz183 => ?_)
                    refine ms8 hx hb hK hP hD hS (by omega) dX6_endDay_184 (fun H locs hP hD hS => ?_)
                    refine lv_aload_n hx hb dX6_endDay_185 rfl (lv_at hl 0 rfl) ?_
                    refine mg (v := .ref (ad 6)) hx hb hts fX6_endDay_6 hown hK hP 6 (by decide) kX6_endDay_186 rfl rfl dX6_endDay_186 ?_
                    refine lv_iload_n hx hb dX6_endDay_189 rfl (lv_at hl 3 rfl) ?_
                    refine lv_aload_n hx hb dX6_endDay_190 rfl (lv_at hl 0 rfl) ?_
                    refine mg (v := .ref (ad 8)) hx hb hts fX6_endDay_6 hown hK hP 8 (by decide) kX6_endDay_191 rfl rfl dX6_endDay_191 ?_
                    refine lv_iload_n hx hb dX6_endDay_194 rfl (lv_at hl 3 rfl) ?_
                    refine ml8 (v := z183) hx hb hK hP (by omega) (show va_up e8 k z183 k = z183 from va_up_self _ _ _) dX6_endDay_195 ?_
                    refine lv_aload_n hx hb dX6_endDay_196 rfl (lv_at hl 0 rfl) ?_
                    refine mg (v := .int (nI z119)) hx hb hts fX6_endDay_6 hown hK hP 10 (by decide) kX6_endDay_197 rfl rfl dX6_endDay_197 ?_
                    refine lv_i2l (v := lN z119) hx hb dX6_endDay_200 (nI_l (by omega)) ?_
                    refine ln_ldiv hx hb (by omega) (by omega) (by omega) dX6_endDay_201 (fun z201 hz201 => ?_)
                    refine lv_l2i (v := nI z201) hx hb dX6_endDay_202 (lN_i _) ?_
                    refine ms6 hx hb hK hP hD hS (by omega) dX6_endDay_203 (fun H locs hP hD hS => ?_)
                    refine lv_aload_n hx hb dX6_endDay_204 rfl (lv_at hl 0 rfl) ?_
                    refine mg (v := .ref (ad 7)) hx hb hts fX6_endDay_6 hown hK hP 7 (by decide) kX6_endDay_205 rfl rfl dX6_endDay_205 ?_
                    refine lv_iload_n hx hb dX6_endDay_208 rfl (lv_at hl 3 rfl) ?_
                    refine lv_iconst (v := nI 0) hx hb dX6_endDay_209 (by decide) ?_
                    refine ms7 hx hb hK hP hD hS (by omega) dX6_endDay_210 (fun H locs hP hD hS => ?_)
                    obtain ⟨z211, hz211⟩ : ∃ z : Nat, z = k + 1 := ⟨_, rfl⟩
                    refine lv_iinc (v := nI z211) (lv' := [(3, .int (nI z211)), (0, .ref (ad 0)), (1, .int (nI sh)), (2, .int (nI dd))]) hx hb dX6_endDay_211 hl (k := 3) rfl (by rw [hz211]; exact nI_add _ 1) (by decide) rfl (fun ls hl => ?_)
                    refine lv_goto (tgt := 125) hx hb dX6_endDay_214 (by decide) ?_
                    have hP : va_P D vwCl (WM ad cy (va_up (va_up (va_up (va_up (va_up (va_up σ 0 (va_up (va_up (σ 0) 3 0) 1 z119)) 2 bk) 6 (va_up e6 k z201)) 7 (va_up e7 k 0)) 8 (va_up e8 k z183)) 9 (va_up e9 z163 z167)) er2 wo 0) H := hP
                    have hD : va_D A (WM ad cy (va_up (va_up (va_up (va_up (va_up (va_up σ 0 (va_up (va_up (σ 0) 3 0) 1 z119)) 2 bk) 6 (va_up e6 k z201)) 7 (va_up e7 k 0)) 8 (va_up e8 k z183)) 9 (va_up e9 z163 z167)) er2 wo 0) := hD
                    exact ih125 z211 (va_up e6 k z201) (va_up e7 k 0) (va_up e8 k z183) (va_up e9 z163 z167) (by omega) (by omega) (by rw [hz211]; exact row_s (G := fun j => (σ 8 j + σ 7 j) / (σ 0 1 + 1)) he6 (by rw [hz201, hz183, h8k, h7k, hz119])) (by rw [hz211]; exact row_s (G := fun _ => 0) he7 rfl) (by rw [hz211]; exact row_s (G := fun j => σ 8 j + σ 7 j) he8 (by rw [hz183, h8k, h7k])) (by rw [hz211]; exact tab_s he9 (by rw [hz163, hz140, hv9]) hz167) H locs hP hD hS ls (lv_sub hl [1, 2, 3, 0] rfl)
                  refine lv_aload_n hx hb dX6_endDay_141 rfl (lv_at hl 0 rfl) ?_
                  refine mg (v := .ref (ad 7)) hx hb hts fX6_endDay_6 hown hK hP 7 (by decide) kX6_endDay_142 rfl rfl dX6_endDay_142 ?_
                  refine lv_iload_n hx hb dX6_endDay_145 rfl (lv_at hl 3 rfl) ?_
                  refine ml7 (v := e7 k) hx hb hK hP (by omega) rfl dX6_endDay_146 ?_
                  refine lv_bipush (v := nI 20) hx hb dX6_endDay_147 (by decide) ?_
                  refine ln_icmp_le (tgt := 157) hx hb (by omega) (by omega) dX6_endDay_149 (by decide) (fun c149 => ?_) (fun c149 => ?_)
                  · skip
                    refine lv_aload_n hx hb dX6_endDay_157 rfl (lv_at hl 0 rfl) ?_
                    refine mg (v := .ref (ad 7)) hx hb hts fX6_endDay_6 hown hK hP 7 (by decide) kX6_endDay_158 rfl rfl dX6_endDay_158 ?_
                    refine lv_iload_n hx hb dX6_endDay_161 rfl (lv_at hl 3 rfl) ?_
                    refine ml7 (v := e7 k) hx hb hK hP (by omega) rfl dX6_endDay_162 ?_
                    exact K163 (e7 k) (by omega) H locs hP hD hS ls (lv_sub hl [0, 1, 2, 3] rfl)
                  · skip
                    refine lv_bipush (v := nI 20) hx hb dX6_endDay_152 (by decide) ?_
                    refine lv_goto (tgt := 163) hx hb dX6_endDay_154 (by decide) ?_
                    exact K163 20 (by omega) H locs hP hD hS ls (lv_sub hl [0, 1, 2, 3] rfl)
            refine lv_istore_n (lv' := [(3, .int (nI 0)), (0, .ref (ad 0)), (1, .int (nI sh)), (2, .int (nI dd))]) hx hb dX6_endDay_124 rfl hl (by decide) rfl (fun ls hl => ?_)
            exact K125 _ 0 (σ 6) (σ 7) (σ 8) (σ 9) (Nat.lt_succ_self _) (by omega) (row_0 (G := fun j => (σ 8 j + σ 7 j) / (σ 0 1 + 1))) (row_0 (G := fun _ => 0)) (row_0 (G := fun j => σ 8 j + σ 7 j)) tab_0 H locs hP hD hS ls (lv_sub hl [1, 2, 3, 0] rfl)
          · skip
            have hse := hI.se k c30
            have hbl := hI.bkle k c30
            have hbk9 : bk k = σ 2 k := by rw [hbk]; dsimp only; rw [if_neg (Nat.lt_irrefl k)]
            refine lv_aload_n hx hb dX6_endDay_33 rfl (lv_at hl 0 rfl) ?_
            refine mg (v := .ref (ad 2)) hx hb hts fX6_endDay_6 hown hK hP 1 (by decide) kX6_endDay_34 rfl rfl dX6_endDay_34 ?_
            refine lv_iload_n hx hb dX6_endDay_37 rfl (lv_at hl 3 rfl) ?_
            refine ml2 (v := bk k) hx hb hK hP (by omega) rfl dX6_endDay_38 ?_
            refine lv_iload_n hx hb dX6_endDay_39 rfl (lv_at hl 1 rfl) ?_
            refine ln_imul hx hb dX6_endDay_40 (fun z40 hz40 => ?_)
            have hz40b : z40 ≤ 60000 := by rw [hz40, hbk9]; have := Nat.mul_le_mul hbl hshb; omega
            refine lv_bipush (v := nI 99) hx hb dX6_endDay_41 (by decide) ?_
            refine ln_iadd hx hb dX6_endDay_43 (fun z43 hz43 => ?_)
            refine lv_bipush (v := nI 100) hx hb dX6_endDay_44 (by decide) ?_
            refine ln_idiv hx hb (by omega) (by omega) (by omega) dX6_endDay_46 (fun z46 hz46 => ?_)
            refine lv_istore (lv' := [(4, .int (nI z46)), (0, .ref (ad 0)), (1, .int (nI sh)), (2, .int (nI dd)), (3, .int (nI k))]) hx hb dX6_endDay_47 hl (by decide) rfl (fun ls hl => ?_)
            refine lv_iload_n hx hb dX6_endDay_49 rfl (lv_at hl 3 rfl) ?_
            refine lv_iload hx hb dX6_endDay_50 (lv_at hl 0 rfl) ?_
            refine lv_aload_n hx hb dX6_endDay_52 rfl (lv_at hl 1 rfl) ?_
            refine mg (v := .ref (ad 1)) hx hb hts fX6_endDay_6 hown hK hP 0 (by decide) kX6_endDay_53 rfl rfl dX6_endDay_53 ?_
            refine lv_iload_n hx hb dX6_endDay_56 rfl (lv_at hl 4 rfl) ?_
            refine ml1 (v := σ 1 k) hx hb hK hP (by omega) rfl dX6_endDay_57 ?_
            refine ln_icmp_le (tgt := 73) hx hb (by omega) (by omega) dX6_endDay_58 (by decide) (fun c58 => ?_) (fun c58 => ?_)
            · skip
              refine lv_iconst (v := nI 0) hx hb dX6_endDay_73 (by decide) ?_
              refine ln_iadd hx hb dX6_endDay_74 (fun z74 hz74 => ?_)
              refine lv_istore_n (lv' := [(2, .int (nI z74)), (4, .int (nI z46)), (0, .ref (ad 0)), (1, .int (nI sh)), (3, .int (nI k))]) hx hb dX6_endDay_75 rfl hl (by decide) rfl (fun ls hl => ?_)
              refine lv_aload_n hx hb dX6_endDay_76 rfl (lv_at hl 2 rfl) ?_
              refine mg (v := .ref (ad 2)) hx hb hts fX6_endDay_6 hown hK hP 1 (by decide) kX6_endDay_77 rfl rfl dX6_endDay_77 ?_
              refine lv_iload_n hx hb dX6_endDay_80 rfl (lv_at hl 4 rfl) ?_
              refine lv_iconst (v := nI 0) hx hb dX6_endDay_81 (by decide) ?_
              refine ms2 hx hb hK hP hD hS (by omega) dX6_endDay_82 (fun H locs hP hD hS => ?_)
              obtain ⟨z83, hz83⟩ : ∃ z : Nat, z = k + 1 := ⟨_, rfl⟩
              refine lv_iinc (v := nI z83) (lv' := [(3, .int (nI z83)), (2, .int (nI z74)), (4, .int (nI z46)), (0, .ref (ad 0)), (1, .int (nI sh))]) hx hb dX6_endDay_83 hl (k := 4) rfl (by rw [hz83]; exact nI_add _ 1) (by decide) rfl (fun ls hl => ?_)
              refine lv_goto (tgt := 28) hx hb dX6_endDay_86 (by decide) ?_
              have hP : va_P D vwCl (WM ad cy (va_up σ 2 (va_up bk k 0)) er wo 0) H := hP
              have hD : va_D A (WM ad cy (va_up σ 2 (va_up bk k 0)) er wo 0) := hD
              exact ih28 z74 z83 (va_up bk k 0) (by omega) (by rw [hz83]; show z74 = den σ sh k + den1 σ sh k; unfold den1; rw [← hbk9, ← hz40]; omega) (by omega) (by omega) (by rw [hz83]; exact row_s (G := fun _ => 0) hbk rfl) H locs hP hD hS ls (lv_sub hl [3, 4, 1, 0] rfl)
            · skip
              refine lv_iload hx hb dX6_endDay_61 (lv_at hl 0 rfl) ?_
              refine lv_aload_n hx hb dX6_endDay_63 rfl (lv_at hl 1 rfl) ?_
              refine mg (v := .ref (ad 1)) hx hb hts fX6_endDay_6 hown hK hP 0 (by decide) kX6_endDay_64 rfl rfl dX6_endDay_64 ?_
              refine lv_iload_n hx hb dX6_endDay_67 rfl (lv_at hl 4 rfl) ?_
              refine ml1 (v := σ 1 k) hx hb hK hP (by omega) rfl dX6_endDay_68 ?_
              refine ln_isub hx hb (by omega) dX6_endDay_69 (fun z69 hz69 => ?_)
              refine lv_goto (tgt := 74) hx hb dX6_endDay_70 (by decide) ?_
              refine ln_iadd hx hb dX6_endDay_74 (fun z74 hz74 => ?_)
              refine lv_istore_n (lv' := [(2, .int (nI z74)), (4, .int (nI z46)), (0, .ref (ad 0)), (1, .int (nI sh)), (3, .int (nI k))]) hx hb dX6_endDay_75 rfl hl (by decide) rfl (fun ls hl => ?_)
              refine lv_aload_n hx hb dX6_endDay_76 rfl (lv_at hl 2 rfl) ?_
              refine mg (v := .ref (ad 2)) hx hb hts fX6_endDay_6 hown hK hP 1 (by decide) kX6_endDay_77 rfl rfl dX6_endDay_77 ?_
              refine lv_iload_n hx hb dX6_endDay_80 rfl (lv_at hl 4 rfl) ?_
              refine lv_iconst (v := nI 0) hx hb dX6_endDay_81 (by decide) ?_
              refine ms2 hx hb hK hP hD hS (by omega) dX6_endDay_82 (fun H locs hP hD hS => ?_)
              obtain ⟨z83, hz83⟩ : ∃ z : Nat, z = k + 1 := ⟨_, rfl⟩
              refine lv_iinc (v := nI z83) (lv' := [(3, .int (nI z83)), (2, .int (nI z74)), (4, .int (nI z46)), (0, .ref (ad 0)), (1, .int (nI sh))]) hx hb dX6_endDay_83 hl (k := 4) rfl (by rw [hz83]; exact nI_add _ 1) (by decide) rfl (fun ls hl => ?_)
              refine lv_goto (tgt := 28) hx hb dX6_endDay_86 (by decide) ?_
              have hP : va_P D vwCl (WM ad cy (va_up σ 2 (va_up bk k 0)) er wo 0) H := hP
              have hD : va_D A (WM ad cy (va_up σ 2 (va_up bk k 0)) er wo 0) := hD
              exact ih28 z74 z83 (va_up bk k 0) (by omega) (by rw [hz83]; show z74 = den σ sh k + den1 σ sh k; unfold den1; rw [← hbk9, ← hz40]; omega) (by omega) (by omega) (by rw [hz83]; exact row_s (G := fun _ => 0) hbk rfl) H locs hP hD hS ls (lv_sub hl [3, 4, 1, 0] rfl)
      refine lv_iconst (v := nI 0) hx hb dX6_endDay_26 (by decide) ?_
      refine lv_istore_n (lv' := [(3, .int (nI 0)), (2, .int (nI 0)), (0, .ref (ad 0)), (1, .int (nI sh))]) hx hb dX6_endDay_27 rfl hl (by decide) rfl (fun ls hl => ?_)
      exact K28 _ 0 0 (σ 2) (Nat.lt_succ_self _) rfl (by omega) (by omega) (row_0 (G := fun _ => 0)) H locs hP hD hS ls (lv_sub hl [2, 3, 1, 0] rfl)
  · skip
    refine lv_if_eq (tgt := 15) hx hb dX6_endDay_8 (by decide) (fun _ => ?_) (fun q => by first | exact absurd q (by decide) | exact absurd (by decide) q)
    refine lv_iconst (v := nI 1) hx hb dX6_endDay_15 (by decide) ?_
    refine mw_calli (va_runV (As := [.int (nI 1)]) (rest := []) ⟨hx, hb, hml, hown, hts⟩ (c_X6_fails l D cy ad σ er wo th 1 (by omega) H.size) (cwV 1 hts gX6_endDay_X6_fails rfl rfl rfl hdX6_fails ⟨Nat.le_of_ble_eq_true rfl, Nat.le_of_ble_eq_true rfl⟩) (mo_preV hK rfl hP hD (va_recv hK.1 hP (ci := 6) (q0 := 0) rfl rfl)) rfl rfl hl.1 rfl (lv_room (Nat.le_of_ble_eq_true rfl)) dX6_endDay_16 ⟨Nat.le_of_ble_eq_true rfl, Nat.le_of_ble_eq_true rfl⟩) hS hD hA (fun r _ H locs hr hP hD hS => ?_)
    rcases hr with ⟨b16, rfl⟩ | ⟨b16, rfl⟩
    · skip
      refine lv_if_eq (tgt := 24) hx hb dX6_endDay_19 (by decide) (fun q => by first | exact absurd q (by decide) | exact absurd (by decide) q) (fun _ => ?_)
      refine lv_iconst (v := nI 0) hx hb dX6_endDay_22 (by decide) ?_
      exact hret (1, σ, er) dX6_endDay_23 hP hD hS (Or.inr ⟨b5, rfl⟩)
    · skip
      exact absurd (by decide) b16
