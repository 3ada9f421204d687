theorem isIn_nn {v a b : Nat} (hv : v < 2 ^ 31) (ha : a < 2 ^ 31) (hb : b < 2 ^ 31) : (nI a ≤ nI v ∧ nI v ≤ nI b) ↔ (a ≤ v ∧ v ≤ b) := by rw [nI_leI ha hv, nI_leI hv hb]
theorem prS_n {σ : SF} {leg cost k : Nat} (h : ¬ ((σ 3 k ≤ leg ∧ leg ≤ σ 4 k) ∧ cost < σ 5 k ∧ 0 < σ 0 1)) : prS σ leg cost k = prS σ leg cost (k + 1) := by
  conv => rhs; unfold prS
  rw [if_neg h]; rfl
theorem prS_y {σ : SF} {leg cost k : Nat} (h : (σ 3 k ≤ leg ∧ leg ≤ σ 4 k) ∧ cost < σ 5 k ∧ 0 < σ 0 1) : prS σ leg cost k + pmU σ k cost 21 = prS σ leg cost (k + 1) := by
  conv => rhs; unfold prS
  rw [if_pos h]
theorem cntU_s {σ : SF} {k i y : Nat} (hy : y + i + 1 = 21) : cntU σ k i + σ 9 (21 * k + y) = cntU σ k (i + 1) := by
  conv => rhs; unfold cntU
  rw [show 20 - i = y by omega]
theorem psum_0 {σ : SF} {k : Nat} (h : σ 14 k = 0) : psum σ k + σ 13 k = psum σ (k + 1) := by
  conv => rhs; unfold psum
  rw [if_pos h]
theorem psum_1 {σ : SF} {k : Nat} (h : ¬ σ 14 k = 0) : psum σ k + 0 = psum σ (k + 1) := by
  conv => rhs; unfold psum
  rw [if_neg h]
def bookF (σ : SF) (f t n c : Nat) : SF := va_up (va_up (va_up (va_up (va_up (va_up (va_up σ 0 (va_up (σ 0) 3 (σ 0 3 + 1))) 2 (fun j => σ 2 j + if f ≤ j ∧ j ≤ t then n else 0)) 10 (va_up (σ 10) (σ 0 3) f)) 11 (va_up (σ 11) (σ 0 3) t)) 12 (va_up (σ 12) (σ 0 3) n)) 13 (va_up (σ 13) (σ 0 3) c)) 14 (va_up (σ 14) (σ 0 3) 0)
theorem bk_s {g bk : Nat → Nat} {f k n z : Nat} (hbk : bk = fun j => g j + if f ≤ j ∧ j < k then n else 0) (hz : z = bk k + n) (hf : f ≤ k) : va_up bk k z = fun j => g j + if f ≤ j ∧ j < k + 1 then n else 0 := by
  funext j
  unfold va_up
  by_cases q : j = k
  · subst q; rw [if_pos rfl, hz, hbk]; dsimp only; rw [if_neg (by omega), if_pos (by omega)]; omega
  · rw [if_neg q, hbk]; dsimp only
    by_cases q2 : f ≤ j ∧ j < k
    · rw [if_pos q2, if_pos (by omega)]
    · rw [if_neg q2, if_neg (by omega)]
theorem bk_0 {g : Nat → Nat} {f n : Nat} : g = fun j => g j + if f ≤ j ∧ j < f then n else 0 := by
  funext j; rw [if_neg (by omega)]; rfl
theorem bk_e {g bk : Nat → Nat} {f t k n : Nat} (hbk : bk = fun j => g j + if f ≤ j ∧ j < k then n else 0) (hk : k = t + 1) : bk = fun j => g j + if f ≤ j ∧ j ≤ t then n else 0 := by
  rw [hbk]; funext j; subst hk
  by_cases q : f ≤ j ∧ j ≤ t
  · rw [if_pos q, if_pos (by omega)]
  · rw [if_neg q, if_neg (by omega)]
set_option maxHeartbeats 4000000 in
set_option maxRecDepth 100000 in
theorem c_X6_protectedOf (l : Launch) (D : va_G) (cy : Nat → ClassId) (ad : Nat → Nat) (σ : SF) (er : Int64) (wo : Nat → Nat) (th : Nat) {n : Nat} (hI : Iv n σ) (leg cost : Nat) (hleg : leg < 3) (hcost : cost ≤ 3000) : cRO l D cy yX6_protectedOf wsX6_protectedOf rmX6_protectedOf [.ref (ad 0), .int (nI leg), .int (nI cost)] (WM ad cy σ er wo th) (pN (prot σ leg cost)) := by
  refine cRO.of (cc := cX6_protectedOf) (maxL := 9) (by decide) rfl (Nat.le_of_ble_eq_true rfl) (Or.inl rfl) ?_
  intro p e s m args below meth c H Q hx hb hml hown hts hP hK hret ls hl
  have hE : va_P D vwCl [] H := va_P0
  have K5 : ∀ (n5 : Nat) (sum : Nat) (k : Nat), σ 0 0 - k < n5 → (sum = prS σ leg cost k) → (k ≤ σ 0 0) → ∀ ls : Array Slot, lv_has ls 9 [(0, .ref (ad 0)), (1, .int (nI leg)), (2, .int (nI cost)), (3, .int (nI sum)), (4, .int (nI k))] → W p l e rmX6_protectedOf s m args below meth c H [] 0 0 Q (F0 m 5 ls []) := by
    intro n5
    induction n5 with
    | zero =>
      intro sum k hfu
      exact absurd hfu (Nat.not_lt_zero _)
    | succ n5 ih5 =>
      intro sum k hfu hsum hk ls hl
      have hnp := hI.np
      have hps := prS_le (σ := σ) (leg := leg) (cost := cost) k
      refine lv_iload hx hb dX6_protectedOf_5 (lv_at hl 4 rfl) ?_
      refine lv_aload_n hx hb dX6_protectedOf_7 rfl (lv_at hl 0 rfl) ?_
      refine mg (v := .int (nI (σ 0 0))) hx hb hts fX6_protectedOf_6 hown hK hP 2 (by decide) kX6_protectedOf_8 rfl rfl dX6_protectedOf_8 ?_
      refine ln_icmp_ge (tgt := 155) hx hb (by omega) (by omega) dX6_protectedOf_11 (by decide) (fun c11 => ?_) (fun c11 => ?_)
      · skip
        refine lv_iload_n hx hb dX6_protectedOf_155 rfl (lv_at hl 3 rfl) ?_
        exact hret dX6_protectedOf_156 (pnE (by rw [hsum]; unfold prot; congr 1; omega))
      · skip
        have hpk := hI.pr k c11
        have K149 : ∀ (sum2 : Nat), (sum2 = prS σ leg cost (k + 1)) → ∀ ls : Array Slot, lv_has ls 9 [(0, .ref (ad 0)), (1, .int (nI leg)), (2, .int (nI cost)), (3, .int (nI sum2)), (4, .int (nI k))] → W p l e rmX6_protectedOf s m args below meth c H [] 0 0 Q (F0 m 149 ls []) := by
          intro sum2 hsum2 ls hl
          obtain ⟨z149, hz149⟩ : ∃ z : Nat, z = k + 1 := ⟨_, rfl⟩
          refine lv_iinc (v := nI z149) (lv' := [(4, .int (nI z149)), (0, .ref (ad 0)), (1, .int (nI leg)), (2, .int (nI cost)), (3, .int (nI sum2))]) hx hb dX6_protectedOf_149 hl (k := 4) rfl (by rw [hz149]; exact nI_add _ 1) (by decide) rfl (fun ls hl => ?_)
          refine lv_goto (tgt := 5) hx hb dX6_protectedOf_152 (by decide) ?_
          exact ih5 sum2 z149 (by omega) (by rw [hz149]; exact hsum2) (by omega) ls (lv_sub hl [1, 2, 3, 4, 0] rfl)
        refine lv_iload_n hx hb dX6_protectedOf_14 rfl (lv_at hl 1 rfl) ?_
        refine lv_aload_n hx hb dX6_protectedOf_15 rfl (lv_at hl 0 rfl) ?_
        refine mg (v := .ref (ad 3)) hx hb hts fX6_protectedOf_6 hown hK hP 3 (by decide) kX6_protectedOf_16 rfl rfl dX6_protectedOf_16 ?_
        refine lv_iload hx hb dX6_protectedOf_19 (lv_at hl 4 rfl) ?_
        refine ml3 (v := σ 3 k) hx hb hK hP (by omega) rfl dX6_protectedOf_21 ?_
        refine lv_aload_n hx hb dX6_protectedOf_22 rfl (lv_at hl 0 rfl) ?_
        refine mg (v := .ref (ad 4)) hx hb hts fX6_protectedOf_6 hown hK hP 4 (by decide) kX6_protectedOf_23 rfl rfl dX6_protectedOf_23 ?_
        refine lv_iload hx hb dX6_protectedOf_26 (lv_at hl 4 rfl) ?_
        refine ml4 (v := σ 4 k) hx hb hK hP (by omega) rfl dX6_protectedOf_28 ?_
        refine ro_calliB (va_runS (As := [.int (nI leg), .int (nI (σ 3 k)), .int (nI (σ 4 k))]) (rest := []) ⟨hx, hb, hml, hown, hts⟩ (c_X6_isIn l D cy ((nI leg)) ((nI (σ 3 k))) ((nI (σ 4 k))) H va_P0) (va_cwS 3 hts gX6_protectedOf_X6_isIn rfl rfl rfl hdX6_isIn.2 ⟨Nat.le_of_ble_eq_true rfl, Nat.le_of_ble_eq_true rfl⟩) (ro_pre hK rfl) rfl rfl hl.1 rfl (lv_room (Nat.le_of_ble_eq_true rfl)) dX6_protectedOf_29 ⟨Nat.le_of_ble_eq_true rfl, Nat.le_of_ble_eq_true rfl⟩) (fun b29 => ?_) (fun b29 => ?_)
        · skip
          rw [isIn_nn (by omega) (by omega) (by omega)] at b29
          refine lv_if_eq (tgt := 149) hx hb dX6_protectedOf_32 (by decide) (fun q => by first | exact absurd q (by decide) | exact absurd (by decide) q) (fun _ => ?_)
          refine lv_aload_n hx hb dX6_protectedOf_35 rfl (lv_at hl 0 rfl) ?_
          refine mg (v := .ref (ad 5)) hx hb hts fX6_protectedOf_6 hown hK hP 5 (by decide) kX6_protectedOf_36 rfl rfl dX6_protectedOf_36 ?_
          refine lv_iload hx hb dX6_protectedOf_39 (lv_at hl 4 rfl) ?_
          refine ml5 (v := σ 5 k) hx hb hK hP (by omega) rfl dX6_protectedOf_41 ?_
          refine lv_iload_n hx hb dX6_protectedOf_42 rfl (lv_at hl 2 rfl) ?_
          refine ln_icmp_le (tgt := 149) hx hb (by omega) (by omega) dX6_protectedOf_43 (by decide) (fun c43 => ?_) (fun c43 => ?_)
          · skip
            exact K149 sum (hsum.trans (prS_n (by omega))) ls (lv_sub hl [0, 1, 2, 3, 4] rfl)
          · skip
            have hdy := hI.dy
            have hnn := hI.nn
            refine lv_aload_n hx hb dX6_protectedOf_46 rfl (lv_at hl 0 rfl) ?_
            refine mg (v := .int (nI (σ 0 1))) hx hb hts fX6_protectedOf_6 hown hK hP 10 (by decide) kX6_protectedOf_47 rfl rfl dX6_protectedOf_47 ?_
            refine ln_if_le (tgt := 149) hx hb (by omega) dX6_protectedOf_50 (by decide) (fun c50 => ?_) (fun c50 => ?_)
            · skip
              exact K149 sum (hsum.trans (prS_n (by omega))) ls (lv_sub hl [0, 1, 2, 3, 4] rfl)
            · skip
              have K63 : ∀ (n63 : Nat) (many : Nat) (most : Nat) (i : Nat) (yv : Int32), 21 - i < n63 → (many = cntU σ k i) → (most = pmU σ k cost i) → (i ≤ 21) → (yv = nI (21 - i) + (-1)) → ∀ ls : Array Slot, lv_has ls 9 [(0, .ref (ad 0)), (1, .int (nI leg)), (2, .int (nI cost)), (3, .int (nI sum)), (4, .int (nI k)), (5, .int (nI many)), (6, .int (nI most)), (7, .int yv)] → W p l e rmX6_protectedOf s m args below meth c H [] 0 0 Q (F0 m 63 ls []) := by
                intro n63
                induction n63 with
                | zero =>
                  intro many most i yv hfu
                  exact absurd hfu (Nat.not_lt_zero _)
                | succ n63 ih63 =>
                  intro many most i yv hfu hmany hmost hi hyv ls hl
                  have hcu := cntU_le (σ := σ) (fun j => Nat.le_trans (hI.tb j) (Nat.le_trans hI.dy hI.nn)) k i
                  have hmo := pmU_le (σ := σ) (k := k) (cost := cost) i
                  refine lv_iload hx hb dX6_protectedOf_63 (lv_at hl 7 rfl) ?_
                  refine lv_if_lt (tgt := 144) hx hb dX6_protectedOf_65 (by decide) (fun c65 => ?_) (fun c65 => ?_)
                  · skip
                    have hi21 := dn_T hyv hi (by decide) c65
                    refine lv_iload_n hx hb dX6_protectedOf_144 rfl (lv_at hl 3 rfl) ?_
                    refine lv_iload hx hb dX6_protectedOf_145 (lv_at hl 6 rfl) ?_
                    refine ln_iadd hx hb dX6_protectedOf_147 (fun z147 hz147 => ?_)
                    refine lv_istore_n (lv' := [(3, .int (nI z147)), (0, .ref (ad 0)), (1, .int (nI leg)), (2, .int (nI cost)), (4, .int (nI k)), (5, .int (nI many)), (6, .int (nI most)), (7, .int yv)]) hx hb dX6_protectedOf_148 rfl hl (by decide) rfl (fun ls hl => ?_)
                    exact K149 z147 (by rw [hz147, hsum, hmost, hi21]; exact prS_y ⟨b29, by omega, by omega⟩) ls (lv_sub hl [1, 2, 3, 0, 4] rfl)
                  · skip
                    obtain ⟨y, rfl, hy⟩ := dn_F hyv hi c65
                    refine lv_iload hx hb dX6_protectedOf_68 (lv_at hl 5 rfl) ?_
                    refine lv_aload_n hx hb dX6_protectedOf_70 rfl (lv_at hl 0 rfl) ?_
                    refine mg (v := .ref (ad 9)) hx hb hts fX6_protectedOf_6 hown hK hP 9 (by decide) kX6_protectedOf_71 rfl rfl dX6_protectedOf_71 ?_
                    refine lv_bipush (v := nI 21) hx hb dX6_protectedOf_74 (by decide) ?_
                    refine lv_iload hx hb dX6_protectedOf_76 (lv_at hl 4 rfl) ?_
                    refine ln_imul hx hb dX6_protectedOf_78 (fun z78 hz78 => ?_)
                    refine lv_iload hx hb dX6_protectedOf_79 (lv_at hl 7 rfl) ?_
                    refine ln_iadd hx hb dX6_protectedOf_81 (fun z81 hz81 => ?_)
                    refine ml9 (v := σ 9 z81) hx hb hK hP (by omega) rfl dX6_protectedOf_82 ?_
                    have ht9 := hI.tb z81
                    refine ln_iadd hx hb dX6_protectedOf_83 (fun z83 hz83 => ?_)
                    refine lv_istore (lv' := [(5, .int (nI z83)), (0, .ref (ad 0)), (1, .int (nI leg)), (2, .int (nI cost)), (3, .int (nI sum)), (4, .int (nI k)), (6, .int (nI most)), (7, .int (nI y))]) hx hb dX6_protectedOf_84 hl (by decide) rfl (fun ls hl => ?_)
                    refine lv_aload_n hx hb dX6_protectedOf_86 rfl (lv_at hl 1 rfl) ?_
                    refine mg (v := .ref (ad 5)) hx hb hts fX6_protectedOf_6 hown hK hP 5 (by decide) kX6_protectedOf_87 rfl rfl dX6_protectedOf_87 ?_
                    refine lv_iload hx hb dX6_protectedOf_90 (lv_at hl 5 rfl) ?_
                    refine ml5 (v := σ 5 k) hx hb hK hP (by omega) rfl dX6_protectedOf_92 ?_
                    have hz83b : z83 ≤ 20000 := by omega
                    refine lv_i2l (v := lN (σ 5 k)) hx hb dX6_protectedOf_93 (nI_l (by omega)) ?_
                    refine lv_iload hx hb dX6_protectedOf_94 (lv_at hl 0 rfl) ?_
                    refine lv_i2l (v := lN z83) hx hb dX6_protectedOf_96 (nI_l (by omega)) ?_
                    refine ln_lmul hx hb dX6_protectedOf_97 (fun z97 hz97 => ?_)
                    refine lv_iload_n hx hb dX6_protectedOf_98 rfl (lv_at hl 3 rfl) ?_
                    refine lv_i2l (v := lN cost) hx hb dX6_protectedOf_99 (nI_l (by omega)) ?_
                    refine lv_aload_n hx hb dX6_protectedOf_100 rfl (lv_at hl 1 rfl) ?_
                    refine mg (v := .int (nI (σ 0 1))) hx hb hts fX6_protectedOf_6 hown hK hP 10 (by decide) kX6_protectedOf_101 rfl rfl dX6_protectedOf_101 ?_
                    refine lv_i2l (v := lN (σ 0 1)) hx hb dX6_protectedOf_104 (nI_l (by omega)) ?_
                    refine ln_lmul hx hb dX6_protectedOf_105 (fun z105 hz105 => ?_)
                    refine ln_lcmp_lt (tgt := 114) hx hb (by rw [hz97]; have := Nat.mul_le_mul hpk.2.2.2.1 hz83b; omega) (by rw [hz105]; have := Nat.mul_le_mul hcost (show σ 0 1 ≤ 512 by omega); omega) dX6_protectedOf_106 dX6_protectedOf_107 (by decide) (fun c107 => ?_) (fun c107 => ?_)
                    · skip
                      refine lv_iconst (v := nI 0) hx hb dX6_protectedOf_114 (by decide) ?_
                      refine lv_istore (lv' := [(8, .int (nI 0)), (5, .int (nI z83)), (0, .ref (ad 0)), (1, .int (nI leg)), (2, .int (nI cost)), (3, .int (nI sum)), (4, .int (nI k)), (6, .int (nI most)), (7, .int (nI y))]) hx hb dX6_protectedOf_115 hl (by decide) rfl (fun ls hl => ?_)
                      refine lv_iload hx hb dX6_protectedOf_117 (lv_at hl 0 rfl) ?_
                      refine lv_if_eq (tgt := 134) hx hb dX6_protectedOf_119 (by decide) (fun _ => ?_) (fun q => by first | exact absurd q (by decide) | exact absurd (by decide) q)
                      refine lv_iload hx hb dX6_protectedOf_134 (lv_at hl 7 rfl) ?_
                      refine lv_istore (lv' := [(6, .int (nI most)), (8, .int (nI 0)), (5, .int (nI z83)), (0, .ref (ad 0)), (1, .int (nI leg)), (2, .int (nI cost)), (3, .int (nI sum)), (4, .int (nI k)), (7, .int (nI y))]) hx hb dX6_protectedOf_136 hl (by decide) rfl (fun ls hl => ?_)
                      refine lv_iinc (v := nI y + (-1)) (lv' := [(7, .int (nI y + (-1))), (6, .int (nI most)), (8, .int (nI 0)), (5, .int (nI z83)), (0, .ref (ad 0)), (1, .int (nI leg)), (2, .int (nI cost)), (3, .int (nI sum)), (4, .int (nI k))]) hx hb dX6_protectedOf_138 hl (k := 8) rfl rfl (by decide) rfl (fun ls hl => ?_)
                      refine lv_goto (tgt := 63) hx hb dX6_protectedOf_141 (by decide) ?_
                      exact ih63 z83 most ((i + 1)) (nI y + (-1)) (by omega) (by rw [hz83, hz81, hz78, hmany]; exact cntU_s hy) (by subst hmost; exact pmU_n hy (by rw [← cntU_s hy, ← hmany, ← hz78, ← hz81, ← hz83, ← hz97, ← hz105]; omega)) (by omega) (by rw [show 21 - (i + 1) = y by omega]) ls (lv_sub hl [4, 5, 6, 7, 8, 3, 1, 0] rfl)
                    · skip
                      refine lv_iconst (v := nI 1) hx hb dX6_protectedOf_110 (by decide) ?_
                      refine lv_goto (tgt := 115) hx hb dX6_protectedOf_111 (by decide) ?_
                      refine lv_istore (lv' := [(8, .int (nI 1)), (5, .int (nI z83)), (0, .ref (ad 0)), (1, .int (nI leg)), (2, .int (nI cost)), (3, .int (nI sum)), (4, .int (nI k)), (6, .int (nI most)), (7, .int (nI y))]) hx hb dX6_protectedOf_115 hl (by decide) rfl (fun ls hl => ?_)
                      refine lv_iload hx hb dX6_protectedOf_117 (lv_at hl 0 rfl) ?_
                      refine lv_if_eq (tgt := 134) hx hb dX6_protectedOf_119 (by decide) (fun q => by first | exact absurd q (by decide) | exact absurd (by decide) q) (fun _ => ?_)
                      refine lv_iload hx hb dX6_protectedOf_122 (lv_at hl 8 rfl) ?_
                      refine lv_iload hx hb dX6_protectedOf_124 (lv_at hl 7 rfl) ?_
                      refine ln_icmp_le (tgt := 134) hx hb (by omega) (by omega) dX6_protectedOf_126 (by decide) (fun c126 => ?_) (fun c126 => ?_)
                      · skip
                        refine lv_iload hx hb dX6_protectedOf_134 (lv_at hl 7 rfl) ?_
                        refine lv_istore (lv' := [(6, .int (nI most)), (8, .int (nI 1)), (5, .int (nI z83)), (0, .ref (ad 0)), (1, .int (nI leg)), (2, .int (nI cost)), (3, .int (nI sum)), (4, .int (nI k)), (7, .int (nI y))]) hx hb dX6_protectedOf_136 hl (by decide) rfl (fun ls hl => ?_)
                        refine lv_iinc (v := nI y + (-1)) (lv' := [(7, .int (nI y + (-1))), (6, .int (nI most)), (8, .int (nI 1)), (5, .int (nI z83)), (0, .ref (ad 0)), (1, .int (nI leg)), (2, .int (nI cost)), (3, .int (nI sum)), (4, .int (nI k))]) hx hb dX6_protectedOf_138 hl (k := 8) rfl rfl (by decide) rfl (fun ls hl => ?_)
                        refine lv_goto (tgt := 63) hx hb dX6_protectedOf_141 (by decide) ?_
                        exact ih63 z83 most ((i + 1)) (nI y + (-1)) (by omega) (by rw [hz83, hz81, hz78, hmany]; exact cntU_s hy) (by subst hmost; exact pmU_n hy (by rw [← cntU_s hy, ← hmany, ← hz78, ← hz81, ← hz83, ← hz97, ← hz105]; omega)) (by omega) (by rw [show 21 - (i + 1) = y by omega]) ls (lv_sub hl [4, 5, 6, 7, 8, 3, 1, 0] rfl)
                      · skip
                        refine lv_iload hx hb dX6_protectedOf_129 (lv_at hl 8 rfl) ?_
                        refine lv_goto (tgt := 136) hx hb dX6_protectedOf_131 (by decide) ?_
                        refine lv_istore (lv' := [(6, .int (nI y)), (8, .int (nI 1)), (5, .int (nI z83)), (0, .ref (ad 0)), (1, .int (nI leg)), (2, .int (nI cost)), (3, .int (nI sum)), (4, .int (nI k)), (7, .int (nI y))]) hx hb dX6_protectedOf_136 hl (by decide) rfl (fun ls hl => ?_)
                        refine lv_iinc (v := nI y + (-1)) (lv' := [(7, .int (nI y + (-1))), (6, .int (nI y)), (8, .int (nI 1)), (5, .int (nI z83)), (0, .ref (ad 0)), (1, .int (nI leg)), (2, .int (nI cost)), (3, .int (nI sum)), (4, .int (nI k))]) hx hb dX6_protectedOf_138 hl (k := 8) rfl rfl (by decide) rfl (fun ls hl => ?_)
                        refine lv_goto (tgt := 63) hx hb dX6_protectedOf_141 (by decide) ?_
                        exact ih63 z83 y ((i + 1)) (nI y + (-1)) (by omega) (by rw [hz83, hz81, hz78, hmany]; exact cntU_s hy) (by subst hmost; exact pmU_y hy (by rw [← cntU_s hy, ← hmany, ← hz78, ← hz81, ← hz83, ← hz97, ← hz105]; omega) (by omega)) (by omega) (by rw [show 21 - (i + 1) = y by omega]) ls (lv_sub hl [4, 5, 6, 7, 8, 3, 1, 0] rfl)
              refine lv_iconst (v := nI 0) hx hb dX6_protectedOf_53 (by decide) ?_
              refine lv_istore (lv' := [(5, .int (nI 0)), (0, .ref (ad 0)), (1, .int (nI leg)), (2, .int (nI cost)), (3, .int (nI sum)), (4, .int (nI k))]) hx hb dX6_protectedOf_54 hl (by decide) rfl (fun ls hl => ?_)
              refine lv_iconst (v := nI 0) hx hb dX6_protectedOf_56 (by decide) ?_
              refine lv_istore (lv' := [(6, .int (nI 0)), (5, .int (nI 0)), (0, .ref (ad 0)), (1, .int (nI leg)), (2, .int (nI cost)), (3, .int (nI sum)), (4, .int (nI k))]) hx hb dX6_protectedOf_57 hl (by decide) rfl (fun ls hl => ?_)
              refine lv_bipush (v := nI 20) hx hb dX6_protectedOf_59 (by decide) ?_
              refine lv_istore (lv' := [(7, .int (nI 20)), (6, .int (nI 0)), (5, .int (nI 0)), (0, .ref (ad 0)), (1, .int (nI leg)), (2, .int (nI cost)), (3, .int (nI sum)), (4, .int (nI k))]) hx hb dX6_protectedOf_61 hl (by decide) rfl (fun ls hl => ?_)
              exact K63 _ 0 0 0 (nI 20) (Nat.lt_succ_self _) rfl rfl (by omega) (by decide) ls (lv_sub hl [3, 4, 5, 6, 7, 2, 1, 0] rfl)
        · skip
          rw [isIn_nn (by omega) (by omega) (by omega)] at b29
          refine lv_if_eq (tgt := 149) hx hb dX6_protectedOf_32 (by decide) (fun _ => ?_) (fun q => by first | exact absurd q (by decide) | exact absurd (by decide) q)
          exact K149 sum (hsum.trans (prS_n (by omega))) ls (lv_sub hl [0, 1, 2, 3, 4] rfl)
  refine lv_iconst (v := nI 0) hx hb dX6_protectedOf_0 (by decide) ?_
  refine lv_istore_n (lv' := [(3, .int (nI 0)), (0, .ref (ad 0)), (1, .int (nI leg)), (2, .int (nI cost))]) hx hb dX6_protectedOf_1 rfl hl (by decide) rfl (fun ls hl => ?_)
  refine lv_iconst (v := nI 0) hx hb dX6_protectedOf_2 (by decide) ?_
  refine lv_istore (lv' := [(4, .int (nI 0)), (3, .int (nI 0)), (0, .ref (ad 0)), (1, .int (nI leg)), (2, .int (nI cost))]) hx hb dX6_protectedOf_3 hl (by decide) rfl (fun ls hl => ?_)
  exact K5 _ 0 0 (Nat.lt_succ_self _) rfl (by omega) ls (lv_sub hl [2, 3, 4, 1, 0] rfl)
set_option maxHeartbeats 4000000 in
set_option maxRecDepth 100000 in
theorem c_X6_sold (l : Launch) (D : va_G) (cy : Nat → ClassId) (ad : Nat → Nat) (σ : SF) (er : Int64) (wo : Nat → Nat) (th : Nat) (hnb : σ 0 3 ≤ 60) (hbo : ∀ b, b < σ 0 3 → σ 13 b ≤ 30000 ∧ σ 14 b ≤ 1) : cRO l D cy yX6_sold wsX6_sold rmX6_sold [.ref (ad 0)] (WM ad cy σ er wo th) (pN (psum σ (σ 0 3))) := by
  refine cRO.of (cc := cX6_sold) (maxL := 3) (by decide) rfl (Nat.le_of_ble_eq_true rfl) (Or.inl rfl) ?_
  intro p e s m args below meth c H Q hx hb hml hown hts hP hK hret ls hl
  have K4 : ∀ (n4 : Nat) (sum : Nat) (k : Nat), σ 0 3 - k < n4 → (sum = psum σ k) → (k ≤ σ 0 3) → ∀ ls : Array Slot, lv_has ls 3 [(0, .ref (ad 0)), (1, .int (nI sum)), (2, .int (nI k))] → W p l e rmX6_sold s m args below meth c H [] 0 0 Q (F0 m 4 ls []) := by
    intro n4
    induction n4 with
    | zero =>
      intro sum k hfu
      exact absurd hfu (Nat.not_lt_zero _)
    | succ n4 ih4 =>
      intro sum k hfu hsum hk ls hl
      refine lv_iload_n hx hb dX6_sold_4 rfl (lv_at hl 2 rfl) ?_
      refine lv_aload_n hx hb dX6_sold_5 rfl (lv_at hl 0 rfl) ?_
      refine mg (v := .int (nI (σ 0 3))) hx hb hts fX6_sold_6 hown hK hP 12 (by decide) kX6_sold_6 rfl rfl dX6_sold_6 ?_
      refine ln_icmp_ge (tgt := 40) hx hb (by omega) (by omega) dX6_sold_9 (by decide) (fun c9 => ?_) (fun c9 => ?_)
      · skip
        refine lv_iload_n hx hb dX6_sold_40 rfl (lv_at hl 1 rfl) ?_
        exact hret dX6_sold_41 (pnE (by rw [hsum]; congr 1; omega))
      · skip
        have hbk := hbo k c9
        refine lv_iload_n hx hb dX6_sold_12 rfl (lv_at hl 1 rfl) ?_
        refine lv_aload_n hx hb dX6_sold_13 rfl (lv_at hl 0 rfl) ?_
        refine mg (v := .ref (ad 14)) hx hb hts fX6_sold_6 hown hK hP 17 (by decide) kX6_sold_14 rfl rfl dX6_sold_14 ?_
        refine lv_iload_n hx hb dX6_sold_17 rfl (lv_at hl 2 rfl) ?_
        refine ml14 (v := σ 14 k) hx hb hK hP (by omega) rfl dX6_sold_18 ?_
        refine ln_if_eq (tgt := 26) hx hb (by omega) dX6_sold_19 (by decide) (fun c19 => ?_) (fun c19 => ?_)
        · skip
          refine lv_aload_n hx hb dX6_sold_26 rfl (lv_at hl 0 rfl) ?_
          refine mg (v := .ref (ad 13)) hx hb hts fX6_sold_6 hown hK hP 16 (by decide) kX6_sold_27 rfl rfl dX6_sold_27 ?_
          refine lv_iload_n hx hb dX6_sold_30 rfl (lv_at hl 2 rfl) ?_
          refine ml13 (v := σ 13 k) hx hb hK hP (by omega) rfl dX6_sold_31 ?_
          refine ln_iadd hx hb dX6_sold_32 (fun z32 hz32 => ?_)
          refine lv_istore_n (lv' := [(1, .int (nI z32)), (0, .ref (ad 0)), (2, .int (nI k))]) hx hb dX6_sold_33 rfl hl (by decide) rfl (fun ls hl => ?_)
          obtain ⟨z34, hz34⟩ : ∃ z : Nat, z = k + 1 := ⟨_, rfl⟩
          refine lv_iinc (v := nI z34) (lv' := [(2, .int (nI z34)), (1, .int (nI z32)), (0, .ref (ad 0))]) hx hb dX6_sold_34 hl (k := 2) rfl (by rw [hz34]; exact nI_add _ 1) (by decide) rfl (fun ls hl => ?_)
          refine lv_goto (tgt := 4) hx hb dX6_sold_37 (by decide) ?_
          exact ih4 z32 z34 (by omega) (by rw [hz34, hz32, hsum]; first | exact psum_0 c19 | exact psum_1 c19) (by omega) ls (lv_sub hl [2, 1, 0] rfl)
        · skip
          refine lv_iconst (v := nI 0) hx hb dX6_sold_22 (by decide) ?_
          refine lv_goto (tgt := 32) hx hb dX6_sold_23 (by decide) ?_
          refine ln_iadd hx hb dX6_sold_32 (fun z32 hz32 => ?_)
          refine lv_istore_n (lv' := [(1, .int (nI z32)), (0, .ref (ad 0)), (2, .int (nI k))]) hx hb dX6_sold_33 rfl hl (by decide) rfl (fun ls hl => ?_)
          obtain ⟨z34, hz34⟩ : ∃ z : Nat, z = k + 1 := ⟨_, rfl⟩
          refine lv_iinc (v := nI z34) (lv' := [(2, .int (nI z34)), (1, .int (nI z32)), (0, .ref (ad 0))]) hx hb dX6_sold_34 hl (k := 2) rfl (by rw [hz34]; exact nI_add _ 1) (by decide) rfl (fun ls hl => ?_)
          refine lv_goto (tgt := 4) hx hb dX6_sold_37 (by decide) ?_
          exact ih4 z32 z34 (by omega) (by rw [hz34, hz32, hsum]; first | exact psum_0 c19 | exact psum_1 c19) (by omega) ls (lv_sub hl [2, 1, 0] rfl)
  refine lv_iconst (v := nI 0) hx hb dX6_sold_0 (by decide) ?_
  refine lv_istore_n (lv' := [(1, .int (nI 0)), (0, .ref (ad 0))]) hx hb dX6_sold_1 rfl hl (by decide) rfl (fun ls hl => ?_)
  refine lv_iconst (v := nI 0) hx hb dX6_sold_2 (by decide) ?_
  refine lv_istore_n (lv' := [(2, .int (nI 0)), (1, .int (nI 0)), (0, .ref (ad 0))]) hx hb dX6_sold_3 rfl hl (by decide) rfl (fun ls hl => ?_)
  exact K4 _ 0 0 (Nat.lt_succ_self _) rfl (by omega) ls (lv_sub hl [2, 1, 0] rfl)
set_option maxHeartbeats 4000000 in
set_option maxRecDepth 100000 in
theorem c_X6_refuses (l : Launch) (D : va_G) (cy : Nat → ClassId) (ad : Nat → Nat) (σ : SF) (er : Int64) (wo : Nat → Nat) (th : Nat) (v : Int32) (w : Nat) (hv : -v = nI w) (hw : w < 4) : cMI l D cy yX6_refuses wsX6_refuses rmX6_refuses [.ref (ad 0), .int v] (WM ad cy σ er wo th) (T := Unit) (fun _ => WM ad cy (va_up σ 15 (va_up (σ 15) w (σ 15 w + 1))) er wo th) (fun r _ => r = v) 0 0 := by
  refine cMI.of (cc := cX6_refuses) (maxL := 2) (by decide) rfl (Nat.le_of_ble_eq_true rfl) (Or.inl rfl) ?_
  intro p e s m args below meth c H0 A Q hx hb hml hown hts hP hK hD hS hA hret ls hl
  obtain ⟨H, locs, hH, hlo⟩ : ∃ (H : Heap) (locs : List Loc), H = H0 ∧ locs = [] := ⟨_, _, rfl, rfl⟩
  rw [← hH] at hP
  rw [show va_S A H0 H0 [] = va_S A H0 H locs by rw [hH, hlo]] at hS
  rw [show W p l e rmX6_refuses s m args below meth c H0 [] 0 0 Q (F0 m 0 ls []) = W p l e rmX6_refuses s m args below meth c H locs 0 0 Q (F0 m 0 ls []) by rw [hH, hlo]]
  refine lv_aload_n hx hb dX6_refuses_0 rfl (lv_at hl 0 rfl) ?_
  refine mg (v := .ref (ad 15)) hx hb hts fX6_refuses_6 hown hK hP 18 (by decide) kX6_refuses_1 rfl rfl dX6_refuses_1 ?_
  refine lv_iload_n hx hb dX6_refuses_4 rfl (lv_at hl 1 rfl) ?_
  refine lv_ineg hx hb dX6_refuses_5 ?_
  rw [hv]
  refine lv_dup2_11 hx hb dX6_refuses_6 rfl rfl ?_
  refine ml15 (v := σ 15 w) hx hb hK hP (by omega) rfl dX6_refuses_7 ?_
  refine lv_iconst (v := nI 1) hx hb dX6_refuses_8 (by decide) ?_
  refine ln_iadd hx hb dX6_refuses_9 (fun z9 hz9 => ?_)
  refine ms15 hx hb hK hP hD hS (by omega) dX6_refuses_10 (fun H locs hP hD hS => ?_)
  refine lv_iload_n hx hb dX6_refuses_11 rfl (lv_at hl 1 rfl) ?_
  have hP : va_P D vwCl (WM ad cy (va_up σ 15 (va_up (σ 15) w z9)) er wo th) H := hP
  have hD : va_D A (WM ad cy (va_up σ 15 (va_up (σ 15) w z9)) er wo th) := hD
  rw [hz9] at hP hD
  exact hret () dX6_refuses_12 hP hD hS rfl
set_option maxHeartbeats 4000000 in
set_option maxRecDepth 100000 in
theorem c_X6_books (l : Launch) (D : va_G) (cy : Nat → ClassId) (ad : Nat → Nat) (σ : SF) (er : Int64) (wo : Nat → Nat) (th : Nat) {n : Nat} (hI : Iv n σ) (f t n1 c0 : Nat) (hft : f ≤ t) (ht2 : t ≤ 2) (hnb : σ 0 3 < 60) : cMI l D cy yX6_books wsX6_books rmX6_books [.ref (ad 0), .int (nI f), .int (nI t), .int (nI n1), .int (nI c0)] (WM ad cy σ er wo th) (T := Unit) (fun _ => WM ad cy (bookF σ f t n1 c0) er wo th) (fun r _ => r = nI (σ 0 3)) 0 0 := by
  refine cMI.of (cc := cX6_books) (maxL := 6) (by decide) rfl (Nat.le_of_ble_eq_true rfl) (Or.inl rfl) ?_
  intro p e s m args below meth c H0 A Q hx hb hml hown hts hP hK hD hS hA hret ls hl
  obtain ⟨H, locs, hH, hlo⟩ : ∃ (H : Heap) (locs : List Loc), H = H0 ∧ locs = [] := ⟨_, _, rfl, rfl⟩
  rw [← hH] at hP
  rw [show va_S A H0 H0 [] = va_S A H0 H locs by rw [hH, hlo]] at hS
  rw [show W p l e rmX6_books s m args below meth c H0 [] 0 0 Q (F0 m 0 ls []) = W p l e rmX6_books s m args below meth c H locs 0 0 Q (F0 m 0 ls []) by rw [hH, hlo]]
  refine lv_aload_n hx hb dX6_books_0 rfl (lv_at hl 0 rfl) ?_
  refine mg (v := .ref (ad 10)) hx hb hts fX6_books_6 hown hK hP 13 (by decide) kX6_books_1 rfl rfl dX6_books_1 ?_
  refine lv_aload_n hx hb dX6_books_4 rfl (lv_at hl 0 rfl) ?_
  refine mg (v := .int (nI (σ 0 3))) hx hb hts fX6_books_6 hown hK hP 12 (by decide) kX6_books_5 rfl rfl dX6_books_5 ?_
  refine lv_iload_n hx hb dX6_books_8 rfl (lv_at hl 1 rfl) ?_
  refine ms10 hx hb hK hP hD hS (by omega) dX6_books_9 (fun H locs hP hD hS => ?_)
  refine lv_aload_n hx hb dX6_books_10 rfl (lv_at hl 0 rfl) ?_
  refine mg (v := .ref (ad 11)) hx hb hts fX6_books_6 hown hK hP 14 (by decide) kX6_books_11 rfl rfl dX6_books_11 ?_
  refine lv_aload_n hx hb dX6_books_14 rfl (lv_at hl 0 rfl) ?_
  refine mg (v := .int (nI (σ 0 3))) hx hb hts fX6_books_6 hown hK hP 12 (by decide) kX6_books_15 rfl rfl dX6_books_15 ?_
  refine lv_iload_n hx hb dX6_books_18 rfl (lv_at hl 2 rfl) ?_
  refine ms11 hx hb hK hP hD hS (by omega) dX6_books_19 (fun H locs hP hD hS => ?_)
  refine lv_aload_n hx hb dX6_books_20 rfl (lv_at hl 0 rfl) ?_
  refine mg (v := .ref (ad 12)) hx hb hts fX6_books_6 hown hK hP 15 (by decide) kX6_books_21 rfl rfl dX6_books_21 ?_
  refine lv_aload_n hx hb dX6_books_24 rfl (lv_at hl 0 rfl) ?_
  refine mg (v := .int (nI (σ 0 3))) hx hb hts fX6_books_6 hown hK hP 12 (by decide) kX6_books_25 rfl rfl dX6_books_25 ?_
  refine lv_iload_n hx hb dX6_books_28 rfl (lv_at hl 3 rfl) ?_
  refine ms12 hx hb hK hP hD hS (by omega) dX6_books_29 (fun H locs hP hD hS => ?_)
  refine lv_aload_n hx hb dX6_books_30 rfl (lv_at hl 0 rfl) ?_
  refine mg (v := .ref (ad 13)) hx hb hts fX6_books_6 hown hK hP 16 (by decide) kX6_books_31 rfl rfl dX6_books_31 ?_
  refine lv_aload_n hx hb dX6_books_34 rfl (lv_at hl 0 rfl) ?_
  refine mg (v := .int (nI (σ 0 3))) hx hb hts fX6_books_6 hown hK hP 12 (by decide) kX6_books_35 rfl rfl dX6_books_35 ?_
  refine lv_iload hx hb dX6_books_38 (lv_at hl 4 rfl) ?_
  refine ms13 hx hb hK hP hD hS (by omega) dX6_books_40 (fun H locs hP hD hS => ?_)
  refine lv_aload_n hx hb dX6_books_41 rfl (lv_at hl 0 rfl) ?_
  refine mg (v := .ref (ad 14)) hx hb hts fX6_books_6 hown hK hP 17 (by decide) kX6_books_42 rfl rfl dX6_books_42 ?_
  refine lv_aload_n hx hb dX6_books_45 rfl (lv_at hl 0 rfl) ?_
  refine mg (v := .int (nI (σ 0 3))) hx hb hts fX6_books_6 hown hK hP 12 (by decide) kX6_books_46 rfl rfl dX6_books_46 ?_
  refine lv_iconst (v := nI 0) hx hb dX6_books_49 (by decide) ?_
  refine ms14 hx hb hK hP hD hS (by omega) (by omega) dX6_books_50 (fun H locs hP hD hS => ?_)
  refine lv_iload_n hx hb dX6_books_51 rfl (lv_at hl 1 rfl) ?_
  have K54 : ∀ (n54 : Nat) (k : Nat) (bk : Nat → Nat), t + 1 - k < n54 → (bk = (fun j => σ 2 j + if f ≤ j ∧ j < k then n1 else 0)) → (f ≤ k) → (k ≤ t + 1) → ∀ (H : Heap) (locs : List Loc), va_P D vwCl (WM ad cy (va_up (va_up (va_up (va_up (va_up (va_up σ 2 bk) 10 (va_up (σ 10) (σ 0 3) f)) 11 (va_up (σ 11) (σ 0 3) t)) 12 (va_up (σ 12) (σ 0 3) n1)) 13 (va_up (σ 13) (σ 0 3) c0)) 14 (va_up (σ 14) (σ 0 3) 0)) er wo th) H → va_D A (WM ad cy (va_up (va_up (va_up (va_up (va_up (va_up σ 2 bk) 10 (va_up (σ 10) (σ 0 3) f)) 11 (va_up (σ 11) (σ 0 3) t)) 12 (va_up (σ 12) (σ 0 3) n1)) 13 (va_up (σ 13) (σ 0 3) c0)) 14 (va_up (σ 14) (σ 0 3) 0)) er wo th) → va_S A H0 H locs → ∀ ls : Array Slot, lv_has ls 6 [(0, .ref (ad 0)), (1, .int (nI f)), (2, .int (nI t)), (3, .int (nI n1)), (4, .int (nI c0)), (5, .int (nI k))] → W p l e rmX6_books s m args below meth c H locs 0 0 Q (F0 m 54 ls []) := by
    intro n54
    induction n54 with
    | zero =>
      intro k bk hfu
      exact absurd hfu (Nat.not_lt_zero _)
    | succ n54 ih54 =>
      intro k bk hfu hbk hk1 hk2 H locs hP hD hS ls hl
      refine lv_iload hx hb dX6_books_54 (lv_at hl 5 rfl) ?_
      refine lv_iload_n hx hb dX6_books_56 rfl (lv_at hl 2 rfl) ?_
      refine ln_icmp_gt (tgt := 77) hx hb (by omega) (by omega) dX6_books_57 (by decide) (fun c57 => ?_) (fun c57 => ?_)
      · skip
        refine lv_aload_n hx hb dX6_books_77 rfl (lv_at hl 0 rfl) ?_
        refine lv_dup hx hb dX6_books_78 rfl ?_
        refine mg (v := .int (nI (σ 0 3))) hx hb hts fX6_books_6 hown hK hP 12 (by decide) kX6_books_79 rfl rfl dX6_books_79 ?_
        refine lv_iconst (v := nI 1) hx hb dX6_books_82 (by decide) ?_
        refine ln_iadd hx hb dX6_books_83 (fun z83 hz83 => ?_)
        refine mp_bookings hx hb hts fX6_books_6 hown hK hP hD hS kX6_books_84 dX6_books_84 (fun H locs hP hD hS => ?_)
        refine lv_aload_n hx hb dX6_books_87 rfl (lv_at hl 0 rfl) ?_
        refine mg (v := .int (nI z83)) hx hb hts fX6_books_6 hown hK hP 12 (by decide) kX6_books_88 rfl rfl dX6_books_88 ?_
        refine lv_iconst (v := nI 1) hx hb dX6_books_91 (by decide) ?_
        refine ln_isub hx hb (by omega) dX6_books_92 (fun z92 hz92 => ?_)
        have hP : va_P D vwCl (WM ad cy (va_up (va_up (va_up (va_up (va_up (va_up (va_up σ 0 (va_up (σ 0) 3 z83)) 2 bk) 10 (va_up (σ 10) (σ 0 3) f)) 11 (va_up (σ 11) (σ 0 3) t)) 12 (va_up (σ 12) (σ 0 3) n1)) 13 (va_up (σ 13) (σ 0 3) c0)) 14 (va_up (σ 14) (σ 0 3) 0)) er wo th) H := hP
        have hD : va_D A (WM ad cy (va_up (va_up (va_up (va_up (va_up (va_up (va_up σ 0 (va_up (σ 0) 3 z83)) 2 bk) 10 (va_up (σ 10) (σ 0 3) f)) 11 (va_up (σ 11) (σ 0 3) t)) 12 (va_up (σ 12) (σ 0 3) n1)) 13 (va_up (σ 13) (σ 0 3) c0)) 14 (va_up (σ 14) (σ 0 3) 0)) er wo th) := hD
        rw [bk_e (t := t) hbk (by omega), hz83] at hP hD
        exact hret () dX6_books_93 hP hD hS (by rw [show z92 = σ 0 3 by omega])
      · skip
        refine lv_aload_n hx hb dX6_books_60 rfl (lv_at hl 0 rfl) ?_
        refine mg (v := .ref (ad 2)) hx hb hts fX6_books_6 hown hK hP 1 (by decide) kX6_books_61 rfl rfl dX6_books_61 ?_
        refine lv_iload hx hb dX6_books_64 (lv_at hl 5 rfl) ?_
        refine lv_dup2_11 hx hb dX6_books_66 rfl rfl ?_
        refine ml2 (v := bk k) hx hb hK hP (by omega) rfl dX6_books_67 ?_
        refine lv_iload_n hx hb dX6_books_68 rfl (lv_at hl 3 rfl) ?_
        refine ln_iadd hx hb dX6_books_69 (fun z69 hz69 => ?_)
        refine ms2 hx hb hK hP hD hS (by omega) dX6_books_70 (fun H locs hP hD hS => ?_)
        obtain ⟨z71, hz71⟩ : ∃ z : Nat, z = k + 1 := ⟨_, rfl⟩
        refine lv_iinc (v := nI z71) (lv' := [(5, .int (nI z71)), (0, .ref (ad 0)), (1, .int (nI f)), (2, .int (nI t)), (3, .int (nI n1)), (4, .int (nI c0))]) hx hb dX6_books_71 hl (k := 5) rfl (by rw [hz71]; exact nI_add _ 1) (by decide) rfl (fun ls hl => ?_)
        refine lv_goto (tgt := 54) hx hb dX6_books_74 (by decide) ?_
        have hP : va_P D vwCl (WM ad cy (va_up (va_up (va_up (va_up (va_up (va_up σ 2 (va_up bk k z69)) 10 (va_up (σ 10) (σ 0 3) f)) 11 (va_up (σ 11) (σ 0 3) t)) 12 (va_up (σ 12) (σ 0 3) n1)) 13 (va_up (σ 13) (σ 0 3) c0)) 14 (va_up (σ 14) (σ 0 3) 0)) er wo th) H := hP
        have hD : va_D A (WM ad cy (va_up (va_up (va_up (va_up (va_up (va_up σ 2 (va_up bk k z69)) 10 (va_up (σ 10) (σ 0 3) f)) 11 (va_up (σ 11) (σ 0 3) t)) 12 (va_up (σ 12) (σ 0 3) n1)) 13 (va_up (σ 13) (σ 0 3) c0)) 14 (va_up (σ 14) (σ 0 3) 0)) er wo th) := hD
        exact ih54 z71 (va_up bk k z69) (by omega) (by rw [hz71]; exact bk_s hbk hz69 (by omega)) (by omega) (by omega) H locs hP hD hS ls (lv_sub hl [1, 2, 3, 4, 5, 0] rfl)
  refine lv_istore (lv' := [(5, .int (nI f)), (0, .ref (ad 0)), (1, .int (nI f)), (2, .int (nI t)), (3, .int (nI n1)), (4, .int (nI c0))]) hx hb dX6_books_52 hl (by decide) rfl (fun ls hl => ?_)
  have hP : va_P D vwCl (WM ad cy (va_up (va_up (va_up (va_up (va_up σ 10 (va_up (σ 10) (σ 0 3) f)) 11 (va_up (σ 11) (σ 0 3) t)) 12 (va_up (σ 12) (σ 0 3) n1)) 13 (va_up (σ 13) (σ 0 3) c0)) 14 (va_up (σ 14) (σ 0 3) 0)) er wo th) H := hP
  have hD : va_D A (WM ad cy (va_up (va_up (va_up (va_up (va_up σ 10 (va_up (σ 10) (σ 0 3) f)) 11 (va_up (σ 11) (σ 0 3) t)) 12 (va_up (σ 12) (σ 0 3) n1)) 13 (va_up (σ 13) (σ 0 3) c0)) 14 (va_up (σ 14) (σ 0 3) 0)) er wo th) := hD
  exact K54 _ f (σ 2) (Nat.lt_succ_self _) bk_0 (by omega) (by omega) H locs hP hD hS ls (lv_sub hl [1, 2, 3, 4, 5, 0] rfl)
