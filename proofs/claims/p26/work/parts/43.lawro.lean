set_option maxHeartbeats 4000000 in
set_option maxRecDepth 100000 in
theorem c_L_part (l : Launch) (b L : Nat) (xs : Nat → Int32) (k n : Nat) (hL : L ≤ 260) (hk : k < 1000) (hn0 : 0 < n) (hn : n < 2 ^ 31) : cRX l yL_part wsL_part rmL_part [.ref b, .int (nI k), .int (nI n)] b L xs (fun r => ∃ z, z < n ∧ r = nI z) := by
  refine cRX.of (cc := cL_part) (maxL := 4) (by decide) rfl (Nat.le_of_ble_eq_true rfl) ?_
  intro p e s m args below meth c H Q hx hb hml hown hts hX hbl hret ls hl
  have K25 : ∀ (v : Int32), ∀ ls : Array Slot, lv_has ls 4 [(0, .ref b), (1, .int (nI k)), (2, .int (nI n))] → W p l e rmL_part s m args below meth c H [] 0 0 Q (F0 m 25 ls [.int v]) := by
    intro v  ls hl
    refine lv_istore_n (lv' := [(3, .int v), (0, .ref b), (1, .int (nI k)), (2, .int (nI n))]) hx hb dL_part_25 rfl hl (by decide) rfl (fun ls hl => ?_)
    refine lv_iload_n hx hb dL_part_26 rfl (lv_at hl 0 rfl) ?_
    refine lv_ldc (v := 2147483647) hx hb hown (hts _ (List.mem_of_getElem? (i := 1) rfl)) dL_part_27 ?_
    refine lv_iand hx hb dL_part_29 ?_
    obtain ⟨j29, hj29, he29⟩ := pk_andE v (m := 2147483647) 31 (by decide)
    rw [he29]
    refine lv_iload_n hx hb dL_part_30 rfl (lv_at hl 3 rfl) ?_
    refine ln_irem hx hb (by omega) (by omega) (by omega) dL_part_31 (fun z31 hz31 => ?_)
    exact hret dL_part_32 ⟨z31, by rw [hz31]; exact Nat.mod_lt _ hn0, rfl⟩
  refine lv_iload_n hx hb dL_part_0 rfl (lv_at hl 1 rfl) ?_
  refine lv_aload_n hx hb dL_part_1 rfl (lv_at hl 0 rfl) ?_
  refine lw_slen (A0 := fun _ => False) hx hb hX hbl id va_S.rf dL_part_2 ?_
  refine ln_icmp_ge (tgt := 12) hx hb (by omega) (by omega) dL_part_3 (by decide) (fun c3 => ?_) (fun c3 => ?_)
  · skip
    refine lv_sipush (v := nI 439) hx hb dL_part_12 (by decide) ?_
    refine lv_iload_n hx hb dL_part_15 rfl (lv_at hl 1 rfl) ?_
    refine ln_imul hx hb dL_part_16 (fun z16 hz16 => ?_)
    refine lv_sipush (v := nI 307) hx hb dL_part_17 (by decide) ?_
    refine lv_iload_n hx hb dL_part_20 rfl (lv_at hl 1 rfl) ?_
    refine ln_imul hx hb dL_part_21 (fun z21 hz21 => ?_)
    refine lv_iload_n hx hb dL_part_22 rfl (lv_at hl 1 rfl) ?_
    refine ln_imul hx hb dL_part_23 (fun z23 hz23 => ?_)
    refine ln_iadd hx hb dL_part_24 (fun z24 hz24 => ?_)
    exact K25 (nI z24)  ls (lv_sub hl [0, 1, 2] rfl)
  · skip
    refine lv_aload_n hx hb dL_part_6 rfl (lv_at hl 0 rfl) ?_
    refine lv_iload_n hx hb dL_part_7 rfl (lv_at hl 1 rfl) ?_
    refine lw_sld (A0 := fun _ => False) hx hb hX hbl id va_S.rf (by omega) (by omega) dL_part_8 ?_
    refine lv_goto (tgt := 25) hx hb dL_part_9 (by decide) ?_
    exact K25 (xs k)  ls (lv_sub hl [0, 1, 2] rfl)
set_option maxHeartbeats 4000000 in
set_option maxRecDepth 100000 in
theorem c_L_booked (l : Launch) (D : va_G) (cy : Nat → ClassId) (ap ah ab ag : Nat) (pf hf bf gf : Nat → Nat) (ei : Int32) (σ : SF) {n : Nat} (hI : Iv n σ) (hM : MR σ pf hf bf gf) (leg : Nat) (hleg : leg < 3) : cRO l D cy yL_booked wsL_booked rmL_booked [.ref ab, .ref ag, .int (nI leg)] (MC cy ap ah ab ag pf hf bf gf ei) (pN (σ 2 leg)) := by
  refine cRO.of (cc := cL_booked) (maxL := 5) (by decide) rfl (Nat.le_of_ble_eq_true rfl) (Or.inl rfl) ?_
  intro p e s m args below meth c H Q hx hb hml hown hts hP hK hret ls hl
  have hnb := hM.nb
  have K5 : ∀ (n5 : Nat) (k : Nat) (q : Nat), σ 0 3 - k < n5 → (k ≤ σ 0 3) → (q = bsum σ leg k) → ∀ ls : Array Slot, lv_has ls 5 [(0, .ref ab), (1, .ref ag), (2, .int (nI leg)), (3, .int (nI q)), (4, .int (nI k))] → W p l e rmL_booked s m args below meth c H [] 0 0 Q (F0 m 5 ls []) := by
    intro n5
    induction n5 with
    | zero =>
      intro k q hfu
      exact absurd hfu (Nat.not_lt_zero _)
    | succ n5 ih5 =>
      intro k q hfu hk hq ls hl
      refine lv_iload hx hb dL_booked_5 (lv_at hl 4 rfl) ?_
      refine lv_aload_n hx hb dL_booked_7 rfl (lv_at hl 1 rfl) ?_
      refine lv_bipush (v := nI 6) hx hb dL_booked_8 (by decide) ?_
      refine mg_ld (v := σ 0 3) hx hb hK hP (by omega) hM.g6 dL_booked_10 ?_
      refine ln_icmp_ge (tgt := 70) hx hb (by omega) (by omega) dL_booked_11 (by decide) (fun c11 => ?_) (fun c11 => ?_)
      · skip
        refine lv_iload_n hx hb dL_booked_70 rfl (lv_at hl 3 rfl) ?_
        exact hret dL_booked_71 (pnE (by rw [hI.bk leg hleg, hq, show k = σ 0 3 by omega]))
      · skip
        have hb1 := hM.b1 (b := k) c11
        have hb2 := hM.b2 (b := k) c11 (i := 20 + k) rfl
        have hbo := hI.bo k c11
        have hxo := hM.bo c11
        have K62 : ∀ (x : Nat), (q + x = bsum σ leg (k + 1)) → ∀ ls : Array Slot, lv_has ls 5 [(0, .ref ab), (1, .ref ag), (2, .int (nI leg)), (3, .int (nI q)), (4, .int (nI k))] → W p l e rmL_booked s m args below meth c H [] 0 0 Q (F0 m 62 ls [.int (nI x), .int (nI q)]) := by
          intro x hx2 ls hl
          refine ln_iadd hx hb dL_booked_62 (fun z62 hz62 => ?_)
          refine lv_istore_n (lv' := [(3, .int (nI z62)), (0, .ref ab), (1, .ref ag), (2, .int (nI leg)), (4, .int (nI k))]) hx hb dL_booked_63 rfl hl (by decide) rfl (fun ls hl => ?_)
          obtain ⟨z64, hz64⟩ : ∃ z : Nat, z = k + 1 := ⟨_, rfl⟩
          refine lv_iinc (v := nI z64) (lv' := [(4, .int (nI z64)), (3, .int (nI z62)), (0, .ref ab), (1, .ref ag), (2, .int (nI leg))]) hx hb dL_booked_64 hl (k := 4) rfl (by rw [hz64]; exact nI_add _ 1) (by decide) rfl (fun ls hl => ?_)
          refine lv_goto (tgt := 5) hx hb dL_booked_67 (by decide) ?_
          exact ih5 z64 z62 (by omega) (by omega) (by rw [hz62, hx2, hz64]) ls (lv_sub hl [2, 3, 4, 1, 0] rfl)
        refine lv_iload_n hx hb dL_booked_14 rfl (lv_at hl 3 rfl) ?_
        refine lv_aload_n hx hb dL_booked_15 rfl (lv_at hl 0 rfl) ?_
        refine lv_bipush (v := nI 20) hx hb dL_booked_16 (by decide) ?_
        refine lv_iload hx hb dL_booked_18 (lv_at hl 4 rfl) ?_
        refine ln_iadd hx hb dL_booked_20 (fun z20 hz20 => ?_)
        refine mb_ld (v := bf (20 + k)) hx hb hK hP (by omega) (by rw [hz20]) dL_booked_21 ?_
        refine ln_if_le (tgt := 61) hx hb (by rw [hb2]; split <;> omega) dL_booked_22 (by decide) (fun c22 => ?_) (fun c22 => ?_)
        · skip
          refine lv_iconst (v := nI 0) hx hb dL_booked_61 (by decide) ?_
          exact K62 0 (by rw [hq]; exact bsum_n (fun w => by obtain ⟨w1, w2, w3⟩ := w; rw [if_pos w1] at hb2; omega)) ls (lv_sub hl [0, 1, 2, 3, 4] rfl)
        · skip
          refine lv_aload_n hx hb dL_booked_25 rfl (lv_at hl 0 rfl) ?_
          refine lv_iload hx hb dL_booked_26 (lv_at hl 4 rfl) ?_
          refine mb_ld (v := 1000 * σ 10 k + 100 * σ 11 k + σ 12 k) hx hb hK hP (by omega) hb1 dL_booked_28 ?_
          refine lv_sipush (v := nI 1000) hx hb dL_booked_29 (by decide) ?_
          refine ln_idiv hx hb (by omega) (by omega) (by omega) dL_booked_32 (fun z32 hz32 => ?_)
          refine lv_iload_n hx hb dL_booked_33 rfl (lv_at hl 2 rfl) ?_
          refine ln_icmp_gt (tgt := 61) hx hb (by omega) (by omega) dL_booked_34 (by decide) (fun c34 => ?_) (fun c34 => ?_)
          · skip
            refine lv_iconst (v := nI 0) hx hb dL_booked_61 (by decide) ?_
            exact K62 0 (by rw [hq]; exact bsum_n (fun w => by obtain ⟨w1, w2, w3⟩ := w; rw [if_pos w1] at hb2; omega)) ls (lv_sub hl [0, 1, 2, 3, 4] rfl)
          · skip
            refine lv_aload_n hx hb dL_booked_37 rfl (lv_at hl 0 rfl) ?_
            refine lv_iload hx hb dL_booked_38 (lv_at hl 4 rfl) ?_
            refine mb_ld (v := 1000 * σ 10 k + 100 * σ 11 k + σ 12 k) hx hb hK hP (by omega) hb1 dL_booked_40 ?_
            refine lv_bipush (v := nI 100) hx hb dL_booked_41 (by decide) ?_
            refine ln_idiv hx hb (by omega) (by omega) (by omega) dL_booked_43 (fun z43 hz43 => ?_)
            refine lv_bipush (v := nI 10) hx hb dL_booked_44 (by decide) ?_
            refine ln_irem hx hb (by omega) (by omega) (by omega) dL_booked_46 (fun z46 hz46 => ?_)
            refine lv_iload_n hx hb dL_booked_47 rfl (lv_at hl 2 rfl) ?_
            refine ln_icmp_lt (tgt := 61) hx hb (by omega) (by omega) dL_booked_48 (by decide) (fun c48 => ?_) (fun c48 => ?_)
            · skip
              refine lv_iconst (v := nI 0) hx hb dL_booked_61 (by decide) ?_
              exact K62 0 (by rw [hq]; exact bsum_n (fun w => by obtain ⟨w1, w2, w3⟩ := w; rw [if_pos w1] at hb2; omega)) ls (lv_sub hl [0, 1, 2, 3, 4] rfl)
            · skip
              refine lv_aload_n hx hb dL_booked_51 rfl (lv_at hl 0 rfl) ?_
              refine lv_iload hx hb dL_booked_52 (lv_at hl 4 rfl) ?_
              refine mb_ld (v := 1000 * σ 10 k + 100 * σ 11 k + σ 12 k) hx hb hK hP (by omega) hb1 dL_booked_54 ?_
              refine lv_bipush (v := nI 100) hx hb dL_booked_55 (by decide) ?_
              refine ln_irem hx hb (by omega) (by omega) (by omega) dL_booked_57 (fun z57 hz57 => ?_)
              refine lv_goto (tgt := 62) hx hb dL_booked_58 (by decide) ?_
              exact K62 z57 (by rw [hq, show z57 = σ 12 k by omega]; exact bsum_y ⟨by rcases Nat.eq_zero_or_pos (σ 14 k) with w | w; exact w; rw [if_neg (by omega)] at hb2; omega, by omega, by omega⟩) ls (lv_sub hl [0, 1, 2, 3, 4] rfl)
  refine lv_iconst (v := nI 0) hx hb dL_booked_0 (by decide) ?_
  refine lv_istore_n (lv' := [(3, .int (nI 0)), (0, .ref ab), (1, .ref ag), (2, .int (nI leg))]) hx hb dL_booked_1 rfl hl (by decide) rfl (fun ls hl => ?_)
  refine lv_iconst (v := nI 0) hx hb dL_booked_2 (by decide) ?_
  refine lv_istore (lv' := [(4, .int (nI 0)), (3, .int (nI 0)), (0, .ref ab), (1, .ref ag), (2, .int (nI leg))]) hx hb dL_booked_3 hl (by decide) rfl (fun ls hl => ?_)
  exact K5 _ 0 0 (Nat.lt_succ_self _) (Nat.zero_le _) rfl ls (lv_sub hl [2, 3, 4, 1, 0] rfl)
set_option maxHeartbeats 4000000 in
set_option maxRecDepth 100000 in
theorem c_L_authorised (l : Launch) (D : va_G) (cy : Nat → ClassId) (ap ah ab ag : Nat) (pf hf bf gf : Nat → Nat) (ei : Int32) (σ : SF) {n : Nat} (hI : Iv n σ) (hM : MR σ pf hf bf gf) (leg : Nat) (hleg : leg < 3) : cRO l D cy yL_authorised wsL_authorised rmL_authorised [.ref ag, .int (nI leg)] (MC cy ap ah ab ag pf hf bf gf ei) (pN (aut σ leg)) := by
  refine cRO.of (cc := cL_authorised) (maxL := 2) (by decide) rfl (Nat.le_of_ble_eq_true rfl) (Or.inl rfl) ?_
  intro p e s m args below meth c H Q hx hb hml hown hts hP hK hret ls hl
  have hrt := hI.rt
  have hse := hI.se leg hleg
  refine lv_aload_n hx hb dL_authorised_0 rfl (lv_at hl 0 rfl) ?_
  refine lv_iload_n hx hb dL_authorised_1 rfl (lv_at hl 1 rfl) ?_
  refine mg_ld (v := σ 1 leg) hx hb hK hP (by omega) (hM.g0 hleg) dL_authorised_2 ?_
  refine lv_aload_n hx hb dL_authorised_3 rfl (lv_at hl 0 rfl) ?_
  refine lv_iload_n hx hb dL_authorised_4 rfl (lv_at hl 1 rfl) ?_
  refine mg_ld (v := σ 1 leg) hx hb hK hP (by omega) (hM.g0 hleg) dL_authorised_5 ?_
  refine lv_bipush (v := nI 100) hx hb dL_authorised_6 (by decide) ?_
  refine lv_aload_n hx hb dL_authorised_8 rfl (lv_at hl 0 rfl) ?_
  refine lv_iconst (v := nI 3) hx hb dL_authorised_9 (by decide) ?_
  refine mg_ld (v := σ 0 2) hx hb hK hP (by omega) hM.g3 dL_authorised_10 ?_
  refine ln_isub hx hb (by omega) dL_authorised_11 (fun z11 hz11 => ?_)
  refine ln_imul hx hb dL_authorised_12 (fun z12 hz12 => ?_)
  refine lv_bipush (v := nI 100) hx hb dL_authorised_13 (by decide) ?_
  refine ln_idiv hx hb (by rw [hz12]; exact Nat.lt_of_le_of_lt (Nat.mul_le_mul hse (show z11 ≤ 100 by omega)) (by decide)) (by omega) (by omega) dL_authorised_15 (fun z15 hz15 => ?_)
  refine ln_iadd hx hb dL_authorised_16 (fun z16 hz16 => ?_)
  exact hret dL_authorised_17 (pnE (by rw [hz16, hz15, hz12, hz11]; rfl))
set_option maxHeartbeats 4000000 in
set_option maxRecDepth 100000 in
theorem c_L_guarded (l : Launch) (D : va_G) (cy : Nat → ClassId) (ap ah ab ag : Nat) (pf hf bf gf : Nat → Nat) (ei : Int32) (σ : SF) {n : Nat} (hI : Iv n σ) (hM : MR σ pf hf bf gf) (leg fare : Nat) (hleg : leg < 3) (hfa1 : 1 ≤ fare) (hfa2 : fare ≤ 1000) : cRO l D cy yL_guarded wsL_guarded rmL_guarded [.ref ap, .ref ah, .ref ag, .int (nI leg), .int (nI fare)] (MC cy ap ah ab ag pf hf bf gf ei) (pN (prot σ leg fare)) := by
  refine cRO.of (cc := cL_guarded) (maxL := 12) (by decide) rfl (Nat.le_of_ble_eq_true rfl) (Or.inl rfl) ?_
  intro p e s m args below meth c H Q hx hb hml hown hts hP hK hret ls hl
  have hnp := hM.np
  have hdy := hM.dy
  have K6 : ∀ (n6 : Nat) (k : Nat) (q : Nat), σ 0 0 - k < n6 → (k ≤ σ 0 0) → (q = prS σ leg fare k) → ∀ ls : Array Slot, lv_has ls 12 [(0, .ref ap), (1, .ref ah), (2, .ref ag), (3, .int (nI leg)), (4, .int (nI fare)), (5, .int (nI q)), (6, .int (nI k))] → W p l e rmL_guarded s m args below meth c H [] 0 0 Q (F0 m 6 ls []) := by
    intro n6
    induction n6 with
    | zero =>
      intro k q hfu
      exact absurd hfu (Nat.not_lt_zero _)
    | succ n6 ih6 =>
      intro k q hfu hk hq ls hl
      refine lv_iload hx hb dL_guarded_6 (lv_at hl 6 rfl) ?_
      refine lv_aload_n hx hb dL_guarded_8 rfl (lv_at hl 2 rfl) ?_
      refine lv_iconst (v := nI 4) hx hb dL_guarded_9 (by decide) ?_
      refine mg_ld (v := σ 0 0) hx hb hK hP (by omega) hM.g4 dL_guarded_10 ?_
      refine ln_icmp_ge (tgt := 164) hx hb (by omega) (by omega) dL_guarded_11 (by decide) (fun c11 => ?_) (fun c11 => ?_)
      · skip
        refine lv_iload hx hb dL_guarded_164 (lv_at hl 5 rfl) ?_
        exact hret dL_guarded_166 (pnE (by first | (rw [hq, show k = σ 0 0 by omega]; rfl) | (rw [hq, prS_0 c17]; exact (prS_0 c17 _).symm)))
      · skip
        refine lv_aload_n hx hb dL_guarded_14 rfl (lv_at hl 2 rfl) ?_
        refine lv_iconst (v := nI 5) hx hb dL_guarded_15 (by decide) ?_
        refine mg_ld (v := σ 0 1) hx hb hK hP (by omega) hM.g5 dL_guarded_16 ?_
        refine ln_if_le (tgt := 164) hx hb (by omega) dL_guarded_17 (by decide) (fun c17 => ?_) (fun c17 => ?_)
        · skip
          refine lv_iload hx hb dL_guarded_164 (lv_at hl 5 rfl) ?_
          exact hret dL_guarded_166 (pnE (by first | (rw [hq, show k = σ 0 0 by omega]; rfl) | (rw [hq, prS_0 c17]; exact (prS_0 c17 _).symm)))
        · skip
          have hpk := hI.pr k c11
          have K155 : ∀ (x : Nat), (q + x = prS σ leg fare (k + 1)) → ∀ ls : Array Slot, lv_has ls 12 [(0, .ref ap), (1, .ref ah), (2, .ref ag), (3, .int (nI leg)), (4, .int (nI fare)), (5, .int (nI q)), (6, .int (nI k))] → W p l e rmL_guarded s m args below meth c H [] 0 0 Q (F0 m 155 ls [.int (nI x), .int (nI q)]) := by
            intro x hx5 ls hl
            refine ln_iadd hx hb dL_guarded_155 (fun z155 hz155 => ?_)
            refine lv_istore (lv' := [(5, .int (nI z155)), (0, .ref ap), (1, .ref ah), (2, .ref ag), (3, .int (nI leg)), (4, .int (nI fare)), (6, .int (nI k))]) hx hb dL_guarded_156 hl (by decide) rfl (fun ls hl => ?_)
            obtain ⟨z158, hz158⟩ : ∃ z : Nat, z = k + 1 := ⟨_, rfl⟩
            refine lv_iinc (v := nI z158) (lv' := [(6, .int (nI z158)), (5, .int (nI z155)), (0, .ref ap), (1, .ref ah), (2, .ref ag), (3, .int (nI leg)), (4, .int (nI fare))]) hx hb dL_guarded_158 hl (k := 6) rfl (by rw [hz158]; exact nI_add _ 1) (by decide) rfl (fun ls hl => ?_)
            refine lv_goto (tgt := 6) hx hb dL_guarded_161 (by decide) ?_
            exact ih6 z158 z155 (by omega) (by omega) (by rw [hz155, hx5, hz158]) ls (lv_sub hl [2, 3, 4, 5, 6, 1, 0] rfl)
          refine lv_bipush (v := nI 6) hx hb dL_guarded_20 (by decide) ?_
          refine lv_iload hx hb dL_guarded_22 (lv_at hl 6 rfl) ?_
          refine ln_imul hx hb dL_guarded_24 (fun z24 hz24 => ?_)
          refine lv_istore (lv' := [(7, .int (nI z24)), (0, .ref ap), (1, .ref ah), (2, .ref ag), (3, .int (nI leg)), (4, .int (nI fare)), (5, .int (nI q)), (6, .int (nI k))]) hx hb dL_guarded_25 hl (by decide) rfl (fun ls hl => ?_)
          refine lv_iconst (v := nI 0) hx hb dL_guarded_27 (by decide) ?_
          refine lv_istore (lv' := [(8, .int (nI 0)), (7, .int (nI z24)), (0, .ref ap), (1, .ref ah), (2, .ref ag), (3, .int (nI leg)), (4, .int (nI fare)), (5, .int (nI q)), (6, .int (nI k))]) hx hb dL_guarded_28 hl (by decide) rfl (fun ls hl => ?_)
          have K33 : ∀ (n33 : Nat) (y : Nat) (mo : Nat), 21 - y < n33 → (1 ≤ y ∧ y ≤ 21) → (mo = mY (σ 5 k) (fare * σ 0 1) (fun j => cE hf k j (σ 0 1)) (y - 1)) → ∀ ls : Array Slot, lv_has ls 12 [(0, .ref ap), (1, .ref ah), (2, .ref ag), (3, .int (nI leg)), (4, .int (nI fare)), (5, .int (nI q)), (6, .int (nI k)), (7, .int (nI z24)), (8, .int (nI mo)), (9, .int (nI y))] → W p l e rmL_guarded s m args below meth c H [] 0 0 Q (F0 m 33 ls []) := by
            intro n33
            induction n33 with
            | zero =>
              intro y mo hfu
              exact absurd hfu (Nat.not_lt_zero _)
            | succ n33 ih33 =>
              intro y mo hfu hy hmo ls hl
              refine lv_iload hx hb dL_guarded_33 (lv_at hl 9 rfl) ?_
              refine lv_bipush (v := nI 20) hx hb dL_guarded_35 (by decide) ?_
              refine ln_icmp_gt (tgt := 118) hx hb (by omega) (by omega) dL_guarded_37 (by decide) (fun c37 => ?_) (fun c37 => ?_)
              · skip
                have hmo9 : mo = pmU σ k fare 21 := by rw [hmo, show y - 1 = 20 by omega]; exact mY_pm (hM.hh c11)
                refine lv_iload hx hb dL_guarded_118 (lv_at hl 5 rfl) ?_
                refine lv_aload_n hx hb dL_guarded_120 rfl (lv_at hl 0 rfl) ?_
                refine lv_iload hx hb dL_guarded_121 (lv_at hl 7 rfl) ?_
                refine mp_ld (v := σ 3 k) hx hb hK hP (by omega) (hM.p0 c11 (by omega)) dL_guarded_123 ?_
                refine lv_iload_n hx hb dL_guarded_124 rfl (lv_at hl 3 rfl) ?_
                refine ln_icmp_gt (tgt := 154) hx hb (by omega) (by omega) dL_guarded_125 (by decide) (fun c125 => ?_) (fun c125 => ?_)
                · skip
                  refine lv_iconst (v := nI 0) hx hb dL_guarded_154 (by decide) ?_
                  exact K155 0 (by rw [hq, Nat.add_zero]; exact prS_n (fun w => by obtain ⟨⟨w1, w2⟩, w3, w4⟩ := w; omega)) ls (lv_sub hl [0, 1, 2, 3, 4, 5, 6] rfl)
                · skip
                  refine lv_aload_n hx hb dL_guarded_128 rfl (lv_at hl 0 rfl) ?_
                  refine lv_iload hx hb dL_guarded_129 (lv_at hl 7 rfl) ?_
                  refine lv_iconst (v := nI 1) hx hb dL_guarded_131 (by decide) ?_
                  refine ln_iadd hx hb dL_guarded_132 (fun z132 hz132 => ?_)
                  refine mp_ld (v := σ 4 k) hx hb hK hP (by omega) (hM.p1 c11 (by omega)) dL_guarded_133 ?_
                  refine lv_iload_n hx hb dL_guarded_134 rfl (lv_at hl 3 rfl) ?_
                  refine ln_icmp_lt (tgt := 154) hx hb (by omega) (by omega) dL_guarded_135 (by decide) (fun c135 => ?_) (fun c135 => ?_)
                  · skip
                    refine lv_iconst (v := nI 0) hx hb dL_guarded_154 (by decide) ?_
                    exact K155 0 (by rw [hq, Nat.add_zero]; exact prS_n (fun w => by obtain ⟨⟨w1, w2⟩, w3, w4⟩ := w; omega)) ls (lv_sub hl [0, 1, 2, 3, 4, 5, 6] rfl)
                  · skip
                    refine lv_aload_n hx hb dL_guarded_138 rfl (lv_at hl 0 rfl) ?_
                    refine lv_iload hx hb dL_guarded_139 (lv_at hl 7 rfl) ?_
                    refine lv_iconst (v := nI 2) hx hb dL_guarded_141 (by decide) ?_
                    refine ln_iadd hx hb dL_guarded_142 (fun z142 hz142 => ?_)
                    refine mp_ld (v := σ 5 k) hx hb hK hP (by omega) (hM.p2 c11 (by omega)) dL_guarded_143 ?_
                    refine lv_iload hx hb dL_guarded_144 (lv_at hl 4 rfl) ?_
                    refine ln_icmp_le (tgt := 154) hx hb (by omega) (by omega) dL_guarded_146 (by decide) (fun c146 => ?_) (fun c146 => ?_)
                    · skip
                      refine lv_iconst (v := nI 0) hx hb dL_guarded_154 (by decide) ?_
                      exact K155 0 (by rw [hq, Nat.add_zero]; exact prS_n (fun w => by obtain ⟨⟨w1, w2⟩, w3, w4⟩ := w; omega)) ls (lv_sub hl [0, 1, 2, 3, 4, 5, 6] rfl)
                    · skip
                      refine lv_iload hx hb dL_guarded_149 (lv_at hl 8 rfl) ?_
                      refine lv_goto (tgt := 155) hx hb dL_guarded_151 (by decide) ?_
                      exact K155 mo (by rw [hq, hmo9]; exact prS_y ⟨⟨c125, c135⟩, c146, by omega⟩) ls (lv_sub hl [0, 1, 2, 3, 4, 5, 6] rfl)
              · skip
                have K110 : ∀ (x : Nat), (x = mY (σ 5 k) (fare * σ 0 1) (fun j => cE hf k j (σ 0 1)) y) → ∀ ls : Array Slot, lv_has ls 12 [(0, .ref ap), (1, .ref ah), (2, .ref ag), (3, .int (nI leg)), (4, .int (nI fare)), (5, .int (nI q)), (6, .int (nI k)), (7, .int (nI z24)), (8, .int (nI mo)), (9, .int (nI y))] → W p l e rmL_guarded s m args below meth c H [] 0 0 Q (F0 m 110 ls [.int (nI x)]) := by
                  intro x hx4 ls hl
                  refine lv_istore (lv' := [(8, .int (nI x)), (0, .ref ap), (1, .ref ah), (2, .ref ag), (3, .int (nI leg)), (4, .int (nI fare)), (5, .int (nI q)), (6, .int (nI k)), (7, .int (nI z24)), (9, .int (nI y))]) hx hb dL_guarded_110 hl (by decide) rfl (fun ls hl => ?_)
                  obtain ⟨z112, hz112⟩ : ∃ z : Nat, z = y + 1 := ⟨_, rfl⟩
                  refine lv_iinc (v := nI z112) (lv' := [(9, .int (nI z112)), (8, .int (nI x)), (0, .ref ap), (1, .ref ah), (2, .ref ag), (3, .int (nI leg)), (4, .int (nI fare)), (5, .int (nI q)), (6, .int (nI k)), (7, .int (nI z24))]) hx hb dL_guarded_112 hl (k := 9) rfl (by rw [hz112]; exact nI_add _ 1) (by decide) rfl (fun ls hl => ?_)
                  refine lv_goto (tgt := 33) hx hb dL_guarded_115 (by decide) ?_
                  exact ih33 z112 x (by omega) (by omega) (by rw [hx4, hz112, Nat.add_sub_cancel]) ls (lv_sub hl [2, 3, 4, 5, 6, 7, 8, 9, 1, 0] rfl)
                have K46 : ∀ (n46 : Nat) (d : Nat) (ma : Nat), σ 0 1 - d < n46 → (d ≤ σ 0 1) → (ma = cE hf k y d) → ∀ ls : Array Slot, lv_has ls 12 [(0, .ref ap), (1, .ref ah), (2, .ref ag), (3, .int (nI leg)), (4, .int (nI fare)), (5, .int (nI q)), (6, .int (nI k)), (7, .int (nI z24)), (8, .int (nI mo)), (9, .int (nI y)), (10, .int (nI ma)), (11, .int (nI d))] → W p l e rmL_guarded s m args below meth c H [] 0 0 Q (F0 m 46 ls []) := by
                  intro n46
                  induction n46 with
                  | zero =>
                    intro d ma hfu
                    exact absurd hfu (Nat.not_lt_zero _)
                  | succ n46 ih46 =>
                    intro d ma hfu hd9 hma ls hl
                    refine lv_iload hx hb dL_guarded_46 (lv_at hl 11 rfl) ?_
                    refine lv_aload_n hx hb dL_guarded_48 rfl (lv_at hl 2 rfl) ?_
                    refine lv_iconst (v := nI 5) hx hb dL_guarded_49 (by decide) ?_
                    refine mg_ld (v := σ 0 1) hx hb hK hP (by omega) hM.g5 dL_guarded_50 ?_
                    refine ln_icmp_ge (tgt := 85) hx hb (by omega) (by omega) dL_guarded_51 (by decide) (fun c51 => ?_) (fun c51 => ?_)
                    · skip
                      have hma9 := cE_le (hf := hf) (k := k) (y := y) d
                      rw [← hma] at hma9
                      have hde : d = σ 0 1 := by omega
                      have hma2 : ma = cE hf k y (σ 0 1) := by rw [hma, hde]
                      refine lv_aload_n hx hb dL_guarded_85 rfl (lv_at hl 0 rfl) ?_
                      refine lv_iload hx hb dL_guarded_86 (lv_at hl 7 rfl) ?_
                      refine lv_iconst (v := nI 2) hx hb dL_guarded_88 (by decide) ?_
                      refine ln_iadd hx hb dL_guarded_89 (fun z89 hz89 => ?_)
                      refine mp_ld (v := σ 5 k) hx hb hK hP (by omega) (hM.p2 c11 (by omega)) dL_guarded_90 ?_
                      refine lv_iload hx hb dL_guarded_91 (lv_at hl 10 rfl) ?_
                      refine ln_imul hx hb dL_guarded_93 (fun z93 hz93 => ?_)
                      refine lv_iload hx hb dL_guarded_94 (lv_at hl 4 rfl) ?_
                      refine lv_aload_n hx hb dL_guarded_96 rfl (lv_at hl 2 rfl) ?_
                      refine lv_iconst (v := nI 5) hx hb dL_guarded_97 (by decide) ?_
                      refine mg_ld (v := σ 0 1) hx hb hK hP (by omega) hM.g5 dL_guarded_98 ?_
                      refine ln_imul hx hb dL_guarded_99 (fun z99 hz99 => ?_)
                      refine ln_icmp_lt (tgt := 108) hx hb (by rw [hz93]; exact Nat.lt_of_le_of_lt (Nat.mul_le_mul (show σ 5 k ≤ 1000 by omega) (show ma ≤ 10 by omega)) (by decide)) (by rw [hz99]; exact Nat.lt_of_le_of_lt (Nat.mul_le_mul (show fare ≤ 1000 by omega) (show σ 0 1 ≤ 10 by omega)) (by decide)) dL_guarded_100 (by decide) (fun c100 => ?_) (fun c100 => ?_)
                      · skip
                        refine lv_iload hx hb dL_guarded_108 (lv_at hl 8 rfl) ?_
                        exact K110 mo (by rw [mY_s hy.1, if_neg (show ¬ fare * σ 0 1 ≤ σ 5 k * cE hf k y (σ 0 1) by rw [← hma2]; omega)]; exact hmo) ls (lv_sub hl [0, 1, 2, 3, 4, 5, 6, 7, 8, 9] rfl)
                      · skip
                        refine lv_iload hx hb dL_guarded_103 (lv_at hl 9 rfl) ?_
                        refine lv_goto (tgt := 110) hx hb dL_guarded_105 (by decide) ?_
                        exact K110 y (by rw [mY_s hy.1, if_pos (show fare * σ 0 1 ≤ σ 5 k * cE hf k y (σ 0 1) by rw [← hma2]; omega)]) ls (lv_sub hl [0, 1, 2, 3, 4, 5, 6, 7, 8, 9] rfl)
                    · skip
                      have hhb := hM.hb (10 * k + d)
                      have K76 : ∀ (x : Nat), (ma + x = cE hf k y (d + 1)) → ∀ ls : Array Slot, lv_has ls 12 [(0, .ref ap), (1, .ref ah), (2, .ref ag), (3, .int (nI leg)), (4, .int (nI fare)), (5, .int (nI q)), (6, .int (nI k)), (7, .int (nI z24)), (8, .int (nI mo)), (9, .int (nI y)), (10, .int (nI ma)), (11, .int (nI d))] → W p l e rmL_guarded s m args below meth c H [] 0 0 Q (F0 m 76 ls [.int (nI x), .int (nI ma)]) := by
                        intro x hx3 ls hl
                        refine ln_iadd hx hb dL_guarded_76 (fun z76 hz76 => ?_)
                        refine lv_istore (lv' := [(10, .int (nI z76)), (0, .ref ap), (1, .ref ah), (2, .ref ag), (3, .int (nI leg)), (4, .int (nI fare)), (5, .int (nI q)), (6, .int (nI k)), (7, .int (nI z24)), (8, .int (nI mo)), (9, .int (nI y)), (11, .int (nI d))]) hx hb dL_guarded_77 hl (by decide) rfl (fun ls hl => ?_)
                        obtain ⟨z79, hz79⟩ : ∃ z : Nat, z = d + 1 := ⟨_, rfl⟩
                        refine lv_iinc (v := nI z79) (lv' := [(11, .int (nI z79)), (10, .int (nI z76)), (0, .ref ap), (1, .ref ah), (2, .ref ag), (3, .int (nI leg)), (4, .int (nI fare)), (5, .int (nI q)), (6, .int (nI k)), (7, .int (nI z24)), (8, .int (nI mo)), (9, .int (nI y))]) hx hb dL_guarded_79 hl (k := 11) rfl (by rw [hz79]; exact nI_add _ 1) (by decide) rfl (fun ls hl => ?_)
                        refine lv_goto (tgt := 46) hx hb dL_guarded_82 (by decide) ?_
                        exact ih46 z79 z76 (by omega) (by omega) (by rw [hz76, hx3, hz79]) ls (lv_sub hl [2, 3, 4, 5, 6, 7, 8, 9, 10, 11, 1, 0] rfl)
                      refine lv_iload hx hb dL_guarded_54 (lv_at hl 10 rfl) ?_
                      refine lv_aload_n hx hb dL_guarded_56 rfl (lv_at hl 1 rfl) ?_
                      refine lv_bipush (v := nI 10) hx hb dL_guarded_57 (by decide) ?_
                      refine lv_iload hx hb dL_guarded_59 (lv_at hl 6 rfl) ?_
                      refine ln_imul hx hb dL_guarded_61 (fun z61 hz61 => ?_)
                      refine lv_iload hx hb dL_guarded_62 (lv_at hl 11 rfl) ?_
                      refine ln_iadd hx hb dL_guarded_64 (fun z64 hz64 => ?_)
                      refine mh_ld (v := hf (10 * k + d)) hx hb hK hP (by omega) (by rw [hz64, hz61]) dL_guarded_65 ?_
                      refine lv_iload hx hb dL_guarded_66 (lv_at hl 9 rfl) ?_
                      refine ln_icmp_lt (tgt := 75) hx hb (by omega) (by omega) dL_guarded_68 (by decide) (fun c68 => ?_) (fun c68 => ?_)
                      · skip
                        refine lv_iconst (v := nI 0) hx hb dL_guarded_75 (by decide) ?_
                        exact K76 0 (by rw [hma]; show _ = cE hf k y d + (if y ≤ hf (10 * k + d) then 1 else 0); rw [if_neg (by omega)]) ls (lv_sub hl [0, 1, 2, 3, 4, 5, 6, 7, 8, 9, 10, 11] rfl)
                      · skip
                        refine lv_iconst (v := nI 1) hx hb dL_guarded_71 (by decide) ?_
                        refine lv_goto (tgt := 76) hx hb dL_guarded_72 (by decide) ?_
                        exact K76 1 (by rw [hma]; show _ = cE hf k y d + (if y ≤ hf (10 * k + d) then 1 else 0); rw [if_pos c68]) ls (lv_sub hl [0, 1, 2, 3, 4, 5, 6, 7, 8, 9, 10, 11] rfl)
                refine lv_iconst (v := nI 0) hx hb dL_guarded_40 (by decide) ?_
                refine lv_istore (lv' := [(10, .int (nI 0)), (0, .ref ap), (1, .ref ah), (2, .ref ag), (3, .int (nI leg)), (4, .int (nI fare)), (5, .int (nI q)), (6, .int (nI k)), (7, .int (nI z24)), (8, .int (nI mo)), (9, .int (nI y))]) hx hb dL_guarded_41 hl (by decide) rfl (fun ls hl => ?_)
                refine lv_iconst (v := nI 0) hx hb dL_guarded_43 (by decide) ?_
                refine lv_istore (lv' := [(11, .int (nI 0)), (10, .int (nI 0)), (0, .ref ap), (1, .ref ah), (2, .ref ag), (3, .int (nI leg)), (4, .int (nI fare)), (5, .int (nI q)), (6, .int (nI k)), (7, .int (nI z24)), (8, .int (nI mo)), (9, .int (nI y))]) hx hb dL_guarded_44 hl (by decide) rfl (fun ls hl => ?_)
                exact K46 _ 0 0 (Nat.lt_succ_self _) (Nat.zero_le _) rfl ls (lv_sub hl [2, 3, 4, 5, 6, 7, 8, 9, 10, 11, 1, 0] rfl)
          refine lv_iconst (v := nI 1) hx hb dL_guarded_30 (by decide) ?_
          refine lv_istore (lv' := [(9, .int (nI 1)), (8, .int (nI 0)), (7, .int (nI z24)), (0, .ref ap), (1, .ref ah), (2, .ref ag), (3, .int (nI leg)), (4, .int (nI fare)), (5, .int (nI q)), (6, .int (nI k))]) hx hb dL_guarded_31 hl (by decide) rfl (fun ls hl => ?_)
          exact K33 _ 1 0 (Nat.lt_succ_self _) (by omega) rfl ls (lv_sub hl [3, 4, 5, 6, 7, 8, 9, 2, 1, 0] rfl)
  refine lv_iconst (v := nI 0) hx hb dL_guarded_0 (by decide) ?_
  refine lv_istore (lv' := [(5, .int (nI 0)), (0, .ref ap), (1, .ref ah), (2, .ref ag), (3, .int (nI leg)), (4, .int (nI fare))]) hx hb dL_guarded_1 hl (by decide) rfl (fun ls hl => ?_)
  refine lv_iconst (v := nI 0) hx hb dL_guarded_3 (by decide) ?_
  refine lv_istore (lv' := [(6, .int (nI 0)), (5, .int (nI 0)), (0, .ref ap), (1, .ref ah), (2, .ref ag), (3, .int (nI leg)), (4, .int (nI fare))]) hx hb dL_guarded_4 hl (by decide) rfl (fun ls hl => ?_)
  exact K6 _ 0 0 (Nat.lt_succ_self _) (Nat.zero_le _) rfl ls (lv_sub hl [2, 3, 4, 5, 6, 1, 0] rfl)
set_option maxHeartbeats 4000000 in
set_option maxRecDepth 100000 in
theorem c_L_books (l : Launch) (D : va_G) (cy : Nat → ClassId) (ap ah ab ag : Nat) (pf hf bf gf : Nat → Nat) (ei : Int32) (X : va_W) (nb f t q c0 : Nat) (hg : gf 6 = nb) (hnb : nb ≤ 18) : cMV l D cy yL_books wsL_books rmL_books [.ref ab, .ref ag, .int (nI f), .int (nI t), .int (nI q), .int (nI c0)] (MC cy ap ah ab ag pf hf bf gf ei ++ X) (T := Unit) (fun _ => MC cy ap ah ab ag pf hf (va_up (va_up bf nb (1000 * f + 100 * t + q)) (20 + nb) c0) (va_up gf 6 (nb + 1)) ei ++ X) (fun _ => True) 0 0 := by
  refine cMV.of (cc := cL_books) (maxL := 6) (by decide) rfl (Nat.le_of_ble_eq_true rfl) ?_
  intro p e s m args below meth c H0 A Q hx hb hml hown hts hP hK hD hS hA hin0 hret ls hl
  obtain ⟨H, locs, hH, hlo⟩ : ∃ (H : Heap) (locs : List Loc), H = H0 ∧ locs = [] := ⟨_, _, rfl, rfl⟩
  rw [← hH] at hP
  rw [show va_S A H0 H0 [] = va_S A H0 H locs by rw [hH, hlo]] at hS
  rw [show W p l e rmL_books s m args below meth c H0 [] 0 0 Q (F0 m 0 ls []) = W p l e rmL_books s m args below meth c H locs 0 0 Q (F0 m 0 ls []) by rw [hH, hlo]]
  refine lv_aload_n hx hb dL_books_0 rfl (lv_at hl 0 rfl) ?_
  refine lv_aload_n hx hb dL_books_1 rfl (lv_at hl 1 rfl) ?_
  refine lv_bipush (v := nI 6) hx hb dL_books_2 (by decide) ?_
  refine mg_ld (v := nb) hx hb hK (mcl hP) (by omega) hg dL_books_4 ?_
  refine lv_sipush (v := nI 1000) hx hb dL_books_5 (by decide) ?_
  refine lv_iload_n hx hb dL_books_8 rfl (lv_at hl 2 rfl) ?_
  refine ln_imul hx hb dL_books_9 (fun z9 hz9 => ?_)
  refine lv_bipush (v := nI 100) hx hb dL_books_10 (by decide) ?_
  refine lv_iload_n hx hb dL_books_12 rfl (lv_at hl 3 rfl) ?_
  refine ln_imul hx hb dL_books_13 (fun z13 hz13 => ?_)
  refine ln_iadd hx hb dL_books_14 (fun z14 hz14 => ?_)
  refine lv_iload hx hb dL_books_15 (lv_at hl 4 rfl) ?_
  refine ln_iadd hx hb dL_books_17 (fun z17 hz17 => ?_)
  refine mb_st hx hb hK hP hD hS (by omega) dL_books_18 (fun H locs hP hD hS => ?_)
  refine lv_aload_n hx hb dL_books_19 rfl (lv_at hl 0 rfl) ?_
  refine lv_bipush (v := nI 20) hx hb dL_books_20 (by decide) ?_
  refine lv_aload_n hx hb dL_books_22 rfl (lv_at hl 1 rfl) ?_
  refine lv_bipush (v := nI 6) hx hb dL_books_23 (by decide) ?_
  refine mg_ld (v := nb) hx hb hK (mcl hP) (by omega) hg dL_books_25 ?_
  refine ln_iadd hx hb dL_books_26 (fun z26 hz26 => ?_)
  refine lv_iload hx hb dL_books_27 (lv_at hl 5 rfl) ?_
  refine mb_st hx hb hK hP hD hS (by omega) dL_books_29 (fun H locs hP hD hS => ?_)
  refine lv_aload_n hx hb dL_books_30 rfl (lv_at hl 1 rfl) ?_
  refine lv_bipush (v := nI 6) hx hb dL_books_31 (by decide) ?_
  refine lv_dup2_11 hx hb dL_books_33 rfl rfl ?_
  refine mg_ld (v := nb) hx hb hK (mcl hP) (by omega) hg dL_books_34 ?_
  refine lv_iconst (v := nI 1) hx hb dL_books_35 (by decide) ?_
  refine ln_iadd hx hb dL_books_36 (fun z36 hz36 => ?_)
  refine mg_st hx hb hK hP hD hS (by omega) dL_books_37 (fun H locs hP hD hS => ?_)
  subst hz36
  subst hz26
  subst hz17
  subst hz14
  subst hz13
  subst hz9
  exact hret () dL_books_38 hP hD hS trivial
