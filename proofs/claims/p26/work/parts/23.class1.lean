theorem QS.step {F : List Nat} {len i f j L2 : Nat} {sums s2 : Nat → Nat} (h : QS (F ++ List.replicate i f) len sums) (hl : len < 11) (hj : j = i + 1) (hL : L2 = len + 1) (hs : s2 = va_up sums (len + 1) (sums len + f)) : QS (F ++ List.replicate j f) L2 s2 := by
  subst hj; subst hL; subst hs
  rw [List.replicate_succ', ← List.append_assoc]
  exact h.push hl f
def cG (g : Nat → Nat) : Nat → Nat
  | 0 => 0
  | j + 1 => cG g j + g (20 - j)
def pmG (fa en : Nat) (g : Nat → Nat) : Nat → Nat
  | 0 => 0
  | j + 1 => if en ≤ fa * cG g (j + 1) ∧ pmG fa en g j < 20 - j then 20 - j else pmG fa en g j
theorem cG_le {g : Nat → Nat} (h : ∀ j, g j ≤ 512) : ∀ i, cG g i ≤ 512 * i := by
  intro i
  induction i with
  | zero => exact Nat.le_refl _
  | succ i ih => unfold cG; have := h (20 - i); omega
theorem cG_s {g : Nat → Nat} {i y : Nat} (hy : y + i = 20) : cG g i + g y = cG g (i + 1) := by
  conv => rhs; unfold cG
  rw [show 20 - i = y by omega]
theorem pmG_y {fa en i y : Nat} {g : Nat → Nat} (h0 : pmG fa en g i = 0) (hy : y + i = 20) (hy0 : 0 < y) (h : en ≤ fa * cG g (i + 1)) : pmG fa en g (i + 1) = y := by
  unfold pmG
  rw [h0, show 20 - i = y by omega, if_pos ⟨h, hy0⟩]
theorem pmG_n {fa en i : Nat} {g : Nat → Nat} (h0 : pmG fa en g i = 0) (h : ¬ en ≤ fa * cG g (i + 1)) : pmG fa en g (i + 1) = 0 := by
  unfold pmG
  rw [if_neg (fun q => h q.1), h0]
theorem pmG_stay {fa en i y : Nat} {g : Nat → Nat} (h0 : pmG fa en g i = y) (hy : 20 - i ≤ y) : ∀ j, pmG fa en g (i + j) = y := by
  intro j
  induction j with
  | zero => exact h0
  | succ j ih => show pmG fa en g (i + j + 1) = y; unfold pmG; rw [if_neg (by rw [ih]; omega), ih]
theorem pmG_21 {fa en i y : Nat} {g : Nat → Nat} (h0 : pmG fa en g (i + 1) = y) (hy : y + i = 20) : pmG fa en g 21 = y := by
  have := pmG_stay h0 (by omega) y
  rw [show i + 1 + y = 21 by omega] at this
  exact this
theorem pmG_0 {fa en : Nat} {g : Nat → Nat} (h0 : pmG fa en g 20 = 0) : pmG fa en g 21 = 0 := pmG_stay h0 (by omega) 1
set_option maxHeartbeats 4000000 in
set_option maxRecDepth 100000 in
theorem c_X0_seatsOn (l : Launch) (D : va_G) (cy : Nat → ClassId) (a f t n pr cn leg : Nat) (hf : f < 100) (ht : t < 100) (hg : leg < 100) (hc : cn ≤ 1) : cRO l D cy yX0_seatsOn wsX0_seatsOn rmX0_seatsOn [.ref a, .int (nI leg)] ([(a, .inr (0, [.int (nI f), .int (nI t), .int (nI n), .int (nI pr), .int (nI cn)]))]) (pN (if cn = 0 ∧ f ≤ leg ∧ leg ≤ t then n else 0)) := by
  refine cRO.of (cc := cX0_seatsOn) (maxL := 2) (by decide) rfl (Nat.le_of_ble_eq_true rfl) (Or.inl rfl) ?_
  intro p e s m args below meth c H Q hx hb hml hown hts hP hK hret ls hl
  refine lv_aload_n hx hb dX0_seatsOn_0 rfl (lv_at hl 0 rfl) ?_
  refine gf0 (v := .int (nI cn)) hx hb hts fX0_seatsOn_0 hown hK.1 hP 0 4 rfl (by decide) kX0_seatsOn_1 rfl rfl dX0_seatsOn_1 ?_
  refine ln_if_ne (tgt := 30) hx hb (by omega) dX0_seatsOn_4 (by decide) (fun c4 => ?_) (fun c4 => ?_)
  · skip
    refine lv_iconst (v := nI 0) hx hb dX0_seatsOn_30 (by decide) ?_
    exact hret dX0_seatsOn_31 (pnE (by first | rw [if_pos (by omega)] | rw [if_neg (by omega)]))
  · skip
    refine lv_iload_n hx hb dX0_seatsOn_7 rfl (lv_at hl 1 rfl) ?_
    refine lv_aload_n hx hb dX0_seatsOn_8 rfl (lv_at hl 0 rfl) ?_
    refine gf0 (v := .int (nI f)) hx hb hts fX0_seatsOn_0 hown hK.1 hP 0 0 rfl (by decide) kX0_seatsOn_9 rfl rfl dX0_seatsOn_9 ?_
    refine ln_icmp_lt (tgt := 30) hx hb (by omega) (by omega) dX0_seatsOn_12 (by decide) (fun c12 => ?_) (fun c12 => ?_)
    · skip
      refine lv_iconst (v := nI 0) hx hb dX0_seatsOn_30 (by decide) ?_
      exact hret dX0_seatsOn_31 (pnE (by first | rw [if_pos (by omega)] | rw [if_neg (by omega)]))
    · skip
      refine lv_iload_n hx hb dX0_seatsOn_15 rfl (lv_at hl 1 rfl) ?_
      refine lv_aload_n hx hb dX0_seatsOn_16 rfl (lv_at hl 0 rfl) ?_
      refine gf0 (v := .int (nI t)) hx hb hts fX0_seatsOn_0 hown hK.1 hP 0 1 rfl (by decide) kX0_seatsOn_17 rfl rfl dX0_seatsOn_17 ?_
      refine ln_icmp_gt (tgt := 30) hx hb (by omega) (by omega) dX0_seatsOn_20 (by decide) (fun c20 => ?_) (fun c20 => ?_)
      · skip
        refine lv_iconst (v := nI 0) hx hb dX0_seatsOn_30 (by decide) ?_
        exact hret dX0_seatsOn_31 (pnE (by first | rw [if_pos (by omega)] | rw [if_neg (by omega)]))
      · skip
        refine lv_aload_n hx hb dX0_seatsOn_23 rfl (lv_at hl 0 rfl) ?_
        refine gf0 (v := .int (nI n)) hx hb hts fX0_seatsOn_0 hown hK.1 hP 0 2 rfl (by decide) kX0_seatsOn_24 rfl rfl dX0_seatsOn_24 ?_
        refine lv_goto (tgt := 31) hx hb dX0_seatsOn_27 (by decide) ?_
        exact hret dX0_seatsOn_31 (pnE (by first | rw [if_pos (by omega)] | rw [if_neg (by omega)]))
set_option maxHeartbeats 4000000 in
set_option maxRecDepth 100000 in
theorem c_X2_covers (l : Launch) (D : va_G) (cy : Nat → ClassId) (a tb f t fa ex as be : Nat) (leg : Nat) (hf : f < 100) (ht : t < 100) (hg : leg < 100) : cRO l D cy yX2_covers wsX2_covers rmX2_covers [.ref a, .int (nI leg)] ([(a, .inr (2, [.int (nI f), .int (nI t), .int (nI fa), .ref tb, .int (nI ex), .int (nI as), .int (nI be)]))]) (pB (f ≤ leg ∧ leg ≤ t)) := by
  refine cRO.of (cc := cX2_covers) (maxL := 2) (by decide) rfl (Nat.le_of_ble_eq_true rfl) (Or.inr ⟨rfl, pB.z⟩) ?_
  intro p e s m args below meth c H Q hx hb hml hown hts hP hK hret ls hl
  refine lv_iload_n hx hb dX2_covers_0 rfl (lv_at hl 1 rfl) ?_
  refine lv_aload_n hx hb dX2_covers_1 rfl (lv_at hl 0 rfl) ?_
  refine gf2 (v := .int (nI f)) hx hb hts fX2_covers_2 hown hK.1 hP 0 0 rfl (by decide) kX2_covers_2 rfl rfl dX2_covers_2 ?_
  refine ln_icmp_lt (tgt := 20) hx hb (by omega) (by omega) dX2_covers_5 (by decide) (fun c5 => ?_) (fun c5 => ?_)
  · skip
    refine lv_iconst (v := nI 0) hx hb dX2_covers_20 (by decide) ?_
    exact hret dX2_covers_21 (pB.f (by omega))
  · skip
    refine lv_iload_n hx hb dX2_covers_8 rfl (lv_at hl 1 rfl) ?_
    refine lv_aload_n hx hb dX2_covers_9 rfl (lv_at hl 0 rfl) ?_
    refine gf2 (v := .int (nI t)) hx hb hts fX2_covers_2 hown hK.1 hP 0 1 rfl (by decide) kX2_covers_10 rfl rfl dX2_covers_10 ?_
    refine ln_icmp_gt (tgt := 20) hx hb (by omega) (by omega) dX2_covers_13 (by decide) (fun c13 => ?_) (fun c13 => ?_)
    · skip
      refine lv_iconst (v := nI 0) hx hb dX2_covers_20 (by decide) ?_
      exact hret dX2_covers_21 (pB.f (by omega))
    · skip
      refine lv_iconst (v := nI 1) hx hb dX2_covers_16 (by decide) ?_
      refine lv_goto (tgt := 21) hx hb dX2_covers_17 (by decide) ?_
      exact hret dX2_covers_21 (pB.t (by omega))
set_option maxHeartbeats 4000000 in
set_option maxRecDepth 100000 in
theorem c_X2_toCome (l : Launch) (D : va_G) (cy : Nat → ClassId) (a tb f t fa ex as be : Nat) (h1 : ex < 2 ^ 30) (h2 : as < 2 ^ 30) : cRO l D cy yX2_toCome wsX2_toCome rmX2_toCome [.ref a] ([(a, .inr (2, [.int (nI f), .int (nI t), .int (nI fa), .ref tb, .int (nI ex), .int (nI as), .int (nI be)]))]) (pN (ex - as)) := by
  refine cRO.of (cc := cX2_toCome) (maxL := 1) (by decide) rfl (Nat.le_of_ble_eq_true rfl) (Or.inl rfl) ?_
  intro p e s m args below meth c H Q hx hb hml hown hts hP hK hret ls hl
  refine lv_iconst (v := nI 0) hx hb dX2_toCome_0 (by decide) ?_
  refine lv_aload_n hx hb dX2_toCome_1 rfl (lv_at hl 0 rfl) ?_
  refine gf2 (v := .int (nI ex)) hx hb hts fX2_toCome_2 hown hK.1 hP 0 4 rfl (by decide) kX2_toCome_2 rfl rfl dX2_toCome_2 ?_
  refine lv_aload_n hx hb dX2_toCome_5 rfl (lv_at hl 0 rfl) ?_
  refine gf2 (v := .int (nI as)) hx hb hts fX2_toCome_2 hown hK.1 hP 0 5 rfl (by decide) kX2_toCome_6 rfl rfl dX2_toCome_6 ?_
  refine lv_isub hx hb dX2_toCome_9 ?_
  refine ln_mmax0 (x := ex) (y := as) hx hb (by omega) (by omega) (hml.trans hl.1.symm) hown (hts _ mlX2_toCome_10) (hts _ msX2_toCome_10) (hts _ miX2_toCome_10) (hts _ mcX2_toCome_10) (Nat.le_of_ble_eq_true rfl) (Nat.le_of_ble_eq_true rfl) (Nat.zero_le _) (Nat.zero_le _) dX2_toCome_10 (fun z10 hz10 => ?_)
  exact hret dX2_toCome_13 (pnE (by rw [hz10]))
set_option maxHeartbeats 4000000 in
set_option maxRecDepth 100000 in
theorem c_X2_protectedAgainst (l : Launch) (D : va_G) (cy : Nat → ClassId) (a tb f t fa ex as be : Nat) (g : Nat → Nat) (lf d : Nat) (h1 : fa ≤ 1000) (h2 : lf ≤ 3000) (h3 : d ≤ 512) (hg : ∀ j, g j ≤ 512) : cRO l D cy yX2_protectedAgainst wsX2_protectedAgainst rmX2_protectedAgainst [.ref a, .int (nI lf), .int (nI d)] ([(a, .inr (2, [.int (nI f), .int (nI t), .int (nI fa), .ref tb, .int (nI ex), .int (nI as), .int (nI be)])), (tb, .inl (cy 0, 21, .inl (fun j => nI (g j))))]) (pN (if d = 0 then 0 else pmG fa (lf * d) g 21)) := by
  refine cRO.of (cc := cX2_protectedAgainst) (maxL := 8) (by decide) rfl (Nat.le_of_ble_eq_true rfl) (Or.inl rfl) ?_
  intro p e s m args below meth c H Q hx hb hml hown hts hP hK hret ls hl
  refine lv_iload_n hx hb dX2_protectedAgainst_0 rfl (lv_at hl 2 rfl) ?_
  refine ln_if_gt (tgt := 6) hx hb (by omega) dX2_protectedAgainst_1 (by decide) (fun c1 => ?_) (fun c1 => ?_)
  · skip
    refine lv_iload_n hx hb dX2_protectedAgainst_6 rfl (lv_at hl 1 rfl) ?_
    refine lv_i2l (v := lN lf) hx hb dX2_protectedAgainst_7 (nI_l (by omega)) ?_
    refine lv_iload_n hx hb dX2_protectedAgainst_8 rfl (lv_at hl 2 rfl) ?_
    refine lv_i2l (v := lN d) hx hb dX2_protectedAgainst_9 (nI_l (by omega)) ?_
    refine ln_lmul hx hb dX2_protectedAgainst_10 (fun z10 hz10 => ?_)
    have hz10b : z10 ≤ 1536000 := by rw [hz10]; have := Nat.mul_le_mul h2 h3; omega
    refine lv_lstore_n (lv' := [(3, .long (lN z10)), (0, .ref a), (1, .int (nI lf)), (2, .int (nI d))]) hx hb dX2_protectedAgainst_11 rfl hl (by decide) rfl (fun ls hl => ?_)
    refine lv_lconst (v := lN 0) hx hb dX2_protectedAgainst_12 (by decide) ?_
    refine lv_lstore (lv' := [(5, .long (lN 0)), (3, .long (lN z10)), (0, .ref a), (1, .int (nI lf)), (2, .int (nI d))]) hx hb dX2_protectedAgainst_13 hl (by decide) rfl (fun ls hl => ?_)
    have K24 : ∀ (n24 : Nat) (i : Nat) (ma : Nat) (su : Nat), 20 - i < n24 → (i ≤ 20) → (ma + i = 20) → (su = cG g i) → (pmG fa (lf * d) g i = 0) → ∀ ls : Array Slot, lv_has ls 8 [(0, .ref a), (1, .int (nI lf)), (2, .int (nI d)), (3, .long (lN z10)), (5, .long (lN su)), (7, .int (nI ma))] → W p l e rmX2_protectedAgainst s m args below meth c H [] 0 0 Q (F0 m 24 ls []) := by
      intro n24
      induction n24 with
      | zero =>
        intro i ma su hfu
        exact absurd hfu (Nat.not_lt_zero _)
      | succ n24 ih24 =>
        intro i ma su hfu hi hma hsu hpm ls hl
        have hcg := cG_le hg i
        refine lv_iload hx hb dX2_protectedAgainst_24 (lv_at hl 5 rfl) ?_
        refine ln_if_le (tgt := 64) hx hb (by omega) dX2_protectedAgainst_26 (by decide) (fun c26 => ?_) (fun c26 => ?_)
        · skip
          refine lv_iconst (v := nI 0) hx hb dX2_protectedAgainst_64 (by decide) ?_
          exact hret dX2_protectedAgainst_65 (pnE (by rw [if_neg (by omega), pmG_0 (by rw [show (20 : Nat) = i by omega]; exact hpm)]))
        · skip
          refine lv_lload hx hb dX2_protectedAgainst_29 (lv_at hl 4 rfl) ?_
          refine lv_aload_n hx hb dX2_protectedAgainst_31 rfl (lv_at hl 0 rfl) ?_
          refine gf2 (v := .ref tb) hx hb hts fX2_protectedAgainst_2 hown hK.1 hP 0 3 rfl (by decide) kX2_protectedAgainst_32 rfl rfl dX2_protectedAgainst_32 ?_
          refine lv_iload hx hb dX2_protectedAgainst_35 (lv_at hl 5 rfl) ?_
          refine ln_iald (g := g) hx hb hK.1 hP 1 0 rfl rfl (by omega) (by decide) dX2_protectedAgainst_37 ?_
          have hgm := hg ma
          refine lv_i2l (v := lN (g ma)) hx hb dX2_protectedAgainst_38 (nI_l (by omega)) ?_
          refine ln_ladd hx hb dX2_protectedAgainst_39 (fun z39 hz39 => ?_)
          refine lv_lstore (lv' := [(5, .long (lN z39)), (0, .ref a), (1, .int (nI lf)), (2, .int (nI d)), (3, .long (lN z10)), (7, .int (nI ma))]) hx hb dX2_protectedAgainst_40 hl (by decide) rfl (fun ls hl => ?_)
          refine lv_aload_n hx hb dX2_protectedAgainst_42 rfl (lv_at hl 1 rfl) ?_
          refine gf2 (v := .int (nI fa)) hx hb hts fX2_protectedAgainst_2 hown hK.1 hP 0 2 rfl (by decide) kX2_protectedAgainst_43 rfl rfl dX2_protectedAgainst_43 ?_
          refine lv_i2l (v := lN fa) hx hb dX2_protectedAgainst_46 (nI_l (by omega)) ?_
          refine lv_lload hx hb dX2_protectedAgainst_47 (lv_at hl 0 rfl) ?_
          refine ln_lmul hx hb dX2_protectedAgainst_49 (fun z49 hz49 => ?_)
          have hz49b : z49 ≤ 11264000 := by rw [hz49]; have := Nat.mul_le_mul h1 (show z39 ≤ 11264 by omega); omega
          refine lv_lload_n hx hb dX2_protectedAgainst_50 rfl (lv_at hl 4 rfl) ?_
          refine ln_lcmp_lt (tgt := 58) hx hb (by omega) (by omega) dX2_protectedAgainst_51 dX2_protectedAgainst_52 (by decide) (fun c52 => ?_) (fun c52 => ?_)
          · skip
            obtain ⟨z58, hz58⟩ : ∃ z : Nat, z = ma - 1 := ⟨_, rfl⟩
            refine lv_iinc (v := nI z58) (lv' := [(7, .int (nI z58)), (5, .long (lN z39)), (0, .ref a), (1, .int (nI lf)), (2, .int (nI d)), (3, .long (lN z10))]) hx hb dX2_protectedAgainst_58 hl (k := 5) rfl (by rw [hz58]; exact sb_m1 (by omega)) (by decide) rfl (fun ls hl => ?_)
            refine lv_goto (tgt := 24) hx hb dX2_protectedAgainst_61 (by decide) ?_
            exact ih24 ((i + 1)) z58 z39 (by omega) (by omega) (by omega) (by rw [hz39]; subst hsu; exact cG_s hma) (pmG_n hpm (by rw [← cG_s hma, ← hsu, ← hz39, ← hz49, ← hz10]; omega)) ls (lv_sub hl [2, 3, 4, 5, 1, 0] rfl)
          · skip
            refine lv_iload hx hb dX2_protectedAgainst_55 (lv_at hl 5 rfl) ?_
            exact hret dX2_protectedAgainst_57 (pnE (by rw [if_neg (by omega)]; exact (pmG_21 (pmG_y hpm hma (by omega) (by rw [← cG_s hma, ← hsu, ← hz39, ← hz49, ← hz10]; omega)) hma).symm))
    refine lv_aload_n hx hb dX2_protectedAgainst_15 rfl (lv_at hl 2 rfl) ?_
    refine gf2 (v := .ref tb) hx hb hts fX2_protectedAgainst_2 hown hK.1 hP 0 3 rfl (by decide) kX2_protectedAgainst_16 rfl rfl dX2_protectedAgainst_16 ?_
    refine ln_alen hx hb hK.1 hP 1 0 rfl rfl dX2_protectedAgainst_19 ?_
    refine lv_iconst (v := nI 1) hx hb dX2_protectedAgainst_20 (by decide) ?_
    refine ln_isub hx hb (by omega) dX2_protectedAgainst_21 (fun z21 hz21 => ?_)
    refine lv_istore (lv' := [(7, .int (nI z21)), (5, .long (lN 0)), (3, .long (lN z10)), (0, .ref a), (1, .int (nI lf)), (2, .int (nI d))]) hx hb dX2_protectedAgainst_22 hl (by decide) rfl (fun ls hl => ?_)
    exact K24 _ 0 z21 0 (Nat.lt_succ_self _) (by omega) (by omega) rfl rfl ls (lv_sub hl [3, 4, 5, 2, 1, 0] rfl)
  · skip
    refine lv_iconst (v := nI 0) hx hb dX2_protectedAgainst_4 (by decide) ?_
    exact hret dX2_protectedAgainst_5 (pnE (by rw [if_pos (by omega)]))
set_option maxHeartbeats 4000000 in
set_option maxRecDepth 100000 in
theorem c_X2_learn (l : Launch) (D : va_G) (cy : Nat → ClassId) (a tb f t fa ex as be : Nat) (g : Nat → Nat) (d : Nat) (h1 : as ≤ 512) (h2 : be ≤ 512) (h3 : 1 ≤ d) (h4 : d ≤ 512) : cMV l D cy yX2_learn wsX2_learn rmX2_learn [.ref a, .int (nI d)] ([(a, .inr (2, [.int (nI f), .int (nI t), .int (nI fa), .ref tb, .int (nI ex), .int (nI as), .int (nI be)])), (tb, .inl (cy 0, 21, .inl (fun j => nI (g j))))]) (T := Unit) (fun _ => [(a, .inr (2, [.int (nI f), .int (nI t), .int (nI fa), .ref tb, .int (nI (((be + as) / d))), .int (nI 0), .int (nI ((be + as)))])), (tb, .inl (cy 0, 21, .inl (fun j => nI ((va_up g (min as 20) (g (min as 20) + 1)) j))))]) (fun _ => True) 0 0 := by
  refine cMV.of (cc := cX2_learn) (maxL := 3) (by decide) rfl (Nat.le_of_ble_eq_true rfl) ?_
  intro p e s m args below meth c H0 A Q hx hb hml hown hts hP hK hD hS hA hin0 hret ls hl
  obtain ⟨H, locs, hH, hlo⟩ : ∃ (H : Heap) (locs : List Loc), H = H0 ∧ locs = [] := ⟨_, _, rfl, rfl⟩
  rw [← hH] at hP
  rw [show va_S A H0 H0 [] = va_S A H0 H locs by rw [hH, hlo]] at hS
  rw [show W p l e rmX2_learn s m args below meth c H0 [] 0 0 Q (F0 m 0 ls []) = W p l e rmX2_learn s m args below meth c H locs 0 0 Q (F0 m 0 ls []) by rw [hH, hlo]]
  refine lv_aload_n hx hb dX2_learn_0 rfl (lv_at hl 0 rfl) ?_
  refine gf2 (v := .int (nI as)) hx hb hts fX2_learn_2 hown hK.1 hP 0 5 rfl (by decide) kX2_learn_1 rfl rfl dX2_learn_1 ?_
  refine lv_bipush (v := nI 20) hx hb dX2_learn_4 (by decide) ?_
  refine ln_mmin hx hb (by omega) (by omega) (hml.trans hl.1.symm) hown (hts _ mlX2_learn_6) (hts _ msX2_learn_6) (hts _ miX2_learn_6) (hts _ mcX2_learn_6) (Nat.le_of_ble_eq_true rfl) (Nat.le_of_ble_eq_true rfl) (Nat.zero_le _) (Nat.zero_le _) dX2_learn_6 (fun z6 hz6 => ?_)
  refine lv_istore_n (lv' := [(2, .int (nI z6)), (0, .ref a), (1, .int (nI d))]) hx hb dX2_learn_9 rfl hl (by decide) rfl (fun ls hl => ?_)
  refine lv_iload_n hx hb dX2_learn_10 rfl (lv_at hl 0 rfl) ?_
  refine ln_if_lt (tgt := 33) hx hb (by omega) dX2_learn_11 (by decide) ?_
  refine lv_iload_n hx hb dX2_learn_14 rfl (lv_at hl 0 rfl) ?_
  refine lv_aload_n hx hb dX2_learn_15 rfl (lv_at hl 1 rfl) ?_
  refine gf2 (v := .ref tb) hx hb hts fX2_learn_2 hown hK.1 hP 0 3 rfl (by decide) kX2_learn_16 rfl rfl dX2_learn_16 ?_
  refine ln_alen hx hb hK.1 hP 1 0 rfl rfl dX2_learn_19 ?_
  refine ln_icmp_ge (tgt := 33) hx hb (by omega) (by omega) dX2_learn_20 (by decide) (fun c20 => ?_) (fun c20 => ?_)
  · skip
    exact absurd c20 (by omega)
  · skip
    refine lv_aload_n hx hb dX2_learn_23 rfl (lv_at hl 1 rfl) ?_
    refine gf2 (v := .ref tb) hx hb hts fX2_learn_2 hown hK.1 hP 0 3 rfl (by decide) kX2_learn_24 rfl rfl dX2_learn_24 ?_
    refine lv_iload_n hx hb dX2_learn_27 rfl (lv_at hl 0 rfl) ?_
    refine lv_dup2_11 hx hb dX2_learn_28 rfl rfl ?_
    refine ln_iald (g := g) hx hb hK.1 hP 1 0 rfl rfl (by omega) (by decide) dX2_learn_29 ?_
    refine lv_iconst (v := nI 1) hx hb dX2_learn_30 (by decide) ?_
    refine ln_iadd hx hb dX2_learn_31 (fun z31 hz31 => ?_)
    refine ln_iast (g := g) hx hb hK.1 hP hD hS 1 0 rfl rfl (by omega) (by decide) dX2_learn_32 (fun H locs hP hD hS => ?_)
    refine lv_aload_n hx hb dX2_learn_33 rfl (lv_at hl 1 rfl) ?_
    refine lv_dup hx hb dX2_learn_34 rfl ?_
    refine gf2 (v := .int (nI be)) hx hb hts fX2_learn_2 hown hK.1 hP 0 6 rfl (by decide) kX2_learn_35 rfl rfl dX2_learn_35 ?_
    refine lv_aload_n hx hb dX2_learn_38 rfl (lv_at hl 1 rfl) ?_
    refine gf2 (v := .int (nI as)) hx hb hts fX2_learn_2 hown hK.1 hP 0 5 rfl (by decide) kX2_learn_39 rfl rfl dX2_learn_39 ?_
    refine ln_iadd hx hb dX2_learn_42 (fun z42 hz42 => ?_)
    have hP : va_P D vwCl ([(a, .inr (2, [.int (nI f), .int (nI t), .int (nI fa), .ref tb, .int (nI ex), .int (nI as), .int (nI be)])), (tb, .inl (cy 0, 21, .inl (fun j => nI (va_up g z6 z31 j))))]) H := hP
    have hD : va_D A ([(a, .inr (2, [.int (nI f), .int (nI t), .int (nI fa), .ref tb, .int (nI ex), .int (nI as), .int (nI be)])), (tb, .inl (cy 0, 21, .inl (fun j => nI (va_up g z6 z31 j))))]) := hD
    refine pf2 hx hb hts fX2_learn_2 hown hK.1 hP hD hS 0 6 rfl (by decide) kX2_learn_43 rfl rfl (ty := .int) (by decide) rfl rfl (Nat.le_of_ble_eq_true rfl) dX2_learn_43 (fun H locs hP hD hS => ?_)
    refine lv_aload_n hx hb dX2_learn_46 rfl (lv_at hl 1 rfl) ?_
    refine lv_iconst (v := nI 0) hx hb dX2_learn_47 (by decide) ?_
    have hP : va_P D vwCl ([(a, .inr (2, [.int (nI f), .int (nI t), .int (nI fa), .ref tb, .int (nI ex), .int (nI as), .int (nI z42)])), (tb, .inl (cy 0, 21, .inl (fun j => nI (va_up g z6 z31 j))))]) H := hP
    have hD : va_D A ([(a, .inr (2, [.int (nI f), .int (nI t), .int (nI fa), .ref tb, .int (nI ex), .int (nI as), .int (nI z42)])), (tb, .inl (cy 0, 21, .inl (fun j => nI (va_up g z6 z31 j))))]) := hD
    refine pf2 hx hb hts fX2_learn_2 hown hK.1 hP hD hS 0 5 rfl (by decide) kX2_learn_48 rfl rfl (ty := .int) (by decide) rfl rfl (Nat.le_of_ble_eq_true rfl) dX2_learn_48 (fun H locs hP hD hS => ?_)
    refine lv_iload_n hx hb dX2_learn_51 rfl (lv_at hl 2 rfl) ?_
    refine ln_if_le (tgt := 65) hx hb (by omega) dX2_learn_52 (by decide) (fun c52 => ?_) (fun c52 => ?_)
    · skip
      exact absurd c52 (by omega)
    · skip
      refine lv_aload_n hx hb dX2_learn_55 rfl (lv_at hl 1 rfl) ?_
      refine lv_aload_n hx hb dX2_learn_56 rfl (lv_at hl 1 rfl) ?_
      refine gf2 (v := .int (nI z42)) hx hb hts fX2_learn_2 hown hK.1 hP 0 6 rfl (by decide) kX2_learn_57 rfl rfl dX2_learn_57 ?_
      refine lv_iload_n hx hb dX2_learn_60 rfl (lv_at hl 2 rfl) ?_
      refine ln_idiv hx hb (by omega) (by omega) (by omega) dX2_learn_61 (fun z61 hz61 => ?_)
      have hP : va_P D vwCl ([(a, .inr (2, [.int (nI f), .int (nI t), .int (nI fa), .ref tb, .int (nI ex), .int (nI 0), .int (nI z42)])), (tb, .inl (cy 0, 21, .inl (fun j => nI (va_up g z6 z31 j))))]) H := hP
      have hD : va_D A ([(a, .inr (2, [.int (nI f), .int (nI t), .int (nI fa), .ref tb, .int (nI ex), .int (nI 0), .int (nI z42)])), (tb, .inl (cy 0, 21, .inl (fun j => nI (va_up g z6 z31 j))))]) := hD
      refine pf2 hx hb hts fX2_learn_2 hown hK.1 hP hD hS 0 4 rfl (by decide) kX2_learn_62 rfl rfl (ty := .int) (by decide) rfl rfl (Nat.le_of_ble_eq_true rfl) dX2_learn_62 (fun H locs hP hD hS => ?_)
      have hP : va_P D vwCl ([(a, .inr (2, [.int (nI f), .int (nI t), .int (nI fa), .ref tb, .int (nI z61), .int (nI 0), .int (nI z42)])), (tb, .inl (cy 0, 21, .inl (fun j => nI (va_up g z6 z31 j))))]) H := hP
      have hD : va_D A ([(a, .inr (2, [.int (nI f), .int (nI t), .int (nI fa), .ref tb, .int (nI z61), .int (nI 0), .int (nI z42)])), (tb, .inl (cy 0, 21, .inl (fun j => nI (va_up g z6 z31 j))))]) := hD
      rw [hz61, hz31, hz42, hz6] at hP hD
      exact hret () dX2_learn_65 hP hD hS trivial
set_option maxHeartbeats 4000000 in
set_option maxRecDepth 100000 in
theorem c_X3_mostFor (l : Launch) (D : va_G) (cy : Nat → ClassId) (a sa len : Nat) (g : Nat → Nat) (n : Nat) (h1 : len ≤ 11) (h2 : n ≤ 11) : cRO l D cy yX3_mostFor wsX3_mostFor rmX3_mostFor [.ref a, .int (nI n)] ([(a, .inr (3, [.ref sa, .int (nI len)])), (sa, .inl (cy 0, 12, .inl (fun j => nI (g j))))]) (pN (g (min n len))) := by
  refine cRO.of (cc := cX3_mostFor) (maxL := 3) (by decide) rfl (Nat.le_of_ble_eq_true rfl) (Or.inl rfl) ?_
  intro p e s m args below meth c H Q hx hb hml hown hts hP hK hret ls hl
  refine lv_iload_n hx hb dX3_mostFor_0 rfl (lv_at hl 1 rfl) ?_
  refine lv_aload_n hx hb dX3_mostFor_1 rfl (lv_at hl 0 rfl) ?_
  refine gf3 (v := .int (nI len)) hx hb hts fX3_mostFor_3 hown hK.1 hP 0 1 rfl (by decide) kX3_mostFor_2 rfl rfl dX3_mostFor_2 ?_
  refine ln_icmp_ge (tgt := 12) hx hb (by omega) (by omega) dX3_mostFor_5 (by decide) (fun c5 => ?_) (fun c5 => ?_)
  · skip
    refine lv_aload_n hx hb dX3_mostFor_12 rfl (lv_at hl 0 rfl) ?_
    refine gf3 (v := .int (nI len)) hx hb hts fX3_mostFor_3 hown hK.1 hP 0 1 rfl (by decide) kX3_mostFor_13 rfl rfl dX3_mostFor_13 ?_
    refine lv_istore_n (lv' := [(2, .int (nI len)), (0, .ref a), (1, .int (nI n))]) hx hb dX3_mostFor_16 rfl hl (by decide) rfl (fun ls hl => ?_)
    refine lv_iload_n hx hb dX3_mostFor_17 rfl (lv_at hl 0 rfl) ?_
    refine ln_if_lt (tgt := 39) hx hb (by omega) dX3_mostFor_18 (by decide) ?_
    refine lv_iload_n hx hb dX3_mostFor_21 rfl (lv_at hl 0 rfl) ?_
    refine lv_aload_n hx hb dX3_mostFor_22 rfl (lv_at hl 1 rfl) ?_
    refine gf3 (v := .ref sa) hx hb hts fX3_mostFor_3 hown hK.1 hP 0 0 rfl (by decide) kX3_mostFor_23 rfl rfl dX3_mostFor_23 ?_
    refine ln_alen hx hb hK.1 hP 1 0 rfl rfl dX3_mostFor_26 ?_
    refine ln_icmp_ge (tgt := 39) hx hb (by omega) (by omega) dX3_mostFor_27 (by decide) (fun c27 => ?_) (fun c27 => ?_)
    · skip
      exact absurd c27 (by omega)
    · skip
      refine lv_aload_n hx hb dX3_mostFor_30 rfl (lv_at hl 1 rfl) ?_
      refine gf3 (v := .ref sa) hx hb hts fX3_mostFor_3 hown hK.1 hP 0 0 rfl (by decide) kX3_mostFor_31 rfl rfl dX3_mostFor_31 ?_
      refine lv_iload_n hx hb dX3_mostFor_34 rfl (lv_at hl 0 rfl) ?_
      refine ln_iald (g := g) hx hb hK.1 hP 1 0 rfl rfl (by omega) (by decide) dX3_mostFor_35 ?_
      refine lv_goto (tgt := 40) hx hb dX3_mostFor_36 (by decide) ?_
      exact hret dX3_mostFor_40 (pnE (by first | rw [show min n len = n by omega] | rw [show min n len = len by omega]))
  · skip
    refine lv_iload_n hx hb dX3_mostFor_8 rfl (lv_at hl 1 rfl) ?_
    refine lv_goto (tgt := 16) hx hb dX3_mostFor_9 (by decide) ?_
    refine lv_istore_n (lv' := [(2, .int (nI n)), (0, .ref a), (1, .int (nI n))]) hx hb dX3_mostFor_16 rfl hl (by decide) rfl (fun ls hl => ?_)
    refine lv_iload_n hx hb dX3_mostFor_17 rfl (lv_at hl 0 rfl) ?_
    refine ln_if_lt (tgt := 39) hx hb (by omega) dX3_mostFor_18 (by decide) ?_
    refine lv_iload_n hx hb dX3_mostFor_21 rfl (lv_at hl 0 rfl) ?_
    refine lv_aload_n hx hb dX3_mostFor_22 rfl (lv_at hl 1 rfl) ?_
    refine gf3 (v := .ref sa) hx hb hts fX3_mostFor_3 hown hK.1 hP 0 0 rfl (by decide) kX3_mostFor_23 rfl rfl dX3_mostFor_23 ?_
    refine ln_alen hx hb hK.1 hP 1 0 rfl rfl dX3_mostFor_26 ?_
    refine ln_icmp_ge (tgt := 39) hx hb (by omega) (by omega) dX3_mostFor_27 (by decide) (fun c27 => ?_) (fun c27 => ?_)
    · skip
      exact absurd c27 (by omega)
    · skip
      refine lv_aload_n hx hb dX3_mostFor_30 rfl (lv_at hl 1 rfl) ?_
      refine gf3 (v := .ref sa) hx hb hts fX3_mostFor_3 hown hK.1 hP 0 0 rfl (by decide) kX3_mostFor_31 rfl rfl dX3_mostFor_31 ?_
      refine lv_iload_n hx hb dX3_mostFor_34 rfl (lv_at hl 0 rfl) ?_
      refine ln_iald (g := g) hx hb hK.1 hP 1 0 rfl rfl (by omega) (by decide) dX3_mostFor_35 ?_
      refine lv_goto (tgt := 40) hx hb dX3_mostFor_36 (by decide) ?_
      exact hret dX3_mostFor_40 (pnE (by first | rw [show min n len = n by omega] | rw [show min n len = len by omega]))
set_option maxHeartbeats 4000000 in
set_option maxRecDepth 100000 in
theorem c_X3_add (l : Launch) (D : va_G) (cy : Nat → ClassId) (a sa len : Nat) (g : Nat → Nat) (F : List Nat) (f m0 : Nat) (hq : QS F len g) (h1 : m0 ≤ 512) : cMV l D cy yX3_add wsX3_add rmX3_add [.ref a, .int (nI f), .int (nI m0)] ([(a, .inr (3, [.ref sa, .int (nI len)])), (sa, .inl (cy 0, 12, .inl (fun j => nI (g j))))]) (T := Nat × (Nat → Nat)) (fun u => [(a, .inr (3, [.ref sa, .int (nI u.1)])), (sa, .inl (cy 0, 12, .inl (fun j => nI (u.2 j))))]) (fun u => QS (F ++ List.replicate (min m0 12) f) u.1 u.2) 0 0 := by
  refine cMV.of (cc := cX3_add) (maxL := 4) (by decide) rfl (Nat.le_of_ble_eq_true rfl) ?_
  intro p e s m args below meth c H0 A Q hx hb hml hown hts hP hK hD hS hA hin0 hret ls hl
  obtain ⟨H, locs, hH, hlo⟩ : ∃ (H : Heap) (locs : List Loc), H = H0 ∧ locs = [] := ⟨_, _, rfl, rfl⟩
  rw [← hH] at hP
  rw [show va_S A H0 H0 [] = va_S A H0 H locs by rw [hH, hlo]] at hS
  rw [show W p l e rmX3_add s m args below meth c H0 [] 0 0 Q (F0 m 0 ls []) = W p l e rmX3_add s m args below meth c H locs 0 0 Q (F0 m 0 ls []) by rw [hH, hlo]]
  refine lv_iconst (v := nI 0) hx hb dX3_add_0 (by decide) ?_
  have K2 : ∀ (n2 : Nat) (i : Nat) (ln : Nat) (g2 : Nat → Nat), m0 - i < n2 → (i ≤ m0) → (QS (F ++ List.replicate i f) ln g2) → ∀ (H : Heap) (locs : List Loc), va_P D vwCl ([(a, .inr (3, [.ref sa, .int (nI ln)])), (sa, .inl (cy 0, 12, .inl (fun j => nI (g2 j))))]) H → va_D A ([(a, .inr (3, [.ref sa, .int (nI ln)])), (sa, .inl (cy 0, 12, .inl (fun j => nI (g2 j))))]) → va_S A H0 H locs → ∀ ls : Array Slot, lv_has ls 4 [(0, .ref a), (1, .int (nI f)), (2, .int (nI m0)), (3, .int (nI i))] → W p l e rmX3_add s m args below meth c H locs 0 0 Q (F0 m 2 ls []) := by
    intro n2
    induction n2 with
    | zero =>
      intro i ln g2 hfu
      exact absurd hfu (Nat.not_lt_zero _)
    | succ n2 ih2 =>
      intro i ln g2 hfu hi hq2 H locs hP hD hS ls hl
      have hln : ln ≤ 11 := by have := hq2.1; omega
      refine lv_iload_n hx hb dX3_add_2 rfl (lv_at hl 3 rfl) ?_
      refine lv_iload_n hx hb dX3_add_3 rfl (lv_at hl 2 rfl) ?_
      refine ln_icmp_ge (tgt := 66) hx hb (by omega) (by omega) dX3_add_4 (by decide) (fun c4 => ?_) (fun c4 => ?_)
      · skip
        exact hret (ln, g2) dX3_add_66 hP hD hS ((hq2.many hi (by omega)).cut)
      · skip
        refine lv_aload_n hx hb dX3_add_7 rfl (lv_at hl 0 rfl) ?_
        refine gf3 (v := .int (nI ln)) hx hb hts fX3_add_3 hown hK.1 hP 0 1 rfl (by decide) kX3_add_8 rfl rfl dX3_add_8 ?_
        refine ln_if_lt (tgt := 66) hx hb (by omega) dX3_add_11 (by decide) ?_
        refine lv_aload_n hx hb dX3_add_14 rfl (lv_at hl 0 rfl) ?_
        refine gf3 (v := .int (nI ln)) hx hb hts fX3_add_3 hown hK.1 hP 0 1 rfl (by decide) kX3_add_15 rfl rfl dX3_add_15 ?_
        refine lv_iconst (v := nI 1) hx hb dX3_add_18 (by decide) ?_
        refine ln_iadd hx hb dX3_add_19 (fun z19 hz19 => ?_)
        refine lv_aload_n hx hb dX3_add_20 rfl (lv_at hl 0 rfl) ?_
        refine gf3 (v := .ref sa) hx hb hts fX3_add_3 hown hK.1 hP 0 0 rfl (by decide) kX3_add_21 rfl rfl dX3_add_21 ?_
        refine ln_alen hx hb hK.1 hP 1 0 rfl rfl dX3_add_24 ?_
        refine ln_icmp_ge (tgt := 66) hx hb (by omega) (by omega) dX3_add_25 (by decide) (fun c25 => ?_) (fun c25 => ?_)
        · skip
          exact hret (ln, g2) dX3_add_66 hP hD hS ((hq2.many hi (by omega)).cut)
        · skip
          refine lv_aload_n hx hb dX3_add_28 rfl (lv_at hl 0 rfl) ?_
          refine gf3 (v := .ref sa) hx hb hts fX3_add_3 hown hK.1 hP 0 0 rfl (by decide) kX3_add_29 rfl rfl dX3_add_29 ?_
          refine lv_aload_n hx hb dX3_add_32 rfl (lv_at hl 0 rfl) ?_
          refine gf3 (v := .int (nI ln)) hx hb hts fX3_add_3 hown hK.1 hP 0 1 rfl (by decide) kX3_add_33 rfl rfl dX3_add_33 ?_
          refine lv_iconst (v := nI 1) hx hb dX3_add_36 (by decide) ?_
          refine ln_iadd hx hb dX3_add_37 (fun z37 hz37 => ?_)
          refine lv_aload_n hx hb dX3_add_38 rfl (lv_at hl 0 rfl) ?_
          refine gf3 (v := .ref sa) hx hb hts fX3_add_3 hown hK.1 hP 0 0 rfl (by decide) kX3_add_39 rfl rfl dX3_add_39 ?_
          refine lv_aload_n hx hb dX3_add_42 rfl (lv_at hl 0 rfl) ?_
          refine gf3 (v := .int (nI ln)) hx hb hts fX3_add_3 hown hK.1 hP 0 1 rfl (by decide) kX3_add_43 rfl rfl dX3_add_43 ?_
          refine ln_iald (g := g2) hx hb hK.1 hP 1 0 rfl rfl (by omega) (by decide) dX3_add_46 ?_
          refine lv_iload_n hx hb dX3_add_47 rfl (lv_at hl 1 rfl) ?_
          refine ln_iadd hx hb dX3_add_48 (fun z48 hz48 => ?_)
          refine ln_iast (g := g2) hx hb hK.1 hP hD hS 1 0 rfl rfl (by omega) (by decide) dX3_add_49 (fun H locs hP hD hS => ?_)
          refine lv_aload_n hx hb dX3_add_50 rfl (lv_at hl 0 rfl) ?_
          refine lv_dup hx hb dX3_add_51 rfl ?_
          refine gf3 (v := .int (nI ln)) hx hb hts fX3_add_3 hown hK.1 hP 0 1 rfl (by decide) kX3_add_52 rfl rfl dX3_add_52 ?_
          refine lv_iconst (v := nI 1) hx hb dX3_add_55 (by decide) ?_
          refine ln_iadd hx hb dX3_add_56 (fun z56 hz56 => ?_)
          have hP : va_P D vwCl ([(a, .inr (3, [.ref sa, .int (nI ln)])), (sa, .inl (cy 0, 12, .inl (fun j => nI (va_up g2 z37 z48 j))))]) H := hP
          have hD : va_D A ([(a, .inr (3, [.ref sa, .int (nI ln)])), (sa, .inl (cy 0, 12, .inl (fun j => nI (va_up g2 z37 z48 j))))]) := hD
          refine pf3 hx hb hts fX3_add_3 hown hK.1 hP hD hS 0 1 rfl (by decide) kX3_add_57 rfl rfl (ty := .int) (by decide) rfl rfl (Nat.le_of_ble_eq_true rfl) dX3_add_57 (fun H locs hP hD hS => ?_)
          obtain ⟨z60, hz60⟩ : ∃ z : Nat, z = i + 1 := ⟨_, rfl⟩
          refine lv_iinc (v := nI z60) (lv' := [(3, .int (nI z60)), (0, .ref a), (1, .int (nI f)), (2, .int (nI m0))]) hx hb dX3_add_60 hl (k := 3) rfl (by rw [hz60]; exact nI_add _ 1) (by decide) rfl (fun ls hl => ?_)
          refine lv_goto (tgt := 2) hx hb dX3_add_63 (by decide) ?_
          have hP : va_P D vwCl ([(a, .inr (3, [.ref sa, .int (nI z56)])), (sa, .inl (cy 0, 12, .inl (fun j => nI (va_up g2 z37 z48 j))))]) H := hP
          have hD : va_D A ([(a, .inr (3, [.ref sa, .int (nI z56)])), (sa, .inl (cy 0, 12, .inl (fun j => nI (va_up g2 z37 z48 j))))]) := hD
          exact ih2 z60 z56 (va_up g2 z37 z48) (by omega) (by omega) (hq2.step (by omega) hz60 (by omega) (by rw [hz48, hz37])) H locs hP hD hS ls (lv_sub hl [1, 2, 3, 0] rfl)
  refine lv_istore_n (lv' := [(3, .int (nI 0)), (0, .ref a), (1, .int (nI f)), (2, .int (nI m0))]) hx hb dX3_add_1 rfl hl (by decide) rfl (fun ls hl => ?_)
  exact K2 _ 0 len g (Nat.lt_succ_self _) (by omega) (by simpa using hq) H locs hP hD hS ls (lv_sub hl [1, 2, 3, 0] rfl)
