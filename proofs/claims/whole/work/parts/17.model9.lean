theorem bsum_congr {σ τ : SF} (h1 : ∀ b, τ 14 b = σ 14 b) (h2 : ∀ b, τ 10 b = σ 10 b) (h3 : ∀ b, τ 11 b = σ 11 b) (h4 : ∀ b, τ 12 b = σ 12 b) (leg : Nat) : ∀ n, bsum τ leg n = bsum σ leg n := by
  intro n
  induction n with
  | zero => rfl
  | succ n ih => unfold bsum; rw [ih, h1, h2, h3, h4]
theorem psum_congr {σ τ : SF} (h1 : ∀ b, τ 14 b = σ 14 b) (h2 : ∀ b, τ 13 b = σ 13 b) : ∀ n, psum τ n = psum σ n := by
  intro n
  induction n with
  | zero => rfl
  | succ n ih => unfold psum; rw [ih, h1, h2]
theorem Iv.mono {n m : Nat} {σ : SF} (h : Iv n σ) (h1 : n ≤ m) (h2 : m ≤ 512) : Iv m σ :=
  ⟨h2, h.np, Nat.le_trans h.dy h1, h.rt.1, h.rt.2, h.nb, h.se, h.bk, fun k hk => ⟨(h.pr k hk).1, (h.pr k hk).2.1, (h.pr k hk).2.2.1, (h.pr k hk).2.2.2.1, (h.pr k hk).2.2.2.2.1, Nat.le_trans (h.pr k hk).2.2.2.2.2 h1⟩, h.p0, h.tb, h.t0, h.bo, fun j => Nat.le_trans (h.rf j) h1⟩
theorem up_at {g : Nat → Nat} {k x : Nat} : va_up g k x k = x := va_up_self g k x
theorem up_if {g : Nat → Nat} {k x j : Nat} : va_up g k x j = if j = k then x else g j := rfl
theorem Iv.ask {n : Nat} {σ : SF} (h : Iv n σ) (hn : n < 512) {k : Nat} (hk : k < σ 0 0) : Iv (n + 1) (asF σ k) := by
  have h0 := h.mono (Nat.le_succ n) hn
  refine ⟨hn, h0.np, h0.dy, h0.rt.1, h0.rt.2, h0.nb, h0.se, fun j hj => ?_, fun i hi => ?_, fun i hi => ?_, h0.tb, h0.t0, h0.bo, h0.rf⟩
  · show σ 2 j = bsum (asF σ k) j (σ 0 3)
    rw [bsum_congr (σ := σ) (τ := asF σ k) (fun _ => rfl) (fun _ => rfl) (fun _ => rfl) (fun _ => rfl)]
    exact h.bk j hj
  · have h1 := h.pr i hi
    refine ⟨h1.1, h1.2.1, h1.2.2.1, h1.2.2.2.1, h1.2.2.2.2.1, ?_⟩
    show σ 8 i + va_up (σ 7) k (σ 7 k + 1) i ≤ n + 1
    rw [up_if]
    split
    · rename_i q; subst q; omega
    · omega
  · have h1 := h.p0 i hi
    refine ⟨h1.1, ?_, h1.2.2⟩
    show va_up (σ 7) k (σ 7 k + 1) i = 0
    have hi2 : σ 0 0 ≤ i := hi
    rw [up_if, if_neg (by omega)]
    exact h1.2.1
theorem sub2 {a b x : Nat} (ha : a < 2 ^ 29) (hb : b < 2 ^ 29) (hx : x < 2 ^ 29) : (0 : Int32) < nI a - nI b - nI x ↔ b + x < a := by
  rw [show nI a - nI b - nI x = nI a - nI (b + x) by rw [← nI_add]; exact (by simp only [Int32.sub_eq_add_neg, Int32.neg_add, Int32.add_assoc])]
  rw [Int32.lt_iff_toInt_lt, pk_sub_toInt (by omega) (by omega), show (0 : Int32).toInt = 0 from rfl]
  omega
theorem ex_fin {P : Nat → Prop} {f t j b : Nat} (h : b = 1 ↔ exP P f j) (hj : j = t + 1) : b = 1 ↔ ∃ i, f ≤ i ∧ i ≤ t ∧ P i := by
  subst hj
  rw [h]
  exact ⟨fun ⟨i, h1, h2, h3⟩ => ⟨i, h1, by omega, h3⟩, fun ⟨i, h1, h2, h3⟩ => ⟨i, h1, by omega, h3⟩⟩
theorem ex_stepZ {P : Nat → Prop} {f k b b' z : Nat} (h : b = 1 ↔ exP P f k) (hf : f ≤ k) (h' : b' = 1 ↔ (b = 1 ∨ P k)) (hz : z = k + 1) : b' = 1 ↔ exP P f z := by subst hz; exact ex_step h hf h'
theorem bidsI_s {σ : SF} {f j z : Nat} {bi w : Int32} (hf : f ≤ j) (hb : bi = bidsI σ f (j - f)) (hw : w = bidI σ j) (hz : z = j + 1) : bi + w = bidsI σ f (z - f) := by
  subst hz
  rw [hb, hw, show j + 1 - f = (j - f) + 1 by omega]
  conv => rhs; unfold bidsI
  rw [show f + (j - f) = j by omega]
set_option maxHeartbeats 4000000 in
set_option maxRecDepth 100000 in
theorem c_X6_ask (l : Launch) (D : va_G) (cy : Nat → ClassId) (ad : Nat → Nat) (σ : SF) (er : Int64) (wo : Nat → Nat) (th : Nat) {n : Nat} (hI : Iv n σ) (hn : n < 512) (v : Int32) : cMI l D cy yX6_ask wsX6_ask rmX6_ask [.ref (ad 0), .int v] (WM ad cy σ er wo th) (T := Nat × SF × (Nat → Nat)) (fun u => WM ad cy u.2.1 er u.2.2 u.1) (fun r u => (¬ isP σ v ∧ u.1 = 1 ∧ u.2.1 = σ) ∨ (isP σ v ∧ σ 0 3 = 60 ∧ u.1 = 2 ∧ u.2.1 = σ) ∨ (isP σ v ∧ ¬ σ 0 3 = 60 ∧ u.1 = 0 ∧ askA (asF σ (cN v)) (cN v) r u.2.1)) 0 0 := by
  refine cMI.of (cc := cX6_ask) (maxL := 6) (by decide) rfl (Nat.le_of_ble_eq_true rfl) (Or.inl rfl) ?_
  intro p e s m args below meth c H0 A Q hx hb hml hown hts hP hK hD hS hA hret ls hl
  obtain ⟨H, locs, hH, hlo⟩ : ∃ (H : Heap) (locs : List Loc), H = H0 ∧ locs = [] := ⟨_, _, rfl, rfl⟩
  rw [← hH] at hP
  rw [show va_S A H0 H0 [] = va_S A H0 H locs by rw [hH, hlo]] at hS
  rw [show W p l e rmX6_ask s m args below meth c H0 [] 0 0 Q (F0 m 0 ls []) = W p l e rmX6_ask s m args below meth c H locs 0 0 Q (F0 m 0 ls []) by rw [hH, hlo]]
  have hnb := hI.nb
  refine lv_aload_n hx hb dX6_ask_0 rfl (lv_at hl 0 rfl) ?_
  refine lv_aload_n hx hb dX6_ask_1 rfl (lv_at hl 0 rfl) ?_
  refine lv_iload_n hx hb dX6_ask_2 rfl (lv_at hl 1 rfl) ?_
  refine ro_calliB (va_runV (As := [.int v]) (rest := [.ref (ad 0)]) ⟨hx, hb, hml, hown, hts⟩ (c_X6_isProduct l D cy ad σ er wo th v hI.np H hP) (cwV 1 hts gX6_ask_X6_isProduct rfl rfl rfl hdX6_isProduct ⟨Nat.le_of_ble_eq_true rfl, Nat.le_of_ble_eq_true rfl⟩) (ro_preV hK (va_recv hK.1 hP (ci := 6) (q0 := 0) rfl rfl)) rfl rfl hl.1 rfl (lv_room (Nat.le_of_ble_eq_true rfl)) dX6_ask_3 ⟨Nat.le_of_ble_eq_true rfl, Nat.le_of_ble_eq_true rfl⟩) (fun b3 => ?_) (fun b3 => ?_)
  · skip
    refine lv_if_ne (tgt := 13) hx hb dX6_ask_6 (by decide) (fun _ => ?_) (fun q => by first | exact absurd q (by decide) | exact absurd (by decide) q)
    refine lv_aload_n hx hb dX6_ask_13 rfl (lv_at hl 0 rfl) ?_
    refine mg (v := .int (nI (σ 0 3))) hx hb hts fX6_ask_6 hown hK hP 12 (by decide) kX6_ask_14 rfl rfl dX6_ask_14 ?_
    refine lv_bipush (v := nI 60) hx hb dX6_ask_17 (by decide) ?_
    refine ln_icmp_ne (tgt := 26) hx hb (by omega) (by omega) dX6_ask_19 (by decide) (fun c19 => ?_) (fun c19 => ?_)
    · skip
      refine lv_iconst (v := nI 0) hx hb dX6_ask_26 (by decide) ?_
      refine mw_calli (va_runV (As := [.int (nI 0)]) (rest := []) ⟨hx, hb, hml, hown, hts⟩ (c_X6_fails l D cy ad σ er wo th 0 (by omega) H.size) (cwV 1 hts gX6_ask_X6_fails rfl rfl rfl hdX6_fails ⟨Nat.le_of_ble_eq_true rfl, Nat.le_of_ble_eq_true rfl⟩) (mo_preV hK rfl hP hD (va_recv hK.1 hP (ci := 6) (q0 := 0) rfl rfl)) rfl rfl hl.1 rfl (lv_room (Nat.le_of_ble_eq_true rfl)) dX6_ask_27 ⟨Nat.le_of_ble_eq_true rfl, Nat.le_of_ble_eq_true rfl⟩) hS hD hA (fun r _ H locs hr hP hD hS => ?_)
      rcases hr with ⟨b27, rfl⟩ | ⟨b27, rfl⟩
      · skip
        exact absurd b27 (by decide)
      · skip
        obtain ⟨k, hk, rfl⟩ := b3
        have hnp := hI.np
        have hnb := hI.nb
        refine lv_if_eq (tgt := 35) hx hb dX6_ask_30 (by decide) (fun _ => ?_) (fun q => by first | exact absurd q (by decide) | exact absurd (by decide) q)
        refine lv_aload_n hx hb dX6_ask_35 rfl (lv_at hl 0 rfl) ?_
        refine mg (v := .ref (ad 7)) hx hb hts fX6_ask_6 hown hK hP 7 (by decide) kX6_ask_36 rfl rfl dX6_ask_36 ?_
        refine lv_iload_n hx hb dX6_ask_39 rfl (lv_at hl 1 rfl) ?_
        refine lv_dup2_11 hx hb dX6_ask_40 rfl rfl ?_
        refine ml7 (v := σ 7 k) hx hb hK hP (by omega) rfl dX6_ask_41 ?_
        refine lv_iconst (v := nI 1) hx hb dX6_ask_42 (by decide) ?_
        refine ln_iadd hx hb dX6_ask_43 (fun z43 hz43 => ?_)
        refine ms7 hx hb hK hP hD hS (by omega) dX6_ask_44 (fun H locs hP hD hS => ?_)
        obtain ⟨τ, hτ⟩ : ∃ τ, τ = asF σ k := ⟨_, rfl⟩
        rw [hz43] at hP hD
        have hP : va_P D vwCl (WM ad cy τ er wo 0) H := by rw [hτ]; exact hP
        have hD : va_D A (WM ad cy τ er wo 0) := by rw [hτ]; exact hD
        have hI2 : Iv (n + 1) τ := by rw [hτ]; exact hI.ask hn hk
        have hk2 : k < τ 0 0 := by rw [hτ]; exact hk
        have hb60 : ¬ τ 0 3 = 60 := by rw [hτ]; exact c19
        have hnb2 := hI2.nb
        have hpk := hI2.pr k hk2
        refine lv_aload_n hx hb dX6_ask_45 rfl (lv_at hl 0 rfl) ?_
        refine mw_callv (va_runV (As := []) (rest := []) ⟨hx, hb, hml, hown, hts⟩ (c_X6_finds l D cy ad (τ) er wo 0 hI2 H.size) (cwV 0 hts gX6_ask_X6_finds rfl rfl rfl hdX6_finds ⟨Nat.le_of_ble_eq_true rfl, Nat.le_of_ble_eq_true rfl⟩) (mo_preV hK rfl hP hD (va_recv hK.1 hP (ci := 6) (q0 := 0) rfl rfl)) rfl rfl hl.1 rfl (lv_room (Nat.le_of_ble_eq_true rfl)) dX6_ask_46 ⟨Nat.le_of_ble_eq_true rfl, Nat.le_of_ble_eq_true rfl⟩) hS hD hA (fun u H locs hr46 hP hD hS => ?_)
        have hT := hr46
        refine lv_iconst (v := nI 0) hx hb dX6_ask_49 (by decide) ?_
        refine lv_istore_n (lv' := [(2, .int (nI 0)), (0, .ref (ad 0)), (1, .int (nI k))]) hx hb dX6_ask_50 rfl hl (by decide) rfl (fun ls hl => ?_)
        refine lv_iconst (v := nI 0) hx hb dX6_ask_51 (by decide) ?_
        refine lv_istore_n (lv' := [(3, .int (nI 0)), (2, .int (nI 0)), (0, .ref (ad 0)), (1, .int (nI k))]) hx hb dX6_ask_52 rfl hl (by decide) rfl (fun ls hl => ?_)
        refine lv_iconst (v := nI 0) hx hb dX6_ask_53 (by decide) ?_
        refine lv_istore (lv' := [(4, .int (nI 0)), (3, .int (nI 0)), (2, .int (nI 0)), (0, .ref (ad 0)), (1, .int (nI k))]) hx hb dX6_ask_54 hl (by decide) rfl (fun ls hl => ?_)
        refine lv_aload_n hx hb dX6_ask_56 rfl (lv_at hl 3 rfl) ?_
        refine mg (v := .ref (ad 3)) hx hb hts fX6_ask_6 hown hK hP 3 (by decide) kX6_ask_57 rfl rfl dX6_ask_57 ?_
        refine lv_iload_n hx hb dX6_ask_60 rfl (lv_at hl 4 rfl) ?_
        refine ml3 (v := τ 3 k) hx hb hK hP (by omega) rfl dX6_ask_61 ?_
        have K64 : ∀ (n64 : Nat) (b : Nat) (g : Nat) (j : Nat) (bi : Int32), τ 4 k + 1 - j < n64 → (b ≤ 1) → ((b = 1 ↔ exP (fun j => aut τ j ≤ τ 2 j) (τ 3 k) j)) → (g ≤ 1) → ((g = 1 ↔ exP (fun j => aut τ j ≤ τ 2 j + prot τ j (τ 5 k)) (τ 3 k) j)) → (τ 3 k ≤ j) → (j ≤ τ 4 k + 1) → (bi = bidsI τ (τ 3 k) (j - τ 3 k)) → ∀ (H : Heap) (locs : List Loc), va_P D vwCl (WM ad cy (τ) er u 0) H → va_D A (WM ad cy (τ) er u 0) → va_S A H0 H locs → ∀ ls : Array Slot, lv_has ls 6 [(0, .ref (ad 0)), (1, .int (nI k)), (2, .int (nI b)), (3, .int (nI g)), (4, .int bi), (5, .int (nI j))] → W p l e rmX6_ask s m args below meth c H locs 0 0 Q (F0 m 64 ls []) := by
          intro n64
          induction n64 with
          | zero =>
            intro b g j bi hfu
            exact absurd hfu (Nat.not_lt_zero _)
          | succ n64 ih64 =>
            intro b g j bi hfu hb1 hbx hg1 hgx hj1 hj2 hbi H locs hP hD hS ls hl
            refine lv_iload hx hb dX6_ask_64 (lv_at hl 5 rfl) ?_
            refine lv_aload_n hx hb dX6_ask_66 rfl (lv_at hl 0 rfl) ?_
            refine mg (v := .ref (ad 4)) hx hb hts fX6_ask_6 hown hK hP 4 (by decide) kX6_ask_67 rfl rfl dX6_ask_67 ?_
            refine lv_iload_n hx hb dX6_ask_70 rfl (lv_at hl 1 rfl) ?_
            refine ml4 (v := τ 4 k) hx hb hK hP (by omega) rfl dX6_ask_71 ?_
            refine ln_icmp_gt (tgt := 158) hx hb (by omega) (by omega) dX6_ask_72 (by decide) (fun c72 => ?_) (fun c72 => ?_)
            · skip
              have hjl : j = τ 4 k + 1 := by omega
              have hF : b = 1 ↔ fullA τ (τ 3 k) (τ 4 k) := ex_fin hbx hjl
              have hG : g = 1 ↔ protA τ (τ 3 k) (τ 4 k) (τ 5 k) := ex_fin hgx hjl
              have hbi2 : bi = bidsI τ (τ 3 k) (τ 4 k + 1 - τ 3 k) := by rw [hbi, hjl]
              refine lv_iload_n hx hb dX6_ask_158 rfl (lv_at hl 2 rfl) ?_
              refine ln_if_eq (tgt := 166) hx hb (by omega) dX6_ask_159 (by decide) (fun c159 => ?_) (fun c159 => ?_)
              · skip
                refine lv_iload_n hx hb dX6_ask_166 rfl (lv_at hl 3 rfl) ?_
                refine ln_if_eq (tgt := 175) hx hb (by omega) dX6_ask_167 (by decide) (fun c167 => ?_) (fun c167 => ?_)
                · skip
                  refine lv_aload_n hx hb dX6_ask_175 rfl (lv_at hl 0 rfl) ?_
                  refine mg (v := .ref (ad 5)) hx hb hts fX6_ask_6 hown hK hP 5 (by decide) kX6_ask_176 rfl rfl dX6_ask_176 ?_
                  refine lv_iload_n hx hb dX6_ask_179 rfl (lv_at hl 1 rfl) ?_
                  refine ml5 (v := τ 5 k) hx hb hK hP (by omega) rfl dX6_ask_180 ?_
                  refine lv_iload hx hb dX6_ask_181 (lv_at hl 4 rfl) ?_
                  refine lv_icmp_ge (tgt := 191) hx hb dX6_ask_183 (by decide) (fun c183 => ?_) (fun c183 => ?_)
                  · skip
                    refine lv_iconst (v := nI 0) hx hb dX6_ask_191 (by decide) ?_
                    refine lv_istore (lv' := [(5, .int (nI 0)), (0, .ref (ad 0)), (1, .int (nI k)), (2, .int (nI b)), (3, .int (nI g)), (4, .int bi)]) hx hb dX6_ask_192 hl (by decide) rfl (fun ls hl => ?_)
                    refine lv_iload hx hb dX6_ask_194 (lv_at hl 0 rfl) ?_
                    refine lv_if_ge (tgt := 208) hx hb dX6_ask_196 (by decide) (fun _ => ?_) (fun q => by first | exact absurd q (by decide) | exact absurd (by decide) q)
                    refine lv_aload_n hx hb dX6_ask_208 rfl (lv_at hl 1 rfl) ?_
                    refine lv_aload_n hx hb dX6_ask_209 rfl (lv_at hl 1 rfl) ?_
                    refine mg (v := .ref (ad 3)) hx hb hts fX6_ask_6 hown hK hP 3 (by decide) kX6_ask_210 rfl rfl dX6_ask_210 ?_
                    refine lv_iload_n hx hb dX6_ask_213 rfl (lv_at hl 2 rfl) ?_
                    refine ml3 (v := τ 3 k) hx hb hK hP (by omega) rfl dX6_ask_214 ?_
                    refine lv_aload_n hx hb dX6_ask_215 rfl (lv_at hl 1 rfl) ?_
                    refine mg (v := .ref (ad 4)) hx hb hts fX6_ask_6 hown hK hP 4 (by decide) kX6_ask_216 rfl rfl dX6_ask_216 ?_
                    refine lv_iload_n hx hb dX6_ask_219 rfl (lv_at hl 2 rfl) ?_
                    refine ml4 (v := τ 4 k) hx hb hK hP (by omega) rfl dX6_ask_220 ?_
                    refine lv_iconst (v := nI 1) hx hb dX6_ask_221 (by decide) ?_
                    refine lv_aload_n hx hb dX6_ask_222 rfl (lv_at hl 1 rfl) ?_
                    refine mg (v := .ref (ad 5)) hx hb hts fX6_ask_6 hown hK hP 5 (by decide) kX6_ask_223 rfl rfl dX6_ask_223 ?_
                    refine lv_iload_n hx hb dX6_ask_226 rfl (lv_at hl 2 rfl) ?_
                    refine ml5 (v := τ 5 k) hx hb hK hP (by omega) rfl dX6_ask_227 ?_
                    refine mw_calli (va_runV (As := [.int (nI (τ 3 k)), .int (nI (τ 4 k)), .int (nI 1), .int (nI (τ 5 k))]) (rest := []) ⟨hx, hb, hml, hown, hts⟩ (c_X6_books l D cy ad (τ) er u 0 hI2 (τ 3 k) (τ 4 k) 1 (τ 5 k) (by omega) (by omega) (by omega) H.size) (cwV 4 hts gX6_ask_X6_books rfl rfl rfl hdX6_books ⟨Nat.le_of_ble_eq_true rfl, Nat.le_of_ble_eq_true rfl⟩) (mo_preV hK rfl hP hD (va_recv hK.1 hP (ci := 6) (q0 := 0) rfl rfl)) rfl rfl hl.1 rfl (lv_room (Nat.le_of_ble_eq_true rfl)) dX6_ask_228 ⟨Nat.le_of_ble_eq_true rfl, Nat.le_of_ble_eq_true rfl⟩) hS hD hA (fun z228 _ H locs hz228 hP hD hS => ?_)
                    exact hret (0, (bookF (τ) (τ 3 k) (τ 4 k) 1 (τ 5 k)), u) dX6_ask_231 hP hD hS (Or.inr (Or.inr ⟨⟨k, hk, rfl⟩, c19, rfl, by rw [cN_nI (by omega), ← hτ]; exact (Or.inr (Or.inr (Or.inr ⟨(fun z => absurd (hF.mpr z) (by omega)), (fun z => absurd (hG.mpr z) (by omega)), by rw [← hbi2]; exact Int32.not_lt.mpr c183, hz228, rfl⟩)))⟩))
                  · skip
                    refine lv_bipush (v := -3) hx hb dX6_ask_186 (by decide) ?_
                    refine lv_goto (tgt := 192) hx hb dX6_ask_188 (by decide) ?_
                    refine lv_istore (lv' := [(5, .int ((-3))), (0, .ref (ad 0)), (1, .int (nI k)), (2, .int (nI b)), (3, .int (nI g)), (4, .int bi)]) hx hb dX6_ask_192 hl (by decide) rfl (fun ls hl => ?_)
                    refine lv_iload hx hb dX6_ask_194 (lv_at hl 0 rfl) ?_
                    refine lv_if_ge (tgt := 208) hx hb dX6_ask_196 (by decide) (fun c196 => ?_) (fun c196 => ?_)
                    · skip
                      exact absurd c196 (by decide)
                    · skip
                      refine lv_aload_n hx hb dX6_ask_199 rfl (lv_at hl 1 rfl) ?_
                      refine lv_iload hx hb dX6_ask_200 (lv_at hl 0 rfl) ?_
                      refine mw_calli (va_runV (As := [.int ((-3))]) (rest := []) ⟨hx, hb, hml, hown, hts⟩ (c_X6_refuses l D cy ad (τ) er u 0 (-3) 3 (by decide) (by decide) H.size) (cwV 1 hts gX6_ask_X6_refuses rfl rfl rfl hdX6_refuses ⟨Nat.le_of_ble_eq_true rfl, Nat.le_of_ble_eq_true rfl⟩) (mo_preV hK rfl hP hD (va_recv hK.1 hP (ci := 6) (q0 := 0) rfl rfl)) rfl rfl hl.1 rfl (lv_room (Nat.le_of_ble_eq_true rfl)) dX6_ask_202 ⟨Nat.le_of_ble_eq_true rfl, Nat.le_of_ble_eq_true rfl⟩) hS hD hA (fun z202 _ H locs hz202 hP hD hS => ?_)
                      refine lv_goto (tgt := 231) hx hb dX6_ask_205 (by decide) ?_
                      exact hret (0, (rfF (τ) 3), u) dX6_ask_231 hP hD hS (Or.inr (Or.inr ⟨⟨k, hk, rfl⟩, c19, rfl, by rw [cN_nI (by omega), ← hτ]; exact (Or.inr (Or.inr (Or.inl ⟨(fun z => absurd (hF.mpr z) (by omega)), (fun z => absurd (hG.mpr z) (by omega)), by rw [← hbi2]; exact Int32.not_le.mp c183, hz202, rfl⟩)))⟩))
                · skip
                  refine lv_bipush (v := -2) hx hb dX6_ask_170 (by decide) ?_
                  refine lv_goto (tgt := 192) hx hb dX6_ask_172 (by decide) ?_
                  refine lv_istore (lv' := [(5, .int ((-2))), (0, .ref (ad 0)), (1, .int (nI k)), (2, .int (nI b)), (3, .int (nI g)), (4, .int bi)]) hx hb dX6_ask_192 hl (by decide) rfl (fun ls hl => ?_)
                  refine lv_iload hx hb dX6_ask_194 (lv_at hl 0 rfl) ?_
                  refine lv_if_ge (tgt := 208) hx hb dX6_ask_196 (by decide) (fun c196 => ?_) (fun c196 => ?_)
                  · skip
                    exact absurd c196 (by decide)
                  · skip
                    refine lv_aload_n hx hb dX6_ask_199 rfl (lv_at hl 1 rfl) ?_
                    refine lv_iload hx hb dX6_ask_200 (lv_at hl 0 rfl) ?_
                    refine mw_calli (va_runV (As := [.int ((-2))]) (rest := []) ⟨hx, hb, hml, hown, hts⟩ (c_X6_refuses l D cy ad (τ) er u 0 (-2) 2 (by decide) (by decide) H.size) (cwV 1 hts gX6_ask_X6_refuses rfl rfl rfl hdX6_refuses ⟨Nat.le_of_ble_eq_true rfl, Nat.le_of_ble_eq_true rfl⟩) (mo_preV hK rfl hP hD (va_recv hK.1 hP (ci := 6) (q0 := 0) rfl rfl)) rfl rfl hl.1 rfl (lv_room (Nat.le_of_ble_eq_true rfl)) dX6_ask_202 ⟨Nat.le_of_ble_eq_true rfl, Nat.le_of_ble_eq_true rfl⟩) hS hD hA (fun z202 _ H locs hz202 hP hD hS => ?_)
                    refine lv_goto (tgt := 231) hx hb dX6_ask_205 (by decide) ?_
                    exact hret (0, (rfF (τ) 2), u) dX6_ask_231 hP hD hS (Or.inr (Or.inr ⟨⟨k, hk, rfl⟩, c19, rfl, by rw [cN_nI (by omega), ← hτ]; exact (Or.inr (Or.inl ⟨(fun z => absurd (hF.mpr z) (by omega)), hG.mp (by omega), hz202, rfl⟩))⟩))
              · skip
                refine lv_iconst (v := -1) hx hb dX6_ask_162 (by decide) ?_
                refine lv_goto (tgt := 192) hx hb dX6_ask_163 (by decide) ?_
                refine lv_istore (lv' := [(5, .int ((-1))), (0, .ref (ad 0)), (1, .int (nI k)), (2, .int (nI b)), (3, .int (nI g)), (4, .int bi)]) hx hb dX6_ask_192 hl (by decide) rfl (fun ls hl => ?_)
                refine lv_iload hx hb dX6_ask_194 (lv_at hl 0 rfl) ?_
                refine lv_if_ge (tgt := 208) hx hb dX6_ask_196 (by decide) (fun c196 => ?_) (fun c196 => ?_)
                · skip
                  exact absurd c196 (by decide)
                · skip
                  refine lv_aload_n hx hb dX6_ask_199 rfl (lv_at hl 1 rfl) ?_
                  refine lv_iload hx hb dX6_ask_200 (lv_at hl 0 rfl) ?_
                  refine mw_calli (va_runV (As := [.int ((-1))]) (rest := []) ⟨hx, hb, hml, hown, hts⟩ (c_X6_refuses l D cy ad (τ) er u 0 (-1) 1 (by decide) (by decide) H.size) (cwV 1 hts gX6_ask_X6_refuses rfl rfl rfl hdX6_refuses ⟨Nat.le_of_ble_eq_true rfl, Nat.le_of_ble_eq_true rfl⟩) (mo_preV hK rfl hP hD (va_recv hK.1 hP (ci := 6) (q0 := 0) rfl rfl)) rfl rfl hl.1 rfl (lv_room (Nat.le_of_ble_eq_true rfl)) dX6_ask_202 ⟨Nat.le_of_ble_eq_true rfl, Nat.le_of_ble_eq_true rfl⟩) hS hD hA (fun z202 _ H locs hz202 hP hD hS => ?_)
                  refine lv_goto (tgt := 231) hx hb dX6_ask_205 (by decide) ?_
                  exact hret (0, (rfF (τ) 1), u) dX6_ask_231 hP hD hS (Or.inr (Or.inr ⟨⟨k, hk, rfl⟩, c19, rfl, by rw [cN_nI (by omega), ← hτ]; exact (Or.inl ⟨hF.mp (by omega), hz202, rfl⟩)⟩))
            · skip
              have hau : aut τ j ≤ 20 := by have h1 := hI2.se j (by omega); have h2 := hI2.rt; have h3 := Nat.mul_le_mul h1 (show 100 - τ 0 2 ≤ 100 by omega); unfold aut; omega
              have hbj := hI2.bkle j (by omega)
              have K100 : ∀ (v8 : Nat), (v8 ≤ 1) → ((v8 = 1 ↔ (b = 1 ∨ (fun j => aut τ j ≤ τ 2 j) j))) → ∀ (H : Heap) (locs : List Loc), va_P D vwCl (WM ad cy (τ) er u 0) H → va_D A (WM ad cy (τ) er u 0) → va_S A H0 H locs → ∀ ls : Array Slot, lv_has ls 6 [(0, .ref (ad 0)), (1, .int (nI k)), (3, .int (nI g)), (4, .int bi), (5, .int (nI j))] → W p l e rmX6_ask s m args below meth c H locs 0 0 Q (F0 m 100 ls [.int (nI v8)]) := by
                intro v8 hv88 hv8 H locs hP hD hS ls hl
                refine lv_istore_n (lv' := [(2, .int (nI v8)), (0, .ref (ad 0)), (1, .int (nI k)), (3, .int (nI g)), (4, .int bi), (5, .int (nI j))]) hx hb dX6_ask_100 rfl hl (by decide) rfl (fun ls hl => ?_)
                have K140 : ∀ (v9 : Nat), (v9 ≤ 1) → ((v9 = 1 ↔ (g = 1 ∨ (fun j => aut τ j ≤ τ 2 j + prot τ j (τ 5 k)) j))) → ∀ (H : Heap) (locs : List Loc), va_P D vwCl (WM ad cy (τ) er u 0) H → va_D A (WM ad cy (τ) er u 0) → va_S A H0 H locs → ∀ ls : Array Slot, lv_has ls 6 [(0, .ref (ad 0)), (1, .int (nI k)), (2, .int (nI v8)), (4, .int bi), (5, .int (nI j))] → W p l e rmX6_ask s m args below meth c H locs 0 0 Q (F0 m 140 ls [.int (nI v9)]) := by
                  intro v9 hv99 hv9 H locs hP hD hS ls hl
                  refine lv_istore_n (lv' := [(3, .int (nI v9)), (0, .ref (ad 0)), (1, .int (nI k)), (2, .int (nI v8)), (4, .int bi), (5, .int (nI j))]) hx hb dX6_ask_140 rfl hl (by decide) rfl (fun ls hl => ?_)
                  refine lv_iload hx hb dX6_ask_141 (lv_at hl 4 rfl) ?_
                  refine lv_aload_n hx hb dX6_ask_143 rfl (lv_at hl 1 rfl) ?_
                  refine lv_iload hx hb dX6_ask_144 (lv_at hl 5 rfl) ?_
                  refine ro_calli (va_runV (As := [.int (nI j)]) (rest := [.int bi]) ⟨hx, hb, hml, hown, hts⟩ (c_X6_bidOf l D cy ad (τ) er u 0 hI2 hT j (by omega) H hP) (cwV 1 hts gX6_ask_X6_bidOf rfl rfl rfl hdX6_bidOf ⟨Nat.le_of_ble_eq_true rfl, Nat.le_of_ble_eq_true rfl⟩) (ro_preV hK (va_recv hK.1 hP (ci := 6) (q0 := 0) rfl rfl)) rfl rfl hl.1 rfl (lv_room (Nat.le_of_ble_eq_true rfl)) dX6_ask_146 ⟨Nat.le_of_ble_eq_true rfl, Nat.le_of_ble_eq_true rfl⟩) (fun z146 hz146 => ?_)
                  refine lv_iadd hx hb dX6_ask_149 ?_
                  refine lv_istore (lv' := [(4, .int (bi + z146)), (3, .int (nI v9)), (0, .ref (ad 0)), (1, .int (nI k)), (2, .int (nI v8)), (5, .int (nI j))]) hx hb dX6_ask_150 hl (by decide) rfl (fun ls hl => ?_)
                  obtain ⟨z152, hz152⟩ : ∃ z : Nat, z = j + 1 := ⟨_, rfl⟩
                  refine lv_iinc (v := nI z152) (lv' := [(5, .int (nI z152)), (4, .int (bi + z146)), (3, .int (nI v9)), (0, .ref (ad 0)), (1, .int (nI k)), (2, .int (nI v8))]) hx hb dX6_ask_152 hl (k := 5) rfl (by rw [hz152]; exact nI_add _ 1) (by decide) rfl (fun ls hl => ?_)
                  refine lv_goto (tgt := 64) hx hb dX6_ask_155 (by decide) ?_
                  exact ih64 v8 v9 z152 (bi + z146) (by omega) (by omega) (ex_stepZ hbx hj1 hv8 hz152) (by omega) (ex_stepZ hgx hj1 hv9 hz152) (by omega) (by omega) (bidsI_s hj1 hbi hz146 hz152) H locs hP hD hS ls (lv_sub hl [3, 4, 5, 2, 1, 0] rfl)
                refine lv_iload_n hx hb dX6_ask_101 rfl (lv_at hl 3 rfl) ?_
                refine ln_if_ne (tgt := 135) hx hb (by omega) dX6_ask_102 (by decide) (fun c102 => ?_) (fun c102 => ?_)
                · skip
                  refine lv_iconst (v := nI 1) hx hb dX6_ask_135 (by decide) ?_
                  refine lv_goto (tgt := 140) hx hb dX6_ask_136 (by decide) ?_
                  exact K140 1 (by omega) (by first | exact ⟨fun _ => Or.inl (by omega), fun _ => rfl⟩ | exact ⟨fun _ => Or.inr (by show aut τ j ≤ τ 2 j + prot τ j (τ 5 k); omega), fun _ => rfl⟩) H locs hP hD hS ls (lv_sub hl [1, 2, 0, 4, 5] rfl)
                · skip
                  refine lv_aload_n hx hb dX6_ask_105 rfl (lv_at hl 1 rfl) ?_
                  refine lv_iload hx hb dX6_ask_106 (lv_at hl 5 rfl) ?_
                  refine ro_calliN (va_runV (As := [.int (nI j)]) (rest := []) ⟨hx, hb, hml, hown, hts⟩ (c_X6_authorisedOf l D cy ad (τ) er u 0 j (by omega) (hI2.se _ (by omega)) hI2.rt.2 H hP) (cwV 1 hts gX6_ask_X6_authorisedOf rfl rfl rfl hdX6_authorisedOf ⟨Nat.le_of_ble_eq_true rfl, Nat.le_of_ble_eq_true rfl⟩) (ro_preV hK (va_recv hK.1 hP (ci := 6) (q0 := 0) rfl rfl)) rfl rfl hl.1 rfl (lv_room (Nat.le_of_ble_eq_true rfl)) dX6_ask_108 ⟨Nat.le_of_ble_eq_true rfl, Nat.le_of_ble_eq_true rfl⟩) (fun z108 hz108 => ?_)
                  refine lv_aload_n hx hb dX6_ask_111 rfl (lv_at hl 1 rfl) ?_
                  refine mg (v := .ref (ad 2)) hx hb hts fX6_ask_6 hown hK hP 1 (by decide) kX6_ask_112 rfl rfl dX6_ask_112 ?_
                  refine lv_iload hx hb dX6_ask_115 (lv_at hl 5 rfl) ?_
                  refine ml2 (v := τ 2 j) hx hb hK hP (by omega) rfl dX6_ask_117 ?_
                  refine lv_isub hx hb dX6_ask_118 ?_
                  refine lv_aload_n hx hb dX6_ask_119 rfl (lv_at hl 1 rfl) ?_
                  refine lv_iload hx hb dX6_ask_120 (lv_at hl 5 rfl) ?_
                  refine lv_aload_n hx hb dX6_ask_122 rfl (lv_at hl 1 rfl) ?_
                  refine mg (v := .ref (ad 5)) hx hb hts fX6_ask_6 hown hK hP 5 (by decide) kX6_ask_123 rfl rfl dX6_ask_123 ?_
                  refine lv_iload_n hx hb dX6_ask_126 rfl (lv_at hl 2 rfl) ?_
                  refine ml5 (v := τ 5 k) hx hb hK hP (by omega) rfl dX6_ask_127 ?_
                  refine ro_calliN (va_runV (As := [.int (nI j), .int (nI (τ 5 k))]) (rest := [.int (nI z108 - nI (τ 2 j))]) ⟨hx, hb, hml, hown, hts⟩ (c_X6_protectedOf l D cy ad (τ) er u 0 hI2 j (τ 5 k) (by omega) (by omega) H hP) (cwV 2 hts gX6_ask_X6_protectedOf rfl rfl rfl hdX6_protectedOf ⟨Nat.le_of_ble_eq_true rfl, Nat.le_of_ble_eq_true rfl⟩) (ro_preV hK (va_recv hK.1 hP (ci := 6) (q0 := 0) rfl rfl)) rfl rfl hl.1 rfl (lv_room (Nat.le_of_ble_eq_true rfl)) dX6_ask_128 ⟨Nat.le_of_ble_eq_true rfl, Nat.le_of_ble_eq_true rfl⟩) (fun z128 hz128 => ?_)
                  have hpr : prot τ j (τ 5 k) ≤ 160 := by have h1 := prS_le (σ := τ) (leg := j) (cost := τ 5 k) (τ 0 0); have h2 := hI2.np; unfold prot; omega
                  refine lv_isub hx hb dX6_ask_131 ?_
                  refine lv_if_gt (tgt := 139) hx hb dX6_ask_132 (by decide) (fun c132 => ?_) (fun c132 => ?_)
                  · skip
                    have c132b := (sub2 (by omega) (by omega) (by omega)).mp c132
                    refine lv_iconst (v := nI 0) hx hb dX6_ask_139 (by decide) ?_
                    exact K140 0 (by omega) (⟨fun z => absurd z (by decide), fun z => z.elim (fun z => absurd z (by omega)) (fun z => absurd (show aut τ j ≤ τ 2 j + prot τ j (τ 5 k) from z) (by omega))⟩) H locs hP hD hS ls (lv_sub hl [1, 2, 0, 4, 5] rfl)
                  · skip
                    have c132b : ¬ (τ 2 j + z128 < z108) := fun q => c132 ((sub2 (by omega) (by omega) (by omega)).mpr q)
                    refine lv_iconst (v := nI 1) hx hb dX6_ask_135 (by decide) ?_
                    refine lv_goto (tgt := 140) hx hb dX6_ask_136 (by decide) ?_
                    exact K140 1 (by omega) (by first | exact ⟨fun _ => Or.inl (by omega), fun _ => rfl⟩ | exact ⟨fun _ => Or.inr (by show aut τ j ≤ τ 2 j + prot τ j (τ 5 k); omega), fun _ => rfl⟩) H locs hP hD hS ls (lv_sub hl [1, 2, 0, 4, 5] rfl)
              refine lv_iload_n hx hb dX6_ask_75 rfl (lv_at hl 2 rfl) ?_
              refine ln_if_ne (tgt := 95) hx hb (by omega) dX6_ask_76 (by decide) (fun c76 => ?_) (fun c76 => ?_)
              · skip
                refine lv_iconst (v := nI 1) hx hb dX6_ask_95 (by decide) ?_
                refine lv_goto (tgt := 100) hx hb dX6_ask_96 (by decide) ?_
                exact K100 1 (by omega) (by first | exact ⟨fun _ => Or.inl (by omega), fun _ => rfl⟩ | exact ⟨fun _ => Or.inr (by show aut τ j ≤ τ 2 j; omega), fun _ => rfl⟩) H locs hP hD hS ls (lv_sub hl [0, 1, 3, 4, 5] rfl)
              · skip
                refine lv_aload_n hx hb dX6_ask_79 rfl (lv_at hl 0 rfl) ?_
                refine mg (v := .ref (ad 2)) hx hb hts fX6_ask_6 hown hK hP 1 (by decide) kX6_ask_80 rfl rfl dX6_ask_80 ?_
                refine lv_iload hx hb dX6_ask_83 (lv_at hl 5 rfl) ?_
                refine ml2 (v := τ 2 j) hx hb hK hP (by omega) rfl dX6_ask_85 ?_
                refine lv_aload_n hx hb dX6_ask_86 rfl (lv_at hl 0 rfl) ?_
                refine lv_iload hx hb dX6_ask_87 (lv_at hl 5 rfl) ?_
                refine ro_calliN (va_runV (As := [.int (nI j)]) (rest := [.int (nI (τ 2 j))]) ⟨hx, hb, hml, hown, hts⟩ (c_X6_authorisedOf l D cy ad (τ) er u 0 j (by omega) (hI2.se _ (by omega)) hI2.rt.2 H hP) (cwV 1 hts gX6_ask_X6_authorisedOf rfl rfl rfl hdX6_authorisedOf ⟨Nat.le_of_ble_eq_true rfl, Nat.le_of_ble_eq_true rfl⟩) (ro_preV hK (va_recv hK.1 hP (ci := 6) (q0 := 0) rfl rfl)) rfl rfl hl.1 rfl (lv_room (Nat.le_of_ble_eq_true rfl)) dX6_ask_89 ⟨Nat.le_of_ble_eq_true rfl, Nat.le_of_ble_eq_true rfl⟩) (fun z89 hz89 => ?_)
                refine ln_icmp_lt (tgt := 99) hx hb (by omega) (by omega) dX6_ask_92 (by decide) (fun c92 => ?_) (fun c92 => ?_)
                · skip
                  refine lv_iconst (v := nI 0) hx hb dX6_ask_99 (by decide) ?_
                  exact K100 0 (by omega) (⟨fun z => absurd z (by decide), fun z => z.elim (fun z => absurd z (by omega)) (fun z => absurd (show aut τ j ≤ τ 2 j from z) (by omega))⟩) H locs hP hD hS ls (lv_sub hl [0, 1, 3, 4, 5] rfl)
                · skip
                  refine lv_iconst (v := nI 1) hx hb dX6_ask_95 (by decide) ?_
                  refine lv_goto (tgt := 100) hx hb dX6_ask_96 (by decide) ?_
                  exact K100 1 (by omega) (by first | exact ⟨fun _ => Or.inl (by omega), fun _ => rfl⟩ | exact ⟨fun _ => Or.inr (by show aut τ j ≤ τ 2 j; omega), fun _ => rfl⟩) H locs hP hD hS ls (lv_sub hl [0, 1, 3, 4, 5] rfl)
        refine lv_istore (lv' := [(5, .int (nI (τ 3 k))), (4, .int (nI 0)), (3, .int (nI 0)), (2, .int (nI 0)), (0, .ref (ad 0)), (1, .int (nI k))]) hx hb dX6_ask_62 hl (by decide) rfl (fun ls hl => ?_)
        exact K64 _ 0 0 (τ 3 k) (nI 0) (Nat.lt_succ_self _) (by omega) ex_0 (by omega) ex_0 (by omega) (by omega) (by rw [Nat.sub_self]; rfl) H locs hP hD hS ls (lv_sub hl [4, 5, 3, 2, 1, 0] rfl)
    · skip
      refine lv_iconst (v := nI 2) hx hb dX6_ask_22 (by decide) ?_
      refine lv_goto (tgt := 27) hx hb dX6_ask_23 (by decide) ?_
      refine mw_calli (va_runV (As := [.int (nI 2)]) (rest := []) ⟨hx, hb, hml, hown, hts⟩ (c_X6_fails l D cy ad σ er wo th 2 (by omega) H.size) (cwV 1 hts gX6_ask_X6_fails rfl rfl rfl hdX6_fails ⟨Nat.le_of_ble_eq_true rfl, Nat.le_of_ble_eq_true rfl⟩) (mo_preV hK rfl hP hD (va_recv hK.1 hP (ci := 6) (q0 := 0) rfl rfl)) rfl rfl hl.1 rfl (lv_room (Nat.le_of_ble_eq_true rfl)) dX6_ask_27 ⟨Nat.le_of_ble_eq_true rfl, Nat.le_of_ble_eq_true rfl⟩) hS hD hA (fun r _ H locs hr hP hD hS => ?_)
      rcases hr with ⟨b27, rfl⟩ | ⟨b27, rfl⟩
      · skip
        refine lv_if_eq (tgt := 35) hx hb dX6_ask_30 (by decide) (fun q => by first | exact absurd q (by decide) | exact absurd (by decide) q) (fun _ => ?_)
        refine lv_iconst (v := nI 0) hx hb dX6_ask_33 (by decide) ?_
        exact hret (2, σ, wo) dX6_ask_34 hP hD hS (Or.inr (Or.inl ⟨b3, by omega, rfl, rfl⟩))
      · skip
        exact absurd (by decide) b27
  · skip
    refine lv_if_ne (tgt := 13) hx hb dX6_ask_6 (by decide) (fun q => by first | exact absurd q (by decide) | exact absurd (by decide) q) (fun _ => ?_)
    refine lv_iconst (v := nI 1) hx hb dX6_ask_9 (by decide) ?_
    refine lv_goto (tgt := 27) hx hb dX6_ask_10 (by decide) ?_
    refine mw_calli (va_runV (As := [.int (nI 1)]) (rest := []) ⟨hx, hb, hml, hown, hts⟩ (c_X6_fails l D cy ad σ er wo th 1 (by omega) H.size) (cwV 1 hts gX6_ask_X6_fails rfl rfl rfl hdX6_fails ⟨Nat.le_of_ble_eq_true rfl, Nat.le_of_ble_eq_true rfl⟩) (mo_preV hK rfl hP hD (va_recv hK.1 hP (ci := 6) (q0 := 0) rfl rfl)) rfl rfl hl.1 rfl (lv_room (Nat.le_of_ble_eq_true rfl)) dX6_ask_27 ⟨Nat.le_of_ble_eq_true rfl, Nat.le_of_ble_eq_true rfl⟩) hS hD hA (fun r _ H locs hr hP hD hS => ?_)
    rcases hr with ⟨b27, rfl⟩ | ⟨b27, rfl⟩
    · skip
      refine lv_if_eq (tgt := 35) hx hb dX6_ask_30 (by decide) (fun q => by first | exact absurd q (by decide) | exact absurd (by decide) q) (fun _ => ?_)
      refine lv_iconst (v := nI 0) hx hb dX6_ask_33 (by decide) ?_
      exact hret (1, σ, wo) dX6_ask_34 hP hD hS (Or.inl ⟨b3, rfl, rfl⟩)
    · skip
      exact absurd (by decide) b27
