/-- the products by their fares, the dearest first -/
def DL (ad : Nat → Nat → Nat) (σ : SF) (de : Nat → Option Nat) (dl : List Nat) : Prop := (∀ i, de i = (dl[i]?).map (ad 1)) ∧ dl.Perm (List.range (σ 0 0)) ∧ dl.Pairwise (fun i j => σ 5 j ≤ σ 5 i)
def QZ (qs : Nat → Nat → Nat) : Prop := ∀ t, t < 6 → qs t 0 = 0
theorem DL.len {ad : Nat → Nat → Nat} {σ : SF} {de : Nat → Option Nat} {dl : List Nat} (h : DL ad σ de dl) : dl.length = σ 0 0 := by rw [h.2.1.length_eq, List.length_range]
theorem DL.lt {ad : Nat → Nat → Nat} {σ : SF} {de : Nat → Option Nat} {dl : List Nat} (h : DL ad σ de dl) {i k : Nat} (hk : dl[i]? = some k) : k < σ 0 0 := List.mem_range.mp (h.2.1.mem_iff.mp (List.mem_of_getElem? hk))
theorem DL.at {ad : Nat → Nat → Nat} {σ : SF} {de : Nat → Option Nat} {dl : List Nat} (h : DL ad σ de dl) {i k : Nat} (hk : dl[i]? = some k) : de i = some (ad 1 k) := by rw [h.1, hk]; rfl
theorem DL.no {ad : Nat → Nat → Nat} {σ : SF} {de : Nat → Option Nat} {dl : List Nat} (h : DL ad σ de dl) {i : Nat} (hk : dl.length ≤ i) : de i = none := by rw [h.1, List.getElem?_eq_none hk]; rfl
theorem Ft_take {σ : SF} {t i k : Nat} {dl : List Nat} (hk : dl[i]? = some k) : Ft σ t (dl.take (i + 1)) = Ft σ t (dl.take i) ++ (if tyO (σ 3 k) (σ 4 k) = t then List.replicate (cme σ k) (σ 5 k) else []) := by
  rw [List.take_succ, hk]
  exact Ft_snoc σ t k _
theorem QS_QB {σ : SF} {dl : List Nat} {ql : Nat → Nat} {qs : Nat → Nat → Nat} (h : ∀ t, t < 6 → QS (Ft σ t dl) (ql t) (qs t)) (h5 : ∀ k ∈ dl, σ 5 k ≤ 1000) : QB ql qs := by
  refine ⟨fun t ht => by have := (h t ht).1; omega, fun t n ht hn => ?_⟩
  rw [(h t ht).2 n hn]
  have h1 := sF_le (Ft_le (σ := σ) (t := t) h5) n
  have h2 := (h t ht).1
  omega
theorem QS_QZ {F : Nat → List Nat} {ql : Nat → Nat} {qs : Nat → Nat → Nat} (h : ∀ t, t < 6 → QS (F t) (ql t) (qs t)) : QZ qs := fun t ht => by rw [(h t ht).2 0 (Nat.zero_le _), sF_0]
theorem wv_QS {n : Nat} {σ : SF} {ad : Nat → Nat → Nat} {de : Nat → Option Nat} {dl : List Nat} {ql : Nat → Nat} {qs : Nat → Nat → Nat} (hI : Iv n σ) (hDL : DL ad σ de dl) (h : ∀ t, t < 6 → QS (Ft σ t dl) (ql t) (qs t)) {a b c : Nat} (ha : a ≤ 11) (hb : b ≤ 11) (hc : c ≤ 11) : mFo (qF ql qs) ql a b c = wv σ a b c :=
  (wv_mFo hDL.2.1 (fun k hk => ⟨(hI.pr k hk).1, (hI.pr k hk).2.1⟩) hDL.2.2 (fun t n ht hn => (h t ht).most hn) (fun t ht => (h t ht).1) ha hb hc).symm
theorem wm_0 {a : Nat} {P : Prop} [Decidable P] : nI a + (if P then nI 0 else 0) = nI a := by split; rw [nI_add]; rfl; rw [← nI_0, nI_add]; rfl
theorem wm_1 {a k j : Nat} : nI a + (if k ≤ j ∧ j ≤ k then nI 1 else 0) = nI (a + if k = j then 1 else 0) := by
  by_cases h : k = j
  · rw [if_pos (by omega), if_pos h, nI_add]
  · rw [if_neg (by omega), if_neg h, ← nI_0, nI_add]
theorem wm_n {a f t j q : Nat} (h : f ≤ j → j ≤ t → q ≤ a) : nI a + (if f ≤ j ∧ j ≤ t then -nI q else 0) = nI (a - if f ≤ j ∧ j ≤ t then q else 0) := by
  by_cases e : f ≤ j ∧ j ≤ t
  · rw [if_pos e, if_pos e, nI_an (h e.1 e.2)]
  · rw [if_neg e, if_neg e, ← nI_0, nI_add]; rfl
theorem psum_s0 {σ : SF} {k s y : Nat} (hs : s = psum σ k) (h : ¬ σ 14 k = 0) (hy : y = k + 1) : s = psum σ y := by subst hy; rw [hs, ← psum_1 h]; rfl
theorem psum_s1 {σ : SF} {k s z x y : Nat} (hs : s = psum σ k) (h : σ 14 k = 0) (hz : z = s + x) (hx : x = σ 13 k) (hy : y = k + 1) : z = psum σ y := by subst hy; rw [hz, hs, hx, psum_0 h]
set_option maxHeartbeats 4000000 in
set_option maxRecDepth 100000 in
theorem c_X5_faresOfToday (l : Launch) (D : va_G) (cy : Nat → ClassId) (ad : Nat → Nat → Nat) (σ : SF) (er : Int64) (ofd de bo : Nat → Option Nat) (ql : Nat → Nat) (qs : Nat → Nat → Nat) (tv : Nat → Nat) (hbo : BO ad σ bo) (hnb : σ 0 3 ≤ 60) (hbp : ∀ b, b < σ 0 3 → σ 14 b ≤ 1) : cRO l D cy yX5_faresOfToday wsX5_faresOfToday rmX5_faresOfToday [.ref (ad 0 0)] (WG ad cy (σ 0 0) (σ 0 3) σ er ofd de bo ql qs tv) (pN (psum σ (σ 0 3))) := by
  refine cRO.of (cc := cX5_faresOfToday) (maxL := 4) (by decide) rfl (Nat.le_of_ble_eq_true rfl) (Or.inl rfl) ?_
  intro p e s m args below meth c H Q hx hb hml hown hts hP hK hret ls hl
  have K4 : ∀ (n4 : Nat) (sm : Nat) (k : Nat), σ 0 3 - k < n4 → (sm = psum σ k) → (k ≤ σ 0 3) → ∀ ls : Array Slot, lv_has ls 4 [(0, .ref (ad 0 0)), (1, .int (nI sm)), (2, .int (nI k))] → W p l e rmX5_faresOfToday s m args below meth c H [] 0 0 Q (F0 m 4 ls []) := by
    intro n4
    induction n4 with
    | zero =>
      intro sm k hfu
      exact absurd hfu (Nat.not_lt_zero _)
    | succ n4 ih4 =>
      intro sm k hfu hsm hk ls hl
      refine lv_iload_n hx hb dX5_faresOfToday_4 rfl (lv_at hl 2 rfl) ?_
      refine lv_aload_n hx hb dX5_faresOfToday_5 rfl (lv_at hl 0 rfl) ?_
      refine gf5 (v := .int (nI (σ 0 3))) hx hb hts fX5_faresOfToday_5 hown hK.1 hP 0 7 rfl (by decide) kX5_faresOfToday_6 rfl rfl dX5_faresOfToday_6 ?_
      refine ln_icmp_ge (tgt := 42) hx hb (by omega) (by omega) dX5_faresOfToday_9 (by decide) (fun c9 => ?_) (fun c9 => ?_)
      · skip
        refine lv_iload_n hx hb dX5_faresOfToday_42 rfl (lv_at hl 1 rfl) ?_
        exact hret dX5_faresOfToday_43 (pnE (by rw [hsm]; congr 1; omega))
      · skip
        refine lv_aload_n hx hb dX5_faresOfToday_12 rfl (lv_at hl 0 rfl) ?_
        refine lv_iload_n hx hb dX5_faresOfToday_13 rfl (lv_at hl 2 rfl) ?_
        refine ro_callqP (va_runV (As := [.int (nI k)]) (rest := []) ⟨hx, hb, hml, hown, hts⟩ (c_X5_bookingAt l D cy ad σ er ofd de bo ql qs tv hbo hnb ((nI k)) H hP) (cwV 1 hts gX5_faresOfToday_X5_bookingAt rfl rfl rfl hdX5_bookingAt ⟨Nat.le_of_ble_eq_true rfl, Nat.le_of_ble_eq_true rfl⟩) (ro_preV hK (va_recv hK.1 hP (ci := 5) (q0 := 0) rfl rfl)) rfl rfl hl.1 rfl (lv_room (Nat.le_of_ble_eq_true rfl)) dX5_faresOfToday_14 ⟨Nat.le_of_ble_eq_true rfl, Nat.le_of_ble_eq_true rfl⟩) (fun a14 r14 => ?_) (fun r14 => ?_)
        · skip
          obtain ⟨b9, hb9, hv9, hr9⟩ := r14
          have e9 : b9 = k := ((nI_eq (by omega) (by omega)).mp hv9).symm
          rw [e9] at hr9 hb9
          subst hr9
          have hbp9 := hbp k hb9
          refine lv_astore_n (lv' := [(3, .ref (ad 3 k)), (0, .ref (ad 0 0)), (1, .int (nI sm)), (2, .int (nI k))]) hx hb dX5_faresOfToday_17 rfl hl (by decide) rfl (fun ls hl => ?_)
          refine lv_aload_n hx hb dX5_faresOfToday_18 rfl (lv_at hl 0 rfl) ?_
          refine lv_ifnull hx hb dX5_faresOfToday_19 ?_
          refine lv_aload_n hx hb dX5_faresOfToday_22 rfl (lv_at hl 0 rfl) ?_
          refine gn0 (v := .int (nI (σ 14 k))) hx hb hts fX5_faresOfToday_0 hown hK.1 hP ((σ 0 0) + ((σ 0 0) + k) + 20) 4 (WG_bk hb9) (by decide) (hK.2 _ nwf_X5_171 rfl) rfl rfl dX5_faresOfToday_23 ?_
          refine ln_if_ne (tgt := 36) hx hb (by omega) dX5_faresOfToday_26 (by decide) (fun c26 => ?_) (fun c26 => ?_)
          · skip
            obtain ⟨z36, hz36⟩ : ∃ z : Nat, z = k + 1 := ⟨_, rfl⟩
            refine lv_iinc (v := nI z36) (lv' := [(2, .int (nI z36)), (3, .ref (ad 3 k)), (0, .ref (ad 0 0)), (1, .int (nI sm))]) hx hb dX5_faresOfToday_36 hl (k := 3) rfl (by rw [hz36]; exact nI_add _ 1) (by decide) rfl (fun ls hl => ?_)
            refine lv_goto (tgt := 4) hx hb dX5_faresOfToday_39 (by decide) ?_
            exact ih4 sm z36 (by omega) (psum_s0 hsm c26 hz36) (by omega) ls (lv_sub hl [2, 3, 0] rfl)
          · skip
            refine lv_iload_n hx hb dX5_faresOfToday_29 rfl (lv_at hl 2 rfl) ?_
            refine lv_aload_n hx hb dX5_faresOfToday_30 rfl (lv_at hl 0 rfl) ?_
            refine gn0 (v := .int (nI (σ 13 k))) hx hb hts fX5_faresOfToday_0 hown hK.1 hP ((σ 0 0) + ((σ 0 0) + k) + 20) 3 (WG_bk hb9) (by decide) (hK.2 _ nwf_X5_245 rfl) rfl rfl dX5_faresOfToday_31 ?_
            refine ln_iadd hx hb dX5_faresOfToday_34 (fun z34 hz34 => ?_)
            refine lv_istore_n (lv' := [(1, .int (nI z34)), (3, .ref (ad 3 k)), (0, .ref (ad 0 0)), (2, .int (nI k))]) hx hb dX5_faresOfToday_35 rfl hl (by decide) rfl (fun ls hl => ?_)
            obtain ⟨z36, hz36⟩ : ∃ z : Nat, z = k + 1 := ⟨_, rfl⟩
            refine lv_iinc (v := nI z36) (lv' := [(2, .int (nI z36)), (1, .int (nI z34)), (3, .ref (ad 3 k)), (0, .ref (ad 0 0))]) hx hb dX5_faresOfToday_36 hl (k := 3) rfl (by rw [hz36]; exact nI_add _ 1) (by decide) rfl (fun ls hl => ?_)
            refine lv_goto (tgt := 4) hx hb dX5_faresOfToday_39 (by decide) ?_
            exact ih4 z34 z36 (by omega) (psum_s1 hsm c26 hz34 rfl hz36) (by omega) ls (lv_sub hl [3, 1, 0] rfl)
        · skip
          exact absurd ((isB_nI (by omega) hnb).mpr (by omega)) r14
  refine lv_iconst (v := nI 0) hx hb dX5_faresOfToday_0 (by decide) ?_
  refine lv_istore_n (lv' := [(1, .int (nI 0)), (0, .ref (ad 0 0))]) hx hb dX5_faresOfToday_1 rfl hl (by decide) rfl (fun ls hl => ?_)
  refine lv_iconst (v := nI 0) hx hb dX5_faresOfToday_2 (by decide) ?_
  refine lv_istore_n (lv' := [(2, .int (nI 0)), (1, .int (nI 0)), (0, .ref (ad 0 0))]) hx hb dX5_faresOfToday_3 rfl hl (by decide) rfl (fun ls hl => ?_)
  exact K4 _ 0 0 (Nat.lt_succ_self _) rfl (by omega) ls (lv_sub hl [2, 1, 0] rfl)
set_option maxHeartbeats 4000000 in
set_option maxRecDepth 100000 in
theorem c_X5_isFull (l : Launch) (D : va_G) (cy : Nat → ClassId) (ad : Nat → Nat → Nat) (σ : SF) (er : Int64) (ofd de bo : Nat → Option Nat) (ql : Nat → Nat) (qs : Nat → Nat → Nat) (tv : Nat → Nat) (hbo : BO ad σ bo) {n : Nat} (hI : Iv n σ) (k : Nat) (hk : k < σ 0 0) : cRO l D cy yX5_isFull wsX5_isFull rmX5_isFull [.ref (ad 0 0), .ref (ad 1 k)] (WG ad cy (σ 0 0) (σ 0 3) σ er ofd de bo ql qs tv) (pB (fullA σ (σ 3 k) (σ 4 k))) := by
  refine cRO.of (cc := cX5_isFull) (maxL := 3) (by decide) rfl (Nat.le_of_ble_eq_true rfl) (Or.inr ⟨rfl, pB.z⟩) ?_
  intro p e s m args below meth c H Q hx hb hml hown hts hP hK hret ls hl
  have hpk := hI.pr k hk
  have K5 : ∀ (n5 : Nat) (j : Nat), σ 4 k + 1 - j < n5 → (σ 3 k ≤ j) → (j ≤ σ 4 k + 1) → (∀ i, σ 3 k ≤ i → i < j → ¬ aut σ i ≤ σ 2 i) → ∀ ls : Array Slot, lv_has ls 3 [(0, .ref (ad 0 0)), (1, .ref (ad 1 k)), (2, .int (nI j))] → W p l e rmX5_isFull s m args below meth c H [] 0 0 Q (F0 m 5 ls []) := by
    intro n5
    induction n5 with
    | zero =>
      intro j hfu
      exact absurd hfu (Nat.not_lt_zero _)
    | succ n5 ih5 =>
      intro j hfu hj1 hj2 ha ls hl
      refine lv_iload_n hx hb dX5_isFull_5 rfl (lv_at hl 2 rfl) ?_
      refine lv_aload_n hx hb dX5_isFull_6 rfl (lv_at hl 1 rfl) ?_
      refine gn2 (v := .int (nI (σ 4 k))) hx hb hts fX5_isFull_2 hown hK.1 hP (k + 20) 1 (WG_pd hk) (by decide) (hK.2 _ nwf_X5_144 rfl) rfl rfl dX5_isFull_7 ?_
      refine ln_icmp_gt (tgt := 34) hx hb (by omega) (by omega) dX5_isFull_10 (by decide) (fun c10 => ?_) (fun c10 => ?_)
      · skip
        refine lv_iconst (v := nI 0) hx hb dX5_isFull_34 (by decide) ?_
        exact hret dX5_isFull_35 (pB.f (fun ⟨i, h1, h2, h3⟩ => ha i h1 (by omega) h3))
      · skip
        have hau : aut σ j ≤ 20 := by have h1 := hI.se j (by omega); have h2 := hI.rt; have h3 := Nat.mul_le_mul h1 (show 100 - σ 0 2 ≤ 100 by omega); unfold aut; omega
        have hbj := hI.bkle j (by omega)
        refine lv_aload_n hx hb dX5_isFull_13 rfl (lv_at hl 0 rfl) ?_
        refine lv_iload_n hx hb dX5_isFull_14 rfl (lv_at hl 2 rfl) ?_
        refine ro_calliN (va_runV (As := [.int (nI j)]) (rest := []) ⟨hx, hb, hml, hown, hts⟩ (c_X5_bookedOn l D cy ad σ er ofd de bo ql qs tv hbo hI j (by omega) H hP) (cwV 1 hts gX5_isFull_X5_bookedOn rfl rfl rfl hdX5_bookedOn ⟨Nat.le_of_ble_eq_true rfl, Nat.le_of_ble_eq_true rfl⟩) (ro_preV hK (va_recv hK.1 hP (ci := 5) (q0 := 0) rfl rfl)) rfl rfl hl.1 rfl (lv_room (Nat.le_of_ble_eq_true rfl)) dX5_isFull_15 ⟨Nat.le_of_ble_eq_true rfl, Nat.le_of_ble_eq_true rfl⟩) (fun z15 hz15 => ?_)
        refine lv_aload_n hx hb dX5_isFull_18 rfl (lv_at hl 0 rfl) ?_
        refine lv_iload_n hx hb dX5_isFull_19 rfl (lv_at hl 2 rfl) ?_
        refine ro_calliN (va_runV (As := [.int (nI j)]) (rest := [.int (nI z15)]) ⟨hx, hb, hml, hown, hts⟩ (c_X5_authorisedOn l D cy ad σ er ofd de bo ql qs tv hI j (by omega) H hP) (cwV 1 hts gX5_isFull_X5_authorisedOn rfl rfl rfl hdX5_authorisedOn ⟨Nat.le_of_ble_eq_true rfl, Nat.le_of_ble_eq_true rfl⟩) (ro_preV hK (va_recv hK.1 hP (ci := 5) (q0 := 0) rfl rfl)) rfl rfl hl.1 rfl (lv_room (Nat.le_of_ble_eq_true rfl)) dX5_isFull_20 ⟨Nat.le_of_ble_eq_true rfl, Nat.le_of_ble_eq_true rfl⟩) (fun z20 hz20 => ?_)
        refine ln_icmp_lt (tgt := 28) hx hb (by omega) (by omega) dX5_isFull_23 (by decide) (fun c23 => ?_) (fun c23 => ?_)
        · skip
          obtain ⟨z28, hz28⟩ : ∃ z : Nat, z = j + 1 := ⟨_, rfl⟩
          refine lv_iinc (v := nI z28) (lv' := [(2, .int (nI z28)), (0, .ref (ad 0 0)), (1, .ref (ad 1 k))]) hx hb dX5_isFull_28 hl (k := 2) rfl (by rw [hz28]; exact nI_add _ 1) (by decide) rfl (fun ls hl => ?_)
          refine lv_goto (tgt := 5) hx hb dX5_isFull_31 (by decide) ?_
          exact ih5 z28 (by omega) (by omega) (by omega) (fun i h1 h2 => by by_cases e : i = j; rw [e]; omega; exact ha i h1 (by omega)) ls (lv_sub hl [1, 2, 0] rfl)
        · skip
          refine lv_iconst (v := nI 1) hx hb dX5_isFull_26 (by decide) ?_
          exact hret dX5_isFull_27 (pB.t ⟨j, hj1, by omega, by omega⟩)
  refine lv_aload_n hx hb dX5_isFull_0 rfl (lv_at hl 1 rfl) ?_
  refine gn2 (v := .int (nI (σ 3 k))) hx hb hts fX5_isFull_2 hown hK.1 hP (k + 20) 0 (WG_pd hk) (by decide) (hK.2 _ nwf_X5_141 rfl) rfl rfl dX5_isFull_1 ?_
  refine lv_istore_n (lv' := [(2, .int (nI (σ 3 k))), (0, .ref (ad 0 0)), (1, .ref (ad 1 k))]) hx hb dX5_isFull_4 rfl hl (by decide) rfl (fun ls hl => ?_)
  exact K5 _ (σ 3 k) (Nat.lt_succ_self _) (by omega) (by omega) (fun i h1 h2 => by omega) ls (lv_sub hl [1, 2, 0] rfl)
set_option maxHeartbeats 4000000 in
set_option maxRecDepth 100000 in
theorem c_X5_isProtected (l : Launch) (D : va_G) (cy : Nat → ClassId) (ad : Nat → Nat → Nat) (σ : SF) (er : Int64) (ofd de bo : Nat → Option Nat) (ql : Nat → Nat) (qs : Nat → Nat → Nat) (tv : Nat → Nat) (hof : OF ad σ ofd) (hbo : BO ad σ bo) {n : Nat} (hI : Iv n σ) (k : Nat) (hk : k < σ 0 0) : cRO l D cy yX5_isProtected wsX5_isProtected rmX5_isProtected [.ref (ad 0 0), .ref (ad 1 k)] (WG ad cy (σ 0 0) (σ 0 3) σ er ofd de bo ql qs tv) (pB (protA σ (σ 3 k) (σ 4 k) (σ 5 k))) := by
  refine cRO.of (cc := cX5_isProtected) (maxL := 3) (by decide) rfl (Nat.le_of_ble_eq_true rfl) (Or.inr ⟨rfl, pB.z⟩) ?_
  intro p e s m args below meth c H Q hx hb hml hown hts hP hK hret ls hl
  have hpk := hI.pr k hk
  have K5 : ∀ (n5 : Nat) (j : Nat), σ 4 k + 1 - j < n5 → (σ 3 k ≤ j) → (j ≤ σ 4 k + 1) → (∀ i, σ 3 k ≤ i → i < j → ¬ aut σ i ≤ σ 2 i + prot σ i (σ 5 k)) → ∀ ls : Array Slot, lv_has ls 3 [(0, .ref (ad 0 0)), (1, .ref (ad 1 k)), (2, .int (nI j))] → W p l e rmX5_isProtected s m args below meth c H [] 0 0 Q (F0 m 5 ls []) := by
    intro n5
    induction n5 with
    | zero =>
      intro j hfu
      exact absurd hfu (Nat.not_lt_zero _)
    | succ n5 ih5 =>
      intro j hfu hj1 hj2 ha ls hl
      refine lv_iload_n hx hb dX5_isProtected_5 rfl (lv_at hl 2 rfl) ?_
      refine lv_aload_n hx hb dX5_isProtected_6 rfl (lv_at hl 1 rfl) ?_
      refine gn2 (v := .int (nI (σ 4 k))) hx hb hts fX5_isProtected_2 hown hK.1 hP (k + 20) 1 (WG_pd hk) (by decide) (hK.2 _ nwf_X5_144 rfl) rfl rfl dX5_isProtected_7 ?_
      refine ln_icmp_gt (tgt := 45) hx hb (by omega) (by omega) dX5_isProtected_10 (by decide) (fun c10 => ?_) (fun c10 => ?_)
      · skip
        refine lv_iconst (v := nI 0) hx hb dX5_isProtected_45 (by decide) ?_
        exact hret dX5_isProtected_46 (pB.f (fun ⟨i, h1, h2, h3⟩ => ha i h1 (by omega) h3))
      · skip
        have hau : aut σ j ≤ 20 := by have h1 := hI.se j (by omega); have h2 := hI.rt; have h3 := Nat.mul_le_mul h1 (show 100 - σ 0 2 ≤ 100 by omega); unfold aut; omega
        have hbj := hI.bkle j (by omega)
        refine lv_aload_n hx hb dX5_isProtected_13 rfl (lv_at hl 0 rfl) ?_
        refine lv_iload_n hx hb dX5_isProtected_14 rfl (lv_at hl 2 rfl) ?_
        refine ro_calliN (va_runV (As := [.int (nI j)]) (rest := []) ⟨hx, hb, hml, hown, hts⟩ (c_X5_authorisedOn l D cy ad σ er ofd de bo ql qs tv hI j (by omega) H hP) (cwV 1 hts gX5_isProtected_X5_authorisedOn rfl rfl rfl hdX5_authorisedOn ⟨Nat.le_of_ble_eq_true rfl, Nat.le_of_ble_eq_true rfl⟩) (ro_preV hK (va_recv hK.1 hP (ci := 5) (q0 := 0) rfl rfl)) rfl rfl hl.1 rfl (lv_room (Nat.le_of_ble_eq_true rfl)) dX5_isProtected_15 ⟨Nat.le_of_ble_eq_true rfl, Nat.le_of_ble_eq_true rfl⟩) (fun z15 hz15 => ?_)
        refine lv_aload_n hx hb dX5_isProtected_18 rfl (lv_at hl 0 rfl) ?_
        refine lv_iload_n hx hb dX5_isProtected_19 rfl (lv_at hl 2 rfl) ?_
        refine ro_calliN (va_runV (As := [.int (nI j)]) (rest := [.int (nI z15)]) ⟨hx, hb, hml, hown, hts⟩ (c_X5_bookedOn l D cy ad σ er ofd de bo ql qs tv hbo hI j (by omega) H hP) (cwV 1 hts gX5_isProtected_X5_bookedOn rfl rfl rfl hdX5_bookedOn ⟨Nat.le_of_ble_eq_true rfl, Nat.le_of_ble_eq_true rfl⟩) (ro_preV hK (va_recv hK.1 hP (ci := 5) (q0 := 0) rfl rfl)) rfl rfl hl.1 rfl (lv_room (Nat.le_of_ble_eq_true rfl)) dX5_isProtected_20 ⟨Nat.le_of_ble_eq_true rfl, Nat.le_of_ble_eq_true rfl⟩) (fun z20 hz20 => ?_)
        refine lv_isub hx hb dX5_isProtected_23 ?_
        refine lv_aload_n hx hb dX5_isProtected_24 rfl (lv_at hl 0 rfl) ?_
        refine lv_iload_n hx hb dX5_isProtected_25 rfl (lv_at hl 2 rfl) ?_
        refine lv_aload_n hx hb dX5_isProtected_26 rfl (lv_at hl 1 rfl) ?_
        refine gn2 (v := .int (nI (σ 5 k))) hx hb hts fX5_isProtected_2 hown hK.1 hP (k + 20) 2 (WG_pd hk) (by decide) (hK.2 _ nwf_X5_138 rfl) rfl rfl dX5_isProtected_27 ?_
        refine ro_calliN (va_runV (As := [.int (nI j), .int (nI (σ 5 k))]) (rest := [.int (nI z15 - nI z20)]) ⟨hx, hb, hml, hown, hts⟩ (c_X5_protectedOn l D cy ad σ er ofd de bo ql qs tv hof hI j (σ 5 k) (by omega) (by omega) H hP) (cwV 2 hts gX5_isProtected_X5_protectedOn rfl rfl rfl hdX5_protectedOn ⟨Nat.le_of_ble_eq_true rfl, Nat.le_of_ble_eq_true rfl⟩) (ro_preV hK (va_recv hK.1 hP (ci := 5) (q0 := 0) rfl rfl)) rfl rfl hl.1 rfl (lv_room (Nat.le_of_ble_eq_true rfl)) dX5_isProtected_30 ⟨Nat.le_of_ble_eq_true rfl, Nat.le_of_ble_eq_true rfl⟩) (fun z30 hz30 => ?_)
        have hpr : prot σ j (σ 5 k) ≤ 160 := by have h1 := prS_le (σ := σ) (leg := j) (cost := σ 5 k) (σ 0 0); have h2 := hI.np; unfold prot; omega
        refine lv_isub hx hb dX5_isProtected_33 ?_
        refine lv_if_gt (tgt := 39) hx hb dX5_isProtected_34 (by decide) (fun c34 => ?_) (fun c34 => ?_)
        · skip
          have c34b := (sub2 (by omega) (by omega) (by omega)).mp c34
          obtain ⟨z39, hz39⟩ : ∃ z : Nat, z = j + 1 := ⟨_, rfl⟩
          refine lv_iinc (v := nI z39) (lv' := [(2, .int (nI z39)), (0, .ref (ad 0 0)), (1, .ref (ad 1 k))]) hx hb dX5_isProtected_39 hl (k := 2) rfl (by rw [hz39]; exact nI_add _ 1) (by decide) rfl (fun ls hl => ?_)
          refine lv_goto (tgt := 5) hx hb dX5_isProtected_42 (by decide) ?_
          exact ih5 z39 (by omega) (by omega) (by omega) (fun i h1 h2 => by by_cases e : i = j; rw [e]; omega; exact ha i h1 (by omega)) ls (lv_sub hl [1, 2, 0] rfl)
        · skip
          have c34b : ¬ (z20 + z30 < z15) := fun q => c34 ((sub2 (by omega) (by omega) (by omega)).mpr q)
          refine lv_iconst (v := nI 1) hx hb dX5_isProtected_37 (by decide) ?_
          exact hret dX5_isProtected_38 (pB.t ⟨j, hj1, by omega, by omega⟩)
  refine lv_aload_n hx hb dX5_isProtected_0 rfl (lv_at hl 1 rfl) ?_
  refine gn2 (v := .int (nI (σ 3 k))) hx hb hts fX5_isProtected_2 hown hK.1 hP (k + 20) 0 (WG_pd hk) (by decide) (hK.2 _ nwf_X5_141 rfl) rfl rfl dX5_isProtected_1 ?_
  refine lv_istore_n (lv' := [(2, .int (nI (σ 3 k))), (0, .ref (ad 0 0)), (1, .ref (ad 1 k))]) hx hb dX5_isProtected_4 rfl hl (by decide) rfl (fun ls hl => ?_)
  exact K5 _ (σ 3 k) (Nat.lt_succ_self _) (by omega) (by omega) (fun i h1 h2 => by omega) ls (lv_sub hl [1, 2, 0] rfl)
set_option maxHeartbeats 4000000 in
set_option maxRecDepth 100000 in
theorem c_X5_worthWithMore (l : Launch) (D : va_G) (cy : Nat → ClassId) (ad : Nat → Nat → Nat) (σ : SF) (er : Int64) (ofd de bo : Nat → Option Nat) (ql : Nat → Nat) (qs : Nat → Nat → Nat) (tv : Nat → Nat) (hbo : BO ad σ bo) {n : Nat} (hI : Iv n σ) {dl : List Nat} (hDL : DL ad σ de dl) (hQZ : QZ qs) (f t : Nat) (hf : f < 100) (ht : t < 100) (x : Int32) (n0 n1 n2 : Nat) (hx0 : nI (lft σ 0) + (if f ≤ 0 ∧ 0 ≤ t then x else 0) = nI n0) (hx1 : nI (lft σ 1) + (if f ≤ 1 ∧ 1 ≤ t then x else 0) = nI n1) (hx2 : nI (lft σ 2) + (if f ≤ 2 ∧ 2 ≤ t then x else 0) = nI n2) (hn0 : n0 ≤ 11) (hn1 : n1 ≤ 11) (hn2 : n2 ≤ 11) : cMI l D cy yX5_worthWithMore wsX5_worthWithMore rmX5_worthWithMore [.ref (ad 0 0), .int (nI f), .int (nI t), .int x] (WG ad cy (σ 0 0) (σ 0 3) σ er ofd de bo ql qs tv) (T := (Nat → Nat) × (Nat → Nat → Nat)) (fun u => WG ad cy (σ 0 0) (σ 0 3) σ er ofd de bo u.1 u.2 tv) (fun r u => r = nI (wv σ n0 n1 n2) ∧ QZ u.2) 0 0 := by
  refine cMI.of (cc := cX5_worthWithMore) (maxL := 8) (by decide) rfl (Nat.le_of_ble_eq_true rfl) (Or.inl rfl) ?_
  intro p e s m args below meth c H0 A Q hx hb hml hown hts hP hK hD hS hA hret ls hl
  obtain ⟨H, locs, hH, hlo⟩ : ∃ (H : Heap) (locs : List Loc), H = H0 ∧ locs = [] := ⟨_, _, rfl, rfl⟩
  rw [← hH] at hP
  rw [show va_S A H0 H0 [] = va_S A H0 H locs by rw [hH, hlo]] at hS
  rw [show W p l e rmX5_worthWithMore s m args below meth c H0 [] 0 0 Q (F0 m 0 ls []) = W p l e rmX5_worthWithMore s m args below meth c H locs 0 0 Q (F0 m 0 ls []) by rw [hH, hlo]]
  refine lv_aload_n hx hb dX5_worthWithMore_0 rfl (lv_at hl 0 rfl) ?_
  refine gf5 (v := .ref (ad 0 5)) hx hb hts fX5_worthWithMore_5 hown hK.1 hP 0 4 rfl (by decide) kX5_worthWithMore_1 rfl rfl dX5_worthWithMore_1 ?_
  refine mw_callv (va_runVN (As := []) (rest := []) ⟨hx, hb, hml, hown, hts⟩ (c_X1_clear l D cy ad (σ 0 0) (σ 0 3) σ er ofd de bo ql qs tv H.size) ⟨va_cnB 0 hts gX5_worthWithMore_X1_clear_n248 rfl rfl rfl (hK.2 _ nwm_X5_248 rfl) (hts _ (List.mem_of_getElem? (i := 4) rfl)) hdX1_clear.2 ⟨Nat.le_of_ble_eq_true rfl, Nat.le_of_ble_eq_true rfl⟩, hts _ (List.mem_of_getElem? (i := 3) rfl), hts _ (List.mem_of_getElem? (i := 5) rfl)⟩ (mo_preV hK rfl hP hD (va_recv hK.1 hP (ci := 1) (q0 := 5) rfl rfl)) rfl rfl hl.1 rfl (lv_room (Nat.le_of_ble_eq_true rfl)) dX5_worthWithMore_4 ⟨Nat.le_of_ble_eq_true rfl, Nat.le_of_ble_eq_true rfl⟩) hS hD hA (fun u4 H locs hr4 hP hD hS => ?_)
  refine lv_aload_n hx hb dX5_worthWithMore_7 rfl (lv_at hl 0 rfl) ?_
  refine gf5 (v := .ref (ad 0 3)) hx hb hts fX5_worthWithMore_5 hown hK.1 hP 0 2 rfl (by decide) kX5_worthWithMore_8 rfl rfl dX5_worthWithMore_8 ?_
  refine lv_astore (lv' := [(4, .ref (ad 0 3)), (0, .ref (ad 0 0)), (1, .int (nI f)), (2, .int (nI t)), (3, .int x)]) hx hb dX5_worthWithMore_11 hl (by decide) rfl (fun ls hl => ?_)
  refine lv_aload hx hb dX5_worthWithMore_13 (lv_at hl 0 rfl) ?_
  refine ln_alen hx hb hK.1 hP 3 4 rfl rfl dX5_worthWithMore_15 ?_
  refine lv_istore (lv' := [(5, .int (nI 8)), (4, .ref (ad 0 3)), (0, .ref (ad 0 0)), (1, .int (nI f)), (2, .int (nI t)), (3, .int x)]) hx hb dX5_worthWithMore_16 hl (by decide) rfl (fun ls hl => ?_)
  have K21 : ∀ (n21 : Nat) (k : Nat) (q1 : Nat → Nat) (q2 : Nat → Nat → Nat), 8 - k < n21 → (k ≤ 8) → (∀ t, t < 6 → QS (Ft σ t (dl.take k)) (q1 t) (q2 t)) → ∀ (H : Heap) (locs : List Loc), va_P D vwCl (WG ad cy (σ 0 0) (σ 0 3) σ er ofd de bo q1 q2 tv) H → va_D A (WG ad cy (σ 0 0) (σ 0 3) σ er ofd de bo q1 q2 tv) → va_S A H0 H locs → ∀ ls : Array Slot, lv_has ls 8 [(0, .ref (ad 0 0)), (1, .int (nI f)), (2, .int (nI t)), (3, .int x), (4, .ref (ad 0 3)), (5, .int (nI 8)), (6, .int (nI k))] → W p l e rmX5_worthWithMore s m args below meth c H locs 0 0 Q (F0 m 21 ls []) := by
    intro n21
    induction n21 with
    | zero =>
      intro k q1 q2 hfu
      exact absurd hfu (Nat.not_lt_zero _)
    | succ n21 ih21 =>
      intro k q1 q2 hfu hk8 hQ H locs hP hD hS ls hl
      have hnp := hI.np
      have hdl := hDL.len
      refine lv_iload hx hb dX5_worthWithMore_21 (lv_at hl 6 rfl) ?_
      refine lv_iload hx hb dX5_worthWithMore_23 (lv_at hl 5 rfl) ?_
      refine ln_icmp_ge (tgt := 55) hx hb (by omega) (by omega) dX5_worthWithMore_25 (by decide) (fun c25 => ?_) (fun c25 => ?_)
      · skip
        have hQ9 : ∀ t, t < 6 → QS (Ft σ t dl) (q1 t) (q2 t) := fun t ht => by have := hQ t ht; rw [List.take_of_length_le (by omega)] at this; exact this
        have hQB := QS_QB hQ9 (fun k hk => (hI.pr k (List.mem_range.mp (hDL.2.1.mem_iff.mp hk))).2.2.2.1)
        have hl0 := hI.lf 0 (by decide)
        have hl1 := hI.lf 1 (by decide)
        have hl2 := hI.lf 2 (by decide)
        refine lv_aload_n hx hb dX5_worthWithMore_55 rfl (lv_at hl 0 rfl) ?_
        refine lv_iconst (v := nI 0) hx hb dX5_worthWithMore_56 (by decide) ?_
        refine ro_calliN (va_runV (As := [.int (nI 0)]) (rest := []) ⟨hx, hb, hml, hown, hts⟩ (c_X5_leftOn l D cy ad σ er ofd de bo q1 q2 tv hbo hI 0 (by omega) H hP) (cwV 1 hts gX5_worthWithMore_X5_leftOn rfl rfl rfl hdX5_leftOn ⟨Nat.le_of_ble_eq_true rfl, Nat.le_of_ble_eq_true rfl⟩) (ro_preV hK (va_recv hK.1 hP (ci := 5) (q0 := 0) rfl rfl)) rfl rfl hl.1 rfl (lv_room (Nat.le_of_ble_eq_true rfl)) dX5_worthWithMore_57 ⟨Nat.le_of_ble_eq_true rfl, Nat.le_of_ble_eq_true rfl⟩) (fun z57 hz57 => ?_)
        have K74 : ∀ (x0 : Int32), (x0 = if f ≤ 0 ∧ 0 ≤ t then x else 0) → ∀ (H : Heap) (locs : List Loc), va_P D vwCl (WG ad cy (σ 0 0) (σ 0 3) σ er ofd de bo q1 q2 tv) H → va_D A (WG ad cy (σ 0 0) (σ 0 3) σ er ofd de bo q1 q2 tv) → va_S A H0 H locs → ∀ ls : Array Slot, lv_has ls 8 [(0, .ref (ad 0 0)), (1, .int (nI f)), (2, .int (nI t)), (3, .int x)] → W p l e rmX5_worthWithMore s m args below meth c H locs 0 0 Q (F0 m 74 ls [.int x0, .int (nI z57)]) := by
          intro x0 hxx0 H locs hP hD hS ls hl
          refine lv_iadd hx hb dX5_worthWithMore_74 ?_
          rw [show nI z57 + x0 = nI n0 by rw [hz57, hxx0]; exact hx0]
          refine lv_istore (lv' := [(4, .int (nI n0)), (0, .ref (ad 0 0)), (1, .int (nI f)), (2, .int (nI t)), (3, .int x)]) hx hb dX5_worthWithMore_75 hl (by decide) rfl (fun ls hl => ?_)
          refine lv_aload_n hx hb dX5_worthWithMore_77 rfl (lv_at hl 1 rfl) ?_
          refine lv_iconst (v := nI 1) hx hb dX5_worthWithMore_78 (by decide) ?_
          refine ro_calliN (va_runV (As := [.int (nI 1)]) (rest := []) ⟨hx, hb, hml, hown, hts⟩ (c_X5_leftOn l D cy ad σ er ofd de bo q1 q2 tv hbo hI 1 (by omega) H hP) (cwV 1 hts gX5_worthWithMore_X5_leftOn rfl rfl rfl hdX5_leftOn ⟨Nat.le_of_ble_eq_true rfl, Nat.le_of_ble_eq_true rfl⟩) (ro_preV hK (va_recv hK.1 hP (ci := 5) (q0 := 0) rfl rfl)) rfl rfl hl.1 rfl (lv_room (Nat.le_of_ble_eq_true rfl)) dX5_worthWithMore_79 ⟨Nat.le_of_ble_eq_true rfl, Nat.le_of_ble_eq_true rfl⟩) (fun z79 hz79 => ?_)
          have K96 : ∀ (x1 : Int32), (x1 = if f ≤ 1 ∧ 1 ≤ t then x else 0) → ∀ (H : Heap) (locs : List Loc), va_P D vwCl (WG ad cy (σ 0 0) (σ 0 3) σ er ofd de bo q1 q2 tv) H → va_D A (WG ad cy (σ 0 0) (σ 0 3) σ er ofd de bo q1 q2 tv) → va_S A H0 H locs → ∀ ls : Array Slot, lv_has ls 8 [(0, .ref (ad 0 0)), (1, .int (nI f)), (2, .int (nI t)), (3, .int x), (4, .int (nI n0))] → W p l e rmX5_worthWithMore s m args below meth c H locs 0 0 Q (F0 m 96 ls [.int x1, .int (nI z79)]) := by
            intro x1 hxx1 H locs hP hD hS ls hl
            refine lv_iadd hx hb dX5_worthWithMore_96 ?_
            rw [show nI z79 + x1 = nI n1 by rw [hz79, hxx1]; exact hx1]
            refine lv_istore (lv' := [(5, .int (nI n1)), (0, .ref (ad 0 0)), (1, .int (nI f)), (2, .int (nI t)), (3, .int x), (4, .int (nI n0))]) hx hb dX5_worthWithMore_97 hl (by decide) rfl (fun ls hl => ?_)
            refine lv_aload_n hx hb dX5_worthWithMore_99 rfl (lv_at hl 1 rfl) ?_
            refine lv_iconst (v := nI 2) hx hb dX5_worthWithMore_100 (by decide) ?_
            refine ro_calliN (va_runV (As := [.int (nI 2)]) (rest := []) ⟨hx, hb, hml, hown, hts⟩ (c_X5_leftOn l D cy ad σ er ofd de bo q1 q2 tv hbo hI 2 (by omega) H hP) (cwV 1 hts gX5_worthWithMore_X5_leftOn rfl rfl rfl hdX5_leftOn ⟨Nat.le_of_ble_eq_true rfl, Nat.le_of_ble_eq_true rfl⟩) (ro_preV hK (va_recv hK.1 hP (ci := 5) (q0 := 0) rfl rfl)) rfl rfl hl.1 rfl (lv_room (Nat.le_of_ble_eq_true rfl)) dX5_worthWithMore_101 ⟨Nat.le_of_ble_eq_true rfl, Nat.le_of_ble_eq_true rfl⟩) (fun z101 hz101 => ?_)
            have K118 : ∀ (x2 : Int32), (x2 = if f ≤ 2 ∧ 2 ≤ t then x else 0) → ∀ (H : Heap) (locs : List Loc), va_P D vwCl (WG ad cy (σ 0 0) (σ 0 3) σ er ofd de bo q1 q2 tv) H → va_D A (WG ad cy (σ 0 0) (σ 0 3) σ er ofd de bo q1 q2 tv) → va_S A H0 H locs → ∀ ls : Array Slot, lv_has ls 8 [(0, .ref (ad 0 0)), (1, .int (nI f)), (2, .int (nI t)), (3, .int x), (4, .int (nI n0)), (5, .int (nI n1))] → W p l e rmX5_worthWithMore s m args below meth c H locs 0 0 Q (F0 m 118 ls [.int x2, .int (nI z101)]) := by
              intro x2 hxx2 H locs hP hD hS ls hl
              refine lv_iadd hx hb dX5_worthWithMore_118 ?_
              rw [show nI z101 + x2 = nI n2 by rw [hz101, hxx2]; exact hx2]
              refine lv_istore (lv' := [(6, .int (nI n2)), (0, .ref (ad 0 0)), (1, .int (nI f)), (2, .int (nI t)), (3, .int x), (4, .int (nI n0)), (5, .int (nI n1))]) hx hb dX5_worthWithMore_119 hl (by decide) rfl (fun ls hl => ?_)
              refine lv_aload_n hx hb dX5_worthWithMore_121 rfl (lv_at hl 1 rfl) ?_
              refine gf5 (v := .ref (ad 0 5)) hx hb hts fX5_worthWithMore_5 hown hK.1 hP 0 4 rfl (by decide) kX5_worthWithMore_122 rfl rfl dX5_worthWithMore_122 ?_
              refine lv_iload hx hb dX5_worthWithMore_125 (lv_at hl 5 rfl) ?_
              refine lv_iload hx hb dX5_worthWithMore_127 (lv_at hl 6 rfl) ?_
              refine lv_iload hx hb dX5_worthWithMore_129 (lv_at hl 0 rfl) ?_
              refine ro_calliN (va_runVN (As := [.int (nI n0), .int (nI n1), .int (nI n2)]) (rest := []) ⟨hx, hb, hml, hown, hts⟩ (c_X1_mostFor l D cy ad (σ 0 0) (σ 0 3) σ er ofd de bo q1 q2 tv hQB n0 n1 n2 (by omega) (by omega) (by omega) H hP) ⟨va_cnB 3 hts gX5_worthWithMore_X1_mostFor_n252 rfl rfl rfl (hK.2 _ nwm_X5_252 rfl) (hts _ (List.mem_of_getElem? (i := 4) rfl)) hdX1_mostFor.2 ⟨Nat.le_of_ble_eq_true rfl, Nat.le_of_ble_eq_true rfl⟩, hts _ (List.mem_of_getElem? (i := 68) rfl), hts _ (List.mem_of_getElem? (i := 69) rfl)⟩ (ro_preV hK (va_recv hK.1 hP (ci := 1) (q0 := 5) rfl rfl)) rfl rfl hl.1 rfl (lv_room (Nat.le_of_ble_eq_true rfl)) dX5_worthWithMore_131 ⟨Nat.le_of_ble_eq_true rfl, Nat.le_of_ble_eq_true rfl⟩) (fun z131 hz131 => ?_)
              exact hret (q1, q2) dX5_worthWithMore_134 hP hD hS ⟨by rw [hz131, wv_QS hI hDL hQ9 hn0 hn1 hn2], QS_QZ hQ9⟩
            refine lv_iconst (v := nI 2) hx hb dX5_worthWithMore_104 (by decide) ?_
            refine lv_iload_n hx hb dX5_worthWithMore_105 rfl (lv_at hl 2 rfl) ?_
            refine lv_iload_n hx hb dX5_worthWithMore_106 rfl (lv_at hl 3 rfl) ?_
            refine ro_calliB (va_runS (As := [.int (nI 2), .int (nI f), .int (nI t)]) (rest := [.int (nI z101)]) ⟨hx, hb, hml, hown, hts⟩ (c_X5_within l D cy ((nI 2)) ((nI f)) ((nI t)) H va_P0) (va_cwS 3 hts gX5_worthWithMore_X5_within rfl rfl rfl hdX5_within.2 ⟨Nat.le_of_ble_eq_true rfl, Nat.le_of_ble_eq_true rfl⟩) (ro_pre hK rfl) rfl rfl hl.1 rfl (lv_room (Nat.le_of_ble_eq_true rfl)) dX5_worthWithMore_107 ⟨Nat.le_of_ble_eq_true rfl, Nat.le_of_ble_eq_true rfl⟩) (fun b107 => ?_) (fun b107 => ?_)
            · skip
              refine lv_if_eq (tgt := 117) hx hb dX5_worthWithMore_110 (by decide) (fun q => by first | exact absurd q (by decide) | exact absurd (by decide) q) (fun _ => ?_)
              refine lv_iload_n hx hb dX5_worthWithMore_113 rfl (lv_at hl 4 rfl) ?_
              refine lv_goto (tgt := 118) hx hb dX5_worthWithMore_114 (by decide) ?_
              exact K118 x (by rw [if_pos ((isIn_nn (by decide) (by omega) (by omega)).mp b107)]) H locs hP hD hS ls (lv_sub hl [1, 2, 3, 4, 5, 0] rfl)
            · skip
              refine lv_if_eq (tgt := 117) hx hb dX5_worthWithMore_110 (by decide) (fun _ => ?_) (fun q => by first | exact absurd q (by decide) | exact absurd (by decide) q)
              refine lv_iconst (v := nI 0) hx hb dX5_worthWithMore_117 (by decide) ?_
              exact K118 (nI 0) (by rw [if_neg (fun q => b107 ((isIn_nn (by decide) (by omega) (by omega)).mpr q))]; rfl) H locs hP hD hS ls (lv_sub hl [1, 2, 3, 4, 5, 0] rfl)
          refine lv_iconst (v := nI 1) hx hb dX5_worthWithMore_82 (by decide) ?_
          refine lv_iload_n hx hb dX5_worthWithMore_83 rfl (lv_at hl 2 rfl) ?_
          refine lv_iload_n hx hb dX5_worthWithMore_84 rfl (lv_at hl 3 rfl) ?_
          refine ro_calliB (va_runS (As := [.int (nI 1), .int (nI f), .int (nI t)]) (rest := [.int (nI z79)]) ⟨hx, hb, hml, hown, hts⟩ (c_X5_within l D cy ((nI 1)) ((nI f)) ((nI t)) H va_P0) (va_cwS 3 hts gX5_worthWithMore_X5_within rfl rfl rfl hdX5_within.2 ⟨Nat.le_of_ble_eq_true rfl, Nat.le_of_ble_eq_true rfl⟩) (ro_pre hK rfl) rfl rfl hl.1 rfl (lv_room (Nat.le_of_ble_eq_true rfl)) dX5_worthWithMore_85 ⟨Nat.le_of_ble_eq_true rfl, Nat.le_of_ble_eq_true rfl⟩) (fun b85 => ?_) (fun b85 => ?_)
          · skip
            refine lv_if_eq (tgt := 95) hx hb dX5_worthWithMore_88 (by decide) (fun q => by first | exact absurd q (by decide) | exact absurd (by decide) q) (fun _ => ?_)
            refine lv_iload_n hx hb dX5_worthWithMore_91 rfl (lv_at hl 4 rfl) ?_
            refine lv_goto (tgt := 96) hx hb dX5_worthWithMore_92 (by decide) ?_
            exact K96 x (by rw [if_pos ((isIn_nn (by decide) (by omega) (by omega)).mp b85)]) H locs hP hD hS ls (lv_sub hl [1, 2, 3, 4, 0] rfl)
          · skip
            refine lv_if_eq (tgt := 95) hx hb dX5_worthWithMore_88 (by decide) (fun _ => ?_) (fun q => by first | exact absurd q (by decide) | exact absurd (by decide) q)
            refine lv_iconst (v := nI 0) hx hb dX5_worthWithMore_95 (by decide) ?_
            exact K96 (nI 0) (by rw [if_neg (fun q => b85 ((isIn_nn (by decide) (by omega) (by omega)).mpr q))]; rfl) H locs hP hD hS ls (lv_sub hl [1, 2, 3, 4, 0] rfl)
        refine lv_iconst (v := nI 0) hx hb dX5_worthWithMore_60 (by decide) ?_
        refine lv_iload_n hx hb dX5_worthWithMore_61 rfl (lv_at hl 1 rfl) ?_
        refine lv_iload_n hx hb dX5_worthWithMore_62 rfl (lv_at hl 2 rfl) ?_
        refine ro_calliB (va_runS (As := [.int (nI 0), .int (nI f), .int (nI t)]) (rest := [.int (nI z57)]) ⟨hx, hb, hml, hown, hts⟩ (c_X5_within l D cy ((nI 0)) ((nI f)) ((nI t)) H va_P0) (va_cwS 3 hts gX5_worthWithMore_X5_within rfl rfl rfl hdX5_within.2 ⟨Nat.le_of_ble_eq_true rfl, Nat.le_of_ble_eq_true rfl⟩) (ro_pre hK rfl) rfl rfl hl.1 rfl (lv_room (Nat.le_of_ble_eq_true rfl)) dX5_worthWithMore_63 ⟨Nat.le_of_ble_eq_true rfl, Nat.le_of_ble_eq_true rfl⟩) (fun b63 => ?_) (fun b63 => ?_)
        · skip
          refine lv_if_eq (tgt := 73) hx hb dX5_worthWithMore_66 (by decide) (fun q => by first | exact absurd q (by decide) | exact absurd (by decide) q) (fun _ => ?_)
          refine lv_iload_n hx hb dX5_worthWithMore_69 rfl (lv_at hl 3 rfl) ?_
          refine lv_goto (tgt := 74) hx hb dX5_worthWithMore_70 (by decide) ?_
          exact K74 x (by rw [if_pos ((isIn_nn (by decide) (by omega) (by omega)).mp b63)]) H locs hP hD hS ls (lv_sub hl [0, 1, 2, 3] rfl)
        · skip
          refine lv_if_eq (tgt := 73) hx hb dX5_worthWithMore_66 (by decide) (fun _ => ?_) (fun q => by first | exact absurd q (by decide) | exact absurd (by decide) q)
          refine lv_iconst (v := nI 0) hx hb dX5_worthWithMore_73 (by decide) ?_
          exact K74 (nI 0) (by rw [if_neg (fun q => b63 ((isIn_nn (by decide) (by omega) (by omega)).mpr q))]; rfl) H locs hP hD hS ls (lv_sub hl [0, 1, 2, 3] rfl)
      · skip
        refine lv_aload hx hb dX5_worthWithMore_28 (lv_at hl 4 rfl) ?_
        refine lv_iload hx hb dX5_worthWithMore_30 (lv_at hl 6 rfl) ?_
        rcases Nat.lt_or_ge k dl.length with hkl | hkl
        · skip
          obtain ⟨kk, hkk⟩ : ∃ kk, dl[k]? = some kk := ⟨_, List.getElem?_eq_getElem hkl⟩
          have hkk8 := hDL.lt hkk
          have hpk := hI.pr kk hkk8
          have hnn := hI.nn
          refine ln_aaldS (b := ad 1 kk) hx hb hK hP 3 4 rfl rfl (by omega) (by decide) (hDL.at hkk) dX5_worthWithMore_32 ?_
          refine lv_astore (lv' := [(7, .ref (ad 1 kk)), (0, .ref (ad 0 0)), (1, .int (nI f)), (2, .int (nI t)), (3, .int x), (4, .ref (ad 0 3)), (5, .int (nI 8)), (6, .int (nI k))]) hx hb dX5_worthWithMore_33 hl (by decide) rfl (fun ls hl => ?_)
          refine lv_aload hx hb dX5_worthWithMore_35 (lv_at hl 0 rfl) ?_
          refine lv_ifnull hx hb dX5_worthWithMore_37 ?_
          refine lv_aload_n hx hb dX5_worthWithMore_40 rfl (lv_at hl 1 rfl) ?_
          refine gf5 (v := .ref (ad 0 5)) hx hb hts fX5_worthWithMore_5 hown hK.1 hP 0 4 rfl (by decide) kX5_worthWithMore_41 rfl rfl dX5_worthWithMore_41 ?_
          refine lv_aload hx hb dX5_worthWithMore_44 (lv_at hl 0 rfl) ?_
          refine mw_callv (va_runVN (As := [.ref (ad 1 kk)]) (rest := []) ⟨hx, hb, hml, hown, hts⟩ (c_X1_add l D cy ad (σ 0 0) (σ 0 3) σ er ofd de bo q1 q2 tv (fun t => Ft σ t (dl.take k)) kk hkk8 hpk.1 hpk.2.1 hpk.2.2.2.2.1 (by omega) hQ H.size) ⟨va_cnB 1 hts gX5_worthWithMore_X1_add_n249 rfl rfl rfl (hK.2 _ nwm_X5_249 rfl) (hts _ (List.mem_of_getElem? (i := 4) rfl)) hdX1_add.2 ⟨Nat.le_of_ble_eq_true rfl, Nat.le_of_ble_eq_true rfl⟩, hts _ (List.mem_of_getElem? (i := 13) rfl), hts _ (List.mem_of_getElem? (i := 14) rfl)⟩ (mo_preV hK rfl hP hD (va_recv hK.1 hP (ci := 1) (q0 := 5) rfl rfl)) rfl rfl hl.1 rfl (lv_room (Nat.le_of_ble_eq_true rfl)) dX5_worthWithMore_46 ⟨Nat.le_of_ble_eq_true rfl, Nat.le_of_ble_eq_true rfl⟩) hS hD hA (fun u46 H locs hr46 hP hD hS => ?_)
          obtain ⟨z49, hz49⟩ : ∃ z : Nat, z = k + 1 := ⟨_, rfl⟩
          refine lv_iinc (v := nI z49) (lv' := [(6, .int (nI z49)), (7, .ref (ad 1 kk)), (0, .ref (ad 0 0)), (1, .int (nI f)), (2, .int (nI t)), (3, .int x), (4, .ref (ad 0 3)), (5, .int (nI 8))]) hx hb dX5_worthWithMore_49 hl (k := 7) rfl (by rw [hz49]; exact nI_add _ 1) (by decide) rfl (fun ls hl => ?_)
          refine lv_goto (tgt := 21) hx hb dX5_worthWithMore_52 (by decide) ?_
          exact ih21 z49 u46.1 u46.2 (by omega) (by omega) (fun t ht => by rw [hz49, Ft_take hkk]; exact hr46 t ht) H locs hP hD hS ls (lv_sub hl [2, 3, 4, 5, 6, 7, 0] rfl)
        · skip
          refine ln_aaldN hx hb hK hP 3 4 rfl rfl (by omega) (by decide) (hDL.no hkl) dX5_worthWithMore_32 ?_
          refine lv_astoreN (lv' := [(7, .null), (0, .ref (ad 0 0)), (1, .int (nI f)), (2, .int (nI t)), (3, .int x), (4, .ref (ad 0 3)), (5, .int (nI 8)), (6, .int (nI k))]) hx hb dX5_worthWithMore_33 hl (by decide) rfl (fun ls hl => ?_)
          refine lv_aloadN hx hb dX5_worthWithMore_35 (lv_at hl 0 rfl) ?_
          refine lv_ifnullN (tgt := 49) hx hb dX5_worthWithMore_37 (by decide) ?_
          obtain ⟨z49, hz49⟩ : ∃ z : Nat, z = k + 1 := ⟨_, rfl⟩
          refine lv_iinc (v := nI z49) (lv' := [(6, .int (nI z49)), (7, .null), (0, .ref (ad 0 0)), (1, .int (nI f)), (2, .int (nI t)), (3, .int x), (4, .ref (ad 0 3)), (5, .int (nI 8))]) hx hb dX5_worthWithMore_49 hl (k := 7) rfl (by rw [hz49]; exact nI_add _ 1) (by decide) rfl (fun ls hl => ?_)
          refine lv_goto (tgt := 21) hx hb dX5_worthWithMore_52 (by decide) ?_
          exact ih21 z49 q1 q2 (by omega) (by omega) (fun t ht => by rw [List.take_of_length_le (by omega)]; have := hQ t ht; rw [List.take_of_length_le (by omega)] at this; exact this) H locs hP hD hS ls (lv_sub hl [2, 3, 4, 5, 6, 7, 0] rfl)
  refine lv_iconst (v := nI 0) hx hb dX5_worthWithMore_18 (by decide) ?_
  refine lv_istore (lv' := [(6, .int (nI 0)), (5, .int (nI 8)), (4, .ref (ad 0 3)), (0, .ref (ad 0 0)), (1, .int (nI f)), (2, .int (nI t)), (3, .int x)]) hx hb dX5_worthWithMore_19 hl (by decide) rfl (fun ls hl => ?_)
  exact K21 _ 0 ((fun _ => 0)) qs (Nat.lt_succ_self _) (by omega) (fun t ht => by rw [List.take_zero]; exact QS.nil (hQZ t ht)) H locs hP hD hS ls (lv_sub hl [3, 4, 5, 6, 2, 1, 0] rfl)
set_option maxHeartbeats 4000000 in
set_option maxRecDepth 100000 in
theorem c_X5_worth (l : Launch) (D : va_G) (cy : Nat → ClassId) (ad : Nat → Nat → Nat) (σ : SF) (er : Int64) (ofd de bo : Nat → Option Nat) (ql : Nat → Nat) (qs : Nat → Nat → Nat) (tv : Nat → Nat) (hbo : BO ad σ bo) {n : Nat} (hI : Iv n σ) {dl : List Nat} (hDL : DL ad σ de dl) (hQZ : QZ qs) : cMI l D cy yX5_worth wsX5_worth rmX5_worth [.ref (ad 0 0)] (WG ad cy (σ 0 0) (σ 0 3) σ er ofd de bo ql qs tv) (T := (Nat → Nat) × (Nat → Nat → Nat)) (fun u => WG ad cy (σ 0 0) (σ 0 3) σ er ofd de bo u.1 u.2 tv) (fun r u => r = nI (wM σ 0 0 0) ∧ QZ u.2) 0 0 := by
  refine cMI.of (cc := cX5_worth) (maxL := 1) (by decide) rfl (Nat.le_of_ble_eq_true rfl) (Or.inl rfl) ?_
  intro p e s m args below meth c H0 A Q hx hb hml hown hts hP hK hD hS hA hret ls hl
  obtain ⟨H, locs, hH, hlo⟩ : ∃ (H : Heap) (locs : List Loc), H = H0 ∧ locs = [] := ⟨_, _, rfl, rfl⟩
  rw [← hH] at hP
  rw [show va_S A H0 H0 [] = va_S A H0 H locs by rw [hH, hlo]] at hS
  rw [show W p l e rmX5_worth s m args below meth c H0 [] 0 0 Q (F0 m 0 ls []) = W p l e rmX5_worth s m args below meth c H locs 0 0 Q (F0 m 0 ls []) by rw [hH, hlo]]
  have hlf0 := hI.lf 0 (by decide)
  have hlf1 := hI.lf 1 (by decide)
  have hlf2 := hI.lf 2 (by decide)
  refine lv_aload_n hx hb dX5_worth_0 rfl (lv_at hl 0 rfl) ?_
  refine lv_iconst (v := nI 0) hx hb dX5_worth_1 (by decide) ?_
  refine lv_iconst (v := nI 0) hx hb dX5_worth_2 (by decide) ?_
  refine lv_iconst (v := nI 0) hx hb dX5_worth_3 (by decide) ?_
  refine mw_calli (va_runV (As := [.int (nI 0), .int (nI 0), .int (nI 0)]) (rest := []) ⟨hx, hb, hml, hown, hts⟩ (c_X5_worthWithMore l D cy ad σ er ofd de bo ql qs tv hbo hI hDL hQZ 0 0 (by omega) (by omega) ((nI 0)) (lft σ 0) (lft σ 1) (lft σ 2) wm_0 wm_0 wm_0 (by omega) (by omega) (by omega) H.size) (cwV 3 hts gX5_worth_X5_worthWithMore rfl rfl rfl hdX5_worthWithMore ⟨Nat.le_of_ble_eq_true rfl, Nat.le_of_ble_eq_true rfl⟩) (mo_preV hK rfl hP hD (va_recv hK.1 hP (ci := 5) (q0 := 0) rfl rfl)) rfl rfl hl.1 rfl (lv_room (Nat.le_of_ble_eq_true rfl)) dX5_worth_4 ⟨Nat.le_of_ble_eq_true rfl, Nat.le_of_ble_eq_true rfl⟩) hS hD hA (fun z4 u4 H locs hz4 hP hD hS => ?_)
  have hQZ := hz4.2
  exact hret u4 dX5_worth_7 hP hD hS hz4
set_option maxHeartbeats 4000000 in
set_option maxRecDepth 100000 in
theorem c_X5_bidsOver (l : Launch) (D : va_G) (cy : Nat → ClassId) (ad : Nat → Nat → Nat) (σ : SF) (er : Int64) (ofd de bo : Nat → Option Nat) (ql : Nat → Nat) (qs : Nat → Nat → Nat) (tv : Nat → Nat) (hbo : BO ad σ bo) {n : Nat} (hI : Iv n σ) {dl : List Nat} (hDL : DL ad σ de dl) (hQZ : QZ qs) (f t : Nat) (hft : f ≤ t) (ht : t ≤ 2) : cMI l D cy yX5_bidsOver wsX5_bidsOver rmX5_bidsOver [.ref (ad 0 0), .int (nI f), .int (nI t)] (WG ad cy (σ 0 0) (σ 0 3) σ er ofd de bo ql qs tv) (T := (Nat → Nat) × (Nat → Nat → Nat)) (fun u => WG ad cy (σ 0 0) (σ 0 3) σ er ofd de bo u.1 u.2 tv) (fun r u => r = bidsI σ f (t + 1 - f) ∧ QZ u.2) 0 0 := by
  refine cMI.of (cc := cX5_bidsOver) (maxL := 6) (by decide) rfl (Nat.le_of_ble_eq_true rfl) (Or.inl rfl) ?_
  intro p e s m args below meth c H0 A Q hx hb hml hown hts hP hK hD hS hA hret ls hl
  obtain ⟨H, locs, hH, hlo⟩ : ∃ (H : Heap) (locs : List Loc), H = H0 ∧ locs = [] := ⟨_, _, rfl, rfl⟩
  rw [← hH] at hP
  rw [show va_S A H0 H0 [] = va_S A H0 H locs by rw [hH, hlo]] at hS
  rw [show W p l e rmX5_bidsOver s m args below meth c H0 [] 0 0 Q (F0 m 0 ls []) = W p l e rmX5_bidsOver s m args below meth c H locs 0 0 Q (F0 m 0 ls []) by rw [hH, hlo]]
  have hlf0 := hI.lf 0 (by decide)
  have hlf1 := hI.lf 1 (by decide)
  have hlf2 := hI.lf 2 (by decide)
  refine lv_aload_n hx hb dX5_bidsOver_0 rfl (lv_at hl 0 rfl) ?_
  refine lv_iconst (v := nI 0) hx hb dX5_bidsOver_1 (by decide) ?_
  refine lv_iconst (v := nI 0) hx hb dX5_bidsOver_2 (by decide) ?_
  refine lv_iconst (v := nI 0) hx hb dX5_bidsOver_3 (by decide) ?_
  refine mw_calli (va_runV (As := [.int (nI 0), .int (nI 0), .int (nI 0)]) (rest := []) ⟨hx, hb, hml, hown, hts⟩ (c_X5_worthWithMore l D cy ad σ er ofd de bo ql qs tv hbo hI hDL hQZ 0 0 (by omega) (by omega) ((nI 0)) (lft σ 0) (lft σ 1) (lft σ 2) wm_0 wm_0 wm_0 (by omega) (by omega) (by omega) H.size) (cwV 3 hts gX5_bidsOver_X5_worthWithMore rfl rfl rfl hdX5_worthWithMore ⟨Nat.le_of_ble_eq_true rfl, Nat.le_of_ble_eq_true rfl⟩) (mo_preV hK rfl hP hD (va_recv hK.1 hP (ci := 5) (q0 := 0) rfl rfl)) rfl rfl hl.1 rfl (lv_room (Nat.le_of_ble_eq_true rfl)) dX5_bidsOver_4 ⟨Nat.le_of_ble_eq_true rfl, Nat.le_of_ble_eq_true rfl⟩) hS hD hA (fun z4 u4 H locs hz4 hP hD hS => ?_)
  have hQZ := hz4.2
  refine lv_istore_n (lv' := [(3, .int z4), (0, .ref (ad 0 0)), (1, .int (nI f)), (2, .int (nI t))]) hx hb dX5_bidsOver_7 rfl hl (by decide) rfl (fun ls hl => ?_)
  have K14 : ∀ (n14 : Nat) (k : Nat) (sm : Int32) (q1 : Nat → Nat) (q2 : Nat → Nat → Nat), t + 1 - k < n14 → (f ≤ k) → (k ≤ t + 1) → (sm = bidsI σ f (k - f)) → (QZ q2) → ∀ (H : Heap) (locs : List Loc), va_P D vwCl (WG ad cy (σ 0 0) (σ 0 3) σ er ofd de bo q1 q2 tv) H → va_D A (WG ad cy (σ 0 0) (σ 0 3) σ er ofd de bo q1 q2 tv) → va_S A H0 H locs → ∀ ls : Array Slot, lv_has ls 6 [(0, .ref (ad 0 0)), (1, .int (nI f)), (2, .int (nI t)), (3, .int z4), (4, .int sm), (5, .int (nI k))] → W p l e rmX5_bidsOver s m args below meth c H locs 0 0 Q (F0 m 14 ls []) := by
    intro n14
    induction n14 with
    | zero =>
      intro k sm q1 q2 hfu
      exact absurd hfu (Nat.not_lt_zero _)
    | succ n14 ih14 =>
      intro k sm q1 q2 hfu hk1 hk2 hsm hQZ H locs hP hD hS ls hl
      refine lv_iload hx hb dX5_bidsOver_14 (lv_at hl 5 rfl) ?_
      refine lv_iload_n hx hb dX5_bidsOver_16 rfl (lv_at hl 2 rfl) ?_
      refine ln_icmp_gt (tgt := 42) hx hb (by omega) (by omega) dX5_bidsOver_17 (by decide) (fun c17 => ?_) (fun c17 => ?_)
      · skip
        refine lv_iload hx hb dX5_bidsOver_42 (lv_at hl 4 rfl) ?_
        exact hret (q1, q2) dX5_bidsOver_44 hP hD hS ⟨by rw [hsm, show k - f = t + 1 - f by omega], hQZ⟩
      · skip
        refine lv_iload hx hb dX5_bidsOver_20 (lv_at hl 4 rfl) ?_
        refine lv_aload_n hx hb dX5_bidsOver_22 rfl (lv_at hl 0 rfl) ?_
        refine lv_iload hx hb dX5_bidsOver_23 (lv_at hl 5 rfl) ?_
        refine lv_iload hx hb dX5_bidsOver_25 (lv_at hl 5 rfl) ?_
        refine lv_iconst (v := nI 1) hx hb dX5_bidsOver_27 (by decide) ?_
        refine mw_calli (va_runV (As := [.int (nI k), .int (nI k), .int (nI 1)]) (rest := [.int sm]) ⟨hx, hb, hml, hown, hts⟩ (c_X5_worthWithMore l D cy ad σ er ofd de bo q1 q2 tv hbo hI hDL hQZ k k (by omega) (by omega) ((nI 1)) (lft σ 0 + if k = 0 then 1 else 0) (lft σ 1 + if k = 1 then 1 else 0) (lft σ 2 + if k = 2 then 1 else 0) wm_1 wm_1 wm_1 (by split <;> omega) (by split <;> omega) (by split <;> omega) H.size) (cwV 3 hts gX5_bidsOver_X5_worthWithMore rfl rfl rfl hdX5_worthWithMore ⟨Nat.le_of_ble_eq_true rfl, Nat.le_of_ble_eq_true rfl⟩) (mo_preV hK rfl hP hD (va_recv hK.1 hP (ci := 5) (q0 := 0) rfl rfl)) rfl rfl hl.1 rfl (lv_room (Nat.le_of_ble_eq_true rfl)) dX5_bidsOver_28 ⟨Nat.le_of_ble_eq_true rfl, Nat.le_of_ble_eq_true rfl⟩) hS hD hA (fun z28 u28 H locs hz28 hP hD hS => ?_)
        have hQZ := hz28.2
        refine lv_iload_n hx hb dX5_bidsOver_31 rfl (lv_at hl 3 rfl) ?_
        refine lv_isub hx hb dX5_bidsOver_32 ?_
        refine lv_iadd hx hb dX5_bidsOver_33 ?_
        refine lv_istore (lv' := [(4, .int (sm + (z28 - z4))), (0, .ref (ad 0 0)), (1, .int (nI f)), (2, .int (nI t)), (3, .int z4), (5, .int (nI k))]) hx hb dX5_bidsOver_34 hl (by decide) rfl (fun ls hl => ?_)
        obtain ⟨z36, hz36⟩ : ∃ z : Nat, z = k + 1 := ⟨_, rfl⟩
        refine lv_iinc (v := nI z36) (lv' := [(5, .int (nI z36)), (4, .int (sm + (z28 - z4))), (0, .ref (ad 0 0)), (1, .int (nI f)), (2, .int (nI t)), (3, .int z4)]) hx hb dX5_bidsOver_36 hl (k := 5) rfl (by rw [hz36]; exact nI_add _ 1) (by decide) rfl (fun ls hl => ?_)
        refine lv_goto (tgt := 14) hx hb dX5_bidsOver_39 (by decide) ?_
        exact ih14 z36 (sm + (z28 - z4)) u28.1 u28.2 (by omega) (by omega) (by omega) (bidsI_s hk1 hsm (by rw [hz28.1, hz4.1]; rfl) hz36) hQZ H locs hP hD hS ls (lv_sub hl [2, 3, 4, 5, 1, 0] rfl)
  refine lv_iconst (v := nI 0) hx hb dX5_bidsOver_8 (by decide) ?_
  refine lv_istore (lv' := [(4, .int (nI 0)), (3, .int z4), (0, .ref (ad 0 0)), (1, .int (nI f)), (2, .int (nI t))]) hx hb dX5_bidsOver_9 hl (by decide) rfl (fun ls hl => ?_)
  refine lv_iload_n hx hb dX5_bidsOver_11 rfl (lv_at hl 3 rfl) ?_
  refine lv_istore (lv' := [(5, .int (nI f)), (4, .int (nI 0)), (3, .int z4), (0, .ref (ad 0 0)), (1, .int (nI f)), (2, .int (nI t))]) hx hb dX5_bidsOver_12 hl (by decide) rfl (fun ls hl => ?_)
  exact K14 _ f (nI 0) u4.1 u4.2 (Nat.lt_succ_self _) (by omega) (by omega) (by rw [Nat.sub_self]; rfl) hQZ H locs hP hD hS ls (lv_sub hl [3, 4, 5, 2, 1, 0] rfl)
set_option maxHeartbeats 4000000 in
set_option maxRecDepth 100000 in
theorem c_X5_displacement (l : Launch) (D : va_G) (cy : Nat → ClassId) (ad : Nat → Nat → Nat) (σ : SF) (er : Int64) (ofd de bo : Nat → Option Nat) (ql : Nat → Nat) (qs : Nat → Nat → Nat) (tv : Nat → Nat) (hbo : BO ad σ bo) {n : Nat} (hI : Iv n σ) {dl : List Nat} (hDL : DL ad σ de dl) (hQZ : QZ qs) (f t q : Nat) (hft : f ≤ t) (ht : t ≤ 2) (hq : q ≤ 10) (hle : ∀ j, f ≤ j → j ≤ t → q ≤ lft σ j) : cMI l D cy yX5_displacement wsX5_displacement rmX5_displacement [.ref (ad 0 0), .int (nI f), .int (nI t), .int (nI q)] (WG ad cy (σ 0 0) (σ 0 3) σ er ofd de bo ql qs tv) (T := (Nat → Nat) × (Nat → Nat → Nat)) (fun u => WG ad cy (σ 0 0) (σ 0 3) σ er ofd de bo u.1 u.2 tv) (fun r u => r = disI σ f t q ∧ QZ u.2) 0 0 := by
  refine cMI.of (cc := cX5_displacement) (maxL := 4) (by decide) rfl (Nat.le_of_ble_eq_true rfl) (Or.inl rfl) ?_
  intro p e s m args below meth c H0 A Q hx hb hml hown hts hP hK hD hS hA hret ls hl
  obtain ⟨H, locs, hH, hlo⟩ : ∃ (H : Heap) (locs : List Loc), H = H0 ∧ locs = [] := ⟨_, _, rfl, rfl⟩
  rw [← hH] at hP
  rw [show va_S A H0 H0 [] = va_S A H0 H locs by rw [hH, hlo]] at hS
  rw [show W p l e rmX5_displacement s m args below meth c H0 [] 0 0 Q (F0 m 0 ls []) = W p l e rmX5_displacement s m args below meth c H locs 0 0 Q (F0 m 0 ls []) by rw [hH, hlo]]
  have hlf0 := hI.lf 0 (by decide)
  have hlf1 := hI.lf 1 (by decide)
  have hlf2 := hI.lf 2 (by decide)
  refine lv_aload_n hx hb dX5_displacement_0 rfl (lv_at hl 0 rfl) ?_
  refine lv_iconst (v := nI 0) hx hb dX5_displacement_1 (by decide) ?_
  refine lv_iconst (v := nI 0) hx hb dX5_displacement_2 (by decide) ?_
  refine lv_iconst (v := nI 0) hx hb dX5_displacement_3 (by decide) ?_
  refine mw_calli (va_runV (As := [.int (nI 0), .int (nI 0), .int (nI 0)]) (rest := []) ⟨hx, hb, hml, hown, hts⟩ (c_X5_worthWithMore l D cy ad σ er ofd de bo ql qs tv hbo hI hDL hQZ 0 0 (by omega) (by omega) ((nI 0)) (lft σ 0) (lft σ 1) (lft σ 2) wm_0 wm_0 wm_0 (by omega) (by omega) (by omega) H.size) (cwV 3 hts gX5_displacement_X5_worthWithMore rfl rfl rfl hdX5_worthWithMore ⟨Nat.le_of_ble_eq_true rfl, Nat.le_of_ble_eq_true rfl⟩) (mo_preV hK rfl hP hD (va_recv hK.1 hP (ci := 5) (q0 := 0) rfl rfl)) rfl rfl hl.1 rfl (lv_room (Nat.le_of_ble_eq_true rfl)) dX5_displacement_4 ⟨Nat.le_of_ble_eq_true rfl, Nat.le_of_ble_eq_true rfl⟩) hS hD hA (fun z4 u4 H locs hz4 hP hD hS => ?_)
  have hQZ := hz4.2
  refine lv_aload_n hx hb dX5_displacement_7 rfl (lv_at hl 0 rfl) ?_
  refine lv_iload_n hx hb dX5_displacement_8 rfl (lv_at hl 1 rfl) ?_
  refine lv_iload_n hx hb dX5_displacement_9 rfl (lv_at hl 2 rfl) ?_
  refine lv_iload_n hx hb dX5_displacement_10 rfl (lv_at hl 3 rfl) ?_
  refine lv_ineg hx hb dX5_displacement_11 ?_
  refine mw_calli (va_runV (As := [.int (nI f), .int (nI t), .int (-(nI q))]) (rest := [.int z4]) ⟨hx, hb, hml, hown, hts⟩ (c_X5_worthWithMore l D cy ad σ er ofd de bo u4.1 u4.2 tv hbo hI hDL hQZ f t (by omega) (by omega) ((-(nI q))) (lft σ 0 - if f ≤ 0 ∧ 0 ≤ t then q else 0) (lft σ 1 - if f ≤ 1 ∧ 1 ≤ t then q else 0) (lft σ 2 - if f ≤ 2 ∧ 2 ≤ t then q else 0) (wm_n (hle 0)) (wm_n (hle 1)) (wm_n (hle 2)) (by omega) (by omega) (by omega) H.size) (cwV 3 hts gX5_displacement_X5_worthWithMore rfl rfl rfl hdX5_worthWithMore ⟨Nat.le_of_ble_eq_true rfl, Nat.le_of_ble_eq_true rfl⟩) (mo_preV hK rfl hP hD (va_recv hK.1 hP (ci := 5) (q0 := 0) rfl rfl)) rfl rfl hl.1 rfl (lv_room (Nat.le_of_ble_eq_true rfl)) dX5_displacement_12 ⟨Nat.le_of_ble_eq_true rfl, Nat.le_of_ble_eq_true rfl⟩) hS hD hA (fun z12 u12 H locs hz12 hP hD hS => ?_)
  have hQZ := hz12.2
  refine lv_isub hx hb dX5_displacement_15 ?_
  exact hret u12 dX5_displacement_16 hP hD hS ⟨by rw [hz4.1, hz12.1]; rfl, hQZ⟩
set_option maxHeartbeats 4000000 in
set_option maxRecDepth 100000 in
theorem c_X5_worthByTable (l : Launch) (D : va_G) (cy : Nat → ClassId) (ad : Nat → Nat → Nat) (σ : SF) (er : Int64) (ofd de bo : Nat → Option Nat) (ql : Nat → Nat) (qs : Nat → Nat → Nat) (tv : Nat → Nat) (hof : OF ad σ ofd) (hbo : BO ad σ bo) {n : Nat} (hI : Iv n σ) : cMI l D cy yX5_worthByTable wsX5_worthByTable rmX5_worthByTable [.ref (ad 0 0)] (WG ad cy (σ 0 0) (σ 0 3) σ er ofd de bo ql qs tv) (T := Nat → Nat) (fun u => WG ad cy (σ 0 0) (σ 0 3) σ er ofd de bo ql qs u) (fun r _ => r = nI (wM σ 0 0 0)) 0 0 := by
  refine cMI.of (cc := cX5_worthByTable) (maxL := 8) (by decide) rfl (Nat.le_of_ble_eq_true rfl) (Or.inl rfl) ?_
  intro p e s m args below meth c H0 A Q hx hb hml hown hts hP hK hD hS hA hret ls hl
  obtain ⟨H, locs, hH, hlo⟩ : ∃ (H : Heap) (locs : List Loc), H = H0 ∧ locs = [] := ⟨_, _, rfl, rfl⟩
  rw [← hH] at hP
  rw [show va_S A H0 H0 [] = va_S A H0 H locs by rw [hH, hlo]] at hS
  rw [show W p l e rmX5_worthByTable s m args below meth c H0 [] 0 0 Q (F0 m 0 ls []) = W p l e rmX5_worthByTable s m args below meth c H locs 0 0 Q (F0 m 0 ls []) by rw [hH, hlo]]
  refine lv_aload_n hx hb dX5_worthByTable_0 rfl (lv_at hl 0 rfl) ?_
  refine lv_iconst (v := nI 0) hx hb dX5_worthByTable_1 (by decide) ?_
  refine ro_calliN (va_runV (As := [.int (nI 0)]) (rest := []) ⟨hx, hb, hml, hown, hts⟩ (c_X5_leftOn l D cy ad σ er ofd de bo ql qs tv hbo hI 0 (by omega) H hP) (cwV 1 hts gX5_worthByTable_X5_leftOn rfl rfl rfl hdX5_leftOn ⟨Nat.le_of_ble_eq_true rfl, Nat.le_of_ble_eq_true rfl⟩) (ro_preV hK (va_recv hK.1 hP (ci := 5) (q0 := 0) rfl rfl)) rfl rfl hl.1 rfl (lv_room (Nat.le_of_ble_eq_true rfl)) dX5_worthByTable_2 ⟨Nat.le_of_ble_eq_true rfl, Nat.le_of_ble_eq_true rfl⟩) (fun z2 hz2 => ?_)
  refine lv_istore_n (lv' := [(1, .int (nI z2)), (0, .ref (ad 0 0))]) hx hb dX5_worthByTable_5 rfl hl (by decide) rfl (fun ls hl => ?_)
  refine lv_aload_n hx hb dX5_worthByTable_6 rfl (lv_at hl 1 rfl) ?_
  refine lv_iconst (v := nI 1) hx hb dX5_worthByTable_7 (by decide) ?_
  refine ro_calliN (va_runV (As := [.int (nI 1)]) (rest := []) ⟨hx, hb, hml, hown, hts⟩ (c_X5_leftOn l D cy ad σ er ofd de bo ql qs tv hbo hI 1 (by omega) H hP) (cwV 1 hts gX5_worthByTable_X5_leftOn rfl rfl rfl hdX5_leftOn ⟨Nat.le_of_ble_eq_true rfl, Nat.le_of_ble_eq_true rfl⟩) (ro_preV hK (va_recv hK.1 hP (ci := 5) (q0 := 0) rfl rfl)) rfl rfl hl.1 rfl (lv_room (Nat.le_of_ble_eq_true rfl)) dX5_worthByTable_8 ⟨Nat.le_of_ble_eq_true rfl, Nat.le_of_ble_eq_true rfl⟩) (fun z8 hz8 => ?_)
  refine lv_istore_n (lv' := [(2, .int (nI z8)), (1, .int (nI z2)), (0, .ref (ad 0 0))]) hx hb dX5_worthByTable_11 rfl hl (by decide) rfl (fun ls hl => ?_)
  refine lv_aload_n hx hb dX5_worthByTable_12 rfl (lv_at hl 2 rfl) ?_
  refine lv_iconst (v := nI 2) hx hb dX5_worthByTable_13 (by decide) ?_
  refine ro_calliN (va_runV (As := [.int (nI 2)]) (rest := []) ⟨hx, hb, hml, hown, hts⟩ (c_X5_leftOn l D cy ad σ er ofd de bo ql qs tv hbo hI 2 (by omega) H hP) (cwV 1 hts gX5_worthByTable_X5_leftOn rfl rfl rfl hdX5_leftOn ⟨Nat.le_of_ble_eq_true rfl, Nat.le_of_ble_eq_true rfl⟩) (ro_preV hK (va_recv hK.1 hP (ci := 5) (q0 := 0) rfl rfl)) rfl rfl hl.1 rfl (lv_room (Nat.le_of_ble_eq_true rfl)) dX5_worthByTable_14 ⟨Nat.le_of_ble_eq_true rfl, Nat.le_of_ble_eq_true rfl⟩) (fun z14 hz14 => ?_)
  refine lv_istore_n (lv' := [(3, .int (nI z14)), (2, .int (nI z8)), (1, .int (nI z2)), (0, .ref (ad 0 0))]) hx hb dX5_worthByTable_17 rfl hl (by decide) rfl (fun ls hl => ?_)
  obtain ⟨l0, el0⟩ : ∃ z, z = z2 := ⟨_, rfl⟩
  rw [← el0] at hl
  obtain ⟨l1, el1⟩ : ∃ z, z = z8 := ⟨_, rfl⟩
  rw [← el1] at hl
  obtain ⟨l2, el2⟩ : ∃ z, z = z14 := ⟨_, rfl⟩
  rw [← el2] at hl
  have hl0 : l0 ≤ 10 := by have := hI.lf 0 (by decide); omega
  have hl1 : l1 ≤ 10 := by have := hI.lf 1 (by decide); omega
  have hl2 : l2 ≤ 10 := by have := hI.lf 2 (by decide); omega
  refine lv_aload_n hx hb dX5_worthByTable_18 rfl (lv_at hl 3 rfl) ?_
  refine gf5 (v := .ref (ad 0 18)) hx hb hts fX5_worthByTable_5 hown hK.1 hP 0 5 rfl (by decide) kX5_worthByTable_19 rfl rfl dX5_worthByTable_19 ?_
  refine mw_callv (va_runVN (As := []) (rest := []) ⟨hx, hb, hml, hown, hts⟩ (c_X4_clear l D cy ad (σ 0 0) (σ 0 3) σ er ofd de bo ql qs tv H.size) ⟨va_cnB 0 hts gX5_worthByTable_X4_clear_n208 rfl rfl rfl (hK.2 _ nwm_X5_208 rfl) (hts _ (List.mem_of_getElem? (i := 36) rfl)) hdX4_clear.2 ⟨Nat.le_of_ble_eq_true rfl, Nat.le_of_ble_eq_true rfl⟩, hts _ (List.mem_of_getElem? (i := 35) rfl), hts _ (List.mem_of_getElem? (i := 37) rfl)⟩ (mo_preV hK rfl hP hD (va_recv hK.1 hP (ci := 4) (q0 := 18) rfl rfl)) rfl rfl hl.1 rfl (lv_room (Nat.le_of_ble_eq_true rfl)) dX5_worthByTable_22 ⟨Nat.le_of_ble_eq_true rfl, Nat.le_of_ble_eq_true rfl⟩) hS hD hA (fun u22 H locs hr22 hP hD hS => ?_)
  refine lv_aload_n hx hb dX5_worthByTable_25 rfl (lv_at hl 3 rfl) ?_
  refine gf5 (v := .ref (ad 0 2)) hx hb hts fX5_worthByTable_5 hown hK.1 hP 0 1 rfl (by decide) kX5_worthByTable_26 rfl rfl dX5_worthByTable_26 ?_
  refine lv_astore (lv' := [(4, .ref (ad 0 2)), (3, .int (nI l2)), (2, .int (nI l1)), (1, .int (nI l0)), (0, .ref (ad 0 0))]) hx hb dX5_worthByTable_29 hl (by decide) rfl (fun ls hl => ?_)
  refine lv_aload hx hb dX5_worthByTable_31 (lv_at hl 0 rfl) ?_
  refine ln_alen hx hb hK.1 hP 2 4 rfl rfl dX5_worthByTable_33 ?_
  refine lv_istore (lv' := [(5, .int (nI 8)), (4, .ref (ad 0 2)), (3, .int (nI l2)), (2, .int (nI l1)), (1, .int (nI l0)), (0, .ref (ad 0 0))]) hx hb dX5_worthByTable_34 hl (by decide) rfl (fun ls hl => ?_)
  have K39 : ∀ (n39 : Nat) (k : Nat) (t1 : Nat → Nat), 8 - k < n39 → (k ≤ 8) → (tbIn l0 l1 l2 t1 (vKt σ (min k (σ 0 0)))) → ∀ (H : Heap) (locs : List Loc), va_P D vwCl (WG ad cy (σ 0 0) (σ 0 3) σ er ofd de bo ql qs t1) H → va_D A (WG ad cy (σ 0 0) (σ 0 3) σ er ofd de bo ql qs t1) → va_S A H0 H locs → ∀ ls : Array Slot, lv_has ls 8 [(0, .ref (ad 0 0)), (1, .int (nI l0)), (2, .int (nI l1)), (3, .int (nI l2)), (4, .ref (ad 0 2)), (5, .int (nI 8)), (6, .int (nI k))] → W p l e rmX5_worthByTable s m args below meth c H locs 0 0 Q (F0 m 39 ls []) := by
    intro n39
    induction n39 with
    | zero =>
      intro k t1 hfu
      exact absurd hfu (Nat.not_lt_zero _)
    | succ n39 ih39 =>
      intro k t1 hfu hk8 ht1 H locs hP hD hS ls hl
      have hnp := hI.np
      refine lv_iload hx hb dX5_worthByTable_39 (lv_at hl 6 rfl) ?_
      refine lv_iload hx hb dX5_worthByTable_41 (lv_at hl 5 rfl) ?_
      refine ln_icmp_ge (tgt := 76) hx hb (by omega) (by omega) dX5_worthByTable_43 (by decide) (fun c43 => ?_) (fun c43 => ?_)
      · skip
        refine lv_aload_n hx hb dX5_worthByTable_76 rfl (lv_at hl 0 rfl) ?_
        refine gf5 (v := .ref (ad 0 18)) hx hb hts fX5_worthByTable_5 hown hK.1 hP 0 5 rfl (by decide) kX5_worthByTable_77 rfl rfl dX5_worthByTable_77 ?_
        refine lv_iload_n hx hb dX5_worthByTable_80 rfl (lv_at hl 1 rfl) ?_
        refine lv_iload_n hx hb dX5_worthByTable_81 rfl (lv_at hl 2 rfl) ?_
        refine lv_iload_n hx hb dX5_worthByTable_82 rfl (lv_at hl 3 rfl) ?_
        refine ro_calliN (va_runVN (As := [.int (nI l0), .int (nI l1), .int (nI l2)]) (rest := []) ⟨hx, hb, hml, hown, hts⟩ (c_X4_valueOf l D cy ad (σ 0 0) (σ 0 3) σ er ofd de bo ql qs t1 l0 l1 l2 (by omega) (by omega) (by omega) H hP) ⟨va_cnB 3 hts gX5_worthByTable_X4_valueOf_n215 rfl rfl rfl (hK.2 _ nwm_X5_215 rfl) (hts _ (List.mem_of_getElem? (i := 36) rfl)) hdX4_valueOf.2 ⟨Nat.le_of_ble_eq_true rfl, Nat.le_of_ble_eq_true rfl⟩, hts _ (List.mem_of_getElem? (i := 73) rfl), hts _ (List.mem_of_getElem? (i := 74) rfl)⟩ (ro_preV hK (va_recv hK.1 hP (ci := 4) (q0 := 18) rfl rfl)) rfl rfl hl.1 rfl (lv_room (Nat.le_of_ble_eq_true rfl)) dX5_worthByTable_83 ⟨Nat.le_of_ble_eq_true rfl, Nat.le_of_ble_eq_true rfl⟩) (fun z83 hz83 => ?_)
        exact hret t1 dX5_worthByTable_86 hP hD hS (by rw [hz83, ht1 l0 l1 l2 (Nat.le_refl _) (Nat.le_refl _) (Nat.le_refl _), show min k (σ 0 0) = σ 0 0 by omega, vKt_eq (σ 0 0) (fun i hi => ⟨(hI.pr i hi).1, (hI.pr i hi).2.1⟩) l0 l1 l2 hl0 hl1 hl2, el0, el1, el2, hz2, hz8, hz14]; rfl)
      · skip
        refine lv_aload hx hb dX5_worthByTable_46 (lv_at hl 4 rfl) ?_
        refine lv_iload hx hb dX5_worthByTable_48 (lv_at hl 6 rfl) ?_
        rcases Nat.lt_or_ge k (σ 0 0) with hk | hk
        · skip
          have hpk := hI.pr k hk
          have hnn := hI.nn
          rw [show min k (σ 0 0) = k by omega] at ht1
          refine ln_aaldS (b := ad 1 k) hx hb hK hP 2 4 rfl rfl (by omega) (by decide) (hof.s hk) dX5_worthByTable_50 ?_
          refine lv_astore (lv' := [(7, .ref (ad 1 k)), (0, .ref (ad 0 0)), (1, .int (nI l0)), (2, .int (nI l1)), (3, .int (nI l2)), (4, .ref (ad 0 2)), (5, .int (nI 8)), (6, .int (nI k))]) hx hb dX5_worthByTable_51 hl (by decide) rfl (fun ls hl => ?_)
          refine lv_aload hx hb dX5_worthByTable_53 (lv_at hl 0 rfl) ?_
          refine lv_ifnull hx hb dX5_worthByTable_55 ?_
          refine lv_aload_n hx hb dX5_worthByTable_58 rfl (lv_at hl 1 rfl) ?_
          refine gf5 (v := .ref (ad 0 18)) hx hb hts fX5_worthByTable_5 hown hK.1 hP 0 5 rfl (by decide) kX5_worthByTable_59 rfl rfl dX5_worthByTable_59 ?_
          refine lv_aload hx hb dX5_worthByTable_62 (lv_at hl 0 rfl) ?_
          refine lv_iload_n hx hb dX5_worthByTable_64 rfl (lv_at hl 2 rfl) ?_
          refine lv_iload_n hx hb dX5_worthByTable_65 rfl (lv_at hl 3 rfl) ?_
          refine lv_iload_n hx hb dX5_worthByTable_66 rfl (lv_at hl 4 rfl) ?_
          refine mw_callv (va_runVN (As := [.ref (ad 1 k), .int (nI l0), .int (nI l1), .int (nI l2)]) (rest := []) ⟨hx, hb, hml, hown, hts⟩ (c_X4_admit l D cy ad (σ 0 0) (σ 0 3) σ er ofd de bo ql qs t1 k hk hpk.1 hpk.2.1 hpk.2.2.2.1 hpk.2.2.2.2.1 (by omega) l0 l1 l2 hl0 hl1 hl2 _ ht1 (fun x y z => Nat.le_trans (vKt_le k (fun i hi => (hI.pr i (by omega)).2.2.2.1) x y z) (by omega)) H.size) ⟨va_cnB 4 hts gX5_worthByTable_X4_admit_n211 rfl rfl rfl (hK.2 _ nwm_X5_211 rfl) (hts _ (List.mem_of_getElem? (i := 36) rfl)) hdX4_admit.2 ⟨Nat.le_of_ble_eq_true rfl, Nat.le_of_ble_eq_true rfl⟩, hts _ (List.mem_of_getElem? (i := 44) rfl), hts _ (List.mem_of_getElem? (i := 45) rfl)⟩ (mo_preV hK rfl hP hD (va_recv hK.1 hP (ci := 4) (q0 := 18) rfl rfl)) rfl rfl hl.1 rfl (lv_room (Nat.le_of_ble_eq_true rfl)) dX5_worthByTable_67 ⟨Nat.le_of_ble_eq_true rfl, Nat.le_of_ble_eq_true rfl⟩) hS hD hA (fun u67 H locs hr67 hP hD hS => ?_)
          obtain ⟨z70, hz70⟩ : ∃ z : Nat, z = k + 1 := ⟨_, rfl⟩
          refine lv_iinc (v := nI z70) (lv' := [(6, .int (nI z70)), (7, .ref (ad 1 k)), (0, .ref (ad 0 0)), (1, .int (nI l0)), (2, .int (nI l1)), (3, .int (nI l2)), (4, .ref (ad 0 2)), (5, .int (nI 8))]) hx hb dX5_worthByTable_70 hl (k := 7) rfl (by rw [hz70]; exact nI_add _ 1) (by decide) rfl (fun ls hl => ?_)
          refine lv_goto (tgt := 39) hx hb dX5_worthByTable_73 (by decide) ?_
          exact ih39 z70 u67 (by omega) (by omega) (by rw [hz70, show min (k + 1) (σ 0 0) = k + 1 by omega]; have h9 := hr67; exact h9) H locs hP hD hS ls (lv_sub hl [2, 3, 4, 5, 6, 7, 0] rfl)
        · skip
          refine ln_aaldN hx hb hK hP 2 4 rfl rfl (by omega) (by decide) (hof.z hk) dX5_worthByTable_50 ?_
          refine lv_astoreN (lv' := [(7, .null), (0, .ref (ad 0 0)), (1, .int (nI l0)), (2, .int (nI l1)), (3, .int (nI l2)), (4, .ref (ad 0 2)), (5, .int (nI 8)), (6, .int (nI k))]) hx hb dX5_worthByTable_51 hl (by decide) rfl (fun ls hl => ?_)
          refine lv_aloadN hx hb dX5_worthByTable_53 (lv_at hl 0 rfl) ?_
          refine lv_ifnullN (tgt := 70) hx hb dX5_worthByTable_55 (by decide) ?_
          obtain ⟨z70, hz70⟩ : ∃ z : Nat, z = k + 1 := ⟨_, rfl⟩
          refine lv_iinc (v := nI z70) (lv' := [(6, .int (nI z70)), (7, .null), (0, .ref (ad 0 0)), (1, .int (nI l0)), (2, .int (nI l1)), (3, .int (nI l2)), (4, .ref (ad 0 2)), (5, .int (nI 8))]) hx hb dX5_worthByTable_70 hl (k := 7) rfl (by rw [hz70]; exact nI_add _ 1) (by decide) rfl (fun ls hl => ?_)
          refine lv_goto (tgt := 39) hx hb dX5_worthByTable_73 (by decide) ?_
          exact ih39 z70 t1 (by omega) (by omega) (by rw [show min z70 (σ 0 0) = min k (σ 0 0) by omega]; exact ht1) H locs hP hD hS ls (lv_sub hl [2, 3, 4, 5, 6, 7, 0] rfl)
  refine lv_iconst (v := nI 0) hx hb dX5_worthByTable_36 (by decide) ?_
  refine lv_istore (lv' := [(6, .int (nI 0)), (5, .int (nI 8)), (4, .ref (ad 0 2)), (3, .int (nI l2)), (2, .int (nI l1)), (1, .int (nI l0)), (0, .ref (ad 0 0))]) hx hb dX5_worthByTable_37 hl (by decide) rfl (fun ls hl => ?_)
  exact K39 _ 0 u22 (Nat.lt_succ_self _) (by omega) (fun x y z hx hy hz => by show u22 _ = 0; exact hr22 _ (by omega)) H locs hP hD hS ls (lv_sub hl [6, 5, 4, 3, 2, 1, 0] rfl)
