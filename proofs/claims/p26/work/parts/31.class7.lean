theorem up_ifo {g : Nat → Option Nat} {k : Nat} {x : Option Nat} {j : Nat} : va_up g k x j = if j = k then x else g j := rfl
set_option maxHeartbeats 4000000 in
set_option maxRecDepth 100000 in
theorem c_X5_enter (l : Launch) (D : va_G) (cy : Nat → ClassId) (ad : Nat → Nat → Nat) (σ : SF) (er : Int64) (ofd de bo : Nat → Option Nat) (ql : Nat → Nat) (qs : Nat → Nat → Nat) (tv : Nat → Nat) (q f t n c0 : Nat) (hnb : σ 0 3 < 60) : cMI l D cy yX5_enter wsX5_enter rmX5_enter [.ref (ad 0 0), .ref q] ((WG ad cy (σ 0 0) (σ 0 3) σ er ofd de bo ql qs tv) ++ [(q, .inr (0, [.int (nI f), .int (nI t), .int (nI n), .int (nI c0), .int (nI 0)]))]) (T := Unit) (fun _ => WG ((adB ad (σ 0 3) q)) cy (σ 0 0) ((σ 0 3 + 1)) ((bookF σ f t n c0)) er ofd de ((va_up bo (σ 0 3) (some q))) ql qs tv) (fun r _ => r = nI (σ 0 3)) 0 0 := by
  refine cMI.of (cc := cX5_enter) (maxL := 3) (by decide) rfl (Nat.le_of_ble_eq_true rfl) (Or.inl rfl) ?_
  intro p e s m args below meth c H0 A Q hx hb hml hown hts hP hK hD hS hA hret ls hl
  obtain ⟨H, locs, hH, hlo⟩ : ∃ (H : Heap) (locs : List Loc), H = H0 ∧ locs = [] := ⟨_, _, rfl, rfl⟩
  rw [← hH] at hP
  rw [show va_S A H0 H0 [] = va_S A H0 H locs by rw [hH, hlo]] at hS
  rw [show W p l e rmX5_enter s m args below meth c H0 [] 0 0 Q (F0 m 0 ls []) = W p l e rmX5_enter s m args below meth c H locs 0 0 Q (F0 m 0 ls []) by rw [hH, hlo]]
  refine lv_aload_n hx hb dX5_enter_0 rfl (lv_at hl 0 rfl) ?_
  refine gf5 (v := .int (nI (σ 0 3))) hx hb hts fX5_enter_5 hown hK.1 hP 0 7 rfl (by decide) kX5_enter_1 rfl rfl dX5_enter_1 ?_
  refine lv_istore_n (lv' := [(2, .int (nI (σ 0 3))), (0, .ref (ad 0 0)), (1, .ref q)]) hx hb dX5_enter_4 rfl hl (by decide) rfl (fun ls hl => ?_)
  refine lv_iload_n hx hb dX5_enter_5 rfl (lv_at hl 0 rfl) ?_
  refine ln_if_lt (tgt := 35) hx hb (by omega) dX5_enter_6 (by decide) ?_
  refine lv_iload_n hx hb dX5_enter_9 rfl (lv_at hl 0 rfl) ?_
  refine lv_aload_n hx hb dX5_enter_10 rfl (lv_at hl 1 rfl) ?_
  refine gf5 (v := .ref (ad 0 4)) hx hb hts fX5_enter_5 hown hK.1 hP 0 3 rfl (by decide) kX5_enter_11 rfl rfl dX5_enter_11 ?_
  refine ln_alen hx hb hK.1 hP 4 3 rfl rfl dX5_enter_14 ?_
  refine ln_icmp_ge (tgt := 35) hx hb (by omega) (by omega) dX5_enter_15 (by decide) (fun c15 => ?_) (fun c15 => ?_)
  · skip
    exact absurd c15 (by omega)
  · skip
    refine lv_aload_n hx hb dX5_enter_18 rfl (lv_at hl 1 rfl) ?_
    refine gf5 (v := .ref (ad 0 4)) hx hb hts fX5_enter_5 hown hK.1 hP 0 3 rfl (by decide) kX5_enter_19 rfl rfl dX5_enter_19 ?_
    refine lv_iload_n hx hb dX5_enter_22 rfl (lv_at hl 0 rfl) ?_
    refine lv_aload_n hx hb dX5_enter_23 rfl (lv_at hl 2 rfl) ?_
    refine cr_bo hx hb hK hP hD hS (qk := σ 0 0 + (σ 0 0 + σ 0 3) + 20) WGx_0 (by omega) dX5_enter_24 (fun H locs hP hD hS => ?_)
    refine lv_aload_n hx hb dX5_enter_25 rfl (lv_at hl 1 rfl) ?_
    refine lv_dup hx hb dX5_enter_26 rfl ?_
    refine gf5 (v := .int (nI (σ 0 3))) hx hb hts fX5_enter_5 hown hK.1 hP 0 7 rfl (by decide) kX5_enter_27 rfl rfl dX5_enter_27 ?_
    refine lv_iconst (v := nI 1) hx hb dX5_enter_30 (by decide) ?_
    refine ln_iadd hx hb dX5_enter_31 (fun z31 hz31 => ?_)
    have hP : va_P D vwCl ((WG ad cy (σ 0 0) (σ 0 3) σ er ofd de (va_up bo (σ 0 3) (some q)) ql qs tv) ++ [(q, .inr (0, [.int (nI f), .int (nI t), .int (nI n), .int (nI c0), .int (nI 0)]))]) H := hP
    have hD : va_D A ((WG ad cy (σ 0 0) (σ 0 3) σ er ofd de (va_up bo (σ 0 3) (some q)) ql qs tv) ++ [(q, .inr (0, [.int (nI f), .int (nI t), .int (nI n), .int (nI c0), .int (nI 0)]))]) := hD
    refine pf5 hx hb hts fX5_enter_5 hown hK.1 hP hD hS 0 7 rfl (by decide) kX5_enter_32 rfl rfl (ty := .int) (by decide) rfl rfl (Nat.le_of_ble_eq_true rfl) dX5_enter_32 (fun H locs hP hD hS => ?_)
    refine lv_iload_n hx hb dX5_enter_35 rfl (lv_at hl 0 rfl) ?_
    have hP : va_P D vwCl ((WG ad cy (σ 0 0) (σ 0 3) (va_up σ 0 (va_up (σ 0) 3 z31)) er ofd de (va_up bo (σ 0 3) (some q)) ql qs tv) ++ [(q, .inr (0, [.int (nI f), .int (nI t), .int (nI n), .int (nI c0), .int (nI 0)]))]) H := hP
    have hD : va_D A ((WG ad cy (σ 0 0) (σ 0 3) (va_up σ 0 (va_up (σ 0) 3 z31)) er ofd de (va_up bo (σ 0 3) (some q)) ql qs tv) ++ [(q, .inr (0, [.int (nI f), .int (nI t), .int (nI n), .int (nI c0), .int (nI 0)]))]) := hD
    rw [hz31, enter_eq] at hP hD
    exact hret () dX5_enter_36 hP hD hS rfl
set_option maxHeartbeats 4000000 in
set_option maxRecDepth 100000 in
theorem c_X5_offer (l : Launch) (D : va_G) (cy : Nat → ClassId) (ad : Nat → Nat → Nat) (σ : SF) (er : Int64) (ofd de bo : Nat → Option Nat) (ql : Nat → Nat) (qs : Nat → Nat → Nat) (tv : Nat → Nat) {n : Nat} (hI : Iv n σ) {dl : List Nat} (hDL : DL ad σ de dl) (q tb f t fa : Nat) (hnp8 : σ 0 0 < 8) (hfa : fa ≤ 1000) : cMV l D cy yX5_offer wsX5_offer rmX5_offer [.ref (ad 0 0), .ref q] ((WG ad cy (σ 0 0) (σ 0 3) σ er ofd de bo ql qs tv) ++ [(q, .inr (2, [.int (nI f), .int (nI t), .int (nI fa), .ref tb, .int (nI 0), .int (nI 0), .int (nI 0)])), (tb, .inl (cy 0, 21, .inl (fun j => nI ((va_up (fun _ => 0) 0 (σ 0 1)) j))))]) (T := Nat → Option Nat) (fun u => WG ((adP ad (σ 0 0) q tb)) cy ((σ 0 0 + 1)) (σ 0 3) ((adF σ f t fa)) er ((va_up ofd (σ 0 0) (some q))) u bo ql qs tv) (fun u => ∃ dl2, DL (adP ad (σ 0 0) q tb) (adF σ f t fa) u dl2) 0 0 := by
  refine cMV.of (cc := cX5_offer) (maxL := 3) (by decide) rfl (Nat.le_of_ble_eq_true rfl) ?_
  intro p e s m args below meth c H0 A Q hx hb hml hown hts hP hK hD hS hA hin0 hret ls hl
  obtain ⟨H, locs, hH, hlo⟩ : ∃ (H : Heap) (locs : List Loc), H = H0 ∧ locs = [] := ⟨_, _, rfl, rfl⟩
  rw [← hH] at hP
  rw [show va_S A H0 H0 [] = va_S A H0 H locs by rw [hH, hlo]] at hS
  rw [show W p l e rmX5_offer s m args below meth c H0 [] 0 0 Q (F0 m 0 ls []) = W p l e rmX5_offer s m args below meth c H locs 0 0 Q (F0 m 0 ls []) by rw [hH, hlo]]
  refine lv_aload_n hx hb dX5_offer_0 rfl (lv_at hl 0 rfl) ?_
  refine gf5 (v := .int (nI (σ 0 0))) hx hb hts fX5_offer_5 hown hK.1 hP 0 6 rfl (by decide) kX5_offer_1 rfl rfl dX5_offer_1 ?_
  refine lv_istore_n (lv' := [(2, .int (nI (σ 0 0))), (0, .ref (ad 0 0)), (1, .ref q)]) hx hb dX5_offer_4 rfl hl (by decide) rfl (fun ls hl => ?_)
  refine lv_iload_n hx hb dX5_offer_5 rfl (lv_at hl 0 rfl) ?_
  refine ln_if_lt (tgt := 27) hx hb (by omega) dX5_offer_6 (by decide) ?_
  refine lv_iload_n hx hb dX5_offer_9 rfl (lv_at hl 0 rfl) ?_
  refine lv_aload_n hx hb dX5_offer_10 rfl (lv_at hl 1 rfl) ?_
  refine gf5 (v := .ref (ad 0 2)) hx hb hts fX5_offer_5 hown hK.1 hP 0 1 rfl (by decide) kX5_offer_11 rfl rfl dX5_offer_11 ?_
  refine ln_alen hx hb hK.1 hP 2 4 rfl rfl dX5_offer_14 ?_
  refine ln_icmp_ge (tgt := 27) hx hb (by omega) (by omega) dX5_offer_15 (by decide) (fun c15 => ?_) (fun c15 => ?_)
  · skip
    exact absurd c15 (by omega)
  · skip
    refine lv_iload_n hx hb dX5_offer_18 rfl (lv_at hl 0 rfl) ?_
    refine lv_aload_n hx hb dX5_offer_19 rfl (lv_at hl 1 rfl) ?_
    refine gf5 (v := .ref (ad 0 3)) hx hb hts fX5_offer_5 hown hK.1 hP 0 2 rfl (by decide) kX5_offer_20 rfl rfl dX5_offer_20 ?_
    refine ln_alen hx hb hK.1 hP 3 4 rfl rfl dX5_offer_23 ?_
    refine ln_icmp_lt (tgt := 28) hx hb (by omega) (by omega) dX5_offer_24 (by decide) (fun c24 => ?_) (fun c24 => ?_)
    · skip
      refine lv_aload_n hx hb dX5_offer_28 rfl (lv_at hl 1 rfl) ?_
      refine gf5 (v := .ref (ad 0 2)) hx hb hts fX5_offer_5 hown hK.1 hP 0 1 rfl (by decide) kX5_offer_29 rfl rfl dX5_offer_29 ?_
      refine lv_iload_n hx hb dX5_offer_32 rfl (lv_at hl 0 rfl) ?_
      refine lv_aload_n hx hb dX5_offer_33 rfl (lv_at hl 2 rfl) ?_
      refine cr_of hx hb hK hP hD hS (qk := σ 0 0 + (σ 0 0 + σ 0 3) + 20) WGx_0 (by omega) dX5_offer_34 (fun H locs hP hD hS => ?_)
      refine lv_aload_n hx hb dX5_offer_35 rfl (lv_at hl 1 rfl) ?_
      refine lv_dup hx hb dX5_offer_36 rfl ?_
      refine gf5 (v := .int (nI (σ 0 0))) hx hb hts fX5_offer_5 hown hK.1 hP 0 6 rfl (by decide) kX5_offer_37 rfl rfl dX5_offer_37 ?_
      refine lv_iconst (v := nI 1) hx hb dX5_offer_40 (by decide) ?_
      refine ln_iadd hx hb dX5_offer_41 (fun z41 hz41 => ?_)
      have hP : va_P D vwCl ((WG ad cy (σ 0 0) (σ 0 3) σ er (va_up ofd (σ 0 0) (some q)) de bo ql qs tv) ++ [(q, .inr (2, [.int (nI f), .int (nI t), .int (nI fa), .ref tb, .int (nI 0), .int (nI 0), .int (nI 0)])), (tb, .inl (cy 0, 21, .inl (fun j => nI ((va_up (fun _ => 0) 0 (σ 0 1)) j))))]) H := hP
      have hD : va_D A ((WG ad cy (σ 0 0) (σ 0 3) σ er (va_up ofd (σ 0 0) (some q)) de bo ql qs tv) ++ [(q, .inr (2, [.int (nI f), .int (nI t), .int (nI fa), .ref tb, .int (nI 0), .int (nI 0), .int (nI 0)])), (tb, .inl (cy 0, 21, .inl (fun j => nI ((va_up (fun _ => 0) 0 (σ 0 1)) j))))]) := hD
      refine pf5 hx hb hts fX5_offer_5 hown hK.1 hP hD hS 0 6 rfl (by decide) kX5_offer_42 rfl rfl (ty := .int) (by decide) rfl rfl (Nat.le_of_ble_eq_true rfl) dX5_offer_42 (fun H locs hP hD hS => ?_)
      have hP : va_P D vwCl ((WG ad cy (σ 0 0) (σ 0 3) (va_up σ 0 (va_up (σ 0) 0 z41)) er (va_up ofd (σ 0 0) (some q)) de bo ql qs tv) ++ [(q, .inr (2, [.int (nI f), .int (nI t), .int (nI fa), .ref tb, .int (nI 0), .int (nI 0), .int (nI 0)])), (tb, .inl (cy 0, 21, .inl (fun j => nI ((va_up (fun _ => 0) 0 (σ 0 1)) j))))]) H := hP
      have hD : va_D A ((WG ad cy (σ 0 0) (σ 0 3) (va_up σ 0 (va_up (σ 0) 0 z41)) er (va_up ofd (σ 0 0) (some q)) de bo ql qs tv) ++ [(q, .inr (2, [.int (nI f), .int (nI t), .int (nI fa), .ref tb, .int (nI 0), .int (nI 0), .int (nI 0)])), (tb, .inl (cy 0, 21, .inl (fun j => nI ((va_up (fun _ => 0) 0 (σ 0 1)) j))))]) := hD
      have hdl := hDL.len
      have K98 : ∀ (j0 : Nat) (d : Nat → Option Nat), (j0 ≤ σ 0 0) → (∀ i, d i = if j0 < i ∧ i ≤ σ 0 0 then (dl[i - 1]?).map (ad 1) else (dl[i]?).map (ad 1)) → (∀ i k, j0 ≤ i → dl[i]? = some k → σ 5 k < fa) → (j0 = 0 ∨ ∃ k, dl[j0 - 1]? = some k ∧ fa ≤ σ 5 k) → ∀ (H : Heap) (locs : List Loc), va_P D vwCl ((WG ad cy (σ 0 0) (σ 0 3) (va_up σ 0 (va_up (σ 0) 0 z41)) er (va_up ofd (σ 0 0) (some q)) d bo ql qs tv) ++ [(q, .inr (2, [.int (nI f), .int (nI t), .int (nI fa), .ref tb, .int (nI 0), .int (nI 0), .int (nI 0)])), (tb, .inl (cy 0, 21, .inl (fun j => nI ((va_up (fun _ => 0) 0 (σ 0 1)) j))))]) H → va_D A ((WG ad cy (σ 0 0) (σ 0 3) (va_up σ 0 (va_up (σ 0) 0 z41)) er (va_up ofd (σ 0 0) (some q)) d bo ql qs tv) ++ [(q, .inr (2, [.int (nI f), .int (nI t), .int (nI fa), .ref tb, .int (nI 0), .int (nI 0), .int (nI 0)])), (tb, .inl (cy 0, 21, .inl (fun j => nI ((va_up (fun _ => 0) 0 (σ 0 1)) j))))]) → va_S A H0 H locs → ∀ ls : Array Slot, lv_has ls 3 [(0, .ref (ad 0 0)), (1, .ref q), (2, .int (nI j0))] → W p l e rmX5_offer s m args below meth c H locs 0 0 Q (F0 m 98 ls []) := by
        intro j0 d hj0 hd hlo hex H locs hP hD hS ls hl
        refine lv_aload_n hx hb dX5_offer_98 rfl (lv_at hl 0 rfl) ?_
        refine gf5 (v := .ref (ad 0 3)) hx hb hts fX5_offer_5 hown hK.1 hP 0 2 rfl (by decide) kX5_offer_99 rfl rfl dX5_offer_99 ?_
        refine lv_iload_n hx hb dX5_offer_102 rfl (lv_at hl 2 rfl) ?_
        refine lv_aload_n hx hb dX5_offer_103 rfl (lv_at hl 1 rfl) ?_
        refine cr_de hx hb hK hP hD hS (qk := σ 0 0 + (σ 0 0 + σ 0 3) + 20) WGx_0 (by omega) dX5_offer_104 (fun H locs hP hD hS => ?_)
        have hP : va_P D vwCl ((WG ad cy (σ 0 0) (σ 0 3) (va_up σ 0 (va_up (σ 0) 0 z41)) er (va_up ofd (σ 0 0) (some q)) (va_up d j0 (some q)) bo ql qs tv) ++ [(q, .inr (2, [.int (nI f), .int (nI t), .int (nI fa), .ref tb, .int (nI 0), .int (nI 0), .int (nI 0)])), (tb, .inl (cy 0, 21, .inl (fun j => nI ((va_up (fun _ => 0) 0 (σ 0 1)) j))))]) H := hP
        have hD : va_D A ((WG ad cy (σ 0 0) (σ 0 3) (va_up σ 0 (va_up (σ 0) 0 z41)) er (va_up ofd (σ 0 0) (some q)) (va_up d j0 (some q)) bo ql qs tv) ++ [(q, .inr (2, [.int (nI f), .int (nI t), .int (nI fa), .ref tb, .int (nI 0), .int (nI 0), .int (nI 0)])), (tb, .inl (cy 0, 21, .inl (fun j => nI ((va_up (fun _ => 0) 0 (σ 0 1)) j))))]) := hD
        have hg : (fun j => nI (va_up (fun _ => 0) 0 (σ 0 1) j)) = (fun j => nI (tbR (adF σ f t fa) (σ 0 0) j)) := by
          funext j
          unfold tbR
          show _ = nI (if j < 21 then va_up (σ 9) (21 * σ 0 0) (σ 0 1) (21 * σ 0 0 + j) else 0)
          rw [up_if, up_if]
          by_cases e : j = 0
          · rw [if_pos e, if_pos (by omega), if_pos (by omega)]
          · rw [if_neg e]
            split
            · rw [if_neg (by omega), hI.t0 _ (by omega)]
            · rfl
        rw [hz41, hg] at hP hD
        have h6 := hI.p0 (σ 0 0) (Nat.le_refl _)
        have hp9 := offer_perm (ad := ad) (cy := cy) (B := σ 0 3) (σ := σ) (er := er) (ofd := va_up ofd (σ 0 0) (some q)) (de := va_up d j0 (some q)) (bo := bo) (ql := ql) (qs := qs) (tv := tv) (q := q) (tb := tb) (f := f) (t := t) (c := fa)
        rw [h6.1, h6.2.1, h6.2.2] at hp9
        have hP := hP.mem (fun x hx => hp9.mem_iff.mp hx)
        have hD := hD.perm hp9
        exact hret (va_up d j0 (some q)) dX5_offer_105 hP hD hS ⟨_, DL_ins hDL.2.1 hDL.2.2 hj0 hd hlo hex⟩
      have K45 : ∀ (n45 : Nat) (j0 : Nat) (d : Nat → Option Nat), j0 < n45 → (j0 ≤ σ 0 0) → (∀ i, d i = if j0 < i ∧ i ≤ σ 0 0 then (dl[i - 1]?).map (ad 1) else (dl[i]?).map (ad 1)) → (∀ i k, j0 ≤ i → dl[i]? = some k → σ 5 k < fa) → ∀ (H : Heap) (locs : List Loc), va_P D vwCl ((WG ad cy (σ 0 0) (σ 0 3) (va_up σ 0 (va_up (σ 0) 0 z41)) er (va_up ofd (σ 0 0) (some q)) d bo ql qs tv) ++ [(q, .inr (2, [.int (nI f), .int (nI t), .int (nI fa), .ref tb, .int (nI 0), .int (nI 0), .int (nI 0)])), (tb, .inl (cy 0, 21, .inl (fun j => nI ((va_up (fun _ => 0) 0 (σ 0 1)) j))))]) H → va_D A ((WG ad cy (σ 0 0) (σ 0 3) (va_up σ 0 (va_up (σ 0) 0 z41)) er (va_up ofd (σ 0 0) (some q)) d bo ql qs tv) ++ [(q, .inr (2, [.int (nI f), .int (nI t), .int (nI fa), .ref tb, .int (nI 0), .int (nI 0), .int (nI 0)])), (tb, .inl (cy 0, 21, .inl (fun j => nI ((va_up (fun _ => 0) 0 (σ 0 1)) j))))]) → va_S A H0 H locs → ∀ ls : Array Slot, lv_has ls 3 [(0, .ref (ad 0 0)), (1, .ref q), (2, .int (nI j0))] → W p l e rmX5_offer s m args below meth c H locs 0 0 Q (F0 m 45 ls []) := by
        intro n45
        induction n45 with
        | zero =>
          intro j0 d hfu
          exact absurd hfu (Nat.not_lt_zero _)
        | succ n45 ih45 =>
          intro j0 d hfu hj0 hd hlo H locs hP hD hS ls hl
          refine lv_iload_n hx hb dX5_offer_45 rfl (lv_at hl 2 rfl) ?_
          refine ln_if_le (tgt := 98) hx hb (by omega) dX5_offer_46 (by decide) (fun c46 => ?_) (fun c46 => ?_)
          · skip
            exact K98 j0 d hj0 hd hlo (by first | exact Or.inl (by omega) | exact Or.inr ⟨kk, hkk, by omega⟩) H locs hP hD hS ls (lv_sub hl [0, 1, 2] rfl)
          · skip
            obtain ⟨kk, hkk⟩ : ∃ kk, dl[j0 - 1]? = some kk := ⟨_, List.getElem?_eq_getElem (by omega)⟩
            have hkk8 := hDL.lt hkk
            have hpk := hI.pr kk hkk8
            have hdk : d (j0 - 1) = some (ad 1 kk) := by rw [hd, if_neg (by omega), hkk]; rfl
            refine lv_aload_n hx hb dX5_offer_49 rfl (lv_at hl 0 rfl) ?_
            refine gf5 (v := .ref (ad 0 3)) hx hb hts fX5_offer_5 hown hK.1 hP 0 2 rfl (by decide) kX5_offer_50 rfl rfl dX5_offer_50 ?_
            refine lv_iload_n hx hb dX5_offer_53 rfl (lv_at hl 2 rfl) ?_
            refine lv_iconst (v := nI 1) hx hb dX5_offer_54 (by decide) ?_
            refine ln_isub hx hb (by omega) dX5_offer_55 (fun z55 hz55 => ?_)
            rw [hz55]
            refine ln_aaldS (b := ad 1 kk) hx hb hK hP 3 4 rfl rfl (by omega) (by decide) hdk dX5_offer_56 ?_
            refine lv_ifnull hx hb dX5_offer_57 ?_
            refine lv_aload_n hx hb dX5_offer_60 rfl (lv_at hl 0 rfl) ?_
            refine gf5 (v := .ref (ad 0 3)) hx hb hts fX5_offer_5 hown hK.1 hP 0 2 rfl (by decide) kX5_offer_61 rfl rfl dX5_offer_61 ?_
            refine lv_iload_n hx hb dX5_offer_64 rfl (lv_at hl 2 rfl) ?_
            refine lv_iconst (v := nI 1) hx hb dX5_offer_65 (by decide) ?_
            refine ln_isub hx hb (by omega) dX5_offer_66 (fun z66 hz66 => ?_)
            rw [hz66]
            refine ln_aaldS (b := ad 1 kk) hx hb hK hP 3 4 rfl rfl (by omega) (by decide) hdk dX5_offer_67 ?_
            refine gn2 (v := .int (nI (σ 5 kk))) hx hb hts fX5_offer_2 hown hK.1 hP (kk + 20) 2 (WGx_pd hkk8) (by decide) (hK.2 _ nwf_X5_138 rfl) rfl rfl dX5_offer_68 ?_
            refine lv_aload_n hx hb dX5_offer_71 rfl (lv_at hl 1 rfl) ?_
            refine gn2 (v := .int (nI fa)) hx hb hts fX5_offer_2 hown hK.1 hP (σ 0 0 + (σ 0 0 + σ 0 3) + 20) 2 WGx_0 (by decide) (hK.2 _ nwf_X5_138 rfl) rfl rfl dX5_offer_72 ?_
            refine ln_icmp_ge (tgt := 98) hx hb (by omega) (by omega) dX5_offer_75 (by decide) (fun c75 => ?_) (fun c75 => ?_)
            · skip
              exact K98 j0 d hj0 hd hlo (by first | exact Or.inl (by omega) | exact Or.inr ⟨kk, hkk, by omega⟩) H locs hP hD hS ls (lv_sub hl [0, 1, 2] rfl)
            · skip
              refine lv_aload_n hx hb dX5_offer_78 rfl (lv_at hl 0 rfl) ?_
              refine gf5 (v := .ref (ad 0 3)) hx hb hts fX5_offer_5 hown hK.1 hP 0 2 rfl (by decide) kX5_offer_79 rfl rfl dX5_offer_79 ?_
              refine lv_iload_n hx hb dX5_offer_82 rfl (lv_at hl 2 rfl) ?_
              refine lv_aload_n hx hb dX5_offer_83 rfl (lv_at hl 0 rfl) ?_
              refine gf5 (v := .ref (ad 0 3)) hx hb hts fX5_offer_5 hown hK.1 hP 0 2 rfl (by decide) kX5_offer_84 rfl rfl dX5_offer_84 ?_
              refine lv_iload_n hx hb dX5_offer_87 rfl (lv_at hl 2 rfl) ?_
              refine lv_iconst (v := nI 1) hx hb dX5_offer_88 (by decide) ?_
              refine ln_isub hx hb (by omega) dX5_offer_89 (fun z89 hz89 => ?_)
              rw [hz89]
              refine ln_aaldS (b := ad 1 kk) hx hb hK hP 3 4 rfl rfl (by omega) (by decide) hdk dX5_offer_90 ?_
              refine cr_de hx hb hK hP hD hS (qk := kk + 20) (WGx_pd hkk8) (by omega) dX5_offer_91 (fun H locs hP hD hS => ?_)
              obtain ⟨z92, hz92⟩ : ∃ z : Nat, z = j0 - 1 := ⟨_, rfl⟩
              refine lv_iinc (v := nI z92) (lv' := [(2, .int (nI z92)), (0, .ref (ad 0 0)), (1, .ref q)]) hx hb dX5_offer_92 hl (k := 2) rfl (by rw [hz92]; exact sb_m1 (by omega)) (by decide) rfl (fun ls hl => ?_)
              refine lv_goto (tgt := 45) hx hb dX5_offer_95 (by decide) ?_
              have hP : va_P D vwCl ((WG ad cy (σ 0 0) (σ 0 3) (va_up σ 0 (va_up (σ 0) 0 z41)) er (va_up ofd (σ 0 0) (some q)) (va_up d j0 (some (ad 1 kk))) bo ql qs tv) ++ [(q, .inr (2, [.int (nI f), .int (nI t), .int (nI fa), .ref tb, .int (nI 0), .int (nI 0), .int (nI 0)])), (tb, .inl (cy 0, 21, .inl (fun j => nI ((va_up (fun _ => 0) 0 (σ 0 1)) j))))]) H := hP
              have hD : va_D A ((WG ad cy (σ 0 0) (σ 0 3) (va_up σ 0 (va_up (σ 0) 0 z41)) er (va_up ofd (σ 0 0) (some q)) (va_up d j0 (some (ad 1 kk))) bo ql qs tv) ++ [(q, .inr (2, [.int (nI f), .int (nI t), .int (nI fa), .ref tb, .int (nI 0), .int (nI 0), .int (nI 0)])), (tb, .inl (cy 0, 21, .inl (fun j => nI ((va_up (fun _ => 0) 0 (σ 0 1)) j))))]) := hD
              exact ih45 z92 (va_up d j0 (some (ad 1 kk))) (by omega) (by omega) (fun i => by rw [up_ifo]; by_cases e : i = j0; rw [if_pos e, if_pos (by omega), show i - 1 = j0 - 1 by omega, hkk]; rfl; rw [if_neg e, hd i]; by_cases e2 : j0 < i ∧ i ≤ σ 0 0; rw [if_pos e2, if_pos (by omega)]; rw [if_neg e2, if_neg (by omega)]) (fun i k h1 h2 => by by_cases e : i = j0 - 1; rw [e, hkk] at h2; cases h2; omega; exact hlo i k (by omega) h2) H locs hP hD hS ls (lv_sub hl [1, 2, 0] rfl)
      exact K45 _ (σ 0 0) de (Nat.lt_succ_self _) (by omega) (fun i => by rw [if_neg (by omega)]; exact hDL.1 i) (fun i k h1 h2 => by rw [List.getElem?_eq_none (by omega)] at h2; cases h2) H locs hP hD hS ls (lv_sub hl [1, 2, 0] rfl)
    · skip
      exact absurd c24 (by omega)
