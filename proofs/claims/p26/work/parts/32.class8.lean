/-- one day more, and the first k products have learnt -/
def lnF (σ : SF) (k : Nat) : SF := va_up (va_up (va_up (va_up (va_up σ 0 (va_up (σ 0) 1 (σ 0 1 + 1))) 6 (fun j => if j < k then (σ 8 j + σ 7 j) / (σ 0 1 + 1) else σ 6 j)) 7 (fun j => if j < k then 0 else σ 7 j)) 8 (fun j => if j < k then σ 8 j + σ 7 j else σ 8 j)) 9 (fun j => if j / 21 < k ∧ j % 21 = min (σ 7 (j / 21)) 20 then σ 9 j + 1 else σ 9 j)
theorem va_up_id {f : SF} {r : Nat} {g : Nat → Nat} (h : f r = g) : va_up f r g = f := by
  funext i
  unfold va_up
  split
  · rename_i q; rw [q, h]
  · rfl
theorem two_at {ws : va_W} {i j : Nat} {q r : Nat × va_E} (hi : ws[i]? = some q) (hj : ws[j]? = some r) : [i, j].map (fun i => ws[i]?) = [q, r].map some := by
  show [ws[i]?, ws[j]?] = [some q, some r]
  rw [hi, hj]
theorem lnF_0 (σ : SF) : lnF σ 0 = va_up σ 0 (va_up (σ 0) 1 (σ 0 1 + 1)) := by
  unfold lnF
  rw [← row_0 (F := σ 6) (G := fun j => (σ 8 j + σ 7 j) / (σ 0 1 + 1)), ← row_0 (F := σ 7) (G := fun _ => 0), ← row_0 (F := σ 8) (G := fun j => σ 8 j + σ 7 j), ← tab_0 (F := σ 9) (A := σ 7)]
  exact (va_up_id rfl).trans ((va_up_id rfl).trans ((va_up_id rfl).trans (va_up_id rfl)))
theorem lnF_at (σ : SF) (k : Nat) : lnF σ k 6 k = σ 6 k ∧ lnF σ k 7 k = σ 7 k ∧ lnF σ k 8 k = σ 8 k := ⟨if_neg (Nat.lt_irrefl k), if_neg (Nat.lt_irrefl k), if_neg (Nat.lt_irrefl k)⟩
theorem lnF_tb (σ : SF) (k : Nat) : tbR (lnF σ k) k = tbR σ k := by
  funext j
  unfold tbR
  split
  · show (if (21 * k + j) / 21 < k ∧ _ then _ else σ 9 (21 * k + j)) = _
    rw [if_neg (by omega)]
  · rfl
theorem lnF_tb1 (σ : SF) (k : Nat) : tbR (lnF σ (k + 1)) k = va_up (tbR σ k) (min (σ 7 k) 20) (tbR σ k (min (σ 7 k) 20) + 1) := by
  funext j
  rw [up_if]
  unfold tbR
  by_cases hj : j < 21
  · have hm : min (σ 7 k) 20 < 21 := by omega
    rw [if_pos hj, if_pos hm, if_pos hj]
    show (if (21 * k + j) / 21 < k + 1 ∧ (21 * k + j) % 21 = min (σ 7 ((21 * k + j) / 21)) 20 then σ 9 (21 * k + j) + 1 else σ 9 (21 * k + j)) = _
    rw [show (21 * k + j) / 21 = k by omega, show (21 * k + j) % 21 = j by omega]
    by_cases e : j = min (σ 7 k) 20
    · rw [if_pos ⟨by omega, e⟩, if_pos e, e]
    · rw [if_neg (fun q => e q.2), if_neg e]
  · rw [if_neg hj, if_neg hj, if_neg (by omega)]
theorem learn_rp {ad : Nat → Nat → Nat} {cy : Nat → ClassId} {P B : Nat} {σ : SF} {er : Int64} {ofd de bo : Nat → Option Nat} {ql : Nat → Nat} {qs : Nat → Nat → Nat} {tv : Nat → Nat} {k : Nat} (hk : k < P) : va_rp (WG ad cy P B (lnF σ k) er ofd de bo ql qs tv) [k + 20, P + k + 20] [(ad 1 k, .inr (2, [.int (nI (σ 3 k)), .int (nI (σ 4 k)), .int (nI (σ 5 k)), .ref (ad 2 k), .int (nI ((σ 8 k + σ 7 k) / (σ 0 1 + 1))), .int (nI 0), .int (nI (σ 8 k + σ 7 k))])), (ad 2 k, .inl (cy 0, 21, .inl (fun j => nI (va_up (tbR σ k) (min (σ 7 k) 20) (tbR σ k (min (σ 7 k) 20) + 1) j))))] = WG ad cy P B (lnF σ (k + 1)) er ofd de bo ql qs tv := by
  have s1 := pd_setG (ad := ad) (cy := cy) (P := P) (B := B) (er := er) (ofd := ofd) (de := de) (bo := bo) (ql := ql) (qs := qs) (tv := tv) (σ := lnF σ k) (τ := va_up (lnF σ (k + 1)) 9 (lnF σ k 9)) hk rfl rfl rfl rfl rfl rfl rfl rfl rfl (fun j hj => ⟨rfl, rfl, rfl, by
    show (if j < k + 1 then _ else σ 6 j) = if j < k then _ else σ 6 j
    by_cases q : j < k
    · rw [if_pos q, if_pos (by omega)]
    · rw [if_neg q, if_neg (by omega)], by
    show (if j < k + 1 then _ else σ 7 j) = if j < k then _ else σ 7 j
    by_cases q : j < k
    · rw [if_pos q, if_pos (by omega)]
    · rw [if_neg q, if_neg (by omega)], by
    show (if j < k + 1 then _ else σ 8 j) = if j < k then _ else σ 8 j
    by_cases q : j < k
    · rw [if_pos q, if_pos (by omega)]
    · rw [if_neg q, if_neg (by omega)]⟩)
  have s2 := tb_setG (ad := ad) (cy := cy) (P := P) (B := B) (er := er) (ofd := ofd) (de := de) (bo := bo) (ql := ql) (qs := qs) (tv := tv) (σ := va_up (lnF σ (k + 1)) 9 (lnF σ k 9)) (τ := lnF σ (k + 1)) hk (fun t ht => (if_neg ht).symm) (fun j i hj hi => by
    show (if (21 * j + i) / 21 < k + 1 ∧ (21 * j + i) % 21 = min (σ 7 ((21 * j + i) / 21)) 20 then σ 9 (21 * j + i) + 1 else σ 9 (21 * j + i)) = (if (21 * j + i) / 21 < k ∧ (21 * j + i) % 21 = min (σ 7 ((21 * j + i) / 21)) 20 then σ 9 (21 * j + i) + 1 else σ 9 (21 * j + i))
    by_cases q : (21 * j + i) / 21 < k ∧ (21 * j + i) % 21 = min (σ 7 ((21 * j + i) / 21)) 20
    · rw [if_pos q, if_pos ⟨by omega, q.2⟩]
    · rw [if_neg q, if_neg (fun z => q ⟨by omega, z.2⟩)])
  have e1 : pdC ad (va_up (lnF σ (k + 1)) 9 (lnF σ k 9)) k = (ad 1 k, .inr (2, [.int (nI (σ 3 k)), .int (nI (σ 4 k)), .int (nI (σ 5 k)), .ref (ad 2 k), .int (nI ((σ 8 k + σ 7 k) / (σ 0 1 + 1))), .int (nI 0), .int (nI (σ 8 k + σ 7 k))])) := by
    unfold pdC pdF
    show (ad 1 k, Sum.inr (2, [Value.int (nI (σ 3 k)), Value.int (nI (σ 4 k)), Value.int (nI (σ 5 k)), Value.ref (ad 2 k), Value.int (nI (if k < k + 1 then (σ 8 k + σ 7 k) / (σ 0 1 + 1) else σ 6 k)), Value.int (nI (if k < k + 1 then 0 else σ 7 k)), Value.int (nI (if k < k + 1 then σ 8 k + σ 7 k else σ 8 k))])) = _
    rw [if_pos (Nat.lt_succ_self k), if_pos (Nat.lt_succ_self k), if_pos (Nat.lt_succ_self k)]
  have e2 : tbC ad cy (lnF σ (k + 1)) k = (ad 2 k, .inl (cy 0, 21, .inl (fun j => nI (va_up (tbR σ k) (min (σ 7 k) 20) (tbR σ k (min (σ 7 k) 20) + 1) j)))) := by
    unfold tbC
    rw [lnF_tb1]
  rw [← e1, ← e2]
  show ((WG ad cy P B (lnF σ k) er ofd de bo ql qs tv).set (k + 20) _).set (P + k + 20) _ = _
  rw [s1, s2]
theorem va_nd2 {i j : Nat} (h : i ≠ j) : va_nd [i, j] = true := by simp [va_nd, h]
set_option maxHeartbeats 4000000 in
set_option maxRecDepth 100000 in
theorem c_X5_learn (l : Launch) (D : va_G) (cy : Nat → ClassId) (ad : Nat → Nat → Nat) (σ : SF) (er : Int64) (ofd de bo : Nat → Option Nat) (ql : Nat → Nat) (qs : Nat → Nat → Nat) (tv : Nat → Nat) (hof : OF ad σ ofd) {n : Nat} (hI : Iv n σ) (hn : n < 512) : cMV l D cy yX5_learn wsX5_learn rmX5_learn [.ref (ad 0 0)] (WG ad cy (σ 0 0) (σ 0 3) σ er ofd de bo ql qs tv) (T := Unit) (fun _ => WG ad cy (σ 0 0) (σ 0 3) ((lnF σ (σ 0 0))) er ofd de bo ql qs tv) (fun _ => True) 0 0 := by
  refine cMV.of (cc := cX5_learn) (maxL := 5) (by decide) rfl (Nat.le_of_ble_eq_true rfl) ?_
  intro p e s m args below meth c H0 A Q hx hb hml hown hts hP hK hD hS hA hin0 hret ls hl
  obtain ⟨H, locs, hH, hlo⟩ : ∃ (H : Heap) (locs : List Loc), H = H0 ∧ locs = [] := ⟨_, _, rfl, rfl⟩
  rw [← hH] at hP
  rw [show va_S A H0 H0 [] = va_S A H0 H locs by rw [hH, hlo]] at hS
  rw [show W p l e rmX5_learn s m args below meth c H0 [] 0 0 Q (F0 m 0 ls []) = W p l e rmX5_learn s m args below meth c H locs 0 0 Q (F0 m 0 ls []) by rw [hH, hlo]]
  refine lv_aload_n hx hb dX5_learn_0 rfl (lv_at hl 0 rfl) ?_
  refine lv_dup hx hb dX5_learn_1 rfl ?_
  refine gf5 (v := .int (nI (σ 0 1))) hx hb hts fX5_learn_5 hown hK.1 hP 0 8 rfl (by decide) kX5_learn_2 rfl rfl dX5_learn_2 ?_
  refine lv_iconst (v := nI 1) hx hb dX5_learn_5 (by decide) ?_
  refine ln_iadd hx hb dX5_learn_6 (fun z6 hz6 => ?_)
  refine pf5 hx hb hts fX5_learn_5 hown hK.1 hP hD hS 0 8 rfl (by decide) kX5_learn_7 rfl rfl (ty := .int) (by decide) rfl rfl (Nat.le_of_ble_eq_true rfl) dX5_learn_7 (fun H locs hP hD hS => ?_)
  refine lv_aload_n hx hb dX5_learn_10 rfl (lv_at hl 0 rfl) ?_
  refine gf5 (v := .ref (ad 0 2)) hx hb hts fX5_learn_5 hown hK.1 hP 0 1 rfl (by decide) kX5_learn_11 rfl rfl dX5_learn_11 ?_
  refine lv_astore_n (lv' := [(1, .ref (ad 0 2)), (0, .ref (ad 0 0))]) hx hb dX5_learn_14 rfl hl (by decide) rfl (fun ls hl => ?_)
  refine lv_aload_n hx hb dX5_learn_15 rfl (lv_at hl 0 rfl) ?_
  refine ln_alen hx hb hK.1 hP 2 4 rfl rfl dX5_learn_16 ?_
  refine lv_istore_n (lv' := [(2, .int (nI 8)), (1, .ref (ad 0 2)), (0, .ref (ad 0 0))]) hx hb dX5_learn_17 rfl hl (by decide) rfl (fun ls hl => ?_)
  have hP : va_P D vwCl (WG ad cy (σ 0 0) (σ 0 3) (va_up σ 0 (va_up (σ 0) 1 z6)) er ofd de bo ql qs tv) H := hP
  have hD : va_D A (WG ad cy (σ 0 0) (σ 0 3) (va_up σ 0 (va_up (σ 0) 1 z6)) er ofd de bo ql qs tv) := hD
  rw [hz6, ← lnF_0] at hP hD
  have hP : va_P D vwCl (WG ad cy (σ 0 0) (σ 0 3) ((lnF σ (min 0 (σ 0 0)))) er ofd de bo ql qs tv) H := by rw [Nat.zero_min]; exact hP
  have hD : va_D A (WG ad cy (σ 0 0) (σ 0 3) ((lnF σ (min 0 (σ 0 0)))) er ofd de bo ql qs tv) := by rw [Nat.zero_min]; exact hD
  have K20 : ∀ (n20 : Nat) (k : Nat), 8 - k < n20 → (k ≤ 8) → ∀ (H : Heap) (locs : List Loc), va_P D vwCl (WG ad cy (σ 0 0) (σ 0 3) ((lnF σ (min k (σ 0 0)))) er ofd de bo ql qs tv) H → va_D A (WG ad cy (σ 0 0) (σ 0 3) ((lnF σ (min k (σ 0 0)))) er ofd de bo ql qs tv) → va_S A H0 H locs → ∀ ls : Array Slot, lv_has ls 5 [(0, .ref (ad 0 0)), (1, .ref (ad 0 2)), (2, .int (nI 8)), (3, .int (nI k))] → W p l e rmX5_learn s m args below meth c H locs 0 0 Q (F0 m 20 ls []) := by
    intro n20
    induction n20 with
    | zero =>
      intro k hfu
      exact absurd hfu (Nat.not_lt_zero _)
    | succ n20 ih20 =>
      intro k hfu hk8 H locs hP hD hS ls hl
      have hnp := hI.np
      have hdy := hI.dy
      refine lv_iload_n hx hb dX5_learn_20 rfl (lv_at hl 3 rfl) ?_
      refine lv_iload_n hx hb dX5_learn_21 rfl (lv_at hl 2 rfl) ?_
      refine ln_icmp_ge (tgt := 50) hx hb (by omega) (by omega) dX5_learn_22 (by decide) (fun c22 => ?_) (fun c22 => ?_)
      · skip
        rw [show min k (σ 0 0) = σ 0 0 by omega] at hP hD
        exact hret () dX5_learn_50 hP hD hS trivial
      · skip
        refine lv_aload_n hx hb dX5_learn_25 rfl (lv_at hl 1 rfl) ?_
        refine lv_iload_n hx hb dX5_learn_26 rfl (lv_at hl 3 rfl) ?_
        rcases Nat.lt_or_ge k (σ 0 0) with hk | hk
        · skip
          have hpk := hI.pr k hk
          rw [show min k (σ 0 0) = k by omega] at hP hD
          have h9 := lnF_at σ k
          have hD2 : va_D A [pdC ad (lnF σ k) k, tbC ad cy (lnF σ k) k] := hD.sub [k + 20, σ 0 0 + k + 20] (va_nd2 (by omega)) (two_at (WG_pd hk) (WG_tb hk))
          refine ln_aaldS (b := ad 1 k) hx hb hK hP 2 4 rfl rfl (by omega) (by decide) (hof.s hk) dX5_learn_27 ?_
          refine lv_astore (lv' := [(4, .ref (ad 1 k)), (0, .ref (ad 0 0)), (1, .ref (ad 0 2)), (2, .int (nI 8)), (3, .int (nI k))]) hx hb dX5_learn_28 hl (by decide) rfl (fun ls hl => ?_)
          refine lv_aload hx hb dX5_learn_30 (lv_at hl 0 rfl) ?_
          refine lv_ifnull hx hb dX5_learn_32 ?_
          refine lv_aload hx hb dX5_learn_35 (lv_at hl 0 rfl) ?_
          refine lv_aload_n hx hb dX5_learn_37 rfl (lv_at hl 1 rfl) ?_
          refine gf5 (v := .int (nI ((lnF σ k) 0 1))) hx hb hts fX5_learn_5 hown hK.1 hP 0 8 rfl (by decide) kX5_learn_38 rfl rfl dX5_learn_38 ?_
          refine mp_callv (va_runVN (As := [.int (nI ((lnF σ k) 0 1))]) (rest := []) ⟨hx, hb, hml, hown, hts⟩ (c_X2_learn l D cy (ad 1 k) (ad 2 k) (σ 3 k) (σ 4 k) (σ 5 k) (lnF σ k 6 k) (lnF σ k 7 k) (lnF σ k 8 k) (tbR (lnF σ k) k) (σ 0 1 + 1) (by omega) (by omega) (by omega) (by omega) H.size) ⟨va_cnB 1 hts gX5_learn_X2_learn_n242 rfl rfl rfl (hK.2 _ nwm_X5_242 rfl) (hts _ (List.mem_of_getElem? (i := 4) rfl)) hdX2_learn.2 ⟨Nat.le_of_ble_eq_true rfl, Nat.le_of_ble_eq_true rfl⟩, hts _ (List.mem_of_getElem? (i := 3) rfl), hts _ (List.mem_of_getElem? (i := 5) rfl)⟩ (mo_preV hK rfl (hP.two (WG_pd hk) (WG_tb hk)) hD2 (va_recv hK.1 hP (ci := 2) (q0 := (k + 20)) rfl (WG_pd hk))) rfl rfl hl.1 rfl (lv_room (Nat.le_of_ble_eq_true rfl)) dX5_learn_41 ⟨Nat.le_of_ble_eq_true rfl, Nat.le_of_ble_eq_true rfl⟩) hS hP hD hA [k + 20, σ 0 0 + k + 20] (two_at (WG_pd hk) (WG_tb hk)) (fun u => rfl) (fun u41 H locs hr41 hP hD hS => ?_)
          rw [h9.2.1, h9.2.2, lnF_tb, learn_rp hk] at hP hD
          obtain ⟨z44, hz44⟩ : ∃ z : Nat, z = k + 1 := ⟨_, rfl⟩
          refine lv_iinc (v := nI z44) (lv' := [(3, .int (nI z44)), (4, .ref (ad 1 k)), (0, .ref (ad 0 0)), (1, .ref (ad 0 2)), (2, .int (nI 8))]) hx hb dX5_learn_44 hl (k := 4) rfl (by rw [hz44]; exact nI_add _ 1) (by decide) rfl (fun ls hl => ?_)
          rw [show k + 1 = min z44 (σ 0 0) by omega] at hP hD
          refine lv_goto (tgt := 20) hx hb dX5_learn_47 (by decide) ?_
          exact ih20 z44 (by omega) (by omega) H locs hP hD hS ls (lv_sub hl [2, 3, 4, 0] rfl)
        · skip
          refine ln_aaldN hx hb hK hP 2 4 rfl rfl (by omega) (by decide) (hof.z hk) dX5_learn_27 ?_
          refine lv_astoreN (lv' := [(4, .null), (0, .ref (ad 0 0)), (1, .ref (ad 0 2)), (2, .int (nI 8)), (3, .int (nI k))]) hx hb dX5_learn_28 hl (by decide) rfl (fun ls hl => ?_)
          refine lv_aloadN hx hb dX5_learn_30 (lv_at hl 0 rfl) ?_
          refine lv_ifnullN (tgt := 44) hx hb dX5_learn_32 (by decide) ?_
          obtain ⟨z44, hz44⟩ : ∃ z : Nat, z = k + 1 := ⟨_, rfl⟩
          refine lv_iinc (v := nI z44) (lv' := [(3, .int (nI z44)), (4, .null), (0, .ref (ad 0 0)), (1, .ref (ad 0 2)), (2, .int (nI 8))]) hx hb dX5_learn_44 hl (k := 4) rfl (by rw [hz44]; exact nI_add _ 1) (by decide) rfl (fun ls hl => ?_)
          rw [show min k (σ 0 0) = min z44 (σ 0 0) by omega] at hP hD
          refine lv_goto (tgt := 20) hx hb dX5_learn_47 (by decide) ?_
          exact ih20 z44 (by omega) (by omega) H locs hP hD hS ls (lv_sub hl [2, 3, 4, 0] rfl)
  refine lv_iconst (v := nI 0) hx hb dX5_learn_18 (by decide) ?_
  refine lv_istore_n (lv' := [(3, .int (nI 0)), (2, .int (nI 8)), (1, .ref (ad 0 2)), (0, .ref (ad 0 0))]) hx hb dX5_learn_19 rfl hl (by decide) rfl (fun ls hl => ?_)
  exact K20 _ 0 (Nat.lt_succ_self _) (by omega) H locs hP hD hS ls (lv_sub hl [3, 2, 1, 0] rfl)
