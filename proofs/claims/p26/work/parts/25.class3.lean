abbrev rmJ7_fill_53178 : Room := { frames := 0, cells := 0, slots := 0, locals := 0 }
theorem hdJ7_fill_53178 : yJ7_fill_53178.cls = RJ7 ∧ yJ7_fill_53178.cls ≠ "java/lang/invoke/MethodHandle" ∧ yJ7_fill_53178.cls ≠ "java/lang/invoke/VarHandle" ∧ (parseMethodDescriptor yJ7_fill_53178.desc).map (fun d => d.parameters.length) = some 2 := by decide +kernel
theorem dm_lt {av : Int32} {a1 d : Nat} (h : av = nI a1 + (-1)) (ha : a1 < 1000) (hd : d < 1000) : av < nI d ↔ a1 ≤ d := by
  cases a1 with
  | zero =>
    subst h
    rw [Int32.lt_iff_toInt_lt, nI_toInt (by omega), show (nI 0 + (-1)).toInt = -1 by decide]
    omega
  | succ k => rw [h, pk_m1, nI_ltI (by omega) (by omega)]; omega
theorem vAdd_out {T : TB} {da db dc f a b c : Nat} (h : ¬ (da ≤ a ∧ db ≤ b ∧ dc ≤ c)) : vAdd T da db dc f a b c = T a b c := by unfold vAdd; rw [if_neg h]; omega
theorem vAdd_in {T : TB} {da db dc f a b c : Nat} (h : da ≤ a ∧ db ≤ b ∧ dc ≤ c) : vAdd T da db dc f a b c = max (T a b c) (T (a - da) (b - db) (c - dc) + f) := by unfold vAdd; rw [if_pos h]
theorem vAdd_le {T : TB} {da db dc f B : Nat} (h : ∀ a b c, T a b c ≤ B) : ∀ a b c, vAdd T da db dc f a b c ≤ B + f := by
  intro a b c
  unfold vAdd
  have h1 := h a b c
  have h2 := h (a - da) (b - db) (c - dc)
  split <;> omega
theorem vRep_le {T : TB} {da db dc f B : Nat} (h : ∀ a b c, T a b c ≤ B) : ∀ m a b c, vRep T da db dc f m a b c ≤ B + f * m := by
  intro m
  induction m with
  | zero => intro a b c; have := h a b c; show T a b c ≤ _; omega
  | succ m ih => intro a b c; have := vAdd_le (da := da) (db := db) (dc := dc) (f := f) ih a b c; rw [Nat.mul_succ]; show vAdd (vRep T da db dc f m) da db dc f a b c ≤ _; omega
theorem vKt_le {σ : SF} : ∀ P, (∀ k, k < P → σ 5 k ≤ 1000) → ∀ a b c, vKt σ P a b c ≤ 10000 * P := by
  intro P
  induction P with
  | zero => intro _ a b c; exact Nat.zero_le _
  | succ P ih =>
    intro h a b c
    have h1 := vRep_le (da := dA σ P 0) (db := dA σ P 1) (dc := dA σ P 2) (f := σ 5 P) (ih (fun k hk => h k (by omega))) (min (σ 6 P - σ 7 P) 10) a b c
    have h2 := Nat.mul_le_mul (h P (by omega)) (show min (σ 6 P - σ 7 P) 10 ≤ 10 by omega)
    show vRep (vKt σ P) _ _ _ _ _ a b c ≤ _
    omega
def tbIn (l0 l1 l2 : Nat) (t : Nat → Nat) (T : TB) : Prop := ∀ x y z, x ≤ l0 → y ≤ l1 → z ≤ l2 → t ((x * 11 + y) * 11 + z) = T x y z
theorem row_step {T : TB} {t u : Nat → Nat} {v0 v1 v2 f l0 l1 l2 a b : Nat} (g0 : v0 ≤ 1) (g1 : v1 ≤ 1) (g2 : v2 ≤ 1) (ha : a ≤ l0) (hb : b ≤ l1) (k0 : l0 ≤ 10) (k1 : l1 ≤ 10) (k2 : l2 ≤ 10) (hv0 : v0 ≤ a) (hv1 : v1 ≤ b)
    (ht : tbIn l0 l1 l2 t (fun x y z => if a + 1 ≤ x ∨ (x = a ∧ b + 1 ≤ y) then vAdd T v0 v1 v2 f x y z else T x y z))
    (hu : ∀ j, u j = if (a * 11 + b) * 11 + v2 ≤ j ∧ j ≤ (a * 11 + b) * 11 + l2 then max (t j) (t (j - ((v0 * 11 + v1) * 11 + v2)) + f) else t j) :
    tbIn l0 l1 l2 u (fun x y z => if a + 1 ≤ x ∨ (x = a ∧ b ≤ y) then vAdd T v0 v1 v2 f x y z else T x y z) := by
  intro x y z hx hy hz
  dsimp only
  rw [hu]
  by_cases q : x = a ∧ y = b
  · obtain ⟨rfl, rfl⟩ := q
    rw [if_pos (Or.inr ⟨rfl, Nat.le_refl _⟩)]
    have e1 := ht x y z hx hy hz
    dsimp only at e1
    rw [if_neg (by omega)] at e1
    by_cases q2 : v2 ≤ z
    · rw [if_pos (by omega), e1, vAdd_in ⟨hv0, hv1, q2⟩]
      have e2 := ht (x - v0) (y - v1) (z - v2) (by omega) (by omega) (by omega)
      dsimp only at e2
      rw [if_neg (by omega)] at e2
      rw [← e2]
      congr 2
      congr 1
      omega
    · rw [if_neg (by omega), e1, vAdd_out (by omega)]
  · rw [if_neg (by omega), ht x y z hx hy hz]
    dsimp only
    by_cases q3 : a + 1 ≤ x ∨ (x = a ∧ b + 1 ≤ y)
    · rw [if_pos q3, if_pos (by omega)]
    · rw [if_neg q3, if_neg (by omega)]
theorem row_end {T : TB} {t : Nat → Nat} {v0 v1 v2 f l0 l1 l2 a b1 : Nat} (hb : b1 ≤ v1) (ht : tbIn l0 l1 l2 t (fun x y z => if a + 1 ≤ x ∨ (x = a ∧ b1 ≤ y) then vAdd T v0 v1 v2 f x y z else T x y z)) : tbIn l0 l1 l2 t (fun x y z => if a ≤ x then vAdd T v0 v1 v2 f x y z else T x y z) := by
  intro x y z hx hy hz
  rw [ht x y z hx hy hz]
  dsimp only
  by_cases q : a + 1 ≤ x ∨ (x = a ∧ b1 ≤ y)
  · rw [if_pos q, if_pos (by omega)]
  · rw [if_neg q]
    split
    · rw [vAdd_out (by omega)]
    · rfl
theorem tab_end {T : TB} {t : Nat → Nat} {v0 v1 v2 f l0 l1 l2 a1 : Nat} (ha : a1 ≤ v0) (ht : tbIn l0 l1 l2 t (fun x y z => if a1 ≤ x then vAdd T v0 v1 v2 f x y z else T x y z)) : tbIn l0 l1 l2 t (vAdd T v0 v1 v2 f) := by
  intro x y z hx hy hz
  rw [ht x y z hx hy hz]
  dsimp only
  split
  · rfl
  · rw [vAdd_out (by omega)]
theorem rr_s {tv t t2 : Nat → Nat} {st fa mo ce z : Nat} (ht : ∀ j, t j = if ce < j ∧ j ≤ mo then max (tv j) (tv (j - st) + fa) else tv j) (hcm : ce ≤ mo) (h2 : ∀ j, t2 j = if j = ce then max (tv ce) (tv (ce - st) + fa) else t j) (hz : z + 1 = ce) : ∀ j, t2 j = if z < j ∧ j ≤ mo then max (tv j) (tv (j - st) + fa) else tv j := by
  intro j
  rw [h2]
  by_cases q : j = ce
  · subst q; rw [if_pos rfl, if_pos (by omega)]
  · rw [if_neg q, ht]
    by_cases q2 : ce < j ∧ j ≤ mo
    · rw [if_pos q2, if_pos (by omega)]
    · rw [if_neg q2, if_neg (by omega)]
set_option maxHeartbeats 4000000 in
set_option maxRecDepth 100000 in
theorem c_J7_fill_53178 (l : Launch) (D : va_G) (cy : Nat → ClassId) (a : Nat) (g : Nat → Nat) : cMV l D cy yJ7_fill_53178 wsJ7_fill_53178 rmJ7_fill_53178 [.ref a, .int (nI 0)] ([(a, .inl (cy 0, 1331, .inl (fun j => nI (g j))))]) (T := Nat → Nat) (fun u => [(a, .inl (cy 0, 1331, .inl (fun j => nI (u j))))]) (fun u => ∀ j, j < 1331 → u j = 0) 0 0 := by
  refine cMV.of (cc := cJ7_fill_53178) (maxL := 4) (by decide) rfl (Nat.le_of_ble_eq_true rfl) ?_
  intro p e s m args below meth c H0 A Q hx hb hml hown hts hP hK hD hS hA hin0 hret ls hl
  obtain ⟨H, locs, hH, hlo⟩ : ∃ (H : Heap) (locs : List Loc), H = H0 ∧ locs = [] := ⟨_, _, rfl, rfl⟩
  rw [← hH] at hP
  rw [show va_S A H0 H0 [] = va_S A H0 H locs by rw [hH, hlo]] at hS
  rw [show W p l e rmJ7_fill_53178 s m args below meth c H0 [] 0 0 Q (F0 m 0 ls []) = W p l e rmJ7_fill_53178 s m args below meth c H locs 0 0 Q (F0 m 0 ls []) by rw [hH, hlo]]
  refine lv_iconst (v := nI 0) hx hb dJ7_fill_53178_0 (by decide) ?_
  refine lv_istore_n (lv' := [(2, .int (nI 0)), (0, .ref a), (1, .int (nI 0))]) hx hb dJ7_fill_53178_1 rfl hl (by decide) rfl (fun ls hl => ?_)
  refine lv_aload_n hx hb dJ7_fill_53178_2 rfl (lv_at hl 1 rfl) ?_
  refine ln_alen hx hb hK.1 hP 0 0 rfl rfl dJ7_fill_53178_3 ?_
  refine lv_istore_n (lv' := [(3, .int (nI 1331)), (2, .int (nI 0)), (0, .ref a), (1, .int (nI 0))]) hx hb dJ7_fill_53178_4 rfl hl (by decide) rfl (fun ls hl => ?_)
  have K5 : ∀ (n5 : Nat) (k : Nat) (g2 : Nat → Nat), 1331 - k < n5 → (k ≤ 1331) → (∀ j, j < k → g2 j = 0) → ∀ (H : Heap) (locs : List Loc), va_P D vwCl ([(a, .inl (cy 0, 1331, .inl (fun j => nI (g2 j))))]) H → va_D A ([(a, .inl (cy 0, 1331, .inl (fun j => nI (g2 j))))]) → va_S A H0 H locs → ∀ ls : Array Slot, lv_has ls 4 [(0, .ref a), (1, .int (nI 0)), (3, .int (nI 1331)), (2, .int (nI k))] → W p l e rmJ7_fill_53178 s m args below meth c H locs 0 0 Q (F0 m 5 ls []) := by
    intro n5
    induction n5 with
    | zero =>
      intro k g2 hfu
      exact absurd hfu (Nat.not_lt_zero _)
    | succ n5 ih5 =>
      intro k g2 hfu hk hg H locs hP hD hS ls hl
      refine lv_iload_n hx hb dJ7_fill_53178_5 rfl (lv_at hl 3 rfl) ?_
      refine lv_iload_n hx hb dJ7_fill_53178_6 rfl (lv_at hl 2 rfl) ?_
      refine ln_icmp_ge (tgt := 20) hx hb (by omega) (by omega) dJ7_fill_53178_7 (by decide) (fun c7 => ?_) (fun c7 => ?_)
      · skip
        exact hret g2 dJ7_fill_53178_20 hP hD hS (fun j hj => hg j (by omega))
      · skip
        refine lv_aload_n hx hb dJ7_fill_53178_10 rfl (lv_at hl 0 rfl) ?_
        refine lv_iload_n hx hb dJ7_fill_53178_11 rfl (lv_at hl 3 rfl) ?_
        refine lv_iload_n hx hb dJ7_fill_53178_12 rfl (lv_at hl 1 rfl) ?_
        refine ln_iast (g := g2) hx hb hK.1 hP hD hS 0 0 rfl rfl (by omega) (by decide) dJ7_fill_53178_13 (fun H locs hP hD hS => ?_)
        obtain ⟨z14, hz14⟩ : ∃ z : Nat, z = k + 1 := ⟨_, rfl⟩
        refine lv_iinc (v := nI z14) (lv' := [(2, .int (nI z14)), (0, .ref a), (1, .int (nI 0)), (3, .int (nI 1331))]) hx hb dJ7_fill_53178_14 hl (k := 3) rfl (by rw [hz14]; exact nI_add _ 1) (by decide) rfl (fun ls hl => ?_)
        refine lv_goto (tgt := 5) hx hb dJ7_fill_53178_17 (by decide) ?_
        have hP : va_P D vwCl ([(a, .inl (cy 0, 1331, .inl (fun j => nI (va_up g2 k 0 j))))]) H := hP
        have hD : va_D A ([(a, .inl (cy 0, 1331, .inl (fun j => nI (va_up g2 k 0 j))))]) := hD
        exact ih5 z14 (va_up g2 k 0) (by omega) (by omega) (fun j hj => by unfold va_up; by_cases q : j = k; exact if_pos q; rw [if_neg q]; exact hg j (by omega)) H locs hP hD hS ls (lv_sub hl [1, 2, 3, 0] rfl)
  exact K5 _ 0 g (Nat.lt_succ_self _) (by omega) (fun j hj => absurd hj (Nat.not_lt_zero _)) H locs hP hD hS ls (lv_sub hl [2, 3, 0, 1] rfl)
set_option maxHeartbeats 4000000 in
set_option maxRecDepth 100000 in
theorem c_X4_cellOf (l : Launch) (D : va_G) (cy : Nat → ClassId) (a b g : Nat) : cRO l D cy yX4_cellOf wsX4_cellOf rmX4_cellOf [.int (nI a), .int (nI b), .int (nI g)] ([]) (pN ((a * 11 + b) * 11 + g)) := by
  refine cRO.of (cc := cX4_cellOf) (maxL := 3) (by decide) rfl (Nat.le_of_ble_eq_true rfl) (Or.inl rfl) ?_
  intro p e s m args below meth c H Q hx hb hml hown hts hP hK hret ls hl
  refine lv_iload_n hx hb dX4_cellOf_0 rfl (lv_at hl 0 rfl) ?_
  refine lv_bipush (v := nI 11) hx hb dX4_cellOf_1 (by decide) ?_
  refine ln_imul hx hb dX4_cellOf_3 (fun z3 hz3 => ?_)
  refine lv_iload_n hx hb dX4_cellOf_4 rfl (lv_at hl 1 rfl) ?_
  refine ln_iadd hx hb dX4_cellOf_5 (fun z5 hz5 => ?_)
  refine lv_bipush (v := nI 11) hx hb dX4_cellOf_6 (by decide) ?_
  refine ln_imul hx hb dX4_cellOf_8 (fun z8 hz8 => ?_)
  refine lv_iload_n hx hb dX4_cellOf_9 rfl (lv_at hl 2 rfl) ?_
  refine ln_iadd hx hb dX4_cellOf_10 (fun z10 hz10 => ?_)
  exact hret dX4_cellOf_11 (pnE (by omega))
set_option maxHeartbeats 4000000 in
set_option maxRecDepth 100000 in
theorem c_X4_clear (l : Launch) (D : va_G) (cy : Nat → ClassId) (ad : Nat → Nat → Nat) (P B : Nat) (σ : SF) (er : Int64) (ofd de bo : Nat → Option Nat) (ql : Nat → Nat) (qs : Nat → Nat → Nat) (tv : Nat → Nat) : cMV l D cy yX4_clear wsX4_clear rmX4_clear [.ref (ad 0 18)] (WG ad cy P B σ er ofd de bo ql qs tv) (T := Nat → Nat) (fun u => WG ad cy P B σ er ofd de bo ql qs u) (fun u => ∀ j, j < 1331 → u j = 0) 0 0 := by
  refine cMV.of (cc := cX4_clear) (maxL := 1) (by decide) rfl (Nat.le_of_ble_eq_true rfl) ?_
  intro p e s m args below meth c H0 A Q hx hb hml hown hts hP hK hD hS hA hin0 hret ls hl
  obtain ⟨H, locs, hH, hlo⟩ : ∃ (H : Heap) (locs : List Loc), H = H0 ∧ locs = [] := ⟨_, _, rfl, rfl⟩
  rw [← hH] at hP
  rw [show va_S A H0 H0 [] = va_S A H0 H locs by rw [hH, hlo]] at hS
  rw [show W p l e rmX4_clear s m args below meth c H0 [] 0 0 Q (F0 m 0 ls []) = W p l e rmX4_clear s m args below meth c H locs 0 0 Q (F0 m 0 ls []) by rw [hH, hlo]]
  refine lv_aload_n hx hb dX4_clear_0 rfl (lv_at hl 0 rfl) ?_
  refine gf4 (v := .ref (ad 0 19)) hx hb hts fX4_clear_4 hown hK.1 hP 18 0 rfl (by decide) kX4_clear_1 rfl rfl dX4_clear_1 ?_
  refine lv_iconst (v := nI 0) hx hb dX4_clear_4 (by decide) ?_
  refine mp_callv (va_runS (As := [.ref (ad 0 19), .int (nI 0)]) (rest := []) ⟨hx, hb, hml, hown, hts⟩ (c_J7_fill_53178 l D cy (ad 0 19) (tv) H.size) (va_cwS 2 hts gX4_clear_J7_fill_53178 rfl rfl rfl hdJ7_fill_53178.2 ⟨Nat.le_of_ble_eq_true rfl, Nat.le_of_ble_eq_true rfl⟩) (mo_pre hK rfl (hP.one (i := 19) rfl) (hD.sub [19] (by decide) rfl)) rfl rfl hl.1 rfl (lv_room (Nat.le_of_ble_eq_true rfl)) dX4_clear_5 ⟨Nat.le_of_ble_eq_true rfl, Nat.le_of_ble_eq_true rfl⟩) hS hP hD hA [19] rfl (fun u => rfl) (fun u5 H locs hr5 hP hD hS => ?_)
  have hP : va_P D vwCl (WG ad cy P B σ er ofd de bo ql qs u5) H := hP
  have hD : va_D A (WG ad cy P B σ er ofd de bo ql qs u5) := hD
  exact hret u5 dX4_clear_8 hP hD hS hr5
set_option maxHeartbeats 4000000 in
set_option maxRecDepth 100000 in
theorem c_X4_valueOf (l : Launch) (D : va_G) (cy : Nat → ClassId) (ad : Nat → Nat → Nat) (P B : Nat) (σ : SF) (er : Int64) (ofd de bo : Nat → Option Nat) (ql : Nat → Nat) (qs : Nat → Nat → Nat) (tv : Nat → Nat) (a b g : Nat) (ha : a ≤ 10) (hb : b ≤ 10) (hg : g ≤ 10) : cRO l D cy yX4_valueOf wsX4_valueOf rmX4_valueOf [.ref (ad 0 18), .int (nI a), .int (nI b), .int (nI g)] (WG ad cy P B σ er ofd de bo ql qs tv) (pN (tv ((a * 11 + b) * 11 + g))) := by
  refine cRO.of (cc := cX4_valueOf) (maxL := 5) (by decide) rfl (Nat.le_of_ble_eq_true rfl) (Or.inl rfl) ?_
  intro p e s m args below meth c H Q hx hb hml hown hts hP hK hret ls hl
  refine lv_iload_n hx hb dX4_valueOf_0 rfl (lv_at hl 1 rfl) ?_
  refine lv_iload_n hx hb dX4_valueOf_1 rfl (lv_at hl 2 rfl) ?_
  refine lv_iload_n hx hb dX4_valueOf_2 rfl (lv_at hl 3 rfl) ?_
  refine ro_calliN (va_runS (As := [.int (nI a), .int (nI b), .int (nI g)]) (rest := []) ⟨hx, hb, hml, hown, hts⟩ (c_X4_cellOf l D cy a b g H va_P0) (va_cwS 3 hts gX4_valueOf_X4_cellOf rfl rfl rfl hdX4_cellOf.2 ⟨Nat.le_of_ble_eq_true rfl, Nat.le_of_ble_eq_true rfl⟩) (ro_pre hK rfl) rfl rfl hl.1 rfl (lv_room (Nat.le_of_ble_eq_true rfl)) dX4_valueOf_3 ⟨Nat.le_of_ble_eq_true rfl, Nat.le_of_ble_eq_true rfl⟩) (fun z3 hz3 => ?_)
  refine lv_istore (lv' := [(4, .int (nI z3)), (0, .ref (ad 0 18)), (1, .int (nI a)), (2, .int (nI b)), (3, .int (nI g))]) hx hb dX4_valueOf_6 hl (by decide) rfl (fun ls hl => ?_)
  refine lv_iload hx hb dX4_valueOf_8 (lv_at hl 0 rfl) ?_
  refine ln_if_lt (tgt := 33) hx hb (by omega) dX4_valueOf_10 (by decide) ?_
  refine lv_iload hx hb dX4_valueOf_13 (lv_at hl 0 rfl) ?_
  refine lv_aload_n hx hb dX4_valueOf_15 rfl (lv_at hl 1 rfl) ?_
  refine gf4 (v := .ref (ad 0 19)) hx hb hts fX4_valueOf_4 hown hK.1 hP 18 0 rfl (by decide) kX4_valueOf_16 rfl rfl dX4_valueOf_16 ?_
  refine ln_alen hx hb hK.1 hP 19 0 rfl rfl dX4_valueOf_19 ?_
  refine ln_icmp_ge (tgt := 33) hx hb (by omega) (by omega) dX4_valueOf_20 (by decide) (fun c20 => ?_) (fun c20 => ?_)
  · skip
    exact absurd c20 (by omega)
  · skip
    refine lv_aload_n hx hb dX4_valueOf_23 rfl (lv_at hl 1 rfl) ?_
    refine gf4 (v := .ref (ad 0 19)) hx hb hts fX4_valueOf_4 hown hK.1 hP 18 0 rfl (by decide) kX4_valueOf_24 rfl rfl dX4_valueOf_24 ?_
    refine lv_iload hx hb dX4_valueOf_27 (lv_at hl 0 rfl) ?_
    refine ln_iald (g := tv) hx hb hK.1 hP 19 0 rfl rfl (by omega) (by decide) dX4_valueOf_29 ?_
    refine lv_goto (tgt := 34) hx hb dX4_valueOf_30 (by decide) ?_
    exact hret dX4_valueOf_34 (pnE (by rw [hz3]))
set_option maxHeartbeats 4000000 in
set_option maxRecDepth 100000 in
theorem c_X4_raiseRow (l : Launch) (D : va_G) (cy : Nat → ClassId) (ad : Nat → Nat → Nat) (P B : Nat) (σ : SF) (er : Int64) (ofd de bo : Nat → Option Nat) (ql : Nat → Nat) (qs : Nat → Nat → Nat) (tv : Nat → Nat) (le mo sp fa : Nat) (h1 : 1 ≤ sp) (h2 : sp ≤ le) (h3 : mo < 1331) (h4 : le ≤ mo + 1) (h5 : fa ≤ 1000) (hB : ∀ j, le ≤ j → j ≤ mo → tv j ≤ 1000000 ∧ tv (j - sp) ≤ 1000000) : cMV l D cy yX4_raiseRow wsX4_raiseRow rmX4_raiseRow [.ref (ad 0 18), .int (nI le), .int (nI mo), .int (nI sp), .int (nI fa)] (WG ad cy P B σ er ofd de bo ql qs tv) (T := Nat → Nat) (fun u => WG ad cy P B σ er ofd de bo ql qs u) (fun u => ∀ j, u j = if le ≤ j ∧ j ≤ mo then max (tv j) (tv (j - sp) + fa) else tv j) 0 0 := by
  refine cMV.of (cc := cX4_raiseRow) (maxL := 7) (by decide) rfl (Nat.le_of_ble_eq_true rfl) ?_
  intro p e s m args below meth c H0 A Q hx hb hml hown hts hP hK hD hS hA hin0 hret ls hl
  obtain ⟨H, locs, hH, hlo⟩ : ∃ (H : Heap) (locs : List Loc), H = H0 ∧ locs = [] := ⟨_, _, rfl, rfl⟩
  rw [← hH] at hP
  rw [show va_S A H0 H0 [] = va_S A H0 H locs by rw [hH, hlo]] at hS
  rw [show W p l e rmX4_raiseRow s m args below meth c H0 [] 0 0 Q (F0 m 0 ls []) = W p l e rmX4_raiseRow s m args below meth c H locs 0 0 Q (F0 m 0 ls []) by rw [hH, hlo]]
  refine lv_iload_n hx hb dX4_raiseRow_0 rfl (lv_at hl 1 rfl) ?_
  refine lv_iload_n hx hb dX4_raiseRow_1 rfl (lv_at hl 3 rfl) ?_
  refine ln_isub hx hb (by omega) dX4_raiseRow_2 (fun z2 hz2 => ?_)
  refine ln_if_lt (tgt := 19) hx hb (by omega) dX4_raiseRow_3 (by decide) ?_
  refine lv_iload_n hx hb dX4_raiseRow_6 rfl (lv_at hl 3 rfl) ?_
  refine ln_if_lt (tgt := 19) hx hb (by omega) dX4_raiseRow_7 (by decide) ?_
  refine lv_iload_n hx hb dX4_raiseRow_10 rfl (lv_at hl 2 rfl) ?_
  refine lv_aload_n hx hb dX4_raiseRow_11 rfl (lv_at hl 0 rfl) ?_
  refine gf4 (v := .ref (ad 0 19)) hx hb hts fX4_raiseRow_4 hown hK.1 hP 18 0 rfl (by decide) kX4_raiseRow_12 rfl rfl dX4_raiseRow_12 ?_
  refine ln_alen hx hb hK.1 hP 19 0 rfl rfl dX4_raiseRow_15 ?_
  refine ln_icmp_lt (tgt := 20) hx hb (by omega) (by omega) dX4_raiseRow_16 (by decide) (fun c16 => ?_) (fun c16 => ?_)
  · skip
    have K23 : ∀ (n23 : Nat) (ce : Nat) (t : Nat → Nat), ce + 1 - le < n23 → (ce ≤ mo) → (le ≤ ce + 1) → (∀ j, t j = if ce < j ∧ j ≤ mo then max (tv j) (tv (j - sp) + fa) else tv j) → ∀ (H : Heap) (locs : List Loc), va_P D vwCl (WG ad cy P B σ er ofd de bo ql qs t) H → va_D A (WG ad cy P B σ er ofd de bo ql qs t) → va_S A H0 H locs → ∀ ls : Array Slot, lv_has ls 7 [(0, .ref (ad 0 18)), (1, .int (nI le)), (2, .int (nI mo)), (3, .int (nI sp)), (4, .int (nI fa)), (5, .int (nI ce))] → W p l e rmX4_raiseRow s m args below meth c H locs 0 0 Q (F0 m 23 ls []) := by
      intro n23
      induction n23 with
      | zero =>
        intro ce t hfu
        exact absurd hfu (Nat.not_lt_zero _)
      | succ n23 ih23 =>
        intro ce t hfu hce hlo ht H locs hP hD hS ls hl
        refine lv_iload hx hb dX4_raiseRow_23 (lv_at hl 5 rfl) ?_
        refine lv_iload_n hx hb dX4_raiseRow_25 rfl (lv_at hl 1 rfl) ?_
        refine ln_icmp_lt (tgt := 70) hx hb (by omega) (by omega) dX4_raiseRow_26 (by decide) (fun c26 => ?_) (fun c26 => ?_)
        · skip
          exact hret t dX4_raiseRow_70 hP hD hS (fun j => by rw [ht j]; by_cases q : le ≤ j ∧ j ≤ mo; rw [if_pos q, if_pos (by omega)]; rw [if_neg q, if_neg (by omega)])
        · skip
          have hB1 := hB ce c26 hce
          have t1 : t ce = tv ce := by rw [ht, if_neg (by omega)]
          have t2 : t (ce - sp) = tv (ce - sp) := by rw [ht, if_neg (by omega)]
          refine lv_aload_n hx hb dX4_raiseRow_29 rfl (lv_at hl 0 rfl) ?_
          refine gf4 (v := .ref (ad 0 19)) hx hb hts fX4_raiseRow_4 hown hK.1 hP 18 0 rfl (by decide) kX4_raiseRow_30 rfl rfl dX4_raiseRow_30 ?_
          refine lv_iload hx hb dX4_raiseRow_33 (lv_at hl 5 rfl) ?_
          refine lv_iload_n hx hb dX4_raiseRow_35 rfl (lv_at hl 3 rfl) ?_
          refine ln_isub hx hb (by omega) dX4_raiseRow_36 (fun z36 hz36 => ?_)
          refine ln_iald (g := t) hx hb hK.1 hP 19 0 rfl rfl (by omega) (by decide) dX4_raiseRow_37 ?_
          refine lv_iload hx hb dX4_raiseRow_38 (lv_at hl 4 rfl) ?_
          refine ln_iadd hx hb dX4_raiseRow_40 (fun z40 hz40 => ?_)
          have hz40b : z40 = tv (ce - sp) + fa := by rw [hz40, hz36, t2]
          refine lv_istore (lv' := [(6, .int (nI z40)), (0, .ref (ad 0 18)), (1, .int (nI le)), (2, .int (nI mo)), (3, .int (nI sp)), (4, .int (nI fa)), (5, .int (nI ce))]) hx hb dX4_raiseRow_41 hl (by decide) rfl (fun ls hl => ?_)
          refine lv_iload hx hb dX4_raiseRow_43 (lv_at hl 0 rfl) ?_
          refine lv_aload_n hx hb dX4_raiseRow_45 rfl (lv_at hl 1 rfl) ?_
          refine gf4 (v := .ref (ad 0 19)) hx hb hts fX4_raiseRow_4 hown hK.1 hP 18 0 rfl (by decide) kX4_raiseRow_46 rfl rfl dX4_raiseRow_46 ?_
          refine lv_iload hx hb dX4_raiseRow_49 (lv_at hl 6 rfl) ?_
          refine ln_iald (g := t) hx hb hK.1 hP 19 0 rfl rfl (by omega) (by decide) dX4_raiseRow_51 ?_
          refine ln_icmp_le (tgt := 64) hx hb (by omega) (by omega) dX4_raiseRow_52 (by decide) (fun c52 => ?_) (fun c52 => ?_)
          · skip
            obtain ⟨z64, hz64⟩ : ∃ z : Nat, z = ce - 1 := ⟨_, rfl⟩
            refine lv_iinc (v := nI z64) (lv' := [(5, .int (nI z64)), (6, .int (nI z40)), (0, .ref (ad 0 18)), (1, .int (nI le)), (2, .int (nI mo)), (3, .int (nI sp)), (4, .int (nI fa))]) hx hb dX4_raiseRow_64 hl (k := 6) rfl (by rw [hz64]; exact sb_m1 (by omega)) (by decide) rfl (fun ls hl => ?_)
            refine lv_goto (tgt := 23) hx hb dX4_raiseRow_67 (by decide) ?_
            exact ih23 z64 t (by omega) (by omega) (by omega) (rr_s ht hce (fun j => by by_cases q : j = ce; rw [if_pos q, q]; omega; rw [if_neg q]) (by omega)) H locs hP hD hS ls (lv_sub hl [2, 3, 4, 5, 6, 0] rfl)
          · skip
            refine lv_aload_n hx hb dX4_raiseRow_55 rfl (lv_at hl 1 rfl) ?_
            refine gf4 (v := .ref (ad 0 19)) hx hb hts fX4_raiseRow_4 hown hK.1 hP 18 0 rfl (by decide) kX4_raiseRow_56 rfl rfl dX4_raiseRow_56 ?_
            refine lv_iload hx hb dX4_raiseRow_59 (lv_at hl 6 rfl) ?_
            refine lv_iload hx hb dX4_raiseRow_61 (lv_at hl 0 rfl) ?_
            refine ln_iast (g := t) hx hb hK.1 hP hD hS 19 0 rfl rfl (by omega) (by decide) dX4_raiseRow_63 (fun H locs hP hD hS => ?_)
            obtain ⟨z64, hz64⟩ : ∃ z : Nat, z = ce - 1 := ⟨_, rfl⟩
            refine lv_iinc (v := nI z64) (lv' := [(5, .int (nI z64)), (6, .int (nI z40)), (0, .ref (ad 0 18)), (1, .int (nI le)), (2, .int (nI mo)), (3, .int (nI sp)), (4, .int (nI fa))]) hx hb dX4_raiseRow_64 hl (k := 6) rfl (by rw [hz64]; exact sb_m1 (by omega)) (by decide) rfl (fun ls hl => ?_)
            refine lv_goto (tgt := 23) hx hb dX4_raiseRow_67 (by decide) ?_
            have hP : va_P D vwCl (WG ad cy P B σ er ofd de bo ql qs (va_up t ce z40)) H := hP
            have hD : va_D A (WG ad cy P B σ er ofd de bo ql qs (va_up t ce z40)) := hD
            exact ih23 z64 (va_up t ce z40) (by omega) (by omega) (by omega) (rr_s ht hce (fun j => by rw [up_if]; by_cases q : j = ce; rw [if_pos q, if_pos q]; rw [hz40]; omega; rw [if_neg q, if_neg q]) (by omega)) H locs hP hD hS ls (lv_sub hl [2, 3, 4, 5, 6, 0] rfl)
    refine lv_iload_n hx hb dX4_raiseRow_20 rfl (lv_at hl 2 rfl) ?_
    refine lv_istore (lv' := [(5, .int (nI mo)), (0, .ref (ad 0 18)), (1, .int (nI le)), (2, .int (nI mo)), (3, .int (nI sp)), (4, .int (nI fa))]) hx hb dX4_raiseRow_21 hl (by decide) rfl (fun ls hl => ?_)
    exact K23 _ mo tv (Nat.lt_succ_self _) (by omega) (by omega) (fun j => by rw [if_neg (by omega)]) H locs hP hD hS ls (lv_sub hl [1, 2, 3, 4, 5, 0] rfl)
  · skip
    exact absurd c16 (by omega)
set_option maxHeartbeats 4000000 in
set_option maxRecDepth 100000 in
theorem c_X4_admitOne (l : Launch) (D : va_G) (cy : Nat → ClassId) (ad : Nat → Nat → Nat) (P B : Nat) (σ : SF) (er : Int64) (ofd de bo : Nat → Option Nat) (ql : Nat → Nat) (qs : Nat → Nat → Nat) (tv : Nat → Nat) (k : Nat) (hk : k < P) (h34 : σ 3 k ≤ σ 4 k) (h4 : σ 4 k ≤ 2) (h5 : σ 5 k ≤ 1000) (l0 l1 l2 : Nat) (hl0 : l0 ≤ 10) (hl1 : l1 ≤ 10) (hl2 : l2 ≤ 10) (TT : TB) (hT : tbIn l0 l1 l2 tv TT) (hTB : ∀ x y z, TT x y z ≤ 900000) : cMV l D cy yX4_admitOne wsX4_admitOne rmX4_admitOne [.ref (ad 0 18), .ref (ad 1 k), .int (nI l0), .int (nI l1), .int (nI l2)] (WG ad cy P B σ er ofd de bo ql qs tv) (T := Nat → Nat) (fun u => WG ad cy P B σ er ofd de bo ql qs u) (fun u => tbIn l0 l1 l2 u (vAdd TT (dA σ k 0) (dA σ k 1) (dA σ k 2) (σ 5 k))) 0 0 := by
  refine cMV.of (cc := cX4_admitOne) (maxL := 11) (by decide) rfl (Nat.le_of_ble_eq_true rfl) ?_
  intro p e s m args below meth c H0 A Q hx hb hml hown hts hP hK hD hS hA hin0 hret ls hl
  obtain ⟨H, locs, hH, hlo⟩ : ∃ (H : Heap) (locs : List Loc), H = H0 ∧ locs = [] := ⟨_, _, rfl, rfl⟩
  rw [← hH] at hP
  rw [show va_S A H0 H0 [] = va_S A H0 H locs by rw [hH, hlo]] at hS
  rw [show W p l e rmX4_admitOne s m args below meth c H0 [] 0 0 Q (F0 m 0 ls []) = W p l e rmX4_admitOne s m args below meth c H locs 0 0 Q (F0 m 0 ls []) by rw [hH, hlo]]
  have hE : va_P D vwCl [] H := va_P0
  have K13 : ∀ (v0 : Nat), (v0 = dA σ k 0) → ∀ (H : Heap) (locs : List Loc), va_P D vwCl (WG ad cy P B σ er ofd de bo ql qs tv) H → va_D A (WG ad cy P B σ er ofd de bo ql qs tv) → va_S A H0 H locs → ∀ ls : Array Slot, lv_has ls 11 [(0, .ref (ad 0 18)), (1, .ref (ad 1 k)), (2, .int (nI l0)), (3, .int (nI l1)), (4, .int (nI l2))] → W p l e rmX4_admitOne s m args below meth c H locs 0 0 Q (F0 m 13 ls [.int (nI v0)]) := by
    intro v0 hv0 H locs hP hD hS ls hl
    refine lv_istore (lv' := [(5, .int (nI v0)), (0, .ref (ad 0 18)), (1, .ref (ad 1 k)), (2, .int (nI l0)), (3, .int (nI l1)), (4, .int (nI l2))]) hx hb dX4_admitOne_13 hl (by decide) rfl (fun ls hl => ?_)
    have K28 : ∀ (v1 : Nat), (v1 = dA σ k 1) → ∀ (H : Heap) (locs : List Loc), va_P D vwCl (WG ad cy P B σ er ofd de bo ql qs tv) H → va_D A (WG ad cy P B σ er ofd de bo ql qs tv) → va_S A H0 H locs → ∀ ls : Array Slot, lv_has ls 11 [(0, .ref (ad 0 18)), (1, .ref (ad 1 k)), (2, .int (nI l0)), (3, .int (nI l1)), (4, .int (nI l2)), (5, .int (nI v0))] → W p l e rmX4_admitOne s m args below meth c H locs 0 0 Q (F0 m 28 ls [.int (nI v1)]) := by
      intro v1 hv1 H locs hP hD hS ls hl
      refine lv_istore (lv' := [(6, .int (nI v1)), (0, .ref (ad 0 18)), (1, .ref (ad 1 k)), (2, .int (nI l0)), (3, .int (nI l1)), (4, .int (nI l2)), (5, .int (nI v0))]) hx hb dX4_admitOne_28 hl (by decide) rfl (fun ls hl => ?_)
      have K43 : ∀ (v2 : Nat), (v2 = dA σ k 2) → ∀ (H : Heap) (locs : List Loc), va_P D vwCl (WG ad cy P B σ er ofd de bo ql qs tv) H → va_D A (WG ad cy P B σ er ofd de bo ql qs tv) → va_S A H0 H locs → ∀ ls : Array Slot, lv_has ls 11 [(0, .ref (ad 0 18)), (1, .ref (ad 1 k)), (2, .int (nI l0)), (3, .int (nI l1)), (4, .int (nI l2)), (5, .int (nI v0)), (6, .int (nI v1))] → W p l e rmX4_admitOne s m args below meth c H locs 0 0 Q (F0 m 43 ls [.int (nI v2)]) := by
        intro v2 hv2 H locs hP hD hS ls hl
        refine lv_istore (lv' := [(7, .int (nI v2)), (0, .ref (ad 0 18)), (1, .ref (ad 1 k)), (2, .int (nI l0)), (3, .int (nI l1)), (4, .int (nI l2)), (5, .int (nI v0)), (6, .int (nI v1))]) hx hb dX4_admitOne_43 hl (by decide) rfl (fun ls hl => ?_)
        refine lv_iload hx hb dX4_admitOne_45 (lv_at hl 6 rfl) ?_
        refine lv_iload hx hb dX4_admitOne_47 (lv_at hl 7 rfl) ?_
        refine lv_iload hx hb dX4_admitOne_49 (lv_at hl 0 rfl) ?_
        refine ro_calliN (va_runS (As := [.int (nI v0), .int (nI v1), .int (nI v2)]) (rest := []) ⟨hx, hb, hml, hown, hts⟩ (c_X4_cellOf l D cy v0 v1 v2 H va_P0) (va_cwS 3 hts gX4_admitOne_X4_cellOf rfl rfl rfl hdX4_cellOf.2 ⟨Nat.le_of_ble_eq_true rfl, Nat.le_of_ble_eq_true rfl⟩) (ro_pre hK rfl) rfl rfl hl.1 rfl (lv_room (Nat.le_of_ble_eq_true rfl)) dX4_admitOne_51 ⟨Nat.le_of_ble_eq_true rfl, Nat.le_of_ble_eq_true rfl⟩) (fun z51 hz51 => ?_)
        refine lv_istore (lv' := [(8, .int (nI z51)), (7, .int (nI v2)), (0, .ref (ad 0 18)), (1, .ref (ad 1 k)), (2, .int (nI l0)), (3, .int (nI l1)), (4, .int (nI l2)), (5, .int (nI v0)), (6, .int (nI v1))]) hx hb dX4_admitOne_54 hl (by decide) rfl (fun ls hl => ?_)
        obtain ⟨sp, hsp⟩ : ∃ z, z = z51 := ⟨_, rfl⟩
        rw [← hsp] at hl
        have hsp2 : sp = (v0 * 11 + v1) * 11 + v2 := by omega
        have g0 : v0 ≤ 1 := by rw [hv0]; exact dA_le
        have g1 : v1 ≤ 1 := by rw [hv1]; exact dA_le
        have g2 : v2 ≤ 1 := by rw [hv2]; exact dA_le
        have hd1 : 1 ≤ v0 + v1 + v2 := by rw [hv0, hv1, hv2]; exact dA_one h34 h4
        have K59 : ∀ (n59 : Nat) (a1 : Nat) (av : Int32) (t1 : Nat → Nat), a1 < n59 → (a1 ≤ l0 + 1) → (av = nI a1 + (-1)) → (tbIn l0 l1 l2 t1 (fun x y z => if a1 ≤ x then vAdd TT v0 v1 v2 (σ 5 k) x y z else TT x y z)) → ∀ (H : Heap) (locs : List Loc), va_P D vwCl (WG ad cy P B σ er ofd de bo ql qs t1) H → va_D A (WG ad cy P B σ er ofd de bo ql qs t1) → va_S A H0 H locs → ∀ ls : Array Slot, lv_has ls 11 [(0, .ref (ad 0 18)), (1, .ref (ad 1 k)), (2, .int (nI l0)), (3, .int (nI l1)), (4, .int (nI l2)), (5, .int (nI v0)), (6, .int (nI v1)), (7, .int (nI v2)), (8, .int (nI sp)), (9, .int av)] → W p l e rmX4_admitOne s m args below meth c H locs 0 0 Q (F0 m 59 ls []) := by
          intro n59
          induction n59 with
          | zero =>
            intro a1 av t1 hfu
            exact absurd hfu (Nat.not_lt_zero _)
          | succ n59 ih59 =>
            intro a1 av t1 hfu ha1 hav ht1 H locs hP hD hS ls hl
            refine lv_iload hx hb dX4_admitOne_59 (lv_at hl 9 rfl) ?_
            refine lv_iload hx hb dX4_admitOne_61 (lv_at hl 5 rfl) ?_
            refine lv_icmp_lt (tgt := 116) hx hb dX4_admitOne_63 (by decide) (fun c63 => ?_) (fun c63 => ?_)
            · skip
              have ha2 := (dm_lt hav (by omega) (by omega)).mp c63
              exact hret t1 dX4_admitOne_116 hP hD hS (by rw [← hv0, ← hv1, ← hv2]; exact tab_end ha2 ht1)
            · skip
              have ha2 : ¬ a1 ≤ v0 := fun q => c63 ((dm_lt hav (by omega) (by omega)).mpr q)
              obtain ⟨a, rfl⟩ : ∃ a, a1 = a + 1 := ⟨a1 - 1, by omega⟩
              rw [pk_m1] at hav
              subst hav
              have K69 : ∀ (n69 : Nat) (b1 : Nat) (bv : Int32) (t2 : Nat → Nat), b1 < n69 → (b1 ≤ l1 + 1) → (bv = nI b1 + (-1)) → (tbIn l0 l1 l2 t2 (fun x y z => if a + 1 ≤ x ∨ (x = a ∧ b1 ≤ y) then vAdd TT v0 v1 v2 (σ 5 k) x y z else TT x y z)) → ∀ (H : Heap) (locs : List Loc), va_P D vwCl (WG ad cy P B σ er ofd de bo ql qs t2) H → va_D A (WG ad cy P B σ er ofd de bo ql qs t2) → va_S A H0 H locs → ∀ ls : Array Slot, lv_has ls 11 [(0, .ref (ad 0 18)), (1, .ref (ad 1 k)), (2, .int (nI l0)), (3, .int (nI l1)), (4, .int (nI l2)), (5, .int (nI v0)), (6, .int (nI v1)), (7, .int (nI v2)), (8, .int (nI sp)), (9, .int (nI a)), (10, .int bv)] → W p l e rmX4_admitOne s m args below meth c H locs 0 0 Q (F0 m 69 ls []) := by
                intro n69
                induction n69 with
                | zero =>
                  intro b1 bv t2 hfu
                  exact absurd hfu (Nat.not_lt_zero _)
                | succ n69 ih69 =>
                  intro b1 bv t2 hfu hb1 hbv ht2 H locs hP hD hS ls hl
                  refine lv_iload hx hb dX4_admitOne_69 (lv_at hl 10 rfl) ?_
                  refine lv_iload hx hb dX4_admitOne_71 (lv_at hl 6 rfl) ?_
                  refine lv_icmp_lt (tgt := 110) hx hb dX4_admitOne_73 (by decide) (fun c73 => ?_) (fun c73 => ?_)
                  · skip
                    have hb2 := (dm_lt hbv (by omega) (by omega)).mp c73
                    refine lv_iinc (v := nI a + (-1)) (lv' := [(9, .int (nI a + (-1))), (0, .ref (ad 0 18)), (1, .ref (ad 1 k)), (2, .int (nI l0)), (3, .int (nI l1)), (4, .int (nI l2)), (5, .int (nI v0)), (6, .int (nI v1)), (7, .int (nI v2)), (8, .int (nI sp)), (10, .int bv)]) hx hb dX4_admitOne_110 hl (k := 9) rfl rfl (by decide) rfl (fun ls hl => ?_)
                    refine lv_goto (tgt := 59) hx hb dX4_admitOne_113 (by decide) ?_
                    exact ih59 a (nI a + (-1)) t2 (by omega) (by omega) rfl (row_end hb2 ht2) H locs hP hD hS ls (lv_sub hl [1, 2, 3, 4, 5, 6, 7, 8, 9, 0] rfl)
                  · skip
                    have hb2 : ¬ b1 ≤ v1 := fun q => c73 ((dm_lt hbv (by omega) (by omega)).mpr q)
                    obtain ⟨b, rfl⟩ : ∃ b, b1 = b + 1 := ⟨b1 - 1, by omega⟩
                    rw [pk_m1] at hbv
                    subst hbv
                    refine lv_aload_n hx hb dX4_admitOne_76 rfl (lv_at hl 0 rfl) ?_
                    refine lv_iload hx hb dX4_admitOne_77 (lv_at hl 9 rfl) ?_
                    refine lv_iload hx hb dX4_admitOne_79 (lv_at hl 10 rfl) ?_
                    refine lv_iload hx hb dX4_admitOne_81 (lv_at hl 7 rfl) ?_
                    refine ro_calliN (va_runS (As := [.int (nI a), .int (nI b), .int (nI v2)]) (rest := [.ref (ad 0 18)]) ⟨hx, hb, hml, hown, hts⟩ (c_X4_cellOf l D cy a b v2 H va_P0) (va_cwS 3 hts gX4_admitOne_X4_cellOf rfl rfl rfl hdX4_cellOf.2 ⟨Nat.le_of_ble_eq_true rfl, Nat.le_of_ble_eq_true rfl⟩) (ro_pre hK rfl) rfl rfl hl.1 rfl (lv_room (Nat.le_of_ble_eq_true rfl)) dX4_admitOne_83 ⟨Nat.le_of_ble_eq_true rfl, Nat.le_of_ble_eq_true rfl⟩) (fun z83 hz83 => ?_)
                    refine lv_iload hx hb dX4_admitOne_86 (lv_at hl 9 rfl) ?_
                    refine lv_iload hx hb dX4_admitOne_88 (lv_at hl 10 rfl) ?_
                    refine lv_iload hx hb dX4_admitOne_90 (lv_at hl 4 rfl) ?_
                    refine ro_calliN (va_runS (As := [.int (nI a), .int (nI b), .int (nI l2)]) (rest := [.int (nI z83), .ref (ad 0 18)]) ⟨hx, hb, hml, hown, hts⟩ (c_X4_cellOf l D cy a b l2 H va_P0) (va_cwS 3 hts gX4_admitOne_X4_cellOf rfl rfl rfl hdX4_cellOf.2 ⟨Nat.le_of_ble_eq_true rfl, Nat.le_of_ble_eq_true rfl⟩) (ro_pre hK rfl) rfl rfl hl.1 rfl (lv_room (Nat.le_of_ble_eq_true rfl)) dX4_admitOne_92 ⟨Nat.le_of_ble_eq_true rfl, Nat.le_of_ble_eq_true rfl⟩) (fun z92 hz92 => ?_)
                    refine lv_iload hx hb dX4_admitOne_95 (lv_at hl 8 rfl) ?_
                    refine lv_aload_n hx hb dX4_admitOne_97 rfl (lv_at hl 1 rfl) ?_
                    refine gn2 (v := .int (nI (σ 5 k))) hx hb hts fX4_admitOne_2 hown hK.1 hP (k + 20) 2 (WG_pd hk) (by decide) (hK.2 _ nwf_X4_45 rfl) rfl rfl dX4_admitOne_98 ?_
                    have hBB : ∀ j, z83 ≤ j → j ≤ z92 → t2 j ≤ 1000000 ∧ t2 (j - sp) ≤ 1000000 := by
                      intro j j1 j2
                      have e1 := ht2 a b (j - (a * 11 + b) * 11) (by omega) (by omega) (by omega)
                      have e2 := ht2 (a - v0) (b - v1) (j - (a * 11 + b) * 11 - v2) (by omega) (by omega) (by omega)
                      dsimp only at e1 e2
                      rw [if_neg (by omega), show (a * 11 + b) * 11 + (j - (a * 11 + b) * 11) = j by omega] at e1
                      rw [if_neg (by omega), show ((a - v0) * 11 + (b - v1)) * 11 + (j - (a * 11 + b) * 11 - v2) = j - sp by omega] at e2
                      rw [e1, e2]
                      have := hTB a b (j - (a * 11 + b) * 11)
                      have := hTB (a - v0) (b - v1) (j - (a * 11 + b) * 11 - v2)
                      omega
                    refine mw_callv (va_runV (As := [.int (nI z83), .int (nI z92), .int (nI sp), .int (nI (σ 5 k))]) (rest := []) ⟨hx, hb, hml, hown, hts⟩ (c_X4_raiseRow l D cy ad P B σ er ofd de bo ql qs t2 z83 z92 sp (σ 5 k) (by omega) (by omega) (by omega) (by omega) (by omega) hBB H.size) (cwV 4 hts gX4_admitOne_X4_raiseRow rfl rfl rfl hdX4_raiseRow ⟨Nat.le_of_ble_eq_true rfl, Nat.le_of_ble_eq_true rfl⟩) (mo_preV hK rfl hP hD (va_recv hK.1 hP (ci := 4) (q0 := 18) rfl rfl)) rfl rfl hl.1 rfl (lv_room (Nat.le_of_ble_eq_true rfl)) dX4_admitOne_101 ⟨Nat.le_of_ble_eq_true rfl, Nat.le_of_ble_eq_true rfl⟩) hS hD hA (fun u101 H locs hr101 hP hD hS => ?_)
                    refine lv_iinc (v := nI b + (-1)) (lv' := [(10, .int (nI b + (-1))), (0, .ref (ad 0 18)), (1, .ref (ad 1 k)), (2, .int (nI l0)), (3, .int (nI l1)), (4, .int (nI l2)), (5, .int (nI v0)), (6, .int (nI v1)), (7, .int (nI v2)), (8, .int (nI sp)), (9, .int (nI a))]) hx hb dX4_admitOne_104 hl (k := 10) rfl rfl (by decide) rfl (fun ls hl => ?_)
                    refine lv_goto (tgt := 69) hx hb dX4_admitOne_107 (by decide) ?_
                    exact ih69 b (nI b + (-1)) u101 (by omega) (by omega) rfl (row_step g0 g1 g2 (by omega) (by omega) hl0 hl1 hl2 (by omega) (by omega) ht2 (fun j => by rw [hr101 j, hz83, hz92, hsp2])) H locs hP hD hS ls (lv_sub hl [1, 2, 3, 4, 5, 6, 7, 8, 9, 10, 0] rfl)
              refine lv_iload_n hx hb dX4_admitOne_66 rfl (lv_at hl 3 rfl) ?_
              refine lv_istore (lv' := [(10, .int (nI l1)), (0, .ref (ad 0 18)), (1, .ref (ad 1 k)), (2, .int (nI l0)), (3, .int (nI l1)), (4, .int (nI l2)), (5, .int (nI v0)), (6, .int (nI v1)), (7, .int (nI v2)), (8, .int (nI sp)), (9, .int (nI a))]) hx hb dX4_admitOne_67 hl (by decide) rfl (fun ls hl => ?_)
              exact K69 _ ((l1 + 1)) (nI l1) t1 (Nat.lt_succ_self _) (by omega) (pk_m1 l1).symm (fun x y z hx hy hz => by rw [ht1 x y z hx hy hz]; dsimp only; by_cases q : a + 1 ≤ x; rw [if_pos q, if_pos (Or.inl q)]; rw [if_neg q, if_neg (by omega)]) H locs hP hD hS ls (lv_sub hl [1, 2, 3, 4, 5, 6, 7, 8, 9, 10, 0] rfl)
        refine lv_iload_n hx hb dX4_admitOne_56 rfl (lv_at hl 4 rfl) ?_
        refine lv_istore (lv' := [(9, .int (nI l0)), (8, .int (nI sp)), (7, .int (nI v2)), (0, .ref (ad 0 18)), (1, .ref (ad 1 k)), (2, .int (nI l0)), (3, .int (nI l1)), (4, .int (nI l2)), (5, .int (nI v0)), (6, .int (nI v1))]) hx hb dX4_admitOne_57 hl (by decide) rfl (fun ls hl => ?_)
        exact K59 _ ((l0 + 1)) (nI l0) tv (Nat.lt_succ_self _) (by omega) (pk_m1 l0).symm (fun x y z hx hy hz => by dsimp only; rw [if_neg (by omega)]; exact hT x y z hx hy hz) H locs hP hD hS ls (lv_sub hl [3, 4, 5, 6, 7, 8, 9, 2, 1, 0] rfl)
      refine lv_aload_n hx hb dX4_admitOne_30 rfl (lv_at hl 2 rfl) ?_
      refine lv_iconst (v := nI 2) hx hb dX4_admitOne_31 (by decide) ?_
      refine ro_calliB (va_runVN (As := [.int (nI 2)]) (rest := []) ⟨hx, hb, hml, hown, hts⟩ (c_X2_covers l D cy (ad 1 k) (ad 2 k) (σ 3 k) (σ 4 k) (σ 5 k) (σ 6 k) (σ 7 k) (σ 8 k) 2 (by omega) (by omega) (by omega) H (hP.one (WG_pd hk))) ⟨va_cnB 1 hts gX4_admitOne_X2_covers_n37 rfl rfl rfl (hK.2 _ nwm_X4_37 rfl) (hts _ (List.mem_of_getElem? (i := 2) rfl)) hdX2_covers.2 ⟨Nat.le_of_ble_eq_true rfl, Nat.le_of_ble_eq_true rfl⟩, hts _ (List.mem_of_getElem? (i := 1) rfl), hts _ (List.mem_of_getElem? (i := 3) rfl)⟩ (ro_preV hK (va_recv hK.1 hP (ci := 2) (q0 := (k + 20)) rfl (WG_pd hk))) rfl rfl hl.1 rfl (lv_room (Nat.le_of_ble_eq_true rfl)) dX4_admitOne_32 ⟨Nat.le_of_ble_eq_true rfl, Nat.le_of_ble_eq_true rfl⟩) (fun b32 => ?_) (fun b32 => ?_)
      · skip
        refine lv_if_eq (tgt := 42) hx hb dX4_admitOne_35 (by decide) (fun q => by first | exact absurd q (by decide) | exact absurd (by decide) q) (fun _ => ?_)
        refine lv_iconst (v := nI 1) hx hb dX4_admitOne_38 (by decide) ?_
        refine lv_goto (tgt := 43) hx hb dX4_admitOne_39 (by decide) ?_
        exact K43 1 (show 1 = dA σ k 2 by unfold dA; rw [if_pos b32]) H locs hP hD hS ls (lv_sub hl [1, 2, 3, 4, 5, 6, 0] rfl)
      · skip
        refine lv_if_eq (tgt := 42) hx hb dX4_admitOne_35 (by decide) (fun _ => ?_) (fun q => by first | exact absurd q (by decide) | exact absurd (by decide) q)
        refine lv_iconst (v := nI 0) hx hb dX4_admitOne_42 (by decide) ?_
        exact K43 0 (show 0 = dA σ k 2 by unfold dA; rw [if_neg b32]) H locs hP hD hS ls (lv_sub hl [1, 2, 3, 4, 5, 6, 0] rfl)
    refine lv_aload_n hx hb dX4_admitOne_15 rfl (lv_at hl 2 rfl) ?_
    refine lv_iconst (v := nI 1) hx hb dX4_admitOne_16 (by decide) ?_
    refine ro_calliB (va_runVN (As := [.int (nI 1)]) (rest := []) ⟨hx, hb, hml, hown, hts⟩ (c_X2_covers l D cy (ad 1 k) (ad 2 k) (σ 3 k) (σ 4 k) (σ 5 k) (σ 6 k) (σ 7 k) (σ 8 k) 1 (by omega) (by omega) (by omega) H (hP.one (WG_pd hk))) ⟨va_cnB 1 hts gX4_admitOne_X2_covers_n37 rfl rfl rfl (hK.2 _ nwm_X4_37 rfl) (hts _ (List.mem_of_getElem? (i := 2) rfl)) hdX2_covers.2 ⟨Nat.le_of_ble_eq_true rfl, Nat.le_of_ble_eq_true rfl⟩, hts _ (List.mem_of_getElem? (i := 1) rfl), hts _ (List.mem_of_getElem? (i := 3) rfl)⟩ (ro_preV hK (va_recv hK.1 hP (ci := 2) (q0 := (k + 20)) rfl (WG_pd hk))) rfl rfl hl.1 rfl (lv_room (Nat.le_of_ble_eq_true rfl)) dX4_admitOne_17 ⟨Nat.le_of_ble_eq_true rfl, Nat.le_of_ble_eq_true rfl⟩) (fun b17 => ?_) (fun b17 => ?_)
    · skip
      refine lv_if_eq (tgt := 27) hx hb dX4_admitOne_20 (by decide) (fun q => by first | exact absurd q (by decide) | exact absurd (by decide) q) (fun _ => ?_)
      refine lv_iconst (v := nI 1) hx hb dX4_admitOne_23 (by decide) ?_
      refine lv_goto (tgt := 28) hx hb dX4_admitOne_24 (by decide) ?_
      exact K28 1 (show 1 = dA σ k 1 by unfold dA; rw [if_pos b17]) H locs hP hD hS ls (lv_sub hl [1, 2, 3, 4, 5, 0] rfl)
    · skip
      refine lv_if_eq (tgt := 27) hx hb dX4_admitOne_20 (by decide) (fun _ => ?_) (fun q => by first | exact absurd q (by decide) | exact absurd (by decide) q)
      refine lv_iconst (v := nI 0) hx hb dX4_admitOne_27 (by decide) ?_
      exact K28 0 (show 0 = dA σ k 1 by unfold dA; rw [if_neg b17]) H locs hP hD hS ls (lv_sub hl [1, 2, 3, 4, 5, 0] rfl)
  refine lv_aload_n hx hb dX4_admitOne_0 rfl (lv_at hl 1 rfl) ?_
  refine lv_iconst (v := nI 0) hx hb dX4_admitOne_1 (by decide) ?_
  refine ro_calliB (va_runVN (As := [.int (nI 0)]) (rest := []) ⟨hx, hb, hml, hown, hts⟩ (c_X2_covers l D cy (ad 1 k) (ad 2 k) (σ 3 k) (σ 4 k) (σ 5 k) (σ 6 k) (σ 7 k) (σ 8 k) 0 (by omega) (by omega) (by omega) H (hP.one (WG_pd hk))) ⟨va_cnB 1 hts gX4_admitOne_X2_covers_n37 rfl rfl rfl (hK.2 _ nwm_X4_37 rfl) (hts _ (List.mem_of_getElem? (i := 2) rfl)) hdX2_covers.2 ⟨Nat.le_of_ble_eq_true rfl, Nat.le_of_ble_eq_true rfl⟩, hts _ (List.mem_of_getElem? (i := 1) rfl), hts _ (List.mem_of_getElem? (i := 3) rfl)⟩ (ro_preV hK (va_recv hK.1 hP (ci := 2) (q0 := (k + 20)) rfl (WG_pd hk))) rfl rfl hl.1 rfl (lv_room (Nat.le_of_ble_eq_true rfl)) dX4_admitOne_2 ⟨Nat.le_of_ble_eq_true rfl, Nat.le_of_ble_eq_true rfl⟩) (fun b2 => ?_) (fun b2 => ?_)
  · skip
    refine lv_if_eq (tgt := 12) hx hb dX4_admitOne_5 (by decide) (fun q => by first | exact absurd q (by decide) | exact absurd (by decide) q) (fun _ => ?_)
    refine lv_iconst (v := nI 1) hx hb dX4_admitOne_8 (by decide) ?_
    refine lv_goto (tgt := 13) hx hb dX4_admitOne_9 (by decide) ?_
    exact K13 1 (show 1 = dA σ k 0 by unfold dA; rw [if_pos b2]) H locs hP hD hS ls (lv_sub hl [0, 1, 2, 3, 4] rfl)
  · skip
    refine lv_if_eq (tgt := 12) hx hb dX4_admitOne_5 (by decide) (fun _ => ?_) (fun q => by first | exact absurd q (by decide) | exact absurd (by decide) q)
    refine lv_iconst (v := nI 0) hx hb dX4_admitOne_12 (by decide) ?_
    exact K13 0 (show 0 = dA σ k 0 by unfold dA; rw [if_neg b2]) H locs hP hD hS ls (lv_sub hl [0, 1, 2, 3, 4] rfl)
set_option maxHeartbeats 4000000 in
set_option maxRecDepth 100000 in
theorem c_X4_admit (l : Launch) (D : va_G) (cy : Nat → ClassId) (ad : Nat → Nat → Nat) (P B : Nat) (σ : SF) (er : Int64) (ofd de bo : Nat → Option Nat) (ql : Nat → Nat) (qs : Nat → Nat → Nat) (tv : Nat → Nat) (k : Nat) (hk : k < P) (h34 : σ 3 k ≤ σ 4 k) (h4 : σ 4 k ≤ 2) (h5 : σ 5 k ≤ 1000) (h6 : σ 6 k ≤ 512) (h7 : σ 7 k ≤ 512) (l0 l1 l2 : Nat) (hl0 : l0 ≤ 10) (hl1 : l1 ≤ 10) (hl2 : l2 ≤ 10) (TT : TB) (hT : tbIn l0 l1 l2 tv TT) (hTB : ∀ x y z, TT x y z ≤ 800000) : cMV l D cy yX4_admit wsX4_admit rmX4_admit [.ref (ad 0 18), .ref (ad 1 k), .int (nI l0), .int (nI l1), .int (nI l2)] (WG ad cy P B σ er ofd de bo ql qs tv) (T := Nat → Nat) (fun u => WG ad cy P B σ er ofd de bo ql qs u) (fun u => tbIn l0 l1 l2 u (vRep TT (dA σ k 0) (dA σ k 1) (dA σ k 2) (σ 5 k) (min (σ 6 k - σ 7 k) 10))) 0 0 := by
  refine cMV.of (cc := cX4_admit) (maxL := 7) (by decide) rfl (Nat.le_of_ble_eq_true rfl) ?_
  intro p e s m args below meth c H0 A Q hx hb hml hown hts hP hK hD hS hA hin0 hret ls hl
  obtain ⟨H, locs, hH, hlo⟩ : ∃ (H : Heap) (locs : List Loc), H = H0 ∧ locs = [] := ⟨_, _, rfl, rfl⟩
  rw [← hH] at hP
  rw [show va_S A H0 H0 [] = va_S A H0 H locs by rw [hH, hlo]] at hS
  rw [show W p l e rmX4_admit s m args below meth c H0 [] 0 0 Q (F0 m 0 ls []) = W p l e rmX4_admit s m args below meth c H locs 0 0 Q (F0 m 0 ls []) by rw [hH, hlo]]
  refine lv_aload_n hx hb dX4_admit_0 rfl (lv_at hl 1 rfl) ?_
  refine ro_calliN (va_runVN (As := []) (rest := []) ⟨hx, hb, hml, hown, hts⟩ (c_X2_toCome l D cy (ad 1 k) (ad 2 k) (σ 3 k) (σ 4 k) (σ 5 k) (σ 6 k) (σ 7 k) (σ 8 k) (by omega) (by omega) H (hP.one (WG_pd hk))) ⟨va_cnB 0 hts gX4_admit_X2_toCome_n21 rfl rfl rfl (hK.2 _ nwm_X4_21 rfl) (hts _ (List.mem_of_getElem? (i := 6) rfl)) hdX2_toCome.2 ⟨Nat.le_of_ble_eq_true rfl, Nat.le_of_ble_eq_true rfl⟩, hts _ (List.mem_of_getElem? (i := 5) rfl), hts _ (List.mem_of_getElem? (i := 7) rfl)⟩ (ro_preV hK (va_recv hK.1 hP (ci := 2) (q0 := (k + 20)) rfl (WG_pd hk))) rfl rfl hl.1 rfl (lv_room (Nat.le_of_ble_eq_true rfl)) dX4_admit_1 ⟨Nat.le_of_ble_eq_true rfl, Nat.le_of_ble_eq_true rfl⟩) (fun z1 hz1 => ?_)
  refine lv_bipush (v := nI 10) hx hb dX4_admit_4 (by decide) ?_
  refine ln_mmin hx hb (by omega) (by omega) (hml.trans hl.1.symm) hown (hts _ mlX4_admit_6) (hts _ msX4_admit_6) (hts _ miX4_admit_6) (hts _ mcX4_admit_6) (Nat.le_of_ble_eq_true rfl) (Nat.le_of_ble_eq_true rfl) (Nat.zero_le _) (Nat.zero_le _) dX4_admit_6 (fun z6 hz6 => ?_)
  refine lv_istore (lv' := [(5, .int (nI z6)), (0, .ref (ad 0 18)), (1, .ref (ad 1 k)), (2, .int (nI l0)), (3, .int (nI l1)), (4, .int (nI l2))]) hx hb dX4_admit_9 hl (by decide) rfl (fun ls hl => ?_)
  obtain ⟨ma, hma⟩ : ∃ z, z = z6 := ⟨_, rfl⟩
  rw [← hma] at hl
  have hma2 : ma = min (σ 6 k - σ 7 k) 10 := by omega
  have K14 : ∀ (n14 : Nat) (i : Nat) (t1 : Nat → Nat), ma - i < n14 → (i ≤ ma) → (tbIn l0 l1 l2 t1 (vRep TT (dA σ k 0) (dA σ k 1) (dA σ k 2) (σ 5 k) i)) → ∀ (H : Heap) (locs : List Loc), va_P D vwCl (WG ad cy P B σ er ofd de bo ql qs t1) H → va_D A (WG ad cy P B σ er ofd de bo ql qs t1) → va_S A H0 H locs → ∀ ls : Array Slot, lv_has ls 7 [(0, .ref (ad 0 18)), (1, .ref (ad 1 k)), (2, .int (nI l0)), (3, .int (nI l1)), (4, .int (nI l2)), (5, .int (nI ma)), (6, .int (nI i))] → W p l e rmX4_admit s m args below meth c H locs 0 0 Q (F0 m 14 ls []) := by
    intro n14
    induction n14 with
    | zero =>
      intro i t1 hfu
      exact absurd hfu (Nat.not_lt_zero _)
    | succ n14 ih14 =>
      intro i t1 hfu hi ht1 H locs hP hD hS ls hl
      refine lv_iload hx hb dX4_admit_14 (lv_at hl 6 rfl) ?_
      refine lv_iload hx hb dX4_admit_16 (lv_at hl 5 rfl) ?_
      refine ln_icmp_ge (tgt := 36) hx hb (by omega) (by omega) dX4_admit_18 (by decide) (fun c18 => ?_) (fun c18 => ?_)
      · skip
        exact hret t1 dX4_admit_36 hP hD hS (by rw [← hma2, show ma = i by omega]; exact ht1)
      · skip
        refine lv_aload_n hx hb dX4_admit_21 rfl (lv_at hl 0 rfl) ?_
        refine lv_aload_n hx hb dX4_admit_22 rfl (lv_at hl 1 rfl) ?_
        refine lv_iload_n hx hb dX4_admit_23 rfl (lv_at hl 2 rfl) ?_
        refine lv_iload_n hx hb dX4_admit_24 rfl (lv_at hl 3 rfl) ?_
        refine lv_iload hx hb dX4_admit_25 (lv_at hl 4 rfl) ?_
        refine mw_callv (va_runV (As := [.ref (ad 1 k), .int (nI l0), .int (nI l1), .int (nI l2)]) (rest := []) ⟨hx, hb, hml, hown, hts⟩ (c_X4_admitOne l D cy ad P B σ er ofd de bo ql qs t1 k hk h34 h4 h5 l0 l1 l2 hl0 hl1 hl2 _ ht1 (fun x y z => Nat.le_trans (vRep_le hTB i x y z) (by have := Nat.mul_le_mul h5 (show i ≤ 10 by omega); omega)) H.size) (cwV 4 hts gX4_admit_X4_admitOne rfl rfl rfl hdX4_admitOne ⟨Nat.le_of_ble_eq_true rfl, Nat.le_of_ble_eq_true rfl⟩) (mo_preV hK rfl hP hD (va_recv hK.1 hP (ci := 4) (q0 := 18) rfl rfl)) rfl rfl hl.1 rfl (lv_room (Nat.le_of_ble_eq_true rfl)) dX4_admit_27 ⟨Nat.le_of_ble_eq_true rfl, Nat.le_of_ble_eq_true rfl⟩) hS hD hA (fun u27 H locs hr27 hP hD hS => ?_)
        obtain ⟨z30, hz30⟩ : ∃ z : Nat, z = i + 1 := ⟨_, rfl⟩
        refine lv_iinc (v := nI z30) (lv' := [(6, .int (nI z30)), (0, .ref (ad 0 18)), (1, .ref (ad 1 k)), (2, .int (nI l0)), (3, .int (nI l1)), (4, .int (nI l2)), (5, .int (nI ma))]) hx hb dX4_admit_30 hl (k := 6) rfl (by rw [hz30]; exact nI_add _ 1) (by decide) rfl (fun ls hl => ?_)
        refine lv_goto (tgt := 14) hx hb dX4_admit_33 (by decide) ?_
        exact ih14 z30 u27 (by omega) (by omega) (by rw [hz30]; exact hr27) H locs hP hD hS ls (lv_sub hl [1, 2, 3, 4, 5, 6, 0] rfl)
  refine lv_iconst (v := nI 0) hx hb dX4_admit_11 (by decide) ?_
  refine lv_istore (lv' := [(6, .int (nI 0)), (5, .int (nI ma)), (0, .ref (ad 0 18)), (1, .ref (ad 1 k)), (2, .int (nI l0)), (3, .int (nI l1)), (4, .int (nI l2))]) hx hb dX4_admit_12 hl (by decide) rfl (fun ls hl => ?_)
  exact K14 _ 0 tv (Nat.lt_succ_self _) (by omega) hT H locs hP hD hS ls (lv_sub hl [2, 3, 4, 5, 6, 1, 0] rfl)
