theorem va_apartR {A0 : Nat → Prop} {D : va_G} {cl : List vw_C} {X wc w1 : va_W} {H H1 : Heap} (hP : va_P D cl (X ++ wc) H) (hD : va_D A0 (X ++ wc)) (hF : ∀ q, va_A wc H.size q → A0 q) (hk : ∀ q : Nat, q < H.size → ¬ va_A wc H.size q → H1[q]? = H[q]?) (hP1 : va_P D cl w1 H1) (hD1 : va_D (va_A wc H.size) w1) : va_P D cl (X ++ w1) H1 ∧ va_D A0 (X ++ w1) := by
  have hPX : va_P D cl X H := hP.mem (fun q hq => List.mem_append_left _ hq)
  have hDi := va_D_iff.mp hD
  have hap : ∀ x ∈ X, ∀ y ∈ wc, x.1 ≠ y.1 := (List.pairwise_append.mp hDi.1).2.2
  have hno : ∀ x ∈ X, ¬ va_A wc H.size x.1 := fun x hx h => by
    obtain ⟨i, hi⟩ := List.mem_iff_getElem?.mp hx
    rcases h with ⟨k2, e, h⟩ | h
    · exact hap x hx (x.1, e) (List.mem_of_getElem? h) rfl
    · exact absurd (hPX i x hi).lt (Nat.not_lt.mpr h)
  refine ⟨(hPX.kept (fun k q h => hk q.1 (hPX k q h).lt (hno q (List.mem_of_getElem? h)))).app hP1, (hD.subl (List.sublist_append_left _ _)).app (hD1.weaken (fun k q _ h => hF q.1 h)) (fun i j x y hx hy e => ?_)⟩
  have h2 := hD1.2 j y hy
  rw [← e] at h2
  exact hno x (List.mem_of_getElem? hx) h2
theorem va_apartL {A0 : Nat → Prop} {D : va_G} {cl : List vw_C} {Y wc w1 : va_W} {H H1 : Heap} (hP : va_P D cl (wc ++ Y) H) (hD : va_D A0 (wc ++ Y)) (hF : ∀ q, va_A wc H.size q → A0 q) (hk : ∀ q : Nat, q < H.size → ¬ va_A wc H.size q → H1[q]? = H[q]?) (hP1 : va_P D cl w1 H1) (hD1 : va_D (va_A wc H.size) w1) : va_P D cl (w1 ++ Y) H1 ∧ va_D A0 (w1 ++ Y) := by
  have h := va_apartR (X := Y) (hP.mem (fun q hq => (List.mem_append.mp hq).elim (fun h => List.mem_append_right _ h) (fun h => List.mem_append_left _ h))) (hD.perm List.perm_append_comm) hF hk hP1 hD1
  exact ⟨h.1.mem (fun q hq => (List.mem_append.mp hq).elim (fun h => List.mem_append_right _ h) (fun h => List.mem_append_left _ h)), h.2.perm List.perm_append_comm⟩
theorem va_fri {A0 : Nat → Prop} {ws wc : va_W} {H0 H : Heap} {locs : List Loc} (hS : va_S A0 H0 H locs) (hD : va_D A0 ws) (hA : ∀ q, H0.size ≤ q → A0 q) (hs : ∀ q ∈ wc, q ∈ ws) : ∀ q, va_A wc H.size q → A0 q := by
  intro q h
  rcases h with ⟨k2, e, h⟩ | h
  · exact (va_D_iff.mp hD).2 (q, e) (hs _ (List.mem_of_getElem? h))
  · exact hA _ (Nat.le_trans hS.1 h)
section APC
variable {p : Program} {l : Launch} {e : Env} {R : Room} {s : State} {m : MethodId} {args : Array Value} {below : List Frame} {meth : Method} {c : Code} {H : Heap} {locs : List Loc} {cells slots mc ms : Nat} {Q : State → Prop}
variable {pc : Nat} {ls : Array Slot} {rest st : List Value} {D : va_G} {A0 : Nat → Prop} {a : Array Value} {H0 : Heap} {wc X : va_W}
theorem ap_callv {T : Type} {w1 : T → va_W} {post : T → Prop} (hr : va_Run p l e R s m args below meth c H locs cells slots mc ms (F0 m pc ls st) rest (va_Qv post (fun u t => va_P D vwCl (w1 u) t.heap ∧ va_D (va_A wc H.size) (w1 u)) (va_A wc H.size) a) (va_A wc H.size)) (hS : va_S A0 H0 H locs) (hP : va_P D vwCl (X ++ wc) H) (hD : va_D A0 (X ++ wc)) (hA : ∀ q, H0.size ≤ q → A0 q) (k : ∀ (u : T) (H1 : Heap) (locs1 : List Loc), post u → va_P D vwCl (X ++ w1 u) H1 → va_D A0 (X ++ w1 u) → va_S A0 H0 H1 locs1 → W p l e R s m args below meth c H1 locs1 (cells + mc) (slots + ms) Q (F0 m (pc + 3) ls (rest))) : W p l e R s m args below meth c H locs cells slots Q (F0 m pc ls st) := by
  have hF := va_fri hS hD hA (wc := wc) (fun q hq => List.mem_append_right _ hq)
  refine va_callv hr hS (fun q _ h => hF q h) hF (fun u t H1 locs1 ht hvm hp hB hz hk hS1 => ?_)
  rw [ht] at hB
  have h9 := va_apartR hP hD hF hk hB.1 hB.2
  exact k u H1 locs1 hp h9.1 h9.2 hS1
end APC
theorem BO_enter {ad : Nat → Nat → Nat} {σ : SF} {bo : Nat → Option Nat} {q f t n c : Nat} (h : BO ad σ bo) : BO (adB ad (σ 0 3) q) (bookF σ f t n c) (va_up bo (σ 0 3) (some q)) := by
  intro b hb
  have hb2 : b < σ 0 3 + 1 := hb
  show (if b = σ 0 3 then some q else bo b) = some (if b = σ 0 3 then q else ad 3 b)
  by_cases e : b = σ 0 3
  · rw [if_pos e, if_pos e]
  · rw [if_neg e, if_neg e, h b (by omega)]
/-- booked: the addresses, the state, the row of bookings, the queues -/
abbrev TA : Type := (Nat → Nat → Nat) × SF × (Nat → Option Nat) × (Nat → Nat) × (Nat → Nat → Nat)
def okA (ad : Nat → Nat → Nat) (u : TA) : Prop := QZ u.2.2.2.2 ∧ BO u.1 u.2.1 u.2.2.1 ∧ u.1 1 = ad 1 ∧ u.1 2 = ad 2 ∧ u.1 0 = ad 0
set_option maxHeartbeats 4000000 in
set_option maxRecDepth 100000 in
theorem c_X5_addProduct (l : Launch) (hfl : l.stackTraces = false) (D : va_G) (cy : Nat → ClassId) (ad : Nat → Nat → Nat) (σ : SF) (er : Int64) (ofd de bo : Nat → Option Nat) (ql : Nat → Nat) (qs : Nat → Nat → Nat) (tv : Nat → Nat) (hof : OF ad σ ofd) {n : Nat} (hI : Iv n σ) {dl : List Nat} (hDL : DL ad σ de dl) (f t q : Int32) : cXI l D cy yX5_addProduct wsX5_addProduct rmX5_addProduct [.ref (ad 0 0), .int f, .int t, .int q] (WG ad cy (σ 0 0) (σ 0 3) σ er ofd de bo ql qs tv) (T := Nat × Nat × (Nat → Option Nat)) (fun u => WG ((adP ad (σ 0 0) u.1 u.2.1)) cy ((σ 0 0 + 1)) (σ 0 3) ((adF σ (cN f) (cN t) (cN q))) er ((va_up ofd (σ 0 0) (some u.1))) u.2.2 bo ql qs tv) (fun r u => (okR f 0 2 ∧ okR t 0 2) ∧ (f ≤ t ∧ okR q 1 1000) ∧ ¬ (σ 0 0 = 8 ∨ isSame σ f t q) ∧ r = nI (σ 0 0) ∧ ∃ dl2, DL (adP ad (σ 0 0) u.1 u.2.1) (adF σ (cN f) (cN t) (cN q)) u.2.2 dl2) (fun E => (¬ (okR f 0 2 ∧ okR t 0 2) ∧ E = eIO) ∨ ((okR f 0 2 ∧ okR t 0 2) ∧ ¬ (f ≤ t ∧ okR q 1 1000) ∧ E = eIA) ∨ ((okR f 0 2 ∧ okR t 0 2) ∧ (f ≤ t ∧ okR q 1 1000) ∧ (σ 0 0 = 8 ∨ isSame σ f t q) ∧ E = eIS)) 2 28 := by
  refine cXI.of (cc := cX5_addProduct) (maxL := 5) hfl (by decide) rfl (Nat.le_of_ble_eq_true rfl) ?_
  intro p e s m args below meth c H0 A Q hx hb hml hown hts hP hK hD hS hA hXW hH0s hret hthr ls hl
  obtain ⟨H, locs, hH, hlo⟩ : ∃ (H : Heap) (locs : List Loc), H = H0 ∧ locs = [] := ⟨_, _, rfl, rfl⟩
  rw [← hH] at hP
  rw [show va_S A H0 H0 [] = va_S A H0 H locs by rw [hH, hlo]] at hS
  rw [show W p l e rmX5_addProduct s m args below meth c H0 [] 0 0 Q (F0 m 0 ls []) = W p l e rmX5_addProduct s m args below meth c H locs 0 0 Q (F0 m 0 ls []) by rw [hH, hlo]]
  have hnp := hI.np
  refine lv_iload_n hx hb dX5_addProduct_0 rfl (lv_at hl 1 rfl) ?_
  refine ro_calliB (va_runS (As := [.int f]) (rest := []) ⟨hx, hb, hml, hown, hts⟩ (c_X5_isLeg l D cy (f) H va_P0) (va_cwS 1 hts gX5_addProduct_X5_isLeg rfl rfl rfl hdX5_isLeg.2 ⟨Nat.le_of_ble_eq_true rfl, Nat.le_of_ble_eq_true rfl⟩) (ro_pre hK rfl) rfl rfl hl.1 rfl (lv_room (Nat.le_of_ble_eq_true rfl)) dX5_addProduct_1 ⟨Nat.le_of_ble_eq_true rfl, Nat.le_of_ble_eq_true rfl⟩) (fun b1 => ?_) (fun b1 => ?_)
  · skip
    refine lv_if_eq (tgt := 14) hx hb dX5_addProduct_4 (by decide) (fun q => by first | exact absurd q (by decide) | exact absurd (by decide) q) (fun _ => ?_)
    refine lv_iload_n hx hb dX5_addProduct_7 rfl (lv_at hl 2 rfl) ?_
    refine ro_calliB (va_runS (As := [.int t]) (rest := []) ⟨hx, hb, hml, hown, hts⟩ (c_X5_isLeg l D cy (t) H va_P0) (va_cwS 1 hts gX5_addProduct_X5_isLeg rfl rfl rfl hdX5_isLeg.2 ⟨Nat.le_of_ble_eq_true rfl, Nat.le_of_ble_eq_true rfl⟩) (ro_pre hK rfl) rfl rfl hl.1 rfl (lv_room (Nat.le_of_ble_eq_true rfl)) dX5_addProduct_8 ⟨Nat.le_of_ble_eq_true rfl, Nat.le_of_ble_eq_true rfl⟩) (fun b8 => ?_) (fun b8 => ?_)
    · skip
      refine lv_if_ne (tgt := 24) hx hb dX5_addProduct_11 (by decide) (fun _ => ?_) (fun q => by first | exact absurd q (by decide) | exact absurd (by decide) q)
      refine lv_iload_n hx hb dX5_addProduct_24 rfl (lv_at hl 2 rfl) ?_
      refine lv_iload_n hx hb dX5_addProduct_25 rfl (lv_at hl 1 rfl) ?_
      refine lv_icmp_lt (tgt := 40) hx hb dX5_addProduct_26 (by decide) (fun c26 => ?_) (fun c26 => ?_)
      · skip
        exact hthr "java/lang/IllegalArgumentException" "the legs are in the wrong order, or the fare is out of range" ["java/lang/RuntimeException", "java/lang/Exception"] 72 92 76 (Or.inr (Or.inl ⟨⟨b1, b8⟩, fun z => by first | exact absurd z.1 (Int32.not_le.mpr c26) | exact b34 z.2, rfl⟩)) (by decide +kernel) (by decide +kernel) (hts _ (List.mem_of_getElem? (i := 3) rfl)) (hts _ (List.mem_of_getElem? (i := 4) rfl)) (hXW.2.2 (92, "the legs are in the wrong order, or the fare is out of range") (by decide)) (xhat_IA (fun w hw => hts w (List.mem_cons_of_mem _ (List.mem_append_left _ (List.mem_append_right _ hw)))) hXW) xg_IA hP hD (hH0s ▸ hS) (hl.1.trans hml.symm) dX5_addProduct_40 dX5_addProduct_43 dX5_addProduct_44 dX5_addProduct_46 dX5_addProduct_49 (Nat.le_of_ble_eq_true rfl) (Nat.le_of_ble_eq_true rfl) (Nat.le_of_ble_eq_true rfl) (Nat.le_of_ble_eq_true rfl) (Nat.le_of_ble_eq_true rfl) (Nat.le_of_ble_eq_true rfl)
      · skip
        refine lv_iload_n hx hb dX5_addProduct_29 rfl (lv_at hl 3 rfl) ?_
        refine lv_iconst (v := nI 1) hx hb dX5_addProduct_30 (by decide) ?_
        refine lv_sipush (v := nI 1000) hx hb dX5_addProduct_31 (by decide) ?_
        refine ro_calliB (va_runS (As := [.int q, .int (nI 1), .int (nI 1000)]) (rest := []) ⟨hx, hb, hml, hown, hts⟩ (c_X5_within l D cy (q) ((nI 1)) ((nI 1000)) H va_P0) (va_cwS 3 hts gX5_addProduct_X5_within rfl rfl rfl hdX5_within.2 ⟨Nat.le_of_ble_eq_true rfl, Nat.le_of_ble_eq_true rfl⟩) (ro_pre hK rfl) rfl rfl hl.1 rfl (lv_room (Nat.le_of_ble_eq_true rfl)) dX5_addProduct_34 ⟨Nat.le_of_ble_eq_true rfl, Nat.le_of_ble_eq_true rfl⟩) (fun b34 => ?_) (fun b34 => ?_)
        · skip
          have hL : (okR f 0 2 ∧ okR t 0 2) := ⟨b1, b8⟩
          have hR : (f ≤ t ∧ okR q 1 1000) := ⟨Int32.not_lt.mp c26, b34⟩
          refine lv_if_ne (tgt := 50) hx hb dX5_addProduct_37 (by decide) (fun _ => ?_) (fun q => by first | exact absurd q (by decide) | exact absurd (by decide) q)
          refine lv_aload_n hx hb dX5_addProduct_50 rfl (lv_at hl 0 rfl) ?_
          refine gf5 (v := .int (nI (σ 0 0))) hx hb hts fX5_addProduct_5 hown hK.1 hP 0 6 rfl (by decide) kX5_addProduct_51 rfl rfl dX5_addProduct_51 ?_
          refine lv_bipush (v := nI 8) hx hb dX5_addProduct_54 (by decide) ?_
          refine ln_icmp_ge (tgt := 69) hx hb (by omega) (by omega) dX5_addProduct_56 (by decide) (fun c56 => ?_) (fun c56 => ?_)
          · skip
            exact hthr "java/lang/IllegalStateException" "there are 8 products, or there is this one" ["java/lang/RuntimeException", "java/lang/Exception"] 97 99 101 (Or.inr (Or.inr ⟨hL, hR, by first | exact Or.inl (by omega) | exact Or.inr b63, rfl⟩)) (by decide +kernel) (by decide +kernel) (hts _ (List.mem_of_getElem? (i := 5) rfl)) (hts _ (List.mem_of_getElem? (i := 6) rfl)) (hXW.2.2 (99, "there are 8 products, or there is this one") (by decide)) (xhat_IS (fun w hw => hts w (List.mem_cons_of_mem _ (List.mem_append_right _ hw))) hXW) xg_IS hP hD (hH0s ▸ hS) (hl.1.trans hml.symm) dX5_addProduct_69 dX5_addProduct_72 dX5_addProduct_73 dX5_addProduct_75 dX5_addProduct_78 (Nat.le_of_ble_eq_true rfl) (Nat.le_of_ble_eq_true rfl) (Nat.le_of_ble_eq_true rfl) (Nat.le_of_ble_eq_true rfl) (Nat.le_of_ble_eq_true rfl) (Nat.le_of_ble_eq_true rfl)
          · skip
            refine lv_aload_n hx hb dX5_addProduct_59 rfl (lv_at hl 0 rfl) ?_
            refine lv_iload_n hx hb dX5_addProduct_60 rfl (lv_at hl 1 rfl) ?_
            refine lv_iload_n hx hb dX5_addProduct_61 rfl (lv_at hl 2 rfl) ?_
            refine lv_iload_n hx hb dX5_addProduct_62 rfl (lv_at hl 3 rfl) ?_
            refine ro_calliB (va_runV (As := [.int f, .int t, .int q]) (rest := []) ⟨hx, hb, hml, hown, hts⟩ (c_X5_isOffered l D cy ad σ er ofd de bo ql qs tv hof hnp (f) (t) (q) H hP) (cwV 3 hts gX5_addProduct_X5_isOffered rfl rfl rfl hdX5_isOffered ⟨Nat.le_of_ble_eq_true rfl, Nat.le_of_ble_eq_true rfl⟩) (ro_preV hK (va_recv hK.1 hP (ci := 5) (q0 := 0) rfl rfl)) rfl rfl hl.1 rfl (lv_room (Nat.le_of_ble_eq_true rfl)) dX5_addProduct_63 ⟨Nat.le_of_ble_eq_true rfl, Nat.le_of_ble_eq_true rfl⟩) (fun b63 => ?_) (fun b63 => ?_)
            · skip
              refine lv_if_eq (tgt := 79) hx hb dX5_addProduct_66 (by decide) (fun q => by first | exact absurd q (by decide) | exact absurd (by decide) q) (fun _ => ?_)
              exact hthr "java/lang/IllegalStateException" "there are 8 products, or there is this one" ["java/lang/RuntimeException", "java/lang/Exception"] 97 99 101 (Or.inr (Or.inr ⟨hL, hR, by first | exact Or.inl (by omega) | exact Or.inr b63, rfl⟩)) (by decide +kernel) (by decide +kernel) (hts _ (List.mem_of_getElem? (i := 5) rfl)) (hts _ (List.mem_of_getElem? (i := 6) rfl)) (hXW.2.2 (99, "there are 8 products, or there is this one") (by decide)) (xhat_IS (fun w hw => hts w (List.mem_cons_of_mem _ (List.mem_append_right _ hw))) hXW) xg_IS hP hD (hH0s ▸ hS) (hl.1.trans hml.symm) dX5_addProduct_69 dX5_addProduct_72 dX5_addProduct_73 dX5_addProduct_75 dX5_addProduct_78 (Nat.le_of_ble_eq_true rfl) (Nat.le_of_ble_eq_true rfl) (Nat.le_of_ble_eq_true rfl) (Nat.le_of_ble_eq_true rfl) (Nat.le_of_ble_eq_true rfl) (Nat.le_of_ble_eq_true rfl)
            · skip
              have hF : ¬ (σ 0 0 = 8 ∨ isSame σ f t q) := fun z => z.elim (fun z => by omega) b63
              have hR1 := hR.1
              obtain ⟨f1, hf1a, hf1b, rfl⟩ := okR_nat (a := 0) (b := 2) b1 (by decide) (by decide)
              obtain ⟨t1, ht1a, ht1b, rfl⟩ := okR_nat (a := 0) (b := 2) b8 (by decide) (by decide)
              obtain ⟨q1, hq1a, hq1b, rfl⟩ := okR_nat (a := 1) (b := 1000) b34 (by decide) (by decide)
              refine lv_if_eq (tgt := 79) hx hb dX5_addProduct_66 (by decide) (fun _ => ?_) (fun q => by first | exact absurd q (by decide) | exact absurd (by decide) q)
              refine lv_aload_n hx hb dX5_addProduct_79 rfl (lv_at hl 0 rfl) ?_
              refine gf5 (v := .int (nI (σ 0 0))) hx hb hts fX5_addProduct_5 hown hK.1 hP 0 6 rfl (by decide) kX5_addProduct_80 rfl rfl dX5_addProduct_80 ?_
              refine lv_istore (lv' := [(4, .int (nI (σ 0 0))), (0, .ref (ad 0 0)), (1, .int (nI f1)), (2, .int (nI t1)), (3, .int (nI q1))]) hx hb dX5_addProduct_83 hl (by decide) rfl (fun ls hl => ?_)
              refine lv_aload_n hx hb dX5_addProduct_85 rfl (lv_at hl 1 rfl) ?_
              refine va_new (ci := 2) (fs := [.int (nI 0), .int (nI 0), .int (nI 0), .null, .int (nI 0), .int (nI 0), .int (nI 0)]) (C := RX2) (T := TX2) (N := 7) hx hb hts fX5_addProduct_2 tyX2 tyX2_ok hown (hts _ nclX5_addProduct_86) (hts _ ninX5_addProduct_86) (hts _ niiX5_addProduct_86) hK.1 hP hD hS hA rfl (fun j hj => by rcases (show j = 0 ∨ j = 1 ∨ j = 2 ∨ j = 3 ∨ j = 4 ∨ j = 5 ∨ j = 6 by omega) with rfl | rfl | rfl | rfl | rfl | rfl | rfl <;> rfl) (Nat.le_of_ble_eq_true rfl) (Nat.le_of_ble_eq_true rfl) dX5_addProduct_86 (fun q86 H hP hD hS => ?_)
              refine lv_dup hx hb dX5_addProduct_89 rfl ?_
              refine lv_iload_n hx hb dX5_addProduct_90 rfl (lv_at hl 2 rfl) ?_
              refine lv_iload_n hx hb dX5_addProduct_91 rfl (lv_at hl 3 rfl) ?_
              refine lv_iload_n hx hb dX5_addProduct_92 rfl (lv_at hl 4 rfl) ?_
              refine lv_aload_n hx hb dX5_addProduct_93 rfl (lv_at hl 1 rfl) ?_
              refine gf5 (v := .int (nI (σ 0 1))) hx hb hts fX5_addProduct_5 hown hK.1 hP 0 8 rfl (by decide) kX5_addProduct_94 rfl rfl dX5_addProduct_94 ?_
              have hP : va_P D vwCl ((WG ad cy (σ 0 0) (σ 0 3) σ er ofd de bo ql qs tv) ++ [(q86, .inr (2, [.int (nI 0), .int (nI 0), .int (nI 0), .null, .int (nI 0), .int (nI 0), .int (nI 0)]))]) H := hP
              have hD : va_D A ((WG ad cy (σ 0 0) (σ 0 3) σ er ofd de bo ql qs tv) ++ [(q86, .inr (2, [.int (nI 0), .int (nI 0), .int (nI 0), .null, .int (nI 0), .int (nI 0), .int (nI 0)]))]) := hD
              refine ap_callv (va_runIN (As := [.int (nI f1), .int (nI t1), .int (nI q1), .int (nI (σ 0 1))]) (rest := [.ref q86, .ref (ad 0 0)]) ⟨hx, hb, hml, hown, hts⟩ (c_X2_init l D cy q86 f1 t1 q1 (σ 0 1) H.size) ⟨va_cnB 4 hts gX5_addProduct_X2_init_n102 rfl rfl rfl (hK.2 _ nwm_X5_102 rfl) (hts _ (List.mem_of_getElem? (i := 10) rfl)) hdX2_init.2 ⟨Nat.le_of_ble_eq_true rfl, Nat.le_of_ble_eq_true rfl⟩, rfl, hts _ (List.mem_of_getElem? (i := 24) rfl)⟩ (mo_pre hK rfl (hP.mem (fun x hx => List.mem_append_right _ hx)) (hD.subl (List.sublist_append_right _ _))) rfl rfl hl.1 rfl (lv_room (Nat.le_of_ble_eq_true rfl)) dX5_addProduct_97 ⟨Nat.le_of_ble_eq_true rfl, Nat.le_of_ble_eq_true rfl⟩) hS hP hD hA (fun u97 H locs hr97 hP hD hS => ?_)
              have hP : va_P D vwCl ((WG ad cy (σ 0 0) (σ 0 3) σ er ofd de bo ql qs tv) ++ [(q86, .inr (2, [.int (nI f1), .int (nI t1), .int (nI q1), .ref u97, .int (nI 0), .int (nI 0), .int (nI 0)])), (u97, .inl (cy 0, 21, .inl (fun j => nI ((va_up (fun _ => 0) 0 (σ 0 1)) j))))]) H := hP
              have hD : va_D A ((WG ad cy (σ 0 0) (σ 0 3) σ er ofd de bo ql qs tv) ++ [(q86, .inr (2, [.int (nI f1), .int (nI t1), .int (nI q1), .ref u97, .int (nI 0), .int (nI 0), .int (nI 0)])), (u97, .inl (cy 0, 21, .inl (fun j => nI ((va_up (fun _ => 0) 0 (σ 0 1)) j))))]) := hD
              refine mw_callv (va_runV (As := [.ref q86]) (rest := []) ⟨hx, hb, hml, hown, hts⟩ (c_X5_offer l D cy ad σ er ofd de bo ql qs tv hI hDL q86 u97 f1 t1 q1 (by omega) (by omega) H.size) (cwV 1 hts gX5_addProduct_X5_offer rfl rfl rfl hdX5_offer ⟨Nat.le_of_ble_eq_true rfl, Nat.le_of_ble_eq_true rfl⟩) (mo_preV hK rfl hP hD (va_recv hK.1 hP (ci := 5) (q0 := 0) rfl rfl)) rfl rfl hl.1 rfl (lv_room (Nat.le_of_ble_eq_true rfl)) dX5_addProduct_100 ⟨Nat.le_of_ble_eq_true rfl, Nat.le_of_ble_eq_true rfl⟩) hS hD hA (fun u100 H locs hr100 hP hD hS => ?_)
              refine lv_iload hx hb dX5_addProduct_103 (lv_at hl 0 rfl) ?_
              have hP : va_P D vwCl (WG ((adP ad (σ 0 0) q86 u97)) cy ((σ 0 0 + 1)) (σ 0 3) ((adF σ (cN (nI f1)) (cN (nI t1)) (cN (nI q1)))) er ((va_up ofd (σ 0 0) (some q86))) u100 bo ql qs tv) H := by rw [cN_nI (by omega), cN_nI (by omega), cN_nI (by omega)]; exact hP
              have hD : va_D A (WG ((adP ad (σ 0 0) q86 u97)) cy ((σ 0 0 + 1)) (σ 0 3) ((adF σ (cN (nI f1)) (cN (nI t1)) (cN (nI q1)))) er ((va_up ofd (σ 0 0) (some q86))) u100 bo ql qs tv) := by rw [cN_nI (by omega), cN_nI (by omega), cN_nI (by omega)]; exact hD
              refine W.widen (k := 2) (n := 28) (Nat.le_of_ble_eq_true rfl) (Nat.le_of_ble_eq_true rfl) ?_
              exact hret (q86, u97, u100) dX5_addProduct_105 hP hD hS ⟨hL, hR, hF, rfl, by rw [cN_nI (by omega), cN_nI (by omega), cN_nI (by omega)]; exact hr100⟩
        · skip
          refine lv_if_ne (tgt := 50) hx hb dX5_addProduct_37 (by decide) (fun q => by first | exact absurd q (by decide) | exact absurd (by decide) q) (fun _ => ?_)
          exact hthr "java/lang/IllegalArgumentException" "the legs are in the wrong order, or the fare is out of range" ["java/lang/RuntimeException", "java/lang/Exception"] 72 92 76 (Or.inr (Or.inl ⟨⟨b1, b8⟩, fun z => by first | exact absurd z.1 (Int32.not_le.mpr c26) | exact b34 z.2, rfl⟩)) (by decide +kernel) (by decide +kernel) (hts _ (List.mem_of_getElem? (i := 3) rfl)) (hts _ (List.mem_of_getElem? (i := 4) rfl)) (hXW.2.2 (92, "the legs are in the wrong order, or the fare is out of range") (by decide)) (xhat_IA (fun w hw => hts w (List.mem_cons_of_mem _ (List.mem_append_left _ (List.mem_append_right _ hw)))) hXW) xg_IA hP hD (hH0s ▸ hS) (hl.1.trans hml.symm) dX5_addProduct_40 dX5_addProduct_43 dX5_addProduct_44 dX5_addProduct_46 dX5_addProduct_49 (Nat.le_of_ble_eq_true rfl) (Nat.le_of_ble_eq_true rfl) (Nat.le_of_ble_eq_true rfl) (Nat.le_of_ble_eq_true rfl) (Nat.le_of_ble_eq_true rfl) (Nat.le_of_ble_eq_true rfl)
    · skip
      refine lv_if_ne (tgt := 24) hx hb dX5_addProduct_11 (by decide) (fun q => by first | exact absurd q (by decide) | exact absurd (by decide) q) (fun _ => ?_)
      exact hthr "java/lang/IndexOutOfBoundsException" "there is no such leg" ["java/lang/RuntimeException", "java/lang/Exception"] 87 89 91 (Or.inl ⟨fun z => by first | exact b1 z.1 | exact b8 z.2, rfl⟩) (by decide +kernel) (by decide +kernel) (hts _ (List.mem_of_getElem? (i := 1) rfl)) (hts _ (List.mem_of_getElem? (i := 2) rfl)) (hXW.2.2 (89, "there is no such leg") (by decide)) (xhat_IO (fun w hw => hts w (List.mem_cons_of_mem _ (List.mem_append_left _ (List.mem_append_left _ (List.mem_append_right _ hw))))) hXW) xg_IO hP hD (hH0s ▸ hS) (hl.1.trans hml.symm) dX5_addProduct_14 dX5_addProduct_17 dX5_addProduct_18 dX5_addProduct_20 dX5_addProduct_23 (Nat.le_of_ble_eq_true rfl) (Nat.le_of_ble_eq_true rfl) (Nat.le_of_ble_eq_true rfl) (Nat.le_of_ble_eq_true rfl) (Nat.le_of_ble_eq_true rfl) (Nat.le_of_ble_eq_true rfl)
  · skip
    refine lv_if_eq (tgt := 14) hx hb dX5_addProduct_4 (by decide) (fun _ => ?_) (fun q => by first | exact absurd q (by decide) | exact absurd (by decide) q)
    exact hthr "java/lang/IndexOutOfBoundsException" "there is no such leg" ["java/lang/RuntimeException", "java/lang/Exception"] 87 89 91 (Or.inl ⟨fun z => by first | exact b1 z.1 | exact b8 z.2, rfl⟩) (by decide +kernel) (by decide +kernel) (hts _ (List.mem_of_getElem? (i := 1) rfl)) (hts _ (List.mem_of_getElem? (i := 2) rfl)) (hXW.2.2 (89, "there is no such leg") (by decide)) (xhat_IO (fun w hw => hts w (List.mem_cons_of_mem _ (List.mem_append_left _ (List.mem_append_left _ (List.mem_append_right _ hw))))) hXW) xg_IO hP hD (hH0s ▸ hS) (hl.1.trans hml.symm) dX5_addProduct_14 dX5_addProduct_17 dX5_addProduct_18 dX5_addProduct_20 dX5_addProduct_23 (Nat.le_of_ble_eq_true rfl) (Nat.le_of_ble_eq_true rfl) (Nat.le_of_ble_eq_true rfl) (Nat.le_of_ble_eq_true rfl) (Nat.le_of_ble_eq_true rfl) (Nat.le_of_ble_eq_true rfl)
set_option maxHeartbeats 4000000 in
set_option maxRecDepth 100000 in
theorem c_X5_ask (l : Launch) (hfl : l.stackTraces = false) (D : va_G) (cy : Nat → ClassId) (ad : Nat → Nat → Nat) (σ : SF) (er : Int64) (ofd de bo : Nat → Option Nat) (ql : Nat → Nat) (qs : Nat → Nat → Nat) (tv : Nat → Nat) (hof : OF ad σ ofd) (hbo : BO ad σ bo) {n : Nat} (hI : Iv n σ) {dl : List Nat} (hDL : DL ad σ de dl) (hQZ : QZ qs) (hn : n < 512) (v : Int32) : cXI l D cy yX5_ask wsX5_ask rmX5_ask [.ref (ad 0 0), .int v] (WG ad cy (σ 0 0) (σ 0 3) σ er ofd de bo ql qs tv) (T := TA) (fun u => WG u.1 cy (u.2.1 0 0) (u.2.1 0 3) u.2.1 er ofd de u.2.2.1 u.2.2.2.1 u.2.2.2.2 tv) (fun r u => isP σ v ∧ ¬ σ 0 3 = 60 ∧ askA (asF σ (cN v)) (cN v) r u.2.1 ∧ okA ad u) (fun E => (¬ isP σ v ∧ E = eIO) ∨ (isP σ v ∧ σ 0 3 = 60 ∧ E = eIS)) 1 6 := by
  refine cXI.of (cc := cX5_ask) (maxL := 3) hfl (by decide) rfl (Nat.le_of_ble_eq_true rfl) ?_
  intro p e s m args below meth c H0 A Q hx hb hml hown hts hP hK hD hS hA hXW hH0s hret hthr ls hl
  obtain ⟨H, locs, hH, hlo⟩ : ∃ (H : Heap) (locs : List Loc), H = H0 ∧ locs = [] := ⟨_, _, rfl, rfl⟩
  rw [← hH] at hP
  rw [show va_S A H0 H0 [] = va_S A H0 H locs by rw [hH, hlo]] at hS
  rw [show W p l e rmX5_ask s m args below meth c H0 [] 0 0 Q (F0 m 0 ls []) = W p l e rmX5_ask s m args below meth c H locs 0 0 Q (F0 m 0 ls []) by rw [hH, hlo]]
  have hnp := hI.np
  have hnb := hI.nb
  refine lv_aload_n hx hb dX5_ask_0 rfl (lv_at hl 0 rfl) ?_
  refine lv_iload_n hx hb dX5_ask_1 rfl (lv_at hl 1 rfl) ?_
  refine ro_callqP (va_runV (As := [.int v]) (rest := []) ⟨hx, hb, hml, hown, hts⟩ (c_X5_productAt l D cy ad σ er ofd de bo ql qs tv hof hnp (v) H hP) (cwV 1 hts gX5_ask_X5_productAt rfl rfl rfl hdX5_productAt ⟨Nat.le_of_ble_eq_true rfl, Nat.le_of_ble_eq_true rfl⟩) (ro_preV hK (va_recv hK.1 hP (ci := 5) (q0 := 0) rfl rfl)) rfl rfl hl.1 rfl (lv_room (Nat.le_of_ble_eq_true rfl)) dX5_ask_2 ⟨Nat.le_of_ble_eq_true rfl, Nat.le_of_ble_eq_true rfl⟩) (fun a2 r2 => ?_) (fun r2 => ?_)
  · skip
    obtain ⟨k, hk, rfl, rfl⟩ := r2
    refine lv_astore_n (lv' := [(2, .ref (ad 1 k)), (0, .ref (ad 0 0)), (1, .int (nI k))]) hx hb dX5_ask_5 rfl hl (by decide) rfl (fun ls hl => ?_)
    refine lv_aload_n hx hb dX5_ask_6 rfl (lv_at hl 0 rfl) ?_
    refine lv_ifnonnull (tgt := 20) hx hb dX5_ask_7 (by decide) ?_
    refine lv_aload_n hx hb dX5_ask_20 rfl (lv_at hl 1 rfl) ?_
    refine gf5 (v := .int (nI (σ 0 3))) hx hb hts fX5_ask_5 hown hK.1 hP 0 7 rfl (by decide) kX5_ask_21 rfl rfl dX5_ask_21 ?_
    refine lv_bipush (v := nI 60) hx hb dX5_ask_24 (by decide) ?_
    refine ln_icmp_lt (tgt := 39) hx hb (by omega) (by omega) dX5_ask_26 (by decide) (fun c26 => ?_) (fun c26 => ?_)
    · skip
      refine lv_aload_n hx hb dX5_ask_39 rfl (lv_at hl 0 rfl) ?_
      refine lv_dup hx hb dX5_ask_40 rfl ?_
      refine gn2 (v := .int (nI (σ 7 k))) hx hb hts fX5_ask_2 hown hK.1 hP (k + 20) 5 (WG_pd hk) (by decide) (hK.2 _ nwf_X5_124 rfl) rfl rfl dX5_ask_41 ?_
      refine lv_iconst (v := nI 1) hx hb dX5_ask_44 (by decide) ?_
      refine ln_iadd hx hb dX5_ask_45 (fun z45 hz45 => ?_)
      refine pn2 hx hb hts fX5_ask_2 hown hK.1 hP hD hS (k + 20) 5 (WG_pd hk) (by decide) (hK.2 _ nwf_X5_124 rfl) rfl rfl (ty := .int) (by decide) rfl rfl (Nat.le_of_ble_eq_true rfl) dX5_ask_46 (fun H locs hP hD hS => ?_)
      rw [pd_put7 hk] at hP hD
      have hP : va_P D vwCl (WG ad cy (σ 0 0) (σ 0 3) (va_up σ 7 (va_up (σ 7) k z45)) er ofd de bo ql qs tv) H := hP
      have hD : va_D A (WG ad cy (σ 0 0) (σ 0 3) (va_up σ 7 (va_up (σ 7) k z45)) er ofd de bo ql qs tv) := hD
      obtain ⟨τ, hτ⟩ : ∃ τ, τ = asF σ k := ⟨_, rfl⟩
      rw [hz45] at hP hD
      have hP : va_P D vwCl (WG ad cy ((τ 0 0)) ((τ 0 3)) (τ) er ofd de bo ql qs tv) H := by rw [hτ]; exact hP
      have hD : va_D A (WG ad cy ((τ 0 0)) ((τ 0 3)) (τ) er ofd de bo ql qs tv) := by rw [hτ]; exact hD
      have hI2 : Iv (n + 1) τ := by rw [hτ]; exact hI.ask hn hk
      have hk2 : k < τ 0 0 := by rw [hτ]; exact hk
      have hb60 : ¬ τ 0 3 = 60 := by rw [hτ]; exact fun q => absurd (show σ 0 3 = 60 from q) (by omega)
      have hof : OF ad τ ofd := by rw [hτ]; exact hof
      have hbo : BO ad τ bo := by rw [hτ]; exact hbo
      have hDL : DL ad τ de dl := by rw [hτ]; exact hDL
      have hnb2 := hI2.nb
      have hpk := hI2.pr k hk2
      refine lv_aload_n hx hb dX5_ask_49 rfl (lv_at hl 1 rfl) ?_
      refine lv_aload_n hx hb dX5_ask_50 rfl (lv_at hl 0 rfl) ?_
      refine ro_calliB (va_runV (As := [.ref (ad 1 k)]) (rest := []) ⟨hx, hb, hml, hown, hts⟩ (c_X5_isFull l D cy ad (τ) er ofd de bo ql qs tv hbo hI2 k hk2 H hP) (cwV 1 hts gX5_ask_X5_isFull rfl rfl rfl hdX5_isFull ⟨Nat.le_of_ble_eq_true rfl, Nat.le_of_ble_eq_true rfl⟩) (ro_preV hK (va_recv hK.1 hP (ci := 5) (q0 := 0) rfl rfl)) rfl rfl hl.1 rfl (lv_room (Nat.le_of_ble_eq_true rfl)) dX5_ask_51 ⟨Nat.le_of_ble_eq_true rfl, Nat.le_of_ble_eq_true rfl⟩) (fun b51 => ?_) (fun b51 => ?_)
      · skip
        refine lv_if_eq (tgt := 63) hx hb dX5_ask_54 (by decide) (fun q => by first | exact absurd q (by decide) | exact absurd (by decide) q) (fun _ => ?_)
        refine lv_aload_n hx hb dX5_ask_57 rfl (lv_at hl 1 rfl) ?_
        refine lv_iconst (v := -1) hx hb dX5_ask_58 (by decide) ?_
        refine mw_calli (va_runV (As := [.int ((-1))]) (rest := []) ⟨hx, hb, hml, hown, hts⟩ (c_X5_refuse l D cy ad (τ) er ofd de bo ql qs tv 1 (by decide) (by decide) H.size) (cwV 1 hts gX5_ask_X5_refuse rfl rfl rfl hdX5_refuse ⟨Nat.le_of_ble_eq_true rfl, Nat.le_of_ble_eq_true rfl⟩) (mo_preV hK rfl hP hD (va_recv hK.1 hP (ci := 5) (q0 := 0) rfl rfl)) rfl rfl hl.1 rfl (lv_room (Nat.le_of_ble_eq_true rfl)) dX5_ask_59 ⟨Nat.le_of_ble_eq_true rfl, Nat.le_of_ble_eq_true rfl⟩) hS hD hA (fun z59 u59 H locs hz59 hP hD hS => ?_)
        refine W.widen (k := 1) (n := 6) (Nat.le_of_ble_eq_true rfl) (Nat.le_of_ble_eq_true rfl) ?_
        exact hret (ad, (rfF (τ) 1), bo, ql, qs) dX5_ask_62 hP hD hS ⟨⟨k, hk, rfl⟩, by omega, by rw [cN_nI (by omega), ← hτ]; exact (Or.inl ⟨b51, hz59, rfl⟩), ⟨hQZ, hbo, rfl, rfl, rfl⟩⟩
      · skip
        refine lv_if_eq (tgt := 63) hx hb dX5_ask_54 (by decide) (fun _ => ?_) (fun q => by first | exact absurd q (by decide) | exact absurd (by decide) q)
        refine lv_aload_n hx hb dX5_ask_63 rfl (lv_at hl 1 rfl) ?_
        refine lv_aload_n hx hb dX5_ask_64 rfl (lv_at hl 0 rfl) ?_
        refine ro_calliB (va_runV (As := [.ref (ad 1 k)]) (rest := []) ⟨hx, hb, hml, hown, hts⟩ (c_X5_isProtected l D cy ad (τ) er ofd de bo ql qs tv hof hbo hI2 k hk2 H hP) (cwV 1 hts gX5_ask_X5_isProtected rfl rfl rfl hdX5_isProtected ⟨Nat.le_of_ble_eq_true rfl, Nat.le_of_ble_eq_true rfl⟩) (ro_preV hK (va_recv hK.1 hP (ci := 5) (q0 := 0) rfl rfl)) rfl rfl hl.1 rfl (lv_room (Nat.le_of_ble_eq_true rfl)) dX5_ask_65 ⟨Nat.le_of_ble_eq_true rfl, Nat.le_of_ble_eq_true rfl⟩) (fun b65 => ?_) (fun b65 => ?_)
        · skip
          refine lv_if_eq (tgt := 78) hx hb dX5_ask_68 (by decide) (fun q => by first | exact absurd q (by decide) | exact absurd (by decide) q) (fun _ => ?_)
          refine lv_aload_n hx hb dX5_ask_71 rfl (lv_at hl 1 rfl) ?_
          refine lv_bipush (v := -2) hx hb dX5_ask_72 (by decide) ?_
          refine mw_calli (va_runV (As := [.int ((-2))]) (rest := []) ⟨hx, hb, hml, hown, hts⟩ (c_X5_refuse l D cy ad (τ) er ofd de bo ql qs tv 2 (by decide) (by decide) H.size) (cwV 1 hts gX5_ask_X5_refuse rfl rfl rfl hdX5_refuse ⟨Nat.le_of_ble_eq_true rfl, Nat.le_of_ble_eq_true rfl⟩) (mo_preV hK rfl hP hD (va_recv hK.1 hP (ci := 5) (q0 := 0) rfl rfl)) rfl rfl hl.1 rfl (lv_room (Nat.le_of_ble_eq_true rfl)) dX5_ask_74 ⟨Nat.le_of_ble_eq_true rfl, Nat.le_of_ble_eq_true rfl⟩) hS hD hA (fun z74 u74 H locs hz74 hP hD hS => ?_)
          refine W.widen (k := 1) (n := 6) (Nat.le_of_ble_eq_true rfl) (Nat.le_of_ble_eq_true rfl) ?_
          exact hret (ad, (rfF (τ) 2), bo, ql, qs) dX5_ask_77 hP hD hS ⟨⟨k, hk, rfl⟩, by omega, by rw [cN_nI (by omega), ← hτ]; exact (Or.inr (Or.inl ⟨b51, b65, hz74, rfl⟩)), ⟨hQZ, hbo, rfl, rfl, rfl⟩⟩
        · skip
          refine lv_if_eq (tgt := 78) hx hb dX5_ask_68 (by decide) (fun _ => ?_) (fun q => by first | exact absurd q (by decide) | exact absurd (by decide) q)
          refine lv_aload_n hx hb dX5_ask_78 rfl (lv_at hl 0 rfl) ?_
          refine gn2 (v := .int (nI (τ 5 k))) hx hb hts fX5_ask_2 hown hK.1 hP (k + 20) 2 (WG_pd hk2) (by decide) (hK.2 _ nwf_X5_138 rfl) rfl rfl dX5_ask_79 ?_
          refine lv_aload_n hx hb dX5_ask_82 rfl (lv_at hl 1 rfl) ?_
          refine lv_aload_n hx hb dX5_ask_83 rfl (lv_at hl 0 rfl) ?_
          refine gn2 (v := .int (nI (τ 3 k))) hx hb hts fX5_ask_2 hown hK.1 hP (k + 20) 0 (WG_pd hk2) (by decide) (hK.2 _ nwf_X5_141 rfl) rfl rfl dX5_ask_84 ?_
          refine lv_aload_n hx hb dX5_ask_87 rfl (lv_at hl 0 rfl) ?_
          refine gn2 (v := .int (nI (τ 4 k))) hx hb hts fX5_ask_2 hown hK.1 hP (k + 20) 1 (WG_pd hk2) (by decide) (hK.2 _ nwf_X5_144 rfl) rfl rfl dX5_ask_88 ?_
          refine mw_calli (va_runV (As := [.int (nI (τ 3 k)), .int (nI (τ 4 k))]) (rest := [.int (nI (τ 5 k))]) ⟨hx, hb, hml, hown, hts⟩ (c_X5_bidsOver l D cy ad (τ) er ofd de bo ql qs tv hbo hI2 hDL hQZ (τ 3 k) (τ 4 k) (by omega) (by omega) H.size) (cwV 2 hts gX5_ask_X5_bidsOver rfl rfl rfl hdX5_bidsOver ⟨Nat.le_of_ble_eq_true rfl, Nat.le_of_ble_eq_true rfl⟩) (mo_preV hK rfl hP hD (va_recv hK.1 hP (ci := 5) (q0 := 0) rfl rfl)) rfl rfl hl.1 rfl (lv_room (Nat.le_of_ble_eq_true rfl)) dX5_ask_91 ⟨Nat.le_of_ble_eq_true rfl, Nat.le_of_ble_eq_true rfl⟩) hS hD hA (fun z91 u91 H locs hz91 hP hD hS => ?_)
          have hQZ := hz91.2
          refine lv_icmp_ge (tgt := 104) hx hb dX5_ask_94 (by decide) (fun c94 => ?_) (fun c94 => ?_)
          · skip
            refine lv_aload_n hx hb dX5_ask_104 rfl (lv_at hl 1 rfl) ?_
            refine va_new (ci := 0) (fs := [.int (nI 0), .int (nI 0), .int (nI 0), .int (nI 0), .int (nI 0)]) (C := RX0) (T := TX0) (N := 5) hx hb hts fX5_ask_0 tyX0 tyX0_ok hown (hts _ nclX5_ask_105) (hts _ ninX5_ask_105) (hts _ niiX5_ask_105) hK.1 hP hD hS hA rfl (fun j hj => by rcases (show j = 0 ∨ j = 1 ∨ j = 2 ∨ j = 3 ∨ j = 4 by omega) with rfl | rfl | rfl | rfl | rfl <;> rfl) (Nat.le_of_ble_eq_true rfl) (Nat.le_of_ble_eq_true rfl) dX5_ask_105 (fun q105 H hP hD hS => ?_)
            refine lv_dup hx hb dX5_ask_108 rfl ?_
            refine lv_aload_n hx hb dX5_ask_109 rfl (lv_at hl 0 rfl) ?_
            have hP : va_P D vwCl ((WG ad cy (τ 0 0) (τ 0 3) (τ) er ofd de bo u91.1 u91.2 tv) ++ [(q105, .inr (0, [.int (nI 0), .int (nI 0), .int (nI 0), .int (nI 0), .int (nI 0)]))]) H := hP
            have hD : va_D A ((WG ad cy (τ 0 0) (τ 0 3) (τ) er ofd de bo u91.1 u91.2 tv) ++ [(q105, .inr (0, [.int (nI 0), .int (nI 0), .int (nI 0), .int (nI 0), .int (nI 0)]))]) := hD
            refine gn2 (v := .int (nI (τ 3 k))) hx hb hts fX5_ask_2 hown hK.1 hP (k + 20) 0 (WGx_pd hk2) (by decide) (hK.2 _ nwf_X5_141 rfl) rfl rfl dX5_ask_110 ?_
            refine lv_aload_n hx hb dX5_ask_113 rfl (lv_at hl 0 rfl) ?_
            refine gn2 (v := .int (nI (τ 4 k))) hx hb hts fX5_ask_2 hown hK.1 hP (k + 20) 1 (WGx_pd hk2) (by decide) (hK.2 _ nwf_X5_144 rfl) rfl rfl dX5_ask_114 ?_
            refine lv_iconst (v := nI 1) hx hb dX5_ask_117 (by decide) ?_
            refine lv_aload_n hx hb dX5_ask_118 rfl (lv_at hl 0 rfl) ?_
            refine gn2 (v := .int (nI (τ 5 k))) hx hb hts fX5_ask_2 hown hK.1 hP (k + 20) 2 (WGx_pd hk2) (by decide) (hK.2 _ nwf_X5_138 rfl) rfl rfl dX5_ask_119 ?_
            refine ap_callv (va_runIN (As := [.int (nI (τ 3 k)), .int (nI (τ 4 k)), .int (nI 1), .int (nI (τ 5 k))]) (rest := [.ref q105, .ref (ad 0 0)]) ⟨hx, hb, hml, hown, hts⟩ (c_X0_init l D cy q105 (τ 3 k) (τ 4 k) 1 (τ 5 k) H.size) ⟨va_cnB 4 hts gX5_ask_X0_init_n151 rfl rfl rfl (hK.2 _ nwm_X5_151 rfl) (hts _ (List.mem_of_getElem? (i := 8) rfl)) hdX0_init.2 ⟨Nat.le_of_ble_eq_true rfl, Nat.le_of_ble_eq_true rfl⟩, rfl, hts _ (List.mem_of_getElem? (i := 140) rfl)⟩ (mo_pre hK rfl (hP.mem (fun x hx => List.mem_append_right _ hx)) (hD.subl (List.sublist_append_right _ _))) rfl rfl hl.1 rfl (lv_room (Nat.le_of_ble_eq_true rfl)) dX5_ask_122 ⟨Nat.le_of_ble_eq_true rfl, Nat.le_of_ble_eq_true rfl⟩) hS hP hD hA (fun u122 H locs hr122 hP hD hS => ?_)
            have hP : va_P D vwCl ((WG ad cy (τ 0 0) (τ 0 3) (τ) er ofd de bo u91.1 u91.2 tv) ++ [(q105, .inr (0, [.int (nI (τ 3 k)), .int (nI (τ 4 k)), .int (nI 1), .int (nI (τ 5 k)), .int (nI 0)]))]) H := hP
            have hD : va_D A ((WG ad cy (τ 0 0) (τ 0 3) (τ) er ofd de bo u91.1 u91.2 tv) ++ [(q105, .inr (0, [.int (nI (τ 3 k)), .int (nI (τ 4 k)), .int (nI 1), .int (nI (τ 5 k)), .int (nI 0)]))]) := hD
            refine mw_calli (va_runV (As := [.ref q105]) (rest := []) ⟨hx, hb, hml, hown, hts⟩ (c_X5_enter l D cy ad (τ) er ofd de bo u91.1 u91.2 tv q105 (τ 3 k) (τ 4 k) 1 (τ 5 k) (by omega) H.size) (cwV 1 hts gX5_ask_X5_enter rfl rfl rfl hdX5_enter ⟨Nat.le_of_ble_eq_true rfl, Nat.le_of_ble_eq_true rfl⟩) (mo_preV hK rfl hP hD (va_recv hK.1 hP (ci := 5) (q0 := 0) rfl rfl)) rfl rfl hl.1 rfl (lv_room (Nat.le_of_ble_eq_true rfl)) dX5_ask_125 ⟨Nat.le_of_ble_eq_true rfl, Nat.le_of_ble_eq_true rfl⟩) hS hD hA (fun z125 u125 H locs hz125 hP hD hS => ?_)
            refine W.widen (k := 1) (n := 6) (Nat.le_of_ble_eq_true rfl) (Nat.le_of_ble_eq_true rfl) ?_
            exact hret ((adB ad (τ 0 3) q105), (bookF τ (τ 3 k) (τ 4 k) 1 (τ 5 k)), (va_up bo (τ 0 3) (some q105)), u91.1, u91.2) dX5_ask_128 hP hD hS ⟨⟨k, hk, rfl⟩, by omega, by rw [cN_nI (by omega), ← hτ]; exact (Or.inr (Or.inr (Or.inr ⟨b51, b65, by rw [← hz91.1]; exact Int32.not_lt.mpr c94, hz125, rfl⟩))), ⟨hQZ, BO_enter hbo, rfl, rfl, rfl⟩⟩
          · skip
            refine lv_aload_n hx hb dX5_ask_97 rfl (lv_at hl 1 rfl) ?_
            refine lv_bipush (v := -3) hx hb dX5_ask_98 (by decide) ?_
            refine mw_calli (va_runV (As := [.int ((-3))]) (rest := []) ⟨hx, hb, hml, hown, hts⟩ (c_X5_refuse l D cy ad (τ) er ofd de bo u91.1 u91.2 tv 3 (by decide) (by decide) H.size) (cwV 1 hts gX5_ask_X5_refuse rfl rfl rfl hdX5_refuse ⟨Nat.le_of_ble_eq_true rfl, Nat.le_of_ble_eq_true rfl⟩) (mo_preV hK rfl hP hD (va_recv hK.1 hP (ci := 5) (q0 := 0) rfl rfl)) rfl rfl hl.1 rfl (lv_room (Nat.le_of_ble_eq_true rfl)) dX5_ask_100 ⟨Nat.le_of_ble_eq_true rfl, Nat.le_of_ble_eq_true rfl⟩) hS hD hA (fun z100 u100 H locs hz100 hP hD hS => ?_)
            refine W.widen (k := 1) (n := 6) (Nat.le_of_ble_eq_true rfl) (Nat.le_of_ble_eq_true rfl) ?_
            exact hret (ad, (rfF (τ) 3), bo, u91.1, u91.2) dX5_ask_103 hP hD hS ⟨⟨k, hk, rfl⟩, by omega, by rw [cN_nI (by omega), ← hτ]; exact (Or.inr (Or.inr (Or.inl ⟨b51, b65, by rw [← hz91.1]; exact Int32.not_le.mp c94, hz100, rfl⟩))), ⟨hQZ, hbo, rfl, rfl, rfl⟩⟩
    · skip
      exact hthr "java/lang/IllegalStateException" "there are 60 bookings" ["java/lang/RuntimeException", "java/lang/Exception"] 97 122 101 (Or.inr ⟨⟨k, hk, rfl⟩, by omega, rfl⟩) (by decide +kernel) (by decide +kernel) (hts _ (List.mem_of_getElem? (i := 3) rfl)) (hts _ (List.mem_of_getElem? (i := 4) rfl)) (hXW.2.2 (122, "there are 60 bookings") (by decide)) (xhat_IS (fun w hw => hts w (List.mem_cons_of_mem _ (List.mem_append_right _ hw))) hXW) xg_IS hP hD (hH0s ▸ hS) (hl.1.trans hml.symm) dX5_ask_29 dX5_ask_32 dX5_ask_33 dX5_ask_35 dX5_ask_38 (Nat.le_of_ble_eq_true rfl) (Nat.le_of_ble_eq_true rfl) (Nat.le_of_ble_eq_true rfl) (Nat.le_of_ble_eq_true rfl) (Nat.le_of_ble_eq_true rfl) (Nat.le_of_ble_eq_true rfl)
  · skip
    refine lv_astore_nN (lv' := [(2, .null), (0, .ref (ad 0 0)), (1, .int v)]) hx hb dX5_ask_5 rfl hl (by decide) rfl (fun ls hl => ?_)
    refine lv_aload_nN hx hb dX5_ask_6 rfl (lv_at hl 0 rfl) ?_
    refine lv_ifnonnullN hx hb dX5_ask_7 ?_
    exact hthr "java/lang/IndexOutOfBoundsException" "there is no such product" ["java/lang/RuntimeException", "java/lang/Exception"] 87 113 91 (Or.inl ⟨r2, rfl⟩) (by decide +kernel) (by decide +kernel) (hts _ (List.mem_of_getElem? (i := 1) rfl)) (hts _ (List.mem_of_getElem? (i := 2) rfl)) (hXW.2.2 (113, "there is no such product") (by decide)) (xhat_IO (fun w hw => hts w (List.mem_cons_of_mem _ (List.mem_append_left _ (List.mem_append_right _ hw)))) hXW) xg_IO hP hD (hH0s ▸ hS) (hl.1.trans hml.symm) dX5_ask_10 dX5_ask_13 dX5_ask_14 dX5_ask_16 dX5_ask_19 (Nat.le_of_ble_eq_true rfl) (Nat.le_of_ble_eq_true rfl) (Nat.le_of_ble_eq_true rfl) (Nat.le_of_ble_eq_true rfl) (Nat.le_of_ble_eq_true rfl) (Nat.le_of_ble_eq_true rfl)
set_option maxHeartbeats 4000000 in
set_option maxRecDepth 100000 in
theorem c_X5_group (l : Launch) (hfl : l.stackTraces = false) (D : va_G) (cy : Nat → ClassId) (ad : Nat → Nat → Nat) (σ : SF) (er : Int64) (ofd de bo : Nat → Option Nat) (ql : Nat → Nat) (qs : Nat → Nat → Nat) (tv : Nat → Nat) (hbo : BO ad σ bo) {n : Nat} (hI : Iv n σ) {dl : List Nat} (hDL : DL ad σ de dl) (hQZ : QZ qs) (f t q g : Int32) : cXI l D cy yX5_group wsX5_group rmX5_group [.ref (ad 0 0), .int f, .int t, .int q, .int g] (WG ad cy (σ 0 0) (σ 0 3) σ er ofd de bo ql qs tv) (T := TA) (fun u => WG u.1 cy (u.2.1 0 0) (u.2.1 0 3) u.2.1 er ofd de u.2.2.1 u.2.2.2.1 u.2.2.2.2 tv) (fun r u => (okR f 0 2 ∧ okR t 0 2) ∧ (f ≤ t ∧ okR q 1 10 ∧ okR g 1 3000) ∧ ¬ σ 0 3 = 60 ∧ grpA σ (cN f) (cN t) (cN q) (cN g) r u.2.1 ∧ okA ad u) (fun E => (¬ (okR f 0 2 ∧ okR t 0 2) ∧ E = eIO) ∨ ((okR f 0 2 ∧ okR t 0 2) ∧ ¬ (f ≤ t ∧ okR q 1 10 ∧ okR g 1 3000) ∧ E = eIA) ∨ ((okR f 0 2 ∧ okR t 0 2) ∧ (f ≤ t ∧ okR q 1 10 ∧ okR g 1 3000) ∧ σ 0 3 = 60 ∧ E = eIS)) 1 6 := by
  refine cXI.of (cc := cX5_group) (maxL := 6) hfl (by decide) rfl (Nat.le_of_ble_eq_true rfl) ?_
  intro p e s m args below meth c H0 A Q hx hb hml hown hts hP hK hD hS hA hXW hH0s hret hthr ls hl
  obtain ⟨H, locs, hH, hlo⟩ : ∃ (H : Heap) (locs : List Loc), H = H0 ∧ locs = [] := ⟨_, _, rfl, rfl⟩
  rw [← hH] at hP
  rw [show va_S A H0 H0 [] = va_S A H0 H locs by rw [hH, hlo]] at hS
  rw [show W p l e rmX5_group s m args below meth c H0 [] 0 0 Q (F0 m 0 ls []) = W p l e rmX5_group s m args below meth c H locs 0 0 Q (F0 m 0 ls []) by rw [hH, hlo]]
  have hnb := hI.nb
  refine lv_iload_n hx hb dX5_group_0 rfl (lv_at hl 1 rfl) ?_
  refine ro_calliB (va_runS (As := [.int f]) (rest := []) ⟨hx, hb, hml, hown, hts⟩ (c_X5_isLeg l D cy (f) H va_P0) (va_cwS 1 hts gX5_group_X5_isLeg rfl rfl rfl hdX5_isLeg.2 ⟨Nat.le_of_ble_eq_true rfl, Nat.le_of_ble_eq_true rfl⟩) (ro_pre hK rfl) rfl rfl hl.1 rfl (lv_room (Nat.le_of_ble_eq_true rfl)) dX5_group_1 ⟨Nat.le_of_ble_eq_true rfl, Nat.le_of_ble_eq_true rfl⟩) (fun b1 => ?_) (fun b1 => ?_)
  · skip
    refine lv_if_eq (tgt := 14) hx hb dX5_group_4 (by decide) (fun q => by first | exact absurd q (by decide) | exact absurd (by decide) q) (fun _ => ?_)
    refine lv_iload_n hx hb dX5_group_7 rfl (lv_at hl 2 rfl) ?_
    refine ro_calliB (va_runS (As := [.int t]) (rest := []) ⟨hx, hb, hml, hown, hts⟩ (c_X5_isLeg l D cy (t) H va_P0) (va_cwS 1 hts gX5_group_X5_isLeg rfl rfl rfl hdX5_isLeg.2 ⟨Nat.le_of_ble_eq_true rfl, Nat.le_of_ble_eq_true rfl⟩) (ro_pre hK rfl) rfl rfl hl.1 rfl (lv_room (Nat.le_of_ble_eq_true rfl)) dX5_group_8 ⟨Nat.le_of_ble_eq_true rfl, Nat.le_of_ble_eq_true rfl⟩) (fun b8 => ?_) (fun b8 => ?_)
    · skip
      refine lv_if_ne (tgt := 24) hx hb dX5_group_11 (by decide) (fun _ => ?_) (fun q => by first | exact absurd q (by decide) | exact absurd (by decide) q)
      refine lv_iload_n hx hb dX5_group_24 rfl (lv_at hl 2 rfl) ?_
      refine lv_iload_n hx hb dX5_group_25 rfl (lv_at hl 1 rfl) ?_
      refine lv_icmp_lt (tgt := 51) hx hb dX5_group_26 (by decide) (fun c26 => ?_) (fun c26 => ?_)
      · skip
        exact hthr "java/lang/IllegalArgumentException" "the legs are in the wrong order, or seats or fare is out of range" ["java/lang/RuntimeException", "java/lang/Exception"] 72 156 76 (Or.inr (Or.inl ⟨⟨b1, b8⟩, fun z => by first | exact absurd z.1 (Int32.not_le.mpr c26) | exact b33 z.2.1 | exact b45 z.2.2, rfl⟩)) (by decide +kernel) (by decide +kernel) (hts _ (List.mem_of_getElem? (i := 3) rfl)) (hts _ (List.mem_of_getElem? (i := 4) rfl)) (hXW.2.2 (156, "the legs are in the wrong order, or seats or fare is out of range") (by decide)) (xhat_IA (fun w hw => hts w (List.mem_cons_of_mem _ (List.mem_append_left _ (List.mem_append_right _ hw)))) hXW) xg_IA hP hD (hH0s ▸ hS) (hl.1.trans hml.symm) dX5_group_51 dX5_group_54 dX5_group_55 dX5_group_57 dX5_group_60 (Nat.le_of_ble_eq_true rfl) (Nat.le_of_ble_eq_true rfl) (Nat.le_of_ble_eq_true rfl) (Nat.le_of_ble_eq_true rfl) (Nat.le_of_ble_eq_true rfl) (Nat.le_of_ble_eq_true rfl)
      · skip
        refine lv_iload_n hx hb dX5_group_29 rfl (lv_at hl 3 rfl) ?_
        refine lv_iconst (v := nI 1) hx hb dX5_group_30 (by decide) ?_
        refine lv_bipush (v := nI 10) hx hb dX5_group_31 (by decide) ?_
        refine ro_calliB (va_runS (As := [.int q, .int (nI 1), .int (nI 10)]) (rest := []) ⟨hx, hb, hml, hown, hts⟩ (c_X5_within l D cy (q) ((nI 1)) ((nI 10)) H va_P0) (va_cwS 3 hts gX5_group_X5_within rfl rfl rfl hdX5_within.2 ⟨Nat.le_of_ble_eq_true rfl, Nat.le_of_ble_eq_true rfl⟩) (ro_pre hK rfl) rfl rfl hl.1 rfl (lv_room (Nat.le_of_ble_eq_true rfl)) dX5_group_33 ⟨Nat.le_of_ble_eq_true rfl, Nat.le_of_ble_eq_true rfl⟩) (fun b33 => ?_) (fun b33 => ?_)
        · skip
          refine lv_if_eq (tgt := 51) hx hb dX5_group_36 (by decide) (fun q => by first | exact absurd q (by decide) | exact absurd (by decide) q) (fun _ => ?_)
          refine lv_iload hx hb dX5_group_39 (lv_at hl 4 rfl) ?_
          refine lv_iconst (v := nI 1) hx hb dX5_group_41 (by decide) ?_
          refine lv_sipush (v := nI 3000) hx hb dX5_group_42 (by decide) ?_
          refine ro_calliB (va_runS (As := [.int g, .int (nI 1), .int (nI 3000)]) (rest := []) ⟨hx, hb, hml, hown, hts⟩ (c_X5_within l D cy (g) ((nI 1)) ((nI 3000)) H va_P0) (va_cwS 3 hts gX5_group_X5_within rfl rfl rfl hdX5_within.2 ⟨Nat.le_of_ble_eq_true rfl, Nat.le_of_ble_eq_true rfl⟩) (ro_pre hK rfl) rfl rfl hl.1 rfl (lv_room (Nat.le_of_ble_eq_true rfl)) dX5_group_45 ⟨Nat.le_of_ble_eq_true rfl, Nat.le_of_ble_eq_true rfl⟩) (fun b45 => ?_) (fun b45 => ?_)
          · skip
            have hL : (okR f 0 2 ∧ okR t 0 2) := ⟨b1, b8⟩
            have hR : (f ≤ t ∧ okR q 1 10 ∧ okR g 1 3000) := ⟨Int32.not_lt.mp c26, b33, b45⟩
            refine lv_if_ne (tgt := 61) hx hb dX5_group_48 (by decide) (fun _ => ?_) (fun q => by first | exact absurd q (by decide) | exact absurd (by decide) q)
            refine lv_aload_n hx hb dX5_group_61 rfl (lv_at hl 0 rfl) ?_
            refine gf5 (v := .int (nI (σ 0 3))) hx hb hts fX5_group_5 hown hK.1 hP 0 7 rfl (by decide) kX5_group_62 rfl rfl dX5_group_62 ?_
            refine lv_bipush (v := nI 60) hx hb dX5_group_65 (by decide) ?_
            refine ln_icmp_lt (tgt := 80) hx hb (by omega) (by omega) dX5_group_67 (by decide) (fun c67 => ?_) (fun c67 => ?_)
            · skip
              have hR1 := hR.1
              obtain ⟨f1, hf1a, hf1b, rfl⟩ := okR_nat (a := 0) (b := 2) b1 (by decide) (by decide)
              obtain ⟨t1, ht1a, ht1b, rfl⟩ := okR_nat (a := 0) (b := 2) b8 (by decide) (by decide)
              obtain ⟨q1, hq1a, hq1b, rfl⟩ := okR_nat (a := 1) (b := 10) b33 (by decide) (by decide)
              obtain ⟨g1, hg1a, hg1b, rfl⟩ := okR_nat (a := 1) (b := 3000) b45 (by decide) (by decide)
              have hft := (nI_leI (by omega) (by omega)).mp hR1
              refine lv_aload_n hx hb dX5_group_80 rfl (lv_at hl 0 rfl) ?_
              refine lv_iload_n hx hb dX5_group_81 rfl (lv_at hl 1 rfl) ?_
              refine lv_iload_n hx hb dX5_group_82 rfl (lv_at hl 2 rfl) ?_
              refine lv_iload_n hx hb dX5_group_83 rfl (lv_at hl 3 rfl) ?_
              refine ro_calliB (va_runV (As := [.int (nI f1), .int (nI t1), .int (nI q1)]) (rest := []) ⟨hx, hb, hml, hown, hts⟩ (c_X5_hasLeft l D cy ad σ er ofd de bo ql qs tv hbo hI f1 t1 q1 (by omega) (by omega) (by omega) H hP) (cwV 3 hts gX5_group_X5_hasLeft rfl rfl rfl hdX5_hasLeft ⟨Nat.le_of_ble_eq_true rfl, Nat.le_of_ble_eq_true rfl⟩) (ro_preV hK (va_recv hK.1 hP (ci := 5) (q0 := 0) rfl rfl)) rfl rfl hl.1 rfl (lv_room (Nat.le_of_ble_eq_true rfl)) dX5_group_84 ⟨Nat.le_of_ble_eq_true rfl, Nat.le_of_ble_eq_true rfl⟩) (fun b84 => ?_) (fun b84 => ?_)
              · skip
                refine lv_if_ne (tgt := 96) hx hb dX5_group_87 (by decide) (fun _ => ?_) (fun q => by first | exact absurd q (by decide) | exact absurd (by decide) q)
                refine lv_iload hx hb dX5_group_96 (lv_at hl 4 rfl) ?_
                refine lv_iload_n hx hb dX5_group_98 rfl (lv_at hl 3 rfl) ?_
                refine ln_imul hx hb dX5_group_99 (fun z99 hz99 => ?_)
                have hz99b : z99 ≤ 30000 := by rw [hz99]; have := Nat.mul_le_mul hg1b hq1b; omega
                refine lv_istore (lv' := [(5, .int (nI z99)), (0, .ref (ad 0 0)), (1, .int (nI f1)), (2, .int (nI t1)), (3, .int (nI q1)), (4, .int (nI g1))]) hx hb dX5_group_100 hl (by decide) rfl (fun ls hl => ?_)
                refine lv_iload hx hb dX5_group_102 (lv_at hl 0 rfl) ?_
                refine lv_aload_n hx hb dX5_group_104 rfl (lv_at hl 1 rfl) ?_
                refine lv_iload_n hx hb dX5_group_105 rfl (lv_at hl 2 rfl) ?_
                refine lv_iload_n hx hb dX5_group_106 rfl (lv_at hl 3 rfl) ?_
                refine lv_iload_n hx hb dX5_group_107 rfl (lv_at hl 4 rfl) ?_
                refine mw_calli (va_runV (As := [.int (nI f1), .int (nI t1), .int (nI q1)]) (rest := [.int (nI z99)]) ⟨hx, hb, hml, hown, hts⟩ (c_X5_displacement l D cy ad σ er ofd de bo ql qs tv hbo hI hDL hQZ f1 t1 q1 (by omega) (by omega) (by omega) (fun j h1 h2 => Nat.le_of_not_lt (fun z => b84 ⟨j, h1, h2, z⟩)) H.size) (cwV 3 hts gX5_group_X5_displacement rfl rfl rfl hdX5_displacement ⟨Nat.le_of_ble_eq_true rfl, Nat.le_of_ble_eq_true rfl⟩) (mo_preV hK rfl hP hD (va_recv hK.1 hP (ci := 5) (q0 := 0) rfl rfl)) rfl rfl hl.1 rfl (lv_room (Nat.le_of_ble_eq_true rfl)) dX5_group_108 ⟨Nat.le_of_ble_eq_true rfl, Nat.le_of_ble_eq_true rfl⟩) hS hD hA (fun z108 u108 H locs hz108 hP hD hS => ?_)
                have hQZ := hz108.2
                refine lv_icmp_ge (tgt := 121) hx hb dX5_group_111 (by decide) (fun c111 => ?_) (fun c111 => ?_)
                · skip
                  refine lv_aload_n hx hb dX5_group_121 rfl (lv_at hl 1 rfl) ?_
                  refine va_new (ci := 0) (fs := [.int (nI 0), .int (nI 0), .int (nI 0), .int (nI 0), .int (nI 0)]) (C := RX0) (T := TX0) (N := 5) hx hb hts fX5_group_0 tyX0 tyX0_ok hown (hts _ nclX5_group_122) (hts _ ninX5_group_122) (hts _ niiX5_group_122) hK.1 hP hD hS hA rfl (fun j hj => by rcases (show j = 0 ∨ j = 1 ∨ j = 2 ∨ j = 3 ∨ j = 4 by omega) with rfl | rfl | rfl | rfl | rfl <;> rfl) (Nat.le_of_ble_eq_true rfl) (Nat.le_of_ble_eq_true rfl) dX5_group_122 (fun q122 H hP hD hS => ?_)
                  refine lv_dup hx hb dX5_group_125 rfl ?_
                  refine lv_iload_n hx hb dX5_group_126 rfl (lv_at hl 2 rfl) ?_
                  refine lv_iload_n hx hb dX5_group_127 rfl (lv_at hl 3 rfl) ?_
                  refine lv_iload_n hx hb dX5_group_128 rfl (lv_at hl 4 rfl) ?_
                  refine lv_iload hx hb dX5_group_129 (lv_at hl 0 rfl) ?_
                  have hP : va_P D vwCl ((WG ad cy (σ 0 0) (σ 0 3) σ er ofd de bo u108.1 u108.2 tv) ++ [(q122, .inr (0, [.int (nI 0), .int (nI 0), .int (nI 0), .int (nI 0), .int (nI 0)]))]) H := hP
                  have hD : va_D A ((WG ad cy (σ 0 0) (σ 0 3) σ er ofd de bo u108.1 u108.2 tv) ++ [(q122, .inr (0, [.int (nI 0), .int (nI 0), .int (nI 0), .int (nI 0), .int (nI 0)]))]) := hD
                  refine ap_callv (va_runIN (As := [.int (nI f1), .int (nI t1), .int (nI q1), .int (nI z99)]) (rest := [.ref q122, .ref (ad 0 0)]) ⟨hx, hb, hml, hown, hts⟩ (c_X0_init l D cy q122 f1 t1 q1 z99 H.size) ⟨va_cnB 4 hts gX5_group_X0_init_n151 rfl rfl rfl (hK.2 _ nwm_X5_151 rfl) (hts _ (List.mem_of_getElem? (i := 10) rfl)) hdX0_init.2 ⟨Nat.le_of_ble_eq_true rfl, Nat.le_of_ble_eq_true rfl⟩, rfl, hts _ (List.mem_of_getElem? (i := 116) rfl)⟩ (mo_pre hK rfl (hP.mem (fun x hx => List.mem_append_right _ hx)) (hD.subl (List.sublist_append_right _ _))) rfl rfl hl.1 rfl (lv_room (Nat.le_of_ble_eq_true rfl)) dX5_group_131 ⟨Nat.le_of_ble_eq_true rfl, Nat.le_of_ble_eq_true rfl⟩) hS hP hD hA (fun u131 H locs hr131 hP hD hS => ?_)
                  have hP : va_P D vwCl ((WG ad cy (σ 0 0) (σ 0 3) σ er ofd de bo u108.1 u108.2 tv) ++ [(q122, .inr (0, [.int (nI f1), .int (nI t1), .int (nI q1), .int (nI z99), .int (nI 0)]))]) H := hP
                  have hD : va_D A ((WG ad cy (σ 0 0) (σ 0 3) σ er ofd de bo u108.1 u108.2 tv) ++ [(q122, .inr (0, [.int (nI f1), .int (nI t1), .int (nI q1), .int (nI z99), .int (nI 0)]))]) := hD
                  refine mw_calli (va_runV (As := [.ref q122]) (rest := []) ⟨hx, hb, hml, hown, hts⟩ (c_X5_enter l D cy ad σ er ofd de bo u108.1 u108.2 tv q122 f1 t1 q1 z99 (by omega) H.size) (cwV 1 hts gX5_group_X5_enter rfl rfl rfl hdX5_enter ⟨Nat.le_of_ble_eq_true rfl, Nat.le_of_ble_eq_true rfl⟩) (mo_preV hK rfl hP hD (va_recv hK.1 hP (ci := 5) (q0 := 0) rfl rfl)) rfl rfl hl.1 rfl (lv_room (Nat.le_of_ble_eq_true rfl)) dX5_group_134 ⟨Nat.le_of_ble_eq_true rfl, Nat.le_of_ble_eq_true rfl⟩) hS hD hA (fun z134 u134 H locs hz134 hP hD hS => ?_)
                  refine W.widen (k := 1) (n := 6) (Nat.le_of_ble_eq_true rfl) (Nat.le_of_ble_eq_true rfl) ?_
                  exact hret ((adB ad (σ 0 3) q122), (bookF σ f1 t1 q1 z99), (va_up bo (σ 0 3) (some q122)), u108.1, u108.2) dX5_group_137 hP hD hS ⟨hL, hR, by omega, by rw [cN_nI (by omega), cN_nI (by omega), cN_nI (by omega), cN_nI (by omega)]; exact Or.inr (Or.inr ⟨b84, by rw [← hz99, ← hz108.1]; exact Int32.not_lt.mpr c111, hz134, by rw [hz99]⟩), ⟨hQZ, BO_enter hbo, rfl, rfl, rfl⟩⟩
                · skip
                  refine lv_aload_n hx hb dX5_group_114 rfl (lv_at hl 1 rfl) ?_
                  refine lv_bipush (v := -3) hx hb dX5_group_115 (by decide) ?_
                  refine mw_calli (va_runV (As := [.int ((-3))]) (rest := []) ⟨hx, hb, hml, hown, hts⟩ (c_X5_refuse l D cy ad σ er ofd de bo u108.1 u108.2 tv 3 (by decide) (by decide) H.size) (cwV 1 hts gX5_group_X5_refuse rfl rfl rfl hdX5_refuse ⟨Nat.le_of_ble_eq_true rfl, Nat.le_of_ble_eq_true rfl⟩) (mo_preV hK rfl hP hD (va_recv hK.1 hP (ci := 5) (q0 := 0) rfl rfl)) rfl rfl hl.1 rfl (lv_room (Nat.le_of_ble_eq_true rfl)) dX5_group_117 ⟨Nat.le_of_ble_eq_true rfl, Nat.le_of_ble_eq_true rfl⟩) hS hD hA (fun z117 u117 H locs hz117 hP hD hS => ?_)
                  refine W.widen (k := 1) (n := 6) (Nat.le_of_ble_eq_true rfl) (Nat.le_of_ble_eq_true rfl) ?_
                  exact hret (ad, (rfF σ 3), bo, u108.1, u108.2) dX5_group_120 hP hD hS ⟨hL, hR, by omega, by rw [cN_nI (by omega), cN_nI (by omega), cN_nI (by omega), cN_nI (by omega)]; exact Or.inr (Or.inl ⟨b84, by rw [← hz99, ← hz108.1]; exact Int32.not_le.mp c111, hz117, rfl⟩), ⟨hQZ, hbo, rfl, rfl, rfl⟩⟩
              · skip
                refine lv_if_ne (tgt := 96) hx hb dX5_group_87 (by decide) (fun q => by first | exact absurd q (by decide) | exact absurd (by decide) q) (fun _ => ?_)
                refine lv_aload_n hx hb dX5_group_90 rfl (lv_at hl 0 rfl) ?_
                refine lv_iconst (v := -1) hx hb dX5_group_91 (by decide) ?_
                refine mw_calli (va_runV (As := [.int ((-1))]) (rest := []) ⟨hx, hb, hml, hown, hts⟩ (c_X5_refuse l D cy ad σ er ofd de bo ql qs tv 1 (by decide) (by decide) H.size) (cwV 1 hts gX5_group_X5_refuse rfl rfl rfl hdX5_refuse ⟨Nat.le_of_ble_eq_true rfl, Nat.le_of_ble_eq_true rfl⟩) (mo_preV hK rfl hP hD (va_recv hK.1 hP (ci := 5) (q0 := 0) rfl rfl)) rfl rfl hl.1 rfl (lv_room (Nat.le_of_ble_eq_true rfl)) dX5_group_92 ⟨Nat.le_of_ble_eq_true rfl, Nat.le_of_ble_eq_true rfl⟩) hS hD hA (fun z92 u92 H locs hz92 hP hD hS => ?_)
                refine W.widen (k := 1) (n := 6) (Nat.le_of_ble_eq_true rfl) (Nat.le_of_ble_eq_true rfl) ?_
                exact hret (ad, (rfF σ 1), bo, ql, qs) dX5_group_95 hP hD hS ⟨hL, hR, by omega, by rw [cN_nI (by omega), cN_nI (by omega), cN_nI (by omega), cN_nI (by omega)]; exact Or.inl ⟨Classical.not_not.mp b84, hz92, rfl⟩, ⟨hQZ, hbo, rfl, rfl, rfl⟩⟩
            · skip
              exact hthr "java/lang/IllegalStateException" "there are 60 bookings" ["java/lang/RuntimeException", "java/lang/Exception"] 97 122 101 (Or.inr (Or.inr ⟨hL, hR, by omega, rfl⟩)) (by decide +kernel) (by decide +kernel) (hts _ (List.mem_of_getElem? (i := 5) rfl)) (hts _ (List.mem_of_getElem? (i := 6) rfl)) (hXW.2.2 (122, "there are 60 bookings") (by decide)) (xhat_IS (fun w hw => hts w (List.mem_cons_of_mem _ (List.mem_append_right _ hw))) hXW) xg_IS hP hD (hH0s ▸ hS) (hl.1.trans hml.symm) dX5_group_70 dX5_group_73 dX5_group_74 dX5_group_76 dX5_group_79 (Nat.le_of_ble_eq_true rfl) (Nat.le_of_ble_eq_true rfl) (Nat.le_of_ble_eq_true rfl) (Nat.le_of_ble_eq_true rfl) (Nat.le_of_ble_eq_true rfl) (Nat.le_of_ble_eq_true rfl)
          · skip
            refine lv_if_ne (tgt := 61) hx hb dX5_group_48 (by decide) (fun q => by first | exact absurd q (by decide) | exact absurd (by decide) q) (fun _ => ?_)
            exact hthr "java/lang/IllegalArgumentException" "the legs are in the wrong order, or seats or fare is out of range" ["java/lang/RuntimeException", "java/lang/Exception"] 72 156 76 (Or.inr (Or.inl ⟨⟨b1, b8⟩, fun z => by first | exact absurd z.1 (Int32.not_le.mpr c26) | exact b33 z.2.1 | exact b45 z.2.2, rfl⟩)) (by decide +kernel) (by decide +kernel) (hts _ (List.mem_of_getElem? (i := 3) rfl)) (hts _ (List.mem_of_getElem? (i := 4) rfl)) (hXW.2.2 (156, "the legs are in the wrong order, or seats or fare is out of range") (by decide)) (xhat_IA (fun w hw => hts w (List.mem_cons_of_mem _ (List.mem_append_left _ (List.mem_append_right _ hw)))) hXW) xg_IA hP hD (hH0s ▸ hS) (hl.1.trans hml.symm) dX5_group_51 dX5_group_54 dX5_group_55 dX5_group_57 dX5_group_60 (Nat.le_of_ble_eq_true rfl) (Nat.le_of_ble_eq_true rfl) (Nat.le_of_ble_eq_true rfl) (Nat.le_of_ble_eq_true rfl) (Nat.le_of_ble_eq_true rfl) (Nat.le_of_ble_eq_true rfl)
        · skip
          refine lv_if_eq (tgt := 51) hx hb dX5_group_36 (by decide) (fun _ => ?_) (fun q => by first | exact absurd q (by decide) | exact absurd (by decide) q)
          exact hthr "java/lang/IllegalArgumentException" "the legs are in the wrong order, or seats or fare is out of range" ["java/lang/RuntimeException", "java/lang/Exception"] 72 156 76 (Or.inr (Or.inl ⟨⟨b1, b8⟩, fun z => by first | exact absurd z.1 (Int32.not_le.mpr c26) | exact b33 z.2.1 | exact b45 z.2.2, rfl⟩)) (by decide +kernel) (by decide +kernel) (hts _ (List.mem_of_getElem? (i := 3) rfl)) (hts _ (List.mem_of_getElem? (i := 4) rfl)) (hXW.2.2 (156, "the legs are in the wrong order, or seats or fare is out of range") (by decide)) (xhat_IA (fun w hw => hts w (List.mem_cons_of_mem _ (List.mem_append_left _ (List.mem_append_right _ hw)))) hXW) xg_IA hP hD (hH0s ▸ hS) (hl.1.trans hml.symm) dX5_group_51 dX5_group_54 dX5_group_55 dX5_group_57 dX5_group_60 (Nat.le_of_ble_eq_true rfl) (Nat.le_of_ble_eq_true rfl) (Nat.le_of_ble_eq_true rfl) (Nat.le_of_ble_eq_true rfl) (Nat.le_of_ble_eq_true rfl) (Nat.le_of_ble_eq_true rfl)
    · skip
      refine lv_if_ne (tgt := 24) hx hb dX5_group_11 (by decide) (fun q => by first | exact absurd q (by decide) | exact absurd (by decide) q) (fun _ => ?_)
      exact hthr "java/lang/IndexOutOfBoundsException" "there is no such leg" ["java/lang/RuntimeException", "java/lang/Exception"] 87 89 91 (Or.inl ⟨fun z => by first | exact b1 z.1 | exact b8 z.2, rfl⟩) (by decide +kernel) (by decide +kernel) (hts _ (List.mem_of_getElem? (i := 1) rfl)) (hts _ (List.mem_of_getElem? (i := 2) rfl)) (hXW.2.2 (89, "there is no such leg") (by decide)) (xhat_IO (fun w hw => hts w (List.mem_cons_of_mem _ (List.mem_append_left _ (List.mem_append_left _ (List.mem_append_right _ hw))))) hXW) xg_IO hP hD (hH0s ▸ hS) (hl.1.trans hml.symm) dX5_group_14 dX5_group_17 dX5_group_18 dX5_group_20 dX5_group_23 (Nat.le_of_ble_eq_true rfl) (Nat.le_of_ble_eq_true rfl) (Nat.le_of_ble_eq_true rfl) (Nat.le_of_ble_eq_true rfl) (Nat.le_of_ble_eq_true rfl) (Nat.le_of_ble_eq_true rfl)
  · skip
    refine lv_if_eq (tgt := 14) hx hb dX5_group_4 (by decide) (fun _ => ?_) (fun q => by first | exact absurd q (by decide) | exact absurd (by decide) q)
    exact hthr "java/lang/IndexOutOfBoundsException" "there is no such leg" ["java/lang/RuntimeException", "java/lang/Exception"] 87 89 91 (Or.inl ⟨fun z => by first | exact b1 z.1 | exact b8 z.2, rfl⟩) (by decide +kernel) (by decide +kernel) (hts _ (List.mem_of_getElem? (i := 1) rfl)) (hts _ (List.mem_of_getElem? (i := 2) rfl)) (hXW.2.2 (89, "there is no such leg") (by decide)) (xhat_IO (fun w hw => hts w (List.mem_cons_of_mem _ (List.mem_append_left _ (List.mem_append_left _ (List.mem_append_right _ hw))))) hXW) xg_IO hP hD (hH0s ▸ hS) (hl.1.trans hml.symm) dX5_group_14 dX5_group_17 dX5_group_18 dX5_group_20 dX5_group_23 (Nat.le_of_ble_eq_true rfl) (Nat.le_of_ble_eq_true rfl) (Nat.le_of_ble_eq_true rfl) (Nat.le_of_ble_eq_true rfl) (Nat.le_of_ble_eq_true rfl) (Nat.le_of_ble_eq_true rfl)
theorem WG_drop {ad : Nat → Nat → Nat} {cy : Nat → ClassId} {P B : Nat} {σ : SF} {er : Int64} {ofd de bo : Nat → Option Nat} {ql : Nat → Nat} {qs : Nat → Nat → Nat} {tv : Nat → Nat} : (WG ad cy P 0 σ er ofd de bo ql qs tv).Sublist (WG ad cy P B σ er ofd de bo ql qs tv) := by
  unfold WG WV
  exact List.Sublist.append_left (List.Sublist.append_left (List.Sublist.append_left (List.nil_sublist _) _) _) [_, _, _, _, _, _, _, _, _, _, _, _, _, _, _, _, _, _, _, _]
set_option maxHeartbeats 4000000 in
set_option maxRecDepth 100000 in
theorem c_X5_endDay (l : Launch) (hfl : l.stackTraces = false) (D : va_G) (cy : Nat → ClassId) (ad : Nat → Nat → Nat) (σ : SF) (er : Int64) (ofd de bo : Nat → Option Nat) (ql : Nat → Nat) (qs : Nat → Nat → Nat) (tv : Nat → Nat) (hof : OF ad σ ofd) (hbo : BO ad σ bo) {n : Nat} (hI : Iv n σ) (hn : n < 512) (v : Int32) : cXI l D cy yX5_endDay wsX5_endDay rmX5_endDay [.ref (ad 0 0), .int v] (WG ad cy (σ 0 0) (σ 0 3) σ er ofd de bo ql qs tv) (T := Unit) (fun _ => WG ad cy (σ 0 0) 0 (enF σ) (enE σ er (cN v)) ofd de bo ql qs tv) (fun r _ => okR v 0 100 ∧ r = nI (den σ (cN v) 3)) (fun E => ¬ okR v 0 100 ∧ E = eIA) 1 6 := by
  refine cXI.of (cc := cX5_endDay) (maxL := 4) hfl (by decide) rfl (Nat.le_of_ble_eq_true rfl) ?_
  intro p e s m args below meth c H0 A Q hx hb hml hown hts hP hK hD hS hA hXW hH0s hret hthr ls hl
  obtain ⟨H, locs, hH, hlo⟩ : ∃ (H : Heap) (locs : List Loc), H = H0 ∧ locs = [] := ⟨_, _, rfl, rfl⟩
  rw [← hH] at hP
  rw [show va_S A H0 H0 [] = va_S A H0 H locs by rw [hH, hlo]] at hS
  rw [show W p l e rmX5_endDay s m args below meth c H0 [] 0 0 Q (F0 m 0 ls []) = W p l e rmX5_endDay s m args below meth c H locs 0 0 Q (F0 m 0 ls []) by rw [hH, hlo]]
  refine lv_iload_n hx hb dX5_endDay_0 rfl (lv_at hl 1 rfl) ?_
  refine lv_iconst (v := nI 0) hx hb dX5_endDay_1 (by decide) ?_
  refine lv_bipush (v := nI 100) hx hb dX5_endDay_2 (by decide) ?_
  refine ro_calliB (va_runS (As := [.int v, .int (nI 0), .int (nI 100)]) (rest := []) ⟨hx, hb, hml, hown, hts⟩ (c_X5_within l D cy (v) ((nI 0)) ((nI 100)) H va_P0) (va_cwS 3 hts gX5_endDay_X5_within rfl rfl rfl hdX5_within.2 ⟨Nat.le_of_ble_eq_true rfl, Nat.le_of_ble_eq_true rfl⟩) (ro_pre hK rfl) rfl rfl hl.1 rfl (lv_room (Nat.le_of_ble_eq_true rfl)) dX5_endDay_4 ⟨Nat.le_of_ble_eq_true rfl, Nat.le_of_ble_eq_true rfl⟩) (fun b4 => ?_) (fun b4 => ?_)
  · skip
    have hO := b4
    obtain ⟨sh, hsha, hshb, rfl⟩ := okR_nat (a := 0) (b := 100) b4 (by decide) (by decide)
    refine lv_if_ne (tgt := 20) hx hb dX5_endDay_7 (by decide) (fun _ => ?_) (fun q => by first | exact absurd q (by decide) | exact absurd (by decide) q)
    refine lv_iconst (v := nI 0) hx hb dX5_endDay_20 (by decide) ?_
    refine lv_istore_n (lv' := [(2, .int (nI 0)), (0, .ref (ad 0 0)), (1, .int (nI sh))]) hx hb dX5_endDay_21 rfl hl (by decide) rfl (fun ls hl => ?_)
    have K24 : ∀ (n24 : Nat) (dd : Nat) (k : Nat), 3 - k < n24 → (dd = den σ sh k) → (k ≤ 3) → (dd ≤ 600 * k) → ∀ (H : Heap) (locs : List Loc), va_P D vwCl (WG ad cy (σ 0 0) (σ 0 3) σ er ofd de bo ql qs tv) H → va_D A (WG ad cy (σ 0 0) (σ 0 3) σ er ofd de bo ql qs tv) → va_S A H0 H locs → ∀ ls : Array Slot, lv_has ls 4 [(0, .ref (ad 0 0)), (1, .int (nI sh)), (2, .int (nI dd)), (3, .int (nI k))] → W p l e rmX5_endDay s m args below meth c H locs 0 0 Q (F0 m 24 ls []) := by
      intro n24
      induction n24 with
      | zero =>
        intro dd k hfu
        exact absurd hfu (Nat.not_lt_zero _)
      | succ n24 ih24 =>
        intro dd k hfu hdd hk hdb H locs hP hD hS ls hl
        refine lv_iload_n hx hb dX5_endDay_24 rfl (lv_at hl 3 rfl) ?_
        refine lv_iconst (v := nI 3) hx hb dX5_endDay_25 (by decide) ?_
        refine ln_icmp_ge (tgt := 44) hx hb (by omega) (by omega) dX5_endDay_26 (by decide) (fun c26 => ?_) (fun c26 => ?_)
        · skip
          have hk3 : dd = den σ sh 3 := by rw [hdd, show k = 3 by omega]
          refine lv_aload_n hx hb dX5_endDay_44 rfl (lv_at hl 0 rfl) ?_
          refine lv_dup hx hb dX5_endDay_45 rfl ?_
          refine gf5 (v := .long er) hx hb hts fX5_endDay_5 hown hK.1 hP 0 13 rfl (by decide) kX5_endDay_46 rfl rfl dX5_endDay_46 ?_
          refine lv_aload_n hx hb dX5_endDay_49 rfl (lv_at hl 0 rfl) ?_
          refine ro_calliN (va_runV (As := []) (rest := [.long er, .ref (ad 0 0)]) ⟨hx, hb, hml, hown, hts⟩ (c_X5_faresOfToday l D cy ad σ er ofd de bo ql qs tv hbo hI.nb (fun b hb => (hI.bo b hb).2.2.2.2) H hP) (cwV 0 hts gX5_endDay_X5_faresOfToday rfl rfl rfl hdX5_faresOfToday ⟨Nat.le_of_ble_eq_true rfl, Nat.le_of_ble_eq_true rfl⟩) (ro_preV hK (va_recv hK.1 hP (ci := 5) (q0 := 0) rfl rfl)) rfl rfl hl.1 rfl (lv_room (Nat.le_of_ble_eq_true rfl)) dX5_endDay_50 ⟨Nat.le_of_ble_eq_true rfl, Nat.le_of_ble_eq_true rfl⟩) (fun z50 hz50 => ?_)
          refine lv_bipush (v := nI 100) hx hb dX5_endDay_53 (by decide) ?_
          refine lv_iload_n hx hb dX5_endDay_55 rfl (lv_at hl 2 rfl) ?_
          refine ln_imul hx hb dX5_endDay_56 (fun z56 hz56 => ?_)
          refine lv_isub hx hb dX5_endDay_57 ?_
          refine lv_i2l hx hb dX5_endDay_58 rfl ?_
          refine lv_ladd hx hb dX5_endDay_59 ?_
          refine pf5 hx hb hts fX5_endDay_5 hown hK.1 hP hD hS 0 13 rfl (by decide) kX5_endDay_60 rfl rfl (ty := .long) (by decide) rfl rfl (Nat.le_of_ble_eq_true rfl) dX5_endDay_60 (fun H locs hP hD hS => ?_)
          refine lv_aload_n hx hb dX5_endDay_63 rfl (lv_at hl 0 rfl) ?_
          have hP : va_P D vwCl (WG ad cy (σ 0 0) (σ 0 3) σ (er + ((nI z50 - nI z56).toInt64)) ofd de bo ql qs tv) H := hP
          have hD : va_D A (WG ad cy (σ 0 0) (σ 0 3) σ (er + ((nI z50 - nI z56).toInt64)) ofd de bo ql qs tv) := hD
          refine mw_callv (va_runV (As := []) (rest := []) ⟨hx, hb, hml, hown, hts⟩ (c_X5_learn l D cy ad σ (er + ((nI z50 - nI z56).toInt64)) ofd de bo ql qs tv hof hI hn H.size) (cwV 0 hts gX5_endDay_X5_learn rfl rfl rfl hdX5_learn ⟨Nat.le_of_ble_eq_true rfl, Nat.le_of_ble_eq_true rfl⟩) (mo_preV hK rfl hP hD (va_recv hK.1 hP (ci := 5) (q0 := 0) rfl rfl)) rfl rfl hl.1 rfl (lv_room (Nat.le_of_ble_eq_true rfl)) dX5_endDay_64 ⟨Nat.le_of_ble_eq_true rfl, Nat.le_of_ble_eq_true rfl⟩) hS hD hA (fun u64 H locs hr64 hP hD hS => ?_)
          refine lv_aload_n hx hb dX5_endDay_67 rfl (lv_at hl 0 rfl) ?_
          refine lv_iconst (v := nI 0) hx hb dX5_endDay_68 (by decide) ?_
          refine pf5 hx hb hts fX5_endDay_5 hown hK.1 hP hD hS 0 7 rfl (by decide) kX5_endDay_69 rfl rfl (ty := .int) (by decide) rfl rfl (Nat.le_of_ble_eq_true rfl) dX5_endDay_69 (fun H locs hP hD hS => ?_)
          refine lv_iload_n hx hb dX5_endDay_72 rfl (lv_at hl 2 rfl) ?_
          have hP : va_P D vwCl (WG ad cy (σ 0 0) (σ 0 3) (va_up ((lnF σ (σ 0 0))) 0 (va_up ((lnF σ (σ 0 0)) 0) 3 0)) (er + ((nI z50 - nI z56).toInt64)) ofd de bo ql qs tv) H := hP
          have hD : va_D A (WG ad cy (σ 0 0) (σ 0 3) (va_up ((lnF σ (σ 0 0))) 0 (va_up ((lnF σ (σ 0 0)) 0) 3 0)) (er + ((nI z50 - nI z56).toInt64)) ofd de bo ql qs tv) := hD
          have her : er + ((nI z50 - nI z56).toInt64) = enE σ er sh := by rw [hz50, hz56, hk3]; unfold enE; rw [pk_mul]
          rw [her] at hP hD
          have hP : va_P D vwCl (WG ad cy (σ 0 0) (σ 0 3) (enF σ) (enE σ er sh) ofd de bo ql qs tv) H := hP
          have hD : va_D A (WG ad cy (σ 0 0) (σ 0 3) (enF σ) (enE σ er sh) ofd de bo ql qs tv) := hD
          have hP : va_P D vwCl (WG ad cy (σ 0 0) 0 (enF σ) (enE σ er (cN (nI sh))) ofd de bo ql qs tv) H := by rw [cN_nI (by omega)]; exact hP.mem (fun x hx => WG_drop.subset hx)
          have hD : va_D A (WG ad cy (σ 0 0) 0 (enF σ) (enE σ er (cN (nI sh))) ofd de bo ql qs tv) := by rw [cN_nI (by omega)]; exact hD.subl WG_drop
          refine W.widen (k := 1) (n := 6) (Nat.le_of_ble_eq_true rfl) (Nat.le_of_ble_eq_true rfl) ?_
          exact hret () dX5_endDay_73 hP hD hS ⟨hO, by rw [cN_nI (by omega), hk3]⟩
        · skip
          refine lv_iload_n hx hb dX5_endDay_29 rfl (lv_at hl 2 rfl) ?_
          refine lv_aload_n hx hb dX5_endDay_30 rfl (lv_at hl 0 rfl) ?_
          refine lv_iload_n hx hb dX5_endDay_31 rfl (lv_at hl 3 rfl) ?_
          refine lv_iload_n hx hb dX5_endDay_32 rfl (lv_at hl 1 rfl) ?_
          refine ro_calliN (va_runV (As := [.int (nI k), .int (nI sh)]) (rest := [.int (nI dd)]) ⟨hx, hb, hml, hown, hts⟩ (c_X5_deniedOn l D cy ad σ er ofd de bo ql qs tv hbo hI k sh (by omega) (by omega) H hP) (cwV 2 hts gX5_endDay_X5_deniedOn rfl rfl rfl hdX5_deniedOn ⟨Nat.le_of_ble_eq_true rfl, Nat.le_of_ble_eq_true rfl⟩) (ro_preV hK (va_recv hK.1 hP (ci := 5) (q0 := 0) rfl rfl)) rfl rfl hl.1 rfl (lv_room (Nat.le_of_ble_eq_true rfl)) dX5_endDay_33 ⟨Nat.le_of_ble_eq_true rfl, Nat.le_of_ble_eq_true rfl⟩) (fun z33 hz33 => ?_)
          have hbz33 : z33 ≤ 600 := by have h1 := hI.bkle k (by omega); have h2 := Nat.mul_le_mul h1 (show sh ≤ 100 by omega); rw [hz33]; unfold den1; omega
          refine ln_iadd hx hb dX5_endDay_36 (fun z36 hz36 => ?_)
          refine lv_istore_n (lv' := [(2, .int (nI z36)), (0, .ref (ad 0 0)), (1, .int (nI sh)), (3, .int (nI k))]) hx hb dX5_endDay_37 rfl hl (by decide) rfl (fun ls hl => ?_)
          obtain ⟨z38, hz38⟩ : ∃ z : Nat, z = k + 1 := ⟨_, rfl⟩
          refine lv_iinc (v := nI z38) (lv' := [(3, .int (nI z38)), (2, .int (nI z36)), (0, .ref (ad 0 0)), (1, .int (nI sh))]) hx hb dX5_endDay_38 hl (k := 3) rfl (by rw [hz38]; exact nI_add _ 1) (by decide) rfl (fun ls hl => ?_)
          refine lv_goto (tgt := 24) hx hb dX5_endDay_41 (by decide) ?_
          exact ih24 z36 z38 (by omega) (by rw [hz38]; show z36 = den σ sh k + den1 σ sh k; omega) (by omega) (by omega) H locs hP hD hS ls (lv_sub hl [2, 3, 1, 0] rfl)
    refine lv_iconst (v := nI 0) hx hb dX5_endDay_22 (by decide) ?_
    refine lv_istore_n (lv' := [(3, .int (nI 0)), (2, .int (nI 0)), (0, .ref (ad 0 0)), (1, .int (nI sh))]) hx hb dX5_endDay_23 rfl hl (by decide) rfl (fun ls hl => ?_)
    exact K24 _ 0 0 (Nat.lt_succ_self _) rfl (by omega) (by omega) H locs hP hD hS ls (lv_sub hl [2, 3, 1, 0] rfl)
  · skip
    refine lv_if_ne (tgt := 20) hx hb dX5_endDay_7 (by decide) (fun q => by first | exact absurd q (by decide) | exact absurd (by decide) q) (fun _ => ?_)
    exact hthr "java/lang/IllegalArgumentException" "0 to 100 percent show up" ["java/lang/RuntimeException", "java/lang/Exception"] 72 179 76 ⟨b4, rfl⟩ (by decide +kernel) (by decide +kernel) (hts _ (List.mem_of_getElem? (i := 1) rfl)) (hts _ (List.mem_of_getElem? (i := 2) rfl)) (hXW.2.2 (179, "0 to 100 percent show up") (by decide)) (xhat_IA (fun w hw => hts w (List.mem_cons_of_mem _ (List.mem_append_right _ hw))) hXW) xg_IA hP hD (hH0s ▸ hS) (hl.1.trans hml.symm) dX5_endDay_10 dX5_endDay_13 dX5_endDay_14 dX5_endDay_16 dX5_endDay_19 (Nat.le_of_ble_eq_true rfl) (Nat.le_of_ble_eq_true rfl) (Nat.le_of_ble_eq_true rfl) (Nat.le_of_ble_eq_true rfl) (Nat.le_of_ble_eq_true rfl) (Nat.le_of_ble_eq_true rfl)
