theorem law_end {L i : Nat} (hL : L ≤ 2560) (hi : i ≤ 2560) (h : ¬ Int32.ofNat L - nI 5 < nI i) : i + 5 ≤ L := by
  have h1 := Int32.le_iff_toInt_le.mp (Int32.not_lt.mp h)
  rw [show Int32.ofNat L = nI L from rfl, pk_sub_toInt (by omega) (by omega), nI_toInt (by omega)] at h1
  omega
set_option maxHeartbeats 4000000 in
set_option maxRecDepth 100000 in
theorem law_loop {p : Program} {l : Launch} {e : Env} {s : State} {m : MethodId} {below : List Frame} {meth : Method} {c : Code} {D : va_G} {cy : Nat → ClassId} {b L : Nat} {xs : Nat → Int32} {Q : State → Prop} (C : LX p l D cy s m c b L xs) (hL : L ≤ 2560)
    (hend : ∀ (H : Heap) (ls : Array Slot), W p l e room_1 s m #[Value.ref b] below meth c H [] 788792 6729728 Q (F0 m 1324 ls [.int 1])) : ∀ f i n : Nat, L - i < f → i = 5 * n → i ≤ L → LK p l e s m below meth c D cy b Q i n 28 (40 + 2 * n) (4000 + 28 * n) := by
  intro f
  induction f with
  | zero => intro i n h; exact absurd h (Nat.not_lt_zero _)
  | succ f ih =>
    intro i n hf hi hiL
    have C0 := C
    obtain ⟨hx, hb, hml, hown, hts, hK, hXW, hXZ, hX, hbl, hfl⟩ := C
    intro ad σ er ofd de dl bo ql qs tv am wo th ao aD o d H locs ls hI hP hD hS hl
    have hA : ∀ q, s.heap.size ≤ q → (fun q => s.heap.size ≤ q) q := fun q h => h
    have hbA : ¬ (fun q => s.heap.size ≤ q) b := Nat.not_le.mpr hbl
    refine lv_iload hx hb dL_law_28 (lv_at hl 0 rfl) ?_
    refine lv_aload_n hx hb dL_law_30 rfl (lv_at hl 1 rfl) ?_
    refine va_slen hx hb hX hbl hbA hS dL_law_31 ?_
    refine lv_iconst (v := nI 5) hx hb dL_law_32 (by decide) ?_
    refine lv_isub hx hb dL_law_33 ?_
    refine lv_icmp_gt (tgt := 1323) hx hb dL_law_34 (by decide) (fun q => ?_) (fun q => ?_)
    · refine lv_iconst (v := 1) hx hb dL_law_1323 (by decide) ?_
      refine va_forget (fun q hq => hS.2.2 q hq) ?_
      refine W.widen (k := 788792) (n := 6729728) (by omega) (by omega) ?_
      exact hend H ls
    · have hi5 : i + 5 ≤ L := law_end hL (by omega) q
      have hn : n < 512 := by omega
      have hc : 40 + 2 * n + 2 ≤ room_1.cells := by show _ ≤ 788792; omega
      have hs9 : 4000 + 28 * n + 28 ≤ room_1.slots := by show _ ≤ 6729728; omega
      have K : LK p l e s m below meth c D cy b Q i (n + 1) 1317 (40 + 2 * n + 2) (4000 + 28 * n + 28) := by
        intro ad σ er ofd de dl bo ql qs tv am wo th ao aD o d H locs ls hI hP hD hS hl
        refine lv_iinc (v := nI (i + 5)) (lv' := [(5, .int (nI (i + 5))), (0, .ref b), (1, .ref (ad 0 0)), (2, .ref (am 0)), (3, .ref ao), (4, .ref aD)]) hx hb dL_law_1317 hl (k := 0) rfl (nI_add _ 5) (by decide) rfl (fun ls hl => ?_)
        refine lv_goto (tgt := 28) hx hb dL_law_1320 (by decide) ?_
        have h9 := ih (i + 5) (n + 1) (by omega) (by omega) hi5
        rw [show 40 + 2 * (n + 1) = 40 + 2 * n + 2 by omega, show 4000 + 28 * (n + 1) = 4000 + 28 * n + 28 by omega] at h9
        exact h9 ad σ er ofd de dl bo ql qs tv am wo th ao aD o d H locs ls hI hP hD hS hl
      refine lv_aload_n hx hb dL_law_37 rfl (lv_at hl 1 rfl) ?_
      refine lv_iload hx hb dL_law_38 (lv_at hl 0 rfl) ?_
      refine lw_sld hx hb hX hbl hbA hS (by omega) (by omega) dL_law_40 ?_
      refine lv_bipush (v := 31) hx hb dL_law_41 (by decide) ?_
      refine lv_iand hx hb dL_law_43 ?_
      obtain ⟨x9, hx9⟩ : ∃ x9 : Int32, x9 = xs i &&& 31 := ⟨_, rfl⟩
      rw [← hx9]
      by_cases h9 : x9.toInt < 0 ∨ 22 < x9.toInt
      · refine lv_tableOut (tgt := 1317) hx hb dL_law_44 h9 (by decide) ?_
        refine W.widen (k := 40 + 2 * n + 2) (n := 4000 + 28 * n + 28) (by omega) (by omega) ?_
        exact K ad σ er ofd de dl bo ql qs tv am wo th ao aD o d H locs ls ⟨hI.1.more hn, hI.2⟩ hP hD hS hl
      · rcases (show x9.toInt = 0 ∨ x9.toInt = 1 ∨ x9.toInt = 2 ∨ x9.toInt = 3 ∨ x9.toInt = 4 ∨ x9.toInt = 5 ∨ x9.toInt = 6 ∨ x9.toInt = 7 ∨ x9.toInt = 8 ∨ x9.toInt = 9 ∨ x9.toInt = 10 ∨ x9.toInt = 11 ∨ x9.toInt = 12 ∨ x9.toInt = 13 ∨ x9.toInt = 14 ∨ x9.toInt = 15 ∨ x9.toInt = 16 ∨ x9.toInt = 17 ∨ x9.toInt = 18 ∨ x9.toInt = 19 ∨ x9.toInt = 20 ∨ x9.toInt = 21 ∨ x9.toInt = 22 by omega) with h | h | h | h | h | h | h | h | h | h | h | h | h | h | h | h | h | h | h | h | h | h | h
        · refine lv_tableIn (tgt := 152) (off := 108) hx hb dL_law_44 (by omega) (by omega) (by rw [h]; decide) (by decide) ?_
          exact law_setSeats C0 hi5 hL hn hc hs9 K ad σ er ofd de dl bo ql qs tv am wo th ao aD o d H locs ls hI hP hD hS hl
        · refine lv_tableIn (tgt := 212) (off := 168) hx hb dL_law_44 (by omega) (by omega) (by rw [h]; decide) (by decide) ?_
          exact law_addProduct C0 hi5 hL hn hc hs9 K ad σ er ofd de dl bo ql qs tv am wo th ao aD o d H locs ls hI hP hD hS hl
        · refine lv_tableIn (tgt := 292) (off := 248) hx hb dL_law_44 (by omega) (by omega) (by rw [h]; decide) (by decide) ?_
          exact law_setExpected C0 hi5 hL hn hc hs9 K ad σ er ofd de dl bo ql qs tv am wo th ao aD o d H locs ls hI hP hD hS hl
        · refine lv_tableIn (tgt := 360) (off := 316) hx hb dL_law_44 (by omega) (by omega) (by rw [h]; decide) (by decide) ?_
          exact law_setRate C0 hi5 hL hn hc hs9 K ad σ er ofd de dl bo ql qs tv am wo th ao aD o d H locs ls hI hP hD hS hl
        · refine lv_tableIn (tgt := 416) (off := 372) hx hb dL_law_44 (by omega) (by omega) (by rw [h]; decide) (by decide) ?_
          exact law_ask C0 hi5 hL hn hc hs9 K ad σ er ofd de dl bo ql qs tv am wo th ao aD o d H locs ls hI hP hD hS hl
        · refine lv_tableIn (tgt := 472) (off := 428) hx hb dL_law_44 (by omega) (by omega) (by rw [h]; decide) (by decide) ?_
          exact law_group C0 hi5 hL hn hc hs9 K ad σ er ofd de dl bo ql qs tv am wo th ao aD o d H locs ls hI hP hD hS hl
        · refine lv_tableIn (tgt := 564) (off := 520) hx hb dL_law_44 (by omega) (by omega) (by rw [h]; decide) (by decide) ?_
          exact law_cancel C0 hi5 hL hn hc hs9 K ad σ er ofd de dl bo ql qs tv am wo th ao aD o d H locs ls hI hP hD hS hl
        · refine lv_tableIn (tgt := 620) (off := 576) hx hb dL_law_44 (by omega) (by omega) (by rw [h]; decide) (by decide) ?_
          exact law_endDay C0 hi5 hL hn hc hs9 K ad σ er ofd de dl bo ql qs tv am wo th ao aD o d H locs ls hI hP hD hS hl
        · refine lv_tableIn (tgt := 676) (off := 632) hx hb dL_law_44 (by omega) (by omega) (by rw [h]; decide) (by decide) ?_
          exact law_products C0 hi5 hL hn hc hs9 K ad σ er ofd de dl bo ql qs tv am wo th ao aD o d H locs ls hI hP hD hS hl
        · refine lv_tableIn (tgt := 689) (off := 645) hx hb dL_law_44 (by omega) (by omega) (by rw [h]; decide) (by decide) ?_
          exact law_days C0 hi5 hL hn hc hs9 K ad σ er ofd de dl bo ql qs tv am wo th ao aD o d H locs ls hI hP hD hS hl
        · refine lv_tableIn (tgt := 702) (off := 658) hx hb dL_law_44 (by omega) (by omega) (by rw [h]; decide) (by decide) ?_
          exact law_booked C0 hi5 hL hn hc hs9 K ad σ er ofd de dl bo ql qs tv am wo th ao aD o d H locs ls hI hP hD hS hl
        · refine lv_tableIn (tgt := 758) (off := 714) hx hb dL_law_44 (by omega) (by omega) (by rw [h]; decide) (by decide) ?_
          exact law_authorised C0 hi5 hL hn hc hs9 K ad σ er ofd de dl bo ql qs tv am wo th ao aD o d H locs ls hI hP hD hS hl
        · refine lv_tableIn (tgt := 814) (off := 770) hx hb dL_law_44 (by omega) (by omega) (by rw [h]; decide) (by decide) ?_
          exact law_protectedSeats C0 hi5 hL hn hc hs9 K ad σ er ofd de dl bo ql qs tv am wo th ao aD o d H locs ls hI hP hD hS hl
        · refine lv_tableIn (tgt := 882) (off := 838) hx hb dL_law_44 (by omega) (by omega) (by rw [h]; decide) (by decide) ?_
          exact law_worth C0 hi5 hL hn hc hs9 K ad σ er ofd de dl bo ql qs tv am wo th ao aD o d H locs ls hI hP hD hS hl
        · refine lv_tableIn (tgt := 895) (off := 851) hx hb dL_law_44 (by omega) (by omega) (by rw [h]; decide) (by decide) ?_
          exact law_worthByTable C0 hi5 hL hn hc hs9 K ad σ er ofd de dl bo ql qs tv am wo th ao aD o d H locs ls hI hP hD hS hl
        · refine lv_tableIn (tgt := 908) (off := 864) hx hb dL_law_44 (by omega) (by omega) (by rw [h]; decide) (by decide) ?_
          exact law_bid C0 hi5 hL hn hc hs9 K ad σ er ofd de dl bo ql qs tv am wo th ao aD o d H locs ls hI hP hD hS hl
        · refine lv_tableIn (tgt := 964) (off := 920) hx hb dL_law_44 (by omega) (by omega) (by rw [h]; decide) (by decide) ?_
          exact law_displaced C0 hi5 hL hn hc hs9 K ad σ er ofd de dl bo ql qs tv am wo th ao aD o d H locs ls hI hP hD hS hl
        · refine lv_tableIn (tgt := 1044) (off := 1000) hx hb dL_law_44 (by omega) (by omega) (by rw [h]; decide) (by decide) ?_
          exact law_expected C0 hi5 hL hn hc hs9 K ad σ er ofd de dl bo ql qs tv am wo th ao aD o d H locs ls hI hP hD hS hl
        · refine lv_tableIn (tgt := 1100) (off := 1056) hx hb dL_law_44 (by omega) (by omega) (by rw [h]; decide) (by decide) ?_
          exact law_average C0 hi5 hL hn hc hs9 K ad σ er ofd de dl bo ql qs tv am wo th ao aD o d H locs ls hI hP hD hS hl
        · refine lv_tableIn (tgt := 1178) (off := 1134) hx hb dL_law_44 (by omega) (by omega) (by rw [h]; decide) (by decide) ?_
          exact law_asked C0 hi5 hL hn hc hs9 K ad σ er ofd de dl bo ql qs tv am wo th ao aD o d H locs ls hI hP hD hS hl
        · refine lv_tableIn (tgt := 1234) (off := 1190) hx hb dL_law_44 (by omega) (by omega) (by rw [h]; decide) (by decide) ?_
          exact law_refused C0 hi5 hL hn hc hs9 K ad σ er ofd de dl bo ql qs tv am wo th ao aD o d H locs ls hI hP hD hS hl
        · refine lv_tableIn (tgt := 1290) (off := 1246) hx hb dL_law_44 (by omega) (by omega) (by rw [h]; decide) (by decide) ?_
          exact law_revenue C0 hi5 hL hn hc hs9 K ad σ er ofd de dl bo ql qs tv am wo th ao aD o d H locs ls hI hP hD hS hl
        · refine lv_tableIn (tgt := 1303) (off := 1259) hx hb dL_law_44 (by omega) (by omega) (by rw [h]; decide) (by decide) ?_
          exact law_earned C0 hi5 hL hn hc hs9 K ad σ er ofd de dl bo ql qs tv am wo th ao aD o d H locs ls hI hP hD hS hl
theorem perm_gm {α : Type _} {G M : List α} {x y : α} : (((G ++ M) ++ [x]) ++ [y]).Perm ((G ++ [x, y]) ++ M) := by
  rw [List.append_assoc (G ++ M) [x] [y], List.append_assoc G M, List.append_assoc G [x, y] M]
  exact List.Perm.append_left G List.perm_append_comm
set_option maxRecDepth 100000 in
theorem lc_w : ∀ w ∈ [Cond.classLink RL 8 RX5, .classLink RL 73 RX6, .initialized RX5, .initialized RX6, .instanceMethod yX5_init, .instanceMethod yX6_init, .methodLink RL 72 yX5_init, .methodLink RL 75 yX6_init, .arrayClass .long, .arrayClass .double], w ∈ tables_1 := by decide +kernel
theorem nv_pre {s : State} {D : va_G} {cy : Nat → ClassId} {H : Heap} {sz : Nat} {A0 : Nat → Prop} {w : va_W} {As : List Value} (hK : KW D cy s) (hsz : H.size = sz) (hP : va_P D vwCl w H) (hD : va_D A0 w) (h1 : va_AO "Nestedfare$Booking" s) (h2 : va_AO "Nestedfare$Product" s) : PreS s H (va_Pc As (fun U => U.heap.size = sz ∧ va_P D vwCl w U.heap ∧ KW D cy U ∧ va_D (fun _ => True) w ∧ va_AO "Nestedfare$Booking" U ∧ va_AO "Nestedfare$Product" U)) As :=
  ⟨fun a U g mk q => by obtain ⟨q0, q1, q2, q3, q4, q5, q6⟩ := q; exact ⟨q0, q1, q2, q3.calling, q4, va_AO.moved (u := U) (U := U.calling g mk a) (Vm.Alike.refl U.vm) q5, va_AO.moved (u := U) (U := U.calling g mk a) (Vm.Alike.refl U.vm) q6⟩, fun U hU hW => ⟨rfl, by rw [hU]; exact hsz, by rw [hU]; exact hP, hK.warm hW, hD.weaken (fun _ _ _ _ => trivial), va_AO.moved hW.alike h1, va_AO.moved hW.alike h2⟩⟩
set_option maxHeartbeats 4000000 in
set_option maxRecDepth 100000 in
theorem law_begin {p : Program} {l : Launch} {e : Env} {s : State} {m : MethodId} {below : List Frame} {meth : Method} {c : Code} {D : va_G} {cy : Nat → ClassId} {b L : Nat} {xs : Nat → Int32} {Q : State → Prop} (C : LX p l D cy s m c b L xs) (ht : ∀ w ∈ tables_1, w.before #[Value.ref b] s = true) (hovB : va_AO "Nestedfare$Booking" s) (hovP : va_AO "Nestedfare$Product" s)
    (K : LK p l e s m below meth c D cy b Q 0 0 28 40 4000) (ls : Array Slot) (hl : lv_has ls 8 [(0, .ref b)]) : W p l e room_1 s m #[Value.ref b] below meth c s.heap [] 0 0 Q (F0 m 0 ls []) := by
  obtain ⟨hx, hb, hml, hown, hts, hK, hXW, hXZ, hX, hbl, hfl⟩ := C
  have hA : ∀ q, s.heap.size ≤ q → (fun q => s.heap.size ≤ q) q := fun q h => h
  obtain ⟨H0, hH0⟩ : ∃ H0 : Heap, H0 = s.heap := ⟨_, rfl⟩
  have hP : va_P D vwCl [] s.heap := va_P0
  have hD : va_D (fun q => s.heap.size ≤ q) [] := ⟨fun i j p q h => (by simp at h), fun k q h => (by simp at h)⟩
  have hS : va_S (fun q => s.heap.size ≤ q) s.heap s.heap [] := va_S.rf
  refine va_new (ci := 5) (fs := [.null, .null, .null, .null, .null, .null, .int (nI 0), .int (nI 0), .int (nI 0), .int (nI 0), .int (nI 0), .int (nI 0), .int (nI 0), .long 0]) (C := RX5) (T := TX5) (N := 14) (Ts := tables_1) hx hb ht (xs_c (RX5, TX5, 14) (List.mem_of_getElem? (i := 5) rfl)).1 tyX5 tyX5_ok hown (ht _ (lc_w _ (List.mem_of_getElem? (i := 0) rfl))) (ht _ (xs_c (RX5, TX5, 14) (List.mem_of_getElem? (i := 5) rfl)).2) (ht _ (lc_w _ (List.mem_of_getElem? (i := 2) rfl))) hK.1 hP hD hS hA rfl (fun j hj => by rcases (show j = 0 ∨ j = 1 ∨ j = 2 ∨ j = 3 ∨ j = 4 ∨ j = 5 ∨ j = 6 ∨ j = 7 ∨ j = 8 ∨ j = 9 ∨ j = 10 ∨ j = 11 ∨ j = 12 ∨ j = 13 by omega) with rfl | rfl | rfl | rfl | rfl | rfl | rfl | rfl | rfl | rfl | rfl | rfl | rfl | rfl <;> rfl) (Nat.le_of_ble_eq_true rfl) (Nat.le_of_ble_eq_true rfl) dL_law_0 (fun q0 H hP hD hS => ?_)
  refine lv_dup hx hb dL_law_3 rfl ?_
  refine ap_callv (X := []) (wc := [(q0, .inr (5, [.null, .null, .null, .null, .null, .null, .int (nI 0), .int (nI 0), .int (nI 0), .int (nI 0), .int (nI 0), .int (nI 0), .int (nI 0), .long 0]))]) (va_runI (As := []) (rest := [.ref q0]) ⟨hx, hb, hml, hown, hts⟩ (c_X5_init l D cy q0 H.size) ⟨callB_of 0 hts gL_law_X5_init rfl rfl rfl (ht _ (lc_w _ (List.mem_of_getElem? (i := 2) rfl))) (ht _ (lc_w _ (List.mem_of_getElem? (i := 6) rfl))) hdX5_init.2 ⟨Nat.le_of_ble_eq_true rfl, Nat.le_of_ble_eq_true rfl⟩, rfl, ht _ (lc_w _ (List.mem_of_getElem? (i := 4) rfl))⟩ (nv_pre hK rfl hP hD hovB hovP) rfl rfl hl.1 rfl (lv_room (Nat.le_of_ble_eq_true rfl)) dL_law_4 ⟨Nat.le_of_ble_eq_true rfl, Nat.le_of_ble_eq_true rfl⟩) hS hP hD hA (fun ad H locs had hP hD hS => ?_)
  have hP : va_P D vwCl (WG ad cy (σ0 0 0) (σ0 0 3) σ0 0 (fun _ => none) (fun _ => none) (fun _ => none) (fun _ => 0) (fun _ _ => 0) (fun _ => 0)) H := hP
  have hD : va_D (fun q => s.heap.size ≤ q) (WG ad cy (σ0 0 0) (σ0 0 3) σ0 0 (fun _ => none) (fun _ => none) (fun _ => none) (fun _ => 0) (fun _ _ => 0) (fun _ => 0)) := hD
  refine lv_astore_n (lv' := [(1, .ref q0), (0, .ref b)]) hx hb dL_law_7 rfl hl (by decide) rfl (fun ls hl => ?_)
  refine va_new (ci := 6) (fs := [.null, .null, .int (nI 0), .null, .null, .null, .null, .null, .null, .null, .int (nI 0), .int (nI 0), .int (nI 0), .null, .null, .null, .null, .null, .null, .long 0, .null, .int (nI 0)]) (C := RX6) (T := TX6) (N := 22) (Ts := tables_1) hx hb ht (xs_c (RX6, TX6, 22) (List.mem_of_getElem? (i := 6) rfl)).1 tyX6 tyX6_ok hown (ht _ (lc_w _ (List.mem_of_getElem? (i := 1) rfl))) (ht _ (xs_c (RX6, TX6, 22) (List.mem_of_getElem? (i := 6) rfl)).2) (ht _ (lc_w _ (List.mem_of_getElem? (i := 3) rfl))) hK.1 hP hD hS hA rfl (fun j hj => by rcases (show j = 0 ∨ j = 1 ∨ j = 2 ∨ j = 3 ∨ j = 4 ∨ j = 5 ∨ j = 6 ∨ j = 7 ∨ j = 8 ∨ j = 9 ∨ j = 10 ∨ j = 11 ∨ j = 12 ∨ j = 13 ∨ j = 14 ∨ j = 15 ∨ j = 16 ∨ j = 17 ∨ j = 18 ∨ j = 19 ∨ j = 20 ∨ j = 21 by omega) with rfl | rfl | rfl | rfl | rfl | rfl | rfl | rfl | rfl | rfl | rfl | rfl | rfl | rfl | rfl | rfl | rfl | rfl | rfl | rfl | rfl | rfl <;> rfl) (Nat.le_of_ble_eq_true rfl) (Nat.le_of_ble_eq_true rfl) dL_law_8 (fun q8 H hP hD hS => ?_)
  refine lv_dup hx hb dL_law_11 rfl ?_
  refine ap_callv (X := WG ad cy (σ0 0 0) (σ0 0 3) σ0 0 (fun _ => none) (fun _ => none) (fun _ => none) (fun _ => 0) (fun _ _ => 0) (fun _ => 0)) (wc := [(q8, .inr (6, [.null, .null, .int (nI 0), .null, .null, .null, .null, .null, .null, .null, .int (nI 0), .int (nI 0), .int (nI 0), .null, .null, .null, .null, .null, .null, .long 0, .null, .int (nI 0)]))]) (va_runI (As := []) (rest := [.ref q8]) ⟨hx, hb, hml, hown, hts⟩ (c_X6_init l D cy q8 H.size) ⟨callB_of 0 hts gL_law_X6_init rfl rfl rfl (ht _ (lc_w _ (List.mem_of_getElem? (i := 3) rfl))) (ht _ (lc_w _ (List.mem_of_getElem? (i := 7) rfl))) hdX6_init.2 ⟨Nat.le_of_ble_eq_true rfl, Nat.le_of_ble_eq_true rfl⟩, rfl, ht _ (lc_w _ (List.mem_of_getElem? (i := 5) rfl))⟩ (mo_pre hK rfl (hP.mem (fun _ hq => List.mem_append_right _ hq)) (hD.subl (List.sublist_append_right _ _))) rfl rfl hl.1 rfl (lv_room (Nat.le_of_ble_eq_true rfl)) dL_law_12 ⟨Nat.le_of_ble_eq_true rfl, Nat.le_of_ble_eq_true rfl⟩) hS hP hD hA (fun am H locs ham hP hD hS => ?_)
  refine lv_astore_n (lv' := [(2, .ref q8), (1, .ref q0), (0, .ref b)]) hx hb dL_law_15 rfl hl (by decide) rfl (fun ls hl => ?_)
  refine lv_iconst (v := nI 1) hx hb dL_law_16 (by decide) ?_
  refine ln_newJ hx hb (ht _ (lc_w _ (List.mem_of_getElem? (i := 8) rfl))) hK hP hD hS hA (by decide) (Nat.le_of_ble_eq_true rfl) (Nat.le_of_ble_eq_true rfl) dL_law_17 (fun q17 H hP hD hS => ?_)
  refine lv_astore_n (lv' := [(3, .ref q17), (2, .ref q8), (1, .ref q0), (0, .ref b)]) hx hb dL_law_19 rfl hl (by decide) rfl (fun ls hl => ?_)
  refine lv_iconst (v := nI 1) hx hb dL_law_20 (by decide) ?_
  refine ln_newD hx hb (ht _ (lc_w _ (List.mem_of_getElem? (i := 9) rfl))) hK hP hD hS hA (by decide) (Nat.le_of_ble_eq_true rfl) (Nat.le_of_ble_eq_true rfl) dL_law_21 (fun q21 H hP hD hS => ?_)
  refine lv_astore (lv' := [(4, .ref q21), (3, .ref q17), (2, .ref q8), (1, .ref q0), (0, .ref b)]) hx hb dL_law_23 hl (by decide) rfl (fun ls hl => ?_)
  refine lv_iconst (v := nI 0) hx hb dL_law_25 (by decide) ?_
  refine lv_istore (lv' := [(5, .int (nI 0)), (4, .ref q21), (3, .ref q17), (2, .ref q8), (1, .ref q0), (0, .ref b)]) hx hb dL_law_26 hl (by decide) rfl (fun ls hl => ?_)
  have hP9 : va_P D vwCl (((WG ad cy (σ0 0 0) (σ0 0 3) σ0 0 (fun _ => none) (fun _ => none) (fun _ => none) (fun _ => 0) (fun _ _ => 0) (fun _ => 0)) ++ oC cy q17 q21 (fun _ => lN 0) (fun _ => 0)) ++ WM am cy σ0 0 (fun _ => 0) 0) H := hP.mem (fun q hq => perm_gm.mem_iff.mpr hq)
  have hD9 : va_D (fun q => s.heap.size ≤ q) (((WG ad cy (σ0 0 0) (σ0 0 3) σ0 0 (fun _ => none) (fun _ => none) (fun _ => none) (fun _ => 0) (fun _ _ => 0) (fun _ => 0)) ++ oC cy q17 q21 (fun _ => lN 0) (fun _ => 0)) ++ WM am cy σ0 0 (fun _ => 0) 0) := hD.perm perm_gm.symm
  refine W.widen (k := 40) (n := 4000) (Nat.le_of_ble_eq_true rfl) (Nat.le_of_ble_eq_true rfl) ?_
  have had : ad 0 0 = q0 := had
  have ham : am 0 = q8 := ham
  rw [← had, ← ham] at hl
  exact K ad σ0 0 (fun _ => none) (fun _ => none) [] (fun _ => none) (fun _ => 0) (fun _ _ => 0) (fun _ => 0) am (fun _ => 0) 0 q17 q21 (fun _ => lN 0) (fun _ => 0) H locs ls ⟨Iv_0, OF_0, BO_0, DL_0, QZ_0⟩ hP9 hD9 hS (lv_sub hl [0, 5, 4, 3, 2, 1] rfl)
