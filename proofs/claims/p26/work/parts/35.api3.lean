theorem vf_of32 {r : UInt32} (h : FP.Core.fIsNaN r = false) : vf_n32 r := by
  unfold vf_n32
  have h1 : ¬ 2139095040 < r.toNat % 2 ^ 31 := fun q => by rw [(FP.Core.isNaN_bits32 r).mpr q] at h; cases h
  rw [UInt32.le_iff_toNat_le, UInt32.toNat_and, show (0x7fffffff : UInt32).toNat = 2 ^ 31 - 1 by decide, Nat.and_two_pow_sub_one_eq_mod, show (0x7f800000 : UInt32).toNat = 2139095040 by decide]
  omega
theorem vf_of64 {r : UInt64} (h : FP.Core.dIsNaN r = false) : vf_n64 r := by
  unfold vf_n64
  have h1 : ¬ 9218868437227405312 < r.toNat % 2 ^ 63 := fun q => by rw [(FP.Core.isNaN_bits r).mpr q] at h; cases h
  rw [UInt64.le_iff_toNat_le, UInt64.toNat_and, show (0x7fffffffffffffff : UInt64).toNat = 2 ^ 63 - 1 by decide, Nat.and_two_pow_sub_one_eq_mod, show (0x7ff0000000000000 : UInt64).toNat = 9218868437227405312 by decide]
  omega
/-- how many asked on average, as a float -/
def avg (σ : SF) (k : Nat) : UInt32 := if σ 0 1 = 0 then FP.fconst0 else FP.fdiv (FP.i2f (nI (σ 8 k))) (FP.i2f (nI (σ 0 1)))
theorem avg_nn {a d : Nat} (hd : 0 < d) (hd2 : d < 2 ^ 31) : FP.Core.fIsNaN (FP.fdiv (FP.i2f (nI a)) (FP.i2f (nI d))) = false := by
  refine FP.Core.fdiv_out ?_ (FP.Core.i2f_fin _) ?_
  · exact (FP.Core.notNaN_iff32 _).mpr (FP.Core.i2f_fin _).ne_nan
  · intro h
    exact FP.Core.i2f_ne_zero (nI_ne0 hd hd2) ((FP.Core.zero_bits232 _).mp h)
theorem avg_nan {σ : SF} {k : Nat} (hd : σ 0 1 < 2 ^ 31) : FP.Core.fIsNaN (avg σ k) = false := by
  unfold avg
  split
  · decide +kernel
  · exact avg_nn (by omega) hd
theorem avg_d {σ : SF} {k : Nat} (hd : σ 0 1 < 2 ^ 31) : vf_n64 (FP.f2d (avg σ k)) := vf_of64 ((FP.f2d_nan _).trans (avg_nan hd))
set_option maxHeartbeats 4000000 in
set_option maxRecDepth 100000 in
theorem c_X5_average (l : Launch) (hfl : l.stackTraces = false) (D : va_G) (cy : Nat → ClassId) (ad : Nat → Nat → Nat) (σ : SF) (er : Int64) (ofd de bo : Nat → Option Nat) (ql : Nat → Nat) (qs : Nat → Nat → Nat) (tv : Nat → Nat) (hof : OF ad σ ofd) {n : Nat} (hI : Iv n σ) (v : Int32) : cXF l D cy yX5_average wsX5_average rmX5_average [.ref (ad 0 0), .int v] (WG ad cy (σ 0 0) (σ 0 3) σ er ofd de bo ql qs tv) (T := Unit) (fun _ => WG ad cy (σ 0 0) (σ 0 3) σ er ofd de bo ql qs tv) (fun r _ => isP σ v ∧ r = avg σ (cN v)) (fun E => ¬ isP σ v ∧ E = eIO) 1 6 := by
  refine cXF.of (cc := cX5_average) (maxL := 3) hfl (by decide) rfl (Nat.le_of_ble_eq_true rfl) ?_
  intro p e s m args below meth c H0 A Q hx hb hml hown hts hP hK hD hS hA hXW hH0s hret hthr ls hl
  obtain ⟨H, locs, hH, hlo⟩ : ∃ (H : Heap) (locs : List Loc), H = H0 ∧ locs = [] := ⟨_, _, rfl, rfl⟩
  rw [← hH] at hP
  rw [show va_S A H0 H0 [] = va_S A H0 H locs by rw [hH, hlo]] at hS
  rw [show W p l e rmX5_average s m args below meth c H0 [] 0 0 Q (F0 m 0 ls []) = W p l e rmX5_average s m args below meth c H locs 0 0 Q (F0 m 0 ls []) by rw [hH, hlo]]
  have hnp := hI.np
  have hdy := hI.dy
  have hnn := hI.nn
  refine lv_aload_n hx hb dX5_average_0 rfl (lv_at hl 0 rfl) ?_
  refine lv_iload_n hx hb dX5_average_1 rfl (lv_at hl 1 rfl) ?_
  refine ro_callqP (va_runV (As := [.int v]) (rest := []) ⟨hx, hb, hml, hown, hts⟩ (c_X5_productAt l D cy ad σ er ofd de bo ql qs tv hof hnp (v) H hP) (cwV 1 hts gX5_average_X5_productAt rfl rfl rfl hdX5_productAt ⟨Nat.le_of_ble_eq_true rfl, Nat.le_of_ble_eq_true rfl⟩) (ro_preV hK (va_recv hK.1 hP (ci := 5) (q0 := 0) rfl rfl)) rfl rfl hl.1 rfl (lv_room (Nat.le_of_ble_eq_true rfl)) dX5_average_2 ⟨Nat.le_of_ble_eq_true rfl, Nat.le_of_ble_eq_true rfl⟩) (fun a2 r2 => ?_) (fun r2 => ?_)
  · skip
    obtain ⟨k, hk, rfl, rfl⟩ := r2
    refine lv_astore_n (lv' := [(2, .ref (ad 1 k)), (0, .ref (ad 0 0)), (1, .int (nI k))]) hx hb dX5_average_5 rfl hl (by decide) rfl (fun ls hl => ?_)
    refine lv_aload_n hx hb dX5_average_6 rfl (lv_at hl 0 rfl) ?_
    refine lv_ifnonnull (tgt := 20) hx hb dX5_average_7 (by decide) ?_
    refine lv_aload_n hx hb dX5_average_20 rfl (lv_at hl 1 rfl) ?_
    refine gf5 (v := .int (nI (σ 0 1))) hx hb hts fX5_average_5 hown hK.1 hP 0 8 rfl (by decide) kX5_average_21 rfl rfl dX5_average_21 ?_
    refine ln_if_gt (tgt := 29) hx hb (by omega) dX5_average_24 (by decide) (fun c24 => ?_) (fun c24 => ?_)
    · skip
      refine lv_aload_n hx hb dX5_average_29 rfl (lv_at hl 0 rfl) ?_
      refine gn2 (v := .int (nI (σ 8 k))) hx hb hts fX5_average_2 hown hK.1 hP (k + 20) 6 (WG_pd hk) (by decide) (hK.2 _ nwf_X5_220 rfl) rfl rfl dX5_average_30 ?_
      refine lv_i2f hx hb dX5_average_33 ?_
      refine lv_aload_n hx hb dX5_average_34 rfl (lv_at hl 1 rfl) ?_
      refine gf5 (v := .int (nI (σ 0 1))) hx hb hts fX5_average_5 hown hK.1 hP 0 8 rfl (by decide) kX5_average_35 rfl rfl dX5_average_35 ?_
      refine lv_i2f hx hb dX5_average_38 ?_
      refine lv_fdiv hx hb dX5_average_39 (vf_of32 (avg_nn (by omega) (by omega))) ?_
      refine W.widen (k := 1) (n := 6) (Nat.le_of_ble_eq_true rfl) (Nat.le_of_ble_eq_true rfl) ?_
      exact hret () dX5_average_40 hP hD hS ⟨⟨k, hk, rfl⟩, by unfold avg; rw [if_neg (by omega), cN_nI (by omega)]⟩
    · skip
      refine lv_fconst0 hx hb dX5_average_27 ?_
      refine W.widen (k := 1) (n := 6) (Nat.le_of_ble_eq_true rfl) (Nat.le_of_ble_eq_true rfl) ?_
      exact hret () dX5_average_28 hP hD hS ⟨⟨k, hk, rfl⟩, by unfold avg; rw [if_pos (by omega)]⟩
  · skip
    refine lv_astore_nN (lv' := [(2, .null), (0, .ref (ad 0 0)), (1, .int v)]) hx hb dX5_average_5 rfl hl (by decide) rfl (fun ls hl => ?_)
    refine lv_aload_nN hx hb dX5_average_6 rfl (lv_at hl 0 rfl) ?_
    refine lv_ifnonnullN hx hb dX5_average_7 ?_
    exact hthr "java/lang/IndexOutOfBoundsException" "there is no such product" ["java/lang/RuntimeException", "java/lang/Exception"] 87 113 91 ⟨r2, rfl⟩ (by decide +kernel) (by decide +kernel) (hts _ (List.mem_of_getElem? (i := 1) rfl)) (hts _ (List.mem_of_getElem? (i := 2) rfl)) (hXW.2.2 (113, "there is no such product") (by decide)) (xhat_IO (fun w hw => hts w (List.mem_cons_of_mem _ (List.mem_append_right _ hw))) hXW) xg_IO hP hD (hH0s ▸ hS) (hl.1.trans hml.symm) dX5_average_10 dX5_average_13 dX5_average_14 dX5_average_16 dX5_average_19 (Nat.le_of_ble_eq_true rfl) (Nat.le_of_ble_eq_true rfl) (Nat.le_of_ble_eq_true rfl) (Nat.le_of_ble_eq_true rfl) (Nat.le_of_ble_eq_true rfl) (Nat.le_of_ble_eq_true rfl)
set_option maxHeartbeats 4000000 in
set_option maxRecDepth 100000 in
theorem c_X5_refused (l : Launch) (hfl : l.stackTraces = false) (D : va_G) (cy : Nat → ClassId) (ad : Nat → Nat → Nat) (σ : SF) (er : Int64) (ofd de bo : Nat → Option Nat) (ql : Nat → Nat) (qs : Nat → Nat → Nat) (tv : Nat → Nat) (v : Int32) : cXI l D cy yX5_refused wsX5_refused rmX5_refused [.ref (ad 0 0), .int v] (WG ad cy (σ 0 0) (σ 0 3) σ er ofd de bo ql qs tv) (T := Unit) (fun _ => WG ad cy (σ 0 0) (σ 0 3) σ er ofd de bo ql qs tv) (fun r _ => okN v ∧ r = nI (σ 15 (cN (-v)))) (fun E => ¬ okN v ∧ E = eIA) 1 6 := by
  refine cXI.of (cc := cX5_refused) (maxL := 2) hfl (by decide) rfl (Nat.le_of_ble_eq_true rfl) ?_
  intro p e s m args below meth c H0 A Q hx hb hml hown hts hP hK hD hS hA hXW hH0s hret hthr ls hl
  obtain ⟨H, locs, hH, hlo⟩ : ∃ (H : Heap) (locs : List Loc), H = H0 ∧ locs = [] := ⟨_, _, rfl, rfl⟩
  rw [← hH] at hP
  rw [show va_S A H0 H0 [] = va_S A H0 H locs by rw [hH, hlo]] at hS
  rw [show W p l e rmX5_refused s m args below meth c H0 [] 0 0 Q (F0 m 0 ls []) = W p l e rmX5_refused s m args below meth c H locs 0 0 Q (F0 m 0 ls []) by rw [hH, hlo]]
  refine lv_iload_n hx hb dX5_refused_0 rfl (lv_at hl 1 rfl) ?_
  by_cases hN : okN v
  · obtain ⟨w, hw1, hw3, hwa, hwb⟩ := okN_nat hN
    rcases (show w = 1 ∨ w = 2 ∨ w = 3 by omega) with rfl | rfl | rfl
    · rw [hwb]
      refine lv_tableIn (tgt := 28) (off := 27) hx hb dX5_refused_1 (by decide) (by decide) (by decide) (by decide) ?_
      refine lv_aload_n hx hb dX5_refused_28 rfl (lv_at hl 0 rfl) ?_
      refine gf5 (v := .int (nI (σ 15 1))) hx hb hts fX5_refused_5 hown hK.1 hP 0 10 rfl (by decide) kX5_refused_29 rfl rfl dX5_refused_29 ?_
      refine W.widen (k := 1) (n := 6) (Nat.le_of_ble_eq_true rfl) (Nat.le_of_ble_eq_true rfl) ?_
      exact hret () dX5_refused_32 hP hD hS ⟨hN, by rw [hwa, cN_nI (by omega)]⟩
    · rw [hwb]
      refine lv_tableIn (tgt := 33) (off := 32) hx hb dX5_refused_1 (by decide) (by decide) (by decide) (by decide) ?_
      refine lv_aload_n hx hb dX5_refused_33 rfl (lv_at hl 0 rfl) ?_
      refine gf5 (v := .int (nI (σ 15 2))) hx hb hts fX5_refused_5 hown hK.1 hP 0 11 rfl (by decide) kX5_refused_34 rfl rfl dX5_refused_34 ?_
      refine W.widen (k := 1) (n := 6) (Nat.le_of_ble_eq_true rfl) (Nat.le_of_ble_eq_true rfl) ?_
      exact hret () dX5_refused_37 hP hD hS ⟨hN, by rw [hwa, cN_nI (by omega)]⟩
    · rw [hwb]
      refine lv_tableIn (tgt := 38) (off := 37) hx hb dX5_refused_1 (by decide) (by decide) (by decide) (by decide) ?_
      refine lv_aload_n hx hb dX5_refused_38 rfl (lv_at hl 0 rfl) ?_
      refine gf5 (v := .int (nI (σ 15 3))) hx hb hts fX5_refused_5 hown hK.1 hP 0 12 rfl (by decide) kX5_refused_39 rfl rfl dX5_refused_39 ?_
      refine W.widen (k := 1) (n := 6) (Nat.le_of_ble_eq_true rfl) (Nat.le_of_ble_eq_true rfl) ?_
      exact hret () dX5_refused_42 hP hD hS ⟨hN, by rw [hwa, cN_nI (by omega)]⟩
  · have hN2 : ¬ (-3 ≤ v.toInt ∧ v.toInt ≤ -1) := fun q => hN ⟨Int32.le_iff_toInt_le.mpr (by rw [show (-3 : Int32).toInt = -3 by decide]; exact q.1), Int32.le_iff_toInt_le.mpr (by rw [show (-1 : Int32).toInt = -1 by decide]; exact q.2)⟩
    refine lv_tableOut (tgt := 43) hx hb dX5_refused_1 (by omega) (by decide) ?_
    exact hthr "java/lang/IllegalArgumentException" "nothing is refused so" ["java/lang/RuntimeException", "java/lang/Exception"] 72 223 76 ⟨hN, rfl⟩ (by decide +kernel) (by decide +kernel) (hts _ (List.mem_of_getElem? (i := 1) rfl)) (hts _ (List.mem_of_getElem? (i := 2) rfl)) (hXW.2.2 (223, "nothing is refused so") (by decide)) (xhat_IA (fun w hw => hts w (List.mem_cons_of_mem _ (List.mem_append_right _ hw))) hXW) xg_IA hP hD (hH0s ▸ hS) (hl.1.trans hml.symm) dX5_refused_43 dX5_refused_46 dX5_refused_47 dX5_refused_49 dX5_refused_52 (Nat.le_of_ble_eq_true rfl) (Nat.le_of_ble_eq_true rfl) (Nat.le_of_ble_eq_true rfl) (Nat.le_of_ble_eq_true rfl) (Nat.le_of_ble_eq_true rfl) (Nat.le_of_ble_eq_true rfl)
