set_option maxHeartbeats 4000000 in
set_option maxRecDepth 100000 in
theorem c_L_isDone (l : Launch) (hfl : l.stackTraces = false) (D : va_G) (cy : Nat → ClassId) (ap ah ab ag : Nat) (pf hf bf gf : Nat → Nat) (ei : Int32) (ad : Nat → Nat → Nat) (σ : SF) (er : Int64) (ofd de bo : Nat → Option Nat) (ql : Nat → Nat) (qs : Nat → Nat → Nat) (tv : Nat → Nat) {n : Nat} (hI : Iv n σ) (hof : OF ad σ ofd) (hbo : BO ad σ bo) {dl : List Nat} (hDL : DL ad σ de dl) (hQZ : QZ qs) (hM : MR σ pf hf bf gf) (hE : EM σ er ei) (b L : Nat) (xs : Nat → Int32) (hL : L ≤ 260) (at0 : Nat) (hat : at0 ≤ 300) (hn : n < 512) : cLS l D cy yL_isDone wsL_isDone rmL_isDone [.ref ((ad 0 0)), .ref b, .int (nI at0), .ref ap, .ref ah, .ref ab, .ref ag] b L xs (MC cy ap ah ab ag pf hf bf gf ei ++ WG ad cy (σ 0 0) (σ 0 3) σ er ofd de bo ql qs tv) (T := STt) (wS cy ap ah ab ag) (fun r u => r = nI 1 ∧ LJ (n + 1) (ad 0 0) u) 8 80 := by
  refine cLS.of (cc := cL_isDone) (maxL := 14) (by decide) rfl (Nat.le_of_ble_eq_true rfl) (fun v u h => z_one h.1) ?_
  intro p e s m args below meth c H0 A Q hx hb hml hown hts hP hK hD hS hA hXW hXZ hX hbl hret ls hl
  obtain ⟨H, locs, hH, hlo⟩ : ∃ (H : Heap) (locs : List Loc), H = H0 ∧ locs = [] := ⟨_, _, rfl, rfl⟩
  rw [← hH] at hP
  have hX : va_X b L xs s H := by rw [hH]; exact hX
  have hbl : b < H.size := by rw [hH]; exact hbl
  rw [show va_S A H0 H0 [] = va_S A H0 H locs by rw [hH, hlo]] at hS
  rw [show W p l e rmL_isDone s m args below meth c H0 [] 0 0 Q (F0 m 0 ls []) = W p l e rmL_isDone s m args below meth c H locs 0 0 Q (F0 m 0 ls []) by rw [hH, hlo]]
  have hnp := hM.np
  have hnb := hM.nb
  have hdy := hM.dy
  have hrt := hI.rt
  refine lv_aload_n hx hb dL_isDone_0 rfl (lv_at hl 1 rfl) ?_
  refine lv_iload_n hx hb dL_isDone_1 rfl (lv_at hl 2 rfl) ?_
  refine lv_bipush (v := nI 40) hx hb dL_isDone_2 (by decide) ?_
  refine ro_calli (va_runS (As := [.ref b, .int (nI at0), .int (nI 40)]) (rest := []) ⟨hx, hb, hml, hown, hts⟩ (c_L_part l b L xs at0 40 hL (by omega) (by omega) (by omega) H) (va_cwS 3 hts gL_isDone_L_part rfl rfl rfl hdL_part.2 ⟨Nat.le_of_ble_eq_true rfl, Nat.le_of_ble_eq_true rfl⟩) (rx_pre hX hbl) rfl rfl hl.1 rfl (lv_room (Nat.le_of_ble_eq_true rfl)) dL_isDone_4 ⟨(by show 0 + 0 ≤ 8; omega), (by show 0 + 0 ≤ 80; omega)⟩) (fun r4 h4 => ?_)
  obtain ⟨w4, hw4, rfl⟩ := h4
  refine lv_istore (lv' := [(7, .int (nI w4)), (0, .ref ((ad 0 0))), (1, .ref b), (2, .int (nI at0)), (3, .ref ap), (4, .ref ah), (5, .ref ab), (6, .ref ag)]) hx hb dL_isDone_7 hl (by decide) rfl (fun ls hl => ?_)
  refine lv_aload_n hx hb dL_isDone_9 rfl (lv_at hl 2 rfl) ?_
  refine lv_iload_n hx hb dL_isDone_10 rfl (lv_at hl 3 rfl) ?_
  refine lv_iconst (v := nI 1) hx hb dL_isDone_11 (by decide) ?_
  refine ln_iadd hx hb dL_isDone_12 (fun z12 hz12 => ?_)
  refine lv_sipush (v := nI 6000) hx hb dL_isDone_13 (by decide) ?_
  refine ro_calli (va_runS (As := [.ref b, .int (nI z12), .int (nI 6000)]) (rest := []) ⟨hx, hb, hml, hown, hts⟩ (c_L_part l b L xs z12 6000 hL (by omega) (by omega) (by omega) H) (va_cwS 3 hts gL_isDone_L_part rfl rfl rfl hdL_part.2 ⟨Nat.le_of_ble_eq_true rfl, Nat.le_of_ble_eq_true rfl⟩) (rx_pre hX hbl) rfl rfl hl.1 rfl (lv_room (Nat.le_of_ble_eq_true rfl)) dL_isDone_16 ⟨(by show 0 + 0 ≤ 8; omega), (by show 0 + 0 ≤ 80; omega)⟩) (fun r16 h16 => ?_)
  obtain ⟨w16, hw16, rfl⟩ := h16
  refine lv_istore (lv' := [(8, .int (nI w16)), (7, .int (nI w4)), (0, .ref ((ad 0 0))), (1, .ref b), (2, .int (nI at0)), (3, .ref ap), (4, .ref ah), (5, .ref ab), (6, .ref ag)]) hx hb dL_isDone_19 hl (by decide) rfl (fun ls hl => ?_)
  refine lv_aload_n hx hb dL_isDone_21 rfl (lv_at hl 3 rfl) ?_
  refine lv_iload_n hx hb dL_isDone_22 rfl (lv_at hl 4 rfl) ?_
  refine lv_iconst (v := nI 2) hx hb dL_isDone_23 (by decide) ?_
  refine ln_iadd hx hb dL_isDone_24 (fun z24 hz24 => ?_)
  refine lv_sipush (v := nI 7000) hx hb dL_isDone_25 (by decide) ?_
  refine ro_calli (va_runS (As := [.ref b, .int (nI z24), .int (nI 7000)]) (rest := []) ⟨hx, hb, hml, hown, hts⟩ (c_L_part l b L xs z24 7000 hL (by omega) (by omega) (by omega) H) (va_cwS 3 hts gL_isDone_L_part rfl rfl rfl hdL_part.2 ⟨Nat.le_of_ble_eq_true rfl, Nat.le_of_ble_eq_true rfl⟩) (rx_pre hX hbl) rfl rfl hl.1 rfl (lv_room (Nat.le_of_ble_eq_true rfl)) dL_isDone_28 ⟨(by show 0 + 0 ≤ 8; omega), (by show 0 + 0 ≤ 80; omega)⟩) (fun r28 h28 => ?_)
  obtain ⟨w28, hw28, rfl⟩ := h28
  refine lv_istore (lv' := [(9, .int (nI w28)), (8, .int (nI w16)), (7, .int (nI w4)), (0, .ref ((ad 0 0))), (1, .ref b), (2, .int (nI at0)), (3, .ref ap), (4, .ref ah), (5, .ref ab), (6, .ref ag)]) hx hb dL_isDone_31 hl (by decide) rfl (fun ls hl => ?_)
  refine lv_aload_n hx hb dL_isDone_33 rfl (lv_at hl 4 rfl) ?_
  refine lv_iload_n hx hb dL_isDone_34 rfl (lv_at hl 5 rfl) ?_
  refine lv_iconst (v := nI 3) hx hb dL_isDone_35 (by decide) ?_
  refine ln_iadd hx hb dL_isDone_36 (fun z36 hz36 => ?_)
  refine lv_sipush (v := nI 8000) hx hb dL_isDone_37 (by decide) ?_
  refine ro_calli (va_runS (As := [.ref b, .int (nI z36), .int (nI 8000)]) (rest := []) ⟨hx, hb, hml, hown, hts⟩ (c_L_part l b L xs z36 8000 hL (by omega) (by omega) (by omega) H) (va_cwS 3 hts gL_isDone_L_part rfl rfl rfl hdL_part.2 ⟨Nat.le_of_ble_eq_true rfl, Nat.le_of_ble_eq_true rfl⟩) (rx_pre hX hbl) rfl rfl hl.1 rfl (lv_room (Nat.le_of_ble_eq_true rfl)) dL_isDone_40 ⟨(by show 0 + 0 ≤ 8; omega), (by show 0 + 0 ≤ 80; omega)⟩) (fun r40 h40 => ?_)
  obtain ⟨w40, hw40, rfl⟩ := h40
  refine lv_istore (lv' := [(10, .int (nI w40)), (9, .int (nI w28)), (8, .int (nI w16)), (7, .int (nI w4)), (0, .ref ((ad 0 0))), (1, .ref b), (2, .int (nI at0)), (3, .ref ap), (4, .ref ah), (5, .ref ab), (6, .ref ag)]) hx hb dL_isDone_43 hl (by decide) rfl (fun ls hl => ?_)
  refine lv_iload hx hb dL_isDone_45 (lv_at hl 3 rfl) ?_
  refine lv_iconst (v := nI 3) hx hb dL_isDone_47 (by decide) ?_
  refine ln_icmp_ge (tgt := 183) hx hb (by omega) (by omega) dL_isDone_48 (by decide) (fun c48 => ?_) (fun c48 => ?_)
  · skip
    refine lv_iload hx hb dL_isDone_183 (lv_at hl 3 rfl) ?_
    refine lv_bipush (v := nI 10) hx hb dL_isDone_185 (by decide) ?_
    refine ln_icmp_ge (tgt := 206) hx hb (by omega) (by omega) dL_isDone_187 (by decide) (fun c187 => ?_) (fun c187 => ?_)
    · skip
      refine lv_iload hx hb dL_isDone_206 (lv_at hl 3 rfl) ?_
      refine lv_bipush (v := nI 14) hx hb dL_isDone_208 (by decide) ?_
      refine ln_icmp_ge (tgt := 319) hx hb (by omega) (by omega) dL_isDone_210 (by decide) (fun c210 => ?_) (fun c210 => ?_)
      · skip
        refine lv_iload hx hb dL_isDone_319 (lv_at hl 3 rfl) ?_
        refine lv_bipush (v := nI 14) hx hb dL_isDone_321 (by decide) ?_
        refine ln_icmp_ne (tgt := 400) hx hb (by omega) (by omega) dL_isDone_323 (by decide) (fun c323 => ?_) (fun c323 => ?_)
        · skip
          refine lv_iload hx hb dL_isDone_400 (lv_at hl 3 rfl) ?_
          refine lv_bipush (v := nI 27) hx hb dL_isDone_402 (by decide) ?_
          refine ln_icmp_ge (tgt := 470) hx hb (by omega) (by omega) dL_isDone_404 (by decide) (fun c404 => ?_) (fun c404 => ?_)
          · skip
            refine lv_iload hx hb dL_isDone_470 (lv_at hl 3 rfl) ?_
            refine lv_bipush (v := nI 33) hx hb dL_isDone_472 (by decide) ?_
            refine ln_icmp_ge (tgt := 541) hx hb (by omega) (by omega) dL_isDone_474 (by decide) (fun c474 => ?_) (fun c474 => ?_)
            · skip
              refine lv_iload hx hb dL_isDone_541 (lv_at hl 3 rfl) ?_
              refine lv_bipush (v := nI 36) hx hb dL_isDone_543 (by decide) ?_
              refine ln_icmp_ge (tgt := 637) hx hb (by omega) (by omega) dL_isDone_545 (by decide) (fun c545 => ?_) (fun c545 => ?_)
              · skip
                refine lv_iload hx hb dL_isDone_637 (lv_at hl 3 rfl) ?_
                refine lv_bipush (v := nI 36) hx hb dL_isDone_639 (by decide) ?_
                refine ln_icmp_ne (tgt := 666) hx hb (by omega) (by omega) dL_isDone_641 (by decide) (fun c641 => ?_) (fun c641 => ?_)
                · skip
                  refine lv_aload hx hb dL_isDone_666 (lv_at hl 10 rfl) ?_
                  refine lv_iconst (v := nI 5) hx hb dL_isDone_668 (by decide) ?_
                  refine mg_ld (v := σ 0 1) hx hb hK (mcl hP) (by omega) hM.g5 dL_isDone_669 ?_
                  refine lv_bipush (v := nI 9) hx hb dL_isDone_670 (by decide) ?_
                  refine ln_icmp_gt (tgt := 706) hx hb (by omega) (by omega) dL_isDone_672 (by decide) (fun c672 => ?_) (fun c672 => ?_)
                  · skip
                    refine lv_iconst (v := nI 1) hx hb dL_isDone_706 (by decide) ?_
                    refine lv_goto (tgt := 711) hx hb dL_isDone_707 (by decide) ?_
                    refine W.widen (k := 8) (n := 80) (by omega) (by omega) ?_
                    exact hret (ad, σ, er, ofd, de, bo, ql, qs, tv, pf, hf, bf, gf, ei) dL_isDone_711 hP hD hS ⟨rfl, LJ.mk rfl (hI.more hn) hof hbo ⟨dl, hDL⟩ hQZ hM hE⟩
                  · skip
                    have K700 : ∀ (sh : Nat), (sh ≤ 100) → ∀ (H : Heap) (locs : List Loc), va_P D vwCl (MC cy ap ah ab ag pf hf bf gf ei ++ WG ad cy (σ 0 0) (σ 0 3) σ er ofd de bo ql qs tv) H → va_D A (MC cy ap ah ab ag pf hf bf gf ei ++ WG ad cy (σ 0 0) (σ 0 3) σ er ofd de bo ql qs tv) → va_S A H0 H locs → ∀ ls : Array Slot, lv_has ls 14 [(0, .ref ((ad 0 0))), (1, .ref b), (2, .int (nI at0)), (3, .ref ap), (4, .ref ah), (5, .ref ab), (6, .ref ag), (7, .int (nI w4)), (8, .int (nI w16)), (9, .int (nI w28)), (10, .int (nI w40))] → W p l e rmL_isDone s m args below meth c H locs 0 0 Q (F0 m 700 ls [.int (nI sh), .ref ag, .ref ab, .ref ah, .ref ap, .ref ((ad 0 0))]) := by
                      intro sh hsh H locs hP hD hS ls hl
                      refine mw_calli (va_runS (As := [.ref ((ad 0 0)), .ref ap, .ref ah, .ref ab, .ref ag, .int (nI sh)]) (rest := []) ⟨hx, hb, hml, hown, hts⟩ (c_L_isEnd l hfl D cy ap ah ab ag pf hf bf gf ei ad σ er ofd de bo ql qs tv hI hof hbo hDL hQZ hM hE sh (by omega) (by omega) hn H.size) (va_cwS 6 hts gL_isDone_L_isEnd rfl rfl rfl hdL_isEnd.2 ⟨Nat.le_of_ble_eq_true rfl, Nat.le_of_ble_eq_true rfl⟩) (xo_preS hK rfl hP hD hXW (hXZ.at hS hD hA (fun _ hq => hq))) rfl rfl hl.1 rfl (lv_room (Nat.le_of_ble_eq_true rfl)) dL_isDone_700 ⟨(by show 0 + 6 ≤ 8; omega), (by show 0 + 60 ≤ 80; omega)⟩) hS hD hA (fun z700 u700 H locs h700 hP hD hS => ?_)
                      obtain ⟨rfl, hJ⟩ := h700
                      refine lv_if_eq (tgt := 710) hx hb dL_isDone_703 (by decide) (fun q => by first | exact absurd q (by decide) | exact absurd (by decide) q) (fun _ => ?_)
                      refine lv_iconst (v := nI 1) hx hb dL_isDone_706 (by decide) ?_
                      refine lv_goto (tgt := 711) hx hb dL_isDone_707 (by decide) ?_
                      refine W.widen (k := 8) (n := 80) (by omega) (by omega) ?_
                      exact hret u700 dL_isDone_711 hP hD hS ⟨rfl, hJ⟩
                    refine lv_aload_n hx hb dL_isDone_675 rfl (lv_at hl 4 rfl) ?_
                    refine lv_aload_n hx hb dL_isDone_676 rfl (lv_at hl 7 rfl) ?_
                    refine lv_aload hx hb dL_isDone_677 (lv_at hl 8 rfl) ?_
                    refine lv_aload hx hb dL_isDone_679 (lv_at hl 9 rfl) ?_
                    refine lv_aload hx hb dL_isDone_681 (lv_at hl 10 rfl) ?_
                    refine lv_iload hx hb dL_isDone_683 (lv_at hl 1 rfl) ?_
                    refine lv_iconst (v := nI 3) hx hb dL_isDone_685 (by decide) ?_
                    refine ln_irem hx hb (by omega) (by omega) (by omega) dL_isDone_686 (fun z686 hz686 => ?_)
                    refine ln_if_ne (tgt := 695) hx hb (by omega) dL_isDone_687 (by decide) (fun c687 => ?_) (fun c687 => ?_)
                    · skip
                      refine lv_iload hx hb dL_isDone_695 (lv_at hl 1 rfl) ?_
                      refine lv_bipush (v := nI 101) hx hb dL_isDone_697 (by decide) ?_
                      refine ln_irem hx hb (by omega) (by omega) (by omega) dL_isDone_699 (fun z699 hz699 => ?_)
                      exact K700 z699 (by omega) H locs hP hD hS ls (lv_sub hl [4, 5, 6, 7, 8, 9, 10, 3, 2, 1, 0] rfl)
                    · skip
                      refine lv_bipush (v := nI 100) hx hb dL_isDone_690 (by decide) ?_
                      refine lv_goto (tgt := 700) hx hb dL_isDone_692 (by decide) ?_
                      exact K700 100 (by omega) H locs hP hD hS ls (lv_sub hl [4, 5, 6, 7, 8, 9, 10, 3, 2, 1, 0] rfl)
                · skip
                  refine lv_aload_n hx hb dL_isDone_644 rfl (lv_at hl 4 rfl) ?_
                  refine lv_bipush (v := nI 7) hx hb dL_isDone_645 (by decide) ?_
                  refine lv_bipush (v := nI 101) hx hb dL_isDone_647 (by decide) ?_
                  refine lv_iconst (v := nI 0) hx hb dL_isDone_649 (by decide) ?_
                  refine lv_iconst (v := nI 0) hx hb dL_isDone_650 (by decide) ?_
                  refine lv_iconst (v := nI 0) hx hb dL_isDone_651 (by decide) ?_
                  refine ap_calli (vx_runSW (As := [.ref ((ad 0 0)), .int (nI 7), .int (nI 101), .int (nI 0), .int (nI 0), .int (nI 0)]) (rest := []) ⟨hx, hb, hml, hown, hts⟩ (c_L_does_7 l hfl D cy ad σ er ofd de bo ql qs tv hof hbo hI hn ((nI 101)) ((nI 0)) ((nI 0)) ((nI 0)) H.size) (vx_cwSW 6 hts gL_isDone_L_does rfl rfl rfl hdL_does.2 ⟨Nat.le_of_ble_eq_true rfl, Nat.le_of_ble_eq_true rfl⟩) (xo_preS hK rfl (mcr hP) (hD.subl (List.sublist_append_right _ _)) hXW (hXZ.at hS hD hA (fun _ hq => List.mem_append_right _ hq))) rfl rfl hl.1 rfl (lv_room (Nat.le_of_ble_eq_true rfl)) dL_isDone_652 ⟨(by show 0 + 2 ≤ 8; omega), (by show 0 + 28 ≤ 80; omega)⟩) hS hP hD hA (fun z652 u652 H locs hz652 hP hD hS => ?_)
                  obtain ⟨rfl, rfl⟩ := pD_ia hz652 (fun r t h => okR_no (by omega) (by omega) h.1) (fun E h => h.2)
                  have hP : va_P D vwCl (MC cy ap ah ab ag pf hf bf gf ei ++ WG ad cy (σ 0 0) (σ 0 3) σ er ofd de bo ql qs tv) H := hP
                  have hD : va_D A (MC cy ap ah ab ag pf hf bf gf ei ++ WG ad cy (σ 0 0) (σ 0 3) σ er ofd de bo ql qs tv) := hD
                  refine lv_bipush (v := -20) hx hb dL_isDone_655 (by decide) ?_
                  refine lv_icmp_ne (tgt := 664) hx hb dL_isDone_657 (by decide) (fun c657 => absurd rfl c657) (fun c657 => ?_)
                  refine lv_iconst (v := nI 1) hx hb dL_isDone_660 (by decide) ?_
                  refine lv_goto (tgt := 665) hx hb dL_isDone_661 (by decide) ?_
                  refine W.widen (k := 8) (n := 80) (by omega) (by omega) ?_
                  exact hret (ad, σ, er, ofd, de, bo, ql, qs, tv, pf, hf, bf, gf, ei) dL_isDone_665 hP hD hS ⟨rfl, LJ.mk rfl (hI.more hn) hof hbo ⟨dl, hDL⟩ hQZ hM hE⟩
              · skip
                refine lv_iload hx hb dL_isDone_548 (lv_at hl 2 rfl) ?_
                refine lv_aload hx hb dL_isDone_550 (lv_at hl 10 rfl) ?_
                refine lv_bipush (v := nI 6) hx hb dL_isDone_552 (by decide) ?_
                refine mg_ld (v := σ 0 3) hx hb hK (mcl hP) (by omega) hM.g6 dL_isDone_554 ?_
                refine lv_iconst (v := nI 1) hx hb dL_isDone_555 (by decide) ?_
                refine ln_iadd hx hb dL_isDone_556 (fun z556 hz556 => ?_)
                refine ln_irem hx hb (by omega) (by omega) (by omega) dL_isDone_557 (fun z557 hz557 => ?_)
                have hz557b : z557 < z556 := by rw [hz557]; exact Nat.mod_lt _ (by omega)
                refine lv_istore (lv' := [(11, .int (nI z557)), (10, .int (nI w40)), (9, .int (nI w28)), (8, .int (nI w16)), (7, .int (nI w4)), (0, .ref ((ad 0 0))), (1, .ref b), (2, .int (nI at0)), (3, .ref ap), (4, .ref ah), (5, .ref ab), (6, .ref ag)]) hx hb dL_isDone_558 hl (by decide) rfl (fun ls hl => ?_)
                refine lv_iload hx hb dL_isDone_560 (lv_at hl 0 rfl) ?_
                refine lv_aload hx hb dL_isDone_562 (lv_at hl 11 rfl) ?_
                refine lv_bipush (v := nI 6) hx hb dL_isDone_564 (by decide) ?_
                refine mg_ld (v := σ 0 3) hx hb hK (mcl hP) (by omega) hM.g6 dL_isDone_566 ?_
                refine ln_icmp_ne (tgt := 575) hx hb (by omega) (by omega) dL_isDone_567 (by decide) (fun c567 => ?_) (fun c567 => ?_)
                · skip
                  have hk : z557 < σ 0 3 := by omega
                  have hbo2 := hI.bo z557 hk
                  have hxo := hM.bo hk
                  refine lv_aload hx hb dL_isDone_575 (lv_at hl 10 rfl) ?_
                  refine lv_bipush (v := nI 20) hx hb dL_isDone_577 (by decide) ?_
                  refine lv_iload hx hb dL_isDone_579 (lv_at hl 0 rfl) ?_
                  refine ln_iadd hx hb dL_isDone_581 (fun z581 hz581 => ?_)
                  refine mb_ld (v := (if σ 14 z557 = 0 then σ 13 z557 else 0)) hx hb hK (mcl hP) (by omega) (hM.b2 hk hz581) dL_isDone_582 ?_
                  refine ln_if_ne (tgt := 591) hx hb (by split <;> omega) dL_isDone_583 (by decide) (fun c583 => ?_) (fun c583 => ?_)
                  · skip
                    have h14 : σ 14 z557 = 0 := by rcases Nat.eq_zero_or_pos (σ 14 z557) with q | q; exact q; rw [if_neg (by omega)] at c583; exact absurd rfl c583
                    refine lv_aload hx hb dL_isDone_591 (lv_at hl 10 rfl) ?_
                    refine lv_iload hx hb dL_isDone_593 (lv_at hl 0 rfl) ?_
                    refine mb_ld (v := 1000 * σ 10 z557 + 100 * σ 11 z557 + σ 12 z557) hx hb hK (mcl hP) (by omega) (hM.b1 hk) dL_isDone_595 ?_
                    refine lv_bipush (v := nI 100) hx hb dL_isDone_596 (by decide) ?_
                    refine ln_irem hx hb (by omega) (by omega) (by omega) dL_isDone_598 (fun z598 hz598 => ?_)
                    have hdue : σ 12 z557 = z598 := by omega
                    refine lv_istore (lv' := [(12, .int (nI z598)), (11, .int (nI z557)), (10, .int (nI w40)), (9, .int (nI w28)), (8, .int (nI w16)), (7, .int (nI w4)), (0, .ref ((ad 0 0))), (1, .ref b), (2, .int (nI at0)), (3, .ref ap), (4, .ref ah), (5, .ref ab), (6, .ref ag)]) hx hb dL_isDone_599 hl (by decide) rfl (fun ls hl => ?_)
                    refine lv_iload hx hb dL_isDone_601 (lv_at hl 0 rfl) ?_
                    refine ln_if_le (tgt := 615) hx hb (by omega) dL_isDone_603 (by decide) (fun c603 => absurd c603 (by omega)) (fun c603 => ?_)
                    refine lv_aload hx hb dL_isDone_606 (lv_at hl 11 rfl) ?_
                    refine lv_bipush (v := nI 20) hx hb dL_isDone_608 (by decide) ?_
                    refine lv_iload hx hb dL_isDone_610 (lv_at hl 1 rfl) ?_
                    refine ln_iadd hx hb dL_isDone_612 (fun z612 hz612 => ?_)
                    refine lv_iconst (v := nI 0) hx hb dL_isDone_613 (by decide) ?_
                    refine mb_st hx hb hK hP hD hS (by omega) dL_isDone_614 (fun H locs hP hD hS => ?_)
                    refine lv_aload_n hx hb dL_isDone_615 rfl (lv_at hl 6 rfl) ?_
                    refine lv_bipush (v := nI 6) hx hb dL_isDone_616 (by decide) ?_
                    refine lv_iload hx hb dL_isDone_618 (lv_at hl 1 rfl) ?_
                    refine lv_iconst (v := nI 0) hx hb dL_isDone_620 (by decide) ?_
                    refine lv_iconst (v := nI 0) hx hb dL_isDone_621 (by decide) ?_
                    refine lv_iconst (v := nI 0) hx hb dL_isDone_622 (by decide) ?_
                    refine ap_calli (vx_runSW (As := [.ref ((ad 0 0)), .int (nI 6), .int (nI z557), .int (nI 0), .int (nI 0), .int (nI 0)]) (rest := []) ⟨hx, hb, hml, hown, hts⟩ (c_L_does_6 l hfl D cy ad σ er ofd de bo ql qs tv hbo hI ((nI z557)) ((nI 0)) ((nI 0)) ((nI 0)) H.size) (vx_cwSW 6 hts gL_isDone_L_does rfl rfl rfl hdL_does.2 ⟨Nat.le_of_ble_eq_true rfl, Nat.le_of_ble_eq_true rfl⟩) (xo_preS hK rfl (mcr hP) (hD.subl (List.sublist_append_right _ _)) hXW (hXZ.at hS hD hA (fun _ hq => List.mem_append_right _ hq))) rfl rfl hl.1 rfl (lv_room (Nat.le_of_ble_eq_true rfl)) dL_isDone_623 ⟨(by show 0 + 2 ≤ 8; omega), (by show 0 + 28 ≤ 80; omega)⟩) hS hP hD hA (fun z623 u623 H locs hz623 hP hD hS => ?_)
                    have ec0 : cN (nI z557) = z557 := cN_nI (by omega)
                    obtain ⟨t623, rfl, -, -, hz623⟩ := pD_ok hz623 (fun E h => by rcases h with ⟨h1, -⟩ | ⟨-, h1, -⟩; exact h1 (isB_i hk); rw [ec0] at h1; exact h1 h14)
                    rw [ec0] at hz623
                    subst hz623
                    have ec : caF σ (cN (nI z557)) = caF σ z557 := by rw [ec0]
                    have hP : va_P D vwCl (MC cy ap ah ab ag pf hf (va_up bf z612 0) gf ei ++ WG ad cy (σ 0 0) (σ 0 3) (caF σ (cN (nI z557))) er ofd de bo ql qs tv) H := hP
                    have hD : va_D A (MC cy ap ah ab ag pf hf (va_up bf z612 0) gf ei ++ WG ad cy (σ 0 0) (σ 0 3) (caF σ (cN (nI z557))) er ofd de bo ql qs tv) := hD
                    rw [ec] at hP hD
                    refine lv_iload hx hb dL_isDone_626 (lv_at hl 0 rfl) ?_
                    refine lv_icmp_ne (tgt := 635) hx hb dL_isDone_628 (by decide) (fun c628 => absurd (congrArg nI hdue) c628) (fun c628 => ?_)
                    refine lv_iconst (v := nI 1) hx hb dL_isDone_631 (by decide) ?_
                    refine lv_goto (tgt := 636) hx hb dL_isDone_632 (by decide) ?_
                    refine W.widen (k := 8) (n := 80) (by omega) (by omega) ?_
                    exact hret (ad, caF σ z557, er, ofd, de, bo, ql, qs, tv, pf, hf, va_up bf z612 0, gf, ei) dL_isDone_636 hP hD hS ⟨rfl, LJ.mk rfl (hI.cans hn hk h14) (hof.c rfl rfl) (hbo.c rfl (Nat.le_refl _)) ⟨dl, hDL.c rfl rfl rfl⟩ hQZ ((by rw [hz612]; exact hM.cans hk)) hE⟩
                  · skip
                    have h14 : ¬ σ 14 z557 = 0 := fun q => by rw [if_pos q] at c583; omega
                    refine lv_bipush (v := -10) hx hb dL_isDone_586 (by decide) ?_
                    refine lv_goto (tgt := 599) hx hb dL_isDone_588 (by decide) ?_
                    refine lv_istore (lv' := [(12, .int ((-10))), (11, .int (nI z557)), (10, .int (nI w40)), (9, .int (nI w28)), (8, .int (nI w16)), (7, .int (nI w4)), (0, .ref ((ad 0 0))), (1, .ref b), (2, .int (nI at0)), (3, .ref ap), (4, .ref ah), (5, .ref ab), (6, .ref ag)]) hx hb dL_isDone_599 hl (by decide) rfl (fun ls hl => ?_)
                    refine lv_iload hx hb dL_isDone_601 (lv_at hl 0 rfl) ?_
                    refine lv_if_le (tgt := 615) hx hb dL_isDone_603 (by decide) (fun c603 => ?_) (fun c603 => absurd (by decide) c603)
                    refine lv_aload_n hx hb dL_isDone_615 rfl (lv_at hl 6 rfl) ?_
                    refine lv_bipush (v := nI 6) hx hb dL_isDone_616 (by decide) ?_
                    refine lv_iload hx hb dL_isDone_618 (lv_at hl 1 rfl) ?_
                    refine lv_iconst (v := nI 0) hx hb dL_isDone_620 (by decide) ?_
                    refine lv_iconst (v := nI 0) hx hb dL_isDone_621 (by decide) ?_
                    refine lv_iconst (v := nI 0) hx hb dL_isDone_622 (by decide) ?_
                    refine ap_calli (vx_runSW (As := [.ref ((ad 0 0)), .int (nI 6), .int (nI z557), .int (nI 0), .int (nI 0), .int (nI 0)]) (rest := []) ⟨hx, hb, hml, hown, hts⟩ (c_L_does_6 l hfl D cy ad σ er ofd de bo ql qs tv hbo hI ((nI z557)) ((nI 0)) ((nI 0)) ((nI 0)) H.size) (vx_cwSW 6 hts gL_isDone_L_does rfl rfl rfl hdL_does.2 ⟨Nat.le_of_ble_eq_true rfl, Nat.le_of_ble_eq_true rfl⟩) (xo_preS hK rfl (mcr hP) (hD.subl (List.sublist_append_right _ _)) hXW (hXZ.at hS hD hA (fun _ hq => List.mem_append_right _ hq))) rfl rfl hl.1 rfl (lv_room (Nat.le_of_ble_eq_true rfl)) dL_isDone_623 ⟨(by show 0 + 2 ≤ 8; omega), (by show 0 + 28 ≤ 80; omega)⟩) hS hP hD hA (fun z623 u623 H locs hz623 hP hD hS => ?_)
                    have ec : cN (nI z557) = z557 := cN_nI (by omega)
                    obtain ⟨rfl, rfl⟩ := pD_is hz623 (fun r t h => h14 (by have := h.2.1; rw [ec] at this; exact this)) (fun E h => by rcases h with ⟨h1, -⟩ | ⟨-, -, h⟩; exact absurd (isB_i hk) h1; exact h)
                    have hP : va_P D vwCl (MC cy ap ah ab ag pf hf bf gf ei ++ WG ad cy (σ 0 0) (σ 0 3) σ er ofd de bo ql qs tv) H := hP
                    have hD : va_D A (MC cy ap ah ab ag pf hf bf gf ei ++ WG ad cy (σ 0 0) (σ 0 3) σ er ofd de bo ql qs tv) := hD
                    refine lv_iload hx hb dL_isDone_626 (lv_at hl 0 rfl) ?_
                    refine lv_icmp_ne (tgt := 635) hx hb dL_isDone_628 (by decide) (fun c628 => absurd rfl c628) (fun c628 => ?_)
                    refine lv_iconst (v := nI 1) hx hb dL_isDone_631 (by decide) ?_
                    refine lv_goto (tgt := 636) hx hb dL_isDone_632 (by decide) ?_
                    refine W.widen (k := 8) (n := 80) (by omega) (by omega) ?_
                    exact hret (ad, σ, er, ofd, de, bo, ql, qs, tv, pf, hf, bf, gf, ei) dL_isDone_636 hP hD hS ⟨rfl, LJ.mk rfl (hI.more hn) hof hbo ⟨dl, hDL⟩ hQZ hM hE⟩
                · skip
                  refine lv_bipush (v := -30) hx hb dL_isDone_570 (by decide) ?_
                  refine lv_goto (tgt := 599) hx hb dL_isDone_572 (by decide) ?_
                  refine lv_istore (lv' := [(12, .int ((-30))), (11, .int (nI z557)), (10, .int (nI w40)), (9, .int (nI w28)), (8, .int (nI w16)), (7, .int (nI w4)), (0, .ref ((ad 0 0))), (1, .ref b), (2, .int (nI at0)), (3, .ref ap), (4, .ref ah), (5, .ref ab), (6, .ref ag)]) hx hb dL_isDone_599 hl (by decide) rfl (fun ls hl => ?_)
                  refine lv_iload hx hb dL_isDone_601 (lv_at hl 0 rfl) ?_
                  refine lv_if_le (tgt := 615) hx hb dL_isDone_603 (by decide) (fun c603 => ?_) (fun c603 => absurd (by decide) c603)
                  refine lv_aload_n hx hb dL_isDone_615 rfl (lv_at hl 6 rfl) ?_
                  refine lv_bipush (v := nI 6) hx hb dL_isDone_616 (by decide) ?_
                  refine lv_iload hx hb dL_isDone_618 (lv_at hl 1 rfl) ?_
                  refine lv_iconst (v := nI 0) hx hb dL_isDone_620 (by decide) ?_
                  refine lv_iconst (v := nI 0) hx hb dL_isDone_621 (by decide) ?_
                  refine lv_iconst (v := nI 0) hx hb dL_isDone_622 (by decide) ?_
                  refine ap_calli (vx_runSW (As := [.ref ((ad 0 0)), .int (nI 6), .int (nI z557), .int (nI 0), .int (nI 0), .int (nI 0)]) (rest := []) ⟨hx, hb, hml, hown, hts⟩ (c_L_does_6 l hfl D cy ad σ er ofd de bo ql qs tv hbo hI ((nI z557)) ((nI 0)) ((nI 0)) ((nI 0)) H.size) (vx_cwSW 6 hts gL_isDone_L_does rfl rfl rfl hdL_does.2 ⟨Nat.le_of_ble_eq_true rfl, Nat.le_of_ble_eq_true rfl⟩) (xo_preS hK rfl (mcr hP) (hD.subl (List.sublist_append_right _ _)) hXW (hXZ.at hS hD hA (fun _ hq => List.mem_append_right _ hq))) rfl rfl hl.1 rfl (lv_room (Nat.le_of_ble_eq_true rfl)) dL_isDone_623 ⟨(by show 0 + 2 ≤ 8; omega), (by show 0 + 28 ≤ 80; omega)⟩) hS hP hD hA (fun z623 u623 H locs hz623 hP hD hS => ?_)
                  obtain ⟨rfl, rfl⟩ := pD_io hz623 (fun r t h => isB_no (by omega) (by omega) h.1) (fun E h => by rcases h with ⟨-, h⟩ | ⟨h1, -, -⟩; exact h; exact absurd h1 (isB_no (by omega) (by omega)))
                  have hP : va_P D vwCl (MC cy ap ah ab ag pf hf bf gf ei ++ WG ad cy (σ 0 0) (σ 0 3) σ er ofd de bo ql qs tv) H := hP
                  have hD : va_D A (MC cy ap ah ab ag pf hf bf gf ei ++ WG ad cy (σ 0 0) (σ 0 3) σ er ofd de bo ql qs tv) := hD
                  refine lv_iload hx hb dL_isDone_626 (lv_at hl 0 rfl) ?_
                  refine lv_icmp_ne (tgt := 635) hx hb dL_isDone_628 (by decide) (fun c628 => absurd rfl c628) (fun c628 => ?_)
                  refine lv_iconst (v := nI 1) hx hb dL_isDone_631 (by decide) ?_
                  refine lv_goto (tgt := 636) hx hb dL_isDone_632 (by decide) ?_
                  refine W.widen (k := 8) (n := 80) (by omega) (by omega) ?_
                  exact hret (ad, σ, er, ofd, de, bo, ql, qs, tv, pf, hf, bf, gf, ei) dL_isDone_636 hP hD hS ⟨rfl, LJ.mk rfl (hI.more hn) hof hbo ⟨dl, hDL⟩ hQZ hM hE⟩
            · skip
              refine lv_aload hx hb dL_isDone_477 (lv_at hl 10 rfl) ?_
              refine lv_bipush (v := nI 6) hx hb dL_isDone_479 (by decide) ?_
              refine mg_ld (v := σ 0 3) hx hb hK (mcl hP) (by omega) hM.g6 dL_isDone_481 ?_
              refine lv_bipush (v := nI 18) hx hb dL_isDone_482 (by decide) ?_
              refine ln_icmp_gt (tgt := 535) hx hb (by omega) (by omega) dL_isDone_484 (by decide) (fun c484 => ?_) (fun c484 => ?_)
              · skip
                refine lv_iconst (v := nI 1) hx hb dL_isDone_535 (by decide) ?_
                refine lv_goto (tgt := 540) hx hb dL_isDone_536 (by decide) ?_
                refine W.widen (k := 8) (n := 80) (by omega) (by omega) ?_
                exact hret (ad, σ, er, ofd, de, bo, ql, qs, tv, pf, hf, bf, gf, ei) dL_isDone_540 hP hD hS ⟨rfl, LJ.mk rfl (hI.more hn) hof hbo ⟨dl, hDL⟩ hQZ hM hE⟩
              · skip
                refine lv_aload_n hx hb dL_isDone_487 rfl (lv_at hl 4 rfl) ?_
                refine lv_aload hx hb dL_isDone_488 (lv_at hl 9 rfl) ?_
                refine lv_aload hx hb dL_isDone_490 (lv_at hl 10 rfl) ?_
                refine lv_iload hx hb dL_isDone_492 (lv_at hl 2 rfl) ?_
                refine lv_iconst (v := nI 4) hx hb dL_isDone_494 (by decide) ?_
                refine ln_irem hx hb (by omega) (by omega) (by omega) dL_isDone_495 (fun z495 hz495 => ?_)
                refine lv_iload hx hb dL_isDone_496 (lv_at hl 1 rfl) ?_
                refine lv_iconst (v := nI 4) hx hb dL_isDone_498 (by decide) ?_
                refine ln_irem hx hb (by omega) (by omega) (by omega) dL_isDone_499 (fun z499 hz499 => ?_)
                refine lv_iload hx hb dL_isDone_500 (lv_at hl 0 rfl) ?_
                refine lv_bipush (v := nI 8) hx hb dL_isDone_502 (by decide) ?_
                refine ln_irem hx hb (by omega) (by omega) (by omega) dL_isDone_504 (fun z504 hz504 => ?_)
                refine lv_iconst (v := nI 1) hx hb dL_isDone_505 (by decide) ?_
                refine lv_iload hx hb dL_isDone_506 (lv_at hl 0 rfl) ?_
                refine lv_sipush (v := nI 200) hx hb dL_isDone_508 (by decide) ?_
                refine ln_irem hx hb (by omega) (by omega) (by omega) dL_isDone_511 (fun z511 hz511 => ?_)
                refine ln_iadd hx hb dL_isDone_512 (fun z512 hz512 => ?_)
                have K528 : ∀ (x : Nat), (x ≤ 3000) → ∀ (H : Heap) (locs : List Loc), va_P D vwCl (MC cy ap ah ab ag pf hf bf gf ei ++ WG ad cy (σ 0 0) (σ 0 3) σ er ofd de bo ql qs tv) H → va_D A (MC cy ap ah ab ag pf hf bf gf ei ++ WG ad cy (σ 0 0) (σ 0 3) σ er ofd de bo ql qs tv) → va_S A H0 H locs → ∀ ls : Array Slot, lv_has ls 14 [(0, .ref ((ad 0 0))), (1, .ref b), (2, .int (nI at0)), (3, .ref ap), (4, .ref ah), (5, .ref ab), (6, .ref ag), (7, .int (nI w4)), (8, .int (nI w16)), (9, .int (nI w28)), (10, .int (nI w40))] → W p l e rmL_isDone s m args below meth c H locs 0 0 Q (F0 m 528 ls [.int (nI x), .int (nI z512), .int (nI z504), .int (nI z499), .int (nI z495), .ref ag, .ref ab, .ref ((ad 0 0))]) := by
                  intro x hx3 H locs hP hD hS ls hl
                  refine ln_iadd hx hb dL_isDone_528 (fun z528 hz528 => ?_)
                  refine mw_calli (va_runS (As := [.ref ((ad 0 0)), .ref ab, .ref ag, .int (nI z495), .int (nI z499), .int (nI z504), .int (nI z528)]) (rest := []) ⟨hx, hb, hml, hown, hts⟩ (c_L_isGroup l hfl D cy ap ah ab ag pf hf bf gf ei ad σ er ofd de bo ql qs tv hI hof hbo hDL hQZ hM hE z495 z499 z504 z528 (by omega) (by omega) (by omega) (by omega) (by omega) (by omega) hn H.size) (va_cwS 7 hts gL_isDone_L_isGroup rfl rfl rfl hdL_isGroup.2 ⟨Nat.le_of_ble_eq_true rfl, Nat.le_of_ble_eq_true rfl⟩) (xo_preS hK rfl hP hD hXW (hXZ.at hS hD hA (fun _ hq => hq))) rfl rfl hl.1 rfl (lv_room (Nat.le_of_ble_eq_true rfl)) dL_isDone_529 ⟨(by show 0 + 6 ≤ 8; omega), (by show 0 + 60 ≤ 80; omega)⟩) hS hD hA (fun z529 u529 H locs h529 hP hD hS => ?_)
                  obtain ⟨rfl, hJ⟩ := h529
                  refine lv_if_eq (tgt := 539) hx hb dL_isDone_532 (by decide) (fun q => by first | exact absurd q (by decide) | exact absurd (by decide) q) (fun _ => ?_)
                  refine lv_iconst (v := nI 1) hx hb dL_isDone_535 (by decide) ?_
                  refine lv_goto (tgt := 540) hx hb dL_isDone_536 (by decide) ?_
                  refine W.widen (k := 8) (n := 80) (by omega) (by omega) ?_
                  exact hret u529 dL_isDone_540 hP hD hS ⟨rfl, hJ⟩
                refine lv_iload hx hb dL_isDone_513 (lv_at hl 2 rfl) ?_
                refine lv_bipush (v := nI 30) hx hb dL_isDone_515 (by decide) ?_
                refine ln_irem hx hb (by omega) (by omega) (by omega) dL_isDone_517 (fun z517 hz517 => ?_)
                refine ln_if_ne (tgt := 527) hx hb (by omega) dL_isDone_518 (by decide) (fun c518 => ?_) (fun c518 => ?_)
                · skip
                  refine lv_iconst (v := nI 0) hx hb dL_isDone_527 (by decide) ?_
                  exact K528 0 (by omega) H locs hP hD hS ls (lv_sub hl [4, 5, 6, 7, 8, 9, 10, 3, 2, 1, 0] rfl)
                · skip
                  refine lv_sipush (v := nI 3000) hx hb dL_isDone_521 (by decide) ?_
                  refine lv_goto (tgt := 528) hx hb dL_isDone_524 (by decide) ?_
                  exact K528 3000 (by omega) H locs hP hD hS ls (lv_sub hl [4, 5, 6, 7, 8, 9, 10, 3, 2, 1, 0] rfl)
          · skip
            refine lv_aload hx hb dL_isDone_407 (lv_at hl 10 rfl) ?_
            refine lv_bipush (v := nI 6) hx hb dL_isDone_409 (by decide) ?_
            refine mg_ld (v := σ 0 3) hx hb hK (mcl hP) (by omega) hM.g6 dL_isDone_411 ?_
            refine lv_bipush (v := nI 18) hx hb dL_isDone_412 (by decide) ?_
            refine ln_icmp_gt (tgt := 464) hx hb (by omega) (by omega) dL_isDone_414 (by decide) (fun c414 => ?_) (fun c414 => ?_)
            · skip
              refine lv_iconst (v := nI 1) hx hb dL_isDone_464 (by decide) ?_
              refine lv_goto (tgt := 469) hx hb dL_isDone_465 (by decide) ?_
              refine W.widen (k := 8) (n := 80) (by omega) (by omega) ?_
              exact hret (ad, σ, er, ofd, de, bo, ql, qs, tv, pf, hf, bf, gf, ei) dL_isDone_469 hP hD hS ⟨rfl, LJ.mk rfl (hI.more hn) hof hbo ⟨dl, hDL⟩ hQZ hM hE⟩
            · skip
              have K458 : ∀ (its : Nat), (its ≤ σ 0 0) → ∀ (H : Heap) (locs : List Loc), va_P D vwCl (MC cy ap ah ab ag pf hf bf gf ei ++ WG ad cy (σ 0 0) (σ 0 3) σ er ofd de bo ql qs tv) H → va_D A (MC cy ap ah ab ag pf hf bf gf ei ++ WG ad cy (σ 0 0) (σ 0 3) σ er ofd de bo ql qs tv) → va_S A H0 H locs → ∀ ls : Array Slot, lv_has ls 14 [(0, .ref ((ad 0 0))), (1, .ref b), (2, .int (nI at0)), (3, .ref ap), (4, .ref ah), (5, .ref ab), (6, .ref ag), (7, .int (nI w4)), (8, .int (nI w16)), (9, .int (nI w28)), (10, .int (nI w40))] → W p l e rmL_isDone s m args below meth c H locs 0 0 Q (F0 m 458 ls [.int (nI its), .ref ag, .ref ab, .ref ah, .ref ap, .ref ((ad 0 0))]) := by
                intro its hits H locs hP hD hS ls hl
                refine mw_calli (va_runS (As := [.ref ((ad 0 0)), .ref ap, .ref ah, .ref ab, .ref ag, .int (nI its)]) (rest := []) ⟨hx, hb, hml, hown, hts⟩ (c_L_isAsked l hfl D cy ap ah ab ag pf hf bf gf ei ad σ er ofd de bo ql qs tv hI hof hbo hDL hQZ hM hE its hits (by omega) hn H.size) (va_cwS 6 hts gL_isDone_L_isAsked rfl rfl rfl hdL_isAsked.2 ⟨Nat.le_of_ble_eq_true rfl, Nat.le_of_ble_eq_true rfl⟩) (xo_preS hK rfl hP hD hXW (hXZ.at hS hD hA (fun _ hq => hq))) rfl rfl hl.1 rfl (lv_room (Nat.le_of_ble_eq_true rfl)) dL_isDone_458 ⟨(by show 0 + 6 ≤ 8; omega), (by show 0 + 60 ≤ 80; omega)⟩) hS hD hA (fun z458 u458 H locs h458 hP hD hS => ?_)
                obtain ⟨rfl, hJ⟩ := h458
                refine lv_if_eq (tgt := 468) hx hb dL_isDone_461 (by decide) (fun q => by first | exact absurd q (by decide) | exact absurd (by decide) q) (fun _ => ?_)
                refine lv_iconst (v := nI 1) hx hb dL_isDone_464 (by decide) ?_
                refine lv_goto (tgt := 469) hx hb dL_isDone_465 (by decide) ?_
                refine W.widen (k := 8) (n := 80) (by omega) (by omega) ?_
                exact hret u458 dL_isDone_469 hP hD hS ⟨rfl, hJ⟩
              refine lv_aload_n hx hb dL_isDone_417 rfl (lv_at hl 4 rfl) ?_
              refine lv_aload_n hx hb dL_isDone_418 rfl (lv_at hl 7 rfl) ?_
              refine lv_aload hx hb dL_isDone_419 (lv_at hl 8 rfl) ?_
              refine lv_aload hx hb dL_isDone_421 (lv_at hl 9 rfl) ?_
              refine lv_aload hx hb dL_isDone_423 (lv_at hl 10 rfl) ?_
              refine lv_iload hx hb dL_isDone_425 (lv_at hl 2 rfl) ?_
              refine lv_bipush (v := nI 12) hx hb dL_isDone_427 (by decide) ?_
              refine ln_irem hx hb (by omega) (by omega) (by omega) dL_isDone_429 (fun z429 hz429 => ?_)
              refine ln_if_ne (tgt := 440) hx hb (by omega) dL_isDone_430 (by decide) (fun c430 => ?_) (fun c430 => ?_)
              · skip
                refine lv_iload hx hb dL_isDone_440 (lv_at hl 2 rfl) ?_
                refine lv_aload hx hb dL_isDone_442 (lv_at hl 10 rfl) ?_
                refine lv_iconst (v := nI 4) hx hb dL_isDone_444 (by decide) ?_
                refine mg_ld (v := σ 0 0) hx hb hK (mcl hP) (by omega) hM.g4 dL_isDone_445 ?_
                refine ln_if_ne (tgt := 453) hx hb (by omega) dL_isDone_446 (by decide) (fun c446 => ?_) (fun c446 => ?_)
                · skip
                  refine lv_aload hx hb dL_isDone_453 (lv_at hl 10 rfl) ?_
                  refine lv_iconst (v := nI 4) hx hb dL_isDone_455 (by decide) ?_
                  refine mg_ld (v := σ 0 0) hx hb hK (mcl hP) (by omega) hM.g4 dL_isDone_456 ?_
                  refine ln_irem hx hb (by omega) (by omega) (by omega) dL_isDone_457 (fun z457 hz457 => ?_)
                  exact K458 z457 (by rw [hz457]; first | omega | exact Nat.le_of_lt (Nat.mod_lt _ (by omega))) H locs hP hD hS ls (lv_sub hl [4, 5, 6, 7, 8, 9, 10, 3, 2, 1, 0] rfl)
                · skip
                  refine lv_iconst (v := nI 1) hx hb dL_isDone_449 (by decide) ?_
                  refine lv_goto (tgt := 457) hx hb dL_isDone_450 (by decide) ?_
                  refine ln_irem hx hb (by omega) (by omega) (by omega) dL_isDone_457 (fun z457 hz457 => ?_)
                  exact K458 z457 (by rw [hz457]; first | omega | exact Nat.le_of_lt (Nat.mod_lt _ (by omega))) H locs hP hD hS ls (lv_sub hl [4, 5, 6, 7, 8, 9, 10, 3, 2, 1, 0] rfl)
              · skip
                refine lv_aload hx hb dL_isDone_433 (lv_at hl 10 rfl) ?_
                refine lv_iconst (v := nI 4) hx hb dL_isDone_435 (by decide) ?_
                refine mg_ld (v := σ 0 0) hx hb hK (mcl hP) (by omega) hM.g4 dL_isDone_436 ?_
                refine lv_goto (tgt := 458) hx hb dL_isDone_437 (by decide) ?_
                exact K458 (σ 0 0) (Nat.le_refl _) H locs hP hD hS ls (lv_sub hl [4, 5, 6, 7, 8, 9, 10, 3, 2, 1, 0] rfl)
        · skip
          refine lv_bipush (v := nI 49) hx hb dL_isDone_326 (by decide) ?_
          refine lv_iload hx hb dL_isDone_328 (lv_at hl 2 rfl) ?_
          refine lv_bipush (v := nI 53) hx hb dL_isDone_330 (by decide) ?_
          refine ln_irem hx hb (by omega) (by omega) (by omega) dL_isDone_332 (fun z332 hz332 => ?_)
          refine ln_iadd hx hb dL_isDone_333 (fun z333 hz333 => ?_)
          refine lv_istore (lv' := [(11, .int (nI z333)), (10, .int (nI w40)), (9, .int (nI w28)), (8, .int (nI w16)), (7, .int (nI w4)), (0, .ref ((ad 0 0))), (1, .ref b), (2, .int (nI at0)), (3, .ref ap), (4, .ref ah), (5, .ref ab), (6, .ref ag)]) hx hb dL_isDone_334 hl (by decide) rfl (fun ls hl => ?_)
          refine lv_iload hx hb dL_isDone_336 (lv_at hl 0 rfl) ?_
          refine lv_bipush (v := nI 50) hx hb dL_isDone_338 (by decide) ?_
          refine ln_icmp_lt (tgt := 350) hx hb (by omega) (by omega) dL_isDone_340 (by decide) (fun c340 => ?_) (fun c340 => ?_)
          · skip
            refine lv_bipush (v := -20) hx hb dL_isDone_350 (by decide) ?_
            refine lv_goto (tgt := 359) hx hb dL_isDone_352 (by decide) ?_
            refine lv_istore (lv' := [(12, .int ((-20))), (11, .int (nI z333)), (10, .int (nI w40)), (9, .int (nI w28)), (8, .int (nI w16)), (7, .int (nI w4)), (0, .ref ((ad 0 0))), (1, .ref b), (2, .int (nI at0)), (3, .ref ap), (4, .ref ah), (5, .ref ab), (6, .ref ag)]) hx hb dL_isDone_359 hl (by decide) rfl (fun ls hl => ?_)
            refine lv_aload hx hb dL_isDone_361 (lv_at hl 12 rfl) ?_
            refine lv_iconst (v := nI 3) hx hb dL_isDone_363 (by decide) ?_
            refine lv_iload hx hb dL_isDone_364 (lv_at hl 0 rfl) ?_
            refine lv_if_ge (tgt := 376) hx hb dL_isDone_366 (by decide) (fun c366 => absurd c366 (by decide)) (fun c366 => ?_)
            refine lv_aload hx hb dL_isDone_369 (lv_at hl 12 rfl) ?_
            refine lv_iconst (v := nI 3) hx hb dL_isDone_371 (by decide) ?_
            refine mg_ld (v := σ 0 2) hx hb hK (mcl hP) (by omega) hM.g3 dL_isDone_372 ?_
            refine lv_goto (tgt := 378) hx hb dL_isDone_373 (by decide) ?_
            refine mg_st hx hb hK hP hD hS (by omega) dL_isDone_378 (fun H locs hP hD hS => ?_)
            refine lv_aload_n hx hb dL_isDone_379 rfl (lv_at hl 6 rfl) ?_
            refine lv_iconst (v := nI 3) hx hb dL_isDone_380 (by decide) ?_
            refine lv_iload hx hb dL_isDone_381 (lv_at hl 1 rfl) ?_
            refine lv_iconst (v := nI 0) hx hb dL_isDone_383 (by decide) ?_
            refine lv_iconst (v := nI 0) hx hb dL_isDone_384 (by decide) ?_
            refine lv_iconst (v := nI 0) hx hb dL_isDone_385 (by decide) ?_
            refine ap_calli (vx_runSW (As := [.ref ((ad 0 0)), .int (nI 3), .int (nI z333), .int (nI 0), .int (nI 0), .int (nI 0)]) (rest := []) ⟨hx, hb, hml, hown, hts⟩ (c_L_does_3 l hfl D cy ad σ er ofd de bo ql qs tv ((nI z333)) ((nI 0)) ((nI 0)) ((nI 0)) H.size) (vx_cwSW 6 hts gL_isDone_L_does rfl rfl rfl hdL_does.2 ⟨Nat.le_of_ble_eq_true rfl, Nat.le_of_ble_eq_true rfl⟩) (xo_preS hK rfl (mcr hP) (hD.subl (List.sublist_append_right _ _)) hXW (hXZ.at hS hD hA (fun _ hq => List.mem_append_right _ hq))) rfl rfl hl.1 rfl (lv_room (Nat.le_of_ble_eq_true rfl)) dL_isDone_386 ⟨(by show 0 + 2 ≤ 8; omega), (by show 0 + 28 ≤ 80; omega)⟩) hS hP hD hA (fun z386 u386 H locs hz386 hP hD hS => ?_)
            obtain ⟨rfl, rfl⟩ := pD_ia hz386 (fun r t h => absurd ((okR_iff (by omega) (by omega) (by omega)).mp h.1) (by omega)) (fun E h => h.2)
            have hP : va_P D vwCl (MC cy ap ah ab ag pf hf bf (va_up gf 3 (σ 0 2)) ei ++ WG ad cy (σ 0 0) (σ 0 3) σ er ofd de bo ql qs tv) H := hP
            have hD : va_D A (MC cy ap ah ab ag pf hf bf (va_up gf 3 (σ 0 2)) ei ++ WG ad cy (σ 0 0) (σ 0 3) σ er ofd de bo ql qs tv) := hD
            refine lv_iload hx hb dL_isDone_389 (lv_at hl 0 rfl) ?_
            refine lv_icmp_ne (tgt := 398) hx hb dL_isDone_391 (by decide) (fun c391 => absurd rfl c391) (fun c391 => ?_)
            refine lv_iconst (v := nI 1) hx hb dL_isDone_394 (by decide) ?_
            refine lv_goto (tgt := 399) hx hb dL_isDone_395 (by decide) ?_
            refine W.widen (k := 8) (n := 80) (by omega) (by omega) ?_
            exact hret (ad, σ, er, ofd, de, bo, ql, qs, tv, pf, hf, bf, va_up gf 3 (σ 0 2), ei) dL_isDone_399 hP hD hS ⟨rfl, LJ.mk rfl (hI.more hn) hof hbo ⟨dl, hDL⟩ hQZ (hM.same3 rfl) hE⟩
          · skip
            refine lv_iload hx hb dL_isDone_343 (lv_at hl 0 rfl) ?_
            refine lv_bipush (v := nI 100) hx hb dL_isDone_345 (by decide) ?_
            refine ln_icmp_le (tgt := 355) hx hb (by omega) (by omega) dL_isDone_347 (by decide) (fun c347 => ?_) (fun c347 => ?_)
            · skip
              refine lv_aload hx hb dL_isDone_355 (lv_at hl 11 rfl) ?_
              refine lv_iconst (v := nI 3) hx hb dL_isDone_357 (by decide) ?_
              refine mg_ld (v := σ 0 2) hx hb hK (mcl hP) (by omega) hM.g3 dL_isDone_358 ?_
              refine lv_istore (lv' := [(12, .int (nI (σ 0 2))), (11, .int (nI z333)), (10, .int (nI w40)), (9, .int (nI w28)), (8, .int (nI w16)), (7, .int (nI w4)), (0, .ref ((ad 0 0))), (1, .ref b), (2, .int (nI at0)), (3, .ref ap), (4, .ref ah), (5, .ref ab), (6, .ref ag)]) hx hb dL_isDone_359 hl (by decide) rfl (fun ls hl => ?_)
              refine lv_aload hx hb dL_isDone_361 (lv_at hl 12 rfl) ?_
              refine lv_iconst (v := nI 3) hx hb dL_isDone_363 (by decide) ?_
              refine lv_iload hx hb dL_isDone_364 (lv_at hl 0 rfl) ?_
              refine ln_if_ge (tgt := 376) hx hb (by omega) dL_isDone_366 (by decide) ?_
              refine lv_iload hx hb dL_isDone_376 (lv_at hl 1 rfl) ?_
              refine mg_st hx hb hK hP hD hS (by omega) dL_isDone_378 (fun H locs hP hD hS => ?_)
              refine lv_aload_n hx hb dL_isDone_379 rfl (lv_at hl 6 rfl) ?_
              refine lv_iconst (v := nI 3) hx hb dL_isDone_380 (by decide) ?_
              refine lv_iload hx hb dL_isDone_381 (lv_at hl 1 rfl) ?_
              refine lv_iconst (v := nI 0) hx hb dL_isDone_383 (by decide) ?_
              refine lv_iconst (v := nI 0) hx hb dL_isDone_384 (by decide) ?_
              refine lv_iconst (v := nI 0) hx hb dL_isDone_385 (by decide) ?_
              refine ap_calli (vx_runSW (As := [.ref ((ad 0 0)), .int (nI 3), .int (nI z333), .int (nI 0), .int (nI 0), .int (nI 0)]) (rest := []) ⟨hx, hb, hml, hown, hts⟩ (c_L_does_3 l hfl D cy ad σ er ofd de bo ql qs tv ((nI z333)) ((nI 0)) ((nI 0)) ((nI 0)) H.size) (vx_cwSW 6 hts gL_isDone_L_does rfl rfl rfl hdL_does.2 ⟨Nat.le_of_ble_eq_true rfl, Nat.le_of_ble_eq_true rfl⟩) (xo_preS hK rfl (mcr hP) (hD.subl (List.sublist_append_right _ _)) hXW (hXZ.at hS hD hA (fun _ hq => List.mem_append_right _ hq))) rfl rfl hl.1 rfl (lv_room (Nat.le_of_ble_eq_true rfl)) dL_isDone_386 ⟨(by show 0 + 2 ≤ 8; omega), (by show 0 + 28 ≤ 80; omega)⟩) hS hP hD hA (fun z386 u386 H locs hz386 hP hD hS => ?_)
              obtain ⟨t386, rfl, -, hz386⟩ := pD_ok hz386 (fun E h => h.1 (okR_i (by omega) (by omega) (by omega)))
              subst hz386
              have ec : raF σ (cN (nI z333)) = raF σ z333 := by rw [cN_nI (by omega)]
              have hP : va_P D vwCl (MC cy ap ah ab ag pf hf bf (va_up gf 3 z333) ei ++ WG ad cy (σ 0 0) (σ 0 3) (raF σ (cN (nI z333))) er ofd de bo ql qs tv) H := hP
              have hD : va_D A (MC cy ap ah ab ag pf hf bf (va_up gf 3 z333) ei ++ WG ad cy (σ 0 0) (σ 0 3) (raF σ (cN (nI z333))) er ofd de bo ql qs tv) := hD
              rw [ec] at hP hD
              refine lv_iload hx hb dL_isDone_389 (lv_at hl 0 rfl) ?_
              refine lv_icmp_ne (tgt := 398) hx hb dL_isDone_391 (by decide) (fun c391 => absurd rfl c391) (fun c391 => ?_)
              refine lv_iconst (v := nI 1) hx hb dL_isDone_394 (by decide) ?_
              refine lv_goto (tgt := 399) hx hb dL_isDone_395 (by decide) ?_
              refine W.widen (k := 8) (n := 80) (by omega) (by omega) ?_
              exact hret (ad, raF σ z333, er, ofd, de, bo, ql, qs, tv, pf, hf, bf, va_up gf 3 z333, ei) dL_isDone_399 hP hD hS ⟨rfl, LJ.mk rfl (hI.rate hn (by omega) (by omega)) (hof.c rfl rfl) (hbo.c rfl (Nat.le_refl _)) ⟨dl, hDL.c rfl rfl rfl⟩ hQZ (hM.rate _) hE⟩
            · skip
              refine lv_bipush (v := -20) hx hb dL_isDone_350 (by decide) ?_
              refine lv_goto (tgt := 359) hx hb dL_isDone_352 (by decide) ?_
              refine lv_istore (lv' := [(12, .int ((-20))), (11, .int (nI z333)), (10, .int (nI w40)), (9, .int (nI w28)), (8, .int (nI w16)), (7, .int (nI w4)), (0, .ref ((ad 0 0))), (1, .ref b), (2, .int (nI at0)), (3, .ref ap), (4, .ref ah), (5, .ref ab), (6, .ref ag)]) hx hb dL_isDone_359 hl (by decide) rfl (fun ls hl => ?_)
              refine lv_aload hx hb dL_isDone_361 (lv_at hl 12 rfl) ?_
              refine lv_iconst (v := nI 3) hx hb dL_isDone_363 (by decide) ?_
              refine lv_iload hx hb dL_isDone_364 (lv_at hl 0 rfl) ?_
              refine lv_if_ge (tgt := 376) hx hb dL_isDone_366 (by decide) (fun c366 => absurd c366 (by decide)) (fun c366 => ?_)
              refine lv_aload hx hb dL_isDone_369 (lv_at hl 12 rfl) ?_
              refine lv_iconst (v := nI 3) hx hb dL_isDone_371 (by decide) ?_
              refine mg_ld (v := σ 0 2) hx hb hK (mcl hP) (by omega) hM.g3 dL_isDone_372 ?_
              refine lv_goto (tgt := 378) hx hb dL_isDone_373 (by decide) ?_
              refine mg_st hx hb hK hP hD hS (by omega) dL_isDone_378 (fun H locs hP hD hS => ?_)
              refine lv_aload_n hx hb dL_isDone_379 rfl (lv_at hl 6 rfl) ?_
              refine lv_iconst (v := nI 3) hx hb dL_isDone_380 (by decide) ?_
              refine lv_iload hx hb dL_isDone_381 (lv_at hl 1 rfl) ?_
              refine lv_iconst (v := nI 0) hx hb dL_isDone_383 (by decide) ?_
              refine lv_iconst (v := nI 0) hx hb dL_isDone_384 (by decide) ?_
              refine lv_iconst (v := nI 0) hx hb dL_isDone_385 (by decide) ?_
              refine ap_calli (vx_runSW (As := [.ref ((ad 0 0)), .int (nI 3), .int (nI z333), .int (nI 0), .int (nI 0), .int (nI 0)]) (rest := []) ⟨hx, hb, hml, hown, hts⟩ (c_L_does_3 l hfl D cy ad σ er ofd de bo ql qs tv ((nI z333)) ((nI 0)) ((nI 0)) ((nI 0)) H.size) (vx_cwSW 6 hts gL_isDone_L_does rfl rfl rfl hdL_does.2 ⟨Nat.le_of_ble_eq_true rfl, Nat.le_of_ble_eq_true rfl⟩) (xo_preS hK rfl (mcr hP) (hD.subl (List.sublist_append_right _ _)) hXW (hXZ.at hS hD hA (fun _ hq => List.mem_append_right _ hq))) rfl rfl hl.1 rfl (lv_room (Nat.le_of_ble_eq_true rfl)) dL_isDone_386 ⟨(by show 0 + 2 ≤ 8; omega), (by show 0 + 28 ≤ 80; omega)⟩) hS hP hD hA (fun z386 u386 H locs hz386 hP hD hS => ?_)
              obtain ⟨rfl, rfl⟩ := pD_ia hz386 (fun r t h => absurd ((okR_iff (by omega) (by omega) (by omega)).mp h.1) (by omega)) (fun E h => h.2)
              have hP : va_P D vwCl (MC cy ap ah ab ag pf hf bf (va_up gf 3 (σ 0 2)) ei ++ WG ad cy (σ 0 0) (σ 0 3) σ er ofd de bo ql qs tv) H := hP
              have hD : va_D A (MC cy ap ah ab ag pf hf bf (va_up gf 3 (σ 0 2)) ei ++ WG ad cy (σ 0 0) (σ 0 3) σ er ofd de bo ql qs tv) := hD
              refine lv_iload hx hb dL_isDone_389 (lv_at hl 0 rfl) ?_
              refine lv_icmp_ne (tgt := 398) hx hb dL_isDone_391 (by decide) (fun c391 => absurd rfl c391) (fun c391 => ?_)
              refine lv_iconst (v := nI 1) hx hb dL_isDone_394 (by decide) ?_
              refine lv_goto (tgt := 399) hx hb dL_isDone_395 (by decide) ?_
              refine W.widen (k := 8) (n := 80) (by omega) (by omega) ?_
              exact hret (ad, σ, er, ofd, de, bo, ql, qs, tv, pf, hf, bf, va_up gf 3 (σ 0 2), ei) dL_isDone_399 hP hD hS ⟨rfl, LJ.mk rfl (hI.more hn) hof hbo ⟨dl, hDL⟩ hQZ (hM.same3 rfl) hE⟩
      · skip
        have hnp9 : 0 < σ 0 0 + 1 := by omega
        refine lv_iload hx hb dL_isDone_213 (lv_at hl 2 rfl) ?_
        refine lv_aload hx hb dL_isDone_215 (lv_at hl 10 rfl) ?_
        refine lv_iconst (v := nI 4) hx hb dL_isDone_217 (by decide) ?_
        refine mg_ld (v := σ 0 0) hx hb hK (mcl hP) (by omega) hM.g4 dL_isDone_218 ?_
        refine lv_iconst (v := nI 1) hx hb dL_isDone_219 (by decide) ?_
        refine ln_iadd hx hb dL_isDone_220 (fun z220 hz220 => ?_)
        refine ln_irem hx hb (by omega) (by omega) (by omega) dL_isDone_221 (fun z221 hz221 => ?_)
        have hz221b : z221 < z220 := by rw [hz221]; exact Nat.mod_lt _ (by omega)
        refine lv_istore (lv' := [(11, .int (nI z221)), (10, .int (nI w40)), (9, .int (nI w28)), (8, .int (nI w16)), (7, .int (nI w4)), (0, .ref ((ad 0 0))), (1, .ref b), (2, .int (nI at0)), (3, .ref ap), (4, .ref ah), (5, .ref ab), (6, .ref ag)]) hx hb dL_isDone_222 hl (by decide) rfl (fun ls hl => ?_)
        have K242 : ∀ (many : Nat), (many ≤ 21) → ∀ (H : Heap) (locs : List Loc), va_P D vwCl (MC cy ap ah ab ag pf hf bf gf ei ++ WG ad cy (σ 0 0) (σ 0 3) σ er ofd de bo ql qs tv) H → va_D A (MC cy ap ah ab ag pf hf bf gf ei ++ WG ad cy (σ 0 0) (σ 0 3) σ er ofd de bo ql qs tv) → va_S A H0 H locs → ∀ ls : Array Slot, lv_has ls 14 [(0, .ref ((ad 0 0))), (1, .ref b), (2, .int (nI at0)), (3, .ref ap), (4, .ref ah), (5, .ref ab), (6, .ref ag), (7, .int (nI w4)), (8, .int (nI w16)), (9, .int (nI w28)), (10, .int (nI w40)), (11, .int (nI z221))] → W p l e rmL_isDone s m args below meth c H locs 0 0 Q (F0 m 242 ls [.int (nI many)]) := by
          intro many hmany H locs hP hD hS ls hl
          refine lv_istore (lv' := [(12, .int (nI many)), (0, .ref ((ad 0 0))), (1, .ref b), (2, .int (nI at0)), (3, .ref ap), (4, .ref ah), (5, .ref ab), (6, .ref ag), (7, .int (nI w4)), (8, .int (nI w16)), (9, .int (nI w28)), (10, .int (nI w40)), (11, .int (nI z221))]) hx hb dL_isDone_242 hl (by decide) rfl (fun ls hl => ?_)
          refine lv_iload hx hb dL_isDone_244 (lv_at hl 12 rfl) ?_
          refine lv_aload hx hb dL_isDone_246 (lv_at hl 7 rfl) ?_
          refine lv_iconst (v := nI 4) hx hb dL_isDone_248 (by decide) ?_
          refine mg_ld (v := σ 0 0) hx hb hK (mcl hP) (by omega) hM.g4 dL_isDone_249 ?_
          refine ln_icmp_ne (tgt := 258) hx hb (by omega) (by omega) dL_isDone_250 (by decide) (fun c250 => ?_) (fun c250 => ?_)
          · skip
            have hk : z221 < σ 0 0 := by omega
            have hpk := hI.pr z221 hk
            refine lv_iload hx hb dL_isDone_258 (lv_at hl 0 rfl) ?_
            refine lv_bipush (v := nI 20) hx hb dL_isDone_260 (by decide) ?_
            refine ln_icmp_le (tgt := 270) hx hb (by omega) (by omega) dL_isDone_262 (by decide) (fun c262 => ?_) (fun c262 => ?_)
            · skip
              refine lv_aload_n hx hb dL_isDone_270 rfl (lv_at hl 4 rfl) ?_
              refine lv_bipush (v := nI 6) hx hb dL_isDone_271 (by decide) ?_
              refine lv_iload hx hb dL_isDone_273 (lv_at hl 12 rfl) ?_
              refine ln_imul hx hb dL_isDone_275 (fun z275 hz275 => ?_)
              refine lv_iconst (v := nI 3) hx hb dL_isDone_276 (by decide) ?_
              refine ln_iadd hx hb dL_isDone_277 (fun z277 hz277 => ?_)
              refine mp_ld (v := σ 6 z221) hx hb hK (mcl hP) (by omega) (hM.p3 hk (by omega)) dL_isDone_278 ?_
              refine lv_istore (lv' := [(13, .int (nI (σ 6 z221))), (12, .int (nI many)), (0, .ref ((ad 0 0))), (1, .ref b), (2, .int (nI at0)), (3, .ref ap), (4, .ref ah), (5, .ref ab), (6, .ref ag), (7, .int (nI w4)), (8, .int (nI w16)), (9, .int (nI w28)), (10, .int (nI w40)), (11, .int (nI z221))]) hx hb dL_isDone_279 hl (by decide) rfl (fun ls hl => ?_)
              refine lv_iload hx hb dL_isDone_281 (lv_at hl 0 rfl) ?_
              refine ln_if_lt (tgt := 297) hx hb (by omega) dL_isDone_283 (by decide) ?_
              refine lv_aload_n hx hb dL_isDone_286 rfl (lv_at hl 5 rfl) ?_
              refine lv_bipush (v := nI 6) hx hb dL_isDone_287 (by decide) ?_
              refine lv_iload hx hb dL_isDone_289 (lv_at hl 13 rfl) ?_
              refine ln_imul hx hb dL_isDone_291 (fun z291 hz291 => ?_)
              refine lv_iconst (v := nI 3) hx hb dL_isDone_292 (by decide) ?_
              refine ln_iadd hx hb dL_isDone_293 (fun z293 hz293 => ?_)
              refine lv_iload hx hb dL_isDone_294 (lv_at hl 1 rfl) ?_
              refine mp_st hx hb hK hP hD hS (by omega) dL_isDone_296 (fun H locs hP hD hS => ?_)
              refine lv_aload_n hx hb dL_isDone_297 rfl (lv_at hl 2 rfl) ?_
              refine lv_iconst (v := nI 2) hx hb dL_isDone_298 (by decide) ?_
              refine lv_iload hx hb dL_isDone_299 (lv_at hl 13 rfl) ?_
              refine lv_iload hx hb dL_isDone_301 (lv_at hl 1 rfl) ?_
              refine lv_iconst (v := nI 0) hx hb dL_isDone_303 (by decide) ?_
              refine lv_iconst (v := nI 0) hx hb dL_isDone_304 (by decide) ?_
              refine ap_calli (vx_runSW (As := [.ref ((ad 0 0)), .int (nI 2), .int (nI z221), .int (nI many), .int (nI 0), .int (nI 0)]) (rest := []) ⟨hx, hb, hml, hown, hts⟩ (c_L_does_2 l hfl D cy ad σ er ofd de bo ql qs tv hof hI ((nI z221)) ((nI many)) ((nI 0)) ((nI 0)) H.size) (vx_cwSW 6 hts gL_isDone_L_does rfl rfl rfl hdL_does.2 ⟨Nat.le_of_ble_eq_true rfl, Nat.le_of_ble_eq_true rfl⟩) (xo_preS hK rfl (mcr hP) (hD.subl (List.sublist_append_right _ _)) hXW (hXZ.at hS hD hA (fun _ hq => List.mem_append_right _ hq))) rfl rfl hl.1 rfl (lv_room (Nat.le_of_ble_eq_true rfl)) dL_isDone_305 ⟨(by show 0 + 2 ≤ 8; omega), (by show 0 + 28 ≤ 80; omega)⟩) hS hP hD hA (fun z305 u305 H locs hz305 hP hD hS => ?_)
              obtain ⟨t305, rfl, -, -, hz305⟩ := pD_ok hz305 (fun E h => by rcases h with ⟨h1, -⟩ | ⟨-, h1, -⟩; exact h1 (isP_i hk); exact h1 (okR_i (by omega) (by omega) (by omega)))
              rw [cN_nI (by omega)] at hz305
              subst hz305
              have ec : exF σ (cN (nI z221)) (cN (nI many)) = exF σ z221 many := by rw [cN_nI (by omega), cN_nI (by omega)]
              have hP : va_P D vwCl (MC cy ap ah ab ag (va_up pf z293 many) hf bf gf ei ++ WG ad cy (σ 0 0) (σ 0 3) (exF σ (cN (nI z221)) (cN (nI many))) er ofd de bo ql qs tv) H := hP
              have hD : va_D A (MC cy ap ah ab ag (va_up pf z293 many) hf bf gf ei ++ WG ad cy (σ 0 0) (σ 0 3) (exF σ (cN (nI z221)) (cN (nI many))) er ofd de bo ql qs tv) := hD
              rw [ec] at hP hD
              refine lv_iload hx hb dL_isDone_308 (lv_at hl 0 rfl) ?_
              refine lv_icmp_ne (tgt := 317) hx hb dL_isDone_310 (by decide) (fun c310 => absurd rfl c310) (fun c310 => ?_)
              refine lv_iconst (v := nI 1) hx hb dL_isDone_313 (by decide) ?_
              refine lv_goto (tgt := 318) hx hb dL_isDone_314 (by decide) ?_
              refine W.widen (k := 8) (n := 80) (by omega) (by omega) ?_
              exact hret (ad, exF σ z221 many, er, ofd, de, bo, ql, qs, tv, va_up pf z293 many, hf, bf, gf, ei) dL_isDone_318 hP hD hS ⟨rfl, LJ.mk rfl (hI.exps hn hk (by omega)) (hof.c rfl rfl) (hbo.c rfl (Nat.le_refl _)) ⟨dl, hDL.c rfl rfl rfl⟩ hQZ ((by rw [hz293, hz291]; exact hM.exps)) hE⟩
            · skip
              refine lv_bipush (v := -20) hx hb dL_isDone_265 (by decide) ?_
              refine lv_goto (tgt := 279) hx hb dL_isDone_267 (by decide) ?_
              refine lv_istore (lv' := [(13, .int ((-20))), (12, .int (nI many)), (0, .ref ((ad 0 0))), (1, .ref b), (2, .int (nI at0)), (3, .ref ap), (4, .ref ah), (5, .ref ab), (6, .ref ag), (7, .int (nI w4)), (8, .int (nI w16)), (9, .int (nI w28)), (10, .int (nI w40)), (11, .int (nI z221))]) hx hb dL_isDone_279 hl (by decide) rfl (fun ls hl => ?_)
              refine lv_iload hx hb dL_isDone_281 (lv_at hl 0 rfl) ?_
              refine lv_if_lt (tgt := 297) hx hb dL_isDone_283 (by decide) (fun c283 => ?_) (fun c283 => absurd (by decide) c283)
              refine lv_aload_n hx hb dL_isDone_297 rfl (lv_at hl 2 rfl) ?_
              refine lv_iconst (v := nI 2) hx hb dL_isDone_298 (by decide) ?_
              refine lv_iload hx hb dL_isDone_299 (lv_at hl 13 rfl) ?_
              refine lv_iload hx hb dL_isDone_301 (lv_at hl 1 rfl) ?_
              refine lv_iconst (v := nI 0) hx hb dL_isDone_303 (by decide) ?_
              refine lv_iconst (v := nI 0) hx hb dL_isDone_304 (by decide) ?_
              refine ap_calli (vx_runSW (As := [.ref ((ad 0 0)), .int (nI 2), .int (nI z221), .int (nI many), .int (nI 0), .int (nI 0)]) (rest := []) ⟨hx, hb, hml, hown, hts⟩ (c_L_does_2 l hfl D cy ad σ er ofd de bo ql qs tv hof hI ((nI z221)) ((nI many)) ((nI 0)) ((nI 0)) H.size) (vx_cwSW 6 hts gL_isDone_L_does rfl rfl rfl hdL_does.2 ⟨Nat.le_of_ble_eq_true rfl, Nat.le_of_ble_eq_true rfl⟩) (xo_preS hK rfl (mcr hP) (hD.subl (List.sublist_append_right _ _)) hXW (hXZ.at hS hD hA (fun _ hq => List.mem_append_right _ hq))) rfl rfl hl.1 rfl (lv_room (Nat.le_of_ble_eq_true rfl)) dL_isDone_305 ⟨(by show 0 + 2 ≤ 8; omega), (by show 0 + 28 ≤ 80; omega)⟩) hS hP hD hA (fun z305 u305 H locs hz305 hP hD hS => ?_)
              obtain ⟨rfl, rfl⟩ := pD_ia hz305 (fun r t h => okR_no (by omega) (by omega) h.2.1) (fun E h => by rcases h with ⟨h1, -⟩ | ⟨-, -, h⟩; exact absurd (isP_i hk) h1; exact h)
              have hP : va_P D vwCl (MC cy ap ah ab ag pf hf bf gf ei ++ WG ad cy (σ 0 0) (σ 0 3) σ er ofd de bo ql qs tv) H := hP
              have hD : va_D A (MC cy ap ah ab ag pf hf bf gf ei ++ WG ad cy (σ 0 0) (σ 0 3) σ er ofd de bo ql qs tv) := hD
              refine lv_iload hx hb dL_isDone_308 (lv_at hl 0 rfl) ?_
              refine lv_icmp_ne (tgt := 317) hx hb dL_isDone_310 (by decide) (fun c310 => absurd rfl c310) (fun c310 => ?_)
              refine lv_iconst (v := nI 1) hx hb dL_isDone_313 (by decide) ?_
              refine lv_goto (tgt := 318) hx hb dL_isDone_314 (by decide) ?_
              refine W.widen (k := 8) (n := 80) (by omega) (by omega) ?_
              exact hret (ad, σ, er, ofd, de, bo, ql, qs, tv, pf, hf, bf, gf, ei) dL_isDone_318 hP hD hS ⟨rfl, LJ.mk rfl (hI.more hn) hof hbo ⟨dl, hDL⟩ hQZ hM hE⟩
          · skip
            refine lv_bipush (v := -30) hx hb dL_isDone_253 (by decide) ?_
            refine lv_goto (tgt := 279) hx hb dL_isDone_255 (by decide) ?_
            refine lv_istore (lv' := [(13, .int ((-30))), (12, .int (nI many)), (0, .ref ((ad 0 0))), (1, .ref b), (2, .int (nI at0)), (3, .ref ap), (4, .ref ah), (5, .ref ab), (6, .ref ag), (7, .int (nI w4)), (8, .int (nI w16)), (9, .int (nI w28)), (10, .int (nI w40)), (11, .int (nI z221))]) hx hb dL_isDone_279 hl (by decide) rfl (fun ls hl => ?_)
            refine lv_iload hx hb dL_isDone_281 (lv_at hl 0 rfl) ?_
            refine lv_if_lt (tgt := 297) hx hb dL_isDone_283 (by decide) (fun c283 => ?_) (fun c283 => absurd (by decide) c283)
            refine lv_aload_n hx hb dL_isDone_297 rfl (lv_at hl 2 rfl) ?_
            refine lv_iconst (v := nI 2) hx hb dL_isDone_298 (by decide) ?_
            refine lv_iload hx hb dL_isDone_299 (lv_at hl 13 rfl) ?_
            refine lv_iload hx hb dL_isDone_301 (lv_at hl 1 rfl) ?_
            refine lv_iconst (v := nI 0) hx hb dL_isDone_303 (by decide) ?_
            refine lv_iconst (v := nI 0) hx hb dL_isDone_304 (by decide) ?_
            refine ap_calli (vx_runSW (As := [.ref ((ad 0 0)), .int (nI 2), .int (nI z221), .int (nI many), .int (nI 0), .int (nI 0)]) (rest := []) ⟨hx, hb, hml, hown, hts⟩ (c_L_does_2 l hfl D cy ad σ er ofd de bo ql qs tv hof hI ((nI z221)) ((nI many)) ((nI 0)) ((nI 0)) H.size) (vx_cwSW 6 hts gL_isDone_L_does rfl rfl rfl hdL_does.2 ⟨Nat.le_of_ble_eq_true rfl, Nat.le_of_ble_eq_true rfl⟩) (xo_preS hK rfl (mcr hP) (hD.subl (List.sublist_append_right _ _)) hXW (hXZ.at hS hD hA (fun _ hq => List.mem_append_right _ hq))) rfl rfl hl.1 rfl (lv_room (Nat.le_of_ble_eq_true rfl)) dL_isDone_305 ⟨(by show 0 + 2 ≤ 8; omega), (by show 0 + 28 ≤ 80; omega)⟩) hS hP hD hA (fun z305 u305 H locs hz305 hP hD hS => ?_)
            obtain ⟨rfl, rfl⟩ := pD_io hz305 (fun r t h => isP_no (by omega) (by omega) h.1) (fun E h => by rcases h with ⟨-, h⟩ | ⟨h1, -, -⟩; exact h; exact absurd h1 (isP_no (by omega) (by omega)))
            have hP : va_P D vwCl (MC cy ap ah ab ag pf hf bf gf ei ++ WG ad cy (σ 0 0) (σ 0 3) σ er ofd de bo ql qs tv) H := hP
            have hD : va_D A (MC cy ap ah ab ag pf hf bf gf ei ++ WG ad cy (σ 0 0) (σ 0 3) σ er ofd de bo ql qs tv) := hD
            refine lv_iload hx hb dL_isDone_308 (lv_at hl 0 rfl) ?_
            refine lv_icmp_ne (tgt := 317) hx hb dL_isDone_310 (by decide) (fun c310 => absurd rfl c310) (fun c310 => ?_)
            refine lv_iconst (v := nI 1) hx hb dL_isDone_313 (by decide) ?_
            refine lv_goto (tgt := 318) hx hb dL_isDone_314 (by decide) ?_
            refine W.widen (k := 8) (n := 80) (by omega) (by omega) ?_
            exact hret (ad, σ, er, ofd, de, bo, ql, qs, tv, pf, hf, bf, gf, ei) dL_isDone_318 hP hD hS ⟨rfl, LJ.mk rfl (hI.more hn) hof hbo ⟨dl, hDL⟩ hQZ hM hE⟩
        refine lv_iload hx hb dL_isDone_224 (lv_at hl 2 rfl) ?_
        refine lv_bipush (v := nI 30) hx hb dL_isDone_226 (by decide) ?_
        refine ln_irem hx hb (by omega) (by omega) (by omega) dL_isDone_228 (fun z228 hz228 => ?_)
        refine ln_if_ne (tgt := 237) hx hb (by omega) dL_isDone_229 (by decide) (fun c229 => ?_) (fun c229 => ?_)
        · skip
          refine lv_iload hx hb dL_isDone_237 (lv_at hl 2 rfl) ?_
          refine lv_bipush (v := nI 8) hx hb dL_isDone_239 (by decide) ?_
          refine ln_irem hx hb (by omega) (by omega) (by omega) dL_isDone_241 (fun z241 hz241 => ?_)
          exact K242 z241 (by omega) H locs hP hD hS ls (lv_sub hl [5, 6, 7, 8, 9, 10, 11, 4, 3, 2, 1, 0] rfl)
        · skip
          refine lv_bipush (v := nI 21) hx hb dL_isDone_232 (by decide) ?_
          refine lv_goto (tgt := 242) hx hb dL_isDone_234 (by decide) ?_
          exact K242 21 (by omega) H locs hP hD hS ls (lv_sub hl [5, 6, 7, 8, 9, 10, 11, 4, 3, 2, 1, 0] rfl)
    · skip
      refine lv_aload_n hx hb dL_isDone_190 rfl (lv_at hl 4 rfl) ?_
      refine lv_aload_n hx hb dL_isDone_191 rfl (lv_at hl 7 rfl) ?_
      refine lv_aload hx hb dL_isDone_192 (lv_at hl 8 rfl) ?_
      refine lv_aload hx hb dL_isDone_194 (lv_at hl 10 rfl) ?_
      refine lv_iload hx hb dL_isDone_196 (lv_at hl 2 rfl) ?_
      refine lv_iload hx hb dL_isDone_198 (lv_at hl 1 rfl) ?_
      refine lv_iload hx hb dL_isDone_200 (lv_at hl 0 rfl) ?_
      refine mw_calli (va_runS (As := [.ref ((ad 0 0)), .ref ap, .ref ah, .ref ag, .int (nI w16), .int (nI w28), .int (nI w40)]) (rest := []) ⟨hx, hb, hml, hown, hts⟩ (c_L_isProduct l hfl D cy ap ah ab ag pf hf bf gf ei ad σ er ofd de bo ql qs tv hI hof hbo hDL hQZ hM hE w16 w28 w40 (by omega) (by omega) (by omega) hn H.size) (va_cwS 7 hts gL_isDone_L_isProduct rfl rfl rfl hdL_isProduct.2 ⟨Nat.le_of_ble_eq_true rfl, Nat.le_of_ble_eq_true rfl⟩) (xo_preS hK rfl hP hD hXW (hXZ.at hS hD hA (fun _ hq => hq))) rfl rfl hl.1 rfl (lv_room (Nat.le_of_ble_eq_true rfl)) dL_isDone_202 ⟨(by show 0 + 6 ≤ 8; omega), (by show 0 + 60 ≤ 80; omega)⟩) hS hD hA (fun z202 u202 H locs h202 hP hD hS => ?_)
      obtain ⟨rfl, hJ⟩ := h202
      refine W.widen (k := 8) (n := 80) (by omega) (by omega) ?_
      exact hret u202 dL_isDone_205 hP hD hS ⟨rfl, hJ⟩
  · skip
    have K69 : ∀ (se : Nat), (se ≤ 11) → ∀ (H : Heap) (locs : List Loc), va_P D vwCl (MC cy ap ah ab ag pf hf bf gf ei ++ WG ad cy (σ 0 0) (σ 0 3) σ er ofd de bo ql qs tv) H → va_D A (MC cy ap ah ab ag pf hf bf gf ei ++ WG ad cy (σ 0 0) (σ 0 3) σ er ofd de bo ql qs tv) → va_S A H0 H locs → ∀ ls : Array Slot, lv_has ls 14 [(0, .ref ((ad 0 0))), (1, .ref b), (2, .int (nI at0)), (3, .ref ap), (4, .ref ah), (5, .ref ab), (6, .ref ag), (7, .int (nI w4)), (8, .int (nI w16)), (9, .int (nI w28)), (10, .int (nI w40))] → W p l e rmL_isDone s m args below meth c H locs 0 0 Q (F0 m 69 ls [.int (nI se)]) := by
      intro se hse H locs hP hD hS ls hl
      refine lv_istore (lv' := [(11, .int (nI se)), (0, .ref ((ad 0 0))), (1, .ref b), (2, .int (nI at0)), (3, .ref ap), (4, .ref ah), (5, .ref ab), (6, .ref ag), (7, .int (nI w4)), (8, .int (nI w16)), (9, .int (nI w28)), (10, .int (nI w40))]) hx hb dL_isDone_69 hl (by decide) rfl (fun ls hl => ?_)
      have K83 : ∀ (v : Nat), (pV v (se < 11)) → ∀ (H : Heap) (locs : List Loc), va_P D vwCl (MC cy ap ah ab ag pf hf bf gf ei ++ WG ad cy (σ 0 0) (σ 0 3) σ er ofd de bo ql qs tv) H → va_D A (MC cy ap ah ab ag pf hf bf gf ei ++ WG ad cy (σ 0 0) (σ 0 3) σ er ofd de bo ql qs tv) → va_S A H0 H locs → ∀ ls : Array Slot, lv_has ls 14 [(0, .ref ((ad 0 0))), (1, .ref b), (2, .int (nI at0)), (3, .ref ap), (4, .ref ah), (5, .ref ab), (6, .ref ag), (7, .int (nI w4)), (8, .int (nI w16)), (9, .int (nI w28)), (10, .int (nI w40)), (11, .int (nI se))] → W p l e rmL_isDone s m args below meth c H locs 0 0 Q (F0 m 83 ls [.int (nI v)]) := by
        intro v hv H locs hP hD hS ls hl
        have hvl := hv.le
        refine lv_istore (lv' := [(12, .int (nI v)), (0, .ref ((ad 0 0))), (1, .ref b), (2, .int (nI at0)), (3, .ref ap), (4, .ref ah), (5, .ref ab), (6, .ref ag), (7, .int (nI w4)), (8, .int (nI w16)), (9, .int (nI w28)), (10, .int (nI w40)), (11, .int (nI se))]) hx hb dL_isDone_83 hl (by decide) rfl (fun ls hl => ?_)
        refine lv_aload hx hb dL_isDone_85 (lv_at hl 7 rfl) ?_
        refine lv_iconst (v := nI 0) hx hb dL_isDone_87 (by decide) ?_
        refine lv_iload hx hb dL_isDone_88 (lv_at hl 0 rfl) ?_
        refine ln_if_eq (tgt := 101) hx hb (by omega) dL_isDone_90 (by decide) (fun c90 => ?_) (fun c90 => ?_)
        · skip
          refine lv_aload hx hb dL_isDone_101 (lv_at hl 7 rfl) ?_
          refine lv_iconst (v := nI 0) hx hb dL_isDone_103 (by decide) ?_
          refine mg_ld (v := σ 1 0) hx hb hK (mcl hP) (by omega) (hM.g0 (by omega)) dL_isDone_104 ?_
          refine mg_st hx hb hK hP hD hS (by omega) dL_isDone_105 (fun H locs hP hD hS => ?_)
          refine lv_aload hx hb dL_isDone_106 (lv_at hl 7 rfl) ?_
          refine lv_iconst (v := nI 1) hx hb dL_isDone_108 (by decide) ?_
          refine lv_iload hx hb dL_isDone_109 (lv_at hl 0 rfl) ?_
          refine ln_if_eq (tgt := 122) hx hb (by omega) dL_isDone_111 (by decide) (fun _ => ?_) (fun q => absurd c90 q)
          refine lv_aload hx hb dL_isDone_122 (lv_at hl 7 rfl) ?_
          refine lv_iconst (v := nI 1) hx hb dL_isDone_124 (by decide) ?_
          refine mg_ld (v := σ 1 1) hx hb hK (mcl hP) (by omega) (by rw [va_ne (by omega)]; exact hM.g0 (by omega)) dL_isDone_125 ?_
          refine mg_st hx hb hK hP hD hS (by omega) dL_isDone_126 (fun H locs hP hD hS => ?_)
          refine lv_aload hx hb dL_isDone_127 (lv_at hl 7 rfl) ?_
          refine lv_iconst (v := nI 2) hx hb dL_isDone_129 (by decide) ?_
          refine lv_iload hx hb dL_isDone_130 (lv_at hl 0 rfl) ?_
          refine ln_if_eq (tgt := 140) hx hb (by omega) dL_isDone_132 (by decide) (fun _ => ?_) (fun q => absurd c90 q)
          refine lv_aload hx hb dL_isDone_140 (lv_at hl 7 rfl) ?_
          refine lv_iconst (v := nI 2) hx hb dL_isDone_142 (by decide) ?_
          refine mg_ld (v := σ 1 2) hx hb hK (mcl hP) (by omega) (by rw [va_ne (by omega)]; rw [va_ne (by omega)]; exact hM.g0 (by omega)) dL_isDone_143 ?_
          refine mg_st hx hb hK hP hD hS (by omega) dL_isDone_144 (fun H locs hP hD hS => ?_)
          refine lv_aload_n hx hb dL_isDone_145 rfl (lv_at hl 1 rfl) ?_
          refine lv_iconst (v := nI 0) hx hb dL_isDone_146 (by decide) ?_
          refine lv_iload hx hb dL_isDone_147 (lv_at hl 9 rfl) ?_
          refine lv_bipush (v := nI 7) hx hb dL_isDone_149 (by decide) ?_
          refine ln_irem hx hb (by omega) (by omega) (by omega) dL_isDone_151 (fun z151 hz151 => ?_)
          refine lv_iload hx hb dL_isDone_152 (lv_at hl 10 rfl) ?_
          refine lv_bipush (v := nI 8) hx hb dL_isDone_154 (by decide) ?_
          refine ln_irem hx hb (by omega) (by omega) (by omega) dL_isDone_156 (fun z156 hz156 => ?_)
          refine lv_iload hx hb dL_isDone_157 (lv_at hl 12 rfl) ?_
          refine lv_iconst (v := nI 0) hx hb dL_isDone_159 (by decide) ?_
          refine ap_calli (vx_runSW (As := [.ref ((ad 0 0)), .int (nI 0), .int (nI z151), .int (nI z156), .int (nI se), .int (nI 0)]) (rest := []) ⟨hx, hb, hml, hown, hts⟩ (c_L_does_0 l hfl D cy ad σ er ofd de bo ql qs tv ((nI z151)) ((nI z156)) ((nI se)) ((nI 0)) H.size) (vx_cwSW 6 hts gL_isDone_L_does rfl rfl rfl hdL_does.2 ⟨Nat.le_of_ble_eq_true rfl, Nat.le_of_ble_eq_true rfl⟩) (xo_preS hK rfl (mcr hP) (hD.subl (List.sublist_append_right _ _)) hXW (hXZ.at hS hD hA (fun _ hq => List.mem_append_right _ hq))) rfl rfl hl.1 rfl (lv_room (Nat.le_of_ble_eq_true rfl)) dL_isDone_160 ⟨(by show 0 + 2 ≤ 8; omega), (by show 0 + 28 ≤ 80; omega)⟩) hS hP hD hA (fun z160 u160 H locs hz160 hP hD hS => ?_)
          have hs11 : ¬ se < 11 := hv.no c90
          obtain ⟨rfl, rfl⟩ := pD_ia hz160 (fun r t h => okR_no (by omega) (by omega) h.1.2.2) (fun E h => h.2)
          have hP : va_P D vwCl (MC cy ap ah ab ag pf hf bf (va_up (va_up (va_up gf 0 (σ 1 0)) 1 (σ 1 1)) 2 (σ 1 2)) ei ++ WG ad cy (σ 0 0) (σ 0 3) σ er ofd de bo ql qs tv) H := hP
          have hD : va_D A (MC cy ap ah ab ag pf hf bf (va_up (va_up (va_up gf 0 (σ 1 0)) 1 (σ 1 1)) 2 (σ 1 2)) ei ++ WG ad cy (σ 0 0) (σ 0 3) σ er ofd de bo ql qs tv) := hD
          refine lv_iload hx hb dL_isDone_163 (lv_at hl 0 rfl) ?_
          refine ln_if_eq (tgt := 172) hx hb (by omega) dL_isDone_165 (by decide) (fun _ => ?_) (fun q => absurd c90 q)
          refine lv_bipush (v := -20) hx hb dL_isDone_172 (by decide) ?_
          refine lv_icmp_ne (tgt := 181) hx hb dL_isDone_174 (by decide) (fun c174 => absurd rfl c174) (fun c174 => ?_)
          refine lv_iconst (v := nI 1) hx hb dL_isDone_177 (by decide) ?_
          refine lv_goto (tgt := 182) hx hb dL_isDone_178 (by decide) ?_
          refine W.widen (k := 8) (n := 80) (by omega) (by omega) ?_
          exact hret (ad, σ, er, ofd, de, bo, ql, qs, tv, pf, hf, bf, va_up (va_up (va_up gf 0 (σ 1 0)) 1 (σ 1 1)) 2 (σ 1 2), ei) dL_isDone_182 hP hD hS ⟨rfl, LJ.mk rfl (hI.more hn) hof hbo ⟨dl, hDL⟩ hQZ (((hM.same0 (by omega) rfl).same0 (by omega) rfl).same0 (by omega) rfl) hE⟩
        · skip
          refine lv_iload hx hb dL_isDone_93 (lv_at hl 9 rfl) ?_
          refine lv_bipush (v := nI 7) hx hb dL_isDone_95 (by decide) ?_
          refine ln_irem hx hb (by omega) (by omega) (by omega) dL_isDone_97 (fun z97 hz97 => ?_)
          refine lv_goto (tgt := 105) hx hb dL_isDone_98 (by decide) ?_
          refine mg_st hx hb hK hP hD hS (by omega) dL_isDone_105 (fun H locs hP hD hS => ?_)
          refine lv_aload hx hb dL_isDone_106 (lv_at hl 7 rfl) ?_
          refine lv_iconst (v := nI 1) hx hb dL_isDone_108 (by decide) ?_
          refine lv_iload hx hb dL_isDone_109 (lv_at hl 0 rfl) ?_
          refine ln_if_eq (tgt := 122) hx hb (by omega) dL_isDone_111 (by decide) (fun q => absurd q c90) (fun _ => ?_)
          refine lv_iload hx hb dL_isDone_114 (lv_at hl 10 rfl) ?_
          refine lv_bipush (v := nI 8) hx hb dL_isDone_116 (by decide) ?_
          refine ln_irem hx hb (by omega) (by omega) (by omega) dL_isDone_118 (fun z118 hz118 => ?_)
          refine lv_goto (tgt := 126) hx hb dL_isDone_119 (by decide) ?_
          refine mg_st hx hb hK hP hD hS (by omega) dL_isDone_126 (fun H locs hP hD hS => ?_)
          refine lv_aload hx hb dL_isDone_127 (lv_at hl 7 rfl) ?_
          refine lv_iconst (v := nI 2) hx hb dL_isDone_129 (by decide) ?_
          refine lv_iload hx hb dL_isDone_130 (lv_at hl 0 rfl) ?_
          refine ln_if_eq (tgt := 140) hx hb (by omega) dL_isDone_132 (by decide) (fun q => absurd q c90) (fun _ => ?_)
          refine lv_iload hx hb dL_isDone_135 (lv_at hl 12 rfl) ?_
          refine lv_goto (tgt := 144) hx hb dL_isDone_137 (by decide) ?_
          refine mg_st hx hb hK hP hD hS (by omega) dL_isDone_144 (fun H locs hP hD hS => ?_)
          refine lv_aload_n hx hb dL_isDone_145 rfl (lv_at hl 1 rfl) ?_
          refine lv_iconst (v := nI 0) hx hb dL_isDone_146 (by decide) ?_
          refine lv_iload hx hb dL_isDone_147 (lv_at hl 9 rfl) ?_
          refine lv_bipush (v := nI 7) hx hb dL_isDone_149 (by decide) ?_
          refine ln_irem hx hb (by omega) (by omega) (by omega) dL_isDone_151 (fun z151 hz151 => ?_)
          refine lv_iload hx hb dL_isDone_152 (lv_at hl 10 rfl) ?_
          refine lv_bipush (v := nI 8) hx hb dL_isDone_154 (by decide) ?_
          refine ln_irem hx hb (by omega) (by omega) (by omega) dL_isDone_156 (fun z156 hz156 => ?_)
          refine lv_iload hx hb dL_isDone_157 (lv_at hl 12 rfl) ?_
          refine lv_iconst (v := nI 0) hx hb dL_isDone_159 (by decide) ?_
          refine ap_calli (vx_runSW (As := [.ref ((ad 0 0)), .int (nI 0), .int (nI z151), .int (nI z156), .int (nI se), .int (nI 0)]) (rest := []) ⟨hx, hb, hml, hown, hts⟩ (c_L_does_0 l hfl D cy ad σ er ofd de bo ql qs tv ((nI z151)) ((nI z156)) ((nI se)) ((nI 0)) H.size) (vx_cwSW 6 hts gL_isDone_L_does rfl rfl rfl hdL_does.2 ⟨Nat.le_of_ble_eq_true rfl, Nat.le_of_ble_eq_true rfl⟩) (xo_preS hK rfl (mcr hP) (hD.subl (List.sublist_append_right _ _)) hXW (hXZ.at hS hD hA (fun _ hq => List.mem_append_right _ hq))) rfl rfl hl.1 rfl (lv_room (Nat.le_of_ble_eq_true rfl)) dL_isDone_160 ⟨(by show 0 + 2 ≤ 8; omega), (by show 0 + 28 ≤ 80; omega)⟩) hS hP hD hA (fun z160 u160 H locs hz160 hP hD hS => ?_)
          have hs11 := hv.yes c90
          obtain ⟨t160, rfl, -, hz160⟩ := pD_ok hz160 (fun E h => h.1 ⟨okR_i (by omega) (by omega) (by omega), okR_i (by omega) (by omega) (by omega), okR_i (by omega) (by omega) (by omega)⟩)
          subst hz160
          have ec : seF σ (cN (nI z151)) (cN (nI z156)) (cN (nI se)) = seF σ z151 z156 se := by rw [cN_nI (by omega), cN_nI (by omega), cN_nI (by omega)]
          have hP : va_P D vwCl (MC cy ap ah ab ag pf hf bf (va_up (va_up (va_up gf 0 z97) 1 z118) 2 se) ei ++ WG ad cy (σ 0 0) (σ 0 3) (seF σ (cN (nI z151)) (cN (nI z156)) (cN (nI se))) er ofd de bo ql qs tv) H := hP
          have hD : va_D A (MC cy ap ah ab ag pf hf bf (va_up (va_up (va_up gf 0 z97) 1 z118) 2 se) ei ++ WG ad cy (σ 0 0) (σ 0 3) (seF σ (cN (nI z151)) (cN (nI z156)) (cN (nI se))) er ofd de bo ql qs tv) := hD
          rw [ec] at hP hD
          refine lv_iload hx hb dL_isDone_163 (lv_at hl 0 rfl) ?_
          refine ln_if_eq (tgt := 172) hx hb (by omega) dL_isDone_165 (by decide) (fun q => absurd q c90) (fun _ => ?_)
          refine lv_iconst (v := nI 0) hx hb dL_isDone_168 (by decide) ?_
          refine lv_goto (tgt := 174) hx hb dL_isDone_169 (by decide) ?_
          refine lv_icmp_ne (tgt := 181) hx hb dL_isDone_174 (by decide) (fun q => by first | exact absurd q (by decide) | exact absurd (by decide) q) (fun _ => ?_)
          refine lv_iconst (v := nI 1) hx hb dL_isDone_177 (by decide) ?_
          refine lv_goto (tgt := 182) hx hb dL_isDone_178 (by decide) ?_
          refine W.widen (k := 8) (n := 80) (by omega) (by omega) ?_
          exact hret (ad, seF σ z151 z156 se, er, ofd, de, bo, ql, qs, tv, pf, hf, bf, va_up (va_up (va_up gf 0 z97) 1 z118) 2 se, ei) dL_isDone_182 hP hD hS ⟨rfl, LJ.mk rfl (hI.seats hn (by omega) (by omega) (by omega)) (hof.c rfl rfl) (hbo.c rfl (Nat.le_refl _)) ⟨dl, hDL.c rfl rfl rfl⟩ hQZ ((by rw [hz97, hz118, hz151, hz156]; exact hM.seats _ _ _)) hE⟩
      refine lv_iload hx hb dL_isDone_71 (lv_at hl 0 rfl) ?_
      refine lv_bipush (v := nI 11) hx hb dL_isDone_73 (by decide) ?_
      refine ln_icmp_ge (tgt := 82) hx hb (by omega) (by omega) dL_isDone_75 (by decide) (fun c75 => ?_) (fun c75 => ?_)
      · skip
        refine lv_iconst (v := nI 0) hx hb dL_isDone_82 (by decide) ?_
        exact K83 0 (pV.f (by omega)) H locs hP hD hS ls (lv_sub hl [1, 2, 3, 4, 5, 6, 7, 8, 9, 10, 11, 0] rfl)
      · skip
        refine lv_iconst (v := nI 1) hx hb dL_isDone_78 (by decide) ?_
        refine lv_goto (tgt := 83) hx hb dL_isDone_79 (by decide) ?_
        exact K83 1 (pV.t (by omega)) H locs hP hD hS ls (lv_sub hl [1, 2, 3, 4, 5, 6, 7, 8, 9, 10, 11, 0] rfl)
    refine lv_iload hx hb dL_isDone_51 (lv_at hl 0 rfl) ?_
    refine lv_bipush (v := nI 25) hx hb dL_isDone_53 (by decide) ?_
    refine ln_irem hx hb (by omega) (by omega) (by omega) dL_isDone_55 (fun z55 hz55 => ?_)
    refine ln_if_ne (tgt := 64) hx hb (by omega) dL_isDone_56 (by decide) (fun c56 => ?_) (fun c56 => ?_)
    · skip
      refine lv_iload hx hb dL_isDone_64 (lv_at hl 0 rfl) ?_
      refine lv_bipush (v := nI 7) hx hb dL_isDone_66 (by decide) ?_
      refine ln_irem hx hb (by omega) (by omega) (by omega) dL_isDone_68 (fun z68 hz68 => ?_)
      exact K69 z68 (by omega) H locs hP hD hS ls (lv_sub hl [4, 5, 6, 7, 8, 9, 10, 3, 2, 1, 0] rfl)
    · skip
      refine lv_bipush (v := nI 11) hx hb dL_isDone_59 (by decide) ?_
      refine lv_goto (tgt := 69) hx hb dL_isDone_61 (by decide) ?_
      exact K69 11 (by omega) H locs hP hD hS ls (lv_sub hl [4, 5, 6, 7, 8, 9, 10, 3, 2, 1, 0] rfl)
