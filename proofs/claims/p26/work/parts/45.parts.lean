set_option maxHeartbeats 4000000 in
set_option maxRecDepth 100000 in
theorem c_L_isProduct (l : Launch) (hfl : l.stackTraces = false) (D : va_G) (cy : Nat → ClassId) (ap ah ab ag : Nat) (pf hf bf gf : Nat → Nat) (ei : Int32) (ad : Nat → Nat → Nat) (σ : SF) (er : Int64) (ofd de bo : Nat → Option Nat) (ql : Nat → Nat) (qs : Nat → Nat → Nat) (tv : Nat → Nat) {n : Nat} (hI : Iv n σ) (hof : OF ad σ ofd) (hbo : BO ad σ bo) {dl : List Nat} (hDL : DL ad σ de dl) (hQZ : QZ qs) (hM : MR σ pf hf bf gf) (hE : EM σ er ei) (one two three : Nat) (h1 : one < 6000) (h2 : two < 7000) (h3 : three < 8000) (hn : n < 512) : cLI l D cy yL_isProduct wsL_isProduct rmL_isProduct [.ref ((ad 0 0)), .ref ap, .ref ah, .ref ag, .int (nI one), .int (nI two), .int (nI three)] (MC cy ap ah ab ag pf hf bf gf ei ++ WG ad cy (σ 0 0) (σ 0 3) σ er ofd de bo ql qs tv) (T := STt) (wS cy ap ah ab ag) (fun r u => r = nI 1 ∧ LJ (n + 1) (ad 0 0) u) 6 60 := by
  refine cLI.ofN (cc := cL_isProduct) (maxL := 16) (by decide) rfl (Nat.le_of_ble_eq_true rfl) (fun v u h => z_one h.1) ?_
  intro p e s m args below meth c H0 A Q hx hb hml hown hts hP hK hD hS hA hXW hXZ hAe hH0e hret ls hl
  obtain ⟨H, locs, hH, hlo⟩ : ∃ (H : Heap) (locs : List Loc), H = H0 ∧ locs = [] := ⟨_, _, rfl, rfl⟩
  rw [← hH] at hP
  rw [show va_S A H0 H0 [] = va_S A H0 H locs by rw [hH, hlo]] at hS
  rw [show W p l e rmL_isProduct s m args below meth c H0 [] 0 0 Q (F0 m 0 ls []) = W p l e rmL_isProduct s m args below meth c H locs 0 0 Q (F0 m 0 ls []) by rw [hH, hlo]]
  have hnp := hM.np
  refine lv_iload hx hb dL_isProduct_0 (lv_at hl 4 rfl) ?_
  refine lv_iconst (v := nI 4) hx hb dL_isProduct_2 (by decide) ?_
  refine ln_irem hx hb (by omega) (by omega) (by omega) dL_isProduct_3 (fun z3 hz3 => ?_)
  refine lv_istore (lv' := [(7, .int (nI z3)), (0, .ref ((ad 0 0))), (1, .ref ap), (2, .ref ah), (3, .ref ag), (4, .int (nI one)), (5, .int (nI two)), (6, .int (nI three))]) hx hb dL_isProduct_4 hl (by decide) rfl (fun ls hl => ?_)
  refine lv_iload hx hb dL_isProduct_6 (lv_at hl 6 rfl) ?_
  refine lv_iconst (v := nI 4) hx hb dL_isProduct_8 (by decide) ?_
  refine ln_irem hx hb (by omega) (by omega) (by omega) dL_isProduct_9 (fun z9 hz9 => ?_)
  refine lv_istore (lv' := [(8, .int (nI z9)), (7, .int (nI z3)), (0, .ref ((ad 0 0))), (1, .ref ap), (2, .ref ah), (3, .ref ag), (4, .int (nI one)), (5, .int (nI two)), (6, .int (nI three))]) hx hb dL_isProduct_10 hl (by decide) rfl (fun ls hl => ?_)
  have K36 : ∀ (fare : Nat), (1 ≤ fare ∧ fare ≤ 1001) → ∀ (H : Heap) (locs : List Loc), va_P D vwCl (MC cy ap ah ab ag pf hf bf gf ei ++ WG ad cy (σ 0 0) (σ 0 3) σ er ofd de bo ql qs tv) H → va_D A (MC cy ap ah ab ag pf hf bf gf ei ++ WG ad cy (σ 0 0) (σ 0 3) σ er ofd de bo ql qs tv) → va_S A H0 H locs → ∀ ls : Array Slot, lv_has ls 16 [(0, .ref ((ad 0 0))), (1, .ref ap), (2, .ref ah), (3, .ref ag), (4, .int (nI one)), (5, .int (nI two)), (6, .int (nI three)), (7, .int (nI z3)), (8, .int (nI z9))] → W p l e rmL_isProduct s m args below meth c H locs 0 0 Q (F0 m 36 ls [.int (nI fare)]) := by
    intro fare hfa H locs hP hD hS ls hl
    refine lv_istore (lv' := [(9, .int (nI fare)), (0, .ref ((ad 0 0))), (1, .ref ap), (2, .ref ah), (3, .ref ag), (4, .int (nI one)), (5, .int (nI two)), (6, .int (nI three)), (7, .int (nI z3)), (8, .int (nI z9))]) hx hb dL_isProduct_36 hl (by decide) rfl (fun ls hl => ?_)
    have K55 : ∀ (v : Nat), (pV v (z3 < 3 ∧ z9 < 3)) → ∀ (H : Heap) (locs : List Loc), va_P D vwCl (MC cy ap ah ab ag pf hf bf gf ei ++ WG ad cy (σ 0 0) (σ 0 3) σ er ofd de bo ql qs tv) H → va_D A (MC cy ap ah ab ag pf hf bf gf ei ++ WG ad cy (σ 0 0) (σ 0 3) σ er ofd de bo ql qs tv) → va_S A H0 H locs → ∀ ls : Array Slot, lv_has ls 16 [(0, .ref ((ad 0 0))), (1, .ref ap), (2, .ref ah), (3, .ref ag), (4, .int (nI one)), (5, .int (nI two)), (6, .int (nI three)), (7, .int (nI z3)), (8, .int (nI z9)), (9, .int (nI fare))] → W p l e rmL_isProduct s m args below meth c H locs 0 0 Q (F0 m 55 ls [.int (nI v)]) := by
      intro v hv H locs hP hD hS ls hl
      have hvl := hv.le
      refine lv_istore (lv' := [(10, .int (nI v)), (0, .ref ((ad 0 0))), (1, .ref ap), (2, .ref ah), (3, .ref ag), (4, .int (nI one)), (5, .int (nI two)), (6, .int (nI three)), (7, .int (nI z3)), (8, .int (nI z9)), (9, .int (nI fare))]) hx hb dL_isProduct_55 hl (by decide) rfl (fun ls hl => ?_)
      have K77 : ∀ (v2 : Nat), (pV v2 (z3 ≤ z9 ∧ fare < 1001)) → ∀ (H : Heap) (locs : List Loc), va_P D vwCl (MC cy ap ah ab ag pf hf bf gf ei ++ WG ad cy (σ 0 0) (σ 0 3) σ er ofd de bo ql qs tv) H → va_D A (MC cy ap ah ab ag pf hf bf gf ei ++ WG ad cy (σ 0 0) (σ 0 3) σ er ofd de bo ql qs tv) → va_S A H0 H locs → ∀ ls : Array Slot, lv_has ls 16 [(0, .ref ((ad 0 0))), (1, .ref ap), (2, .ref ah), (3, .ref ag), (4, .int (nI one)), (5, .int (nI two)), (6, .int (nI three)), (7, .int (nI z3)), (8, .int (nI z9)), (9, .int (nI fare)), (10, .int (nI v))] → W p l e rmL_isProduct s m args below meth c H locs 0 0 Q (F0 m 77 ls [.int (nI v2)]) := by
        intro v2 hv2 H locs hP hD hS ls hl
        have hv2l := hv2.le
        refine lv_istore (lv' := [(11, .int (nI v2)), (0, .ref ((ad 0 0))), (1, .ref ap), (2, .ref ah), (3, .ref ag), (4, .int (nI one)), (5, .int (nI two)), (6, .int (nI three)), (7, .int (nI z3)), (8, .int (nI z9)), (9, .int (nI fare)), (10, .int (nI v))]) hx hb dL_isProduct_77 hl (by decide) rfl (fun ls hl => ?_)
        refine lv_iconst (v := nI 0) hx hb dL_isProduct_79 (by decide) ?_
        refine lv_istore (lv' := [(12, .int (nI 0)), (11, .int (nI v2)), (0, .ref ((ad 0 0))), (1, .ref ap), (2, .ref ah), (3, .ref ag), (4, .int (nI one)), (5, .int (nI two)), (6, .int (nI three)), (7, .int (nI z3)), (8, .int (nI z9)), (9, .int (nI fare)), (10, .int (nI v))]) hx hb dL_isProduct_80 hl (by decide) rfl (fun ls hl => ?_)
        refine lv_iconst (v := nI 0) hx hb dL_isProduct_82 (by decide) ?_
        have K85 : ∀ (n85 : Nat) (k : Nat) (sm : Nat), σ 0 0 - k < n85 → (k ≤ σ 0 0) → (pV sm (∃ i, i < k ∧ σ 3 i = z3 ∧ σ 4 i = z9 ∧ σ 5 i = fare)) → ∀ (H : Heap) (locs : List Loc), va_P D vwCl (MC cy ap ah ab ag pf hf bf gf ei ++ WG ad cy (σ 0 0) (σ 0 3) σ er ofd de bo ql qs tv) H → va_D A (MC cy ap ah ab ag pf hf bf gf ei ++ WG ad cy (σ 0 0) (σ 0 3) σ er ofd de bo ql qs tv) → va_S A H0 H locs → ∀ ls : Array Slot, lv_has ls 16 [(0, .ref ((ad 0 0))), (1, .ref ap), (2, .ref ah), (3, .ref ag), (4, .int (nI one)), (5, .int (nI two)), (6, .int (nI three)), (7, .int (nI z3)), (8, .int (nI z9)), (9, .int (nI fare)), (10, .int (nI v)), (11, .int (nI v2)), (12, .int (nI sm)), (13, .int (nI k))] → W p l e rmL_isProduct s m args below meth c H locs 0 0 Q (F0 m 85 ls []) := by
          intro n85
          induction n85 with
          | zero =>
            intro k sm hfu
            exact absurd hfu (Nat.not_lt_zero _)
          | succ n85 ih85 =>
            intro k sm hfu hk hsm H locs hP hD hS ls hl
            have hsl := hsm.le
            refine lv_iload hx hb dL_isProduct_85 (lv_at hl 13 rfl) ?_
            refine lv_aload_n hx hb dL_isProduct_87 rfl (lv_at hl 3 rfl) ?_
            refine lv_iconst (v := nI 4) hx hb dL_isProduct_88 (by decide) ?_
            refine mg_ld (v := σ 0 0) hx hb hK (mcl hP) (by omega) hM.g4 dL_isProduct_89 ?_
            refine ln_icmp_ge (tgt := 151) hx hb (by omega) (by omega) dL_isProduct_90 (by decide) (fun c90 => ?_) (fun c90 => ?_)
            · skip
              have hke : k = σ 0 0 := by omega
              rw [hke] at hl hsm
              refine lv_iload hx hb dL_isProduct_151 (lv_at hl 10 rfl) ?_
              refine ln_if_eq (tgt := 189) hx hb (by omega) dL_isProduct_153 (by decide) (fun c153 => ?_) (fun c153 => ?_)
              · skip
                refine lv_iload hx hb dL_isProduct_189 (lv_at hl 10 rfl) ?_
                refine ln_if_ne (tgt := 199) hx hb (by omega) dL_isProduct_191 (by decide) (fun q => absurd c153 q) (fun _ => ?_)
                refine lv_bipush (v := -30) hx hb dL_isProduct_194 (by decide) ?_
                refine lv_goto (tgt := 222) hx hb dL_isProduct_196 (by decide) ?_
                refine lv_istore (lv' := [(13, .int ((-30))), (0, .ref ((ad 0 0))), (1, .ref ap), (2, .ref ah), (3, .ref ag), (4, .int (nI one)), (5, .int (nI two)), (6, .int (nI three)), (7, .int (nI z3)), (8, .int (nI z9)), (9, .int (nI fare)), (10, .int (nI v)), (11, .int (nI v2)), (12, .int (nI sm))]) hx hb dL_isProduct_222 hl (by decide) rfl (fun ls hl => ?_)
                refine lv_iload hx hb dL_isProduct_224 (lv_at hl 0 rfl) ?_
                refine lv_if_lt (tgt := 313) hx hb dL_isProduct_226 (by decide) (fun c226 => ?_) (fun c226 => absurd (by decide) c226)
                refine lv_aload_n hx hb dL_isProduct_313 rfl (lv_at hl 1 rfl) ?_
                refine lv_iconst (v := nI 1) hx hb dL_isProduct_314 (by decide) ?_
                refine lv_iload hx hb dL_isProduct_315 (lv_at hl 8 rfl) ?_
                refine lv_iload hx hb dL_isProduct_317 (lv_at hl 9 rfl) ?_
                refine lv_iload hx hb dL_isProduct_319 (lv_at hl 10 rfl) ?_
                refine lv_iconst (v := nI 0) hx hb dL_isProduct_321 (by decide) ?_
                refine ap_calli (vx_runSW (As := [.ref ((ad 0 0)), .int (nI 1), .int (nI z3), .int (nI z9), .int (nI fare), .int (nI 0)]) (rest := []) ⟨hx, hb, hml, hown, hts⟩ (c_L_does_1 l hfl D cy ad σ er ofd de bo ql qs tv hof hI hDL ((nI z3)) ((nI z9)) ((nI fare)) ((nI 0)) H.size) (vx_cwSW 6 hts gL_isProduct_L_does rfl rfl rfl hdL_does.2 ⟨Nat.le_of_ble_eq_true rfl, Nat.le_of_ble_eq_true rfl⟩) (xo_preS hK rfl (mcr hP) (hD.subl (List.sublist_append_right _ _)) hXW (hXZ.at hS hD hA (fun _ hq => List.mem_append_right _ hq))) rfl rfl hl.1 rfl (lv_room (Nat.le_of_ble_eq_true rfl)) dL_isProduct_322 ⟨(by show 0 + 2 ≤ 6; omega), (by show 0 + 28 ≤ 60; omega)⟩) hS hP hD hA (fun z322 u322 H locs hz322 hP hD hS => ?_)
                have hA : ¬ (okR (nI z3) 0 2 ∧ okR (nI z9) 0 2) := fun w => hv.no c153 (by have a1 := (okR_iff (by omega) (by omega) (by omega)).mp w.1; have a2 := (okR_iff (by omega) (by omega) (by omega)).mp w.2; omega)
                obtain ⟨rfl, rfl⟩ := pD_io hz322 (fun r t h => hA h.1) (fun E h => by rcases h with ⟨-, h⟩ | ⟨h1, -⟩ | ⟨h1, -⟩; exact h; exact absurd h1 hA; exact absurd h1 hA)
                have hP : va_P D vwCl (MC cy ap ah ab ag pf hf bf gf ei ++ WG ad cy (σ 0 0) (σ 0 3) σ er ofd de bo ql qs tv) H := hP
                have hD : va_D A (MC cy ap ah ab ag pf hf bf gf ei ++ WG ad cy (σ 0 0) (σ 0 3) σ er ofd de bo ql qs tv) := hD
                refine lv_iload hx hb dL_isProduct_325 (lv_at hl 0 rfl) ?_
                refine lv_icmp_ne (tgt := 334) hx hb dL_isProduct_327 (by decide) (fun c327 => absurd rfl c327) (fun c327 => ?_)
                refine lv_iconst (v := nI 1) hx hb dL_isProduct_330 (by decide) ?_
                refine lv_goto (tgt := 335) hx hb dL_isProduct_331 (by decide) ?_
                refine W.widen (k := 6) (n := 60) (by omega) (by omega) ?_
                exact hret (ad, σ, er, ofd, de, bo, ql, qs, tv, pf, hf, bf, gf, ei) dL_isProduct_335 hP hD hS ⟨rfl, LJ.mk rfl (hI.more hn) hof hbo ⟨dl, hDL⟩ hQZ hM hE⟩
              · skip
                refine lv_iload hx hb dL_isProduct_156 (lv_at hl 11 rfl) ?_
                refine ln_if_eq (tgt := 189) hx hb (by omega) dL_isProduct_158 (by decide) (fun c158 => ?_) (fun c158 => ?_)
                · skip
                  refine lv_iload hx hb dL_isProduct_189 (lv_at hl 10 rfl) ?_
                  refine ln_if_ne (tgt := 199) hx hb (by omega) dL_isProduct_191 (by decide) (fun _ => ?_) (fun q => absurd q c153)
                  refine lv_iload hx hb dL_isProduct_199 (lv_at hl 11 rfl) ?_
                  refine ln_if_ne (tgt := 209) hx hb (by omega) dL_isProduct_201 (by decide) (fun q => absurd c158 q) (fun _ => ?_)
                  refine lv_bipush (v := -20) hx hb dL_isProduct_204 (by decide) ?_
                  refine lv_goto (tgt := 222) hx hb dL_isProduct_206 (by decide) ?_
                  refine lv_istore (lv' := [(13, .int ((-20))), (0, .ref ((ad 0 0))), (1, .ref ap), (2, .ref ah), (3, .ref ag), (4, .int (nI one)), (5, .int (nI two)), (6, .int (nI three)), (7, .int (nI z3)), (8, .int (nI z9)), (9, .int (nI fare)), (10, .int (nI v)), (11, .int (nI v2)), (12, .int (nI sm))]) hx hb dL_isProduct_222 hl (by decide) rfl (fun ls hl => ?_)
                  refine lv_iload hx hb dL_isProduct_224 (lv_at hl 0 rfl) ?_
                  refine lv_if_lt (tgt := 313) hx hb dL_isProduct_226 (by decide) (fun c226 => ?_) (fun c226 => absurd (by decide) c226)
                  refine lv_aload_n hx hb dL_isProduct_313 rfl (lv_at hl 1 rfl) ?_
                  refine lv_iconst (v := nI 1) hx hb dL_isProduct_314 (by decide) ?_
                  refine lv_iload hx hb dL_isProduct_315 (lv_at hl 8 rfl) ?_
                  refine lv_iload hx hb dL_isProduct_317 (lv_at hl 9 rfl) ?_
                  refine lv_iload hx hb dL_isProduct_319 (lv_at hl 10 rfl) ?_
                  refine lv_iconst (v := nI 0) hx hb dL_isProduct_321 (by decide) ?_
                  refine ap_calli (vx_runSW (As := [.ref ((ad 0 0)), .int (nI 1), .int (nI z3), .int (nI z9), .int (nI fare), .int (nI 0)]) (rest := []) ⟨hx, hb, hml, hown, hts⟩ (c_L_does_1 l hfl D cy ad σ er ofd de bo ql qs tv hof hI hDL ((nI z3)) ((nI z9)) ((nI fare)) ((nI 0)) H.size) (vx_cwSW 6 hts gL_isProduct_L_does rfl rfl rfl hdL_does.2 ⟨Nat.le_of_ble_eq_true rfl, Nat.le_of_ble_eq_true rfl⟩) (xo_preS hK rfl (mcr hP) (hD.subl (List.sublist_append_right _ _)) hXW (hXZ.at hS hD hA (fun _ hq => List.mem_append_right _ hq))) rfl rfl hl.1 rfl (lv_room (Nat.le_of_ble_eq_true rfl)) dL_isProduct_322 ⟨(by show 0 + 2 ≤ 6; omega), (by show 0 + 28 ≤ 60; omega)⟩) hS hP hD hA (fun z322 u322 H locs hz322 hP hD hS => ?_)
                  have hv3 := hv.yes c153
                  have hA : okR (nI z3) 0 2 ∧ okR (nI z9) 0 2 := ⟨okR_i (by omega) (by omega) (by omega), okR_i (by omega) (by omega) (by omega)⟩
                  have hB : ¬ (nI z3 ≤ nI z9 ∧ okR (nI fare) 1 1000) := fun w => hv2.no c158 (by have a1 := (nI_leI (by omega) (by omega)).mp w.1; have a2 := (okR_iff (by omega) (by omega) (by omega)).mp w.2; omega)
                  obtain ⟨rfl, rfl⟩ := pD_ia hz322 (fun r t h => hB h.2.1) (fun E h => by rcases h with ⟨h1, -⟩ | ⟨-, -, h⟩ | ⟨-, h1, -⟩; exact absurd hA h1; exact h; exact absurd h1 hB)
                  have hP : va_P D vwCl (MC cy ap ah ab ag pf hf bf gf ei ++ WG ad cy (σ 0 0) (σ 0 3) σ er ofd de bo ql qs tv) H := hP
                  have hD : va_D A (MC cy ap ah ab ag pf hf bf gf ei ++ WG ad cy (σ 0 0) (σ 0 3) σ er ofd de bo ql qs tv) := hD
                  refine lv_iload hx hb dL_isProduct_325 (lv_at hl 0 rfl) ?_
                  refine lv_icmp_ne (tgt := 334) hx hb dL_isProduct_327 (by decide) (fun c327 => absurd rfl c327) (fun c327 => ?_)
                  refine lv_iconst (v := nI 1) hx hb dL_isProduct_330 (by decide) ?_
                  refine lv_goto (tgt := 335) hx hb dL_isProduct_331 (by decide) ?_
                  refine W.widen (k := 6) (n := 60) (by omega) (by omega) ?_
                  exact hret (ad, σ, er, ofd, de, bo, ql, qs, tv, pf, hf, bf, gf, ei) dL_isProduct_335 hP hD hS ⟨rfl, LJ.mk rfl (hI.more hn) hof hbo ⟨dl, hDL⟩ hQZ hM hE⟩
                · skip
                  refine lv_iload hx hb dL_isProduct_161 (lv_at hl 12 rfl) ?_
                  refine ln_if_ne (tgt := 189) hx hb (by omega) dL_isProduct_163 (by decide) (fun c163 => ?_) (fun c163 => ?_)
                  · skip
                    refine lv_iload hx hb dL_isProduct_189 (lv_at hl 10 rfl) ?_
                    refine ln_if_ne (tgt := 199) hx hb (by omega) dL_isProduct_191 (by decide) (fun _ => ?_) (fun q => absurd q c153)
                    refine lv_iload hx hb dL_isProduct_199 (lv_at hl 11 rfl) ?_
                    refine ln_if_ne (tgt := 209) hx hb (by omega) dL_isProduct_201 (by decide) (fun _ => ?_) (fun q => absurd q c158)
                    refine lv_iload hx hb dL_isProduct_209 (lv_at hl 12 rfl) ?_
                    refine ln_if_eq (tgt := 219) hx hb (by omega) dL_isProduct_211 (by decide) (fun q => absurd q c163) (fun _ => ?_)
                    refine lv_bipush (v := -10) hx hb dL_isProduct_214 (by decide) ?_
                    refine lv_goto (tgt := 222) hx hb dL_isProduct_216 (by decide) ?_
                    refine lv_istore (lv' := [(13, .int ((-10))), (0, .ref ((ad 0 0))), (1, .ref ap), (2, .ref ah), (3, .ref ag), (4, .int (nI one)), (5, .int (nI two)), (6, .int (nI three)), (7, .int (nI z3)), (8, .int (nI z9)), (9, .int (nI fare)), (10, .int (nI v)), (11, .int (nI v2)), (12, .int (nI sm))]) hx hb dL_isProduct_222 hl (by decide) rfl (fun ls hl => ?_)
                    refine lv_iload hx hb dL_isProduct_224 (lv_at hl 0 rfl) ?_
                    refine lv_if_lt (tgt := 313) hx hb dL_isProduct_226 (by decide) (fun c226 => ?_) (fun c226 => absurd (by decide) c226)
                    refine lv_aload_n hx hb dL_isProduct_313 rfl (lv_at hl 1 rfl) ?_
                    refine lv_iconst (v := nI 1) hx hb dL_isProduct_314 (by decide) ?_
                    refine lv_iload hx hb dL_isProduct_315 (lv_at hl 8 rfl) ?_
                    refine lv_iload hx hb dL_isProduct_317 (lv_at hl 9 rfl) ?_
                    refine lv_iload hx hb dL_isProduct_319 (lv_at hl 10 rfl) ?_
                    refine lv_iconst (v := nI 0) hx hb dL_isProduct_321 (by decide) ?_
                    refine ap_calli (vx_runSW (As := [.ref ((ad 0 0)), .int (nI 1), .int (nI z3), .int (nI z9), .int (nI fare), .int (nI 0)]) (rest := []) ⟨hx, hb, hml, hown, hts⟩ (c_L_does_1 l hfl D cy ad σ er ofd de bo ql qs tv hof hI hDL ((nI z3)) ((nI z9)) ((nI fare)) ((nI 0)) H.size) (vx_cwSW 6 hts gL_isProduct_L_does rfl rfl rfl hdL_does.2 ⟨Nat.le_of_ble_eq_true rfl, Nat.le_of_ble_eq_true rfl⟩) (xo_preS hK rfl (mcr hP) (hD.subl (List.sublist_append_right _ _)) hXW (hXZ.at hS hD hA (fun _ hq => List.mem_append_right _ hq))) rfl rfl hl.1 rfl (lv_room (Nat.le_of_ble_eq_true rfl)) dL_isProduct_322 ⟨(by show 0 + 2 ≤ 6; omega), (by show 0 + 28 ≤ 60; omega)⟩) hS hP hD hA (fun z322 u322 H locs hz322 hP hD hS => ?_)
                    have hv3 := hv.yes c153
                    have hA : okR (nI z3) 0 2 ∧ okR (nI z9) 0 2 := ⟨okR_i (by omega) (by omega) (by omega), okR_i (by omega) (by omega) (by omega)⟩
                    have hv4 := hv2.yes c158
                    have hB : nI z3 ≤ nI z9 ∧ okR (nI fare) 1 1000 := ⟨nI_le (by omega) (by omega), okR_i (by omega) (by omega) (by omega)⟩
                    have hC : isSame σ (nI z3) (nI z9) (nI fare) := by
                      obtain ⟨i, hi, e1, e2, e3⟩ := hsm.yes c163
                      exact ⟨i, hi, congrArg nI e1, congrArg nI e2, congrArg nI e3⟩
                    obtain ⟨rfl, rfl⟩ := pD_is hz322 (fun r t h => h.2.2.1 (Or.inr hC)) (fun E h => by rcases h with ⟨h1, -⟩ | ⟨-, h1, -⟩ | ⟨-, -, -, h⟩; exact absurd hA h1; exact absurd hB h1; exact h)
                    have hP : va_P D vwCl (MC cy ap ah ab ag pf hf bf gf ei ++ WG ad cy (σ 0 0) (σ 0 3) σ er ofd de bo ql qs tv) H := hP
                    have hD : va_D A (MC cy ap ah ab ag pf hf bf gf ei ++ WG ad cy (σ 0 0) (σ 0 3) σ er ofd de bo ql qs tv) := hD
                    refine lv_iload hx hb dL_isProduct_325 (lv_at hl 0 rfl) ?_
                    refine lv_icmp_ne (tgt := 334) hx hb dL_isProduct_327 (by decide) (fun c327 => absurd rfl c327) (fun c327 => ?_)
                    refine lv_iconst (v := nI 1) hx hb dL_isProduct_330 (by decide) ?_
                    refine lv_goto (tgt := 335) hx hb dL_isProduct_331 (by decide) ?_
                    refine W.widen (k := 6) (n := 60) (by omega) (by omega) ?_
                    exact hret (ad, σ, er, ofd, de, bo, ql, qs, tv, pf, hf, bf, gf, ei) dL_isProduct_335 hP hD hS ⟨rfl, LJ.mk rfl (hI.more hn) hof hbo ⟨dl, hDL⟩ hQZ hM hE⟩
                  · skip
                    refine lv_aload_n hx hb dL_isProduct_166 rfl (lv_at hl 3 rfl) ?_
                    refine lv_iconst (v := nI 4) hx hb dL_isProduct_167 (by decide) ?_
                    refine mg_ld (v := σ 0 0) hx hb hK (mcl hP) (by omega) hM.g4 dL_isProduct_168 ?_
                    refine lv_bipush (v := nI 6) hx hb dL_isProduct_169 (by decide) ?_
                    refine ln_icmp_ne (tgt := 189) hx hb (by omega) (by omega) dL_isProduct_171 (by decide) (fun c171 => ?_) (fun c171 => ?_)
                    · skip
                      refine lv_iload hx hb dL_isProduct_189 (lv_at hl 10 rfl) ?_
                      refine ln_if_ne (tgt := 199) hx hb (by omega) dL_isProduct_191 (by decide) (fun _ => ?_) (fun q => absurd q c153)
                      refine lv_iload hx hb dL_isProduct_199 (lv_at hl 11 rfl) ?_
                      refine ln_if_ne (tgt := 209) hx hb (by omega) dL_isProduct_201 (by decide) (fun _ => ?_) (fun q => absurd q c158)
                      refine lv_iload hx hb dL_isProduct_209 (lv_at hl 12 rfl) ?_
                      refine ln_if_eq (tgt := 219) hx hb (by omega) dL_isProduct_211 (by decide) (fun _ => ?_) (fun q => absurd c163 q)
                      refine lv_aload_n hx hb dL_isProduct_219 rfl (lv_at hl 3 rfl) ?_
                      refine lv_iconst (v := nI 4) hx hb dL_isProduct_220 (by decide) ?_
                      refine mg_ld (v := σ 0 0) hx hb hK (mcl hP) (by omega) hM.g4 dL_isProduct_221 ?_
                      refine lv_istore (lv' := [(13, .int (nI (σ 0 0))), (0, .ref ((ad 0 0))), (1, .ref ap), (2, .ref ah), (3, .ref ag), (4, .int (nI one)), (5, .int (nI two)), (6, .int (nI three)), (7, .int (nI z3)), (8, .int (nI z9)), (9, .int (nI fare)), (10, .int (nI v)), (11, .int (nI v2)), (12, .int (nI sm))]) hx hb dL_isProduct_222 hl (by decide) rfl (fun ls hl => ?_)
                      refine lv_iload hx hb dL_isProduct_224 (lv_at hl 0 rfl) ?_
                      refine ln_if_lt (tgt := 313) hx hb (by omega) dL_isProduct_226 (by decide) ?_
                      refine lv_bipush (v := nI 6) hx hb dL_isProduct_229 (by decide) ?_
                      refine lv_iload hx hb dL_isProduct_231 (lv_at hl 0 rfl) ?_
                      refine ln_imul hx hb dL_isProduct_233 (fun z233 hz233 => ?_)
                      refine lv_istore (lv' := [(14, .int (nI z233)), (13, .int (nI (σ 0 0))), (0, .ref ((ad 0 0))), (1, .ref ap), (2, .ref ah), (3, .ref ag), (4, .int (nI one)), (5, .int (nI two)), (6, .int (nI three)), (7, .int (nI z3)), (8, .int (nI z9)), (9, .int (nI fare)), (10, .int (nI v)), (11, .int (nI v2)), (12, .int (nI sm))]) hx hb dL_isProduct_234 hl (by decide) rfl (fun ls hl => ?_)
                      refine lv_aload_n hx hb dL_isProduct_236 rfl (lv_at hl 3 rfl) ?_
                      refine lv_iload hx hb dL_isProduct_237 (lv_at hl 0 rfl) ?_
                      refine lv_iload hx hb dL_isProduct_239 (lv_at hl 9 rfl) ?_
                      refine mp_st hx hb hK hP hD hS (by omega) dL_isProduct_241 (fun H locs hP hD hS => ?_)
                      refine lv_aload_n hx hb dL_isProduct_242 rfl (lv_at hl 3 rfl) ?_
                      refine lv_iload hx hb dL_isProduct_243 (lv_at hl 0 rfl) ?_
                      refine lv_iconst (v := nI 1) hx hb dL_isProduct_245 (by decide) ?_
                      refine ln_iadd hx hb dL_isProduct_246 (fun z246 hz246 => ?_)
                      refine lv_iload hx hb dL_isProduct_247 (lv_at hl 10 rfl) ?_
                      refine mp_st hx hb hK hP hD hS (by omega) dL_isProduct_249 (fun H locs hP hD hS => ?_)
                      refine lv_aload_n hx hb dL_isProduct_250 rfl (lv_at hl 3 rfl) ?_
                      refine lv_iload hx hb dL_isProduct_251 (lv_at hl 0 rfl) ?_
                      refine lv_iconst (v := nI 2) hx hb dL_isProduct_253 (by decide) ?_
                      refine ln_iadd hx hb dL_isProduct_254 (fun z254 hz254 => ?_)
                      refine lv_iload hx hb dL_isProduct_255 (lv_at hl 11 rfl) ?_
                      refine mp_st hx hb hK hP hD hS (by omega) dL_isProduct_257 (fun H locs hP hD hS => ?_)
                      refine lv_aload_n hx hb dL_isProduct_258 rfl (lv_at hl 3 rfl) ?_
                      refine lv_iload hx hb dL_isProduct_259 (lv_at hl 0 rfl) ?_
                      refine lv_iconst (v := nI 3) hx hb dL_isProduct_261 (by decide) ?_
                      refine ln_iadd hx hb dL_isProduct_262 (fun z262 hz262 => ?_)
                      refine lv_iconst (v := nI 0) hx hb dL_isProduct_263 (by decide) ?_
                      refine mp_st hx hb hK hP hD hS (by omega) dL_isProduct_264 (fun H locs hP hD hS => ?_)
                      refine lv_aload_n hx hb dL_isProduct_265 rfl (lv_at hl 3 rfl) ?_
                      refine lv_iload hx hb dL_isProduct_266 (lv_at hl 0 rfl) ?_
                      refine lv_iconst (v := nI 4) hx hb dL_isProduct_268 (by decide) ?_
                      refine ln_iadd hx hb dL_isProduct_269 (fun z269 hz269 => ?_)
                      refine lv_iconst (v := nI 0) hx hb dL_isProduct_270 (by decide) ?_
                      refine mp_st hx hb hK hP hD hS (by omega) dL_isProduct_271 (fun H locs hP hD hS => ?_)
                      refine lv_aload_n hx hb dL_isProduct_272 rfl (lv_at hl 3 rfl) ?_
                      refine lv_iload hx hb dL_isProduct_273 (lv_at hl 0 rfl) ?_
                      refine lv_iconst (v := nI 5) hx hb dL_isProduct_275 (by decide) ?_
                      refine ln_iadd hx hb dL_isProduct_276 (fun z276 hz276 => ?_)
                      refine lv_iconst (v := nI 0) hx hb dL_isProduct_277 (by decide) ?_
                      refine mp_st hx hb hK hP hD hS (by omega) dL_isProduct_278 (fun H locs hP hD hS => ?_)
                      refine lv_iconst (v := nI 0) hx hb dL_isProduct_279 (by decide) ?_
                      obtain ⟨pf2, hpf2⟩ : ∃ f : Nat → Nat, f = va_up (va_up (va_up (va_up (va_up (va_up pf z233 z3) z246 z9) z254 fare) z262 0) z269 0) z276 0 := ⟨_, rfl⟩
                      rw [← hpf2] at hP hD
                      have K282 : ∀ (n282 : Nat) (k2 : Nat) (hfv : Nat → Nat), 10 - k2 < n282 → (k2 ≤ 10) → (∀ i, i < 10 * σ 0 0 → hfv i = hf i) → (∀ d, d < k2 → hfv (10 * σ 0 0 + d) = 0) → (∀ i, hfv i ≤ 512) → ∀ (H : Heap) (locs : List Loc), va_P D vwCl (MC cy ap ah ab ag pf2 hfv bf gf ei ++ WG ad cy (σ 0 0) (σ 0 3) σ er ofd de bo ql qs tv) H → va_D A (MC cy ap ah ab ag pf2 hfv bf gf ei ++ WG ad cy (σ 0 0) (σ 0 3) σ er ofd de bo ql qs tv) → va_S A H0 H locs → ∀ ls : Array Slot, lv_has ls 16 [(0, .ref ((ad 0 0))), (1, .ref ap), (2, .ref ah), (3, .ref ag), (4, .int (nI one)), (5, .int (nI two)), (6, .int (nI three)), (7, .int (nI z3)), (8, .int (nI z9)), (9, .int (nI fare)), (10, .int (nI v)), (11, .int (nI v2)), (12, .int (nI sm)), (13, .int (nI ((σ 0 0)))), (14, .int (nI z233)), (15, .int (nI k2))] → W p l e rmL_isProduct s m args below meth c H locs 0 0 Q (F0 m 282 ls []) := by
                        intro n282
                        induction n282 with
                        | zero =>
                          intro k2 hfv hfu
                          exact absurd hfu (Nat.not_lt_zero _)
                        | succ n282 ih282 =>
                          intro k2 hfv hfu hk2 hh1 hh2 hh3 H locs hP hD hS ls hl
                          refine lv_iload hx hb dL_isProduct_282 (lv_at hl 15 rfl) ?_
                          refine lv_bipush (v := nI 10) hx hb dL_isProduct_284 (by decide) ?_
                          refine ln_icmp_ge (tgt := 306) hx hb (by omega) (by omega) dL_isProduct_286 (by decide) (fun c286 => ?_) (fun c286 => ?_)
                          · skip
                            refine lv_aload_n hx hb dL_isProduct_306 rfl (lv_at hl 3 rfl) ?_
                            refine lv_iconst (v := nI 4) hx hb dL_isProduct_307 (by decide) ?_
                            refine lv_dup2_11 hx hb dL_isProduct_308 rfl rfl ?_
                            refine mg_ld (v := σ 0 0) hx hb hK (mcl hP) (by omega) hM.g4 dL_isProduct_309 ?_
                            refine lv_iconst (v := nI 1) hx hb dL_isProduct_310 (by decide) ?_
                            refine ln_iadd hx hb dL_isProduct_311 (fun z311 hz311 => ?_)
                            refine mg_st hx hb hK hP hD hS (by omega) dL_isProduct_312 (fun H locs hP hD hS => ?_)
                            refine lv_aload_n hx hb dL_isProduct_313 rfl (lv_at hl 0 rfl) ?_
                            refine lv_iconst (v := nI 1) hx hb dL_isProduct_314 (by decide) ?_
                            refine lv_iload hx hb dL_isProduct_315 (lv_at hl 7 rfl) ?_
                            refine lv_iload hx hb dL_isProduct_317 (lv_at hl 8 rfl) ?_
                            refine lv_iload hx hb dL_isProduct_319 (lv_at hl 9 rfl) ?_
                            refine lv_iconst (v := nI 0) hx hb dL_isProduct_321 (by decide) ?_
                            refine ap_calli (vx_runSW (As := [.ref ((ad 0 0)), .int (nI 1), .int (nI z3), .int (nI z9), .int (nI fare), .int (nI 0)]) (rest := []) ⟨hx, hb, hml, hown, hts⟩ (c_L_does_1 l hfl D cy ad σ er ofd de bo ql qs tv hof hI hDL ((nI z3)) ((nI z9)) ((nI fare)) ((nI 0)) H.size) (vx_cwSW 6 hts gL_isProduct_L_does rfl rfl rfl hdL_does.2 ⟨Nat.le_of_ble_eq_true rfl, Nat.le_of_ble_eq_true rfl⟩) (xo_preS hK rfl (mcr hP) (hD.subl (List.sublist_append_right _ _)) hXW (hXZ.at hS hD hA (fun _ hq => List.mem_append_right _ hq))) rfl rfl hl.1 rfl (lv_room (Nat.le_of_ble_eq_true rfl)) dL_isProduct_322 ⟨(by show 0 + 2 ≤ 6; omega), (by show 0 + 28 ≤ 60; omega)⟩) hS hP hD hA (fun z322 u322 H locs hz322 hP hD hS => ?_)
                            have hv3 := hv.yes c153
                            have hA : okR (nI z3) 0 2 ∧ okR (nI z9) 0 2 := ⟨okR_i (by omega) (by omega) (by omega), okR_i (by omega) (by omega) (by omega)⟩
                            have hv4 := hv2.yes c158
                            have hB : nI z3 ≤ nI z9 ∧ okR (nI fare) 1 1000 := ⟨nI_le (by omega) (by omega), okR_i (by omega) (by omega) (by omega)⟩
                            have hC : ¬ (σ 0 0 = 8 ∨ isSame σ (nI z3) (nI z9) (nI fare)) := by
                              rintro (q | ⟨i, hi, e1, e2, e3⟩)
                              · omega
                              · have hpi := hI.pr i hi
                                exact hsm.no c163 ⟨i, hi, (nI_eq (by omega) (by omega)).mp e1, (nI_eq (by omega) (by omega)).mp e2, (nI_eq (by omega) (by omega)).mp e3⟩
                            obtain ⟨⟨q2, tb2, de2⟩, rfl, -, -, -, hz322, dl2, hdl2⟩ := pD_ok hz322 (fun E h => by rcases h with ⟨h1, -⟩ | ⟨-, h1, -⟩ | ⟨-, -, h1, -⟩; exact absurd hA h1; exact absurd hB h1; exact absurd h1 hC)
                            subst hz322
                            rw [cN_nI (by omega), cN_nI (by omega), cN_nI (by omega)] at hdl2
                            have ea : adF σ (cN (nI z3)) (cN (nI z9)) (cN (nI fare)) = adF σ z3 z9 fare := by rw [cN_nI (by omega), cN_nI (by omega), cN_nI (by omega)]
                            have hP : va_P D vwCl (MC cy ap ah ab ag pf2 hfv bf (va_up gf 4 z311) ei ++ WG (adP ad (σ 0 0) q2 tb2) cy (σ 0 0 + 1) (σ 0 3) (adF σ (cN (nI z3)) (cN (nI z9)) (cN (nI fare))) er (va_up ofd (σ 0 0) (some q2)) de2 bo ql qs tv) H := hP
                            have hD : va_D A (MC cy ap ah ab ag pf2 hfv bf (va_up gf 4 z311) ei ++ WG (adP ad (σ 0 0) q2 tb2) cy (σ 0 0 + 1) (σ 0 3) (adF σ (cN (nI z3)) (cN (nI z9)) (cN (nI fare))) er (va_up ofd (σ 0 0) (some q2)) de2 bo ql qs tv) := hD
                            rw [ea] at hP hD
                            refine lv_iload hx hb dL_isProduct_325 (lv_at hl 13 rfl) ?_
                            refine lv_icmp_ne (tgt := 334) hx hb dL_isProduct_327 (by decide) (fun c327 => absurd rfl c327) (fun c327 => ?_)
                            refine lv_iconst (v := nI 1) hx hb dL_isProduct_330 (by decide) ?_
                            refine lv_goto (tgt := 335) hx hb dL_isProduct_331 (by decide) ?_
                            have hup := up6 (pf := pf) (i := z233) (a := z3) (b := z9) (c := fare) (i1 := z246) (i2 := z254) (i3 := z262) (i4 := z269) (i5 := z276) (by omega) (by omega) (by omega) (by omega) (by omega)
                            rw [← hpf2, hz233] at hup
                            obtain ⟨y0, y1, y2, y3, y4, y5, y6⟩ := hup
                            subst hz311
                            refine W.widen (k := 6) (n := 60) (by omega) (by omega) ?_
                            exact hret (adP ad (σ 0 0) q2 tb2, adF σ z3 z9 fare, er, va_up ofd (σ 0 0) (some q2), de2, bo, ql, qs, tv, pf2, hfv, bf, va_up gf 4 (σ 0 0 + 1), ei) dL_isProduct_335 hP hD hS ⟨rfl, LJ.mk rfl (hI.adds hn (by omega) hv4.1 (by omega) hfa.1 (by omega)) hof.adp (hbo.c rfl (Nat.le_refl _)) ⟨dl2, hdl2⟩ hQZ (hM.adds hI (by omega) y0 y1 y2 y3 y4 y5 y6 hh1 (fun d hd => hh2 d (by omega)) hh3) hE⟩
                          · skip
                            refine lv_aload_n hx hb dL_isProduct_289 rfl (lv_at hl 2 rfl) ?_
                            refine lv_bipush (v := nI 10) hx hb dL_isProduct_290 (by decide) ?_
                            refine lv_iload hx hb dL_isProduct_292 (lv_at hl 13 rfl) ?_
                            refine ln_imul hx hb dL_isProduct_294 (fun z294 hz294 => ?_)
                            refine lv_iload hx hb dL_isProduct_295 (lv_at hl 15 rfl) ?_
                            refine ln_iadd hx hb dL_isProduct_297 (fun z297 hz297 => ?_)
                            refine lv_iconst (v := nI 0) hx hb dL_isProduct_298 (by decide) ?_
                            refine mh_st hx hb hK hP hD hS (by omega) dL_isProduct_299 (fun H locs hP hD hS => ?_)
                            obtain ⟨z300, hz300⟩ : ∃ z : Nat, z = k2 + 1 := ⟨_, rfl⟩
                            refine lv_iinc (v := nI z300) (lv' := [(15, .int (nI z300)), (0, .ref ((ad 0 0))), (1, .ref ap), (2, .ref ah), (3, .ref ag), (4, .int (nI one)), (5, .int (nI two)), (6, .int (nI three)), (7, .int (nI z3)), (8, .int (nI z9)), (9, .int (nI fare)), (10, .int (nI v)), (11, .int (nI v2)), (12, .int (nI sm)), (13, .int (nI ((σ 0 0)))), (14, .int (nI z233))]) hx hb dL_isProduct_300 hl (k := 15) rfl (by rw [hz300]; exact nI_add _ 1) (by decide) rfl (fun ls hl => ?_)
                            refine lv_goto (tgt := 282) hx hb dL_isProduct_303 (by decide) ?_
                            exact ih282 z300 (va_up hfv z297 0) (by omega) (by omega) (fun i hi => by rw [va_ne (by omega)]; exact hh1 i hi) (fun d hd => by by_cases q : d = k2; exact (by rw [show 10 * σ 0 0 + d = z297 by omega, up_at]); rw [va_ne (by omega)]; exact hh2 d (by omega)) (fun i => by rw [up_if]; split; exact Nat.zero_le _; exact hh3 i) H locs hP hD hS ls (lv_sub hl [1, 2, 3, 4, 5, 6, 7, 8, 9, 10, 11, 12, 13, 14, 15, 0] rfl)
                      refine lv_istore (lv' := [(15, .int (nI 0)), (14, .int (nI z233)), (13, .int (nI (σ 0 0))), (0, .ref ((ad 0 0))), (1, .ref ap), (2, .ref ah), (3, .ref ag), (4, .int (nI one)), (5, .int (nI two)), (6, .int (nI three)), (7, .int (nI z3)), (8, .int (nI z9)), (9, .int (nI fare)), (10, .int (nI v)), (11, .int (nI v2)), (12, .int (nI sm))]) hx hb dL_isProduct_280 hl (by decide) rfl (fun ls hl => ?_)
                      exact K282 _ 0 hf (Nat.lt_succ_self _) (by omega) (fun _ _ => rfl) (fun d hd => absurd hd (Nat.not_lt_zero d)) hM.hb H locs hP hD hS ls (lv_sub hl [3, 4, 5, 6, 7, 8, 9, 10, 11, 12, 13, 14, 15, 2, 1, 0] rfl)
                    · skip
                      refine lv_aload_n hx hb dL_isProduct_174 rfl (lv_at hl 0 rfl) ?_
                      refine ro_calliN (va_runV (As := []) (rest := []) ⟨hx, hb, hml, hown, hts⟩ (c_X5_products l D cy ad σ er ofd de bo ql qs tv H (mcr hP)) (cwV 0 hts gL_isProduct_X5_products rfl rfl rfl hdX5_products ⟨Nat.le_of_ble_eq_true rfl, Nat.le_of_ble_eq_true rfl⟩) (ro_preV hK (va_recv hK.1 (mcr hP) (ci := 5) (q0 := 0) rfl rfl)) rfl rfl hl.1 rfl (lv_room (Nat.le_of_ble_eq_true rfl)) dL_isProduct_175 ⟨(by show 0 + 0 ≤ 6; omega), (by show 0 + 0 ≤ 60; omega)⟩) (fun z175 hz175 => ?_)
                      subst hz175
                      refine lv_bipush (v := nI 6) hx hb dL_isProduct_178 (by decide) ?_
                      refine ln_icmp_ne (tgt := 187) hx hb (by omega) (by omega) dL_isProduct_180 (by decide) (fun c180 => absurd c171 c180) (fun c180 => ?_)
                      refine lv_iconst (v := nI 1) hx hb dL_isProduct_183 (by decide) ?_
                      refine lv_goto (tgt := 188) hx hb dL_isProduct_184 (by decide) ?_
                      refine W.widen (k := 6) (n := 60) (by omega) (by omega) ?_
                      exact hret (ad, σ, er, ofd, de, bo, ql, qs, tv, pf, hf, bf, gf, ei) dL_isProduct_188 hP hD hS ⟨rfl, LJ.mk rfl (hI.more hn) hof hbo ⟨dl, hDL⟩ hQZ hM hE⟩
            · skip
              have hpk := hI.pr k c90
              have K143 : ∀ (x : Nat), (pV x (∃ i, i < k + 1 ∧ σ 3 i = z3 ∧ σ 4 i = z9 ∧ σ 5 i = fare)) → ∀ (H : Heap) (locs : List Loc), va_P D vwCl (MC cy ap ah ab ag pf hf bf gf ei ++ WG ad cy (σ 0 0) (σ 0 3) σ er ofd de bo ql qs tv) H → va_D A (MC cy ap ah ab ag pf hf bf gf ei ++ WG ad cy (σ 0 0) (σ 0 3) σ er ofd de bo ql qs tv) → va_S A H0 H locs → ∀ ls : Array Slot, lv_has ls 16 [(0, .ref ((ad 0 0))), (1, .ref ap), (2, .ref ah), (3, .ref ag), (4, .int (nI one)), (5, .int (nI two)), (6, .int (nI three)), (7, .int (nI z3)), (8, .int (nI z9)), (9, .int (nI fare)), (10, .int (nI v)), (11, .int (nI v2)), (12, .int (nI sm)), (13, .int (nI k))] → W p l e rmL_isProduct s m args below meth c H locs 0 0 Q (F0 m 143 ls [.int (nI x)]) := by
                intro x hx1 H locs hP hD hS ls hl
                refine lv_istore (lv' := [(12, .int (nI x)), (0, .ref ((ad 0 0))), (1, .ref ap), (2, .ref ah), (3, .ref ag), (4, .int (nI one)), (5, .int (nI two)), (6, .int (nI three)), (7, .int (nI z3)), (8, .int (nI z9)), (9, .int (nI fare)), (10, .int (nI v)), (11, .int (nI v2)), (13, .int (nI k))]) hx hb dL_isProduct_143 hl (by decide) rfl (fun ls hl => ?_)
                obtain ⟨z145, hz145⟩ : ∃ z : Nat, z = k + 1 := ⟨_, rfl⟩
                refine lv_iinc (v := nI z145) (lv' := [(13, .int (nI z145)), (12, .int (nI x)), (0, .ref ((ad 0 0))), (1, .ref ap), (2, .ref ah), (3, .ref ag), (4, .int (nI one)), (5, .int (nI two)), (6, .int (nI three)), (7, .int (nI z3)), (8, .int (nI z9)), (9, .int (nI fare)), (10, .int (nI v)), (11, .int (nI v2))]) hx hb dL_isProduct_145 hl (k := 13) rfl (by rw [hz145]; exact nI_add _ 1) (by decide) rfl (fun ls hl => ?_)
                refine lv_goto (tgt := 85) hx hb dL_isProduct_148 (by decide) ?_
                exact ih85 z145 x (by omega) (by omega) (by rw [hz145]; exact hx1) H locs hP hD hS ls (lv_sub hl [2, 3, 4, 5, 6, 7, 8, 9, 10, 11, 12, 13, 1, 0] rfl)
              refine lv_iload hx hb dL_isProduct_93 (lv_at hl 12 rfl) ?_
              refine ln_if_ne (tgt := 138) hx hb (by omega) dL_isProduct_95 (by decide) (fun c95 => ?_) (fun c95 => ?_)
              · skip
                refine lv_iconst (v := nI 1) hx hb dL_isProduct_138 (by decide) ?_
                refine lv_goto (tgt := 143) hx hb dL_isProduct_139 (by decide) ?_
                exact K143 1 (pV.t (by obtain ⟨i, hi, e⟩ := hsm.yes c95; exact ⟨i, by omega, e⟩)) H locs hP hD hS ls (lv_sub hl [0, 1, 2, 3, 4, 5, 6, 7, 8, 9, 10, 11, 12, 13] rfl)
              · skip
                refine lv_aload_n hx hb dL_isProduct_98 rfl (lv_at hl 1 rfl) ?_
                refine lv_bipush (v := nI 6) hx hb dL_isProduct_99 (by decide) ?_
                refine lv_iload hx hb dL_isProduct_101 (lv_at hl 13 rfl) ?_
                refine ln_imul hx hb dL_isProduct_103 (fun z103 hz103 => ?_)
                refine mp_ld (v := σ 3 k) hx hb hK (mcl hP) (by omega) (hM.p0 c90 (by omega)) dL_isProduct_104 ?_
                refine lv_iload hx hb dL_isProduct_105 (lv_at hl 7 rfl) ?_
                refine ln_icmp_ne (tgt := 142) hx hb (by omega) (by omega) dL_isProduct_107 (by decide) (fun c107 => ?_) (fun c107 => ?_)
                · skip
                  refine lv_iconst (v := nI 0) hx hb dL_isProduct_142 (by decide) ?_
                  exact K143 0 (pV.f (fun ⟨i, hi, e1, e2, e3⟩ => by rcases Nat.lt_or_ge i k with w | w; exact hsm.no c95 ⟨i, w, e1, e2, e3⟩; rw [show i = k by omega] at e1 e2 e3; omega)) H locs hP hD hS ls (lv_sub hl [0, 1, 2, 3, 4, 5, 6, 7, 8, 9, 10, 11, 12, 13] rfl)
                · skip
                  refine lv_aload_n hx hb dL_isProduct_110 rfl (lv_at hl 1 rfl) ?_
                  refine lv_bipush (v := nI 6) hx hb dL_isProduct_111 (by decide) ?_
                  refine lv_iload hx hb dL_isProduct_113 (lv_at hl 13 rfl) ?_
                  refine ln_imul hx hb dL_isProduct_115 (fun z115 hz115 => ?_)
                  refine lv_iconst (v := nI 1) hx hb dL_isProduct_116 (by decide) ?_
                  refine ln_iadd hx hb dL_isProduct_117 (fun z117 hz117 => ?_)
                  refine mp_ld (v := σ 4 k) hx hb hK (mcl hP) (by omega) (hM.p1 c90 (by omega)) dL_isProduct_118 ?_
                  refine lv_iload hx hb dL_isProduct_119 (lv_at hl 8 rfl) ?_
                  refine ln_icmp_ne (tgt := 142) hx hb (by omega) (by omega) dL_isProduct_121 (by decide) (fun c121 => ?_) (fun c121 => ?_)
                  · skip
                    refine lv_iconst (v := nI 0) hx hb dL_isProduct_142 (by decide) ?_
                    exact K143 0 (pV.f (fun ⟨i, hi, e1, e2, e3⟩ => by rcases Nat.lt_or_ge i k with w | w; exact hsm.no c95 ⟨i, w, e1, e2, e3⟩; rw [show i = k by omega] at e1 e2 e3; omega)) H locs hP hD hS ls (lv_sub hl [0, 1, 2, 3, 4, 5, 6, 7, 8, 9, 10, 11, 12, 13] rfl)
                  · skip
                    refine lv_aload_n hx hb dL_isProduct_124 rfl (lv_at hl 1 rfl) ?_
                    refine lv_bipush (v := nI 6) hx hb dL_isProduct_125 (by decide) ?_
                    refine lv_iload hx hb dL_isProduct_127 (lv_at hl 13 rfl) ?_
                    refine ln_imul hx hb dL_isProduct_129 (fun z129 hz129 => ?_)
                    refine lv_iconst (v := nI 2) hx hb dL_isProduct_130 (by decide) ?_
                    refine ln_iadd hx hb dL_isProduct_131 (fun z131 hz131 => ?_)
                    refine mp_ld (v := σ 5 k) hx hb hK (mcl hP) (by omega) (hM.p2 c90 (by omega)) dL_isProduct_132 ?_
                    refine lv_iload hx hb dL_isProduct_133 (lv_at hl 9 rfl) ?_
                    refine ln_icmp_ne (tgt := 142) hx hb (by omega) (by omega) dL_isProduct_135 (by decide) (fun c135 => ?_) (fun c135 => ?_)
                    · skip
                      refine lv_iconst (v := nI 0) hx hb dL_isProduct_142 (by decide) ?_
                      exact K143 0 (pV.f (fun ⟨i, hi, e1, e2, e3⟩ => by rcases Nat.lt_or_ge i k with w | w; exact hsm.no c95 ⟨i, w, e1, e2, e3⟩; rw [show i = k by omega] at e1 e2 e3; omega)) H locs hP hD hS ls (lv_sub hl [0, 1, 2, 3, 4, 5, 6, 7, 8, 9, 10, 11, 12, 13] rfl)
                    · skip
                      refine lv_iconst (v := nI 1) hx hb dL_isProduct_138 (by decide) ?_
                      refine lv_goto (tgt := 143) hx hb dL_isProduct_139 (by decide) ?_
                      exact K143 1 (pV.t ⟨k, by omega, c107, c121, c135⟩) H locs hP hD hS ls (lv_sub hl [0, 1, 2, 3, 4, 5, 6, 7, 8, 9, 10, 11, 12, 13] rfl)
        refine lv_istore (lv' := [(13, .int (nI 0)), (12, .int (nI 0)), (11, .int (nI v2)), (0, .ref ((ad 0 0))), (1, .ref ap), (2, .ref ah), (3, .ref ag), (4, .int (nI one)), (5, .int (nI two)), (6, .int (nI three)), (7, .int (nI z3)), (8, .int (nI z9)), (9, .int (nI fare)), (10, .int (nI v))]) hx hb dL_isProduct_83 hl (by decide) rfl (fun ls hl => ?_)
        exact K85 _ 0 0 (Nat.lt_succ_self _) (Nat.zero_le _) (pV.f (fun ⟨i, hi, _⟩ => absurd hi (Nat.not_lt_zero i))) H locs hP hD hS ls (lv_sub hl [3, 4, 5, 6, 7, 8, 9, 10, 11, 12, 13, 2, 1, 0] rfl)
      refine lv_iload hx hb dL_isProduct_57 (lv_at hl 9 rfl) ?_
      refine lv_iload hx hb dL_isProduct_59 (lv_at hl 8 rfl) ?_
      refine ln_icmp_lt (tgt := 76) hx hb (by omega) (by omega) dL_isProduct_61 (by decide) (fun c61 => ?_) (fun c61 => ?_)
      · skip
        refine lv_iconst (v := nI 0) hx hb dL_isProduct_76 (by decide) ?_
        exact K77 0 (pV.f (fun w => by omega)) H locs hP hD hS ls (lv_sub hl [1, 2, 3, 4, 5, 6, 7, 8, 9, 10, 0] rfl)
      · skip
        refine lv_iload hx hb dL_isProduct_64 (lv_at hl 10 rfl) ?_
        refine lv_sipush (v := nI 1001) hx hb dL_isProduct_66 (by decide) ?_
        refine ln_icmp_ge (tgt := 76) hx hb (by omega) (by omega) dL_isProduct_69 (by decide) (fun c69 => ?_) (fun c69 => ?_)
        · skip
          refine lv_iconst (v := nI 0) hx hb dL_isProduct_76 (by decide) ?_
          exact K77 0 (pV.f (fun w => by omega)) H locs hP hD hS ls (lv_sub hl [1, 2, 3, 4, 5, 6, 7, 8, 9, 10, 0] rfl)
        · skip
          refine lv_iconst (v := nI 1) hx hb dL_isProduct_72 (by decide) ?_
          refine lv_goto (tgt := 77) hx hb dL_isProduct_73 (by decide) ?_
          exact K77 1 (pV.t ⟨by omega, by omega⟩) H locs hP hD hS ls (lv_sub hl [1, 2, 3, 4, 5, 6, 7, 8, 9, 10, 0] rfl)
    refine lv_iload hx hb dL_isProduct_38 (lv_at hl 8 rfl) ?_
    refine lv_iconst (v := nI 3) hx hb dL_isProduct_40 (by decide) ?_
    refine ln_icmp_ge (tgt := 54) hx hb (by omega) (by omega) dL_isProduct_41 (by decide) (fun c41 => ?_) (fun c41 => ?_)
    · skip
      refine lv_iconst (v := nI 0) hx hb dL_isProduct_54 (by decide) ?_
      exact K55 0 (pV.f (fun w => by omega)) H locs hP hD hS ls (lv_sub hl [1, 2, 3, 4, 5, 6, 7, 8, 9, 0] rfl)
    · skip
      refine lv_iload hx hb dL_isProduct_44 (lv_at hl 9 rfl) ?_
      refine lv_iconst (v := nI 3) hx hb dL_isProduct_46 (by decide) ?_
      refine ln_icmp_ge (tgt := 54) hx hb (by omega) (by omega) dL_isProduct_47 (by decide) (fun c47 => ?_) (fun c47 => ?_)
      · skip
        refine lv_iconst (v := nI 0) hx hb dL_isProduct_54 (by decide) ?_
        exact K55 0 (pV.f (fun w => by omega)) H locs hP hD hS ls (lv_sub hl [1, 2, 3, 4, 5, 6, 7, 8, 9, 0] rfl)
      · skip
        refine lv_iconst (v := nI 1) hx hb dL_isProduct_50 (by decide) ?_
        refine lv_goto (tgt := 55) hx hb dL_isProduct_51 (by decide) ?_
        exact K55 1 (pV.t ⟨by omega, by omega⟩) H locs hP hD hS ls (lv_sub hl [1, 2, 3, 4, 5, 6, 7, 8, 9, 0] rfl)
  refine lv_iload hx hb dL_isProduct_12 (lv_at hl 8 rfl) ?_
  refine lv_bipush (v := nI 25) hx hb dL_isProduct_14 (by decide) ?_
  refine ln_irem hx hb (by omega) (by omega) (by omega) dL_isProduct_16 (fun z16 hz16 => ?_)
  refine ln_if_ne (tgt := 26) hx hb (by omega) dL_isProduct_17 (by decide) (fun c17 => ?_) (fun c17 => ?_)
  · skip
    refine lv_iconst (v := nI 1) hx hb dL_isProduct_26 (by decide) ?_
    refine lv_iload hx hb dL_isProduct_27 (lv_at hl 8 rfl) ?_
    refine lv_bipush (v := nI 6) hx hb dL_isProduct_29 (by decide) ?_
    refine ln_irem hx hb (by omega) (by omega) (by omega) dL_isProduct_31 (fun z31 hz31 => ?_)
    refine lv_bipush (v := nI 40) hx hb dL_isProduct_32 (by decide) ?_
    refine ln_imul hx hb dL_isProduct_34 (fun z34 hz34 => ?_)
    refine ln_iadd hx hb dL_isProduct_35 (fun z35 hz35 => ?_)
    exact K36 z35 (by omega) H locs hP hD hS ls (lv_sub hl [2, 3, 4, 5, 6, 7, 8, 1, 0] rfl)
  · skip
    refine lv_sipush (v := nI 1001) hx hb dL_isProduct_20 (by decide) ?_
    refine lv_goto (tgt := 36) hx hb dL_isProduct_23 (by decide) ?_
    exact K36 1001 (by omega) H locs hP hD hS ls (lv_sub hl [2, 3, 4, 5, 6, 7, 8, 1, 0] rfl)
set_option maxHeartbeats 4000000 in
set_option maxRecDepth 100000 in
theorem c_L_isAsked (l : Launch) (hfl : l.stackTraces = false) (D : va_G) (cy : Nat → ClassId) (ap ah ab ag : Nat) (pf hf bf gf : Nat → Nat) (ei : Int32) (ad : Nat → Nat → Nat) (σ : SF) (er : Int64) (ofd de bo : Nat → Option Nat) (ql : Nat → Nat) (qs : Nat → Nat → Nat) (tv : Nat → Nat) {n : Nat} (hI : Iv n σ) (hof : OF ad σ ofd) (hbo : BO ad σ bo) {dl : List Nat} (hDL : DL ad σ de dl) (hQZ : QZ qs) (hM : MR σ pf hf bf gf) (hE : EM σ er ei) (its : Nat) (hits : its ≤ σ 0 0) (hB : σ 0 3 ≤ 18) (hn : n < 512) : cLI l D cy yL_isAsked wsL_isAsked rmL_isAsked [.ref ((ad 0 0)), .ref ap, .ref ah, .ref ab, .ref ag, .int (nI its)] (MC cy ap ah ab ag pf hf bf gf ei ++ WG ad cy (σ 0 0) (σ 0 3) σ er ofd de bo ql qs tv) (T := STt) (wS cy ap ah ab ag) (fun r u => r = nI 1 ∧ LJ (n + 1) (ad 0 0) u) 6 60 := by
  refine cLI.ofN (cc := cL_isAsked) (maxL := 12) (by decide) rfl (Nat.le_of_ble_eq_true rfl) (fun v u h => z_one h.1) ?_
  intro p e s m args below meth c H0 A Q hx hb hml hown hts hP hK hD hS hA hXW hXZ hAe hH0e hret ls hl
  obtain ⟨H, locs, hH, hlo⟩ : ∃ (H : Heap) (locs : List Loc), H = H0 ∧ locs = [] := ⟨_, _, rfl, rfl⟩
  rw [← hH] at hP
  rw [show va_S A H0 H0 [] = va_S A H0 H locs by rw [hH, hlo]] at hS
  rw [show W p l e rmL_isAsked s m args below meth c H0 [] 0 0 Q (F0 m 0 ls []) = W p l e rmL_isAsked s m args below meth c H locs 0 0 Q (F0 m 0 ls []) by rw [hH, hlo]]
  have hnp := hM.np
  refine lv_iload hx hb dL_isAsked_0 (lv_at hl 5 rfl) ?_
  refine lv_aload hx hb dL_isAsked_2 (lv_at hl 4 rfl) ?_
  refine lv_iconst (v := nI 4) hx hb dL_isAsked_4 (by decide) ?_
  refine mg_ld (v := σ 0 0) hx hb hK (mcl hP) (by omega) hM.g4 dL_isAsked_5 ?_
  refine ln_icmp_ne (tgt := 30) hx hb (by omega) (by omega) dL_isAsked_6 (by decide) (fun c6 => ?_) (fun c6 => ?_)
  · skip
    have hk : its < σ 0 0 := by omega
    have hpk := hI.pr its hk
    refine lv_bipush (v := nI 6) hx hb dL_isAsked_30 (by decide) ?_
    refine lv_iload hx hb dL_isAsked_32 (lv_at hl 5 rfl) ?_
    refine ln_imul hx hb dL_isAsked_34 (fun z34 hz34 => ?_)
    refine lv_istore (lv' := [(6, .int (nI z34)), (0, .ref ((ad 0 0))), (1, .ref ap), (2, .ref ah), (3, .ref ab), (4, .ref ag), (5, .int (nI its))]) hx hb dL_isAsked_35 hl (by decide) rfl (fun ls hl => ?_)
    refine lv_aload_n hx hb dL_isAsked_37 rfl (lv_at hl 1 rfl) ?_
    refine lv_iconst (v := nI 4) hx hb dL_isAsked_38 (by decide) ?_
    refine lv_iload hx hb dL_isAsked_39 (lv_at hl 6 rfl) ?_
    refine lv_iconst (v := nI 0) hx hb dL_isAsked_41 (by decide) ?_
    refine lv_iconst (v := nI 0) hx hb dL_isAsked_42 (by decide) ?_
    refine lv_iconst (v := nI 0) hx hb dL_isAsked_43 (by decide) ?_
    refine ap_calli (vx_runSW (As := [.ref ((ad 0 0)), .int (nI 4), .int (nI its), .int (nI 0), .int (nI 0), .int (nI 0)]) (rest := []) ⟨hx, hb, hml, hown, hts⟩ (c_L_does_4 l hfl D cy ad σ er ofd de bo ql qs tv hof hbo hI hDL hQZ hn ((nI its)) ((nI 0)) ((nI 0)) ((nI 0)) H.size) (vx_cwSW 6 hts gL_isAsked_L_does rfl rfl rfl hdL_does.2 ⟨Nat.le_of_ble_eq_true rfl, Nat.le_of_ble_eq_true rfl⟩) (xo_preS hK rfl (mcr hP) (hD.subl (List.sublist_append_right _ _)) hXW (hXZ.at hS hD hA (fun _ hq => List.mem_append_right _ hq))) rfl rfl hl.1 rfl (lv_room (Nat.le_of_ble_eq_true rfl)) dL_isAsked_44 ⟨(by show 0 + 2 ≤ 6; omega), (by show 0 + 28 ≤ 60; omega)⟩) hS hP hD hA (fun z44 u44 H locs hz44 hP hD hS => ?_)
    obtain ⟨⟨ad2, τ, bo2, ql2, qs2⟩, rfl, -, -, hask, hQZ, hbo2, ha1, ha2, ha0⟩ := pD_ok hz44 (fun E h => by rcases h with ⟨h1, -⟩ | ⟨-, h1, -⟩; exact h1 (isP_i hk); omega)
    have hask : askA (asF σ (cN (nI its))) (cN (nI its)) z44 τ := hask
    have hQZ : QZ qs2 := hQZ
    have hbo2 : BO ad2 τ bo2 := hbo2
    have ha1 : ad2 1 = ad 1 := ha1
    have ha0 : ad2 0 = ad 0 := ha0
    rw [cN_nI (by omega)] at hask
    have hIt := Iv_ask hI hn hk (by omega) hask
    have hP : va_P D vwCl (MC cy ap ah ab ag pf hf bf gf ei ++ WG ad2 cy ((τ) 0 0) ((τ) 0 3) (τ) er ofd de bo2 ql2 qs2 tv) H := hP
    have hD : va_D A (MC cy ap ah ab ag pf hf bf gf ei ++ WG ad2 cy ((τ) 0 0) ((τ) 0 3) (τ) er ofd de bo2 ql2 qs2 tv) := hD
    obtain ⟨σa, hsa⟩ : ∃ x : SF, x = asF σ its := ⟨_, rfl⟩
    rw [← hsa] at hask
    have hIa : Iv (n + 1) σa := by rw [hsa]; exact hI.ask hn hk
    have hEa : EM σa er ei := by rw [hsa]; exact hE
    have ha00 : σa 0 0 = σ 0 0 := by rw [hsa]; rfl
    have ha03 : σa 0 3 = σ 0 3 := by rw [hsa]; rfl
    have ha5 : σa 5 = σ 5 := by rw [hsa]; rfl
    have hka : its < σa 0 0 := by omega
    have hpa := hIa.pr its hka
    have he0 : ad 0 0 = ad2 0 0 := (congrFun ha0 0).symm
    rw [he0] at hl
    refine lv_istore (lv' := [(7, .int z44), (6, .int (nI z34)), (0, .ref ((ad2 0 0))), (1, .ref ap), (2, .ref ah), (3, .ref ab), (4, .ref ag), (5, .int (nI its))]) hx hb dL_isAsked_47 hl (by decide) rfl (fun ls hl => ?_)
    refine lv_aload_n hx hb dL_isAsked_49 rfl (lv_at hl 3 rfl) ?_
    refine lv_iload hx hb dL_isAsked_50 (lv_at hl 1 rfl) ?_
    refine lv_iconst (v := nI 4) hx hb dL_isAsked_52 (by decide) ?_
    refine ln_iadd hx hb dL_isAsked_53 (fun z53 hz53 => ?_)
    refine lv_dup2_11 hx hb dL_isAsked_54 rfl rfl ?_
    refine mp_ld (v := σ 7 its) hx hb hK (mcl hP) (by omega) (hM.p4 hk (by omega)) dL_isAsked_55 ?_
    refine lv_iconst (v := nI 1) hx hb dL_isAsked_56 (by decide) ?_
    refine ln_iadd hx hb dL_isAsked_57 (fun z57 hz57 => ?_)
    refine mp_st hx hb hK hP hD hS (by omega) dL_isAsked_58 (fun H locs hP hD hS => ?_)
    obtain ⟨pf2, hpf2⟩ : ∃ f : Nat → Nat, f = va_up pf z53 z57 := ⟨_, rfl⟩
    rw [← hpf2] at hP hD
    have hMa : MR σa pf2 hf bf gf := by rw [hpf2, hz57, hz53, hz34, hsa]; exact hM.asks
    refine lv_iconst (v := nI 0) hx hb dL_isAsked_59 (by decide) ?_
    refine lv_istore (lv' := [(8, .int (nI 0)), (7, .int z44), (6, .int (nI z34)), (0, .ref ((ad2 0 0))), (1, .ref ap), (2, .ref ah), (3, .ref ab), (4, .ref ag), (5, .int (nI its))]) hx hb dL_isAsked_60 hl (by decide) rfl (fun ls hl => ?_)
    refine lv_iconst (v := nI 0) hx hb dL_isAsked_62 (by decide) ?_
    refine lv_istore (lv' := [(9, .int (nI 0)), (8, .int (nI 0)), (7, .int z44), (6, .int (nI z34)), (0, .ref ((ad2 0 0))), (1, .ref ap), (2, .ref ah), (3, .ref ab), (4, .ref ag), (5, .int (nI its))]) hx hb dL_isAsked_63 hl (by decide) rfl (fun ls hl => ?_)
    refine lv_aload_n hx hb dL_isAsked_65 rfl (lv_at hl 5 rfl) ?_
    refine lv_iload hx hb dL_isAsked_66 (lv_at hl 3 rfl) ?_
    refine mp_ld (v := σa 3 its) hx hb hK (mcl hP) (by omega) (hMa.p0 hka (by omega)) dL_isAsked_68 ?_
    have K71 : ∀ (n71 : Nat) (leg : Nat) (fu : Nat) (gu : Nat), σa 4 its + 1 - leg < n71 → (σa 3 its ≤ leg ∧ leg ≤ σa 4 its + 1) → (pV fu (∃ j, σa 3 its ≤ j ∧ j < leg ∧ aut σa j ≤ σa 2 j)) → (pV gu (∃ j, σa 3 its ≤ j ∧ j < leg ∧ aut σa j ≤ σa 2 j + prot σa j (σa 5 its))) → ∀ (H : Heap) (locs : List Loc), va_P D vwCl (MC cy ap ah ab ag pf2 hf bf gf ei ++ WG ad2 cy ((τ) 0 0) ((τ) 0 3) (τ) er ofd de bo2 ql2 qs2 tv) H → va_D A (MC cy ap ah ab ag pf2 hf bf gf ei ++ WG ad2 cy ((τ) 0 0) ((τ) 0 3) (τ) er ofd de bo2 ql2 qs2 tv) → va_S A H0 H locs → ∀ ls : Array Slot, lv_has ls 12 [(0, .ref ((ad2 0 0))), (1, .ref ap), (2, .ref ah), (3, .ref ab), (4, .ref ag), (5, .int (nI its)), (6, .int (nI z34)), (7, .int z44), (8, .int (nI fu)), (9, .int (nI gu)), (10, .int (nI leg))] → W p l e rmL_isAsked s m args below meth c H locs 2 28 Q (F0 m 71 ls []) := by
      intro n71
      induction n71 with
      | zero =>
        intro leg fu gu hfu
        exact absurd hfu (Nat.not_lt_zero _)
      | succ n71 ih71 =>
        intro leg fu gu hfu hlg hfu hgu H locs hP hD hS ls hl
        have hful := hfu.le
        have hgul := hgu.le
        refine lv_iload hx hb dL_isAsked_71 (lv_at hl 10 rfl) ?_
        refine lv_aload_n hx hb dL_isAsked_73 rfl (lv_at hl 1 rfl) ?_
        refine lv_iload hx hb dL_isAsked_74 (lv_at hl 6 rfl) ?_
        refine lv_iconst (v := nI 1) hx hb dL_isAsked_76 (by decide) ?_
        refine ln_iadd hx hb dL_isAsked_77 (fun z77 hz77 => ?_)
        refine mp_ld (v := σa 4 its) hx hb hK (mcl hP) (by omega) (hMa.p1 hka (by omega)) dL_isAsked_78 ?_
        refine ln_icmp_gt (tgt := 155) hx hb (by omega) (by omega) dL_isAsked_79 (by decide) (fun c79 => ?_) (fun c79 => ?_)
        · skip
          have hle : leg = σa 4 its + 1 := by omega
          have hfull : pV fu (fullA σa (σa 3 its) (σa 4 its)) := by
            rcases hfu with ⟨a1, j, a2, a3, a4⟩ | ⟨a1, a2⟩
            · exact Or.inl ⟨a1, j, a2, by omega, a4⟩
            · exact Or.inr ⟨a1, fun ⟨j, b1, b2, b3⟩ => a2 ⟨j, b1, by omega, b3⟩⟩
          have hprot : pV gu (protA σa (σa 3 its) (σa 4 its) (σa 5 its)) := by
            rcases hgu with ⟨a1, j, a2, a3, a4⟩ | ⟨a1, a2⟩
            · exact Or.inl ⟨a1, j, a2, by omega, a4⟩
            · exact Or.inr ⟨a1, fun ⟨j, b1, b2, b3⟩ => a2 ⟨j, b1, by omega, b3⟩⟩
          rcases hask with ⟨h1, e1, rfl⟩ | ⟨h1, h2, e1, rfl⟩ | ⟨h1, h2, h3, e1, rfl⟩ | ⟨h1, h2, h3, e1, rfl⟩
          · skip
            subst e1
            have hfn : ¬ fu = 0 := fun w => hfull.no w h1
            have hDL2 : DL ad2 (rfF σa 1) de dl := hDL.c ha1 ha00 ha5
            have hof2 : OF ad2 (rfF σa 1) ofd := hof.c ha1 ha00
            refine lv_iload hx hb dL_isAsked_155 (lv_at hl 7 rfl) ?_
            refine lv_if_ge (tgt := 256) hx hb dL_isAsked_157 (by decide) (fun c157 => absurd c157 (by decide)) (fun c157 => ?_)
            refine lv_iconst (v := nI 0) hx hb dL_isAsked_160 (by decide) ?_
            refine lv_istore (lv' := [(10, .int (nI 0)), (0, .ref ((ad2 0 0))), (1, .ref ap), (2, .ref ah), (3, .ref ab), (4, .ref ag), (5, .int (nI its)), (6, .int (nI z34)), (7, .int ((-1))), (8, .int (nI fu)), (9, .int (nI gu))]) hx hb dL_isAsked_161 hl (by decide) rfl (fun ls hl => ?_)
            refine lv_aload_n hx hb dL_isAsked_163 rfl (lv_at hl 2 rfl) ?_
            refine lv_iload hx hb dL_isAsked_164 (lv_at hl 7 rfl) ?_
            refine mp_ld (v := σa 3 its) hx hb hK (mcl hP) (by omega) (hMa.p0 hka (by omega)) dL_isAsked_166 ?_
            have K169 : ∀ (n169 : Nat) (bl : Int32) (lg : Nat) (qlv : Nat → Nat) (qsv : Nat → Nat → Nat), σa 4 its + 1 - lg < n169 → (σa 3 its ≤ lg ∧ lg ≤ σa 4 its + 1) → (bl = bidsI (rfF σa 1) (σa 3 its) (lg - σa 3 its)) → (QZ qsv) → ∀ (H : Heap) (locs : List Loc), va_P D vwCl (MC cy ap ah ab ag pf2 hf bf gf ei ++ WG ad2 cy ((rfF σa 1) 0 0) ((rfF σa 1) 0 3) (rfF σa 1) er ofd de bo2 qlv qsv tv) H → va_D A (MC cy ap ah ab ag pf2 hf bf gf ei ++ WG ad2 cy ((rfF σa 1) 0 0) ((rfF σa 1) 0 3) (rfF σa 1) er ofd de bo2 qlv qsv tv) → va_S A H0 H locs → ∀ ls : Array Slot, lv_has ls 12 [(0, .ref ((ad2 0 0))), (1, .ref ap), (2, .ref ah), (3, .ref ab), (4, .ref ag), (5, .int (nI its)), (6, .int (nI z34)), (7, .int ((-1))), (8, .int (nI fu)), (9, .int (nI gu)), (10, .int bl), (11, .int (nI lg))] → W p l e rmL_isAsked s m args below meth c H locs (2 + lg) (28 + 6 * lg) Q (F0 m 169 ls []) := by
              intro n169
              induction n169 with
              | zero =>
                intro bl lg qlv qsv hfu
                exact absurd hfu (Nat.not_lt_zero _)
              | succ n169 ih169 =>
                intro bl lg qlv qsv hfu hlg2 hbl hQZ H locs hP hD hS ls hl
                refine lv_iload hx hb dL_isAsked_169 (lv_at hl 11 rfl) ?_
                refine lv_aload_n hx hb dL_isAsked_171 rfl (lv_at hl 1 rfl) ?_
                refine lv_iload hx hb dL_isAsked_172 (lv_at hl 6 rfl) ?_
                refine lv_iconst (v := nI 1) hx hb dL_isAsked_174 (by decide) ?_
                refine ln_iadd hx hb dL_isAsked_175 (fun z175 hz175 => ?_)
                refine mp_ld (v := σa 4 its) hx hb hK (mcl hP) (by omega) (hMa.p1 hka (by omega)) dL_isAsked_176 ?_
                refine ln_icmp_gt (tgt := 197) hx hb (by omega) (by omega) dL_isAsked_177 (by decide) (fun c177 => ?_) (fun c177 => ?_)
                · skip
                  refine lv_aload hx hb dL_isAsked_197 (lv_at hl 4 rfl) ?_
                  refine lv_bipush (v := nI 6) hx hb dL_isAsked_199 (by decide) ?_
                  refine lv_iload hx hb dL_isAsked_201 (lv_at hl 7 rfl) ?_
                  refine lv_isub hx hb dL_isAsked_203 ?_
                  rw [show nI 6 - (-1) = nI 7 from by decide]
                  refine lv_dup2_11 hx hb dL_isAsked_204 rfl rfl ?_
                  refine mg_ld (v := σa 15 1) hx hb hK (mcl hP) (by omega) hMa.g7 dL_isAsked_205 ?_
                  refine lv_iconst (v := nI 1) hx hb dL_isAsked_206 (by decide) ?_
                  refine ln_iadd hx hb dL_isAsked_207 (fun z207 hz207 => ?_)
                  refine mg_st hx hb hK hP hD hS (by omega) dL_isAsked_208 (fun H locs hP hD hS => ?_)
                  refine lv_iload hx hb dL_isAsked_209 (lv_at hl 7 rfl) ?_
                  refine lv_iload hx hb dL_isAsked_211 (lv_at hl 8 rfl) ?_
                  refine ln_if_eq (tgt := 220) hx hb (by omega) dL_isAsked_213 (by decide) (fun q => absurd q hfn) (fun _ => ?_)
                  refine lv_iconst (v := -1) hx hb dL_isAsked_216 (by decide) ?_
                  refine lv_goto (tgt := 247) hx hb dL_isAsked_217 (by decide) ?_
                  refine lv_icmp_ne (tgt := 254) hx hb dL_isAsked_247 (by decide) (fun c247 => absurd rfl c247) (fun c247 => ?_)
                  refine lv_iconst (v := nI 1) hx hb dL_isAsked_250 (by decide) ?_
                  refine lv_goto (tgt := 255) hx hb dL_isAsked_251 (by decide) ?_
                  subst hz207
                  refine W.widen (k := 6) (n := 60) (by omega) (by omega) ?_
                  exact hret (ad2, rfF σa 1, er, ofd, de, bo2, qlv, qsv, tv, pf2, hf, bf, va_up gf 7 (σa 15 1 + 1), ei) dL_isAsked_255 hP hD hS ⟨rfl, LJ.mk (congrFun ha0 0) hIt hof2 hbo2 ⟨dl, hDL2⟩ hQZ (hMa.rfs (w := 1) (by omega) (by omega)) hEa⟩
                · skip
                  refine lv_iload hx hb dL_isAsked_180 (lv_at hl 10 rfl) ?_
                  refine lv_aload_n hx hb dL_isAsked_182 rfl (lv_at hl 0 rfl) ?_
                  refine lv_iload hx hb dL_isAsked_183 (lv_at hl 11 rfl) ?_
                  refine xr_calli (vx_runV (As := [.int (nI lg)]) (rest := [.int bl]) ⟨hx, hb, hml, hown, hts⟩ (c_X5_bid l hfl D cy ad2 (rfF σa 1) er ofd de bo2 qlv qsv tv hbo2 hIt hDL2 hQZ ((nI lg)) H.size) (cwV 1 hts gL_isAsked_X5_bid rfl rfl rfl hdX5_bid ⟨Nat.le_of_ble_eq_true rfl, Nat.le_of_ble_eq_true rfl⟩) (xo_preV hK rfl (mcr hP) (hD.subl (List.sublist_append_right _ _)) hXW (hXZ.at hS hD hA (fun _ hq => List.mem_append_right _ hq)) (va_recv hK.1 (mcr hP) (ci := 5) (q0 := 0) rfl rfl)) rfl rfl hl.1 rfl (lv_room (Nat.le_of_ble_eq_true rfl)) dL_isAsked_185 ⟨(by show 2 + lg + 1 ≤ 6; omega), (by show 28 + 6 * lg + 6 ≤ 60; omega)⟩) hS hP hD hA (fun E h => h.1 (okR_i (by omega) (by omega) (by omega))) (fun z185 u185 H locs hz185 hP hD hS => ?_)
                  obtain ⟨qlb, qsb⟩ := u185
                  obtain ⟨-, hz185, hQZ⟩ := hz185
                  rw [cN_nI (by omega)] at hz185
                  have hP : va_P D vwCl (MC cy ap ah ab ag pf2 hf bf gf ei ++ WG ad2 cy ((rfF σa 1) 0 0) ((rfF σa 1) 0 3) (rfF σa 1) er ofd de bo2 qlb qsb tv) H := hP
                  have hD : va_D A (MC cy ap ah ab ag pf2 hf bf gf ei ++ WG ad2 cy ((rfF σa 1) 0 0) ((rfF σa 1) 0 3) (rfF σa 1) er ofd de bo2 qlb qsb tv) := hD
                  refine lv_iadd hx hb dL_isAsked_188 ?_
                  refine lv_istore (lv' := [(10, .int (bl + z185)), (0, .ref ((ad2 0 0))), (1, .ref ap), (2, .ref ah), (3, .ref ab), (4, .ref ag), (5, .int (nI its)), (6, .int (nI z34)), (7, .int ((-1))), (8, .int (nI fu)), (9, .int (nI gu)), (11, .int (nI lg))]) hx hb dL_isAsked_189 hl (by decide) rfl (fun ls hl => ?_)
                  obtain ⟨z191, hz191⟩ : ∃ z : Nat, z = lg + 1 := ⟨_, rfl⟩
                  refine lv_iinc (v := nI z191) (lv' := [(11, .int (nI z191)), (10, .int (bl + z185)), (0, .ref ((ad2 0 0))), (1, .ref ap), (2, .ref ah), (3, .ref ab), (4, .ref ag), (5, .int (nI its)), (6, .int (nI z34)), (7, .int ((-1))), (8, .int (nI fu)), (9, .int (nI gu))]) hx hb dL_isAsked_191 hl (k := 11) rfl (by rw [hz191]; exact nI_add _ 1) (by decide) rfl (fun ls hl => ?_)
                  refine lv_goto (tgt := 169) hx hb dL_isAsked_194 (by decide) ?_
                  refine W.widen (k := 2 + z191) (n := 28 + 6 * z191) (by omega) (by omega) ?_
                  exact ih169 (bl + z185) z191 qlb qsb (by omega) (by omega) (bidsI_s hlg2.1 hbl hz185 hz191) hQZ H locs hP hD hS ls (lv_sub hl [2, 3, 4, 5, 6, 7, 8, 9, 10, 11, 1, 0] rfl)
            refine lv_istore (lv' := [(11, .int (nI (σa 3 its))), (10, .int (nI 0)), (0, .ref ((ad2 0 0))), (1, .ref ap), (2, .ref ah), (3, .ref ab), (4, .ref ag), (5, .int (nI its)), (6, .int (nI z34)), (7, .int ((-1))), (8, .int (nI fu)), (9, .int (nI gu))]) hx hb dL_isAsked_167 hl (by decide) rfl (fun ls hl => ?_)
            refine W.widen (k := 2 + (σa 3 its)) (n := 28 + 6 * (σa 3 its)) (by omega) (by omega) ?_
            exact K169 _ (nI 0) (σa 3 its) ql2 qs2 (Nat.lt_succ_self _) (by omega) (by rw [Nat.sub_self]; exact nI_0) hQZ H locs hP hD hS ls (lv_sub hl [2, 3, 4, 5, 6, 7, 8, 9, 10, 11, 1, 0] rfl)
          · skip
            subst e1
            have hf0 : fu = 0 := by rcases hfull with ⟨-, a2⟩ | ⟨a1, -⟩; exact absurd a2 h1; exact a1
            have hgn : ¬ gu = 0 := fun w => hprot.no w h2
            have hDL2 : DL ad2 (rfF σa 2) de dl := hDL.c ha1 ha00 ha5
            have hof2 : OF ad2 (rfF σa 2) ofd := hof.c ha1 ha00
            refine lv_iload hx hb dL_isAsked_155 (lv_at hl 7 rfl) ?_
            refine lv_if_ge (tgt := 256) hx hb dL_isAsked_157 (by decide) (fun c157 => absurd c157 (by decide)) (fun c157 => ?_)
            refine lv_iconst (v := nI 0) hx hb dL_isAsked_160 (by decide) ?_
            refine lv_istore (lv' := [(10, .int (nI 0)), (0, .ref ((ad2 0 0))), (1, .ref ap), (2, .ref ah), (3, .ref ab), (4, .ref ag), (5, .int (nI its)), (6, .int (nI z34)), (7, .int ((-2))), (8, .int (nI fu)), (9, .int (nI gu))]) hx hb dL_isAsked_161 hl (by decide) rfl (fun ls hl => ?_)
            refine lv_aload_n hx hb dL_isAsked_163 rfl (lv_at hl 2 rfl) ?_
            refine lv_iload hx hb dL_isAsked_164 (lv_at hl 7 rfl) ?_
            refine mp_ld (v := σa 3 its) hx hb hK (mcl hP) (by omega) (hMa.p0 hka (by omega)) dL_isAsked_166 ?_
            have K169 : ∀ (n169 : Nat) (bl : Int32) (lg : Nat) (qlv : Nat → Nat) (qsv : Nat → Nat → Nat), σa 4 its + 1 - lg < n169 → (σa 3 its ≤ lg ∧ lg ≤ σa 4 its + 1) → (bl = bidsI (rfF σa 2) (σa 3 its) (lg - σa 3 its)) → (QZ qsv) → ∀ (H : Heap) (locs : List Loc), va_P D vwCl (MC cy ap ah ab ag pf2 hf bf gf ei ++ WG ad2 cy ((rfF σa 2) 0 0) ((rfF σa 2) 0 3) (rfF σa 2) er ofd de bo2 qlv qsv tv) H → va_D A (MC cy ap ah ab ag pf2 hf bf gf ei ++ WG ad2 cy ((rfF σa 2) 0 0) ((rfF σa 2) 0 3) (rfF σa 2) er ofd de bo2 qlv qsv tv) → va_S A H0 H locs → ∀ ls : Array Slot, lv_has ls 12 [(0, .ref ((ad2 0 0))), (1, .ref ap), (2, .ref ah), (3, .ref ab), (4, .ref ag), (5, .int (nI its)), (6, .int (nI z34)), (7, .int ((-2))), (8, .int (nI fu)), (9, .int (nI gu)), (10, .int bl), (11, .int (nI lg))] → W p l e rmL_isAsked s m args below meth c H locs (2 + lg) (28 + 6 * lg) Q (F0 m 169 ls []) := by
              intro n169
              induction n169 with
              | zero =>
                intro bl lg qlv qsv hfu
                exact absurd hfu (Nat.not_lt_zero _)
              | succ n169 ih169 =>
                intro bl lg qlv qsv hfu hlg2 hbl hQZ H locs hP hD hS ls hl
                refine lv_iload hx hb dL_isAsked_169 (lv_at hl 11 rfl) ?_
                refine lv_aload_n hx hb dL_isAsked_171 rfl (lv_at hl 1 rfl) ?_
                refine lv_iload hx hb dL_isAsked_172 (lv_at hl 6 rfl) ?_
                refine lv_iconst (v := nI 1) hx hb dL_isAsked_174 (by decide) ?_
                refine ln_iadd hx hb dL_isAsked_175 (fun z175 hz175 => ?_)
                refine mp_ld (v := σa 4 its) hx hb hK (mcl hP) (by omega) (hMa.p1 hka (by omega)) dL_isAsked_176 ?_
                refine ln_icmp_gt (tgt := 197) hx hb (by omega) (by omega) dL_isAsked_177 (by decide) (fun c177 => ?_) (fun c177 => ?_)
                · skip
                  refine lv_aload hx hb dL_isAsked_197 (lv_at hl 4 rfl) ?_
                  refine lv_bipush (v := nI 6) hx hb dL_isAsked_199 (by decide) ?_
                  refine lv_iload hx hb dL_isAsked_201 (lv_at hl 7 rfl) ?_
                  refine lv_isub hx hb dL_isAsked_203 ?_
                  rw [show nI 6 - (-2) = nI 8 from by decide]
                  refine lv_dup2_11 hx hb dL_isAsked_204 rfl rfl ?_
                  refine mg_ld (v := σa 15 2) hx hb hK (mcl hP) (by omega) hMa.g8 dL_isAsked_205 ?_
                  refine lv_iconst (v := nI 1) hx hb dL_isAsked_206 (by decide) ?_
                  refine ln_iadd hx hb dL_isAsked_207 (fun z207 hz207 => ?_)
                  refine mg_st hx hb hK hP hD hS (by omega) dL_isAsked_208 (fun H locs hP hD hS => ?_)
                  refine lv_iload hx hb dL_isAsked_209 (lv_at hl 7 rfl) ?_
                  refine lv_iload hx hb dL_isAsked_211 (lv_at hl 8 rfl) ?_
                  refine ln_if_eq (tgt := 220) hx hb (by omega) dL_isAsked_213 (by decide) (fun _ => ?_) (fun q => absurd hf0 q)
                  refine lv_iload hx hb dL_isAsked_220 (lv_at hl 9 rfl) ?_
                  refine ln_if_eq (tgt := 230) hx hb (by omega) dL_isAsked_222 (by decide) (fun q => absurd q hgn) (fun _ => ?_)
                  refine lv_bipush (v := -2) hx hb dL_isAsked_225 (by decide) ?_
                  refine lv_goto (tgt := 247) hx hb dL_isAsked_227 (by decide) ?_
                  refine lv_icmp_ne (tgt := 254) hx hb dL_isAsked_247 (by decide) (fun c247 => absurd rfl c247) (fun c247 => ?_)
                  refine lv_iconst (v := nI 1) hx hb dL_isAsked_250 (by decide) ?_
                  refine lv_goto (tgt := 255) hx hb dL_isAsked_251 (by decide) ?_
                  subst hz207
                  refine W.widen (k := 6) (n := 60) (by omega) (by omega) ?_
                  exact hret (ad2, rfF σa 2, er, ofd, de, bo2, qlv, qsv, tv, pf2, hf, bf, va_up gf 8 (σa 15 2 + 1), ei) dL_isAsked_255 hP hD hS ⟨rfl, LJ.mk (congrFun ha0 0) hIt hof2 hbo2 ⟨dl, hDL2⟩ hQZ (hMa.rfs (w := 2) (by omega) (by omega)) hEa⟩
                · skip
                  refine lv_iload hx hb dL_isAsked_180 (lv_at hl 10 rfl) ?_
                  refine lv_aload_n hx hb dL_isAsked_182 rfl (lv_at hl 0 rfl) ?_
                  refine lv_iload hx hb dL_isAsked_183 (lv_at hl 11 rfl) ?_
                  refine xr_calli (vx_runV (As := [.int (nI lg)]) (rest := [.int bl]) ⟨hx, hb, hml, hown, hts⟩ (c_X5_bid l hfl D cy ad2 (rfF σa 2) er ofd de bo2 qlv qsv tv hbo2 hIt hDL2 hQZ ((nI lg)) H.size) (cwV 1 hts gL_isAsked_X5_bid rfl rfl rfl hdX5_bid ⟨Nat.le_of_ble_eq_true rfl, Nat.le_of_ble_eq_true rfl⟩) (xo_preV hK rfl (mcr hP) (hD.subl (List.sublist_append_right _ _)) hXW (hXZ.at hS hD hA (fun _ hq => List.mem_append_right _ hq)) (va_recv hK.1 (mcr hP) (ci := 5) (q0 := 0) rfl rfl)) rfl rfl hl.1 rfl (lv_room (Nat.le_of_ble_eq_true rfl)) dL_isAsked_185 ⟨(by show 2 + lg + 1 ≤ 6; omega), (by show 28 + 6 * lg + 6 ≤ 60; omega)⟩) hS hP hD hA (fun E h => h.1 (okR_i (by omega) (by omega) (by omega))) (fun z185 u185 H locs hz185 hP hD hS => ?_)
                  obtain ⟨qlb, qsb⟩ := u185
                  obtain ⟨-, hz185, hQZ⟩ := hz185
                  rw [cN_nI (by omega)] at hz185
                  have hP : va_P D vwCl (MC cy ap ah ab ag pf2 hf bf gf ei ++ WG ad2 cy ((rfF σa 2) 0 0) ((rfF σa 2) 0 3) (rfF σa 2) er ofd de bo2 qlb qsb tv) H := hP
                  have hD : va_D A (MC cy ap ah ab ag pf2 hf bf gf ei ++ WG ad2 cy ((rfF σa 2) 0 0) ((rfF σa 2) 0 3) (rfF σa 2) er ofd de bo2 qlb qsb tv) := hD
                  refine lv_iadd hx hb dL_isAsked_188 ?_
                  refine lv_istore (lv' := [(10, .int (bl + z185)), (0, .ref ((ad2 0 0))), (1, .ref ap), (2, .ref ah), (3, .ref ab), (4, .ref ag), (5, .int (nI its)), (6, .int (nI z34)), (7, .int ((-2))), (8, .int (nI fu)), (9, .int (nI gu)), (11, .int (nI lg))]) hx hb dL_isAsked_189 hl (by decide) rfl (fun ls hl => ?_)
                  obtain ⟨z191, hz191⟩ : ∃ z : Nat, z = lg + 1 := ⟨_, rfl⟩
                  refine lv_iinc (v := nI z191) (lv' := [(11, .int (nI z191)), (10, .int (bl + z185)), (0, .ref ((ad2 0 0))), (1, .ref ap), (2, .ref ah), (3, .ref ab), (4, .ref ag), (5, .int (nI its)), (6, .int (nI z34)), (7, .int ((-2))), (8, .int (nI fu)), (9, .int (nI gu))]) hx hb dL_isAsked_191 hl (k := 11) rfl (by rw [hz191]; exact nI_add _ 1) (by decide) rfl (fun ls hl => ?_)
                  refine lv_goto (tgt := 169) hx hb dL_isAsked_194 (by decide) ?_
                  refine W.widen (k := 2 + z191) (n := 28 + 6 * z191) (by omega) (by omega) ?_
                  exact ih169 (bl + z185) z191 qlb qsb (by omega) (by omega) (bidsI_s hlg2.1 hbl hz185 hz191) hQZ H locs hP hD hS ls (lv_sub hl [2, 3, 4, 5, 6, 7, 8, 9, 10, 11, 1, 0] rfl)
            refine lv_istore (lv' := [(11, .int (nI (σa 3 its))), (10, .int (nI 0)), (0, .ref ((ad2 0 0))), (1, .ref ap), (2, .ref ah), (3, .ref ab), (4, .ref ag), (5, .int (nI its)), (6, .int (nI z34)), (7, .int ((-2))), (8, .int (nI fu)), (9, .int (nI gu))]) hx hb dL_isAsked_167 hl (by decide) rfl (fun ls hl => ?_)
            refine W.widen (k := 2 + (σa 3 its)) (n := 28 + 6 * (σa 3 its)) (by omega) (by omega) ?_
            exact K169 _ (nI 0) (σa 3 its) ql2 qs2 (Nat.lt_succ_self _) (by omega) (by rw [Nat.sub_self]; exact nI_0) hQZ H locs hP hD hS ls (lv_sub hl [2, 3, 4, 5, 6, 7, 8, 9, 10, 11, 1, 0] rfl)
          · skip
            subst e1
            have hf0 : fu = 0 := by rcases hfull with ⟨-, a2⟩ | ⟨a1, -⟩; exact absurd a2 h1; exact a1
            have hg0 : gu = 0 := by rcases hprot with ⟨-, a2⟩ | ⟨a1, -⟩; exact absurd a2 h2; exact a1
            have hDL2 : DL ad2 (rfF σa 3) de dl := hDL.c ha1 ha00 ha5
            have hof2 : OF ad2 (rfF σa 3) ofd := hof.c ha1 ha00
            refine lv_iload hx hb dL_isAsked_155 (lv_at hl 7 rfl) ?_
            refine lv_if_ge (tgt := 256) hx hb dL_isAsked_157 (by decide) (fun c157 => absurd c157 (by decide)) (fun c157 => ?_)
            refine lv_iconst (v := nI 0) hx hb dL_isAsked_160 (by decide) ?_
            refine lv_istore (lv' := [(10, .int (nI 0)), (0, .ref ((ad2 0 0))), (1, .ref ap), (2, .ref ah), (3, .ref ab), (4, .ref ag), (5, .int (nI its)), (6, .int (nI z34)), (7, .int ((-3))), (8, .int (nI fu)), (9, .int (nI gu))]) hx hb dL_isAsked_161 hl (by decide) rfl (fun ls hl => ?_)
            refine lv_aload_n hx hb dL_isAsked_163 rfl (lv_at hl 2 rfl) ?_
            refine lv_iload hx hb dL_isAsked_164 (lv_at hl 7 rfl) ?_
            refine mp_ld (v := σa 3 its) hx hb hK (mcl hP) (by omega) (hMa.p0 hka (by omega)) dL_isAsked_166 ?_
            have K169 : ∀ (n169 : Nat) (bl : Int32) (lg : Nat) (qlv : Nat → Nat) (qsv : Nat → Nat → Nat), σa 4 its + 1 - lg < n169 → (σa 3 its ≤ lg ∧ lg ≤ σa 4 its + 1) → (bl = bidsI (rfF σa 3) (σa 3 its) (lg - σa 3 its)) → (QZ qsv) → ∀ (H : Heap) (locs : List Loc), va_P D vwCl (MC cy ap ah ab ag pf2 hf bf gf ei ++ WG ad2 cy ((rfF σa 3) 0 0) ((rfF σa 3) 0 3) (rfF σa 3) er ofd de bo2 qlv qsv tv) H → va_D A (MC cy ap ah ab ag pf2 hf bf gf ei ++ WG ad2 cy ((rfF σa 3) 0 0) ((rfF σa 3) 0 3) (rfF σa 3) er ofd de bo2 qlv qsv tv) → va_S A H0 H locs → ∀ ls : Array Slot, lv_has ls 12 [(0, .ref ((ad2 0 0))), (1, .ref ap), (2, .ref ah), (3, .ref ab), (4, .ref ag), (5, .int (nI its)), (6, .int (nI z34)), (7, .int ((-3))), (8, .int (nI fu)), (9, .int (nI gu)), (10, .int bl), (11, .int (nI lg))] → W p l e rmL_isAsked s m args below meth c H locs (2 + lg) (28 + 6 * lg) Q (F0 m 169 ls []) := by
              intro n169
              induction n169 with
              | zero =>
                intro bl lg qlv qsv hfu
                exact absurd hfu (Nat.not_lt_zero _)
              | succ n169 ih169 =>
                intro bl lg qlv qsv hfu hlg2 hbl hQZ H locs hP hD hS ls hl
                refine lv_iload hx hb dL_isAsked_169 (lv_at hl 11 rfl) ?_
                refine lv_aload_n hx hb dL_isAsked_171 rfl (lv_at hl 1 rfl) ?_
                refine lv_iload hx hb dL_isAsked_172 (lv_at hl 6 rfl) ?_
                refine lv_iconst (v := nI 1) hx hb dL_isAsked_174 (by decide) ?_
                refine ln_iadd hx hb dL_isAsked_175 (fun z175 hz175 => ?_)
                refine mp_ld (v := σa 4 its) hx hb hK (mcl hP) (by omega) (hMa.p1 hka (by omega)) dL_isAsked_176 ?_
                refine ln_icmp_gt (tgt := 197) hx hb (by omega) (by omega) dL_isAsked_177 (by decide) (fun c177 => ?_) (fun c177 => ?_)
                · skip
                  refine lv_aload hx hb dL_isAsked_197 (lv_at hl 4 rfl) ?_
                  refine lv_bipush (v := nI 6) hx hb dL_isAsked_199 (by decide) ?_
                  refine lv_iload hx hb dL_isAsked_201 (lv_at hl 7 rfl) ?_
                  refine lv_isub hx hb dL_isAsked_203 ?_
                  rw [show nI 6 - (-3) = nI 9 from by decide]
                  refine lv_dup2_11 hx hb dL_isAsked_204 rfl rfl ?_
                  refine mg_ld (v := σa 15 3) hx hb hK (mcl hP) (by omega) hMa.g9 dL_isAsked_205 ?_
                  refine lv_iconst (v := nI 1) hx hb dL_isAsked_206 (by decide) ?_
                  refine ln_iadd hx hb dL_isAsked_207 (fun z207 hz207 => ?_)
                  refine mg_st hx hb hK hP hD hS (by omega) dL_isAsked_208 (fun H locs hP hD hS => ?_)
                  refine lv_iload hx hb dL_isAsked_209 (lv_at hl 7 rfl) ?_
                  refine lv_iload hx hb dL_isAsked_211 (lv_at hl 8 rfl) ?_
                  refine ln_if_eq (tgt := 220) hx hb (by omega) dL_isAsked_213 (by decide) (fun _ => ?_) (fun q => absurd hf0 q)
                  refine lv_iload hx hb dL_isAsked_220 (lv_at hl 9 rfl) ?_
                  refine ln_if_eq (tgt := 230) hx hb (by omega) dL_isAsked_222 (by decide) (fun _ => ?_) (fun q => absurd hg0 q)
                  refine lv_iload hx hb dL_isAsked_230 (lv_at hl 10 rfl) ?_
                  refine lv_aload_n hx hb dL_isAsked_232 rfl (lv_at hl 1 rfl) ?_
                  refine lv_iload hx hb dL_isAsked_233 (lv_at hl 6 rfl) ?_
                  refine lv_iconst (v := nI 2) hx hb dL_isAsked_235 (by decide) ?_
                  refine ln_iadd hx hb dL_isAsked_236 (fun z236 hz236 => ?_)
                  refine mp_ld (v := σa 5 its) hx hb hK (mcl hP) (by omega) (hMa.p2 hka (by omega)) dL_isAsked_237 ?_
                  refine lv_icmp_le (tgt := 246) hx hb dL_isAsked_238 (by decide) (fun c238 => absurd c238 (Int32.not_le.mpr (by rw [hbl, bidsI_rf, show lg = σa 4 its + 1 by omega]; exact h3))) (fun c238 => ?_)
                  refine lv_bipush (v := -3) hx hb dL_isAsked_241 (by decide) ?_
                  refine lv_goto (tgt := 247) hx hb dL_isAsked_243 (by decide) ?_
                  refine lv_icmp_ne (tgt := 254) hx hb dL_isAsked_247 (by decide) (fun c247 => absurd rfl c247) (fun c247 => ?_)
                  refine lv_iconst (v := nI 1) hx hb dL_isAsked_250 (by decide) ?_
                  refine lv_goto (tgt := 255) hx hb dL_isAsked_251 (by decide) ?_
                  subst hz207
                  refine W.widen (k := 6) (n := 60) (by omega) (by omega) ?_
                  exact hret (ad2, rfF σa 3, er, ofd, de, bo2, qlv, qsv, tv, pf2, hf, bf, va_up gf 9 (σa 15 3 + 1), ei) dL_isAsked_255 hP hD hS ⟨rfl, LJ.mk (congrFun ha0 0) hIt hof2 hbo2 ⟨dl, hDL2⟩ hQZ (hMa.rfs (w := 3) (by omega) (by omega)) hEa⟩
                · skip
                  refine lv_iload hx hb dL_isAsked_180 (lv_at hl 10 rfl) ?_
                  refine lv_aload_n hx hb dL_isAsked_182 rfl (lv_at hl 0 rfl) ?_
                  refine lv_iload hx hb dL_isAsked_183 (lv_at hl 11 rfl) ?_
                  refine xr_calli (vx_runV (As := [.int (nI lg)]) (rest := [.int bl]) ⟨hx, hb, hml, hown, hts⟩ (c_X5_bid l hfl D cy ad2 (rfF σa 3) er ofd de bo2 qlv qsv tv hbo2 hIt hDL2 hQZ ((nI lg)) H.size) (cwV 1 hts gL_isAsked_X5_bid rfl rfl rfl hdX5_bid ⟨Nat.le_of_ble_eq_true rfl, Nat.le_of_ble_eq_true rfl⟩) (xo_preV hK rfl (mcr hP) (hD.subl (List.sublist_append_right _ _)) hXW (hXZ.at hS hD hA (fun _ hq => List.mem_append_right _ hq)) (va_recv hK.1 (mcr hP) (ci := 5) (q0 := 0) rfl rfl)) rfl rfl hl.1 rfl (lv_room (Nat.le_of_ble_eq_true rfl)) dL_isAsked_185 ⟨(by show 2 + lg + 1 ≤ 6; omega), (by show 28 + 6 * lg + 6 ≤ 60; omega)⟩) hS hP hD hA (fun E h => h.1 (okR_i (by omega) (by omega) (by omega))) (fun z185 u185 H locs hz185 hP hD hS => ?_)
                  obtain ⟨qlb, qsb⟩ := u185
                  obtain ⟨-, hz185, hQZ⟩ := hz185
                  rw [cN_nI (by omega)] at hz185
                  have hP : va_P D vwCl (MC cy ap ah ab ag pf2 hf bf gf ei ++ WG ad2 cy ((rfF σa 3) 0 0) ((rfF σa 3) 0 3) (rfF σa 3) er ofd de bo2 qlb qsb tv) H := hP
                  have hD : va_D A (MC cy ap ah ab ag pf2 hf bf gf ei ++ WG ad2 cy ((rfF σa 3) 0 0) ((rfF σa 3) 0 3) (rfF σa 3) er ofd de bo2 qlb qsb tv) := hD
                  refine lv_iadd hx hb dL_isAsked_188 ?_
                  refine lv_istore (lv' := [(10, .int (bl + z185)), (0, .ref ((ad2 0 0))), (1, .ref ap), (2, .ref ah), (3, .ref ab), (4, .ref ag), (5, .int (nI its)), (6, .int (nI z34)), (7, .int ((-3))), (8, .int (nI fu)), (9, .int (nI gu)), (11, .int (nI lg))]) hx hb dL_isAsked_189 hl (by decide) rfl (fun ls hl => ?_)
                  obtain ⟨z191, hz191⟩ : ∃ z : Nat, z = lg + 1 := ⟨_, rfl⟩
                  refine lv_iinc (v := nI z191) (lv' := [(11, .int (nI z191)), (10, .int (bl + z185)), (0, .ref ((ad2 0 0))), (1, .ref ap), (2, .ref ah), (3, .ref ab), (4, .ref ag), (5, .int (nI its)), (6, .int (nI z34)), (7, .int ((-3))), (8, .int (nI fu)), (9, .int (nI gu))]) hx hb dL_isAsked_191 hl (k := 11) rfl (by rw [hz191]; exact nI_add _ 1) (by decide) rfl (fun ls hl => ?_)
                  refine lv_goto (tgt := 169) hx hb dL_isAsked_194 (by decide) ?_
                  refine W.widen (k := 2 + z191) (n := 28 + 6 * z191) (by omega) (by omega) ?_
                  exact ih169 (bl + z185) z191 qlb qsb (by omega) (by omega) (bidsI_s hlg2.1 hbl hz185 hz191) hQZ H locs hP hD hS ls (lv_sub hl [2, 3, 4, 5, 6, 7, 8, 9, 10, 11, 1, 0] rfl)
            refine lv_istore (lv' := [(11, .int (nI (σa 3 its))), (10, .int (nI 0)), (0, .ref ((ad2 0 0))), (1, .ref ap), (2, .ref ah), (3, .ref ab), (4, .ref ag), (5, .int (nI its)), (6, .int (nI z34)), (7, .int ((-3))), (8, .int (nI fu)), (9, .int (nI gu))]) hx hb dL_isAsked_167 hl (by decide) rfl (fun ls hl => ?_)
            refine W.widen (k := 2 + (σa 3 its)) (n := 28 + 6 * (σa 3 its)) (by omega) (by omega) ?_
            exact K169 _ (nI 0) (σa 3 its) ql2 qs2 (Nat.lt_succ_self _) (by omega) (by rw [Nat.sub_self]; exact nI_0) hQZ H locs hP hD hS ls (lv_sub hl [2, 3, 4, 5, 6, 7, 8, 9, 10, 11, 1, 0] rfl)
          · skip
            subst e1
            have hf0 : fu = 0 := by rcases hfull with ⟨-, a2⟩ | ⟨a1, -⟩; exact absurd a2 h1; exact a1
            have hg0 : gu = 0 := by rcases hprot with ⟨-, a2⟩ | ⟨a1, -⟩; exact absurd a2 h2; exact a1
            have hDL2 : DL ad2 (bookF σa (σa 3 its) (σa 4 its) 1 (σa 5 its)) de dl := hDL.c ha1 ha00 ha5
            have hof2 : OF ad2 (bookF σa (σa 3 its) (σa 4 its) 1 (σa 5 its)) ofd := hof.c ha1 ha00
            refine lv_iload hx hb dL_isAsked_155 (lv_at hl 7 rfl) ?_
            refine ln_if_ge (tgt := 256) hx hb (by omega) dL_isAsked_157 (by decide) ?_
            refine lv_iload hx hb dL_isAsked_256 (lv_at hl 8 rfl) ?_
            refine ln_if_ne (tgt := 280) hx hb (by omega) dL_isAsked_258 (by decide) (fun q => absurd hf0 q) (fun _ => ?_)
            refine lv_iload hx hb dL_isAsked_261 (lv_at hl 9 rfl) ?_
            refine ln_if_ne (tgt := 280) hx hb (by omega) dL_isAsked_263 (by decide) (fun q => absurd hg0 q) (fun _ => ?_)
            refine lv_iload hx hb dL_isAsked_266 (lv_at hl 7 rfl) ?_
            refine lv_aload hx hb dL_isAsked_268 (lv_at hl 4 rfl) ?_
            refine lv_bipush (v := nI 6) hx hb dL_isAsked_270 (by decide) ?_
            refine mg_ld (v := (σa 0 3)) hx hb hK (mcl hP) (by omega) hMa.g6 dL_isAsked_272 ?_
            refine lv_icmp_ne (tgt := 280) hx hb dL_isAsked_273 (by decide) (fun c273 => absurd rfl c273) (fun c273 => ?_)
            refine lv_iconst (v := nI 1) hx hb dL_isAsked_276 (by decide) ?_
            refine lv_goto (tgt := 281) hx hb dL_isAsked_277 (by decide) ?_
            refine lv_istore (lv' := [(10, .int (nI 1)), (0, .ref ((ad2 0 0))), (1, .ref ap), (2, .ref ah), (3, .ref ab), (4, .ref ag), (5, .int (nI its)), (6, .int (nI z34)), (7, .int (nI ((σa 0 3)))), (8, .int (nI fu)), (9, .int (nI gu))]) hx hb dL_isAsked_281 hl (by decide) rfl (fun ls hl => ?_)
            refine lv_aload_n hx hb dL_isAsked_283 rfl (lv_at hl 4 rfl) ?_
            refine lv_aload hx hb dL_isAsked_284 (lv_at hl 5 rfl) ?_
            refine lv_aload_n hx hb dL_isAsked_286 rfl (lv_at hl 2 rfl) ?_
            refine lv_iload hx hb dL_isAsked_287 (lv_at hl 7 rfl) ?_
            refine mp_ld (v := σa 3 its) hx hb hK (mcl hP) (by omega) (hMa.p0 hka (by omega)) dL_isAsked_289 ?_
            refine lv_aload_n hx hb dL_isAsked_290 rfl (lv_at hl 2 rfl) ?_
            refine lv_iload hx hb dL_isAsked_291 (lv_at hl 7 rfl) ?_
            refine lv_iconst (v := nI 1) hx hb dL_isAsked_293 (by decide) ?_
            refine ln_iadd hx hb dL_isAsked_294 (fun z294 hz294 => ?_)
            refine mp_ld (v := σa 4 its) hx hb hK (mcl hP) (by omega) (hMa.p1 hka (by omega)) dL_isAsked_295 ?_
            refine lv_iconst (v := nI 1) hx hb dL_isAsked_296 (by decide) ?_
            refine lv_aload_n hx hb dL_isAsked_297 rfl (lv_at hl 2 rfl) ?_
            refine lv_iload hx hb dL_isAsked_298 (lv_at hl 7 rfl) ?_
            refine lv_iconst (v := nI 2) hx hb dL_isAsked_300 (by decide) ?_
            refine ln_iadd hx hb dL_isAsked_301 (fun z301 hz301 => ?_)
            refine mp_ld (v := σa 5 its) hx hb hK (mcl hP) (by omega) (hMa.p2 hka (by omega)) dL_isAsked_302 ?_
            refine mw_callv (va_runS (As := [.ref ab, .ref ag, .int (nI (σa 3 its)), .int (nI (σa 4 its)), .int (nI 1), .int (nI (σa 5 its))]) (rest := []) ⟨hx, hb, hml, hown, hts⟩ (c_L_books l D cy ap ah ab ag pf2 hf bf gf ei (WG ad2 cy ((bookF σa (σa 3 its) (σa 4 its) 1 (σa 5 its)) 0 0) ((bookF σa (σa 3 its) (σa 4 its) 1 (σa 5 its)) 0 3) (bookF σa (σa 3 its) (σa 4 its) 1 (σa 5 its)) er ofd de bo2 ql2 qs2 tv) ((σa 0 3)) (σa 3 its) (σa 4 its) 1 (σa 5 its) hMa.g6 (by omega) H.size) (va_cwS 6 hts gL_isAsked_L_books rfl rfl rfl hdL_books.2 ⟨Nat.le_of_ble_eq_true rfl, Nat.le_of_ble_eq_true rfl⟩) (mo_pre hK rfl hP hD) rfl rfl hl.1 rfl (lv_room (Nat.le_of_ble_eq_true rfl)) dL_isAsked_303 ⟨(by show 2 + 0 ≤ 6; omega), (by show 28 + 0 ≤ 60; omega)⟩) hS hD hA (fun u303 H locs hr303 hP hD hS => ?_)
            have hP : va_P D vwCl (MC cy ap ah ab ag pf2 hf (va_up (va_up bf ((σa 0 3)) (1000 * (σa 3 its) + 100 * (σa 4 its) + 1)) (20 + ((σa 0 3))) (σa 5 its)) (va_up gf 6 ((σa 0 3) + 1)) ei ++ WG ad2 cy ((bookF σa (σa 3 its) (σa 4 its) 1 (σa 5 its)) 0 0) ((bookF σa (σa 3 its) (σa 4 its) 1 (σa 5 its)) 0 3) (bookF σa (σa 3 its) (σa 4 its) 1 (σa 5 its)) er ofd de bo2 ql2 qs2 tv) H := hP
            have hD : va_D A (MC cy ap ah ab ag pf2 hf (va_up (va_up bf ((σa 0 3)) (1000 * (σa 3 its) + 100 * (σa 4 its) + 1)) (20 + ((σa 0 3))) (σa 5 its)) (va_up gf 6 ((σa 0 3) + 1)) ei ++ WG ad2 cy ((bookF σa (σa 3 its) (σa 4 its) 1 (σa 5 its)) 0 0) ((bookF σa (σa 3 its) (σa 4 its) 1 (σa 5 its)) 0 3) (bookF σa (σa 3 its) (σa 4 its) 1 (σa 5 its)) er ofd de bo2 ql2 qs2 tv) := hD
            refine lv_iload hx hb dL_isAsked_306 (lv_at hl 0 rfl) ?_
            refine W.widen (k := 6) (n := 60) (by omega) (by omega) ?_
            exact hret (ad2, bookF σa (σa 3 its) (σa 4 its) 1 (σa 5 its), er, ofd, de, bo2, ql2, qs2, tv, pf2, hf, va_up (va_up bf ((σa 0 3)) (1000 * (σa 3 its) + 100 * (σa 4 its) + 1)) (20 + ((σa 0 3))) (σa 5 its), va_up gf 6 ((σa 0 3) + 1), ei) dL_isAsked_308 hP hD hS ⟨rfl, LJ.mk (congrFun ha0 0) hIt hof2 hbo2 ⟨dl, hDL2⟩ hQZ (hMa.boks (by omega) (Nat.le_refl _) (by omega)) hEa⟩
        · skip
          have hl3 : leg < 3 := by omega
          have hau := aut_le hIa hl3
          have hbk := hIa.bkle leg hl3
          have hpr : prot σa leg (σa 5 its) ≤ 20 * σa 0 0 := prS_le _
          have hnpa := hIa.np
          have K115 : ∀ (x1 : Nat), (pV x1 (∃ j, σa 3 its ≤ j ∧ j < leg + 1 ∧ aut σa j ≤ σa 2 j)) → ∀ (H : Heap) (locs : List Loc), va_P D vwCl (MC cy ap ah ab ag pf2 hf bf gf ei ++ WG ad2 cy ((τ) 0 0) ((τ) 0 3) (τ) er ofd de bo2 ql2 qs2 tv) H → va_D A (MC cy ap ah ab ag pf2 hf bf gf ei ++ WG ad2 cy ((τ) 0 0) ((τ) 0 3) (τ) er ofd de bo2 ql2 qs2 tv) → va_S A H0 H locs → ∀ ls : Array Slot, lv_has ls 12 [(0, .ref ((ad2 0 0))), (1, .ref ap), (2, .ref ah), (3, .ref ab), (4, .ref ag), (5, .int (nI its)), (6, .int (nI z34)), (7, .int z44), (8, .int (nI fu)), (9, .int (nI gu)), (10, .int (nI leg)), (11, .int (nI (aut σa leg) - nI (σa 2 leg)))] → W p l e rmL_isAsked s m args below meth c H locs 2 28 Q (F0 m 115 ls [.int (nI x1)]) := by
            intro x1 hx1 H locs hP hD hS ls hl
            refine lv_istore (lv' := [(8, .int (nI x1)), (0, .ref ((ad2 0 0))), (1, .ref ap), (2, .ref ah), (3, .ref ab), (4, .ref ag), (5, .int (nI its)), (6, .int (nI z34)), (7, .int z44), (9, .int (nI gu)), (10, .int (nI leg)), (11, .int (nI (aut σa leg) - nI (σa 2 leg)))]) hx hb dL_isAsked_115 hl (by decide) rfl (fun ls hl => ?_)
            have K147 : ∀ (x2 : Nat), (pV x2 (∃ j, σa 3 its ≤ j ∧ j < leg + 1 ∧ aut σa j ≤ σa 2 j + prot σa j (σa 5 its))) → ∀ (H : Heap) (locs : List Loc), va_P D vwCl (MC cy ap ah ab ag pf2 hf bf gf ei ++ WG ad2 cy ((τ) 0 0) ((τ) 0 3) (τ) er ofd de bo2 ql2 qs2 tv) H → va_D A (MC cy ap ah ab ag pf2 hf bf gf ei ++ WG ad2 cy ((τ) 0 0) ((τ) 0 3) (τ) er ofd de bo2 ql2 qs2 tv) → va_S A H0 H locs → ∀ ls : Array Slot, lv_has ls 12 [(0, .ref ((ad2 0 0))), (1, .ref ap), (2, .ref ah), (3, .ref ab), (4, .ref ag), (5, .int (nI its)), (6, .int (nI z34)), (7, .int z44), (8, .int (nI x1)), (9, .int (nI gu)), (10, .int (nI leg))] → W p l e rmL_isAsked s m args below meth c H locs 2 28 Q (F0 m 147 ls [.int (nI x2)]) := by
              intro x2 hx2 H locs hP hD hS ls hl
              refine lv_istore (lv' := [(9, .int (nI x2)), (0, .ref ((ad2 0 0))), (1, .ref ap), (2, .ref ah), (3, .ref ab), (4, .ref ag), (5, .int (nI its)), (6, .int (nI z34)), (7, .int z44), (8, .int (nI x1)), (10, .int (nI leg))]) hx hb dL_isAsked_147 hl (by decide) rfl (fun ls hl => ?_)
              obtain ⟨z149, hz149⟩ : ∃ z : Nat, z = leg + 1 := ⟨_, rfl⟩
              refine lv_iinc (v := nI z149) (lv' := [(10, .int (nI z149)), (9, .int (nI x2)), (0, .ref ((ad2 0 0))), (1, .ref ap), (2, .ref ah), (3, .ref ab), (4, .ref ag), (5, .int (nI its)), (6, .int (nI z34)), (7, .int z44), (8, .int (nI x1))]) hx hb dL_isAsked_149 hl (k := 10) rfl (by rw [hz149]; exact nI_add _ 1) (by decide) rfl (fun ls hl => ?_)
              refine lv_goto (tgt := 71) hx hb dL_isAsked_152 (by decide) ?_
              exact ih71 z149 x1 x2 (by omega) (by omega) (by rw [hz149]; exact hx1) (by rw [hz149]; exact hx2) H locs hP hD hS ls (lv_sub hl [2, 3, 4, 5, 6, 7, 8, 9, 10, 1, 0] rfl)
            refine lv_iload hx hb dL_isAsked_117 (lv_at hl 9 rfl) ?_
            refine ln_if_ne (tgt := 142) hx hb (by omega) dL_isAsked_119 (by decide) (fun c119 => ?_) (fun c119 => ?_)
            · skip
              refine lv_iconst (v := nI 1) hx hb dL_isAsked_142 (by decide) ?_
              refine lv_goto (tgt := 147) hx hb dL_isAsked_143 (by decide) ?_
              exact K147 1 (pV.t (by obtain ⟨j, h1, h2, h3⟩ := hgu.yes c119; exact ⟨j, h1, by omega, h3⟩)) H locs hP hD hS ls (lv_sub hl [1, 2, 3, 4, 5, 6, 7, 8, 0, 9, 10] rfl)
            · skip
              refine lv_iload hx hb dL_isAsked_122 (lv_at hl 11 rfl) ?_
              refine lv_aload_n hx hb dL_isAsked_124 rfl (lv_at hl 2 rfl) ?_
              refine lv_aload_n hx hb dL_isAsked_125 rfl (lv_at hl 3 rfl) ?_
              refine lv_aload hx hb dL_isAsked_126 (lv_at hl 5 rfl) ?_
              refine lv_iload hx hb dL_isAsked_128 (lv_at hl 10 rfl) ?_
              refine lv_aload_n hx hb dL_isAsked_130 rfl (lv_at hl 2 rfl) ?_
              refine lv_iload hx hb dL_isAsked_131 (lv_at hl 7 rfl) ?_
              refine lv_iconst (v := nI 2) hx hb dL_isAsked_133 (by decide) ?_
              refine ln_iadd hx hb dL_isAsked_134 (fun z134 hz134 => ?_)
              refine mp_ld (v := σa 5 its) hx hb hK (mcl hP) (by omega) (hMa.p2 hka (by omega)) dL_isAsked_135 ?_
              refine ro_calliN (va_runS (As := [.ref ap, .ref ah, .ref ag, .int (nI leg), .int (nI (σa 5 its))]) (rest := [.int (nI (aut σa leg) - nI (σa 2 leg))]) ⟨hx, hb, hml, hown, hts⟩ (c_L_guarded l D cy ap ah ab ag pf2 hf bf gf ei σa hIa hMa leg (σa 5 its) hl3 (by omega) (by omega) H (mcl hP)) (va_cwS 5 hts gL_isAsked_L_guarded rfl rfl rfl hdL_guarded.2 ⟨Nat.le_of_ble_eq_true rfl, Nat.le_of_ble_eq_true rfl⟩) (ro_pre hK rfl) rfl rfl hl.1 rfl (lv_room (Nat.le_of_ble_eq_true rfl)) dL_isAsked_136 ⟨(by show 2 + 0 ≤ 6; omega), (by show 28 + 0 ≤ 60; omega)⟩) (fun z136 hz136 => ?_)
              subst hz136
              refine lv_icmp_gt (tgt := 146) hx hb dL_isAsked_139 (by decide) (fun c139 => ?_) (fun c139 => ?_)
              · skip
                refine lv_iconst (v := nI 0) hx hb dL_isAsked_146 (by decide) ?_
                exact K147 0 (pV.f (fun ⟨j, h1, h2, h3⟩ => by rcases Nat.lt_or_ge j leg with w | w; exact hgu.no c119 ⟨j, h1, w, h3⟩; rw [show j = leg by omega] at h3; exact absurd ((sb_gt (by omega) (by omega) (by omega)).mp c139) (by omega))) H locs hP hD hS ls (lv_sub hl [1, 2, 3, 4, 5, 6, 7, 8, 0, 9, 10] rfl)
              · skip
                refine lv_iconst (v := nI 1) hx hb dL_isAsked_142 (by decide) ?_
                refine lv_goto (tgt := 147) hx hb dL_isAsked_143 (by decide) ?_
                exact K147 1 (pV.t ⟨leg, hlg.1, by omega, Nat.le_of_not_lt (fun w => c139 ((sb_gt (by omega) (by omega) (by omega)).mpr w))⟩) H locs hP hD hS ls (lv_sub hl [1, 2, 3, 4, 5, 6, 7, 8, 0, 9, 10] rfl)
          refine lv_aload hx hb dL_isAsked_82 (lv_at hl 4 rfl) ?_
          refine lv_iload hx hb dL_isAsked_84 (lv_at hl 10 rfl) ?_
          refine ro_calliN (va_runS (As := [.ref ag, .int (nI leg)]) (rest := []) ⟨hx, hb, hml, hown, hts⟩ (c_L_authorised l D cy ap ah ab ag pf2 hf bf gf ei σa hIa hMa leg hl3 H (mcl hP)) (va_cwS 2 hts gL_isAsked_L_authorised rfl rfl rfl hdL_authorised.2 ⟨Nat.le_of_ble_eq_true rfl, Nat.le_of_ble_eq_true rfl⟩) (ro_pre hK rfl) rfl rfl hl.1 rfl (lv_room (Nat.le_of_ble_eq_true rfl)) dL_isAsked_86 ⟨(by show 2 + 0 ≤ 6; omega), (by show 28 + 0 ≤ 60; omega)⟩) (fun z86 hz86 => ?_)
          subst hz86
          refine lv_aload_n hx hb dL_isAsked_89 rfl (lv_at hl 3 rfl) ?_
          refine lv_aload hx hb dL_isAsked_90 (lv_at hl 4 rfl) ?_
          refine lv_iload hx hb dL_isAsked_92 (lv_at hl 10 rfl) ?_
          refine ro_calliN (va_runS (As := [.ref ab, .ref ag, .int (nI leg)]) (rest := [.int (nI (aut σa leg))]) ⟨hx, hb, hml, hown, hts⟩ (c_L_booked l D cy ap ah ab ag pf2 hf bf gf ei σa hIa hMa leg hl3 H (mcl hP)) (va_cwS 3 hts gL_isAsked_L_booked rfl rfl rfl hdL_booked.2 ⟨Nat.le_of_ble_eq_true rfl, Nat.le_of_ble_eq_true rfl⟩) (ro_pre hK rfl) rfl rfl hl.1 rfl (lv_room (Nat.le_of_ble_eq_true rfl)) dL_isAsked_94 ⟨(by show 2 + 0 ≤ 6; omega), (by show 28 + 0 ≤ 60; omega)⟩) (fun z94 hz94 => ?_)
          subst hz94
          refine lv_isub hx hb dL_isAsked_97 ?_
          refine lv_istore (lv' := [(11, .int (nI (aut σa leg) - nI (σa 2 leg))), (0, .ref ((ad2 0 0))), (1, .ref ap), (2, .ref ah), (3, .ref ab), (4, .ref ag), (5, .int (nI its)), (6, .int (nI z34)), (7, .int z44), (8, .int (nI fu)), (9, .int (nI gu)), (10, .int (nI leg))]) hx hb dL_isAsked_98 hl (by decide) rfl (fun ls hl => ?_)
          refine lv_iload hx hb dL_isAsked_100 (lv_at hl 9 rfl) ?_
          refine ln_if_ne (tgt := 110) hx hb (by omega) dL_isAsked_102 (by decide) (fun c102 => ?_) (fun c102 => ?_)
          · skip
            refine lv_iconst (v := nI 1) hx hb dL_isAsked_110 (by decide) ?_
            refine lv_goto (tgt := 115) hx hb dL_isAsked_111 (by decide) ?_
            exact K115 1 (pV.t (by obtain ⟨j, h1, h2, h3⟩ := hfu.yes c102; exact ⟨j, h1, by omega, h3⟩)) H locs hP hD hS ls (lv_sub hl [1, 2, 3, 4, 5, 6, 7, 8, 9, 10, 11, 0] rfl)
          · skip
            refine lv_iload hx hb dL_isAsked_105 (lv_at hl 0 rfl) ?_
            refine lv_if_gt (tgt := 114) hx hb dL_isAsked_107 (by decide) (fun c107 => ?_) (fun c107 => ?_)
            · skip
              refine lv_iconst (v := nI 0) hx hb dL_isAsked_114 (by decide) ?_
              exact K115 0 (pV.f (fun ⟨j, h1, h2, h3⟩ => by rcases Nat.lt_or_ge j leg with w | w; exact hfu.no c102 ⟨j, h1, w, h3⟩; rw [show j = leg by omega] at h3; exact absurd ((sb_gt0 (by omega) (by omega)).mp c107) (by omega))) H locs hP hD hS ls (lv_sub hl [1, 2, 3, 4, 5, 6, 7, 8, 9, 10, 11, 0] rfl)
            · skip
              refine lv_iconst (v := nI 1) hx hb dL_isAsked_110 (by decide) ?_
              refine lv_goto (tgt := 115) hx hb dL_isAsked_111 (by decide) ?_
              exact K115 1 (pV.t ⟨leg, hlg.1, by omega, Nat.le_of_not_lt (fun w => c107 ((sb_gt0 (by omega) (by omega)).mpr w))⟩) H locs hP hD hS ls (lv_sub hl [1, 2, 3, 4, 5, 6, 7, 8, 9, 10, 11, 0] rfl)
    refine lv_istore (lv' := [(10, .int (nI (σa 3 its))), (9, .int (nI 0)), (8, .int (nI 0)), (7, .int z44), (6, .int (nI z34)), (0, .ref ((ad2 0 0))), (1, .ref ap), (2, .ref ah), (3, .ref ab), (4, .ref ag), (5, .int (nI its))]) hx hb dL_isAsked_69 hl (by decide) rfl (fun ls hl => ?_)
    refine W.widen (k := 2) (n := 28) (by omega) (by omega) ?_
    exact K71 _ (σa 3 its) 0 0 (Nat.lt_succ_self _) (by omega) (pV.f (fun ⟨j, h1, h2, _⟩ => by omega)) (pV.f (fun ⟨j, h1, h2, _⟩ => by omega)) H locs hP hD hS ls (lv_sub hl [5, 6, 7, 8, 9, 10, 4, 3, 2, 1, 0] rfl)
  · skip
    refine lv_aload_n hx hb dL_isAsked_9 rfl (lv_at hl 0 rfl) ?_
    refine lv_iconst (v := nI 4) hx hb dL_isAsked_10 (by decide) ?_
    refine lv_iload hx hb dL_isAsked_11 (lv_at hl 5 rfl) ?_
    refine lv_iconst (v := nI 0) hx hb dL_isAsked_13 (by decide) ?_
    refine lv_iconst (v := nI 0) hx hb dL_isAsked_14 (by decide) ?_
    refine lv_iconst (v := nI 0) hx hb dL_isAsked_15 (by decide) ?_
    refine ap_calli (vx_runSW (As := [.ref ((ad 0 0)), .int (nI 4), .int (nI its), .int (nI 0), .int (nI 0), .int (nI 0)]) (rest := []) ⟨hx, hb, hml, hown, hts⟩ (c_L_does_4 l hfl D cy ad σ er ofd de bo ql qs tv hof hbo hI hDL hQZ hn ((nI its)) ((nI 0)) ((nI 0)) ((nI 0)) H.size) (vx_cwSW 6 hts gL_isAsked_L_does rfl rfl rfl hdL_does.2 ⟨Nat.le_of_ble_eq_true rfl, Nat.le_of_ble_eq_true rfl⟩) (xo_preS hK rfl (mcr hP) (hD.subl (List.sublist_append_right _ _)) hXW (hXZ.at hS hD hA (fun _ hq => List.mem_append_right _ hq))) rfl rfl hl.1 rfl (lv_room (Nat.le_of_ble_eq_true rfl)) dL_isAsked_16 ⟨(by show 0 + 2 ≤ 6; omega), (by show 0 + 28 ≤ 60; omega)⟩) hS hP hD hA (fun z16 u16 H locs hz16 hP hD hS => ?_)
    obtain ⟨rfl, rfl⟩ := pD_io hz16 (fun r t h => isP_no (by omega) (by omega) h.1) (fun E h => by rcases h with ⟨-, h⟩ | ⟨h1, -⟩; exact h; exact absurd h1 (isP_no (by omega) (by omega)))
    have hP : va_P D vwCl (MC cy ap ah ab ag pf hf bf gf ei ++ WG ad cy (σ 0 0) (σ 0 3) σ er ofd de bo ql qs tv) H := hP
    have hD : va_D A (MC cy ap ah ab ag pf hf bf gf ei ++ WG ad cy (σ 0 0) (σ 0 3) σ er ofd de bo ql qs tv) := hD
    refine lv_bipush (v := -30) hx hb dL_isAsked_19 (by decide) ?_
    refine lv_icmp_ne (tgt := 28) hx hb dL_isAsked_21 (by decide) (fun c21 => absurd rfl c21) (fun c21 => ?_)
    refine lv_iconst (v := nI 1) hx hb dL_isAsked_24 (by decide) ?_
    refine lv_goto (tgt := 29) hx hb dL_isAsked_25 (by decide) ?_
    refine W.widen (k := 6) (n := 60) (by omega) (by omega) ?_
    exact hret (ad, σ, er, ofd, de, bo, ql, qs, tv, pf, hf, bf, gf, ei) dL_isAsked_29 hP hD hS ⟨rfl, LJ.mk rfl (hI.more hn) hof hbo ⟨dl, hDL⟩ hQZ hM hE⟩
set_option maxHeartbeats 4000000 in
set_option maxRecDepth 100000 in
theorem c_L_isGroup (l : Launch) (hfl : l.stackTraces = false) (D : va_G) (cy : Nat → ClassId) (ap ah ab ag : Nat) (pf hf bf gf : Nat → Nat) (ei : Int32) (ad : Nat → Nat → Nat) (σ : SF) (er : Int64) (ofd de bo : Nat → Option Nat) (ql : Nat → Nat) (qs : Nat → Nat → Nat) (tv : Nat → Nat) {n : Nat} (hI : Iv n σ) (hof : OF ad σ ofd) (hbo : BO ad σ bo) {dl : List Nat} (hDL : DL ad σ de dl) (hQZ : QZ qs) (hM : MR σ pf hf bf gf) (hE : EM σ er ei) (f t q c0 : Nat) (hf4 : f < 4) (ht4 : t < 4) (hq8 : q < 8) (hc1 : 1 ≤ c0) (hc2 : c0 ≤ 3300) (hB : σ 0 3 ≤ 18) (hn : n < 512) : cLI l D cy yL_isGroup wsL_isGroup rmL_isGroup [.ref ((ad 0 0)), .ref ab, .ref ag, .int (nI f), .int (nI t), .int (nI q), .int (nI c0)] (MC cy ap ah ab ag pf hf bf gf ei ++ WG ad cy (σ 0 0) (σ 0 3) σ er ofd de bo ql qs tv) (T := STt) (wS cy ap ah ab ag) (fun r u => r = nI 1 ∧ LJ (n + 1) (ad 0 0) u) 6 60 := by
  refine cLI.ofN (cc := cL_isGroup) (maxL := 12) (by decide) rfl (Nat.le_of_ble_eq_true rfl) (fun v u h => z_one h.1) ?_
  intro p e s m args below meth c H0 A Q hx hb hml hown hts hP hK hD hS hA hXW hXZ hAe hH0e hret ls hl
  obtain ⟨H, locs, hH, hlo⟩ : ∃ (H : Heap) (locs : List Loc), H = H0 ∧ locs = [] := ⟨_, _, rfl, rfl⟩
  rw [← hH] at hP
  rw [show va_S A H0 H0 [] = va_S A H0 H locs by rw [hH, hlo]] at hS
  rw [show W p l e rmL_isGroup s m args below meth c H0 [] 0 0 Q (F0 m 0 ls []) = W p l e rmL_isGroup s m args below meth c H locs 0 0 Q (F0 m 0 ls []) by rw [hH, hlo]]
  have hwl := wM_lt hI 0 0 0
  have K16 : ∀ (v : Nat), (pV v (f < 3 ∧ t < 3)) → ∀ (H : Heap) (locs : List Loc), va_P D vwCl (MC cy ap ah ab ag pf hf bf gf ei ++ WG ad cy (σ 0 0) (σ 0 3) σ er ofd de bo ql qs tv) H → va_D A (MC cy ap ah ab ag pf hf bf gf ei ++ WG ad cy (σ 0 0) (σ 0 3) σ er ofd de bo ql qs tv) → va_S A H0 H locs → ∀ ls : Array Slot, lv_has ls 12 [(0, .ref ((ad 0 0))), (1, .ref ab), (2, .ref ag), (3, .int (nI f)), (4, .int (nI t)), (5, .int (nI q)), (6, .int (nI c0))] → W p l e rmL_isGroup s m args below meth c H locs 0 0 Q (F0 m 16 ls [.int (nI v)]) := by
    intro v hv H locs hP hD hS ls hl
    have hvl := hv.le
    refine lv_istore (lv' := [(7, .int (nI v)), (0, .ref ((ad 0 0))), (1, .ref ab), (2, .ref ag), (3, .int (nI f)), (4, .int (nI t)), (5, .int (nI q)), (6, .int (nI c0))]) hx hb dL_isGroup_16 hl (by decide) rfl (fun ls hl => ?_)
    have K54 : ∀ (v2 : Nat), (pV v2 (f ≤ t ∧ 1 ≤ q ∧ c0 ≤ 3000)) → ∀ (H : Heap) (locs : List Loc), va_P D vwCl (MC cy ap ah ab ag pf hf bf gf ei ++ WG ad cy (σ 0 0) (σ 0 3) σ er ofd de bo ql qs tv) H → va_D A (MC cy ap ah ab ag pf hf bf gf ei ++ WG ad cy (σ 0 0) (σ 0 3) σ er ofd de bo ql qs tv) → va_S A H0 H locs → ∀ ls : Array Slot, lv_has ls 12 [(0, .ref ((ad 0 0))), (1, .ref ab), (2, .ref ag), (3, .int (nI f)), (4, .int (nI t)), (5, .int (nI q)), (6, .int (nI c0)), (7, .int (nI v))] → W p l e rmL_isGroup s m args below meth c H locs 0 0 Q (F0 m 54 ls [.int (nI v2)]) := by
      intro v2 hv2 H locs hP hD hS ls hl
      have hv2l := hv2.le
      refine lv_istore (lv' := [(8, .int (nI v2)), (0, .ref ((ad 0 0))), (1, .ref ab), (2, .ref ag), (3, .int (nI f)), (4, .int (nI t)), (5, .int (nI q)), (6, .int (nI c0)), (7, .int (nI v))]) hx hb dL_isGroup_54 hl (by decide) rfl (fun ls hl => ?_)
      refine lv_iload hx hb dL_isGroup_56 (lv_at hl 8 rfl) ?_
      refine ln_if_eq (tgt := 66) hx hb (by omega) dL_isGroup_58 (by decide) (fun c58 => ?_) (fun c58 => ?_)
      · skip
        refine lv_aload_n hx hb dL_isGroup_66 rfl (lv_at hl 1 rfl) ?_
        refine lv_iconst (v := nI 5) hx hb dL_isGroup_67 (by decide) ?_
        refine lv_iload_n hx hb dL_isGroup_68 rfl (lv_at hl 4 rfl) ?_
        refine lv_iload hx hb dL_isGroup_69 (lv_at hl 5 rfl) ?_
        refine lv_iload hx hb dL_isGroup_71 (lv_at hl 6 rfl) ?_
        refine lv_iload hx hb dL_isGroup_73 (lv_at hl 7 rfl) ?_
        refine ap_calli (vx_runSW (As := [.ref ((ad 0 0)), .int (nI 5), .int (nI f), .int (nI t), .int (nI q), .int (nI c0)]) (rest := []) ⟨hx, hb, hml, hown, hts⟩ (c_L_does_5 l hfl D cy ad σ er ofd de bo ql qs tv hbo hI hDL hQZ ((nI f)) ((nI t)) ((nI q)) ((nI c0)) H.size) (vx_cwSW 6 hts gL_isGroup_L_does rfl rfl rfl hdL_does.2 ⟨Nat.le_of_ble_eq_true rfl, Nat.le_of_ble_eq_true rfl⟩) (xo_preS hK rfl (mcr hP) (hD.subl (List.sublist_append_right _ _)) hXW (hXZ.at hS hD hA (fun _ hq => List.mem_append_right _ hq))) rfl rfl hl.1 rfl (lv_room (Nat.le_of_ble_eq_true rfl)) dL_isGroup_75 ⟨(by show 0 + 2 ≤ 6; omega), (by show 0 + 28 ≤ 60; omega)⟩) hS hP hD hA (fun z75 u75 H locs hz75 hP hD hS => ?_)
        have hA : ¬ (okR (nI f) 0 2 ∧ okR (nI t) 0 2) := fun w => hv.no c58 (by have a1 := (okR_iff (by omega) (by omega) (by omega)).mp w.1; have a2 := (okR_iff (by omega) (by omega) (by omega)).mp w.2; omega)
        obtain ⟨rfl, rfl⟩ := pD_io hz75 (fun r t h => hA h.1) (fun E h => by rcases h with ⟨-, h⟩ | ⟨h1, -⟩ | ⟨h1, -⟩; exact h; exact absurd h1 hA; exact absurd h1 hA)
        have hP : va_P D vwCl (MC cy ap ah ab ag pf hf bf gf ei ++ WG ad cy (σ 0 0) (σ 0 3) σ er ofd de bo ql qs tv) H := hP
        have hD : va_D A (MC cy ap ah ab ag pf hf bf gf ei ++ WG ad cy (σ 0 0) (σ 0 3) σ er ofd de bo ql qs tv) := hD
        refine lv_iload hx hb dL_isGroup_78 (lv_at hl 8 rfl) ?_
        refine ln_if_eq (tgt := 88) hx hb (by omega) dL_isGroup_80 (by decide) (fun _ => ?_) (fun q => absurd c58 q)
        refine lv_bipush (v := -30) hx hb dL_isGroup_88 (by decide) ?_
        refine lv_icmp_ne (tgt := 97) hx hb dL_isGroup_90 (by decide) (fun c90 => absurd rfl c90) (fun c90 => ?_)
        refine lv_iconst (v := nI 1) hx hb dL_isGroup_93 (by decide) ?_
        refine lv_goto (tgt := 98) hx hb dL_isGroup_94 (by decide) ?_
        refine W.widen (k := 6) (n := 60) (by omega) (by omega) ?_
        exact hret (ad, σ, er, ofd, de, bo, ql, qs, tv, pf, hf, bf, gf, ei) dL_isGroup_98 hP hD hS ⟨rfl, LJ.mk rfl (hI.more hn) hof hbo ⟨dl, hDL⟩ hQZ hM hE⟩
      · skip
        refine lv_iload hx hb dL_isGroup_61 (lv_at hl 0 rfl) ?_
        refine ln_if_ne (tgt := 99) hx hb (by omega) dL_isGroup_63 (by decide) (fun c63 => ?_) (fun c63 => ?_)
        · skip
          refine lv_iconst (v := nI 0) hx hb dL_isGroup_99 (by decide) ?_
          refine lv_istore (lv' := [(9, .int (nI 0)), (8, .int (nI v2)), (0, .ref ((ad 0 0))), (1, .ref ab), (2, .ref ag), (3, .int (nI f)), (4, .int (nI t)), (5, .int (nI q)), (6, .int (nI c0)), (7, .int (nI v))]) hx hb dL_isGroup_100 hl (by decide) rfl (fun ls hl => ?_)
          refine lv_iload_n hx hb dL_isGroup_102 rfl (lv_at hl 5 rfl) ?_
          have hv3 := hv.yes c58
          have hv4 := hv2.yes c63
          have hA9 : okR (nI f) 0 2 ∧ okR (nI t) 0 2 := ⟨okR_i (by omega) (by omega) (by omega), okR_i (by omega) (by omega) (by omega)⟩
          have hB9 : nI f ≤ nI t ∧ okR (nI q) 1 10 := ⟨nI_le (by omega) (by omega), okR_i (by omega) (by omega) (by omega)⟩
          have hcq : c0 * q ≤ 3000 * 10 := Nat.mul_le_mul hv4.2.2 (by omega)
          have hcq1 : 1 ≤ c0 * q := Nat.mul_pos (by omega) (by omega)
          have K105 : ∀ (n105 : Nat) (leg : Nat) (fu : Nat), t + 1 - leg < n105 → (f ≤ leg ∧ leg ≤ t + 1) → (pV fu (∃ j, f ≤ j ∧ j < leg ∧ lft σ j < q)) → ∀ (H : Heap) (locs : List Loc), va_P D vwCl (MC cy ap ah ab ag pf hf bf gf ei ++ WG ad cy (σ 0 0) (σ 0 3) σ er ofd de bo ql qs tv) H → va_D A (MC cy ap ah ab ag pf hf bf gf ei ++ WG ad cy (σ 0 0) (σ 0 3) σ er ofd de bo ql qs tv) → va_S A H0 H locs → ∀ ls : Array Slot, lv_has ls 12 [(0, .ref ((ad 0 0))), (1, .ref ab), (2, .ref ag), (3, .int (nI f)), (4, .int (nI t)), (5, .int (nI q)), (6, .int (nI c0)), (7, .int (nI v)), (8, .int (nI v2)), (9, .int (nI fu)), (10, .int (nI leg))] → W p l e rmL_isGroup s m args below meth c H locs 0 0 Q (F0 m 105 ls []) := by
            intro n105
            induction n105 with
            | zero =>
              intro leg fu hfu
              exact absurd hfu (Nat.not_lt_zero _)
            | succ n105 ih105 =>
              intro leg fu hfu hlg hfu H locs hP hD hS ls hl
              have hful := hfu.le
              refine lv_iload hx hb dL_isGroup_105 (lv_at hl 10 rfl) ?_
              refine lv_iload hx hb dL_isGroup_107 (lv_at hl 4 rfl) ?_
              refine ln_icmp_gt (tgt := 147) hx hb (by omega) (by omega) dL_isGroup_109 (by decide) (fun c109 => ?_) (fun c109 => ?_)
              · skip
                have hfull : pV fu (tooFull σ f t q) := by
                  rcases hfu with ⟨a1, j, a2, a3, a4⟩ | ⟨a1, a2⟩
                  · exact Or.inl ⟨a1, j, a2, by omega, a4⟩
                  · exact Or.inr ⟨a1, fun ⟨j, b1, b2, b3⟩ => a2 ⟨j, b1, by omega, b3⟩⟩
                refine lv_aload_n hx hb dL_isGroup_147 rfl (lv_at hl 0 rfl) ?_
                refine lv_iload_n hx hb dL_isGroup_148 rfl (lv_at hl 3 rfl) ?_
                refine lv_iload hx hb dL_isGroup_149 (lv_at hl 4 rfl) ?_
                refine lv_iload hx hb dL_isGroup_151 (lv_at hl 5 rfl) ?_
                refine xr_calli (vx_runV (As := [.int (nI f), .int (nI t), .int (nI q)]) (rest := []) ⟨hx, hb, hml, hown, hts⟩ (c_X5_displaced l hfl D cy ad σ er ofd de bo ql qs tv hbo hI hDL hQZ ((nI f)) ((nI t)) ((nI q)) H.size) (cwV 3 hts gL_isGroup_X5_displaced rfl rfl rfl hdX5_displaced ⟨Nat.le_of_ble_eq_true rfl, Nat.le_of_ble_eq_true rfl⟩) (xo_preV hK rfl (mcr hP) (hD.subl (List.sublist_append_right _ _)) hXW (hXZ.at hS hD hA (fun _ hq => List.mem_append_right _ hq)) (va_recv hK.1 (mcr hP) (ci := 5) (q0 := 0) rfl rfl)) rfl rfl hl.1 rfl (lv_room (Nat.le_of_ble_eq_true rfl)) dL_isGroup_153 ⟨(by show 0 + 1 ≤ 6; omega), (by show 0 + 6 ≤ 60; omega)⟩) hS hP hD hA (fun E h => by rcases h with ⟨h1, -⟩ | ⟨-, h1, -⟩; exact h1 hA9; exact h1 hB9) (fun z153 u153 H locs hz153 hP hD hS => ?_)
                obtain ⟨ql3, qs3⟩ := u153
                obtain ⟨-, -, hdis, hQZ⟩ := hz153
                rw [cN_nI (by omega), cN_nI (by omega), cN_nI (by omega)] at hdis
                have hP : va_P D vwCl (MC cy ap ah ab ag pf hf bf gf ei ++ WG ad cy (σ 0 0) (σ 0 3) σ er ofd de bo ql3 qs3 tv) H := hP
                have hD : va_D A (MC cy ap ah ab ag pf hf bf gf ei ++ WG ad cy (σ 0 0) (σ 0 3) σ er ofd de bo ql3 qs3 tv) := hD
                refine lv_istore (lv' := [(10, .int z153), (0, .ref ((ad 0 0))), (1, .ref ab), (2, .ref ag), (3, .int (nI f)), (4, .int (nI t)), (5, .int (nI q)), (6, .int (nI c0)), (7, .int (nI v)), (8, .int (nI v2)), (9, .int (nI fu))]) hx hb dL_isGroup_156 hl (by decide) rfl (fun ls hl => ?_)
                refine lv_aload_n hx hb dL_isGroup_158 rfl (lv_at hl 1 rfl) ?_
                refine lv_iconst (v := nI 5) hx hb dL_isGroup_159 (by decide) ?_
                refine lv_iload_n hx hb dL_isGroup_160 rfl (lv_at hl 4 rfl) ?_
                refine lv_iload hx hb dL_isGroup_161 (lv_at hl 5 rfl) ?_
                refine lv_iload hx hb dL_isGroup_163 (lv_at hl 6 rfl) ?_
                refine lv_iload hx hb dL_isGroup_165 (lv_at hl 7 rfl) ?_
                refine ap_calli (vx_runSW (As := [.ref ((ad 0 0)), .int (nI 5), .int (nI f), .int (nI t), .int (nI q), .int (nI c0)]) (rest := []) ⟨hx, hb, hml, hown, hts⟩ (c_L_does_5 l hfl D cy ad σ er ofd de bo ql3 qs3 tv hbo hI hDL hQZ ((nI f)) ((nI t)) ((nI q)) ((nI c0)) H.size) (vx_cwSW 6 hts gL_isGroup_L_does rfl rfl rfl hdL_does.2 ⟨Nat.le_of_ble_eq_true rfl, Nat.le_of_ble_eq_true rfl⟩) (xo_preS hK rfl (mcr hP) (hD.subl (List.sublist_append_right _ _)) hXW (hXZ.at hS hD hA (fun _ hq => List.mem_append_right _ hq))) rfl rfl hl.1 rfl (lv_room (Nat.le_of_ble_eq_true rfl)) dL_isGroup_167 ⟨(by show 0 + 1 + 2 ≤ 6; omega), (by show 0 + 6 + 28 ≤ 60; omega)⟩) hS hP hD hA (fun z167 u167 H locs hz167 hP hD hS => ?_)
                obtain ⟨⟨ad2, τ, bo2, ql2, qs2⟩, rfl, -, -, -, hgrp, hQZ, hbo2, ha1, ha2, ha0⟩ := pD_ok hz167 (fun E h => by rcases h with ⟨h1, -⟩ | ⟨-, h1, -⟩ | ⟨-, -, h1, -⟩; exact h1 hA9; exact h1 ⟨hB9.1, hB9.2, okR_i (by omega) (by omega) (by omega)⟩; omega)
                have hgrp : grpA σ (cN (nI f)) (cN (nI t)) (cN (nI q)) (cN (nI c0)) z167 τ := hgrp
                have hQZ : QZ qs2 := hQZ
                have hbo2 : BO ad2 τ bo2 := hbo2
                have ha1 : ad2 1 = ad 1 := ha1
                have ha0 : ad2 0 = ad 0 := ha0
                rw [cN_nI (by omega), cN_nI (by omega), cN_nI (by omega), cN_nI (by omega)] at hgrp
                have hIt := Iv_grp hI hn hv4.1 (by omega) (by omega) hv4.2.2 (by omega) hgrp
                obtain ⟨dd, hdd, hdx⟩ := dis_nat σ f t q
                have hP : va_P D vwCl (MC cy ap ah ab ag pf hf bf gf ei ++ WG ad2 cy ((τ) 0 0) ((τ) 0 3) (τ) er ofd de bo2 ql2 qs2 tv) H := hP
                have hD : va_D A (MC cy ap ah ab ag pf hf bf gf ei ++ WG ad2 cy ((τ) 0 0) ((τ) 0 3) (τ) er ofd de bo2 ql2 qs2 tv) := hD
                rcases hgrp with ⟨h1, e1, rfl⟩ | ⟨h1, h2, e1, rfl⟩ | ⟨h1, h2, e1, rfl⟩
                · skip
                  subst e1
                  have hfn : ¬ fu = 0 := fun w => hfull.no w h1
                  have he : z153 = -1 := by rcases hdis with ⟨-, w⟩ | ⟨w, -⟩; exact w; exact absurd h1 w
                  subst he
                  have hDL2 : DL ad2 (rfF σ 1) de dl := hDL.c ha1 rfl rfl
                  have hof2 : OF ad2 (rfF σ 1) ofd := hof.c ha1 rfl
                  refine lv_istore (lv' := [(11, .int ((-1))), (10, .int ((-1))), (0, .ref ((ad 0 0))), (1, .ref ab), (2, .ref ag), (3, .int (nI f)), (4, .int (nI t)), (5, .int (nI q)), (6, .int (nI c0)), (7, .int (nI v)), (8, .int (nI v2)), (9, .int (nI fu))]) hx hb dL_isGroup_170 hl (by decide) rfl (fun ls hl => ?_)
                  refine lv_iload hx hb dL_isGroup_172 (lv_at hl 0 rfl) ?_
                  refine lv_if_ge (tgt := 191) hx hb dL_isGroup_174 (by decide) (fun c174 => absurd c174 (by decide)) (fun c174 => ?_)
                  refine lv_aload_n hx hb dL_isGroup_177 rfl (lv_at hl 4 rfl) ?_
                  refine lv_bipush (v := nI 6) hx hb dL_isGroup_178 (by decide) ?_
                  refine lv_iload hx hb dL_isGroup_180 (lv_at hl 0 rfl) ?_
                  refine lv_isub hx hb dL_isGroup_182 ?_
                  rw [show nI 6 - (-1) = nI 7 from by decide]
                  refine lv_dup2_11 hx hb dL_isGroup_183 rfl rfl ?_
                  refine mg_ld (v := σ 15 1) hx hb hK (mcl hP) (by omega) hM.g7 dL_isGroup_184 ?_
                  refine lv_iconst (v := nI 1) hx hb dL_isGroup_185 (by decide) ?_
                  refine ln_iadd hx hb dL_isGroup_186 (fun z186 hz186 => ?_)
                  refine mg_st hx hb hK hP hD hS (by omega) dL_isGroup_187 (fun H locs hP hD hS => ?_)
                  refine lv_goto (tgt := 206) hx hb dL_isGroup_188 (by decide) ?_
                  refine lv_iload hx hb dL_isGroup_206 (lv_at hl 11 rfl) ?_
                  refine ln_if_eq (tgt := 231) hx hb (by omega) dL_isGroup_208 (by decide) (fun q => absurd q hfn) (fun _ => ?_)
                  refine lv_iload hx hb dL_isGroup_211 (lv_at hl 1 rfl) ?_
                  refine lv_iconst (v := -1) hx hb dL_isGroup_213 (by decide) ?_
                  refine lv_icmp_ne (tgt := 227) hx hb dL_isGroup_214 (by decide) (fun c214 => absurd rfl c214) (fun c214 => ?_)
                  refine lv_iload hx hb dL_isGroup_217 (lv_at hl 0 rfl) ?_
                  refine lv_iconst (v := -1) hx hb dL_isGroup_219 (by decide) ?_
                  refine lv_icmp_ne (tgt := 227) hx hb dL_isGroup_220 (by decide) (fun c220 => absurd rfl c220) (fun c220 => ?_)
                  refine lv_iconst (v := nI 1) hx hb dL_isGroup_223 (by decide) ?_
                  refine lv_goto (tgt := 267) hx hb dL_isGroup_224 (by decide) ?_
                  subst hz186
                  refine W.widen (k := 6) (n := 60) (by omega) (by omega) ?_
                  exact hret (ad2, rfF σ 1, er, ofd, de, bo2, ql2, qs2, tv, pf, hf, bf, va_up gf 7 (σ 15 1 + 1), ei) dL_isGroup_267 hP hD hS ⟨rfl, LJ.mk (congrFun ha0 0) hIt hof2 hbo2 ⟨dl, hDL2⟩ hQZ (hM.rfs (w := 1) (by omega) (by omega)) hE⟩
                · skip
                  subst e1
                  have hf0 : fu = 0 := by rcases hfull with ⟨-, a2⟩ | ⟨a1, -⟩; exact absurd a2 h1; exact a1
                  have he : z153 = nI dd := by rcases hdis with ⟨w, -⟩ | ⟨-, w⟩; exact absurd w h1; exact w.trans hdx
                  subst he
                  rw [hdx] at h2
                  have h2n : c0 * q < dd := (nI_ltI (by omega) (by omega)).mp h2
                  have hDL2 : DL ad2 (rfF σ 3) de dl := hDL.c ha1 rfl rfl
                  have hof2 : OF ad2 (rfF σ 3) ofd := hof.c ha1 rfl
                  refine lv_istore (lv' := [(11, .int ((-3))), (10, .int (nI dd)), (0, .ref ((ad 0 0))), (1, .ref ab), (2, .ref ag), (3, .int (nI f)), (4, .int (nI t)), (5, .int (nI q)), (6, .int (nI c0)), (7, .int (nI v)), (8, .int (nI v2)), (9, .int (nI fu))]) hx hb dL_isGroup_170 hl (by decide) rfl (fun ls hl => ?_)
                  refine lv_iload hx hb dL_isGroup_172 (lv_at hl 0 rfl) ?_
                  refine lv_if_ge (tgt := 191) hx hb dL_isGroup_174 (by decide) (fun c174 => absurd c174 (by decide)) (fun c174 => ?_)
                  refine lv_aload_n hx hb dL_isGroup_177 rfl (lv_at hl 4 rfl) ?_
                  refine lv_bipush (v := nI 6) hx hb dL_isGroup_178 (by decide) ?_
                  refine lv_iload hx hb dL_isGroup_180 (lv_at hl 0 rfl) ?_
                  refine lv_isub hx hb dL_isGroup_182 ?_
                  rw [show nI 6 - (-3) = nI 9 from by decide]
                  refine lv_dup2_11 hx hb dL_isGroup_183 rfl rfl ?_
                  refine mg_ld (v := σ 15 3) hx hb hK (mcl hP) (by omega) hM.g9 dL_isGroup_184 ?_
                  refine lv_iconst (v := nI 1) hx hb dL_isGroup_185 (by decide) ?_
                  refine ln_iadd hx hb dL_isGroup_186 (fun z186 hz186 => ?_)
                  refine mg_st hx hb hK hP hD hS (by omega) dL_isGroup_187 (fun H locs hP hD hS => ?_)
                  refine lv_goto (tgt := 206) hx hb dL_isGroup_188 (by decide) ?_
                  refine lv_iload hx hb dL_isGroup_206 (lv_at hl 11 rfl) ?_
                  refine ln_if_eq (tgt := 231) hx hb (by omega) dL_isGroup_208 (by decide) (fun _ => ?_) (fun q => absurd hf0 q)
                  refine lv_iload hx hb dL_isGroup_231 (lv_at hl 1 rfl) ?_
                  refine ln_if_lt (tgt := 266) hx hb (by omega) dL_isGroup_233 (by decide) ?_
                  refine lv_iload hx hb dL_isGroup_236 (lv_at hl 0 rfl) ?_
                  refine lv_iload hx hb dL_isGroup_238 (lv_at hl 8 rfl) ?_
                  refine lv_iload hx hb dL_isGroup_240 (lv_at hl 7 rfl) ?_
                  refine ln_imul hx hb dL_isGroup_242 (fun z242 hz242 => ?_)
                  refine lv_iload hx hb dL_isGroup_243 (lv_at hl 1 rfl) ?_
                  refine ln_icmp_ge (tgt := 253) hx hb (by omega) (by omega) dL_isGroup_245 (by decide) (fun c245 => absurd c245 (by omega)) (fun c245 => ?_)
                  refine lv_bipush (v := -3) hx hb dL_isGroup_248 (by decide) ?_
                  refine lv_goto (tgt := 259) hx hb dL_isGroup_250 (by decide) ?_
                  refine lv_icmp_ne (tgt := 266) hx hb dL_isGroup_259 (by decide) (fun c259 => absurd rfl c259) (fun c259 => ?_)
                  refine lv_iconst (v := nI 1) hx hb dL_isGroup_262 (by decide) ?_
                  refine lv_goto (tgt := 267) hx hb dL_isGroup_263 (by decide) ?_
                  subst hz186
                  refine W.widen (k := 6) (n := 60) (by omega) (by omega) ?_
                  exact hret (ad2, rfF σ 3, er, ofd, de, bo2, ql2, qs2, tv, pf, hf, bf, va_up gf 9 (σ 15 3 + 1), ei) dL_isGroup_267 hP hD hS ⟨rfl, LJ.mk (congrFun ha0 0) hIt hof2 hbo2 ⟨dl, hDL2⟩ hQZ (hM.rfs (w := 3) (by omega) (by omega)) hE⟩
                · skip
                  subst e1
                  have hf0 : fu = 0 := by rcases hfull with ⟨-, a2⟩ | ⟨a1, -⟩; exact absurd a2 h1; exact a1
                  have he : z153 = nI dd := by rcases hdis with ⟨w, -⟩ | ⟨-, w⟩; exact absurd w h1; exact w.trans hdx
                  subst he
                  rw [hdx] at h2
                  have h2n : ¬ c0 * q < dd := fun w => h2 ((nI_ltI (by omega) (by omega)).mpr w)
                  have hDL2 : DL ad2 (bookF σ f t q (c0 * q)) de dl := hDL.c ha1 rfl rfl
                  have hof2 : OF ad2 (bookF σ f t q (c0 * q)) ofd := hof.c ha1 rfl
                  refine lv_istore (lv' := [(11, .int (nI ((σ 0 3)))), (10, .int (nI dd)), (0, .ref ((ad 0 0))), (1, .ref ab), (2, .ref ag), (3, .int (nI f)), (4, .int (nI t)), (5, .int (nI q)), (6, .int (nI c0)), (7, .int (nI v)), (8, .int (nI v2)), (9, .int (nI fu))]) hx hb dL_isGroup_170 hl (by decide) rfl (fun ls hl => ?_)
                  refine lv_iload hx hb dL_isGroup_172 (lv_at hl 0 rfl) ?_
                  refine ln_if_ge (tgt := 191) hx hb (by omega) dL_isGroup_174 (by decide) ?_
                  refine lv_aload_n hx hb dL_isGroup_191 rfl (lv_at hl 3 rfl) ?_
                  refine lv_aload_n hx hb dL_isGroup_192 rfl (lv_at hl 4 rfl) ?_
                  refine lv_iload_n hx hb dL_isGroup_193 rfl (lv_at hl 5 rfl) ?_
                  refine lv_iload hx hb dL_isGroup_194 (lv_at hl 6 rfl) ?_
                  refine lv_iload hx hb dL_isGroup_196 (lv_at hl 7 rfl) ?_
                  refine lv_iload hx hb dL_isGroup_198 (lv_at hl 8 rfl) ?_
                  refine lv_iload hx hb dL_isGroup_200 (lv_at hl 7 rfl) ?_
                  refine ln_imul hx hb dL_isGroup_202 (fun z202 hz202 => ?_)
                  refine mw_callv (va_runS (As := [.ref ab, .ref ag, .int (nI f), .int (nI t), .int (nI q), .int (nI z202)]) (rest := []) ⟨hx, hb, hml, hown, hts⟩ (c_L_books l D cy ap ah ab ag pf hf bf gf ei (WG ad2 cy ((bookF σ f t q (c0 * q)) 0 0) ((bookF σ f t q (c0 * q)) 0 3) (bookF σ f t q (c0 * q)) er ofd de bo2 ql2 qs2 tv) ((σ 0 3)) f t q z202 hM.g6 (by omega) H.size) (va_cwS 6 hts gL_isGroup_L_books rfl rfl rfl hdL_books.2 ⟨Nat.le_of_ble_eq_true rfl, Nat.le_of_ble_eq_true rfl⟩) (mo_pre hK rfl hP hD) rfl rfl hl.1 rfl (lv_room (Nat.le_of_ble_eq_true rfl)) dL_isGroup_203 ⟨(by show 0 + 1 + 2 + 0 ≤ 6; omega), (by show 0 + 6 + 28 + 0 ≤ 60; omega)⟩) hS hD hA (fun u203 H locs hr203 hP hD hS => ?_)
                  have hP : va_P D vwCl (MC cy ap ah ab ag pf hf (va_up (va_up bf ((σ 0 3)) (1000 * f + 100 * t + q)) (20 + ((σ 0 3))) z202) (va_up gf 6 ((σ 0 3) + 1)) ei ++ WG ad2 cy ((bookF σ f t q (c0 * q)) 0 0) ((bookF σ f t q (c0 * q)) 0 3) (bookF σ f t q (c0 * q)) er ofd de bo2 ql2 qs2 tv) H := hP
                  have hD : va_D A (MC cy ap ah ab ag pf hf (va_up (va_up bf ((σ 0 3)) (1000 * f + 100 * t + q)) (20 + ((σ 0 3))) z202) (va_up gf 6 ((σ 0 3) + 1)) ei ++ WG ad2 cy ((bookF σ f t q (c0 * q)) 0 0) ((bookF σ f t q (c0 * q)) 0 3) (bookF σ f t q (c0 * q)) er ofd de bo2 ql2 qs2 tv) := hD
                  refine lv_iload hx hb dL_isGroup_206 (lv_at hl 11 rfl) ?_
                  refine ln_if_eq (tgt := 231) hx hb (by omega) dL_isGroup_208 (by decide) (fun _ => ?_) (fun q => absurd hf0 q)
                  refine lv_iload hx hb dL_isGroup_231 (lv_at hl 1 rfl) ?_
                  refine ln_if_lt (tgt := 266) hx hb (by omega) dL_isGroup_233 (by decide) ?_
                  refine lv_iload hx hb dL_isGroup_236 (lv_at hl 0 rfl) ?_
                  refine lv_iload hx hb dL_isGroup_238 (lv_at hl 8 rfl) ?_
                  refine lv_iload hx hb dL_isGroup_240 (lv_at hl 7 rfl) ?_
                  refine ln_imul hx hb dL_isGroup_242 (fun z242 hz242 => ?_)
                  refine lv_iload hx hb dL_isGroup_243 (lv_at hl 1 rfl) ?_
                  refine ln_icmp_ge (tgt := 253) hx hb (by omega) (by omega) dL_isGroup_245 (by decide) (fun c245 => ?_) (fun c245 => absurd c245 (by omega))
                  refine lv_aload_n hx hb dL_isGroup_253 rfl (lv_at hl 4 rfl) ?_
                  refine lv_bipush (v := nI 6) hx hb dL_isGroup_254 (by decide) ?_
                  refine mg_ld (v := (σ 0 3 + 1)) hx hb hK (mcl hP) (by omega) up_at dL_isGroup_256 ?_
                  refine lv_iconst (v := nI 1) hx hb dL_isGroup_257 (by decide) ?_
                  refine ln_isub hx hb (by omega) dL_isGroup_258 (fun z258 hz258 => ?_)
                  refine ln_icmp_ne (tgt := 266) hx hb (by omega) (by omega) dL_isGroup_259 (by decide) (fun c259 => absurd (show σ 0 3 = z258 by omega) c259) (fun c259 => ?_)
                  refine lv_iconst (v := nI 1) hx hb dL_isGroup_262 (by decide) ?_
                  refine lv_goto (tgt := 267) hx hb dL_isGroup_263 (by decide) ?_
                  subst hz202
                  refine W.widen (k := 6) (n := 60) (by omega) (by omega) ?_
                  exact hret (ad2, bookF σ f t q (c0 * q), er, ofd, de, bo2, ql2, qs2, tv, pf, hf, va_up (va_up bf ((σ 0 3)) (1000 * f + 100 * t + q)) (20 + ((σ 0 3))) (c0 * q), va_up gf 6 ((σ 0 3) + 1), ei) dL_isGroup_267 hP hD hS ⟨rfl, LJ.mk (congrFun ha0 0) hIt hof2 hbo2 ⟨dl, hDL2⟩ hQZ (hM.boks (by omega) (by omega) (by omega)) hE⟩
              · skip
                have hl3 : leg < 3 := by omega
                have hse := hI.se leg hl3
                have hbk := hI.bkle leg hl3
                have K139 : ∀ (x1 : Nat), (pV x1 (∃ j, f ≤ j ∧ j < leg + 1 ∧ lft σ j < q)) → ∀ (H : Heap) (locs : List Loc), va_P D vwCl (MC cy ap ah ab ag pf hf bf gf ei ++ WG ad cy (σ 0 0) (σ 0 3) σ er ofd de bo ql qs tv) H → va_D A (MC cy ap ah ab ag pf hf bf gf ei ++ WG ad cy (σ 0 0) (σ 0 3) σ er ofd de bo ql qs tv) → va_S A H0 H locs → ∀ ls : Array Slot, lv_has ls 12 [(0, .ref ((ad 0 0))), (1, .ref ab), (2, .ref ag), (3, .int (nI f)), (4, .int (nI t)), (5, .int (nI q)), (6, .int (nI c0)), (7, .int (nI v)), (8, .int (nI v2)), (9, .int (nI fu)), (10, .int (nI leg))] → W p l e rmL_isGroup s m args below meth c H locs 0 0 Q (F0 m 139 ls [.int (nI x1)]) := by
                  intro x1 hx1 H locs hP hD hS ls hl
                  refine lv_istore (lv' := [(9, .int (nI x1)), (0, .ref ((ad 0 0))), (1, .ref ab), (2, .ref ag), (3, .int (nI f)), (4, .int (nI t)), (5, .int (nI q)), (6, .int (nI c0)), (7, .int (nI v)), (8, .int (nI v2)), (10, .int (nI leg))]) hx hb dL_isGroup_139 hl (by decide) rfl (fun ls hl => ?_)
                  obtain ⟨z141, hz141⟩ : ∃ z : Nat, z = leg + 1 := ⟨_, rfl⟩
                  refine lv_iinc (v := nI z141) (lv' := [(10, .int (nI z141)), (9, .int (nI x1)), (0, .ref ((ad 0 0))), (1, .ref ab), (2, .ref ag), (3, .int (nI f)), (4, .int (nI t)), (5, .int (nI q)), (6, .int (nI c0)), (7, .int (nI v)), (8, .int (nI v2))]) hx hb dL_isGroup_141 hl (k := 10) rfl (by rw [hz141]; exact nI_add _ 1) (by decide) rfl (fun ls hl => ?_)
                  refine lv_goto (tgt := 105) hx hb dL_isGroup_144 (by decide) ?_
                  exact ih105 z141 x1 (by omega) (by omega) (by rw [hz141]; exact hx1) H locs hP hD hS ls (lv_sub hl [2, 3, 4, 5, 6, 7, 8, 9, 10, 1, 0] rfl)
                refine lv_iload hx hb dL_isGroup_112 (lv_at hl 9 rfl) ?_
                refine ln_if_ne (tgt := 134) hx hb (by omega) dL_isGroup_114 (by decide) (fun c114 => ?_) (fun c114 => ?_)
                · skip
                  refine lv_iconst (v := nI 1) hx hb dL_isGroup_134 (by decide) ?_
                  refine lv_goto (tgt := 139) hx hb dL_isGroup_135 (by decide) ?_
                  exact K139 1 (pV.t (by obtain ⟨j, h1, h2, h3⟩ := hfu.yes c114; exact ⟨j, h1, by omega, h3⟩)) H locs hP hD hS ls (lv_sub hl [0, 1, 2, 3, 4, 5, 6, 7, 8, 9, 10] rfl)
                · skip
                  refine lv_aload_n hx hb dL_isGroup_117 rfl (lv_at hl 2 rfl) ?_
                  refine lv_iload hx hb dL_isGroup_118 (lv_at hl 10 rfl) ?_
                  refine mg_ld (v := σ 1 leg) hx hb hK (mcl hP) (by omega) (hM.g0 hl3) dL_isGroup_120 ?_
                  refine lv_aload_n hx hb dL_isGroup_121 rfl (lv_at hl 1 rfl) ?_
                  refine lv_aload_n hx hb dL_isGroup_122 rfl (lv_at hl 2 rfl) ?_
                  refine lv_iload hx hb dL_isGroup_123 (lv_at hl 10 rfl) ?_
                  refine ro_calliN (va_runS (As := [.ref ab, .ref ag, .int (nI leg)]) (rest := [.int (nI (σ 1 leg))]) ⟨hx, hb, hml, hown, hts⟩ (c_L_booked l D cy ap ah ab ag pf hf bf gf ei σ hI hM leg hl3 H (mcl hP)) (va_cwS 3 hts gL_isGroup_L_booked rfl rfl rfl hdL_booked.2 ⟨Nat.le_of_ble_eq_true rfl, Nat.le_of_ble_eq_true rfl⟩) (ro_pre hK rfl) rfl rfl hl.1 rfl (lv_room (Nat.le_of_ble_eq_true rfl)) dL_isGroup_125 ⟨(by show 0 + 0 ≤ 6; omega), (by show 0 + 0 ≤ 60; omega)⟩) (fun z125 hz125 => ?_)
                  subst hz125
                  refine lv_isub hx hb dL_isGroup_128 ?_
                  refine lv_iload hx hb dL_isGroup_129 (lv_at hl 5 rfl) ?_
                  refine lv_icmp_ge (tgt := 138) hx hb dL_isGroup_131 (by decide) (fun c131 => ?_) (fun c131 => ?_)
                  · skip
                    refine lv_iconst (v := nI 0) hx hb dL_isGroup_138 (by decide) ?_
                    exact K139 0 (pV.f (fun ⟨j, h1, h2, h3⟩ => by rcases Nat.lt_or_ge j leg with w | w; exact hfu.no c114 ⟨j, h1, w, h3⟩; rw [show j = leg by omega] at h3; have w2 := (sb_ge (by omega) (by omega) (by omega)).mp c131; unfold lft at h3; omega)) H locs hP hD hS ls (lv_sub hl [0, 1, 2, 3, 4, 5, 6, 7, 8, 9, 10] rfl)
                  · skip
                    refine lv_iconst (v := nI 1) hx hb dL_isGroup_134 (by decide) ?_
                    refine lv_goto (tgt := 139) hx hb dL_isGroup_135 (by decide) ?_
                    exact K139 1 (pV.t (by have w : ¬ σ 2 leg + q ≤ σ 1 leg := fun z => c131 ((sb_ge (by omega) (by omega) (by omega)).mpr z); exact ⟨leg, hlg.1, by omega, by unfold lft; omega⟩)) H locs hP hD hS ls (lv_sub hl [0, 1, 2, 3, 4, 5, 6, 7, 8, 9, 10] rfl)
          refine lv_istore (lv' := [(10, .int (nI f)), (9, .int (nI 0)), (8, .int (nI v2)), (0, .ref ((ad 0 0))), (1, .ref ab), (2, .ref ag), (3, .int (nI f)), (4, .int (nI t)), (5, .int (nI q)), (6, .int (nI c0)), (7, .int (nI v))]) hx hb dL_isGroup_103 hl (by decide) rfl (fun ls hl => ?_)
          exact K105 _ f 0 (Nat.lt_succ_self _) (by omega) (pV.f (fun ⟨j, h1, h2, _⟩ => by omega)) H locs hP hD hS ls (lv_sub hl [3, 4, 5, 6, 7, 8, 9, 10, 2, 1, 0] rfl)
        · skip
          refine lv_aload_n hx hb dL_isGroup_66 rfl (lv_at hl 1 rfl) ?_
          refine lv_iconst (v := nI 5) hx hb dL_isGroup_67 (by decide) ?_
          refine lv_iload_n hx hb dL_isGroup_68 rfl (lv_at hl 4 rfl) ?_
          refine lv_iload hx hb dL_isGroup_69 (lv_at hl 5 rfl) ?_
          refine lv_iload hx hb dL_isGroup_71 (lv_at hl 6 rfl) ?_
          refine lv_iload hx hb dL_isGroup_73 (lv_at hl 7 rfl) ?_
          refine ap_calli (vx_runSW (As := [.ref ((ad 0 0)), .int (nI 5), .int (nI f), .int (nI t), .int (nI q), .int (nI c0)]) (rest := []) ⟨hx, hb, hml, hown, hts⟩ (c_L_does_5 l hfl D cy ad σ er ofd de bo ql qs tv hbo hI hDL hQZ ((nI f)) ((nI t)) ((nI q)) ((nI c0)) H.size) (vx_cwSW 6 hts gL_isGroup_L_does rfl rfl rfl hdL_does.2 ⟨Nat.le_of_ble_eq_true rfl, Nat.le_of_ble_eq_true rfl⟩) (xo_preS hK rfl (mcr hP) (hD.subl (List.sublist_append_right _ _)) hXW (hXZ.at hS hD hA (fun _ hq => List.mem_append_right _ hq))) rfl rfl hl.1 rfl (lv_room (Nat.le_of_ble_eq_true rfl)) dL_isGroup_75 ⟨(by show 0 + 2 ≤ 6; omega), (by show 0 + 28 ≤ 60; omega)⟩) hS hP hD hA (fun z75 u75 H locs hz75 hP hD hS => ?_)
          have hv3 := hv.yes c58
          have hA : okR (nI f) 0 2 ∧ okR (nI t) 0 2 := ⟨okR_i (by omega) (by omega) (by omega), okR_i (by omega) (by omega) (by omega)⟩
          have hB9 : ¬ (nI f ≤ nI t ∧ okR (nI q) 1 10 ∧ okR (nI c0) 1 3000) := fun w => hv2.no c63 (by have a1 := (nI_leI (by omega) (by omega)).mp w.1; have a2 := (okR_iff (by omega) (by omega) (by omega)).mp w.2.1; have a3 := (okR_iff (by omega) (by omega) (by omega)).mp w.2.2; omega)
          obtain ⟨rfl, rfl⟩ := pD_ia hz75 (fun r t h => hB9 h.2.1) (fun E h => by rcases h with ⟨h1, -⟩ | ⟨-, -, h⟩ | ⟨-, h1, -⟩; exact absurd hA h1; exact h; exact absurd h1 hB9)
          have hP : va_P D vwCl (MC cy ap ah ab ag pf hf bf gf ei ++ WG ad cy (σ 0 0) (σ 0 3) σ er ofd de bo ql qs tv) H := hP
          have hD : va_D A (MC cy ap ah ab ag pf hf bf gf ei ++ WG ad cy (σ 0 0) (σ 0 3) σ er ofd de bo ql qs tv) := hD
          refine lv_iload hx hb dL_isGroup_78 (lv_at hl 8 rfl) ?_
          refine ln_if_eq (tgt := 88) hx hb (by omega) dL_isGroup_80 (by decide) (fun q => absurd q c58) (fun _ => ?_)
          refine lv_bipush (v := -20) hx hb dL_isGroup_83 (by decide) ?_
          refine lv_goto (tgt := 90) hx hb dL_isGroup_85 (by decide) ?_
          refine lv_icmp_ne (tgt := 97) hx hb dL_isGroup_90 (by decide) (fun c90 => absurd rfl c90) (fun c90 => ?_)
          refine lv_iconst (v := nI 1) hx hb dL_isGroup_93 (by decide) ?_
          refine lv_goto (tgt := 98) hx hb dL_isGroup_94 (by decide) ?_
          refine W.widen (k := 6) (n := 60) (by omega) (by omega) ?_
          exact hret (ad, σ, er, ofd, de, bo, ql, qs, tv, pf, hf, bf, gf, ei) dL_isGroup_98 hP hD hS ⟨rfl, LJ.mk rfl (hI.more hn) hof hbo ⟨dl, hDL⟩ hQZ hM hE⟩
    refine lv_iload hx hb dL_isGroup_18 (lv_at hl 5 rfl) ?_
    refine lv_iload_n hx hb dL_isGroup_20 rfl (lv_at hl 4 rfl) ?_
    refine ln_icmp_lt (tgt := 53) hx hb (by omega) (by omega) dL_isGroup_21 (by decide) (fun c21 => ?_) (fun c21 => ?_)
    · skip
      refine lv_iconst (v := nI 0) hx hb dL_isGroup_53 (by decide) ?_
      exact K54 0 (pV.f (fun w => by omega)) H locs hP hD hS ls (lv_sub hl [1, 2, 3, 4, 5, 6, 7, 0] rfl)
    · skip
      refine lv_iload hx hb dL_isGroup_24 (lv_at hl 6 rfl) ?_
      refine ln_if_le (tgt := 53) hx hb (by omega) dL_isGroup_26 (by decide) (fun c26 => ?_) (fun c26 => ?_)
      · skip
        refine lv_iconst (v := nI 0) hx hb dL_isGroup_53 (by decide) ?_
        exact K54 0 (pV.f (fun w => by omega)) H locs hP hD hS ls (lv_sub hl [1, 2, 3, 4, 5, 6, 7, 0] rfl)
      · skip
        refine lv_iload hx hb dL_isGroup_29 (lv_at hl 6 rfl) ?_
        refine lv_bipush (v := nI 11) hx hb dL_isGroup_31 (by decide) ?_
        refine ln_icmp_ge (tgt := 53) hx hb (by omega) (by omega) dL_isGroup_33 (by decide) (fun c33 => ?_) (fun c33 => ?_)
        · skip
          refine lv_iconst (v := nI 0) hx hb dL_isGroup_53 (by decide) ?_
          exact K54 0 (pV.f (fun w => by omega)) H locs hP hD hS ls (lv_sub hl [1, 2, 3, 4, 5, 6, 7, 0] rfl)
        · skip
          refine lv_iload hx hb dL_isGroup_36 (lv_at hl 7 rfl) ?_
          refine ln_if_le (tgt := 53) hx hb (by omega) dL_isGroup_38 (by decide) (fun c38 => ?_) (fun c38 => ?_)
          · skip
            refine lv_iconst (v := nI 0) hx hb dL_isGroup_53 (by decide) ?_
            exact K54 0 (pV.f (fun w => by omega)) H locs hP hD hS ls (lv_sub hl [1, 2, 3, 4, 5, 6, 7, 0] rfl)
          · skip
            refine lv_iload hx hb dL_isGroup_41 (lv_at hl 7 rfl) ?_
            refine lv_sipush (v := nI 3001) hx hb dL_isGroup_43 (by decide) ?_
            refine ln_icmp_ge (tgt := 53) hx hb (by omega) (by omega) dL_isGroup_46 (by decide) (fun c46 => ?_) (fun c46 => ?_)
            · skip
              refine lv_iconst (v := nI 0) hx hb dL_isGroup_53 (by decide) ?_
              exact K54 0 (pV.f (fun w => by omega)) H locs hP hD hS ls (lv_sub hl [1, 2, 3, 4, 5, 6, 7, 0] rfl)
            · skip
              refine lv_iconst (v := nI 1) hx hb dL_isGroup_49 (by decide) ?_
              refine lv_goto (tgt := 54) hx hb dL_isGroup_50 (by decide) ?_
              exact K54 1 (pV.t ⟨by omega, by omega, by omega⟩) H locs hP hD hS ls (lv_sub hl [1, 2, 3, 4, 5, 6, 7, 0] rfl)
  refine lv_iload_n hx hb dL_isGroup_0 rfl (lv_at hl 3 rfl) ?_
  refine lv_iconst (v := nI 3) hx hb dL_isGroup_1 (by decide) ?_
  refine ln_icmp_ge (tgt := 15) hx hb (by omega) (by omega) dL_isGroup_2 (by decide) (fun c2 => ?_) (fun c2 => ?_)
  · skip
    refine lv_iconst (v := nI 0) hx hb dL_isGroup_15 (by decide) ?_
    exact K16 0 (pV.f (fun w => by omega)) H locs hP hD hS ls (lv_sub hl [0, 1, 2, 3, 4, 5, 6] rfl)
  · skip
    refine lv_iload hx hb dL_isGroup_5 (lv_at hl 4 rfl) ?_
    refine lv_iconst (v := nI 3) hx hb dL_isGroup_7 (by decide) ?_
    refine ln_icmp_ge (tgt := 15) hx hb (by omega) (by omega) dL_isGroup_8 (by decide) (fun c8 => ?_) (fun c8 => ?_)
    · skip
      refine lv_iconst (v := nI 0) hx hb dL_isGroup_15 (by decide) ?_
      exact K16 0 (pV.f (fun w => by omega)) H locs hP hD hS ls (lv_sub hl [0, 1, 2, 3, 4, 5, 6] rfl)
    · skip
      refine lv_iconst (v := nI 1) hx hb dL_isGroup_11 (by decide) ?_
      refine lv_goto (tgt := 16) hx hb dL_isGroup_12 (by decide) ?_
      exact K16 1 (pV.t ⟨by omega, by omega⟩) H locs hP hD hS ls (lv_sub hl [0, 1, 2, 3, 4, 5, 6] rfl)
set_option maxHeartbeats 4000000 in
set_option maxRecDepth 100000 in
theorem c_L_isEnd (l : Launch) (hfl : l.stackTraces = false) (D : va_G) (cy : Nat → ClassId) (ap ah ab ag : Nat) (pf hf bf gf : Nat → Nat) (ei : Int32) (ad : Nat → Nat → Nat) (σ : SF) (er : Int64) (ofd de bo : Nat → Option Nat) (ql : Nat → Nat) (qs : Nat → Nat → Nat) (tv : Nat → Nat) {n : Nat} (hI : Iv n σ) (hof : OF ad σ ofd) (hbo : BO ad σ bo) {dl : List Nat} (hDL : DL ad σ de dl) (hQZ : QZ qs) (hM : MR σ pf hf bf gf) (hE : EM σ er ei) (sh : Nat) (hsh : sh ≤ 100) (hdy9 : σ 0 1 ≤ 9) (hn : n < 512) : cLI l D cy yL_isEnd wsL_isEnd rmL_isEnd [.ref ((ad 0 0)), .ref ap, .ref ah, .ref ab, .ref ag, .int (nI sh)] (MC cy ap ah ab ag pf hf bf gf ei ++ WG ad cy (σ 0 0) (σ 0 3) σ er ofd de bo ql qs tv) (T := STt) (wS cy ap ah ab ag) (fun r u => r = nI 1 ∧ LJ (n + 1) (ad 0 0) u) 6 60 := by
  refine cLI.ofN (cc := cL_isEnd) (maxL := 9) (by decide) rfl (Nat.le_of_ble_eq_true rfl) (fun v u h => z_one h.1) ?_
  intro p e s m args below meth c H0 A Q hx hb hml hown hts hP hK hD hS hA hXW hXZ hAe hH0e hret ls hl
  obtain ⟨H, locs, hH, hlo⟩ : ∃ (H : Heap) (locs : List Loc), H = H0 ∧ locs = [] := ⟨_, _, rfl, rfl⟩
  rw [← hH] at hP
  rw [show va_S A H0 H0 [] = va_S A H0 H locs by rw [hH, hlo]] at hS
  rw [show W p l e rmL_isEnd s m args below meth c H0 [] 0 0 Q (F0 m 0 ls []) = W p l e rmL_isEnd s m args below meth c H locs 0 0 Q (F0 m 0 ls []) by rw [hH, hlo]]
  have hnp := hM.np
  have hnb := hM.nb
  refine lv_iconst (v := nI 0) hx hb dL_isEnd_0 (by decide) ?_
  refine lv_istore (lv' := [(6, .int (nI 0)), (0, .ref ((ad 0 0))), (1, .ref ap), (2, .ref ah), (3, .ref ab), (4, .ref ag), (5, .int (nI sh))]) hx hb dL_isEnd_1 hl (by decide) rfl (fun ls hl => ?_)
  refine lv_iconst (v := nI 0) hx hb dL_isEnd_3 (by decide) ?_
  have K6 : ∀ (n6 : Nat) (leg : Nat) (dn : Nat), 3 - leg < n6 → (leg ≤ 3) → (dn = den σ sh leg) → ∀ (H : Heap) (locs : List Loc), va_P D vwCl (MC cy ap ah ab ag pf hf bf gf ei ++ WG ad cy (σ 0 0) (σ 0 3) σ er ofd de bo ql qs tv) H → va_D A (MC cy ap ah ab ag pf hf bf gf ei ++ WG ad cy (σ 0 0) (σ 0 3) σ er ofd de bo ql qs tv) → va_S A H0 H locs → ∀ ls : Array Slot, lv_has ls 9 [(0, .ref ((ad 0 0))), (1, .ref ap), (2, .ref ah), (3, .ref ab), (4, .ref ag), (5, .int (nI sh)), (6, .int (nI dn)), (7, .int (nI leg))] → W p l e rmL_isEnd s m args below meth c H locs 0 0 Q (F0 m 6 ls []) := by
    intro n6
    induction n6 with
    | zero =>
      intro leg dn hfu
      exact absurd hfu (Nat.not_lt_zero _)
    | succ n6 ih6 =>
      intro leg dn hfu hleg hdn H locs hP hD hS ls hl
      refine lv_iload hx hb dL_isEnd_6 (lv_at hl 7 rfl) ?_
      refine lv_iconst (v := nI 3) hx hb dL_isEnd_8 (by decide) ?_
      refine ln_icmp_ge (tgt := 79) hx hb (by omega) (by omega) dL_isEnd_9 (by decide) (fun c9 => ?_) (fun c9 => ?_)
      · skip
        have hdn3 : dn = den σ sh 3 := by rw [hdn, show leg = 3 by omega]
        have hdle := den_le hM hI hsh
        refine lv_iconst (v := nI 0) hx hb dL_isEnd_79 (by decide) ?_
        have K82 : ∀ (n82 : Nat) (k : Nat) (eiv : Int32), σ 0 3 - k < n82 → (k ≤ σ 0 3) → (eiv = ei + nI (psum σ k)) → ∀ (H : Heap) (locs : List Loc), va_P D vwCl (MC cy ap ah ab ag pf hf bf gf eiv ++ WG ad cy (σ 0 0) (σ 0 3) σ er ofd de bo ql qs tv) H → va_D A (MC cy ap ah ab ag pf hf bf gf eiv ++ WG ad cy (σ 0 0) (σ 0 3) σ er ofd de bo ql qs tv) → va_S A H0 H locs → ∀ ls : Array Slot, lv_has ls 9 [(0, .ref ((ad 0 0))), (1, .ref ap), (2, .ref ah), (3, .ref ab), (4, .ref ag), (5, .int (nI sh)), (6, .int (nI dn)), (7, .int (nI k))] → W p l e rmL_isEnd s m args below meth c H locs 0 0 Q (F0 m 82 ls []) := by
          intro n82
          induction n82 with
          | zero =>
            intro k eiv hfu
            exact absurd hfu (Nat.not_lt_zero _)
          | succ n82 ih82 =>
            intro k eiv hfu hk heiv H locs hP hD hS ls hl
            refine lv_iload hx hb dL_isEnd_82 (lv_at hl 7 rfl) ?_
            refine lv_aload hx hb dL_isEnd_84 (lv_at hl 4 rfl) ?_
            refine lv_bipush (v := nI 6) hx hb dL_isEnd_86 (by decide) ?_
            refine mg_ld (v := σ 0 3) hx hb hK (mcl hP) (by omega) hM.g6 dL_isEnd_88 ?_
            refine ln_icmp_ge (tgt := 113) hx hb (by omega) (by omega) dL_isEnd_89 (by decide) (fun c89 => ?_) (fun c89 => ?_)
            · skip
              refine lv_aload hx hb dL_isEnd_113 (lv_at hl 4 rfl) ?_
              refine lv_bipush (v := nI 10) hx hb dL_isEnd_115 (by decide) ?_
              refine lv_dup2_11 hx hb dL_isEnd_117 rfl rfl ?_
              refine mgE_ld hx hb hK (mcl hP) dL_isEnd_118 ?_
              refine lv_bipush (v := nI 100) hx hb dL_isEnd_119 (by decide) ?_
              refine lv_iload hx hb dL_isEnd_121 (lv_at hl 6 rfl) ?_
              refine ln_imul hx hb dL_isEnd_123 (fun z123 hz123 => ?_)
              refine lv_isub hx hb dL_isEnd_124 ?_
              refine mgE_st hx hb hK hP hD hS dL_isEnd_125 (fun H locs hP hD hS => ?_)
              obtain ⟨ei2, hei2⟩ : ∃ x : Int32, x = (eiv - (nI z123)) := ⟨_, rfl⟩
              rw [← hei2] at hP hD
              have hE2 : EM (enF σ) (enE σ er sh) ei2 := by rw [hei2, heiv, hz123, hdn3, show k = σ 0 3 by omega]; exact hE.ends hM hI hsh
              refine lv_iconst (v := nI 0) hx hb dL_isEnd_126 (by decide) ?_
              have K129 : ∀ (n129 : Nat) (k3 : Nat) (pfv : Nat → Nat) (hfv : Nat → Nat), σ 0 0 - k3 < n129 → (k3 ≤ σ 0 0) → (∀ i, i < σ 0 0 → i < k3 → pfv (6 * i) = σ 3 i ∧ pfv (6 * i + 1) = σ 4 i ∧ pfv (6 * i + 2) = σ 5 i ∧ pfv (6 * i + 3) = (σ 8 i + σ 7 i) / (σ 0 1 + 1) ∧ pfv (6 * i + 4) = 0 ∧ pfv (6 * i + 5) = σ 8 i + σ 7 i) → (∀ i, i < σ 0 0 → k3 ≤ i → pfv (6 * i) = σ 3 i ∧ pfv (6 * i + 1) = σ 4 i ∧ pfv (6 * i + 2) = σ 5 i ∧ pfv (6 * i + 3) = σ 6 i ∧ pfv (6 * i + 4) = σ 7 i ∧ pfv (6 * i + 5) = σ 8 i) → (∀ i, i < σ 0 0 → i < k3 → hfv (10 * i + σ 0 1) = σ 7 i) → (∀ i, i < σ 0 0 → ∀ d, d < σ 0 1 → hfv (10 * i + d) = hf (10 * i + d)) → (∀ i, hfv i ≤ 512) → ∀ (H : Heap) (locs : List Loc), va_P D vwCl (MC cy ap ah ab ag pfv hfv bf gf ei2 ++ WG ad cy (σ 0 0) (σ 0 3) σ er ofd de bo ql qs tv) H → va_D A (MC cy ap ah ab ag pfv hfv bf gf ei2 ++ WG ad cy (σ 0 0) (σ 0 3) σ er ofd de bo ql qs tv) → va_S A H0 H locs → ∀ ls : Array Slot, lv_has ls 9 [(0, .ref ((ad 0 0))), (1, .ref ap), (2, .ref ah), (3, .ref ab), (4, .ref ag), (5, .int (nI sh)), (6, .int (nI dn)), (7, .int (nI k3))] → W p l e rmL_isEnd s m args below meth c H locs 0 0 Q (F0 m 129 ls []) := by
                intro n129
                induction n129 with
                | zero =>
                  intro k3 pfv hfv hfu
                  exact absurd hfu (Nat.not_lt_zero _)
                | succ n129 ih129 =>
                  intro k3 pfv hfv hfu hk3 hp1 hp2 hh1 hh2 hh3 H locs hP hD hS ls hl
                  refine lv_iload hx hb dL_isEnd_129 (lv_at hl 7 rfl) ?_
                  refine lv_aload hx hb dL_isEnd_131 (lv_at hl 4 rfl) ?_
                  refine lv_iconst (v := nI 4) hx hb dL_isEnd_133 (by decide) ?_
                  refine mg_ld (v := σ 0 0) hx hb hK (mcl hP) (by omega) hM.g4 dL_isEnd_134 ?_
                  refine ln_icmp_ge (tgt := 221) hx hb (by omega) (by omega) dL_isEnd_135 (by decide) (fun c135 => ?_) (fun c135 => ?_)
                  · skip
                    refine lv_aload hx hb dL_isEnd_221 (lv_at hl 4 rfl) ?_
                    refine lv_iconst (v := nI 5) hx hb dL_isEnd_223 (by decide) ?_
                    refine lv_dup2_11 hx hb dL_isEnd_224 rfl rfl ?_
                    refine mg_ld (v := σ 0 1) hx hb hK (mcl hP) (by omega) hM.g5 dL_isEnd_225 ?_
                    refine lv_iconst (v := nI 1) hx hb dL_isEnd_226 (by decide) ?_
                    refine ln_iadd hx hb dL_isEnd_227 (fun z227 hz227 => ?_)
                    refine mg_st hx hb hK hP hD hS (by omega) dL_isEnd_228 (fun H locs hP hD hS => ?_)
                    refine lv_aload hx hb dL_isEnd_229 (lv_at hl 4 rfl) ?_
                    refine lv_bipush (v := nI 6) hx hb dL_isEnd_231 (by decide) ?_
                    refine lv_iconst (v := nI 0) hx hb dL_isEnd_233 (by decide) ?_
                    refine mg_st hx hb hK hP hD hS (by omega) dL_isEnd_234 (fun H locs hP hD hS => ?_)
                    refine lv_aload_n hx hb dL_isEnd_235 rfl (lv_at hl 0 rfl) ?_
                    refine lv_bipush (v := nI 7) hx hb dL_isEnd_236 (by decide) ?_
                    refine lv_iload hx hb dL_isEnd_238 (lv_at hl 5 rfl) ?_
                    refine lv_iconst (v := nI 0) hx hb dL_isEnd_240 (by decide) ?_
                    refine lv_iconst (v := nI 0) hx hb dL_isEnd_241 (by decide) ?_
                    refine lv_iconst (v := nI 0) hx hb dL_isEnd_242 (by decide) ?_
                    refine ap_calli (vx_runSW (As := [.ref ((ad 0 0)), .int (nI 7), .int (nI sh), .int (nI 0), .int (nI 0), .int (nI 0)]) (rest := []) ⟨hx, hb, hml, hown, hts⟩ (c_L_does_7 l hfl D cy ad σ er ofd de bo ql qs tv hof hbo hI hn ((nI sh)) ((nI 0)) ((nI 0)) ((nI 0)) H.size) (vx_cwSW 6 hts gL_isEnd_L_does rfl rfl rfl hdL_does.2 ⟨Nat.le_of_ble_eq_true rfl, Nat.le_of_ble_eq_true rfl⟩) (xo_preS hK rfl (mcr hP) (hD.subl (List.sublist_append_right _ _)) hXW (hXZ.at hS hD hA (fun _ hq => List.mem_append_right _ hq))) rfl rfl hl.1 rfl (lv_room (Nat.le_of_ble_eq_true rfl)) dL_isEnd_243 ⟨(by show 0 + 2 ≤ 6; omega), (by show 0 + 28 ≤ 60; omega)⟩) hS hP hD hA (fun z243 u243 H locs hz243 hP hD hS => ?_)
                    obtain ⟨t243, rfl, -, hz243⟩ := pD_ok hz243 (fun E h => h.1 (okR_i (by omega) (by omega) (by omega)))
                    have ec : cN (nI sh) = sh := cN_nI (by omega)
                    rw [ec] at hz243
                    subst hz243
                    have hP : va_P D vwCl (MC cy ap ah ab ag pfv hfv bf (va_up (va_up gf 5 z227) 6 0) ei2 ++ WG ad cy (σ 0 0) 0 (enF σ) (enE σ er (cN (nI sh))) ofd de bo ql qs tv) H := hP
                    have hD : va_D A (MC cy ap ah ab ag pfv hfv bf (va_up (va_up gf 5 z227) 6 0) ei2 ++ WG ad cy (σ 0 0) 0 (enF σ) (enE σ er (cN (nI sh))) ofd de bo ql qs tv) := hD
                    rw [ec] at hP hD
                    refine lv_iload hx hb dL_isEnd_246 (lv_at hl 6 rfl) ?_
                    refine lv_icmp_ne (tgt := 255) hx hb dL_isEnd_248 (by decide) (fun c248 => absurd (congrArg nI hdn3.symm) c248) (fun c248 => ?_)
                    refine lv_iconst (v := nI 1) hx hb dL_isEnd_251 (by decide) ?_
                    refine lv_goto (tgt := 256) hx hb dL_isEnd_252 (by decide) ?_
                    subst hz227
                    refine W.widen (k := 6) (n := 60) (by omega) (by omega) ?_
                    exact hret (ad, enF σ, enE σ er sh, ofd, de, bo, ql, qs, tv, pfv, hfv, bf, va_up (va_up gf 5 (σ 0 1 + 1)) 6 0, ei2) dL_isEnd_256 hP hD hS ⟨rfl, LJ.mk rfl (hI.ends hn) (hof.c rfl rfl) (hbo.c rfl (Nat.zero_le _)) ⟨dl, hDL.c rfl rfl rfl⟩ hQZ (hM.ends hdy9 (fun k hk => hp1 k hk (by omega)) (fun k hk => ⟨hh1 k hk (by omega), hh2 k hk⟩) hh3) hE2⟩
                  · skip
                    obtain ⟨y0, y1, y2, y3, y4, y5⟩ := hp2 k3 c135 (Nat.le_refl _)
                    have hpA := hI.pA k3
                    refine lv_aload_n hx hb dL_isEnd_138 rfl (lv_at hl 2 rfl) ?_
                    refine lv_bipush (v := nI 10) hx hb dL_isEnd_139 (by decide) ?_
                    refine lv_iload hx hb dL_isEnd_141 (lv_at hl 7 rfl) ?_
                    refine ln_imul hx hb dL_isEnd_143 (fun z143 hz143 => ?_)
                    refine lv_aload hx hb dL_isEnd_144 (lv_at hl 4 rfl) ?_
                    refine lv_iconst (v := nI 5) hx hb dL_isEnd_146 (by decide) ?_
                    refine mg_ld (v := σ 0 1) hx hb hK (mcl hP) (by omega) hM.g5 dL_isEnd_147 ?_
                    refine ln_iadd hx hb dL_isEnd_148 (fun z148 hz148 => ?_)
                    refine lv_aload_n hx hb dL_isEnd_149 rfl (lv_at hl 1 rfl) ?_
                    refine lv_bipush (v := nI 6) hx hb dL_isEnd_150 (by decide) ?_
                    refine lv_iload hx hb dL_isEnd_152 (lv_at hl 7 rfl) ?_
                    refine ln_imul hx hb dL_isEnd_154 (fun z154 hz154 => ?_)
                    refine lv_iconst (v := nI 4) hx hb dL_isEnd_155 (by decide) ?_
                    refine ln_iadd hx hb dL_isEnd_156 (fun z156 hz156 => ?_)
                    refine mp_ld (v := σ 7 k3) hx hb hK (mcl hP) (by omega) (by rw [show z156 = 6 * k3 + 4 by omega]; exact y4) dL_isEnd_157 ?_
                    refine mh_st hx hb hK hP hD hS (by omega) dL_isEnd_158 (fun H locs hP hD hS => ?_)
                    refine lv_aload_n hx hb dL_isEnd_159 rfl (lv_at hl 1 rfl) ?_
                    refine lv_bipush (v := nI 6) hx hb dL_isEnd_160 (by decide) ?_
                    refine lv_iload hx hb dL_isEnd_162 (lv_at hl 7 rfl) ?_
                    refine ln_imul hx hb dL_isEnd_164 (fun z164 hz164 => ?_)
                    refine lv_iconst (v := nI 5) hx hb dL_isEnd_165 (by decide) ?_
                    refine ln_iadd hx hb dL_isEnd_166 (fun z166 hz166 => ?_)
                    refine lv_dup2_11 hx hb dL_isEnd_167 rfl rfl ?_
                    refine mp_ld (v := σ 8 k3) hx hb hK (mcl hP) (by omega) (by rw [show z166 = 6 * k3 + 5 by omega]; exact y5) dL_isEnd_168 ?_
                    refine lv_aload_n hx hb dL_isEnd_169 rfl (lv_at hl 1 rfl) ?_
                    refine lv_bipush (v := nI 6) hx hb dL_isEnd_170 (by decide) ?_
                    refine lv_iload hx hb dL_isEnd_172 (lv_at hl 7 rfl) ?_
                    refine ln_imul hx hb dL_isEnd_174 (fun z174 hz174 => ?_)
                    refine lv_iconst (v := nI 4) hx hb dL_isEnd_175 (by decide) ?_
                    refine ln_iadd hx hb dL_isEnd_176 (fun z176 hz176 => ?_)
                    refine mp_ld (v := σ 7 k3) hx hb hK (mcl hP) (by omega) (by rw [show z176 = 6 * k3 + 4 by omega]; exact y4) dL_isEnd_177 ?_
                    refine ln_iadd hx hb dL_isEnd_178 (fun z178 hz178 => ?_)
                    refine mp_st hx hb hK hP hD hS (by omega) dL_isEnd_179 (fun H locs hP hD hS => ?_)
                    refine lv_aload_n hx hb dL_isEnd_180 rfl (lv_at hl 1 rfl) ?_
                    refine lv_bipush (v := nI 6) hx hb dL_isEnd_181 (by decide) ?_
                    refine lv_iload hx hb dL_isEnd_183 (lv_at hl 7 rfl) ?_
                    refine ln_imul hx hb dL_isEnd_185 (fun z185 hz185 => ?_)
                    refine lv_iconst (v := nI 3) hx hb dL_isEnd_186 (by decide) ?_
                    refine ln_iadd hx hb dL_isEnd_187 (fun z187 hz187 => ?_)
                    refine lv_aload_n hx hb dL_isEnd_188 rfl (lv_at hl 1 rfl) ?_
                    refine lv_bipush (v := nI 6) hx hb dL_isEnd_189 (by decide) ?_
                    refine lv_iload hx hb dL_isEnd_191 (lv_at hl 7 rfl) ?_
                    refine ln_imul hx hb dL_isEnd_193 (fun z193 hz193 => ?_)
                    refine lv_iconst (v := nI 5) hx hb dL_isEnd_194 (by decide) ?_
                    refine ln_iadd hx hb dL_isEnd_195 (fun z195 hz195 => ?_)
                    refine mp_ld (v := z178) hx hb hK (mcl hP) (by omega) (by rw [show z195 = z166 by omega]; exact up_at) dL_isEnd_196 ?_
                    refine lv_aload hx hb dL_isEnd_197 (lv_at hl 4 rfl) ?_
                    refine lv_iconst (v := nI 5) hx hb dL_isEnd_199 (by decide) ?_
                    refine mg_ld (v := σ 0 1) hx hb hK (mcl hP) (by omega) hM.g5 dL_isEnd_200 ?_
                    refine lv_iconst (v := nI 1) hx hb dL_isEnd_201 (by decide) ?_
                    refine ln_iadd hx hb dL_isEnd_202 (fun z202 hz202 => ?_)
                    refine ln_idiv hx hb (by omega) (by omega) (by omega) dL_isEnd_203 (fun z203 hz203 => ?_)
                    refine mp_st hx hb hK hP hD hS (by omega) dL_isEnd_204 (fun H locs hP hD hS => ?_)
                    refine lv_aload_n hx hb dL_isEnd_205 rfl (lv_at hl 1 rfl) ?_
                    refine lv_bipush (v := nI 6) hx hb dL_isEnd_206 (by decide) ?_
                    refine lv_iload hx hb dL_isEnd_208 (lv_at hl 7 rfl) ?_
                    refine ln_imul hx hb dL_isEnd_210 (fun z210 hz210 => ?_)
                    refine lv_iconst (v := nI 4) hx hb dL_isEnd_211 (by decide) ?_
                    refine ln_iadd hx hb dL_isEnd_212 (fun z212 hz212 => ?_)
                    refine lv_iconst (v := nI 0) hx hb dL_isEnd_213 (by decide) ?_
                    refine mp_st hx hb hK hP hD hS (by omega) dL_isEnd_214 (fun H locs hP hD hS => ?_)
                    have hup := up_end (pfv := pfv) (k := k3) (i5 := z166) (i3 := z187) (i4 := z212) (a := z178) (b := z203) (by omega) (by omega) (by omega)
                    obtain ⟨pf3, hpf3⟩ : ∃ f : Nat → Nat, f = va_up (va_up (va_up pfv z166 z178) z187 z203) z212 0 := ⟨_, rfl⟩
                    rw [← hpf3] at hP hD hup
                    obtain ⟨w0, w1, w2, w3, w4, w5, w6⟩ := hup
                    obtain ⟨z215, hz215⟩ : ∃ z : Nat, z = k3 + 1 := ⟨_, rfl⟩
                    refine lv_iinc (v := nI z215) (lv' := [(7, .int (nI z215)), (0, .ref ((ad 0 0))), (1, .ref ap), (2, .ref ah), (3, .ref ab), (4, .ref ag), (5, .int (nI sh)), (6, .int (nI dn))]) hx hb dL_isEnd_215 hl (k := 7) rfl (by rw [hz215]; exact nI_add _ 1) (by decide) rfl (fun ls hl => ?_)
                    refine lv_goto (tgt := 129) hx hb dL_isEnd_218 (by decide) ?_
                    exact ih129 z215 pf3 (va_up hfv z148 (σ 7 k3)) (by omega) (by omega) (fun i hi hi2 => by by_cases w : i = k3; (rw [w]; exact ⟨w1.trans y0, w2.trans y1, w3.trans y2, by rw [w4, hz203, hz178, hz202], w5, by rw [w6, hz178]⟩); (obtain ⟨u0, u1, u2, u3, u4, u5⟩ := hp1 i hi (by omega); exact ⟨(w0 i w 0 (by omega)).trans u0, (w0 i w 1 (by omega)).trans u1, (w0 i w 2 (by omega)).trans u2, (w0 i w 3 (by omega)).trans u3, (w0 i w 4 (by omega)).trans u4, (w0 i w 5 (by omega)).trans u5⟩)) (fun i hi hi2 => by have w : i ≠ k3 := (by omega); obtain ⟨u0, u1, u2, u3, u4, u5⟩ := hp2 i hi (by omega); exact ⟨(w0 i w 0 (by omega)).trans u0, (w0 i w 1 (by omega)).trans u1, (w0 i w 2 (by omega)).trans u2, (w0 i w 3 (by omega)).trans u3, (w0 i w 4 (by omega)).trans u4, (w0 i w 5 (by omega)).trans u5⟩) (fun i hi hi2 => by by_cases w : i = k3; (rw [w, show 10 * k3 + σ 0 1 = z148 by omega, up_at]); (rw [va_ne (by omega)]; exact hh1 i hi (by omega))) (fun i hi d hd => by rw [va_ne (by omega)]; exact hh2 i hi d hd) (fun i => by rw [up_if]; split; omega; exact hh3 i) H locs hP hD hS ls (lv_sub hl [1, 2, 3, 4, 5, 6, 7, 0] rfl)
              refine lv_istore (lv' := [(7, .int (nI 0)), (0, .ref ((ad 0 0))), (1, .ref ap), (2, .ref ah), (3, .ref ab), (4, .ref ag), (5, .int (nI sh)), (6, .int (nI dn))]) hx hb dL_isEnd_127 hl (by decide) rfl (fun ls hl => ?_)
              exact K129 _ 0 pf hf (Nat.lt_succ_self _) (Nat.zero_le _) (fun i _ h => absurd h (Nat.not_lt_zero i)) (fun i hi _ => hM.1 i hi) (fun i _ h => absurd h (Nat.not_lt_zero i)) (fun _ _ _ _ => rfl) hM.hb H locs hP hD hS ls (lv_sub hl [1, 2, 3, 4, 5, 6, 7, 0] rfl)
            · skip
              refine lv_aload hx hb dL_isEnd_92 (lv_at hl 4 rfl) ?_
              refine lv_bipush (v := nI 10) hx hb dL_isEnd_94 (by decide) ?_
              refine lv_dup2_11 hx hb dL_isEnd_96 rfl rfl ?_
              refine mgE_ld hx hb hK (mcl hP) dL_isEnd_97 ?_
              refine lv_aload_n hx hb dL_isEnd_98 rfl (lv_at hl 3 rfl) ?_
              refine lv_bipush (v := nI 20) hx hb dL_isEnd_99 (by decide) ?_
              refine lv_iload hx hb dL_isEnd_101 (lv_at hl 7 rfl) ?_
              refine ln_iadd hx hb dL_isEnd_103 (fun z103 hz103 => ?_)
              refine mb_ld (v := (if σ 14 k = 0 then σ 13 k else 0)) hx hb hK (mcl hP) (by omega) (hM.b2 c89 hz103) dL_isEnd_104 ?_
              refine lv_iadd hx hb dL_isEnd_105 ?_
              refine mgE_st hx hb hK hP hD hS dL_isEnd_106 (fun H locs hP hD hS => ?_)
              obtain ⟨z107, hz107⟩ : ∃ z : Nat, z = k + 1 := ⟨_, rfl⟩
              refine lv_iinc (v := nI z107) (lv' := [(7, .int (nI z107)), (0, .ref ((ad 0 0))), (1, .ref ap), (2, .ref ah), (3, .ref ab), (4, .ref ag), (5, .int (nI sh)), (6, .int (nI dn))]) hx hb dL_isEnd_107 hl (k := 7) rfl (by rw [hz107]; exact nI_add _ 1) (by decide) rfl (fun ls hl => ?_)
              refine lv_goto (tgt := 82) hx hb dL_isEnd_110 (by decide) ?_
              exact ih82 z107 ((eiv + (nI ((if σ 14 k = 0 then σ 13 k else 0))))) (by omega) (by omega) (by rw [heiv, hz107, Int32.add_assoc, nI_add]; rfl) H locs hP hD hS ls (lv_sub hl [1, 2, 3, 4, 5, 6, 7, 0] rfl)
        refine lv_istore (lv' := [(7, .int (nI 0)), (0, .ref ((ad 0 0))), (1, .ref ap), (2, .ref ah), (3, .ref ab), (4, .ref ag), (5, .int (nI sh)), (6, .int (nI dn))]) hx hb dL_isEnd_80 hl (by decide) rfl (fun ls hl => ?_)
        exact K82 _ 0 ei (Nat.lt_succ_self _) (Nat.zero_le _) (by rw [show psum σ 0 = 0 from rfl, nI_0, Int32.add_zero]) H locs hP hD hS ls (lv_sub hl [1, 2, 3, 4, 5, 6, 7, 0] rfl)
      · skip
        have hse := hI.se leg c9
        have hbk := bk_le hM hI c9
        have hmul : σ 2 leg * sh ≤ 190 * 100 := Nat.mul_le_mul hbk hsh
        refine lv_aload_n hx hb dL_isEnd_12 rfl (lv_at hl 3 rfl) ?_
        refine lv_aload hx hb dL_isEnd_13 (lv_at hl 4 rfl) ?_
        refine lv_iload hx hb dL_isEnd_15 (lv_at hl 7 rfl) ?_
        refine ro_calliN (va_runS (As := [.ref ab, .ref ag, .int (nI leg)]) (rest := []) ⟨hx, hb, hml, hown, hts⟩ (c_L_booked l D cy ap ah ab ag pf hf bf gf ei σ hI hM leg c9 H (mcl hP)) (va_cwS 3 hts gL_isEnd_L_booked rfl rfl rfl hdL_booked.2 ⟨Nat.le_of_ble_eq_true rfl, Nat.le_of_ble_eq_true rfl⟩) (ro_pre hK rfl) rfl rfl hl.1 rfl (lv_room (Nat.le_of_ble_eq_true rfl)) dL_isEnd_17 ⟨(by show 0 + 0 ≤ 6; omega), (by show 0 + 0 ≤ 60; omega)⟩) (fun z17 hz17 => ?_)
        subst hz17
        refine lv_iload hx hb dL_isEnd_20 (lv_at hl 5 rfl) ?_
        refine ln_imul hx hb dL_isEnd_22 (fun z22 hz22 => ?_)
        refine lv_istore (lv' := [(8, .int (nI z22)), (0, .ref ((ad 0 0))), (1, .ref ap), (2, .ref ah), (3, .ref ab), (4, .ref ag), (5, .int (nI sh)), (6, .int (nI dn)), (7, .int (nI leg))]) hx hb dL_isEnd_23 hl (by decide) rfl (fun ls hl => ?_)
        refine lv_iload hx hb dL_isEnd_25 (lv_at hl 0 rfl) ?_
        refine lv_bipush (v := nI 100) hx hb dL_isEnd_27 (by decide) ?_
        refine ln_idiv hx hb (by omega) (by omega) (by omega) dL_isEnd_29 (fun z29 hz29 => ?_)
        have K43 : ∀ (x1 : Nat), (z29 + x1 = (σ 2 leg * sh + 99) / 100) → ∀ (H : Heap) (locs : List Loc), va_P D vwCl (MC cy ap ah ab ag pf hf bf gf ei ++ WG ad cy (σ 0 0) (σ 0 3) σ er ofd de bo ql qs tv) H → va_D A (MC cy ap ah ab ag pf hf bf gf ei ++ WG ad cy (σ 0 0) (σ 0 3) σ er ofd de bo ql qs tv) → va_S A H0 H locs → ∀ ls : Array Slot, lv_has ls 9 [(0, .ref ((ad 0 0))), (1, .ref ap), (2, .ref ah), (3, .ref ab), (4, .ref ag), (5, .int (nI sh)), (6, .int (nI dn)), (7, .int (nI leg))] → W p l e rmL_isEnd s m args below meth c H locs 0 0 Q (F0 m 43 ls [.int (nI x1), .int (nI z29)]) := by
          intro x1 hx1 H locs hP hD hS ls hl
          refine ln_iadd hx hb dL_isEnd_43 (fun z43 hz43 => ?_)
          have K70 : ∀ (x2 : Nat), (dn + x2 = den σ sh (leg + 1)) → ∀ (H : Heap) (locs : List Loc), va_P D vwCl (MC cy ap ah ab ag pf hf bf gf ei ++ WG ad cy (σ 0 0) (σ 0 3) σ er ofd de bo ql qs tv) H → va_D A (MC cy ap ah ab ag pf hf bf gf ei ++ WG ad cy (σ 0 0) (σ 0 3) σ er ofd de bo ql qs tv) → va_S A H0 H locs → ∀ ls : Array Slot, lv_has ls 9 [(0, .ref ((ad 0 0))), (1, .ref ap), (2, .ref ah), (3, .ref ab), (4, .ref ag), (5, .int (nI sh)), (6, .int (nI dn)), (7, .int (nI leg))] → W p l e rmL_isEnd s m args below meth c H locs 0 0 Q (F0 m 70 ls [.int (nI x2), .int (nI dn)]) := by
            intro x2 hx2 H locs hP hD hS ls hl
            refine ln_iadd hx hb dL_isEnd_70 (fun z70 hz70 => ?_)
            refine lv_istore (lv' := [(6, .int (nI z70)), (0, .ref ((ad 0 0))), (1, .ref ap), (2, .ref ah), (3, .ref ab), (4, .ref ag), (5, .int (nI sh)), (7, .int (nI leg))]) hx hb dL_isEnd_71 hl (by decide) rfl (fun ls hl => ?_)
            obtain ⟨z73, hz73⟩ : ∃ z : Nat, z = leg + 1 := ⟨_, rfl⟩
            refine lv_iinc (v := nI z73) (lv' := [(7, .int (nI z73)), (6, .int (nI z70)), (0, .ref ((ad 0 0))), (1, .ref ap), (2, .ref ah), (3, .ref ab), (4, .ref ag), (5, .int (nI sh))]) hx hb dL_isEnd_73 hl (k := 7) rfl (by rw [hz73]; exact nI_add _ 1) (by decide) rfl (fun ls hl => ?_)
            refine lv_goto (tgt := 6) hx hb dL_isEnd_76 (by decide) ?_
            exact ih6 z73 z70 (by omega) (by omega) (by rw [hz70, hx2, hz73]) H locs hP hD hS ls (lv_sub hl [2, 3, 4, 5, 6, 7, 1, 0] rfl)
          refine lv_istore (lv' := [(8, .int (nI z43)), (0, .ref ((ad 0 0))), (1, .ref ap), (2, .ref ah), (3, .ref ab), (4, .ref ag), (5, .int (nI sh)), (6, .int (nI dn)), (7, .int (nI leg))]) hx hb dL_isEnd_44 hl (by decide) rfl (fun ls hl => ?_)
          refine lv_iload hx hb dL_isEnd_46 (lv_at hl 7 rfl) ?_
          refine lv_iload hx hb dL_isEnd_48 (lv_at hl 0 rfl) ?_
          refine lv_aload hx hb dL_isEnd_50 (lv_at hl 5 rfl) ?_
          refine lv_iload hx hb dL_isEnd_52 (lv_at hl 8 rfl) ?_
          refine mg_ld (v := σ 1 leg) hx hb hK (mcl hP) (by omega) (hM.g0 c9) dL_isEnd_54 ?_
          refine ln_icmp_le (tgt := 69) hx hb (by omega) (by omega) dL_isEnd_55 (by decide) (fun c55 => ?_) (fun c55 => ?_)
          · skip
            refine lv_iconst (v := nI 0) hx hb dL_isEnd_69 (by decide) ?_
            exact K70 0 (by rw [hdn]; show _ = den σ sh leg + den1 σ sh leg; unfold den1; omega) H locs hP hD hS ls (lv_sub hl [1, 2, 3, 4, 5, 6, 7, 8] rfl)
          · skip
            refine lv_iload hx hb dL_isEnd_58 (lv_at hl 0 rfl) ?_
            refine lv_aload hx hb dL_isEnd_60 (lv_at hl 5 rfl) ?_
            refine lv_iload hx hb dL_isEnd_62 (lv_at hl 8 rfl) ?_
            refine mg_ld (v := σ 1 leg) hx hb hK (mcl hP) (by omega) (hM.g0 c9) dL_isEnd_64 ?_
            refine ln_isub hx hb (by omega) dL_isEnd_65 (fun z65 hz65 => ?_)
            refine lv_goto (tgt := 70) hx hb dL_isEnd_66 (by decide) ?_
            exact K70 z65 (by rw [hdn]; show _ = den σ sh leg + den1 σ sh leg; unfold den1; omega) H locs hP hD hS ls (lv_sub hl [1, 2, 3, 4, 5, 6, 7, 8] rfl)
        refine lv_iload hx hb dL_isEnd_30 (lv_at hl 0 rfl) ?_
        refine lv_bipush (v := nI 100) hx hb dL_isEnd_32 (by decide) ?_
        refine ln_irem hx hb (by omega) (by omega) (by omega) dL_isEnd_34 (fun z34 hz34 => ?_)
        refine ln_if_le (tgt := 42) hx hb (by omega) dL_isEnd_35 (by decide) (fun c35 => ?_) (fun c35 => ?_)
        · skip
          refine lv_iconst (v := nI 0) hx hb dL_isEnd_42 (by decide) ?_
          exact K43 0 (by omega) H locs hP hD hS ls (lv_sub hl [1, 2, 3, 4, 5, 6, 7, 8] rfl)
        · skip
          refine lv_iconst (v := nI 1) hx hb dL_isEnd_38 (by decide) ?_
          refine lv_goto (tgt := 43) hx hb dL_isEnd_39 (by decide) ?_
          exact K43 1 (by omega) H locs hP hD hS ls (lv_sub hl [1, 2, 3, 4, 5, 6, 7, 8] rfl)
  refine lv_istore (lv' := [(7, .int (nI 0)), (6, .int (nI 0)), (0, .ref ((ad 0 0))), (1, .ref ap), (2, .ref ah), (3, .ref ab), (4, .ref ag), (5, .int (nI sh))]) hx hb dL_isEnd_4 hl (by decide) rfl (fun ls hl => ?_)
  exact K6 _ 0 0 (Nat.lt_succ_self _) (by omega) rfl H locs hP hD hS ls (lv_sub hl [2, 3, 4, 5, 6, 7, 1, 0] rfl)
