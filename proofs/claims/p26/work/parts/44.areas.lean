set_option maxHeartbeats 4000000 in
set_option maxRecDepth 100000 in
theorem c_L_areLegs (l : Launch) (hfl : l.stackTraces = false) (D : va_G) (cy : Nat → ClassId) (ap ah ab ag : Nat) (pf hf bf gf : Nat → Nat) (ei : Int32) (ad : Nat → Nat → Nat) (σ : SF) (er : Int64) (ofd de bo : Nat → Option Nat) (ql : Nat → Nat) (qs : Nat → Nat → Nat) (tv : Nat → Nat) {n : Nat} (hI : Iv n σ) (hof : OF ad σ ofd) (hbo : BO ad σ bo) {dl : List Nat} (hDL : DL ad σ de dl) (hQZ : QZ qs) (hM : MR σ pf hf bf gf) (hE : EM σ er ei) (fare : Nat) (hfa1 : 1 ≤ fare) (hfa2 : fare ≤ 1000) : cLI l D cy yL_areLegs wsL_areLegs rmL_areLegs [.ref (ad 0 0), .ref ap, .ref ah, .ref ab, .ref ag, .int (nI fare)] (MC cy ap ah ab ag pf hf bf gf ei ++ WG ad cy (σ 0 0) (σ 0 3) σ er ofd de bo ql qs tv) (T := (Nat → Nat) × (Nat → Nat → Nat) × (Nat → Nat)) (fun u => MC cy ap ah ab ag pf hf bf gf ei ++ WG ad cy (σ 0 0) (σ 0 3) σ er ofd de bo u.1 u.2.1 u.2.2) (fun r u => r = nI 1 ∧ QZ u.2.1) 24 150 := by
  refine cLI.ofN (cc := cL_areLegs) (maxL := 15) (by decide) rfl (Nat.le_of_ble_eq_true rfl) (fun v u h => z_one h.1) ?_
  intro p e s m args below meth c H0 A Q hx hb hml hown hts hP hK hD hS hA hXW hXZ hAe hH0e hret ls hl
  obtain ⟨H, locs, hH, hlo⟩ : ∃ (H : Heap) (locs : List Loc), H = H0 ∧ locs = [] := ⟨_, _, rfl, rfl⟩
  rw [← hH] at hP
  rw [show va_S A H0 H0 [] = va_S A H0 H locs by rw [hH, hlo]] at hS
  rw [show W p l e rmL_areLegs s m args below meth c H0 [] 0 0 Q (F0 m 0 ls []) = W p l e rmL_areLegs s m args below meth c H locs 0 0 Q (F0 m 0 ls []) by rw [hH, hlo]]
  have hnp := hM.np
  have hnb := hM.nb
  have hdy := hM.dy
  have hwl := wM_lt hI 0 0 0
  have hps := psum_le (σ := σ) (fun b hb => (hI.bo b hb).2.2.2.1) (σ 0 3) (Nat.le_refl _)
  refine lv_aload_n hx hb dL_areLegs_0 rfl (lv_at hl 0 rfl) ?_
  refine lv_iconst (v := nI 0) hx hb dL_areLegs_1 (by decide) ?_
  refine lv_iconst (v := nI 3) hx hb dL_areLegs_2 (by decide) ?_
  refine lv_iconst (v := nI 0) hx hb dL_areLegs_3 (by decide) ?_
  refine lv_iconst (v := nI 0) hx hb dL_areLegs_4 (by decide) ?_
  refine ap_calli (vx_runSW (As := [.ref ((ad 0 0)), .int (nI 0), .int (nI 3), .int (nI 0), .int (nI 0)]) (rest := []) ⟨hx, hb, hml, hown, hts⟩ (c_L_asks_0 l hfl D cy ad σ er ofd de bo ql qs tv hbo hI ((nI 3)) ((nI 0)) ((nI 0)) H.size) (vx_cwSW 5 hts gL_areLegs_L_asks rfl rfl rfl hdL_asks.2 ⟨Nat.le_of_ble_eq_true rfl, Nat.le_of_ble_eq_true rfl⟩) (xo_preS hK rfl (mcr hP) (hD.subl (List.sublist_append_right _ _)) hXW (hXZ.at hS hD hA (fun _ hq => List.mem_append_right _ hq))) rfl rfl hl.1 rfl (lv_room (Nat.le_of_ble_eq_true rfl)) dL_areLegs_5 ⟨(by show 0 + 1 ≤ 24; omega), (by show 0 + 6 ≤ 150; omega)⟩) hS hP hD hA (fun z5 u5 H locs hz5 hP hD hS => ?_)
  obtain ⟨rfl, rfl⟩ := pD_io hz5 (fun r t h => okR_no (by omega) (by omega) h.1) (fun E h => h.2)
  have hP : va_P D vwCl (MC cy ap ah ab ag pf hf bf gf ei ++ WG ad cy (σ 0 0) (σ 0 3) σ er ofd de bo ql qs tv) H := hP
  have hD : va_D A (MC cy ap ah ab ag pf hf bf gf ei ++ WG ad cy (σ 0 0) (σ 0 3) σ er ofd de bo ql qs tv) := hD
  refine lv_bipush (v := -30) hx hb dL_areLegs_8 (by decide) ?_
  refine lv_icmp_ne (tgt := 84) hx hb dL_areLegs_10 (by decide) (fun c10 => absurd rfl c10) (fun c10 => ?_)
  refine lv_aload_n hx hb dL_areLegs_13 rfl (lv_at hl 0 rfl) ?_
  refine lv_iconst (v := nI 1) hx hb dL_areLegs_14 (by decide) ?_
  refine lv_iconst (v := -1) hx hb dL_areLegs_15 (by decide) ?_
  refine lv_iconst (v := nI 0) hx hb dL_areLegs_16 (by decide) ?_
  refine lv_iconst (v := nI 0) hx hb dL_areLegs_17 (by decide) ?_
  refine ap_calli (vx_runSW (As := [.ref ((ad 0 0)), .int (nI 1), .int ((-1)), .int (nI 0), .int (nI 0)]) (rest := []) ⟨hx, hb, hml, hown, hts⟩ (c_L_asks_1 l hfl D cy ad σ er ofd de bo ql qs tv hI (((-1))) ((nI 0)) ((nI 0)) H.size) (vx_cwSW 5 hts gL_areLegs_L_asks rfl rfl rfl hdL_asks.2 ⟨Nat.le_of_ble_eq_true rfl, Nat.le_of_ble_eq_true rfl⟩) (xo_preS hK rfl (mcr hP) (hD.subl (List.sublist_append_right _ _)) hXW (hXZ.at hS hD hA (fun _ hq => List.mem_append_right _ hq))) rfl rfl hl.1 rfl (lv_room (Nat.le_of_ble_eq_true rfl)) dL_areLegs_18 ⟨(by show 0 + 1 + 1 ≤ 24; omega), (by show 0 + 6 + 6 ≤ 150; omega)⟩) hS hP hD hA (fun z18 u18 H locs hz18 hP hD hS => ?_)
  obtain ⟨rfl, rfl⟩ := pD_io hz18 (fun r t h => okR_m1 h.1) (fun E h => h.2)
  have hP : va_P D vwCl (MC cy ap ah ab ag pf hf bf gf ei ++ WG ad cy (σ 0 0) (σ 0 3) σ er ofd de bo ql qs tv) H := hP
  have hD : va_D A (MC cy ap ah ab ag pf hf bf gf ei ++ WG ad cy (σ 0 0) (σ 0 3) σ er ofd de bo ql qs tv) := hD
  refine lv_bipush (v := -30) hx hb dL_areLegs_21 (by decide) ?_
  refine lv_icmp_ne (tgt := 84) hx hb dL_areLegs_23 (by decide) (fun c23 => absurd rfl c23) (fun c23 => ?_)
  refine lv_aload_n hx hb dL_areLegs_26 rfl (lv_at hl 0 rfl) ?_
  refine lv_iconst (v := nI 2) hx hb dL_areLegs_27 (by decide) ?_
  refine lv_iconst (v := nI 3) hx hb dL_areLegs_28 (by decide) ?_
  refine lv_iconst (v := nI 0) hx hb dL_areLegs_29 (by decide) ?_
  refine lv_iconst (v := nI 0) hx hb dL_areLegs_30 (by decide) ?_
  refine ap_calli (vx_runSW (As := [.ref ((ad 0 0)), .int (nI 2), .int (nI 3), .int (nI 0), .int (nI 0)]) (rest := []) ⟨hx, hb, hml, hown, hts⟩ (c_L_asks_2 l hfl D cy ad σ er ofd de bo ql qs tv hof hI ((nI 3)) ((nI 0)) ((nI 0)) H.size) (vx_cwSW 5 hts gL_areLegs_L_asks rfl rfl rfl hdL_asks.2 ⟨Nat.le_of_ble_eq_true rfl, Nat.le_of_ble_eq_true rfl⟩) (xo_preS hK rfl (mcr hP) (hD.subl (List.sublist_append_right _ _)) hXW (hXZ.at hS hD hA (fun _ hq => List.mem_append_right _ hq))) rfl rfl hl.1 rfl (lv_room (Nat.le_of_ble_eq_true rfl)) dL_areLegs_31 ⟨(by show 0 + 1 + 1 + 1 ≤ 24; omega), (by show 0 + 6 + 6 + 6 ≤ 150; omega)⟩) hS hP hD hA (fun z31 u31 H locs hz31 hP hD hS => ?_)
  obtain ⟨rfl, rfl⟩ := pD_io hz31 (fun r t h => okR_no (by omega) (by omega) h.1) (fun E h => by rcases h with ⟨-, h⟩ | ⟨h1, -, -⟩; exact h; exact absurd h1 (okR_no (by omega) (by omega)))
  have hP : va_P D vwCl (MC cy ap ah ab ag pf hf bf gf ei ++ WG ad cy (σ 0 0) (σ 0 3) σ er ofd de bo ql qs tv) H := hP
  have hD : va_D A (MC cy ap ah ab ag pf hf bf gf ei ++ WG ad cy (σ 0 0) (σ 0 3) σ er ofd de bo ql qs tv) := hD
  refine lv_bipush (v := -30) hx hb dL_areLegs_34 (by decide) ?_
  refine lv_icmp_ne (tgt := 84) hx hb dL_areLegs_36 (by decide) (fun c36 => absurd rfl c36) (fun c36 => ?_)
  refine lv_aload_n hx hb dL_areLegs_39 rfl (lv_at hl 0 rfl) ?_
  refine lv_iconst (v := nI 2) hx hb dL_areLegs_40 (by decide) ?_
  refine lv_iconst (v := nI 0) hx hb dL_areLegs_41 (by decide) ?_
  refine lv_iconst (v := nI 0) hx hb dL_areLegs_42 (by decide) ?_
  refine lv_iconst (v := nI 0) hx hb dL_areLegs_43 (by decide) ?_
  refine ap_calli (vx_runSW (As := [.ref ((ad 0 0)), .int (nI 2), .int (nI 0), .int (nI 0), .int (nI 0)]) (rest := []) ⟨hx, hb, hml, hown, hts⟩ (c_L_asks_2 l hfl D cy ad σ er ofd de bo ql qs tv hof hI ((nI 0)) ((nI 0)) ((nI 0)) H.size) (vx_cwSW 5 hts gL_areLegs_L_asks rfl rfl rfl hdL_asks.2 ⟨Nat.le_of_ble_eq_true rfl, Nat.le_of_ble_eq_true rfl⟩) (xo_preS hK rfl (mcr hP) (hD.subl (List.sublist_append_right _ _)) hXW (hXZ.at hS hD hA (fun _ hq => List.mem_append_right _ hq))) rfl rfl hl.1 rfl (lv_room (Nat.le_of_ble_eq_true rfl)) dL_areLegs_44 ⟨(by show 0 + 1 + 1 + 1 + 1 ≤ 24; omega), (by show 0 + 6 + 6 + 6 + 6 ≤ 150; omega)⟩) hS hP hD hA (fun z44 u44 H locs hz44 hP hD hS => ?_)
  obtain ⟨rfl, rfl⟩ := pD_ia hz44 (fun r t h => okR_lo (by omega) (by omega) h.2.1) (fun E h => by rcases h with ⟨h1, -⟩ | ⟨-, -, h⟩; exact absurd (okR_i (by omega) (by omega) (by omega)) h1; exact h)
  have hP : va_P D vwCl (MC cy ap ah ab ag pf hf bf gf ei ++ WG ad cy (σ 0 0) (σ 0 3) σ er ofd de bo ql qs tv) H := hP
  have hD : va_D A (MC cy ap ah ab ag pf hf bf gf ei ++ WG ad cy (σ 0 0) (σ 0 3) σ er ofd de bo ql qs tv) := hD
  refine lv_bipush (v := -20) hx hb dL_areLegs_47 (by decide) ?_
  refine lv_icmp_ne (tgt := 84) hx hb dL_areLegs_49 (by decide) (fun c49 => absurd rfl c49) (fun c49 => ?_)
  refine lv_aload_n hx hb dL_areLegs_52 rfl (lv_at hl 0 rfl) ?_
  refine lv_iconst (v := nI 2) hx hb dL_areLegs_53 (by decide) ?_
  refine lv_iconst (v := nI 0) hx hb dL_areLegs_54 (by decide) ?_
  refine lv_sipush (v := nI 1001) hx hb dL_areLegs_55 (by decide) ?_
  refine lv_iconst (v := nI 0) hx hb dL_areLegs_58 (by decide) ?_
  refine ap_calli (vx_runSW (As := [.ref ((ad 0 0)), .int (nI 2), .int (nI 0), .int (nI 1001), .int (nI 0)]) (rest := []) ⟨hx, hb, hml, hown, hts⟩ (c_L_asks_2 l hfl D cy ad σ er ofd de bo ql qs tv hof hI ((nI 0)) ((nI 1001)) ((nI 0)) H.size) (vx_cwSW 5 hts gL_areLegs_L_asks rfl rfl rfl hdL_asks.2 ⟨Nat.le_of_ble_eq_true rfl, Nat.le_of_ble_eq_true rfl⟩) (xo_preS hK rfl (mcr hP) (hD.subl (List.sublist_append_right _ _)) hXW (hXZ.at hS hD hA (fun _ hq => List.mem_append_right _ hq))) rfl rfl hl.1 rfl (lv_room (Nat.le_of_ble_eq_true rfl)) dL_areLegs_59 ⟨(by show 0 + 1 + 1 + 1 + 1 + 1 ≤ 24; omega), (by show 0 + 6 + 6 + 6 + 6 + 6 ≤ 150; omega)⟩) hS hP hD hA (fun z59 u59 H locs hz59 hP hD hS => ?_)
  obtain ⟨rfl, rfl⟩ := pD_ia hz59 (fun r t h => okR_no (by omega) (by omega) h.2.1) (fun E h => by rcases h with ⟨h1, -⟩ | ⟨-, -, h⟩; exact absurd (okR_i (by omega) (by omega) (by omega)) h1; exact h)
  have hP : va_P D vwCl (MC cy ap ah ab ag pf hf bf gf ei ++ WG ad cy (σ 0 0) (σ 0 3) σ er ofd de bo ql qs tv) H := hP
  have hD : va_D A (MC cy ap ah ab ag pf hf bf gf ei ++ WG ad cy (σ 0 0) (σ 0 3) σ er ofd de bo ql qs tv) := hD
  refine lv_bipush (v := -20) hx hb dL_areLegs_62 (by decide) ?_
  refine lv_icmp_ne (tgt := 84) hx hb dL_areLegs_64 (by decide) (fun c64 => absurd rfl c64) (fun c64 => ?_)
  refine lv_aload_n hx hb dL_areLegs_67 rfl (lv_at hl 0 rfl) ?_
  refine lv_iconst (v := nI 3) hx hb dL_areLegs_68 (by decide) ?_
  refine lv_iconst (v := nI 3) hx hb dL_areLegs_69 (by decide) ?_
  refine lv_iconst (v := nI 0) hx hb dL_areLegs_70 (by decide) ?_
  refine lv_iconst (v := nI 0) hx hb dL_areLegs_71 (by decide) ?_
  refine ap_calli (vx_runSW (As := [.ref ((ad 0 0)), .int (nI 3), .int (nI 3), .int (nI 0), .int (nI 0)]) (rest := []) ⟨hx, hb, hml, hown, hts⟩ (c_L_asks_3 l hfl D cy ad σ er ofd de bo ql qs tv hbo hI hDL hQZ ((nI 3)) ((nI 0)) ((nI 0)) H.size) (vx_cwSW 5 hts gL_areLegs_L_asks rfl rfl rfl hdL_asks.2 ⟨Nat.le_of_ble_eq_true rfl, Nat.le_of_ble_eq_true rfl⟩) (xo_preS hK rfl (mcr hP) (hD.subl (List.sublist_append_right _ _)) hXW (hXZ.at hS hD hA (fun _ hq => List.mem_append_right _ hq))) rfl rfl hl.1 rfl (lv_room (Nat.le_of_ble_eq_true rfl)) dL_areLegs_72 ⟨(by show 0 + 1 + 1 + 1 + 1 + 1 + 1 ≤ 24; omega), (by show 0 + 6 + 6 + 6 + 6 + 6 + 6 ≤ 150; omega)⟩) hS hP hD hA (fun z72 u72 H locs hz72 hP hD hS => ?_)
  obtain ⟨rfl, rfl⟩ := pD_io hz72 (fun r t h => okR_no (by omega) (by omega) h.1) (fun E h => h.2)
  have hP : va_P D vwCl (MC cy ap ah ab ag pf hf bf gf ei ++ WG ad cy (σ 0 0) (σ 0 3) σ er ofd de bo ql qs tv) H := hP
  have hD : va_D A (MC cy ap ah ab ag pf hf bf gf ei ++ WG ad cy (σ 0 0) (σ 0 3) σ er ofd de bo ql qs tv) := hD
  refine lv_bipush (v := -30) hx hb dL_areLegs_75 (by decide) ?_
  refine lv_icmp_ne (tgt := 84) hx hb dL_areLegs_77 (by decide) (fun c77 => absurd rfl c77) (fun c77 => ?_)
  refine lv_iconst (v := nI 1) hx hb dL_areLegs_80 (by decide) ?_
  refine lv_goto (tgt := 85) hx hb dL_areLegs_81 (by decide) ?_
  refine lv_istore (lv' := [(6, .int (nI 1)), (0, .ref ((ad 0 0))), (1, .ref ap), (2, .ref ah), (3, .ref ab), (4, .ref ag), (5, .int (nI fare))]) hx hb dL_areLegs_85 hl (by decide) rfl (fun ls hl => ?_)
  refine lv_iconst (v := nI 0) hx hb dL_areLegs_87 (by decide) ?_
  refine lv_istore (lv' := [(7, .int (nI 0)), (6, .int (nI 1)), (0, .ref ((ad 0 0))), (1, .ref ap), (2, .ref ah), (3, .ref ab), (4, .ref ag), (5, .int (nI fare))]) hx hb dL_areLegs_88 hl (by decide) rfl (fun ls hl => ?_)
  refine lv_iconst (v := nI 0) hx hb dL_areLegs_90 (by decide) ?_
  have K93 : ∀ (n93 : Nat) (k : Nat) (rv : Nat), σ 0 3 - k < n93 → (k ≤ σ 0 3) → (rv = psum σ k) → ∀ (H : Heap) (locs : List Loc), va_P D vwCl (MC cy ap ah ab ag pf hf bf gf ei ++ WG ad cy (σ 0 0) (σ 0 3) σ er ofd de bo ql qs tv) H → va_D A (MC cy ap ah ab ag pf hf bf gf ei ++ WG ad cy (σ 0 0) (σ 0 3) σ er ofd de bo ql qs tv) → va_S A H0 H locs → ∀ ls : Array Slot, lv_has ls 15 [(0, .ref ((ad 0 0))), (1, .ref ap), (2, .ref ah), (3, .ref ab), (4, .ref ag), (5, .int (nI fare)), (6, .int (nI 1)), (7, .int (nI rv)), (8, .int (nI k))] → W p l e rmL_areLegs s m args below meth c H locs 6 36 Q (F0 m 93 ls []) := by
    intro n93
    induction n93 with
    | zero =>
      intro k rv hfu
      exact absurd hfu (Nat.not_lt_zero _)
    | succ n93 ih93 =>
      intro k rv hfu hk hrv H locs hP hD hS ls hl
      refine lv_iload hx hb dL_areLegs_93 (lv_at hl 8 rfl) ?_
      refine lv_aload hx hb dL_areLegs_95 (lv_at hl 4 rfl) ?_
      refine lv_bipush (v := nI 6) hx hb dL_areLegs_97 (by decide) ?_
      refine mg_ld (v := σ 0 3) hx hb hK (mcl hP) (by omega) hM.g6 dL_areLegs_99 ?_
      refine ln_icmp_ge (tgt := 121) hx hb (by omega) (by omega) dL_areLegs_100 (by decide) (fun c100 => ?_) (fun c100 => ?_)
      · skip
        have hrv2 : rv = psum σ (σ 0 3) := by rw [hrv, show k = σ 0 3 by omega]
        refine lv_aload_n hx hb dL_areLegs_121 rfl (lv_at hl 0 rfl) ?_
        refine ap_calli (va_runV (As := []) (rest := []) ⟨hx, hb, hml, hown, hts⟩ (c_X5_worth l D cy ad σ er ofd de bo ql qs tv hbo hI hDL hQZ H.size) (cwV 0 hts gL_areLegs_X5_worth rfl rfl rfl hdX5_worth ⟨Nat.le_of_ble_eq_true rfl, Nat.le_of_ble_eq_true rfl⟩) (mo_preV hK rfl (mcr hP) (hD.subl (List.sublist_append_right _ _)) (va_recv hK.1 (mcr hP) (ci := 5) (q0 := 0) rfl rfl)) rfl rfl hl.1 rfl (lv_room (Nat.le_of_ble_eq_true rfl)) dL_areLegs_122 ⟨(by show 6 + 0 ≤ 24; omega), (by show 36 + 0 ≤ 150; omega)⟩) hS hP hD hA (fun z122 u122 H locs hz122 hP hD hS => ?_)
        obtain ⟨ql122, qs122⟩ := u122
        obtain ⟨hz122, hQZ⟩ := hz122
        subst hz122
        have hP : va_P D vwCl (MC cy ap ah ab ag pf hf bf gf ei ++ WG ad cy (σ 0 0) (σ 0 3) σ er ofd de bo ql122 qs122 tv) H := hP
        have hD : va_D A (MC cy ap ah ab ag pf hf bf gf ei ++ WG ad cy (σ 0 0) (σ 0 3) σ er ofd de bo ql122 qs122 tv) := hD
        refine lv_istore (lv' := [(8, .int (nI (wM σ 0 0 0))), (0, .ref ((ad 0 0))), (1, .ref ap), (2, .ref ah), (3, .ref ab), (4, .ref ag), (5, .int (nI fare)), (6, .int (nI 1)), (7, .int (nI rv))]) hx hb dL_areLegs_125 hl (by decide) rfl (fun ls hl => ?_)
        refine lv_iload hx hb dL_areLegs_127 (lv_at hl 7 rfl) ?_
        refine lv_if_eq (tgt := 195) hx hb dL_areLegs_129 (by decide) (fun q => by first | exact absurd q (by decide) | exact absurd (by decide) q) (fun _ => ?_)
        refine lv_aload_n hx hb dL_areLegs_132 rfl (lv_at hl 1 rfl) ?_
        refine ap_calli (va_runV (As := []) (rest := []) ⟨hx, hb, hml, hown, hts⟩ (c_X5_worthByTable l D cy ad σ er ofd de bo ql122 qs122 tv hof hbo hI H.size) (cwV 0 hts gL_areLegs_X5_worthByTable rfl rfl rfl hdX5_worthByTable ⟨Nat.le_of_ble_eq_true rfl, Nat.le_of_ble_eq_true rfl⟩) (mo_preV hK rfl (mcr hP) (hD.subl (List.sublist_append_right _ _)) (va_recv hK.1 (mcr hP) (ci := 5) (q0 := 0) rfl rfl)) rfl rfl hl.1 rfl (lv_room (Nat.le_of_ble_eq_true rfl)) dL_areLegs_133 ⟨(by show 6 + 0 + 0 ≤ 24; omega), (by show 36 + 0 + 0 ≤ 150; omega)⟩) hS hP hD hA (fun z133 u133 H locs hz133 hP hD hS => ?_)
        subst hz133
        have hP : va_P D vwCl (MC cy ap ah ab ag pf hf bf gf ei ++ WG ad cy (σ 0 0) (σ 0 3) σ er ofd de bo ql122 qs122 u133) H := hP
        have hD : va_D A (MC cy ap ah ab ag pf hf bf gf ei ++ WG ad cy (σ 0 0) (σ 0 3) σ er ofd de bo ql122 qs122 u133) := hD
        refine lv_iload hx hb dL_areLegs_136 (lv_at hl 0 rfl) ?_
        refine lv_icmp_ne (tgt := 195) hx hb dL_areLegs_138 (by decide) (fun c138 => absurd rfl c138) (fun c138 => ?_)
        refine lv_iload hx hb dL_areLegs_141 (lv_at hl 0 rfl) ?_
        refine ln_if_lt (tgt := 195) hx hb (by omega) dL_areLegs_143 (by decide) ?_
        refine lv_aload_n hx hb dL_areLegs_146 rfl (lv_at hl 1 rfl) ?_
        refine ro_calliN (va_runV (As := []) (rest := []) ⟨hx, hb, hml, hown, hts⟩ (c_X5_revenue l D cy ad σ er ofd de bo ql122 qs122 u133 hbo hI H (mcr hP)) (cwV 0 hts gL_areLegs_X5_revenue rfl rfl rfl hdX5_revenue ⟨Nat.le_of_ble_eq_true rfl, Nat.le_of_ble_eq_true rfl⟩) (ro_preV hK (va_recv hK.1 (mcr hP) (ci := 5) (q0 := 0) rfl rfl)) rfl rfl hl.1 rfl (lv_room (Nat.le_of_ble_eq_true rfl)) dL_areLegs_147 ⟨(by show 6 + 0 + 0 + 0 ≤ 24; omega), (by show 36 + 0 + 0 + 0 ≤ 150; omega)⟩) (fun z147 hz147 => ?_)
        subst hz147
        refine lv_iload hx hb dL_areLegs_150 (lv_at hl 8 rfl) ?_
        refine lv_icmp_ne (tgt := 195) hx hb dL_areLegs_152 (by decide) (fun c152 => absurd (congrArg nI hrv2.symm) c152) (fun c152 => ?_)
        refine lv_aload_n hx hb dL_areLegs_155 rfl (lv_at hl 1 rfl) ?_
        refine ro_calll (va_runV (As := []) (rest := []) ⟨hx, hb, hml, hown, hts⟩ (c_X5_earned l D cy ad σ er ofd de bo ql122 qs122 u133 H (mcr hP)) (cwV 0 hts gL_areLegs_X5_earned rfl rfl rfl hdX5_earned ⟨Nat.le_of_ble_eq_true rfl, Nat.le_of_ble_eq_true rfl⟩) (ro_preV hK (va_recv hK.1 (mcr hP) (ci := 5) (q0 := 0) rfl rfl)) rfl rfl hl.1 rfl (lv_room (Nat.le_of_ble_eq_true rfl)) dL_areLegs_156 ⟨(by show 6 + 0 + 0 + 0 ≤ 24; omega), (by show 36 + 0 + 0 + 0 ≤ 150; omega)⟩) (fun z156 hz156 => ?_)
        obtain rfl := hz156.symm
        refine lv_aload hx hb dL_areLegs_159 (lv_at hl 5 rfl) ?_
        refine lv_bipush (v := nI 10) hx hb dL_areLegs_161 (by decide) ?_
        refine mgE_ld hx hb hK (mcl hP) dL_areLegs_163 ?_
        refine lv_i2l hx hb dL_areLegs_164 rfl ?_
        refine lw_lcmpne (tgt := 195) hx hb hE.1 dL_areLegs_165 dL_areLegs_166 (by decide) ?_
        refine lv_aload_n hx hb dL_areLegs_169 rfl (lv_at hl 1 rfl) ?_
        refine ro_calliN (va_runV (As := []) (rest := []) ⟨hx, hb, hml, hown, hts⟩ (c_X5_days l D cy ad σ er ofd de bo ql122 qs122 u133 H (mcr hP)) (cwV 0 hts gL_areLegs_X5_days rfl rfl rfl hdX5_days ⟨Nat.le_of_ble_eq_true rfl, Nat.le_of_ble_eq_true rfl⟩) (ro_preV hK (va_recv hK.1 (mcr hP) (ci := 5) (q0 := 0) rfl rfl)) rfl rfl hl.1 rfl (lv_room (Nat.le_of_ble_eq_true rfl)) dL_areLegs_170 ⟨(by show 6 + 0 + 0 + 0 ≤ 24; omega), (by show 36 + 0 + 0 + 0 ≤ 150; omega)⟩) (fun z170 hz170 => ?_)
        subst hz170
        refine lv_aload hx hb dL_areLegs_173 (lv_at hl 5 rfl) ?_
        refine lv_iconst (v := nI 5) hx hb dL_areLegs_175 (by decide) ?_
        refine mg_ld (v := σ 0 1) hx hb hK (mcl hP) (by omega) hM.g5 dL_areLegs_176 ?_
        refine lv_icmp_ne (tgt := 195) hx hb dL_areLegs_177 (by decide) (fun c177 => absurd rfl c177) (fun c177 => ?_)
        refine lv_aload_n hx hb dL_areLegs_180 rfl (lv_at hl 1 rfl) ?_
        refine ro_calliN (va_runV (As := []) (rest := []) ⟨hx, hb, hml, hown, hts⟩ (c_X5_products l D cy ad σ er ofd de bo ql122 qs122 u133 H (mcr hP)) (cwV 0 hts gL_areLegs_X5_products rfl rfl rfl hdX5_products ⟨Nat.le_of_ble_eq_true rfl, Nat.le_of_ble_eq_true rfl⟩) (ro_preV hK (va_recv hK.1 (mcr hP) (ci := 5) (q0 := 0) rfl rfl)) rfl rfl hl.1 rfl (lv_room (Nat.le_of_ble_eq_true rfl)) dL_areLegs_181 ⟨(by show 6 + 0 + 0 + 0 ≤ 24; omega), (by show 36 + 0 + 0 + 0 ≤ 150; omega)⟩) (fun z181 hz181 => ?_)
        subst hz181
        refine lv_aload hx hb dL_areLegs_184 (lv_at hl 5 rfl) ?_
        refine lv_iconst (v := nI 4) hx hb dL_areLegs_186 (by decide) ?_
        refine mg_ld (v := σ 0 0) hx hb hK (mcl hP) (by omega) hM.g4 dL_areLegs_187 ?_
        refine lv_icmp_ne (tgt := 195) hx hb dL_areLegs_188 (by decide) (fun c188 => absurd rfl c188) (fun c188 => ?_)
        refine lv_iconst (v := nI 1) hx hb dL_areLegs_191 (by decide) ?_
        refine lv_goto (tgt := 196) hx hb dL_areLegs_192 (by decide) ?_
        refine lv_istore (lv' := [(6, .int (nI 1)), (8, .int (nI (wM σ 0 0 0))), (0, .ref ((ad 0 0))), (1, .ref ap), (2, .ref ah), (3, .ref ab), (4, .ref ag), (5, .int (nI fare)), (7, .int (nI rv))]) hx hb dL_areLegs_196 hl (by decide) rfl (fun ls hl => ?_)
        refine lv_iconst (v := nI 0) hx hb dL_areLegs_198 (by decide) ?_
        have K201 : ∀ (n201 : Nat) (leg : Nat) (qlv : Nat → Nat) (qsv : Nat → Nat → Nat), 3 - leg < n201 → (leg ≤ 3) → (QZ qsv) → ∀ (H : Heap) (locs : List Loc), va_P D vwCl (MC cy ap ah ab ag pf hf bf gf ei ++ WG ad cy (σ 0 0) (σ 0 3) σ er ofd de bo qlv qsv u133) H → va_D A (MC cy ap ah ab ag pf hf bf gf ei ++ WG ad cy (σ 0 0) (σ 0 3) σ er ofd de bo qlv qsv u133) → va_S A H0 H locs → ∀ ls : Array Slot, lv_has ls 15 [(0, .ref ((ad 0 0))), (1, .ref ap), (2, .ref ah), (3, .ref ab), (4, .ref ag), (5, .int (nI fare)), (6, .int (nI 1)), (8, .int (nI (wM σ 0 0 0))), (9, .int (nI leg))] → W p l e rmL_areLegs s m args below meth c H locs (6 + 5 * leg) (36 + 30 * leg) Q (F0 m 201 ls []) := by
          intro n201
          induction n201 with
          | zero =>
            intro leg qlv qsv hfu
            exact absurd hfu (Nat.not_lt_zero _)
          | succ n201 ih201 =>
            intro leg qlv qsv hfu hleg hQZ H locs hP hD hS ls hl
            refine lv_iload hx hb dL_areLegs_201 (lv_at hl 8 rfl) ?_
            refine lv_iconst (v := nI 3) hx hb dL_areLegs_203 (by decide) ?_
            refine ln_icmp_ge (tgt := 432) hx hb (by omega) (by omega) dL_areLegs_204 (by decide) (fun c204 => ?_) (fun c204 => ?_)
            · skip
              refine lv_iload hx hb dL_areLegs_432 (lv_at hl 6 rfl) ?_
              refine W.widen (k := 24) (n := 150) (by omega) (by omega) ?_
              exact hret (qlv, qsv, u133) dL_areLegs_434 hP hD hS ⟨rfl, hQZ⟩
            · skip
              have hse := hI.se leg c204
              have hbk := hI.bkle leg c204
              have hdl := dS_le (σ := σ) (leg := leg) (σ 0 0) (fun i hi => (hI.pr i hi).2.2.2.1)
              refine lv_iload hx hb dL_areLegs_207 (lv_at hl 6 rfl) ?_
              refine lv_if_eq (tgt := 432) hx hb dL_areLegs_209 (by decide) (fun q => by first | exact absurd q (by decide) | exact absurd (by decide) q) (fun _ => ?_)
              refine lv_aload_n hx hb dL_areLegs_212 rfl (lv_at hl 0 rfl) ?_
              refine lv_iload hx hb dL_areLegs_213 (lv_at hl 8 rfl) ?_
              refine xr_calli (vx_runV (As := [.int (nI leg)]) (rest := []) ⟨hx, hb, hml, hown, hts⟩ (c_X5_bid l hfl D cy ad σ er ofd de bo qlv qsv u133 hbo hI hDL hQZ ((nI leg)) H.size) (cwV 1 hts gL_areLegs_X5_bid rfl rfl rfl hdX5_bid ⟨Nat.le_of_ble_eq_true rfl, Nat.le_of_ble_eq_true rfl⟩) (xo_preV hK rfl (mcr hP) (hD.subl (List.sublist_append_right _ _)) hXW (hXZ.at hS hD hA (fun _ hq => List.mem_append_right _ hq)) (va_recv hK.1 (mcr hP) (ci := 5) (q0 := 0) rfl rfl)) rfl rfl hl.1 rfl (lv_room (Nat.le_of_ble_eq_true rfl)) dL_areLegs_215 ⟨(by show 6 + 5 * leg + 1 ≤ 24; omega), (by show 36 + 30 * leg + 6 ≤ 150; omega)⟩) hS hP hD hA (fun E h => h.1 (okR_i (by omega) (by omega) (by omega))) (fun z215 u215 H locs hz215 hP hD hS => ?_)
              obtain ⟨qlb, qsb⟩ := u215
              obtain ⟨-, hz215, hQZ⟩ := hz215
              obtain ⟨bd, hbd, hbe⟩ := bid_nat σ c204
              rw [cN_nI (by omega), hbe] at hz215
              subst hz215
              have hP : va_P D vwCl (MC cy ap ah ab ag pf hf bf gf ei ++ WG ad cy (σ 0 0) (σ 0 3) σ er ofd de bo qlb qsb u133) H := hP
              have hD : va_D A (MC cy ap ah ab ag pf hf bf gf ei ++ WG ad cy (σ 0 0) (σ 0 3) σ er ofd de bo qlb qsb u133) := hD
              refine lv_istore (lv' := [(10, .int (nI bd)), (0, .ref ((ad 0 0))), (1, .ref ap), (2, .ref ah), (3, .ref ab), (4, .ref ag), (5, .int (nI fare)), (6, .int (nI 1)), (8, .int (nI (wM σ 0 0 0))), (9, .int (nI leg))]) hx hb dL_areLegs_218 hl (by decide) rfl (fun ls hl => ?_)
              refine lv_aload_n hx hb dL_areLegs_220 rfl (lv_at hl 1 rfl) ?_
              refine lv_iconst (v := nI 4) hx hb dL_areLegs_221 (by decide) ?_
              refine lv_iload hx hb dL_areLegs_222 (lv_at hl 9 rfl) ?_
              refine lv_iload hx hb dL_areLegs_224 (lv_at hl 9 rfl) ?_
              refine lv_iconst (v := nI 1) hx hb dL_areLegs_226 (by decide) ?_
              refine ap_calli (vx_runSW (As := [.ref ((ad 0 0)), .int (nI 4), .int (nI leg), .int (nI leg), .int (nI 1)]) (rest := []) ⟨hx, hb, hml, hown, hts⟩ (c_L_asks_4 l hfl D cy ad σ er ofd de bo qlb qsb u133 hbo hI hDL hQZ ((nI leg)) ((nI leg)) ((nI 1)) H.size) (vx_cwSW 5 hts gL_areLegs_L_asks rfl rfl rfl hdL_asks.2 ⟨Nat.le_of_ble_eq_true rfl, Nat.le_of_ble_eq_true rfl⟩) (xo_preS hK rfl (mcr hP) (hD.subl (List.sublist_append_right _ _)) hXW (hXZ.at hS hD hA (fun _ hq => List.mem_append_right _ hq))) rfl rfl hl.1 rfl (lv_room (Nat.le_of_ble_eq_true rfl)) dL_areLegs_227 ⟨(by show 6 + 5 * leg + 1 + 1 ≤ 24; omega), (by show 36 + 30 * leg + 6 + 6 ≤ 150; omega)⟩) hS hP hD hA (fun z227 u227 H locs hz227 hP hD hS => ?_)
              obtain ⟨⟨qld, qsd⟩, rfl, -, -, hone, hQZ⟩ := pD_ok hz227 (fun E h => by rcases h with ⟨h, -⟩ | ⟨-, h, -⟩; exact h ⟨okR_i (by omega) (by omega) (by omega), okR_i (by omega) (by omega) (by omega)⟩; exact h ⟨Int32.le_refl _, okR_i (by omega) (by omega) (by omega)⟩)
              rw [cN_nI (by omega), cN_nI (by omega)] at hone
              have hP : va_P D vwCl (MC cy ap ah ab ag pf hf bf gf ei ++ WG ad cy (σ 0 0) (σ 0 3) σ er ofd de bo qld qsd u133) H := hP
              have hD : va_D A (MC cy ap ah ab ag pf hf bf gf ei ++ WG ad cy (σ 0 0) (σ 0 3) σ er ofd de bo qld qsd u133) := hD
              refine lv_istore (lv' := [(11, .int z227), (10, .int (nI bd)), (0, .ref ((ad 0 0))), (1, .ref ap), (2, .ref ah), (3, .ref ab), (4, .ref ag), (5, .int (nI fare)), (6, .int (nI 1)), (8, .int (nI (wM σ 0 0 0))), (9, .int (nI leg))]) hx hb dL_areLegs_230 hl (by decide) rfl (fun ls hl => ?_)
              refine lv_aload hx hb dL_areLegs_232 (lv_at hl 6 rfl) ?_
              refine lv_iload hx hb dL_areLegs_234 (lv_at hl 10 rfl) ?_
              refine mg_ld (v := σ 1 leg) hx hb hK (mcl hP) (by omega) (hM.g0 c204) dL_areLegs_236 ?_
              refine lv_aload_n hx hb dL_areLegs_237 rfl (lv_at hl 5 rfl) ?_
              refine lv_aload hx hb dL_areLegs_238 (lv_at hl 6 rfl) ?_
              refine lv_iload hx hb dL_areLegs_240 (lv_at hl 10 rfl) ?_
              refine ro_calliN (va_runS (As := [.ref ab, .ref ag, .int (nI leg)]) (rest := [.int (nI (σ 1 leg))]) ⟨hx, hb, hml, hown, hts⟩ (c_L_booked l D cy ap ah ab ag pf hf bf gf ei σ hI hM leg c204 H (mcl hP)) (va_cwS 3 hts gL_areLegs_L_booked rfl rfl rfl hdL_booked.2 ⟨Nat.le_of_ble_eq_true rfl, Nat.le_of_ble_eq_true rfl⟩) (ro_pre hK rfl) rfl rfl hl.1 rfl (lv_room (Nat.le_of_ble_eq_true rfl)) dL_areLegs_242 ⟨(by show 6 + 5 * leg + 1 + 1 + 0 ≤ 24; omega), (by show 36 + 30 * leg + 6 + 6 + 0 ≤ 150; omega)⟩) (fun z242 hz242 => ?_)
              subst hz242
              refine lv_isub hx hb dL_areLegs_245 ?_
              refine lv_istore (lv' := [(12, .int (nI (σ 1 leg) - nI (σ 2 leg))), (11, .int z227), (10, .int (nI bd)), (0, .ref ((ad 0 0))), (1, .ref ap), (2, .ref ah), (3, .ref ab), (4, .ref ag), (5, .int (nI fare)), (6, .int (nI 1)), (8, .int (nI (wM σ 0 0 0))), (9, .int (nI leg))]) hx hb dL_areLegs_246 hl (by decide) rfl (fun ls hl => ?_)
              refine lv_iconst (v := nI 0) hx hb dL_areLegs_248 (by decide) ?_
              refine lv_istore (lv' := [(13, .int (nI 0)), (12, .int (nI (σ 1 leg) - nI (σ 2 leg))), (11, .int z227), (10, .int (nI bd)), (0, .ref ((ad 0 0))), (1, .ref ap), (2, .ref ah), (3, .ref ab), (4, .ref ag), (5, .int (nI fare)), (6, .int (nI 1)), (8, .int (nI (wM σ 0 0 0))), (9, .int (nI leg))]) hx hb dL_areLegs_249 hl (by decide) rfl (fun ls hl => ?_)
              refine lv_iconst (v := nI 0) hx hb dL_areLegs_251 (by decide) ?_
              have K254 : ∀ (n254 : Nat) (k2 : Nat) (ds : Nat), σ 0 0 - k2 < n254 → (k2 ≤ σ 0 0) → (ds = dS σ leg k2) → ∀ (H : Heap) (locs : List Loc), va_P D vwCl (MC cy ap ah ab ag pf hf bf gf ei ++ WG ad cy (σ 0 0) (σ 0 3) σ er ofd de bo qld qsd u133) H → va_D A (MC cy ap ah ab ag pf hf bf gf ei ++ WG ad cy (σ 0 0) (σ 0 3) σ er ofd de bo qld qsd u133) → va_S A H0 H locs → ∀ ls : Array Slot, lv_has ls 15 [(0, .ref ((ad 0 0))), (1, .ref ap), (2, .ref ah), (3, .ref ab), (4, .ref ag), (5, .int (nI fare)), (6, .int (nI 1)), (8, .int (nI (wM σ 0 0 0))), (9, .int (nI leg)), (10, .int (nI bd)), (11, .int z227), (12, .int (nI (σ 1 leg) - nI (σ 2 leg))), (13, .int (nI ds)), (14, .int (nI k2))] → W p l e rmL_areLegs s m args below meth c H locs (6 + 5 * leg + 2) (36 + 30 * leg + 12) Q (F0 m 254 ls []) := by
                intro n254
                induction n254 with
                | zero =>
                  intro k2 ds hfu
                  exact absurd hfu (Nat.not_lt_zero _)
                | succ n254 ih254 =>
                  intro k2 ds hfu hk2 hds H locs hP hD hS ls hl
                  refine lv_iload hx hb dL_areLegs_254 (lv_at hl 13 rfl) ?_
                  refine lv_aload hx hb dL_areLegs_256 (lv_at hl 4 rfl) ?_
                  refine lv_iconst (v := nI 4) hx hb dL_areLegs_258 (by decide) ?_
                  refine mg_ld (v := σ 0 0) hx hb hK (mcl hP) (by omega) hM.g4 dL_areLegs_259 ?_
                  refine ln_icmp_ge (tgt := 325) hx hb (by omega) (by omega) dL_areLegs_260 (by decide) (fun c260 => ?_) (fun c260 => ?_)
                  · skip
                    have hds9 : ds = dS σ leg (σ 0 0) := by rw [hds, show k2 = σ 0 0 by omega]
                    refine lv_aload_n hx hb dL_areLegs_325 rfl (lv_at hl 0 rfl) ?_
                    refine lv_iload hx hb dL_areLegs_326 (lv_at hl 8 rfl) ?_
                    refine xr_calli (vx_runV (As := [.int (nI leg)]) (rest := []) ⟨hx, hb, hml, hown, hts⟩ (c_X5_booked l hfl D cy ad σ er ofd de bo qld qsd u133 hbo hI ((nI leg)) H.size) (cwV 1 hts gL_areLegs_X5_booked rfl rfl rfl hdX5_booked ⟨Nat.le_of_ble_eq_true rfl, Nat.le_of_ble_eq_true rfl⟩) (xo_preV hK rfl (mcr hP) (hD.subl (List.sublist_append_right _ _)) hXW (hXZ.at hS hD hA (fun _ hq => List.mem_append_right _ hq)) (va_recv hK.1 (mcr hP) (ci := 5) (q0 := 0) rfl rfl)) rfl rfl hl.1 rfl (lv_room (Nat.le_of_ble_eq_true rfl)) dL_areLegs_328 ⟨(by show 6 + 5 * leg + 2 + 1 ≤ 24; omega), (by show 36 + 30 * leg + 12 + 6 ≤ 150; omega)⟩) hS hP hD hA (fun E h => h.1 (okR_i (by omega) (by omega) (by omega))) (fun z328 u328 H locs hz328 hP hD hS => ?_)
                    obtain ⟨-, hz328⟩ := hz328
                    rw [cN_nI (by omega)] at hz328
                    subst hz328
                    have hP : va_P D vwCl (MC cy ap ah ab ag pf hf bf gf ei ++ WG ad cy (σ 0 0) (σ 0 3) σ er ofd de bo qld qsd u133) H := hP
                    have hD : va_D A (MC cy ap ah ab ag pf hf bf gf ei ++ WG ad cy (σ 0 0) (σ 0 3) σ er ofd de bo qld qsd u133) := hD
                    refine lv_aload_n hx hb dL_areLegs_331 rfl (lv_at hl 3 rfl) ?_
                    refine lv_aload hx hb dL_areLegs_332 (lv_at hl 4 rfl) ?_
                    refine lv_iload hx hb dL_areLegs_334 (lv_at hl 8 rfl) ?_
                    refine ro_calliN (va_runS (As := [.ref ab, .ref ag, .int (nI leg)]) (rest := [.int (nI (σ 2 leg))]) ⟨hx, hb, hml, hown, hts⟩ (c_L_booked l D cy ap ah ab ag pf hf bf gf ei σ hI hM leg c204 H (mcl hP)) (va_cwS 3 hts gL_areLegs_L_booked rfl rfl rfl hdL_booked.2 ⟨Nat.le_of_ble_eq_true rfl, Nat.le_of_ble_eq_true rfl⟩) (ro_pre hK rfl) rfl rfl hl.1 rfl (lv_room (Nat.le_of_ble_eq_true rfl)) dL_areLegs_336 ⟨(by show 6 + 5 * leg + 2 + 1 + 0 ≤ 24; omega), (by show 36 + 30 * leg + 12 + 6 + 0 ≤ 150; omega)⟩) (fun z336 hz336 => ?_)
                    subst hz336
                    refine lv_icmp_ne (tgt := 423) hx hb dL_areLegs_339 (by decide) (fun c339 => absurd rfl c339) (fun c339 => ?_)
                    refine lv_aload_n hx hb dL_areLegs_342 rfl (lv_at hl 0 rfl) ?_
                    refine lv_iload hx hb dL_areLegs_343 (lv_at hl 8 rfl) ?_
                    refine xr_calli (vx_runV (As := [.int (nI leg)]) (rest := []) ⟨hx, hb, hml, hown, hts⟩ (c_X5_authorised l hfl D cy ad σ er ofd de bo qld qsd u133 hI ((nI leg)) H.size) (cwV 1 hts gL_areLegs_X5_authorised rfl rfl rfl hdX5_authorised ⟨Nat.le_of_ble_eq_true rfl, Nat.le_of_ble_eq_true rfl⟩) (xo_preV hK rfl (mcr hP) (hD.subl (List.sublist_append_right _ _)) hXW (hXZ.at hS hD hA (fun _ hq => List.mem_append_right _ hq)) (va_recv hK.1 (mcr hP) (ci := 5) (q0 := 0) rfl rfl)) rfl rfl hl.1 rfl (lv_room (Nat.le_of_ble_eq_true rfl)) dL_areLegs_345 ⟨(by show 6 + 5 * leg + 2 + 1 + 1 ≤ 24; omega), (by show 36 + 30 * leg + 12 + 6 + 6 ≤ 150; omega)⟩) hS hP hD hA (fun E h => h.1 (okR_i (by omega) (by omega) (by omega))) (fun z345 u345 H locs hz345 hP hD hS => ?_)
                    obtain ⟨-, hz345⟩ := hz345
                    rw [cN_nI (by omega)] at hz345
                    subst hz345
                    have hP : va_P D vwCl (MC cy ap ah ab ag pf hf bf gf ei ++ WG ad cy (σ 0 0) (σ 0 3) σ er ofd de bo qld qsd u133) H := hP
                    have hD : va_D A (MC cy ap ah ab ag pf hf bf gf ei ++ WG ad cy (σ 0 0) (σ 0 3) σ er ofd de bo qld qsd u133) := hD
                    refine lv_aload hx hb dL_areLegs_348 (lv_at hl 4 rfl) ?_
                    refine lv_iload hx hb dL_areLegs_350 (lv_at hl 8 rfl) ?_
                    refine ro_calliN (va_runS (As := [.ref ag, .int (nI leg)]) (rest := [.int (nI (aut σ leg))]) ⟨hx, hb, hml, hown, hts⟩ (c_L_authorised l D cy ap ah ab ag pf hf bf gf ei σ hI hM leg c204 H (mcl hP)) (va_cwS 2 hts gL_areLegs_L_authorised rfl rfl rfl hdL_authorised.2 ⟨Nat.le_of_ble_eq_true rfl, Nat.le_of_ble_eq_true rfl⟩) (ro_pre hK rfl) rfl rfl hl.1 rfl (lv_room (Nat.le_of_ble_eq_true rfl)) dL_areLegs_352 ⟨(by show 6 + 5 * leg + 2 + 1 + 1 + 0 ≤ 24; omega), (by show 36 + 30 * leg + 12 + 6 + 6 + 0 ≤ 150; omega)⟩) (fun z352 hz352 => ?_)
                    subst hz352
                    refine lv_icmp_ne (tgt := 423) hx hb dL_areLegs_355 (by decide) (fun c355 => absurd rfl c355) (fun c355 => ?_)
                    refine lv_aload_n hx hb dL_areLegs_358 rfl (lv_at hl 0 rfl) ?_
                    refine lv_iload hx hb dL_areLegs_359 (lv_at hl 8 rfl) ?_
                    refine lv_iload hx hb dL_areLegs_361 (lv_at hl 5 rfl) ?_
                    refine xr_calli (vx_runV (As := [.int (nI leg), .int (nI fare)]) (rest := []) ⟨hx, hb, hml, hown, hts⟩ (c_X5_protectedSeats l hfl D cy ad σ er ofd de bo qld qsd u133 hof hI ((nI leg)) ((nI fare)) H.size) (cwV 2 hts gL_areLegs_X5_protectedSeats rfl rfl rfl hdX5_protectedSeats ⟨Nat.le_of_ble_eq_true rfl, Nat.le_of_ble_eq_true rfl⟩) (xo_preV hK rfl (mcr hP) (hD.subl (List.sublist_append_right _ _)) hXW (hXZ.at hS hD hA (fun _ hq => List.mem_append_right _ hq)) (va_recv hK.1 (mcr hP) (ci := 5) (q0 := 0) rfl rfl)) rfl rfl hl.1 rfl (lv_room (Nat.le_of_ble_eq_true rfl)) dL_areLegs_363 ⟨(by show 6 + 5 * leg + 2 + 1 + 1 + 1 ≤ 24; omega), (by show 36 + 30 * leg + 12 + 6 + 6 + 6 ≤ 150; omega)⟩) hS hP hD hA (fun E h => by rcases h with ⟨h, -⟩ | ⟨-, h, -⟩; exact h (okR_i (by omega) (by omega) (by omega)); exact h (okR_i (by omega) (by omega) (by omega))) (fun z363 u363 H locs hz363 hP hD hS => ?_)
                    obtain ⟨-, -, hz363⟩ := hz363
                    rw [cN_nI (by omega), cN_nI (by omega)] at hz363
                    subst hz363
                    have hP : va_P D vwCl (MC cy ap ah ab ag pf hf bf gf ei ++ WG ad cy (σ 0 0) (σ 0 3) σ er ofd de bo qld qsd u133) H := hP
                    have hD : va_D A (MC cy ap ah ab ag pf hf bf gf ei ++ WG ad cy (σ 0 0) (σ 0 3) σ er ofd de bo qld qsd u133) := hD
                    refine lv_aload_n hx hb dL_areLegs_366 rfl (lv_at hl 1 rfl) ?_
                    refine lv_aload_n hx hb dL_areLegs_367 rfl (lv_at hl 2 rfl) ?_
                    refine lv_aload hx hb dL_areLegs_368 (lv_at hl 4 rfl) ?_
                    refine lv_iload hx hb dL_areLegs_370 (lv_at hl 8 rfl) ?_
                    refine lv_iload hx hb dL_areLegs_372 (lv_at hl 5 rfl) ?_
                    refine ro_calliN (va_runS (As := [.ref ap, .ref ah, .ref ag, .int (nI leg), .int (nI fare)]) (rest := [.int (nI (prot σ leg fare))]) ⟨hx, hb, hml, hown, hts⟩ (c_L_guarded l D cy ap ah ab ag pf hf bf gf ei σ hI hM leg fare c204 hfa1 hfa2 H (mcl hP)) (va_cwS 5 hts gL_areLegs_L_guarded rfl rfl rfl hdL_guarded.2 ⟨Nat.le_of_ble_eq_true rfl, Nat.le_of_ble_eq_true rfl⟩) (ro_pre hK rfl) rfl rfl hl.1 rfl (lv_room (Nat.le_of_ble_eq_true rfl)) dL_areLegs_374 ⟨(by show 6 + 5 * leg + 2 + 1 + 1 + 1 + 0 ≤ 24; omega), (by show 36 + 30 * leg + 12 + 6 + 6 + 6 + 0 ≤ 150; omega)⟩) (fun z374 hz374 => ?_)
                    subst hz374
                    refine lv_icmp_ne (tgt := 423) hx hb dL_areLegs_377 (by decide) (fun c377 => absurd rfl c377) (fun c377 => ?_)
                    refine lv_iload hx hb dL_areLegs_380 (lv_at hl 9 rfl) ?_
                    refine ln_if_lt (tgt := 423) hx hb (by omega) dL_areLegs_382 (by decide) ?_
                    refine lv_iload hx hb dL_areLegs_385 (lv_at hl 9 rfl) ?_
                    refine lv_iload hx hb dL_areLegs_387 (lv_at hl 12 rfl) ?_
                    refine ln_icmp_gt (tgt := 423) hx hb (by omega) (by omega) dL_areLegs_389 (by decide) (fun c389 => absurd c389 (by rw [hds9]; omega)) (fun c389 => ?_)
                    refine lv_iload hx hb dL_areLegs_392 (lv_at hl 11 rfl) ?_
                    refine lv_iconst (v := nI 1) hx hb dL_areLegs_394 (by decide) ?_
                    refine lv_icmp_ge (tgt := 407) hx hb dL_areLegs_395 (by decide) (fun c395 => ?_) (fun c395 => ?_)
                    · skip
                      have hlt := (sb_ge (by omega) (by omega) (by omega)).mp c395
                      obtain ⟨dd, hdd, he⟩ : ∃ d, d ≤ wM σ 0 0 0 ∧ z227 = nI d := by
                        rcases hone with ⟨⟨j, hj1, hj2, hj3⟩, h2⟩ | ⟨h1, h2⟩
                        · exfalso
                          have hj : j = leg := by omega
                          subst hj
                          unfold lft at hj3
                          omega
                        · rw [h2]; exact dis_nat σ leg leg 1
                      subst he
                      refine lv_iload hx hb dL_areLegs_407 (lv_at hl 10 rfl) ?_
                      refine ln_if_lt (tgt := 423) hx hb (by omega) dL_areLegs_409 (by decide) ?_
                      refine lv_iload hx hb dL_areLegs_412 (lv_at hl 10 rfl) ?_
                      refine lv_iload hx hb dL_areLegs_414 (lv_at hl 7 rfl) ?_
                      refine ln_icmp_gt (tgt := 423) hx hb (by omega) (by omega) dL_areLegs_416 (by decide) (fun c416 => absurd c416 (by omega)) (fun c416 => ?_)
                      refine lv_iconst (v := nI 1) hx hb dL_areLegs_419 (by decide) ?_
                      refine lv_goto (tgt := 424) hx hb dL_areLegs_420 (by decide) ?_
                      refine lv_istore (lv' := [(6, .int (nI 1)), (0, .ref ((ad 0 0))), (1, .ref ap), (2, .ref ah), (3, .ref ab), (4, .ref ag), (5, .int (nI fare)), (8, .int (nI (wM σ 0 0 0))), (9, .int (nI leg)), (10, .int (nI bd)), (11, .int (nI dd)), (12, .int (nI (σ 1 leg) - nI (σ 2 leg))), (13, .int (nI ds)), (14, .int (nI k2))]) hx hb dL_areLegs_424 hl (by decide) rfl (fun ls hl => ?_)
                      obtain ⟨z426, hz426⟩ : ∃ z : Nat, z = leg + 1 := ⟨_, rfl⟩
                      refine lv_iinc (v := nI z426) (lv' := [(9, .int (nI z426)), (6, .int (nI 1)), (0, .ref ((ad 0 0))), (1, .ref ap), (2, .ref ah), (3, .ref ab), (4, .ref ag), (5, .int (nI fare)), (8, .int (nI (wM σ 0 0 0))), (10, .int (nI bd)), (11, .int (nI dd)), (12, .int (nI (σ 1 leg) - nI (σ 2 leg))), (13, .int (nI ds)), (14, .int (nI k2))]) hx hb dL_areLegs_426 hl (k := 8) rfl (by rw [hz426]; exact nI_add _ 1) (by decide) rfl (fun ls hl => ?_)
                      refine lv_goto (tgt := 201) hx hb dL_areLegs_429 (by decide) ?_
                      refine W.widen (k := 6 + 5 * z426) (n := 36 + 30 * z426) (by omega) (by omega) ?_
                      exact ih201 z426 qld qsd (by omega) (by omega) hQZ H locs hP hD hS ls (lv_sub hl [2, 3, 4, 5, 6, 7, 1, 8, 0] rfl)
                    · skip
                      have hlt : ¬ σ 2 leg + 1 ≤ σ 1 leg := fun q => c395 ((sb_ge (by omega) (by omega) (by omega)).mpr q)
                      have he : z227 = -1 := by
                        rcases hone with ⟨h1, h2⟩ | ⟨h1, h2⟩
                        · exact h2
                        · exact absurd ⟨leg, Nat.le_refl _, Nat.le_refl _, by unfold lft; omega⟩ h1
                      subst he
                      refine lv_iload hx hb dL_areLegs_398 (lv_at hl 10 rfl) ?_
                      refine lv_iconst (v := -1) hx hb dL_areLegs_400 (by decide) ?_
                      refine lv_icmp_ne (tgt := 423) hx hb dL_areLegs_401 (by decide) (fun c401 => absurd rfl c401) (fun c401 => ?_)
                      refine lv_goto (tgt := 419) hx hb dL_areLegs_404 (by decide) ?_
                      refine lv_iconst (v := nI 1) hx hb dL_areLegs_419 (by decide) ?_
                      refine lv_goto (tgt := 424) hx hb dL_areLegs_420 (by decide) ?_
                      refine lv_istore (lv' := [(6, .int (nI 1)), (0, .ref ((ad 0 0))), (1, .ref ap), (2, .ref ah), (3, .ref ab), (4, .ref ag), (5, .int (nI fare)), (8, .int (nI (wM σ 0 0 0))), (9, .int (nI leg)), (10, .int (nI bd)), (11, .int ((-1))), (12, .int (nI (σ 1 leg) - nI (σ 2 leg))), (13, .int (nI ds)), (14, .int (nI k2))]) hx hb dL_areLegs_424 hl (by decide) rfl (fun ls hl => ?_)
                      obtain ⟨z426, hz426⟩ : ∃ z : Nat, z = leg + 1 := ⟨_, rfl⟩
                      refine lv_iinc (v := nI z426) (lv' := [(9, .int (nI z426)), (6, .int (nI 1)), (0, .ref ((ad 0 0))), (1, .ref ap), (2, .ref ah), (3, .ref ab), (4, .ref ag), (5, .int (nI fare)), (8, .int (nI (wM σ 0 0 0))), (10, .int (nI bd)), (11, .int ((-1))), (12, .int (nI (σ 1 leg) - nI (σ 2 leg))), (13, .int (nI ds)), (14, .int (nI k2))]) hx hb dL_areLegs_426 hl (k := 8) rfl (by rw [hz426]; exact nI_add _ 1) (by decide) rfl (fun ls hl => ?_)
                      refine lv_goto (tgt := 201) hx hb dL_areLegs_429 (by decide) ?_
                      refine W.widen (k := 6 + 5 * z426) (n := 36 + 30 * z426) (by omega) (by omega) ?_
                      exact ih201 z426 qld qsd (by omega) (by omega) hQZ H locs hP hD hS ls (lv_sub hl [2, 3, 4, 5, 6, 7, 1, 8, 0] rfl)
                  · skip
                    have hpk := hI.pr k2 c260
                    have hdm := dS_le (σ := σ) (leg := leg) k2 (fun i hi => (hI.pr i (by omega)).2.2.2.1)
                    have K317 : ∀ (x : Nat), (x = dS σ leg (k2 + 1)) → ∀ (H : Heap) (locs : List Loc), va_P D vwCl (MC cy ap ah ab ag pf hf bf gf ei ++ WG ad cy (σ 0 0) (σ 0 3) σ er ofd de bo qld qsd u133) H → va_D A (MC cy ap ah ab ag pf hf bf gf ei ++ WG ad cy (σ 0 0) (σ 0 3) σ er ofd de bo qld qsd u133) → va_S A H0 H locs → ∀ ls : Array Slot, lv_has ls 15 [(0, .ref ((ad 0 0))), (1, .ref ap), (2, .ref ah), (3, .ref ab), (4, .ref ag), (5, .int (nI fare)), (6, .int (nI 1)), (8, .int (nI (wM σ 0 0 0))), (9, .int (nI leg)), (10, .int (nI bd)), (11, .int z227), (12, .int (nI (σ 1 leg) - nI (σ 2 leg))), (13, .int (nI ds)), (14, .int (nI k2))] → W p l e rmL_areLegs s m args below meth c H locs (6 + 5 * leg + 2) (36 + 30 * leg + 12) Q (F0 m 317 ls [.int (nI x)]) := by
                      intro x hx6 H locs hP hD hS ls hl
                      refine lv_istore (lv' := [(13, .int (nI x)), (0, .ref ((ad 0 0))), (1, .ref ap), (2, .ref ah), (3, .ref ab), (4, .ref ag), (5, .int (nI fare)), (6, .int (nI 1)), (8, .int (nI (wM σ 0 0 0))), (9, .int (nI leg)), (10, .int (nI bd)), (11, .int z227), (12, .int (nI (σ 1 leg) - nI (σ 2 leg))), (14, .int (nI k2))]) hx hb dL_areLegs_317 hl (by decide) rfl (fun ls hl => ?_)
                      obtain ⟨z319, hz319⟩ : ∃ z : Nat, z = k2 + 1 := ⟨_, rfl⟩
                      refine lv_iinc (v := nI z319) (lv' := [(14, .int (nI z319)), (13, .int (nI x)), (0, .ref ((ad 0 0))), (1, .ref ap), (2, .ref ah), (3, .ref ab), (4, .ref ag), (5, .int (nI fare)), (6, .int (nI 1)), (8, .int (nI (wM σ 0 0 0))), (9, .int (nI leg)), (10, .int (nI bd)), (11, .int z227), (12, .int (nI (σ 1 leg) - nI (σ 2 leg)))]) hx hb dL_areLegs_319 hl (k := 13) rfl (by rw [hz319]; exact nI_add _ 1) (by decide) rfl (fun ls hl => ?_)
                      refine lv_goto (tgt := 254) hx hb dL_areLegs_322 (by decide) ?_
                      exact ih254 z319 x (by omega) (by omega) (by rw [hx6, hz319]) H locs hP hD hS ls (lv_sub hl [2, 3, 4, 5, 6, 7, 8, 9, 10, 11, 12, 13, 1, 0] rfl)
                    refine lv_aload_n hx hb dL_areLegs_263 rfl (lv_at hl 1 rfl) ?_
                    refine lv_bipush (v := nI 6) hx hb dL_areLegs_264 (by decide) ?_
                    refine lv_iload hx hb dL_areLegs_266 (lv_at hl 13 rfl) ?_
                    refine ln_imul hx hb dL_areLegs_268 (fun z268 hz268 => ?_)
                    refine mp_ld (v := σ 3 k2) hx hb hK (mcl hP) (by omega) (hM.p0 c260 (by omega)) dL_areLegs_269 ?_
                    refine lv_iload hx hb dL_areLegs_270 (lv_at hl 8 rfl) ?_
                    refine ln_icmp_gt (tgt := 315) hx hb (by omega) (by omega) dL_areLegs_272 (by decide) (fun c272 => ?_) (fun c272 => ?_)
                    · skip
                      refine lv_iload hx hb dL_areLegs_315 (lv_at hl 12 rfl) ?_
                      exact K317 ds (by rw [hds]; exact dS_n (fun w => by obtain ⟨w1, w2, w3⟩ := w; rw [← hds] at w3; omega)) H locs hP hD hS ls (lv_sub hl [0, 1, 2, 3, 4, 5, 6, 7, 8, 9, 10, 11, 12, 13] rfl)
                    · skip
                      refine lv_aload_n hx hb dL_areLegs_275 rfl (lv_at hl 1 rfl) ?_
                      refine lv_bipush (v := nI 6) hx hb dL_areLegs_276 (by decide) ?_
                      refine lv_iload hx hb dL_areLegs_278 (lv_at hl 13 rfl) ?_
                      refine ln_imul hx hb dL_areLegs_280 (fun z280 hz280 => ?_)
                      refine lv_iconst (v := nI 1) hx hb dL_areLegs_281 (by decide) ?_
                      refine ln_iadd hx hb dL_areLegs_282 (fun z282 hz282 => ?_)
                      refine mp_ld (v := σ 4 k2) hx hb hK (mcl hP) (by omega) (hM.p1 c260 (by omega)) dL_areLegs_283 ?_
                      refine lv_iload hx hb dL_areLegs_284 (lv_at hl 8 rfl) ?_
                      refine ln_icmp_lt (tgt := 315) hx hb (by omega) (by omega) dL_areLegs_286 (by decide) (fun c286 => ?_) (fun c286 => ?_)
                      · skip
                        refine lv_iload hx hb dL_areLegs_315 (lv_at hl 12 rfl) ?_
                        exact K317 ds (by rw [hds]; exact dS_n (fun w => by obtain ⟨w1, w2, w3⟩ := w; rw [← hds] at w3; omega)) H locs hP hD hS ls (lv_sub hl [0, 1, 2, 3, 4, 5, 6, 7, 8, 9, 10, 11, 12, 13] rfl)
                      · skip
                        refine lv_aload_n hx hb dL_areLegs_289 rfl (lv_at hl 1 rfl) ?_
                        refine lv_bipush (v := nI 6) hx hb dL_areLegs_290 (by decide) ?_
                        refine lv_iload hx hb dL_areLegs_292 (lv_at hl 13 rfl) ?_
                        refine ln_imul hx hb dL_areLegs_294 (fun z294 hz294 => ?_)
                        refine lv_iconst (v := nI 2) hx hb dL_areLegs_295 (by decide) ?_
                        refine ln_iadd hx hb dL_areLegs_296 (fun z296 hz296 => ?_)
                        refine mp_ld (v := σ 5 k2) hx hb hK (mcl hP) (by omega) (hM.p2 c260 (by omega)) dL_areLegs_297 ?_
                        refine lv_iload hx hb dL_areLegs_298 (lv_at hl 12 rfl) ?_
                        refine ln_icmp_le (tgt := 315) hx hb (by omega) (by omega) dL_areLegs_300 (by decide) (fun c300 => ?_) (fun c300 => ?_)
                        · skip
                          refine lv_iload hx hb dL_areLegs_315 (lv_at hl 12 rfl) ?_
                          exact K317 ds (by rw [hds]; exact dS_n (fun w => by obtain ⟨w1, w2, w3⟩ := w; rw [← hds] at w3; omega)) H locs hP hD hS ls (lv_sub hl [0, 1, 2, 3, 4, 5, 6, 7, 8, 9, 10, 11, 12, 13] rfl)
                        · skip
                          refine lv_aload_n hx hb dL_areLegs_303 rfl (lv_at hl 1 rfl) ?_
                          refine lv_bipush (v := nI 6) hx hb dL_areLegs_304 (by decide) ?_
                          refine lv_iload hx hb dL_areLegs_306 (lv_at hl 13 rfl) ?_
                          refine ln_imul hx hb dL_areLegs_308 (fun z308 hz308 => ?_)
                          refine lv_iconst (v := nI 2) hx hb dL_areLegs_309 (by decide) ?_
                          refine ln_iadd hx hb dL_areLegs_310 (fun z310 hz310 => ?_)
                          refine mp_ld (v := σ 5 k2) hx hb hK (mcl hP) (by omega) (hM.p2 c260 (by omega)) dL_areLegs_311 ?_
                          refine lv_goto (tgt := 317) hx hb dL_areLegs_312 (by decide) ?_
                          exact K317 (σ 5 k2) (dS_y ⟨by omega, by omega, by rw [← hds]; exact c300⟩) H locs hP hD hS ls (lv_sub hl [0, 1, 2, 3, 4, 5, 6, 7, 8, 9, 10, 11, 12, 13] rfl)
              refine lv_istore (lv' := [(14, .int (nI 0)), (13, .int (nI 0)), (12, .int (nI (σ 1 leg) - nI (σ 2 leg))), (11, .int z227), (10, .int (nI bd)), (0, .ref ((ad 0 0))), (1, .ref ap), (2, .ref ah), (3, .ref ab), (4, .ref ag), (5, .int (nI fare)), (6, .int (nI 1)), (8, .int (nI (wM σ 0 0 0))), (9, .int (nI leg))]) hx hb dL_areLegs_252 hl (by decide) rfl (fun ls hl => ?_)
              refine W.widen (k := 6 + 5 * leg + 2) (n := 36 + 30 * leg + 12) (by omega) (by omega) ?_
              exact K254 _ 0 0 (Nat.lt_succ_self _) (Nat.zero_le _) rfl H locs hP hD hS ls (lv_sub hl [5, 6, 7, 8, 9, 10, 11, 12, 13, 4, 3, 2, 1, 0] rfl)
        refine lv_istore (lv' := [(9, .int (nI 0)), (6, .int (nI 1)), (8, .int (nI (wM σ 0 0 0))), (0, .ref ((ad 0 0))), (1, .ref ap), (2, .ref ah), (3, .ref ab), (4, .ref ag), (5, .int (nI fare)), (7, .int (nI rv))]) hx hb dL_areLegs_199 hl (by decide) rfl (fun ls hl => ?_)
        refine W.widen (k := 6 + 5 * 0) (n := 36 + 30 * 0) (by omega) (by omega) ?_
        exact K201 _ 0 ql122 qs122 (Nat.lt_succ_self _) (by omega) hQZ H locs hP hD hS ls (lv_sub hl [3, 4, 5, 6, 7, 8, 1, 2, 0] rfl)
      · skip
        refine lv_iload hx hb dL_areLegs_103 (lv_at hl 7 rfl) ?_
        refine lv_aload_n hx hb dL_areLegs_105 rfl (lv_at hl 3 rfl) ?_
        refine lv_bipush (v := nI 20) hx hb dL_areLegs_106 (by decide) ?_
        refine lv_iload hx hb dL_areLegs_108 (lv_at hl 8 rfl) ?_
        refine ln_iadd hx hb dL_areLegs_110 (fun z110 hz110 => ?_)
        refine mb_ld (v := (if σ 14 k = 0 then σ 13 k else 0)) hx hb hK (mcl hP) (by omega) (hM.b2 c100 hz110) dL_areLegs_111 ?_
        refine ln_iadd hx hb dL_areLegs_112 (fun z112 hz112 => ?_)
        refine lv_istore (lv' := [(7, .int (nI z112)), (0, .ref ((ad 0 0))), (1, .ref ap), (2, .ref ah), (3, .ref ab), (4, .ref ag), (5, .int (nI fare)), (6, .int (nI 1)), (8, .int (nI k))]) hx hb dL_areLegs_113 hl (by decide) rfl (fun ls hl => ?_)
        obtain ⟨z115, hz115⟩ : ∃ z : Nat, z = k + 1 := ⟨_, rfl⟩
        refine lv_iinc (v := nI z115) (lv' := [(8, .int (nI z115)), (7, .int (nI z112)), (0, .ref ((ad 0 0))), (1, .ref ap), (2, .ref ah), (3, .ref ab), (4, .ref ag), (5, .int (nI fare)), (6, .int (nI 1))]) hx hb dL_areLegs_115 hl (k := 8) rfl (by rw [hz115]; exact nI_add _ 1) (by decide) rfl (fun ls hl => ?_)
        refine lv_goto (tgt := 93) hx hb dL_areLegs_118 (by decide) ?_
        exact ih93 z115 z112 (by omega) (by omega) (by rw [hz112, hrv, hz115]; rfl) H locs hP hD hS ls (lv_sub hl [2, 3, 4, 5, 6, 7, 8, 1, 0] rfl)
  refine lv_istore (lv' := [(8, .int (nI 0)), (7, .int (nI 0)), (6, .int (nI 1)), (0, .ref ((ad 0 0))), (1, .ref ap), (2, .ref ah), (3, .ref ab), (4, .ref ag), (5, .int (nI fare))]) hx hb dL_areLegs_91 hl (by decide) rfl (fun ls hl => ?_)
  refine W.widen (k := 6) (n := 36) (by omega) (by omega) ?_
  exact K93 _ 0 0 (Nat.lt_succ_self _) (Nat.zero_le _) rfl H locs hP hD hS ls (lv_sub hl [3, 4, 5, 6, 7, 8, 2, 1, 0] rfl)
set_option maxHeartbeats 4000000 in
set_option maxRecDepth 100000 in
theorem c_L_areProducts (l : Launch) (hfl : l.stackTraces = false) (D : va_G) (cy : Nat → ClassId) (ap ah ab ag : Nat) (pf hf bf gf : Nat → Nat) (ei : Int32) (ad : Nat → Nat → Nat) (σ : SF) (er : Int64) (ofd de bo : Nat → Option Nat) (ql : Nat → Nat) (qs : Nat → Nat → Nat) (tv : Nat → Nat) {n : Nat} (hI : Iv n σ) (hof : OF ad σ ofd) (hbo : BO ad σ bo) {dl : List Nat} (hDL : DL ad σ de dl) (hQZ : QZ qs) (hM : MR σ pf hf bf gf) (hE : EM σ er ei)  : cLI l D cy yL_areProducts wsL_areProducts rmL_areProducts [.ref (ad 0 0), .ref ap, .ref ag] (MC cy ap ah ab ag pf hf bf gf ei ++ WG ad cy (σ 0 0) (σ 0 3) σ er ofd de bo ql qs tv) (T := Unit) (fun _ => MC cy ap ah ab ag pf hf bf gf ei ++ WG ad cy (σ 0 0) (σ 0 3) σ er ofd de bo ql qs tv) (fun r _ => r = nI 1) 30 200 := by
  refine cLI.ofN (cc := cL_areProducts) (maxL := 6) (by decide) rfl (Nat.le_of_ble_eq_true rfl) (fun v u h => z_one h) ?_
  intro p e s m args below meth c H0 A Q hx hb hml hown hts hP hK hD hS hA hXW hXZ hAe hH0e hret ls hl
  obtain ⟨H, locs, hH, hlo⟩ : ∃ (H : Heap) (locs : List Loc), H = H0 ∧ locs = [] := ⟨_, _, rfl, rfl⟩
  rw [← hH] at hP
  rw [show va_S A H0 H0 [] = va_S A H0 H locs by rw [hH, hlo]] at hS
  rw [show W p l e rmL_areProducts s m args below meth c H0 [] 0 0 Q (F0 m 0 ls []) = W p l e rmL_areProducts s m args below meth c H locs 0 0 Q (F0 m 0 ls []) by rw [hH, hlo]]
  have hnp := hM.np
  have hdy := hM.dy
  refine lv_aload_n hx hb dL_areProducts_0 rfl (lv_at hl 0 rfl) ?_
  refine lv_iconst (v := nI 5) hx hb dL_areProducts_1 (by decide) ?_
  refine lv_aload_n hx hb dL_areProducts_2 rfl (lv_at hl 2 rfl) ?_
  refine lv_iconst (v := nI 4) hx hb dL_areProducts_3 (by decide) ?_
  refine mg_ld (v := σ 0 0) hx hb hK (mcl hP) (by omega) hM.g4 dL_areProducts_4 ?_
  refine lv_iconst (v := nI 0) hx hb dL_areProducts_5 (by decide) ?_
  refine lv_iconst (v := nI 0) hx hb dL_areProducts_6 (by decide) ?_
  refine ap_calli (vx_runSW (As := [.ref ((ad 0 0)), .int (nI 5), .int (nI (σ 0 0)), .int (nI 0), .int (nI 0)]) (rest := []) ⟨hx, hb, hml, hown, hts⟩ (c_L_asks_5 l hfl D cy ad σ er ofd de bo ql qs tv hof hI ((nI (σ 0 0))) ((nI 0)) ((nI 0)) H.size) (vx_cwSW 5 hts gL_areProducts_L_asks rfl rfl rfl hdL_asks.2 ⟨Nat.le_of_ble_eq_true rfl, Nat.le_of_ble_eq_true rfl⟩) (xo_preS hK rfl (mcr hP) (hD.subl (List.sublist_append_right _ _)) hXW (hXZ.at hS hD hA (fun _ hq => List.mem_append_right _ hq))) rfl rfl hl.1 rfl (lv_room (Nat.le_of_ble_eq_true rfl)) dL_areProducts_7 ⟨(by show 0 + 1 ≤ 30; omega), (by show 0 + 6 ≤ 200; omega)⟩) hS hP hD hA (fun z7 u7 H locs hz7 hP hD hS => ?_)
  obtain ⟨rfl, rfl⟩ := pD_io hz7 (fun r t h => isP_no (Nat.le_refl _) (by omega) h.1) (fun E h => h.2)
  have hP : va_P D vwCl (MC cy ap ah ab ag pf hf bf gf ei ++ WG ad cy (σ 0 0) (σ 0 3) σ er ofd de bo ql qs tv) H := hP
  have hD : va_D A (MC cy ap ah ab ag pf hf bf gf ei ++ WG ad cy (σ 0 0) (σ 0 3) σ er ofd de bo ql qs tv) := hD
  refine lv_bipush (v := -30) hx hb dL_areProducts_10 (by decide) ?_
  refine lv_icmp_ne (tgt := 78) hx hb dL_areProducts_12 (by decide) (fun c12 => absurd rfl c12) (fun c12 => ?_)
  refine lv_aload_n hx hb dL_areProducts_15 rfl (lv_at hl 0 rfl) ?_
  refine lv_bipush (v := nI 6) hx hb dL_areProducts_16 (by decide) ?_
  refine lv_iconst (v := -1) hx hb dL_areProducts_18 (by decide) ?_
  refine lv_iconst (v := nI 0) hx hb dL_areProducts_19 (by decide) ?_
  refine lv_iconst (v := nI 0) hx hb dL_areProducts_20 (by decide) ?_
  refine ap_calli (vx_runSW (As := [.ref ((ad 0 0)), .int (nI 6), .int ((-1)), .int (nI 0), .int (nI 0)]) (rest := []) ⟨hx, hb, hml, hown, hts⟩ (c_L_asks_6 l hfl D cy ad σ er ofd de bo ql qs tv hof hI (((-1))) ((nI 0)) ((nI 0)) H.size) (vx_cwSW 5 hts gL_areProducts_L_asks rfl rfl rfl hdL_asks.2 ⟨Nat.le_of_ble_eq_true rfl, Nat.le_of_ble_eq_true rfl⟩) (xo_preS hK rfl (mcr hP) (hD.subl (List.sublist_append_right _ _)) hXW (hXZ.at hS hD hA (fun _ hq => List.mem_append_right _ hq))) rfl rfl hl.1 rfl (lv_room (Nat.le_of_ble_eq_true rfl)) dL_areProducts_21 ⟨(by show 0 + 1 + 1 ≤ 30; omega), (by show 0 + 6 + 6 ≤ 200; omega)⟩) hS hP hD hA (fun z21 u21 H locs hz21 hP hD hS => ?_)
  obtain ⟨rfl, rfl⟩ := pD_io hz21 (fun r t h => isP_m1 (by omega) h.1) (fun E h => h.2)
  have hP : va_P D vwCl (MC cy ap ah ab ag pf hf bf gf ei ++ WG ad cy (σ 0 0) (σ 0 3) σ er ofd de bo ql qs tv) H := hP
  have hD : va_D A (MC cy ap ah ab ag pf hf bf gf ei ++ WG ad cy (σ 0 0) (σ 0 3) σ er ofd de bo ql qs tv) := hD
  refine lv_bipush (v := -30) hx hb dL_areProducts_24 (by decide) ?_
  refine lv_icmp_ne (tgt := 78) hx hb dL_areProducts_26 (by decide) (fun c26 => absurd rfl c26) (fun c26 => ?_)
  refine lv_aload_n hx hb dL_areProducts_29 rfl (lv_at hl 0 rfl) ?_
  refine lv_bipush (v := nI 8) hx hb dL_areProducts_30 (by decide) ?_
  refine lv_aload_n hx hb dL_areProducts_32 rfl (lv_at hl 2 rfl) ?_
  refine lv_iconst (v := nI 4) hx hb dL_areProducts_33 (by decide) ?_
  refine mg_ld (v := σ 0 0) hx hb hK (mcl hP) (by omega) hM.g4 dL_areProducts_34 ?_
  refine lv_iconst (v := nI 0) hx hb dL_areProducts_35 (by decide) ?_
  refine lv_iconst (v := nI 0) hx hb dL_areProducts_36 (by decide) ?_
  refine ap_calli (vx_runSW (As := [.ref ((ad 0 0)), .int (nI 8), .int (nI (σ 0 0)), .int (nI 0), .int (nI 0)]) (rest := []) ⟨hx, hb, hml, hown, hts⟩ (c_L_asks_8 l hfl D cy ad σ er ofd de bo ql qs tv hof hI ((nI (σ 0 0))) (isP_no (Nat.le_refl _) (by omega)) ((nI 0)) ((nI 0)) H.size) (vx_cwSW 5 hts gL_areProducts_L_asks rfl rfl rfl hdL_asks.2 ⟨Nat.le_of_ble_eq_true rfl, Nat.le_of_ble_eq_true rfl⟩) (xo_preS hK rfl (mcr hP) (hD.subl (List.sublist_append_right _ _)) hXW (hXZ.at hS hD hA (fun _ hq => List.mem_append_right _ hq))) rfl rfl hl.1 rfl (lv_room (Nat.le_of_ble_eq_true rfl)) dL_areProducts_37 ⟨(by show 0 + 1 + 1 + 1 ≤ 30; omega), (by show 0 + 6 + 6 + 6 ≤ 200; omega)⟩) hS hP hD hA (fun z37 u37 H locs hz37 hP hD hS => ?_)
  obtain ⟨rfl, rfl⟩ := pD_io hz37 (fun r t h => h) (fun E h => h.2)
  have hP : va_P D vwCl (MC cy ap ah ab ag pf hf bf gf ei ++ WG ad cy (σ 0 0) (σ 0 3) σ er ofd de bo ql qs tv) H := hP
  have hD : va_D A (MC cy ap ah ab ag pf hf bf gf ei ++ WG ad cy (σ 0 0) (σ 0 3) σ er ofd de bo ql qs tv) := hD
  refine lv_bipush (v := -30) hx hb dL_areProducts_40 (by decide) ?_
  refine lv_icmp_ne (tgt := 78) hx hb dL_areProducts_42 (by decide) (fun c42 => absurd rfl c42) (fun c42 => ?_)
  refine lv_aload_n hx hb dL_areProducts_45 rfl (lv_at hl 0 rfl) ?_
  refine lv_bipush (v := nI 7) hx hb dL_areProducts_46 (by decide) ?_
  refine lv_iconst (v := nI 0) hx hb dL_areProducts_48 (by decide) ?_
  refine lv_iconst (v := nI 0) hx hb dL_areProducts_49 (by decide) ?_
  refine lv_iconst (v := nI 0) hx hb dL_areProducts_50 (by decide) ?_
  refine ap_calli (vx_runSW (As := [.ref ((ad 0 0)), .int (nI 7), .int (nI 0), .int (nI 0), .int (nI 0)]) (rest := []) ⟨hx, hb, hml, hown, hts⟩ (c_L_asks_7 l hfl D cy ad σ er ofd de bo ql qs tv ((nI 0)) ((nI 0)) ((nI 0)) H.size) (vx_cwSW 5 hts gL_areProducts_L_asks rfl rfl rfl hdL_asks.2 ⟨Nat.le_of_ble_eq_true rfl, Nat.le_of_ble_eq_true rfl⟩) (xo_preS hK rfl (mcr hP) (hD.subl (List.sublist_append_right _ _)) hXW (hXZ.at hS hD hA (fun _ hq => List.mem_append_right _ hq))) rfl rfl hl.1 rfl (lv_room (Nat.le_of_ble_eq_true rfl)) dL_areProducts_51 ⟨(by show 0 + 1 + 1 + 1 + 1 ≤ 30; omega), (by show 0 + 6 + 6 + 6 + 6 ≤ 200; omega)⟩) hS hP hD hA (fun z51 u51 H locs hz51 hP hD hS => ?_)
  obtain ⟨rfl, rfl⟩ := pD_ia hz51 (fun r t h => okN_0 h.1) (fun E h => h.2)
  have hP : va_P D vwCl (MC cy ap ah ab ag pf hf bf gf ei ++ WG ad cy (σ 0 0) (σ 0 3) σ er ofd de bo ql qs tv) H := hP
  have hD : va_D A (MC cy ap ah ab ag pf hf bf gf ei ++ WG ad cy (σ 0 0) (σ 0 3) σ er ofd de bo ql qs tv) := hD
  refine lv_bipush (v := -20) hx hb dL_areProducts_54 (by decide) ?_
  refine lv_icmp_ne (tgt := 78) hx hb dL_areProducts_56 (by decide) (fun c56 => absurd rfl c56) (fun c56 => ?_)
  refine lv_aload_n hx hb dL_areProducts_59 rfl (lv_at hl 0 rfl) ?_
  refine lv_bipush (v := nI 7) hx hb dL_areProducts_60 (by decide) ?_
  refine lv_bipush (v := -4) hx hb dL_areProducts_62 (by decide) ?_
  refine lv_iconst (v := nI 0) hx hb dL_areProducts_64 (by decide) ?_
  refine lv_iconst (v := nI 0) hx hb dL_areProducts_65 (by decide) ?_
  refine ap_calli (vx_runSW (As := [.ref ((ad 0 0)), .int (nI 7), .int ((-4)), .int (nI 0), .int (nI 0)]) (rest := []) ⟨hx, hb, hml, hown, hts⟩ (c_L_asks_7 l hfl D cy ad σ er ofd de bo ql qs tv (((-4))) ((nI 0)) ((nI 0)) H.size) (vx_cwSW 5 hts gL_areProducts_L_asks rfl rfl rfl hdL_asks.2 ⟨Nat.le_of_ble_eq_true rfl, Nat.le_of_ble_eq_true rfl⟩) (xo_preS hK rfl (mcr hP) (hD.subl (List.sublist_append_right _ _)) hXW (hXZ.at hS hD hA (fun _ hq => List.mem_append_right _ hq))) rfl rfl hl.1 rfl (lv_room (Nat.le_of_ble_eq_true rfl)) dL_areProducts_66 ⟨(by show 0 + 1 + 1 + 1 + 1 + 1 ≤ 30; omega), (by show 0 + 6 + 6 + 6 + 6 + 6 ≤ 200; omega)⟩) hS hP hD hA (fun z66 u66 H locs hz66 hP hD hS => ?_)
  obtain ⟨rfl, rfl⟩ := pD_ia hz66 (fun r t h => okN_4 h.1) (fun E h => h.2)
  have hP : va_P D vwCl (MC cy ap ah ab ag pf hf bf gf ei ++ WG ad cy (σ 0 0) (σ 0 3) σ er ofd de bo ql qs tv) H := hP
  have hD : va_D A (MC cy ap ah ab ag pf hf bf gf ei ++ WG ad cy (σ 0 0) (σ 0 3) σ er ofd de bo ql qs tv) := hD
  refine lv_bipush (v := -20) hx hb dL_areProducts_69 (by decide) ?_
  refine lv_icmp_ne (tgt := 78) hx hb dL_areProducts_71 (by decide) (fun c71 => absurd rfl c71) (fun c71 => ?_)
  refine lv_iconst (v := nI 1) hx hb dL_areProducts_74 (by decide) ?_
  refine lv_goto (tgt := 79) hx hb dL_areProducts_75 (by decide) ?_
  refine lv_istore_n (lv' := [(3, .int (nI 1)), (0, .ref ((ad 0 0))), (1, .ref ap), (2, .ref ag)]) hx hb dL_areProducts_79 rfl hl (by decide) rfl (fun ls hl => ?_)
  refine lv_iconst (v := nI 0) hx hb dL_areProducts_80 (by decide) ?_
  have K83 : ∀ (n83 : Nat) (k : Nat), σ 0 0 - k < n83 → (k ≤ σ 0 0) → ∀ (H : Heap) (locs : List Loc), va_P D vwCl (MC cy ap ah ab ag pf hf bf gf ei ++ WG ad cy (σ 0 0) (σ 0 3) σ er ofd de bo ql qs tv) H → va_D A (MC cy ap ah ab ag pf hf bf gf ei ++ WG ad cy (σ 0 0) (σ 0 3) σ er ofd de bo ql qs tv) → va_S A H0 H locs → ∀ ls : Array Slot, lv_has ls 6 [(0, .ref ((ad 0 0))), (1, .ref ap), (2, .ref ag), (3, .int (nI 1)), (4, .int (nI k))] → W p l e rmL_areProducts s m args below meth c H locs (5 + 3 * k) (30 + 18 * k) Q (F0 m 83 ls []) := by
    intro n83
    induction n83 with
    | zero =>
      intro k hfu
      exact absurd hfu (Nat.not_lt_zero _)
    | succ n83 ih83 =>
      intro k hfu hk H locs hP hD hS ls hl
      refine lv_iload hx hb dL_areProducts_83 (lv_at hl 4 rfl) ?_
      refine lv_aload_n hx hb dL_areProducts_85 rfl (lv_at hl 2 rfl) ?_
      refine lv_iconst (v := nI 4) hx hb dL_areProducts_86 (by decide) ?_
      refine mg_ld (v := σ 0 0) hx hb hK (mcl hP) (by omega) hM.g4 dL_areProducts_87 ?_
      refine ln_icmp_ge (tgt := 182) hx hb (by omega) (by omega) dL_areProducts_88 (by decide) (fun c88 => ?_) (fun c88 => ?_)
      · skip
        refine lv_iconst (v := nI 0) hx hb dL_areProducts_182 (by decide) ?_
        have K185 : ∀ (n185 : Nat) (k : Nat), 3 - k < n185 → (k ≤ 3) → ∀ (H : Heap) (locs : List Loc), va_P D vwCl (MC cy ap ah ab ag pf hf bf gf ei ++ WG ad cy (σ 0 0) (σ 0 3) σ er ofd de bo ql qs tv) H → va_D A (MC cy ap ah ab ag pf hf bf gf ei ++ WG ad cy (σ 0 0) (σ 0 3) σ er ofd de bo ql qs tv) → va_S A H0 H locs → ∀ ls : Array Slot, lv_has ls 6 [(0, .ref ((ad 0 0))), (1, .ref ap), (2, .ref ag), (3, .int (nI 1)), (4, .int (nI k))] → W p l e rmL_areProducts s m args below meth c H locs (23 + k) (138 + 6 * k) Q (F0 m 185 ls []) := by
          intro n185
          induction n185 with
          | zero =>
            intro k hfu
            exact absurd hfu (Nat.not_lt_zero _)
          | succ n185 ih185 =>
            intro k hfu hk H locs hP hD hS ls hl
            refine lv_iload hx hb dL_areProducts_185 (lv_at hl 4 rfl) ?_
            refine lv_iconst (v := nI 3) hx hb dL_areProducts_187 (by decide) ?_
            refine ln_icmp_ge (tgt := 225) hx hb (by omega) (by omega) dL_areProducts_188 (by decide) (fun c188 => ?_) (fun c188 => ?_)
            · skip
              refine lv_iload_n hx hb dL_areProducts_225 rfl (lv_at hl 3 rfl) ?_
              refine W.widen (k := 30) (n := 200) (by omega) (by omega) ?_
              exact hret () dL_areProducts_226 hP hD hS rfl
            · skip
              refine lv_iload_n hx hb dL_areProducts_191 rfl (lv_at hl 3 rfl) ?_
              refine lv_if_eq (tgt := 225) hx hb dL_areProducts_192 (by decide) (fun q => by first | exact absurd q (by decide) | exact absurd (by decide) q) (fun _ => ?_)
              refine lv_aload_n hx hb dL_areProducts_195 rfl (lv_at hl 0 rfl) ?_
              refine lv_iconst (v := -1) hx hb dL_areProducts_196 (by decide) ?_
              refine lv_iload hx hb dL_areProducts_197 (lv_at hl 4 rfl) ?_
              refine lv_isub hx hb dL_areProducts_199 ?_
              refine xr_calli (vx_runV (As := [.int (((-1)) - (nI k))]) (rest := []) ⟨hx, hb, hml, hown, hts⟩ (c_X5_refused l hfl D cy ad σ er ofd de bo ql qs tv ((((-1)) - (nI k))) H.size) (cwV 1 hts gL_areProducts_X5_refused rfl rfl rfl hdX5_refused ⟨Nat.le_of_ble_eq_true rfl, Nat.le_of_ble_eq_true rfl⟩) (xo_preV hK rfl (mcr hP) (hD.subl (List.sublist_append_right _ _)) hXW (hXZ.at hS hD hA (fun _ hq => List.mem_append_right _ hq)) (va_recv hK.1 (mcr hP) (ci := 5) (q0 := 0) rfl rfl)) rfl rfl hl.1 rfl (lv_room (Nat.le_of_ble_eq_true rfl)) dL_areProducts_200 ⟨(by show 23 + k + 1 ≤ 30; omega), (by show 138 + 6 * k + 6 ≤ 200; omega)⟩) hS hP hD hA (fun E h => h.1 (m1k c188).1) (fun z200 u200 H locs hz200 hP hD hS => ?_)
              obtain ⟨-, hz200⟩ := hz200
              rw [(m1k c188).2, cN_nI (by omega)] at hz200
              subst hz200
              have hP : va_P D vwCl (MC cy ap ah ab ag pf hf bf gf ei ++ WG ad cy (σ 0 0) (σ 0 3) σ er ofd de bo ql qs tv) H := hP
              have hD : va_D A (MC cy ap ah ab ag pf hf bf gf ei ++ WG ad cy (σ 0 0) (σ 0 3) σ er ofd de bo ql qs tv) := hD
              refine lv_aload_n hx hb dL_areProducts_203 rfl (lv_at hl 2 rfl) ?_
              refine lv_bipush (v := nI 7) hx hb dL_areProducts_204 (by decide) ?_
              refine lv_iload hx hb dL_areProducts_206 (lv_at hl 4 rfl) ?_
              refine ln_iadd hx hb dL_areProducts_208 (fun z208 hz208 => ?_)
              refine mg_ld (v := σ 15 (k + 1)) hx hb hK (mcl hP) (by omega) (hM.gr (w := k + 1) (by omega) (by omega) (by omega)) dL_areProducts_209 ?_
              refine lv_icmp_ne (tgt := 217) hx hb dL_areProducts_210 (by decide) (fun c210 => absurd rfl c210) (fun c210 => ?_)
              refine lv_iconst (v := nI 1) hx hb dL_areProducts_213 (by decide) ?_
              refine lv_goto (tgt := 218) hx hb dL_areProducts_214 (by decide) ?_
              refine lv_istore_n (lv' := [(3, .int (nI 1)), (0, .ref ((ad 0 0))), (1, .ref ap), (2, .ref ag), (4, .int (nI k))]) hx hb dL_areProducts_218 rfl hl (by decide) rfl (fun ls hl => ?_)
              obtain ⟨z219, hz219⟩ : ∃ z : Nat, z = k + 1 := ⟨_, rfl⟩
              refine lv_iinc (v := nI z219) (lv' := [(4, .int (nI z219)), (3, .int (nI 1)), (0, .ref ((ad 0 0))), (1, .ref ap), (2, .ref ag)]) hx hb dL_areProducts_219 hl (k := 4) rfl (by rw [hz219]; exact nI_add _ 1) (by decide) rfl (fun ls hl => ?_)
              refine lv_goto (tgt := 185) hx hb dL_areProducts_222 (by decide) ?_
              refine W.widen (k := 23 + z219) (n := 138 + 6 * z219) (by omega) (by omega) ?_
              exact ih185 z219 (by omega) (by omega) H locs hP hD hS ls (lv_sub hl [2, 3, 4, 1, 0] rfl)
        refine lv_istore (lv' := [(4, .int (nI 0)), (0, .ref ((ad 0 0))), (1, .ref ap), (2, .ref ag), (3, .int (nI 1))]) hx hb dL_areProducts_183 hl (by decide) rfl (fun ls hl => ?_)
        refine W.widen (k := 23 + 0) (n := 138 + 6 * 0) (by omega) (by omega) ?_
        exact K185 _ 0 (Nat.lt_succ_self _) (by omega) H locs hP hD hS ls (lv_sub hl [1, 2, 3, 4, 0] rfl)
      · skip
        have K120 : ∀ (v : UInt32), (v = avg σ k) → ∀ (H : Heap) (locs : List Loc), va_P D vwCl (MC cy ap ah ab ag pf hf bf gf ei ++ WG ad cy (σ 0 0) (σ 0 3) σ er ofd de bo ql qs tv) H → va_D A (MC cy ap ah ab ag pf hf bf gf ei ++ WG ad cy (σ 0 0) (σ 0 3) σ er ofd de bo ql qs tv) → va_S A H0 H locs → ∀ ls : Array Slot, lv_has ls 6 [(0, .ref ((ad 0 0))), (1, .ref ap), (2, .ref ag), (3, .int (nI 1)), (4, .int (nI k))] → W p l e rmL_areProducts s m args below meth c H locs (5 + 3 * k) (30 + 18 * k) Q (F0 m 120 ls [.float v]) := by
          intro v hv H locs hP hD hS ls hl
          refine lv_fstore (lv' := [(5, .float v), (0, .ref ((ad 0 0))), (1, .ref ap), (2, .ref ag), (3, .int (nI 1)), (4, .int (nI k))]) hx hb dL_areProducts_120 hl (by decide) rfl (fun ls hl => ?_)
          refine lv_aload_n hx hb dL_areProducts_122 rfl (lv_at hl 1 rfl) ?_
          refine lv_iload hx hb dL_areProducts_123 (lv_at hl 5 rfl) ?_
          refine xr_calli (vx_runV (As := [.int (nI k)]) (rest := []) ⟨hx, hb, hml, hown, hts⟩ (c_X5_expected l hfl D cy ad σ er ofd de bo ql qs tv hof hI ((nI k)) H.size) (cwV 1 hts gL_areProducts_X5_expected rfl rfl rfl hdX5_expected ⟨Nat.le_of_ble_eq_true rfl, Nat.le_of_ble_eq_true rfl⟩) (xo_preV hK rfl (mcr hP) (hD.subl (List.sublist_append_right _ _)) hXW (hXZ.at hS hD hA (fun _ hq => List.mem_append_right _ hq)) (va_recv hK.1 (mcr hP) (ci := 5) (q0 := 0) rfl rfl)) rfl rfl hl.1 rfl (lv_room (Nat.le_of_ble_eq_true rfl)) dL_areProducts_125 ⟨(by show 5 + 3 * k + 1 ≤ 30; omega), (by show 30 + 18 * k + 6 ≤ 200; omega)⟩) hS hP hD hA (fun E h => h.1 (isP_i c88)) (fun z125 u125 H locs hz125 hP hD hS => ?_)
          obtain ⟨-, hz125⟩ := hz125
          rw [cN_nI (by omega)] at hz125
          subst hz125
          have hP : va_P D vwCl (MC cy ap ah ab ag pf hf bf gf ei ++ WG ad cy (σ 0 0) (σ 0 3) σ er ofd de bo ql qs tv) H := hP
          have hD : va_D A (MC cy ap ah ab ag pf hf bf gf ei ++ WG ad cy (σ 0 0) (σ 0 3) σ er ofd de bo ql qs tv) := hD
          refine lv_aload_n hx hb dL_areProducts_128 rfl (lv_at hl 2 rfl) ?_
          refine lv_bipush (v := nI 6) hx hb dL_areProducts_129 (by decide) ?_
          refine lv_iload hx hb dL_areProducts_131 (lv_at hl 5 rfl) ?_
          refine ln_imul hx hb dL_areProducts_133 (fun z133 hz133 => ?_)
          refine lv_iconst (v := nI 3) hx hb dL_areProducts_134 (by decide) ?_
          refine ln_iadd hx hb dL_areProducts_135 (fun z135 hz135 => ?_)
          refine mp_ld (v := σ 6 k) hx hb hK (mcl hP) (by omega) (hM.p3 c88 (by omega)) dL_areProducts_136 ?_
          refine lv_icmp_ne (tgt := 174) hx hb dL_areProducts_137 (by decide) (fun c137 => absurd rfl c137) (fun c137 => ?_)
          refine lv_aload_n hx hb dL_areProducts_140 rfl (lv_at hl 1 rfl) ?_
          refine lv_iload hx hb dL_areProducts_141 (lv_at hl 5 rfl) ?_
          refine xr_calli (vx_runV (As := [.int (nI k)]) (rest := []) ⟨hx, hb, hml, hown, hts⟩ (c_X5_asked l hfl D cy ad σ er ofd de bo ql qs tv hof hI ((nI k)) H.size) (cwV 1 hts gL_areProducts_X5_asked rfl rfl rfl hdX5_asked ⟨Nat.le_of_ble_eq_true rfl, Nat.le_of_ble_eq_true rfl⟩) (xo_preV hK rfl (mcr hP) (hD.subl (List.sublist_append_right _ _)) hXW (hXZ.at hS hD hA (fun _ hq => List.mem_append_right _ hq)) (va_recv hK.1 (mcr hP) (ci := 5) (q0 := 0) rfl rfl)) rfl rfl hl.1 rfl (lv_room (Nat.le_of_ble_eq_true rfl)) dL_areProducts_143 ⟨(by show 5 + 3 * k + 1 + 1 ≤ 30; omega), (by show 30 + 18 * k + 6 + 6 ≤ 200; omega)⟩) hS hP hD hA (fun E h => h.1 (isP_i c88)) (fun z143 u143 H locs hz143 hP hD hS => ?_)
          obtain ⟨-, hz143⟩ := hz143
          rw [cN_nI (by omega)] at hz143
          subst hz143
          have hP : va_P D vwCl (MC cy ap ah ab ag pf hf bf gf ei ++ WG ad cy (σ 0 0) (σ 0 3) σ er ofd de bo ql qs tv) H := hP
          have hD : va_D A (MC cy ap ah ab ag pf hf bf gf ei ++ WG ad cy (σ 0 0) (σ 0 3) σ er ofd de bo ql qs tv) := hD
          refine lv_aload_n hx hb dL_areProducts_146 rfl (lv_at hl 2 rfl) ?_
          refine lv_bipush (v := nI 6) hx hb dL_areProducts_147 (by decide) ?_
          refine lv_iload hx hb dL_areProducts_149 (lv_at hl 5 rfl) ?_
          refine ln_imul hx hb dL_areProducts_151 (fun z151 hz151 => ?_)
          refine lv_iconst (v := nI 4) hx hb dL_areProducts_152 (by decide) ?_
          refine ln_iadd hx hb dL_areProducts_153 (fun z153 hz153 => ?_)
          refine mp_ld (v := σ 7 k) hx hb hK (mcl hP) (by omega) (hM.p4 c88 (by omega)) dL_areProducts_154 ?_
          refine lv_icmp_ne (tgt := 174) hx hb dL_areProducts_155 (by decide) (fun c155 => absurd rfl c155) (fun c155 => ?_)
          refine lv_aload_n hx hb dL_areProducts_158 rfl (lv_at hl 1 rfl) ?_
          refine lv_iload hx hb dL_areProducts_159 (lv_at hl 5 rfl) ?_
          refine xr_callf (vx_runV (As := [.int (nI k)]) (rest := []) ⟨hx, hb, hml, hown, hts⟩ (c_X5_average l hfl D cy ad σ er ofd de bo ql qs tv hof hI ((nI k)) H.size) (cwV 1 hts gL_areProducts_X5_average rfl rfl rfl hdX5_average ⟨Nat.le_of_ble_eq_true rfl, Nat.le_of_ble_eq_true rfl⟩) (xo_preV hK rfl (mcr hP) (hD.subl (List.sublist_append_right _ _)) hXW (hXZ.at hS hD hA (fun _ hq => List.mem_append_right _ hq)) (va_recv hK.1 (mcr hP) (ci := 5) (q0 := 0) rfl rfl)) rfl rfl hl.1 rfl (lv_room (Nat.le_of_ble_eq_true rfl)) dL_areProducts_161 ⟨(by show 5 + 3 * k + 1 + 1 + 1 ≤ 30; omega), (by show 30 + 18 * k + 6 + 6 + 6 ≤ 200; omega)⟩) hS hP hD hA (fun E h => h.1 (isP_i c88)) (fun z161 u161 H locs hz161 hP hD hS => ?_)
          obtain ⟨-, hz161⟩ := hz161
          rw [cN_nI (by omega)] at hz161
          have hP : va_P D vwCl (MC cy ap ah ab ag pf hf bf gf ei ++ WG ad cy (σ 0 0) (σ 0 3) σ er ofd de bo ql qs tv) H := hP
          have hD : va_D A (MC cy ap ah ab ag pf hf bf gf ei ++ WG ad cy (σ 0 0) (σ 0 3) σ er ofd de bo ql qs tv) := hD
          refine lv_fload hx hb dL_areProducts_164 (lv_at hl 0 rfl) ?_
          refine lw_fcmpne (tgt := 174) hx hb (hz161.trans hv.symm) (by rw [hv]; exact avg_nan (by omega)) dL_areProducts_166 dL_areProducts_167 (by decide) ?_
          refine lv_iconst (v := nI 1) hx hb dL_areProducts_170 (by decide) ?_
          refine lv_goto (tgt := 175) hx hb dL_areProducts_171 (by decide) ?_
          refine lv_istore_n (lv' := [(3, .int (nI 1)), (5, .float v), (0, .ref ((ad 0 0))), (1, .ref ap), (2, .ref ag), (4, .int (nI k))]) hx hb dL_areProducts_175 rfl hl (by decide) rfl (fun ls hl => ?_)
          obtain ⟨z176, hz176⟩ : ∃ z : Nat, z = k + 1 := ⟨_, rfl⟩
          refine lv_iinc (v := nI z176) (lv' := [(4, .int (nI z176)), (3, .int (nI 1)), (5, .float v), (0, .ref ((ad 0 0))), (1, .ref ap), (2, .ref ag)]) hx hb dL_areProducts_176 hl (k := 5) rfl (by rw [hz176]; exact nI_add _ 1) (by decide) rfl (fun ls hl => ?_)
          refine lv_goto (tgt := 83) hx hb dL_areProducts_179 (by decide) ?_
          refine W.widen (k := 5 + 3 * z176) (n := 30 + 18 * z176) (by omega) (by omega) ?_
          exact ih83 z176 (by omega) (by omega) H locs hP hD hS ls (lv_sub hl [3, 4, 5, 1, 0] rfl)
        refine lv_iload_n hx hb dL_areProducts_91 rfl (lv_at hl 3 rfl) ?_
        refine lv_if_eq (tgt := 182) hx hb dL_areProducts_92 (by decide) (fun q => by first | exact absurd q (by decide) | exact absurd (by decide) q) (fun _ => ?_)
        refine lv_aload_n hx hb dL_areProducts_95 rfl (lv_at hl 2 rfl) ?_
        refine lv_iconst (v := nI 5) hx hb dL_areProducts_96 (by decide) ?_
        refine mg_ld (v := σ 0 1) hx hb hK (mcl hP) (by omega) hM.g5 dL_areProducts_97 ?_
        refine ln_if_ne (tgt := 105) hx hb (by omega) dL_areProducts_98 (by decide) (fun c98 => ?_) (fun c98 => ?_)
        · skip
          refine lv_aload_n hx hb dL_areProducts_105 rfl (lv_at hl 1 rfl) ?_
          refine lv_bipush (v := nI 6) hx hb dL_areProducts_106 (by decide) ?_
          refine lv_iload hx hb dL_areProducts_108 (lv_at hl 4 rfl) ?_
          refine ln_imul hx hb dL_areProducts_110 (fun z110 hz110 => ?_)
          refine lv_iconst (v := nI 5) hx hb dL_areProducts_111 (by decide) ?_
          refine ln_iadd hx hb dL_areProducts_112 (fun z112 hz112 => ?_)
          refine mp_ld (v := σ 8 k) hx hb hK (mcl hP) (by omega) (hM.p5 c88 (by omega)) dL_areProducts_113 ?_
          refine lv_i2f hx hb dL_areProducts_114 ?_
          refine lv_aload_n hx hb dL_areProducts_115 rfl (lv_at hl 2 rfl) ?_
          refine lv_iconst (v := nI 5) hx hb dL_areProducts_116 (by decide) ?_
          refine mg_ld (v := σ 0 1) hx hb hK (mcl hP) (by omega) hM.g5 dL_areProducts_117 ?_
          refine lv_i2f hx hb dL_areProducts_118 ?_
          refine lv_fdiv hx hb dL_areProducts_119 (vf_of32 (avg_nn (by omega) (by omega))) ?_
          exact K120 (FP.fdiv (FP.i2f ((nI (σ 8 k)))) (FP.i2f ((nI (σ 0 1))))) (by unfold avg; rw [if_neg c98]) H locs hP hD hS ls (lv_sub hl [0, 1, 2, 3, 4] rfl)
        · skip
          refine lv_fconst0 hx hb dL_areProducts_101 ?_
          refine lv_goto (tgt := 120) hx hb dL_areProducts_102 (by decide) ?_
          exact K120 FP.fconst0 (by unfold avg; rw [if_pos c98]) H locs hP hD hS ls (lv_sub hl [0, 1, 2, 3, 4] rfl)
  refine lv_istore (lv' := [(4, .int (nI 0)), (3, .int (nI 1)), (0, .ref ((ad 0 0))), (1, .ref ap), (2, .ref ag)]) hx hb dL_areProducts_81 hl (by decide) rfl (fun ls hl => ?_)
  refine W.widen (k := 5 + 3 * 0) (n := 30 + 18 * 0) (by omega) (by omega) ?_
  exact K83 _ 0 (Nat.lt_succ_self _) (Nat.zero_le _) H locs hP hD hS ls (lv_sub hl [2, 3, 4, 1, 0] rfl)
