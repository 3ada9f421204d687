set_option maxHeartbeats 8000000 in
set_option maxRecDepth 100000 in
theorem law_main {p : Program} {l : Launch} {e : Env} {s : State} {m : MethodId} {args : Array Value} {below : List Frame} {meth : Method} {c : Code} {D : va_G} {cy : Nat → ClassId} {b L : Nat} {xs : Nat → Int32} {Q : State → Prop} {A : Nat → Prop} {H0 : Heap} (hfl : l.stackTraces = false) (hx : p.tables.exec = Jvm.exec) (hb : c.code = cL_law) (hml : c.maxLocals = 8) (hown : s.vm.findClass RL = some m.cls) (hts : ∀ w ∈ wsL_law, w.before args s = true) (hK : KW D cy s) (hXW : XW s) (hXZ : XZ A s H0) (hX : va_X b L xs s H0) (hbl : b < H0.size) (hbA : ¬ A b) (hA : ∀ q, H0.size ≤ q → A q) (hAs : ∀ q, A q → s.heap.size ≤ q) (hL : L ≤ 260)
    (hend : ∀ (H : Heap) (ls : Array Slot), W p l e room_1 s m args below meth c H [] 600104 7301314 Q (F0 m 319 ls [.int (nI 1)])) (ap ah ab ag ad0 : Nat) (ad : Nat → Nat → Nat) (σ : SF) (er : Int64) (ofd : Nat → Option Nat) (de : Nat → Option Nat) (bo : Nat → Option Nat) (ql : Nat → Nat) (qs : Nat → Nat → Nat) (tv : Nat → Nat) (pf : Nat → Nat) (hf : Nat → Nat) (bf : Nat → Nat) (gf : Nat → Nat) (ei : Int32) (h0 : ad 0 0 = ad0) (hI : Iv 0 σ) (hof : OF ad σ ofd) (hbo : BO ad σ bo) {dl : List Nat} (hDL : DL ad σ de dl) (hQZ : QZ qs) (hM : MR σ pf hf bf gf) (hE : EM σ er ei) (H : Heap) (locs : List Loc) (hP : va_P D vwCl (MC cy ap ah ab ag pf hf bf gf ei ++ WG ad cy (σ 0 0) (σ 0 3) σ er ofd de bo ql qs tv) H) (hD : va_D A (MC cy ap ah ab ag pf hf bf gf ei ++ WG ad cy (σ 0 0) (σ 0 3) σ er ofd de bo ql qs tv)) (hS : va_S A H0 H locs) (ls : Array Slot) (hl : lv_has ls 8 [(0, .ref b), (1, .ref ((ad 0 0))), (2, .ref ap), (3, .ref ah), (4, .ref ab), (5, .ref ag)]) : W p l e room_1 s m args below meth c H locs 60 2000 Q (F0 m 36 ls []) := by
  have hnp := hM.np
  refine lv_aload_n hx hb dL_law_36 rfl (lv_at hl 1 rfl) ?_
  refine lv_aload_n hx hb dL_law_37 rfl (lv_at hl 2 rfl) ?_
  refine lv_aload_n hx hb dL_law_38 rfl (lv_at hl 3 rfl) ?_
  refine lv_aload hx hb dL_law_39 (lv_at hl 4 rfl) ?_
  refine lv_aload hx hb dL_law_41 (lv_at hl 5 rfl) ?_
  refine lv_iconst (v := nI 1) hx hb dL_law_43 (by decide) ?_
  refine mw_calli (va_runS (As := [.ref ((ad 0 0)), .ref ap, .ref ah, .ref ab, .ref ag, .int (nI 1)]) (rest := []) ⟨hx, hb, hml, hown, hts⟩ (c_L_areLegs l hfl D cy ap ah ab ag pf hf bf gf ei ad σ er ofd de bo ql qs tv hI hof hbo hDL hQZ hM hE 1 (by omega) (by omega) H.size) (va_cwS 6 hts gL_law_L_areLegs rfl rfl rfl hdL_areLegs.2 ⟨Nat.le_of_ble_eq_true rfl, Nat.le_of_ble_eq_true rfl⟩) (xo_preS hK rfl hP hD hXW (hXZ.at hS hD hA (fun _ hq => hq))) rfl rfl hl.1 rfl (lv_room (Nat.le_of_ble_eq_true rfl)) dL_law_44 ⟨(by show 60 + 24 ≤ 600104; omega), (by show 2000 + 150 ≤ 7301314; omega)⟩) hS hD hA (fun z44 u44 H locs h44 hP hD hS => ?_)
  obtain ⟨ql, qs, tv⟩ := u44
  obtain ⟨rfl, hQZ⟩ := h44
  have hQZ : QZ qs := hQZ
  have hP : va_P D vwCl (MC cy ap ah ab ag pf hf bf gf ei ++ WG ad cy (σ 0 0) (σ 0 3) σ er ofd de bo ql qs tv) H := hP
  have hD : va_D A (MC cy ap ah ab ag pf hf bf gf ei ++ WG ad cy (σ 0 0) (σ 0 3) σ er ofd de bo ql qs tv) := hD
  refine lv_if_eq (tgt := 64) hx hb dL_law_47 (by decide) (fun q => by first | exact absurd q (by decide) | exact absurd (by decide) q) (fun _ => ?_)
  refine lv_aload_n hx hb dL_law_50 rfl (lv_at hl 1 rfl) ?_
  refine lv_aload_n hx hb dL_law_51 rfl (lv_at hl 2 rfl) ?_
  refine lv_aload hx hb dL_law_52 (lv_at hl 5 rfl) ?_
  refine mw_calli (va_runS (As := [.ref ((ad 0 0)), .ref ap, .ref ag]) (rest := []) ⟨hx, hb, hml, hown, hts⟩ (c_L_areProducts l hfl D cy ap ah ab ag pf hf bf gf ei ad σ er ofd de bo ql qs tv hI hof hbo hDL hQZ hM hE H.size) (va_cwS 3 hts gL_law_L_areProducts rfl rfl rfl hdL_areProducts.2 ⟨Nat.le_of_ble_eq_true rfl, Nat.le_of_ble_eq_true rfl⟩) (xo_preS hK rfl hP hD hXW (hXZ.at hS hD hA (fun _ hq => hq))) rfl rfl hl.1 rfl (lv_room (Nat.le_of_ble_eq_true rfl)) dL_law_54 ⟨(by show 60 + 24 + 30 ≤ 600104; omega), (by show 2000 + 150 + 200 ≤ 7301314; omega)⟩) hS hD hA (fun z54 u54 H locs h54 hP hD hS => ?_)
  obtain rfl : z54 = nI 1 := h54
  have hP : va_P D vwCl (MC cy ap ah ab ag pf hf bf gf ei ++ WG ad cy (σ 0 0) (σ 0 3) σ er ofd de bo ql qs tv) H := hP
  have hD : va_D A (MC cy ap ah ab ag pf hf bf gf ei ++ WG ad cy (σ 0 0) (σ 0 3) σ er ofd de bo ql qs tv) := hD
  refine lv_if_eq (tgt := 64) hx hb dL_law_57 (by decide) (fun q => by first | exact absurd q (by decide) | exact absurd (by decide) q) (fun _ => ?_)
  refine lv_iconst (v := nI 1) hx hb dL_law_60 (by decide) ?_
  refine lv_goto (tgt := 65) hx hb dL_law_61 (by decide) ?_
  refine lv_istore (lv' := [(6, .int (nI 1)), (0, .ref b), (1, .ref ((ad 0 0))), (2, .ref ap), (3, .ref ah), (4, .ref ab), (5, .ref ag)]) hx hb dL_law_65 hl (by decide) rfl (fun ls hl => ?_)
  refine lv_iconst (v := nI 0) hx hb dL_law_67 (by decide) ?_
  rw [h0] at hl
  have K70 : ∀ (n70 : Nat) (k : Nat) (ad : Nat → Nat → Nat) (σ : SF) (er : Int64) (ofd : Nat → Option Nat) (de : Nat → Option Nat) (bo : Nat → Option Nat) (ql : Nat → Nat) (qs : Nat → Nat → Nat) (tv : Nat → Nat) (pf : Nat → Nat) (hf : Nat → Nat) (bf : Nat → Nat) (gf : Nat → Nat) (ei : Int32), 58 - k < n70 → (k ≤ 58) → (ad 0 0 = ad0) → (Iv k σ) → (OF ad σ ofd) → (BO ad σ bo) → (∃ dl, DL ad σ de dl) → (QZ qs) → (MR σ pf hf bf gf) → (EM σ er ei) → ∀ (H : Heap) (locs : List Loc), va_P D vwCl (MC cy ap ah ab ag pf hf bf gf ei ++ WG ad cy (σ 0 0) (σ 0 3) σ er ofd de bo ql qs tv) H → va_D A (MC cy ap ah ab ag pf hf bf gf ei ++ WG ad cy (σ 0 0) (σ 0 3) σ er ofd de bo ql qs tv) → va_S A H0 H locs → ∀ ls : Array Slot, lv_has ls 8 [(0, .ref b), (1, .ref ad0), (2, .ref ap), (3, .ref ah), (4, .ref ab), (5, .ref ag), (6, .int (nI 1)), (7, .int (nI k))] → W p l e room_1 s m args below meth c H locs (200 + 62 * k) (3000 + 430 * k) Q (F0 m 70 ls []) := by
    intro n70
    induction n70 with
    | zero =>
      intro k ad σ er ofd de bo ql qs tv pf hf bf gf ei hfu
      exact absurd hfu (Nat.not_lt_zero _)
    | succ n70 ih70 =>
      intro k ad σ er ofd de bo ql qs tv pf hf bf gf ei hfu hk h0 hI hof hbo hDL hQZ hM hE H locs hP hD hS ls hl
      obtain ⟨dl, hDL⟩ := hDL
      have hnp := hM.np
      have hnb := hM.nb
      refine lv_iload hx hb dL_law_70 (lv_at hl 7 rfl) ?_
      rw [← h0] at hl
      refine lv_bipush (v := nI 58) hx hb dL_law_72 (by decide) ?_
      refine ln_icmp_ge (tgt := 151) hx hb (by omega) (by omega) dL_law_74 (by decide) (fun c74 => ?_) (fun c74 => ?_)
      · skip
        refine lv_iload hx hb dL_law_151 (lv_at hl 6 rfl) ?_
        refine lv_if_eq (tgt := 318) hx hb dL_law_153 (by decide) (fun q => by first | exact absurd q (by decide) | exact absurd (by decide) q) (fun _ => ?_)
        refine lv_aload_n hx hb dL_law_156 rfl (lv_at hl 1 rfl) ?_
        refine lv_iconst (v := nI 0) hx hb dL_law_157 (by decide) ?_
        refine lv_iconst (v := -1) hx hb dL_law_158 (by decide) ?_
        refine lv_iconst (v := nI 0) hx hb dL_law_159 (by decide) ?_
        refine lv_iconst (v := nI 0) hx hb dL_law_160 (by decide) ?_
        refine lv_iconst (v := nI 0) hx hb dL_law_161 (by decide) ?_
        refine ap_calli (vx_runSW (As := [.ref ((ad 0 0)), .int (nI 0), .int ((-1)), .int (nI 0), .int (nI 0), .int (nI 0)]) (rest := []) ⟨hx, hb, hml, hown, hts⟩ (c_L_does_0 l hfl D cy ad σ er ofd de bo ql qs tv (((-1))) ((nI 0)) ((nI 0)) ((nI 0)) H.size) (vx_cwSW 6 hts gL_law_L_does rfl rfl rfl hdL_does.2 ⟨Nat.le_of_ble_eq_true rfl, Nat.le_of_ble_eq_true rfl⟩) (xo_preS hK rfl (mcr hP) (hD.subl (List.sublist_append_right _ _)) hXW (hXZ.at hS hD hA (fun _ hq => List.mem_append_right _ hq))) rfl rfl hl.1 rfl (lv_room (Nat.le_of_ble_eq_true rfl)) dL_law_162 ⟨(by show 200 + 62 * k + 2 ≤ 600104; omega), (by show 3000 + 430 * k + 28 ≤ 7301314; omega)⟩) hS hP hD hA (fun z162 u162 H locs hz162 hP hD hS => ?_)
        obtain ⟨rfl, rfl⟩ := pD_ia hz162 (fun r t h => okR_m1 h.1.1) (fun E h => h.2)
        have hP : va_P D vwCl (MC cy ap ah ab ag pf hf bf gf ei ++ WG ad cy (σ 0 0) (σ 0 3) σ er ofd de bo ql qs tv) H := hP
        have hD : va_D A (MC cy ap ah ab ag pf hf bf gf ei ++ WG ad cy (σ 0 0) (σ 0 3) σ er ofd de bo ql qs tv) := hD
        refine lv_bipush (v := -20) hx hb dL_law_165 (by decide) ?_
        refine lv_icmp_ne (tgt := 318) hx hb dL_law_167 (by decide) (fun c167 => absurd rfl c167) (fun c167 => ?_)
        refine lv_aload_n hx hb dL_law_170 rfl (lv_at hl 1 rfl) ?_
        refine lv_iconst (v := nI 1) hx hb dL_law_171 (by decide) ?_
        refine lv_iconst (v := -1) hx hb dL_law_172 (by decide) ?_
        refine lv_iconst (v := nI 0) hx hb dL_law_173 (by decide) ?_
        refine lv_iconst (v := nI 0) hx hb dL_law_174 (by decide) ?_
        refine lv_iconst (v := nI 0) hx hb dL_law_175 (by decide) ?_
        refine ap_calli (vx_runSW (As := [.ref ((ad 0 0)), .int (nI 1), .int ((-1)), .int (nI 0), .int (nI 0), .int (nI 0)]) (rest := []) ⟨hx, hb, hml, hown, hts⟩ (c_L_does_1 l hfl D cy ad σ er ofd de bo ql qs tv hof hI hDL (((-1))) ((nI 0)) ((nI 0)) ((nI 0)) H.size) (vx_cwSW 6 hts gL_law_L_does rfl rfl rfl hdL_does.2 ⟨Nat.le_of_ble_eq_true rfl, Nat.le_of_ble_eq_true rfl⟩) (xo_preS hK rfl (mcr hP) (hD.subl (List.sublist_append_right _ _)) hXW (hXZ.at hS hD hA (fun _ hq => List.mem_append_right _ hq))) rfl rfl hl.1 rfl (lv_room (Nat.le_of_ble_eq_true rfl)) dL_law_176 ⟨(by show 200 + 62 * k + 2 + 2 ≤ 600104; omega), (by show 3000 + 430 * k + 28 + 28 ≤ 7301314; omega)⟩) hS hP hD hA (fun z176 u176 H locs hz176 hP hD hS => ?_)
        obtain ⟨rfl, rfl⟩ := pD_io hz176 (fun r t h => okR_m1 h.1.1) (fun E h => by rcases h with ⟨-, h⟩ | ⟨h1, -⟩ | ⟨h1, -⟩; exact h; exact absurd h1 (fun w => absurd w.1 okR_m1); exact absurd h1 (fun w => absurd w.1 okR_m1))
        have hP : va_P D vwCl (MC cy ap ah ab ag pf hf bf gf ei ++ WG ad cy (σ 0 0) (σ 0 3) σ er ofd de bo ql qs tv) H := hP
        have hD : va_D A (MC cy ap ah ab ag pf hf bf gf ei ++ WG ad cy (σ 0 0) (σ 0 3) σ er ofd de bo ql qs tv) := hD
        refine lv_bipush (v := -30) hx hb dL_law_179 (by decide) ?_
        refine lv_icmp_ne (tgt := 318) hx hb dL_law_181 (by decide) (fun c181 => absurd rfl c181) (fun c181 => ?_)
        refine lv_aload_n hx hb dL_law_184 rfl (lv_at hl 1 rfl) ?_
        refine lv_iconst (v := nI 2) hx hb dL_law_185 (by decide) ?_
        refine lv_bipush (v := nI 8) hx hb dL_law_186 (by decide) ?_
        refine lv_bipush (v := nI 21) hx hb dL_law_188 (by decide) ?_
        refine lv_iconst (v := nI 0) hx hb dL_law_190 (by decide) ?_
        refine lv_iconst (v := nI 0) hx hb dL_law_191 (by decide) ?_
        refine ap_calli (vx_runSW (As := [.ref ((ad 0 0)), .int (nI 2), .int (nI 8), .int (nI 21), .int (nI 0), .int (nI 0)]) (rest := []) ⟨hx, hb, hml, hown, hts⟩ (c_L_does_2 l hfl D cy ad σ er ofd de bo ql qs tv hof hI ((nI 8)) ((nI 21)) ((nI 0)) ((nI 0)) H.size) (vx_cwSW 6 hts gL_law_L_does rfl rfl rfl hdL_does.2 ⟨Nat.le_of_ble_eq_true rfl, Nat.le_of_ble_eq_true rfl⟩) (xo_preS hK rfl (mcr hP) (hD.subl (List.sublist_append_right _ _)) hXW (hXZ.at hS hD hA (fun _ hq => List.mem_append_right _ hq))) rfl rfl hl.1 rfl (lv_room (Nat.le_of_ble_eq_true rfl)) dL_law_192 ⟨(by show 200 + 62 * k + 2 + 2 + 2 ≤ 600104; omega), (by show 3000 + 430 * k + 28 + 28 + 28 ≤ 7301314; omega)⟩) hS hP hD hA (fun z192 u192 H locs hz192 hP hD hS => ?_)
        obtain ⟨rfl, rfl⟩ := pD_io hz192 (fun r t h => isP_no (by omega) (by omega) h.1) (fun E h => by rcases h with ⟨-, h⟩ | ⟨h1, -, -⟩; exact h; exact absurd h1 (isP_no (by omega) (by omega)))
        have hP : va_P D vwCl (MC cy ap ah ab ag pf hf bf gf ei ++ WG ad cy (σ 0 0) (σ 0 3) σ er ofd de bo ql qs tv) H := hP
        have hD : va_D A (MC cy ap ah ab ag pf hf bf gf ei ++ WG ad cy (σ 0 0) (σ 0 3) σ er ofd de bo ql qs tv) := hD
        refine lv_bipush (v := -30) hx hb dL_law_195 (by decide) ?_
        refine lv_icmp_ne (tgt := 318) hx hb dL_law_197 (by decide) (fun c197 => absurd rfl c197) (fun c197 => ?_)
        refine lv_aload_n hx hb dL_law_200 rfl (lv_at hl 1 rfl) ?_
        refine lv_iconst (v := nI 3) hx hb dL_law_201 (by decide) ?_
        refine lv_bipush (v := nI 49) hx hb dL_law_202 (by decide) ?_
        refine lv_iconst (v := nI 0) hx hb dL_law_204 (by decide) ?_
        refine lv_iconst (v := nI 0) hx hb dL_law_205 (by decide) ?_
        refine lv_iconst (v := nI 0) hx hb dL_law_206 (by decide) ?_
        refine ap_calli (vx_runSW (As := [.ref ((ad 0 0)), .int (nI 3), .int (nI 49), .int (nI 0), .int (nI 0), .int (nI 0)]) (rest := []) ⟨hx, hb, hml, hown, hts⟩ (c_L_does_3 l hfl D cy ad σ er ofd de bo ql qs tv ((nI 49)) ((nI 0)) ((nI 0)) ((nI 0)) H.size) (vx_cwSW 6 hts gL_law_L_does rfl rfl rfl hdL_does.2 ⟨Nat.le_of_ble_eq_true rfl, Nat.le_of_ble_eq_true rfl⟩) (xo_preS hK rfl (mcr hP) (hD.subl (List.sublist_append_right _ _)) hXW (hXZ.at hS hD hA (fun _ hq => List.mem_append_right _ hq))) rfl rfl hl.1 rfl (lv_room (Nat.le_of_ble_eq_true rfl)) dL_law_207 ⟨(by show 200 + 62 * k + 2 + 2 + 2 + 2 ≤ 600104; omega), (by show 3000 + 430 * k + 28 + 28 + 28 + 28 ≤ 7301314; omega)⟩) hS hP hD hA (fun z207 u207 H locs hz207 hP hD hS => ?_)
        obtain ⟨rfl, rfl⟩ := pD_ia hz207 (fun r t h => okR_lo (by omega) (by omega) h.1) (fun E h => h.2)
        have hP : va_P D vwCl (MC cy ap ah ab ag pf hf bf gf ei ++ WG ad cy (σ 0 0) (σ 0 3) σ er ofd de bo ql qs tv) H := hP
        have hD : va_D A (MC cy ap ah ab ag pf hf bf gf ei ++ WG ad cy (σ 0 0) (σ 0 3) σ er ofd de bo ql qs tv) := hD
        refine lv_bipush (v := -20) hx hb dL_law_210 (by decide) ?_
        refine lv_icmp_ne (tgt := 318) hx hb dL_law_212 (by decide) (fun c212 => absurd rfl c212) (fun c212 => ?_)
        refine lv_aload_n hx hb dL_law_215 rfl (lv_at hl 1 rfl) ?_
        refine lv_iconst (v := nI 4) hx hb dL_law_216 (by decide) ?_
        refine lv_iconst (v := -1) hx hb dL_law_217 (by decide) ?_
        refine lv_iconst (v := nI 0) hx hb dL_law_218 (by decide) ?_
        refine lv_iconst (v := nI 0) hx hb dL_law_219 (by decide) ?_
        refine lv_iconst (v := nI 0) hx hb dL_law_220 (by decide) ?_
        refine ap_calli (vx_runSW (As := [.ref ((ad 0 0)), .int (nI 4), .int ((-1)), .int (nI 0), .int (nI 0), .int (nI 0)]) (rest := []) ⟨hx, hb, hml, hown, hts⟩ (c_L_does_4 l hfl D cy ad σ er ofd de bo ql qs tv hof hbo hI hDL hQZ (show k < 512 by omega) (((-1))) ((nI 0)) ((nI 0)) ((nI 0)) H.size) (vx_cwSW 6 hts gL_law_L_does rfl rfl rfl hdL_does.2 ⟨Nat.le_of_ble_eq_true rfl, Nat.le_of_ble_eq_true rfl⟩) (xo_preS hK rfl (mcr hP) (hD.subl (List.sublist_append_right _ _)) hXW (hXZ.at hS hD hA (fun _ hq => List.mem_append_right _ hq))) rfl rfl hl.1 rfl (lv_room (Nat.le_of_ble_eq_true rfl)) dL_law_221 ⟨(by show 200 + 62 * k + 2 + 2 + 2 + 2 + 2 ≤ 600104; omega), (by show 3000 + 430 * k + 28 + 28 + 28 + 28 + 28 ≤ 7301314; omega)⟩) hS hP hD hA (fun z221 u221 H locs hz221 hP hD hS => ?_)
        obtain ⟨rfl, rfl⟩ := pD_io hz221 (fun r t h => isP_m1 (by omega) h.1) (fun E h => by rcases h with ⟨-, h⟩ | ⟨h1, -⟩; exact h; exact absurd h1 (isP_m1 (by omega)))
        have hP : va_P D vwCl (MC cy ap ah ab ag pf hf bf gf ei ++ WG ad cy (σ 0 0) (σ 0 3) σ er ofd de bo ql qs tv) H := hP
        have hD : va_D A (MC cy ap ah ab ag pf hf bf gf ei ++ WG ad cy (σ 0 0) (σ 0 3) σ er ofd de bo ql qs tv) := hD
        refine lv_bipush (v := -30) hx hb dL_law_224 (by decide) ?_
        refine lv_icmp_ne (tgt := 318) hx hb dL_law_226 (by decide) (fun c226 => absurd rfl c226) (fun c226 => ?_)
        refine lv_aload_n hx hb dL_law_229 rfl (lv_at hl 1 rfl) ?_
        refine lv_iconst (v := nI 5) hx hb dL_law_230 (by decide) ?_
        refine lv_iconst (v := nI 0) hx hb dL_law_231 (by decide) ?_
        refine lv_iconst (v := nI 3) hx hb dL_law_232 (by decide) ?_
        refine lv_iconst (v := nI 0) hx hb dL_law_233 (by decide) ?_
        refine lv_iconst (v := nI 0) hx hb dL_law_234 (by decide) ?_
        refine ap_calli (vx_runSW (As := [.ref ((ad 0 0)), .int (nI 5), .int (nI 0), .int (nI 3), .int (nI 0), .int (nI 0)]) (rest := []) ⟨hx, hb, hml, hown, hts⟩ (c_L_does_5 l hfl D cy ad σ er ofd de bo ql qs tv hbo hI hDL hQZ ((nI 0)) ((nI 3)) ((nI 0)) ((nI 0)) H.size) (vx_cwSW 6 hts gL_law_L_does rfl rfl rfl hdL_does.2 ⟨Nat.le_of_ble_eq_true rfl, Nat.le_of_ble_eq_true rfl⟩) (xo_preS hK rfl (mcr hP) (hD.subl (List.sublist_append_right _ _)) hXW (hXZ.at hS hD hA (fun _ hq => List.mem_append_right _ hq))) rfl rfl hl.1 rfl (lv_room (Nat.le_of_ble_eq_true rfl)) dL_law_235 ⟨(by show 200 + 62 * k + 2 + 2 + 2 + 2 + 2 + 2 ≤ 600104; omega), (by show 3000 + 430 * k + 28 + 28 + 28 + 28 + 28 + 28 ≤ 7301314; omega)⟩) hS hP hD hA (fun z235 u235 H locs hz235 hP hD hS => ?_)
        obtain ⟨rfl, rfl⟩ := pD_io hz235 (fun r t h => okR_no (by omega) (by omega) h.1.2) (fun E h => by rcases h with ⟨-, h⟩ | ⟨h1, -⟩ | ⟨h1, -⟩; exact h; exact absurd h1 (fun w => absurd w.2 (okR_no (by omega) (by omega))); exact absurd h1 (fun w => absurd w.2 (okR_no (by omega) (by omega))))
        have hP : va_P D vwCl (MC cy ap ah ab ag pf hf bf gf ei ++ WG ad cy (σ 0 0) (σ 0 3) σ er ofd de bo ql qs tv) H := hP
        have hD : va_D A (MC cy ap ah ab ag pf hf bf gf ei ++ WG ad cy (σ 0 0) (σ 0 3) σ er ofd de bo ql qs tv) := hD
        refine lv_bipush (v := -30) hx hb dL_law_238 (by decide) ?_
        refine lv_icmp_ne (tgt := 318) hx hb dL_law_240 (by decide) (fun c240 => absurd rfl c240) (fun c240 => ?_)
        refine lv_aload_n hx hb dL_law_243 rfl (lv_at hl 1 rfl) ?_
        refine lv_bipush (v := nI 6) hx hb dL_law_244 (by decide) ?_
        refine lv_bipush (v := nI 60) hx hb dL_law_246 (by decide) ?_
        refine lv_iconst (v := nI 0) hx hb dL_law_248 (by decide) ?_
        refine lv_iconst (v := nI 0) hx hb dL_law_249 (by decide) ?_
        refine lv_iconst (v := nI 0) hx hb dL_law_250 (by decide) ?_
        refine ap_calli (vx_runSW (As := [.ref ((ad 0 0)), .int (nI 6), .int (nI 60), .int (nI 0), .int (nI 0), .int (nI 0)]) (rest := []) ⟨hx, hb, hml, hown, hts⟩ (c_L_does_6 l hfl D cy ad σ er ofd de bo ql qs tv hbo hI ((nI 60)) ((nI 0)) ((nI 0)) ((nI 0)) H.size) (vx_cwSW 6 hts gL_law_L_does rfl rfl rfl hdL_does.2 ⟨Nat.le_of_ble_eq_true rfl, Nat.le_of_ble_eq_true rfl⟩) (xo_preS hK rfl (mcr hP) (hD.subl (List.sublist_append_right _ _)) hXW (hXZ.at hS hD hA (fun _ hq => List.mem_append_right _ hq))) rfl rfl hl.1 rfl (lv_room (Nat.le_of_ble_eq_true rfl)) dL_law_251 ⟨(by show 200 + 62 * k + 2 + 2 + 2 + 2 + 2 + 2 + 2 ≤ 600104; omega), (by show 3000 + 430 * k + 28 + 28 + 28 + 28 + 28 + 28 + 28 ≤ 7301314; omega)⟩) hS hP hD hA (fun z251 u251 H locs hz251 hP hD hS => ?_)
        obtain ⟨rfl, rfl⟩ := pD_io hz251 (fun r t h => isB_no (by omega) (by omega) h.1) (fun E h => by rcases h with ⟨-, h⟩ | ⟨h1, -, -⟩; exact h; exact absurd h1 (isB_no (by omega) (by omega)))
        have hP : va_P D vwCl (MC cy ap ah ab ag pf hf bf gf ei ++ WG ad cy (σ 0 0) (σ 0 3) σ er ofd de bo ql qs tv) H := hP
        have hD : va_D A (MC cy ap ah ab ag pf hf bf gf ei ++ WG ad cy (σ 0 0) (σ 0 3) σ er ofd de bo ql qs tv) := hD
        refine lv_bipush (v := -30) hx hb dL_law_254 (by decide) ?_
        refine lv_icmp_ne (tgt := 318) hx hb dL_law_256 (by decide) (fun c256 => absurd rfl c256) (fun c256 => ?_)
        refine lv_aload_n hx hb dL_law_259 rfl (lv_at hl 1 rfl) ?_
        refine lv_bipush (v := nI 7) hx hb dL_law_260 (by decide) ?_
        refine lv_iconst (v := -1) hx hb dL_law_262 (by decide) ?_
        refine lv_iconst (v := nI 0) hx hb dL_law_263 (by decide) ?_
        refine lv_iconst (v := nI 0) hx hb dL_law_264 (by decide) ?_
        refine lv_iconst (v := nI 0) hx hb dL_law_265 (by decide) ?_
        refine ap_calli (vx_runSW (As := [.ref ((ad 0 0)), .int (nI 7), .int ((-1)), .int (nI 0), .int (nI 0), .int (nI 0)]) (rest := []) ⟨hx, hb, hml, hown, hts⟩ (c_L_does_7 l hfl D cy ad σ er ofd de bo ql qs tv hof hbo hI (show k < 512 by omega) (((-1))) ((nI 0)) ((nI 0)) ((nI 0)) H.size) (vx_cwSW 6 hts gL_law_L_does rfl rfl rfl hdL_does.2 ⟨Nat.le_of_ble_eq_true rfl, Nat.le_of_ble_eq_true rfl⟩) (xo_preS hK rfl (mcr hP) (hD.subl (List.sublist_append_right _ _)) hXW (hXZ.at hS hD hA (fun _ hq => List.mem_append_right _ hq))) rfl rfl hl.1 rfl (lv_room (Nat.le_of_ble_eq_true rfl)) dL_law_266 ⟨(by show 200 + 62 * k + 2 + 2 + 2 + 2 + 2 + 2 + 2 + 2 ≤ 600104; omega), (by show 3000 + 430 * k + 28 + 28 + 28 + 28 + 28 + 28 + 28 + 28 ≤ 7301314; omega)⟩) hS hP hD hA (fun z266 u266 H locs hz266 hP hD hS => ?_)
        obtain ⟨rfl, rfl⟩ := pD_ia hz266 (fun r t h => okR_m1 h.1) (fun E h => h.2)
        have hP : va_P D vwCl (MC cy ap ah ab ag pf hf bf gf ei ++ WG ad cy (σ 0 0) (σ 0 3) σ er ofd de bo ql qs tv) H := hP
        have hD : va_D A (MC cy ap ah ab ag pf hf bf gf ei ++ WG ad cy (σ 0 0) (σ 0 3) σ er ofd de bo ql qs tv) := hD
        refine lv_bipush (v := -20) hx hb dL_law_269 (by decide) ?_
        refine lv_icmp_ne (tgt := 318) hx hb dL_law_271 (by decide) (fun c271 => absurd rfl c271) (fun c271 => ?_)
        refine lv_aload_n hx hb dL_law_274 rfl (lv_at hl 1 rfl) ?_
        refine lv_iconst (v := nI 4) hx hb dL_law_275 (by decide) ?_
        refine lv_iconst (v := nI 0) hx hb dL_law_276 (by decide) ?_
        refine lv_iconst (v := nI 3) hx hb dL_law_277 (by decide) ?_
        refine lv_iconst (v := nI 0) hx hb dL_law_278 (by decide) ?_
        refine ap_calli (vx_runSW (As := [.ref ((ad 0 0)), .int (nI 4), .int (nI 0), .int (nI 3), .int (nI 0)]) (rest := []) ⟨hx, hb, hml, hown, hts⟩ (c_L_asks_4 l hfl D cy ad σ er ofd de bo ql qs tv hbo hI hDL hQZ ((nI 0)) ((nI 3)) ((nI 0)) H.size) (vx_cwSW 5 hts gL_law_L_asks rfl rfl rfl hdL_asks.2 ⟨Nat.le_of_ble_eq_true rfl, Nat.le_of_ble_eq_true rfl⟩) (xo_preS hK rfl (mcr hP) (hD.subl (List.sublist_append_right _ _)) hXW (hXZ.at hS hD hA (fun _ hq => List.mem_append_right _ hq))) rfl rfl hl.1 rfl (lv_room (Nat.le_of_ble_eq_true rfl)) dL_law_279 ⟨(by show 200 + 62 * k + 2 + 2 + 2 + 2 + 2 + 2 + 2 + 2 + 1 ≤ 600104; omega), (by show 3000 + 430 * k + 28 + 28 + 28 + 28 + 28 + 28 + 28 + 28 + 6 ≤ 7301314; omega)⟩) hS hP hD hA (fun z279 u279 H locs hz279 hP hD hS => ?_)
        obtain ⟨rfl, rfl⟩ := pD_io hz279 (fun r t h => okR_no (by omega) (by omega) h.1.2) (fun E h => by rcases h with ⟨-, h⟩ | ⟨h1, -⟩; exact h; exact absurd h1.2 (okR_no (by omega) (by omega)))
        have hP : va_P D vwCl (MC cy ap ah ab ag pf hf bf gf ei ++ WG ad cy (σ 0 0) (σ 0 3) σ er ofd de bo ql qs tv) H := hP
        have hD : va_D A (MC cy ap ah ab ag pf hf bf gf ei ++ WG ad cy (σ 0 0) (σ 0 3) σ er ofd de bo ql qs tv) := hD
        refine lv_bipush (v := -30) hx hb dL_law_282 (by decide) ?_
        refine lv_icmp_ne (tgt := 318) hx hb dL_law_284 (by decide) (fun c284 => absurd rfl c284) (fun c284 => ?_)
        refine lv_aload_n hx hb dL_law_287 rfl (lv_at hl 1 rfl) ?_
        refine lv_iconst (v := nI 4) hx hb dL_law_288 (by decide) ?_
        refine lv_iconst (v := nI 1) hx hb dL_law_289 (by decide) ?_
        refine lv_iconst (v := nI 0) hx hb dL_law_290 (by decide) ?_
        refine lv_iconst (v := nI 1) hx hb dL_law_291 (by decide) ?_
        refine ap_calli (vx_runSW (As := [.ref ((ad 0 0)), .int (nI 4), .int (nI 1), .int (nI 0), .int (nI 1)]) (rest := []) ⟨hx, hb, hml, hown, hts⟩ (c_L_asks_4 l hfl D cy ad σ er ofd de bo ql qs tv hbo hI hDL hQZ ((nI 1)) ((nI 0)) ((nI 1)) H.size) (vx_cwSW 5 hts gL_law_L_asks rfl rfl rfl hdL_asks.2 ⟨Nat.le_of_ble_eq_true rfl, Nat.le_of_ble_eq_true rfl⟩) (xo_preS hK rfl (mcr hP) (hD.subl (List.sublist_append_right _ _)) hXW (hXZ.at hS hD hA (fun _ hq => List.mem_append_right _ hq))) rfl rfl hl.1 rfl (lv_room (Nat.le_of_ble_eq_true rfl)) dL_law_292 ⟨(by show 200 + 62 * k + 2 + 2 + 2 + 2 + 2 + 2 + 2 + 2 + 1 + 1 ≤ 600104; omega), (by show 3000 + 430 * k + 28 + 28 + 28 + 28 + 28 + 28 + 28 + 28 + 6 + 6 ≤ 7301314; omega)⟩) hS hP hD hA (fun z292 u292 H locs hz292 hP hD hS => ?_)
        obtain ⟨rfl, rfl⟩ := pD_ia hz292 (fun r t h => absurd h.2.1.1 (by decide)) (fun E h => by rcases h with ⟨h1, -⟩ | ⟨-, -, h⟩; exact absurd ⟨okR_i (by omega) (by omega) (by omega), okR_i (by omega) (by omega) (by omega)⟩ h1; exact h)
        have hP : va_P D vwCl (MC cy ap ah ab ag pf hf bf gf ei ++ WG ad cy (σ 0 0) (σ 0 3) σ er ofd de bo ql qs tv) H := hP
        have hD : va_D A (MC cy ap ah ab ag pf hf bf gf ei ++ WG ad cy (σ 0 0) (σ 0 3) σ er ofd de bo ql qs tv) := hD
        refine lv_bipush (v := -20) hx hb dL_law_295 (by decide) ?_
        refine lv_icmp_ne (tgt := 318) hx hb dL_law_297 (by decide) (fun c297 => absurd rfl c297) (fun c297 => ?_)
        refine lv_aload_n hx hb dL_law_300 rfl (lv_at hl 1 rfl) ?_
        refine lv_iconst (v := nI 4) hx hb dL_law_301 (by decide) ?_
        refine lv_iconst (v := nI 0) hx hb dL_law_302 (by decide) ?_
        refine lv_iconst (v := nI 0) hx hb dL_law_303 (by decide) ?_
        refine lv_bipush (v := nI 11) hx hb dL_law_304 (by decide) ?_
        refine ap_calli (vx_runSW (As := [.ref ((ad 0 0)), .int (nI 4), .int (nI 0), .int (nI 0), .int (nI 11)]) (rest := []) ⟨hx, hb, hml, hown, hts⟩ (c_L_asks_4 l hfl D cy ad σ er ofd de bo ql qs tv hbo hI hDL hQZ ((nI 0)) ((nI 0)) ((nI 11)) H.size) (vx_cwSW 5 hts gL_law_L_asks rfl rfl rfl hdL_asks.2 ⟨Nat.le_of_ble_eq_true rfl, Nat.le_of_ble_eq_true rfl⟩) (xo_preS hK rfl (mcr hP) (hD.subl (List.sublist_append_right _ _)) hXW (hXZ.at hS hD hA (fun _ hq => List.mem_append_right _ hq))) rfl rfl hl.1 rfl (lv_room (Nat.le_of_ble_eq_true rfl)) dL_law_306 ⟨(by show 200 + 62 * k + 2 + 2 + 2 + 2 + 2 + 2 + 2 + 2 + 1 + 1 + 1 ≤ 600104; omega), (by show 3000 + 430 * k + 28 + 28 + 28 + 28 + 28 + 28 + 28 + 28 + 6 + 6 + 6 ≤ 7301314; omega)⟩) hS hP hD hA (fun z306 u306 H locs hz306 hP hD hS => ?_)
        obtain ⟨rfl, rfl⟩ := pD_ia hz306 (fun r t h => okR_no (by omega) (by omega) h.2.1.2) (fun E h => by rcases h with ⟨h1, -⟩ | ⟨-, -, h⟩; exact absurd ⟨okR_i (by omega) (by omega) (by omega), okR_i (by omega) (by omega) (by omega)⟩ h1; exact h)
        have hP : va_P D vwCl (MC cy ap ah ab ag pf hf bf gf ei ++ WG ad cy (σ 0 0) (σ 0 3) σ er ofd de bo ql qs tv) H := hP
        have hD : va_D A (MC cy ap ah ab ag pf hf bf gf ei ++ WG ad cy (σ 0 0) (σ 0 3) σ er ofd de bo ql qs tv) := hD
        refine lv_bipush (v := -20) hx hb dL_law_309 (by decide) ?_
        refine lv_icmp_ne (tgt := 318) hx hb dL_law_311 (by decide) (fun c311 => absurd rfl c311) (fun c311 => ?_)
        refine lv_iconst (v := nI 1) hx hb dL_law_314 (by decide) ?_
        refine lv_goto (tgt := 319) hx hb dL_law_315 (by decide) ?_
        refine va_forget (fun q hq => hAs _ (hS.2.2 q hq)) ?_
        refine W.widen (k := 600104) (n := 7301314) (by omega) (by omega) ?_
        exact hend H ls
      · skip
        refine lv_iload hx hb dL_law_77 (lv_at hl 6 rfl) ?_
        refine lv_if_eq (tgt := 151) hx hb dL_law_79 (by decide) (fun q => by first | exact absurd q (by decide) | exact absurd (by decide) q) (fun _ => ?_)
        refine lv_aload_n hx hb dL_law_82 rfl (lv_at hl 1 rfl) ?_
        refine lv_aload_n hx hb dL_law_83 rfl (lv_at hl 0 rfl) ?_
        refine lv_iconst (v := nI 4) hx hb dL_law_84 (by decide) ?_
        refine lv_iload hx hb dL_law_85 (lv_at hl 7 rfl) ?_
        refine ln_imul hx hb dL_law_87 (fun z87 hz87 => ?_)
        refine lv_aload_n hx hb dL_law_88 rfl (lv_at hl 2 rfl) ?_
        refine lv_aload_n hx hb dL_law_89 rfl (lv_at hl 3 rfl) ?_
        refine lv_aload hx hb dL_law_90 (lv_at hl 4 rfl) ?_
        refine lv_aload hx hb dL_law_92 (lv_at hl 5 rfl) ?_
        have hXH := sc_kept hX hbl hbA hS
        refine mw_calli (va_runS (As := [.ref ((ad 0 0)), .ref b, .int (nI z87), .ref ap, .ref ah, .ref ab, .ref ag]) (rest := []) ⟨hx, hb, hml, hown, hts⟩ (c_L_isDone l hfl D cy ap ah ab ag pf hf bf gf ei ad σ er ofd de bo ql qs tv hI hof hbo hDL hQZ hM hE b L xs hL z87 (by omega) (by omega) H.size) (va_cwS 7 hts gL_law_L_isDone rfl rfl rfl hdL_isDone.2 ⟨Nat.le_of_ble_eq_true rfl, Nat.le_of_ble_eq_true rfl⟩) (xs_preS hK rfl hP hD hXW (hXZ.at hS hD hA (fun _ hq => hq)) hXH.1 hXH.2) rfl rfl hl.1 rfl (lv_room (Nat.le_of_ble_eq_true rfl)) dL_law_94 ⟨(by show 200 + 62 * k + 8 ≤ 600104; omega), (by show 3000 + 430 * k + 80 ≤ 7301314; omega)⟩) hS hD hA (fun z94 u94 H locs h94 hP hD hS => ?_)
        obtain ⟨rfl, hJ⟩ := h94
        rw [h0] at hJ hl
        obtain ⟨ad, σ, er, ofd, de, bo, ql, qs, tv, pf, hf, bf, gf, ei⟩ := u94
        obtain ⟨h0, hI, hof, hbo, ⟨dl, hDL⟩, hQZ, hM, hE⟩ := hJ
        rw [← h0] at hl
        have hnp := hM.np
        have hP : va_P D vwCl (MC cy ap ah ab ag pf hf bf gf ei ++ WG ad cy (σ 0 0) (σ 0 3) σ er ofd de bo ql qs tv) H := hP
        have hD : va_D A (MC cy ap ah ab ag pf hf bf gf ei ++ WG ad cy (σ 0 0) (σ 0 3) σ er ofd de bo ql qs tv) := hD
        refine lv_if_eq (tgt := 142) hx hb dL_law_97 (by decide) (fun q => by first | exact absurd q (by decide) | exact absurd (by decide) q) (fun _ => ?_)
        refine lv_aload_n hx hb dL_law_100 rfl (lv_at hl 1 rfl) ?_
        refine lv_aload_n hx hb dL_law_101 rfl (lv_at hl 2 rfl) ?_
        refine lv_aload_n hx hb dL_law_102 rfl (lv_at hl 3 rfl) ?_
        refine lv_aload hx hb dL_law_103 (lv_at hl 4 rfl) ?_
        refine lv_aload hx hb dL_law_105 (lv_at hl 5 rfl) ?_
        refine lv_iconst (v := nI 1) hx hb dL_law_107 (by decide) ?_
        refine lv_aload_n hx hb dL_law_108 rfl (lv_at hl 0 rfl) ?_
        refine lv_iconst (v := nI 4) hx hb dL_law_109 (by decide) ?_
        refine lv_iload hx hb dL_law_110 (lv_at hl 7 rfl) ?_
        refine ln_imul hx hb dL_law_112 (fun z112 hz112 => ?_)
        refine lv_iconst (v := nI 1) hx hb dL_law_113 (by decide) ?_
        refine ln_iadd hx hb dL_law_114 (fun z114 hz114 => ?_)
        refine lv_sipush (v := nI 250) hx hb dL_law_115 (by decide) ?_
        have hXH := sc_kept hX hbl hbA hS
        refine ro_calli (va_runS (As := [.ref b, .int (nI z114), .int (nI 250)]) (rest := [.int (nI 1), .ref ag, .ref ab, .ref ah, .ref ap, .ref ((ad 0 0))]) ⟨hx, hb, hml, hown, hts⟩ (c_L_part l b L xs z114 250 hL (by omega) (by omega) (by omega) H) (va_cwS 3 hts gL_law_L_part rfl rfl rfl hdL_part.2 ⟨Nat.le_of_ble_eq_true rfl, Nat.le_of_ble_eq_true rfl⟩) (rx_pre hXH.1 hXH.2) rfl rfl hl.1 rfl (lv_room (Nat.le_of_ble_eq_true rfl)) dL_law_118 ⟨(by show 200 + 62 * k + 8 + 0 ≤ 600104; omega), (by show 3000 + 430 * k + 80 + 0 ≤ 7301314; omega)⟩) (fun r118 h118 => ?_)
        obtain ⟨w118, hw118, rfl⟩ := h118
        refine ln_iadd hx hb dL_law_121 (fun z121 hz121 => ?_)
        refine mw_calli (va_runS (As := [.ref ((ad 0 0)), .ref ap, .ref ah, .ref ab, .ref ag, .int (nI z121)]) (rest := []) ⟨hx, hb, hml, hown, hts⟩ (c_L_areLegs l hfl D cy ap ah ab ag pf hf bf gf ei ad σ er ofd de bo ql qs tv hI hof hbo hDL hQZ hM hE z121 (by omega) (by omega) H.size) (va_cwS 6 hts gL_law_L_areLegs rfl rfl rfl hdL_areLegs.2 ⟨Nat.le_of_ble_eq_true rfl, Nat.le_of_ble_eq_true rfl⟩) (xo_preS hK rfl hP hD hXW (hXZ.at hS hD hA (fun _ hq => hq))) rfl rfl hl.1 rfl (lv_room (Nat.le_of_ble_eq_true rfl)) dL_law_122 ⟨(by show 200 + 62 * k + 8 + 24 ≤ 600104; omega), (by show 3000 + 430 * k + 80 + 150 ≤ 7301314; omega)⟩) hS hD hA (fun z122 u122 H locs h122 hP hD hS => ?_)
        obtain ⟨ql, qs, tv⟩ := u122
        obtain ⟨rfl, hQZ⟩ := h122
        have hQZ : QZ qs := hQZ
        have hP : va_P D vwCl (MC cy ap ah ab ag pf hf bf gf ei ++ WG ad cy (σ 0 0) (σ 0 3) σ er ofd de bo ql qs tv) H := hP
        have hD : va_D A (MC cy ap ah ab ag pf hf bf gf ei ++ WG ad cy (σ 0 0) (σ 0 3) σ er ofd de bo ql qs tv) := hD
        refine lv_if_eq (tgt := 142) hx hb dL_law_125 (by decide) (fun q => by first | exact absurd q (by decide) | exact absurd (by decide) q) (fun _ => ?_)
        refine lv_aload_n hx hb dL_law_128 rfl (lv_at hl 1 rfl) ?_
        refine lv_aload_n hx hb dL_law_129 rfl (lv_at hl 2 rfl) ?_
        refine lv_aload hx hb dL_law_130 (lv_at hl 5 rfl) ?_
        refine mw_calli (va_runS (As := [.ref ((ad 0 0)), .ref ap, .ref ag]) (rest := []) ⟨hx, hb, hml, hown, hts⟩ (c_L_areProducts l hfl D cy ap ah ab ag pf hf bf gf ei ad σ er ofd de bo ql qs tv hI hof hbo hDL hQZ hM hE H.size) (va_cwS 3 hts gL_law_L_areProducts rfl rfl rfl hdL_areProducts.2 ⟨Nat.le_of_ble_eq_true rfl, Nat.le_of_ble_eq_true rfl⟩) (xo_preS hK rfl hP hD hXW (hXZ.at hS hD hA (fun _ hq => hq))) rfl rfl hl.1 rfl (lv_room (Nat.le_of_ble_eq_true rfl)) dL_law_132 ⟨(by show 200 + 62 * k + 8 + 24 + 30 ≤ 600104; omega), (by show 3000 + 430 * k + 80 + 150 + 200 ≤ 7301314; omega)⟩) hS hD hA (fun z132 u132 H locs h132 hP hD hS => ?_)
        obtain rfl : z132 = nI 1 := h132
        have hP : va_P D vwCl (MC cy ap ah ab ag pf hf bf gf ei ++ WG ad cy (σ 0 0) (σ 0 3) σ er ofd de bo ql qs tv) H := hP
        have hD : va_D A (MC cy ap ah ab ag pf hf bf gf ei ++ WG ad cy (σ 0 0) (σ 0 3) σ er ofd de bo ql qs tv) := hD
        refine lv_if_eq (tgt := 142) hx hb dL_law_135 (by decide) (fun q => by first | exact absurd q (by decide) | exact absurd (by decide) q) (fun _ => ?_)
        refine lv_iconst (v := nI 1) hx hb dL_law_138 (by decide) ?_
        refine lv_goto (tgt := 143) hx hb dL_law_139 (by decide) ?_
        refine lv_istore (lv' := [(6, .int (nI 1)), (0, .ref b), (1, .ref ((ad 0 0))), (2, .ref ap), (3, .ref ah), (4, .ref ab), (5, .ref ag), (7, .int (nI k))]) hx hb dL_law_143 hl (by decide) rfl (fun ls hl => ?_)
        obtain ⟨z145, hz145⟩ : ∃ z : Nat, z = k + 1 := ⟨_, rfl⟩
        refine lv_iinc (v := nI z145) (lv' := [(7, .int (nI z145)), (6, .int (nI 1)), (0, .ref b), (1, .ref ((ad 0 0))), (2, .ref ap), (3, .ref ah), (4, .ref ab), (5, .ref ag)]) hx hb dL_law_145 hl (k := 7) rfl (by rw [hz145]; exact nI_add _ 1) (by decide) rfl (fun ls hl => ?_)
        rw [h0] at hl
        refine lv_goto (tgt := 70) hx hb dL_law_148 (by decide) ?_
        refine W.widen (k := 200 + 62 * z145) (n := 3000 + 430 * z145) (by omega) (by omega) ?_
        exact ih70 z145 ad σ er ofd de bo ql qs tv pf hf bf gf ei (by omega) (by omega) h0 (by rw [hz145]; exact hI) hof hbo ⟨dl, hDL⟩ hQZ hM hE H locs hP hD hS ls (lv_sub hl [2, 3, 4, 5, 6, 7, 1, 0] rfl)
  refine lv_istore (lv' := [(7, .int (nI 0)), (6, .int (nI 1)), (0, .ref b), (1, .ref ad0), (2, .ref ap), (3, .ref ah), (4, .ref ab), (5, .ref ag)]) hx hb dL_law_68 hl (by decide) rfl (fun ls hl => ?_)
  refine W.widen (k := 200 + 62 * 0) (n := 3000 + 430 * 0) (by omega) (by omega) ?_
  exact K70 _ 0 ad σ er ofd de bo ql qs tv pf hf bf gf ei (Nat.lt_succ_self _) (by omega) h0 hI hof hbo ⟨dl, hDL⟩ hQZ hM hE H locs hP hD hS ls (lv_sub hl [2, 3, 4, 5, 6, 7, 1, 0] rfl)
theorem nv_pre {s : State} {D : va_G} {cy : Nat → ClassId} {H : Heap} {sz : Nat} {A0 : Nat → Prop} {w : va_W} {As : List Value} (hK : KW D cy s) (hsz : H.size = sz) (hP : va_P D vwCl w H) (hD : va_D A0 w) (h1 : va_AO "Nestedfare$Booking" s) (h2 : va_AO "Nestedfare$Product" s) : PreS s H (va_Pc As (fun U => U.heap.size = sz ∧ va_P D vwCl w U.heap ∧ KW D cy U ∧ va_D (fun _ => True) w ∧ va_AO "Nestedfare$Booking" U ∧ va_AO "Nestedfare$Product" U)) As :=
  ⟨fun a U g mk q => by obtain ⟨q0, q1, q2, q3, q4, q5, q6⟩ := q; exact ⟨q0, q1, q2, q3.calling, q4, va_AO.moved (u := U) (U := U.calling g mk a) (Vm.Alike.refl U.vm) q5, va_AO.moved (u := U) (U := U.calling g mk a) (Vm.Alike.refl U.vm) q6⟩, fun U hU hW => ⟨rfl, by rw [hU]; exact hsz, by rw [hU]; exact hP, hK.warm hW, hD.weaken (fun _ _ _ _ => trivial), va_AO.moved hW.alike h1, va_AO.moved hW.alike h2⟩⟩
theorem lc_w : ∀ w ∈ [Cond.classLink RL 9 RX5, .initialized RX5, .instanceMethod yX5_init, .methodLink RL 140 yX5_init, .arrayClass .int], w ∈ tables_1 := by decide +kernel
theorem perm4 {α : Type _} {G : List α} {x y z w : α} : ((((G ++ [x]) ++ [y]) ++ [z]) ++ [w]).Perm ([x, y, z, w] ++ G) := by
  rw [List.append_assoc, List.append_assoc, List.append_assoc]
  exact List.perm_append_comm
theorem g_new : (fun _ : Nat => nI 0) = gI (fun _ => 0) 0 := by
  funext j
  show nI 0 = if j = 10 then 0 else nI 0
  split
  · exact nI_0
  · rfl
set_option maxHeartbeats 8000000 in
set_option maxRecDepth 100000 in
theorem law_begin {p : Program} {l : Launch} {e : Env} {s : State} {m : MethodId} {below : List Frame} {meth : Method} {c : Code} {D : va_G} {cy : Nat → ClassId} {b L : Nat} {xs : Nat → Int32} {Q : State → Prop} (hfl : l.stackTraces = false) (hx : p.tables.exec = Jvm.exec) (hb : c.code = cL_law) (hml : c.maxLocals = 8) (hown : s.vm.findClass RL = some m.cls) (hts : ∀ w ∈ wsL_law, w.before #[Value.ref b] s = true) (ht : ∀ w ∈ tables_1, w.before #[Value.ref b] s = true) (hK : KW D cy s) (hXW : XW s) (hXZ : XZ (fun q => s.heap.size ≤ q) s s.heap) (hX : va_X b L xs s s.heap) (hbl : b < s.heap.size) (hovB : va_AO "Nestedfare$Booking" s) (hovP : va_AO "Nestedfare$Product" s) (hL : L ≤ 260)
    (hend : ∀ (H : Heap) (ls : Array Slot), W p l e room_1 s m #[Value.ref b] below meth c H [] 600104 7301314 Q (F0 m 319 ls [.int (nI 1)])) (ls : Array Slot) (hl : lv_has ls 8 [(0, .ref b)]) : W p l e room_1 s m #[Value.ref b] below meth c s.heap [] 0 0 Q (F0 m 0 ls []) := by
  have hA : ∀ q, s.heap.size ≤ q → (fun q => s.heap.size ≤ q) q := fun q h => h
  have hbA : ¬ (fun q => s.heap.size ≤ q) b := Nat.not_le.mpr hbl
  have hP : va_P D vwCl [] s.heap := va_P0
  have hD : va_D (fun q => s.heap.size ≤ q) [] := ⟨fun i j p q h => (by simp at h), fun k q h => (by simp at h)⟩
  have hS : va_S (fun q => s.heap.size ≤ q) s.heap s.heap [] := va_S.rf
  refine va_new (ci := 5) (fs := [.null, .null, .null, .null, .null, .null, .int (nI 0), .int (nI 0), .int (nI 0), .int (nI 0), .int (nI 0), .int (nI 0), .int (nI 0), .long 0]) (C := RX5) (T := TX5) (N := 14) (Ts := tables_1) hx hb ht (xs_c (RX5, TX5, 14) (List.mem_of_getElem? (i := 5) rfl)).1 tyX5 tyX5_ok hown (ht _ (lc_w _ (List.mem_of_getElem? (i := 0) rfl))) (ht _ (xs_c (RX5, TX5, 14) (List.mem_of_getElem? (i := 5) rfl)).2) (ht _ (lc_w _ (List.mem_of_getElem? (i := 1) rfl))) hK.1 hP hD hS hA rfl (fun j hj => by rcases (show j = 0 ∨ j = 1 ∨ j = 2 ∨ j = 3 ∨ j = 4 ∨ j = 5 ∨ j = 6 ∨ j = 7 ∨ j = 8 ∨ j = 9 ∨ j = 10 ∨ j = 11 ∨ j = 12 ∨ j = 13 by omega) with rfl | rfl | rfl | rfl | rfl | rfl | rfl | rfl | rfl | rfl | rfl | rfl | rfl | rfl <;> rfl) (Nat.le_of_ble_eq_true rfl) (Nat.le_of_ble_eq_true rfl) dL_law_0 (fun q0 H hP hD hS => ?_)
  refine lv_dup hx hb dL_law_3 rfl ?_
  refine ap_callv (X := []) (wc := [(q0, .inr (5, [.null, .null, .null, .null, .null, .null, .int (nI 0), .int (nI 0), .int (nI 0), .int (nI 0), .int (nI 0), .int (nI 0), .int (nI 0), .long 0]))]) (va_runI (As := []) (rest := [.ref q0]) ⟨hx, hb, hml, hown, hts⟩ (c_X5_init l D cy q0 H.size) ⟨callB_of 0 hts gL_law_X5_init rfl rfl rfl (ht _ (lc_w _ (List.mem_of_getElem? (i := 1) rfl))) (ht _ (lc_w _ (List.mem_of_getElem? (i := 3) rfl))) hdX5_init.2 ⟨Nat.le_of_ble_eq_true rfl, Nat.le_of_ble_eq_true rfl⟩, rfl, (ht _ (lc_w _ (List.mem_of_getElem? (i := 2) rfl)))⟩ (nv_pre hK rfl hP hD hovB hovP) rfl rfl hl.1 rfl (lv_room (Nat.le_of_ble_eq_true rfl)) dL_law_4 ⟨Nat.le_of_ble_eq_true rfl, Nat.le_of_ble_eq_true rfl⟩) hS hP hD hA (fun ad H locs had hP hD hS => ?_)
  have hP : va_P D vwCl (WG ad cy (σ0 0 0) (σ0 0 3) σ0 0 (fun _ => none) (fun _ => none) (fun _ => none) (fun _ => 0) (fun _ _ => 0) (fun _ => 0)) H := hP
  have hD : va_D (fun q => s.heap.size ≤ q) (WG ad cy (σ0 0 0) (σ0 0 3) σ0 0 (fun _ => none) (fun _ => none) (fun _ => none) (fun _ => 0) (fun _ _ => 0) (fun _ => 0)) := hD
  refine lv_astore_n (lv' := [(1, .ref q0), (0, .ref b)]) hx hb dL_law_7 rfl hl (by decide) rfl (fun ls hl => ?_)
  refine lv_bipush (v := nI 36) hx hb dL_law_8 (by decide) ?_
  refine ln_newI hx hb (ht _ (lc_w _ (List.mem_of_getElem? (i := 4) rfl))) hK hP hD hS hA (by decide) (Nat.le_of_ble_eq_true rfl) (Nat.le_of_ble_eq_true rfl) dL_law_10 (fun q10 H hP hD hS => ?_)
  refine lv_astore_n (lv' := [(2, .ref q10), (1, .ref q0), (0, .ref b)]) hx hb dL_law_12 rfl hl (by decide) rfl (fun ls hl => ?_)
  refine lv_bipush (v := nI 60) hx hb dL_law_13 (by decide) ?_
  refine ln_newI hx hb (ht _ (lc_w _ (List.mem_of_getElem? (i := 4) rfl))) hK hP hD hS hA (by decide) (Nat.le_of_ble_eq_true rfl) (Nat.le_of_ble_eq_true rfl) dL_law_15 (fun q15 H hP hD hS => ?_)
  refine lv_astore_n (lv' := [(3, .ref q15), (2, .ref q10), (1, .ref q0), (0, .ref b)]) hx hb dL_law_17 rfl hl (by decide) rfl (fun ls hl => ?_)
  refine lv_bipush (v := nI 40) hx hb dL_law_18 (by decide) ?_
  refine ln_newI hx hb (ht _ (lc_w _ (List.mem_of_getElem? (i := 4) rfl))) hK hP hD hS hA (by decide) (Nat.le_of_ble_eq_true rfl) (Nat.le_of_ble_eq_true rfl) dL_law_20 (fun q20 H hP hD hS => ?_)
  refine lv_astore (lv' := [(4, .ref q20), (3, .ref q15), (2, .ref q10), (1, .ref q0), (0, .ref b)]) hx hb dL_law_22 hl (by decide) rfl (fun ls hl => ?_)
  refine lv_bipush (v := nI 11) hx hb dL_law_24 (by decide) ?_
  refine ln_newI hx hb (ht _ (lc_w _ (List.mem_of_getElem? (i := 4) rfl))) hK hP hD hS hA (by decide) (Nat.le_of_ble_eq_true rfl) (Nat.le_of_ble_eq_true rfl) dL_law_26 (fun q26 H hP hD hS => ?_)
  refine lv_astore (lv' := [(5, .ref q26), (4, .ref q20), (3, .ref q15), (2, .ref q10), (1, .ref q0), (0, .ref b)]) hx hb dL_law_28 hl (by decide) rfl (fun ls hl => ?_)
  have hP : va_P D vwCl (MC cy q10 q15 q20 q26 (fun _ => 0) (fun _ => 0) (fun _ => 0) (fun _ => 0) 0 ++ WG ad cy (σ0 0 0) (σ0 0 3) σ0 0 (fun _ => none) (fun _ => none) (fun _ => none) (fun _ => 0) (fun _ _ => 0) (fun _ => 0)) H := by
    unfold MC
    rw [← g_new]
    exact hP.mem (fun q hq => perm4.mem_iff.mpr hq)
  have hD : va_D (fun q => s.heap.size ≤ q) (MC cy q10 q15 q20 q26 (fun _ => 0) (fun _ => 0) (fun _ => 0) (fun _ => 0) 0 ++ WG ad cy (σ0 0 0) (σ0 0 3) σ0 0 (fun _ => none) (fun _ => none) (fun _ => none) (fun _ => 0) (fun _ _ => 0) (fun _ => 0)) := by
    unfold MC
    rw [← g_new]
    exact hD.perm perm4.symm
  refine lv_aload hx hb dL_law_30 (lv_at hl 0 rfl) ?_
  refine lv_iconst (v := nI 3) hx hb dL_law_32 (by decide) ?_
  refine lv_bipush (v := nI 100) hx hb dL_law_33 (by decide) ?_
  refine mg_st hx hb hK hP hD hS (by decide) dL_law_35 (fun H locs hP hD hS => ?_)
  have had : ad 0 0 = q0 := had
  rw [← had] at hl
  refine W.widen (k := 60) (n := 2000) (Nat.le_of_ble_eq_true rfl) (Nat.le_of_ble_eq_true rfl) ?_
  exact law_main hfl hx hb hml hown hts hK hXW hXZ hX hbl hbA hA (fun q h => h) hL hend q10 q15 q20 q26 (ad 0 0) ad σ0 0 (fun _ => none) (fun _ => none) (fun _ => none) (fun _ => 0) (fun _ _ => 0) (fun _ => 0) (fun _ => 0) (fun _ => 0) (fun _ => 0) (va_up (fun _ => 0) 3 100) 0 rfl Iv_0 OF_0 BO_0 DL_0 QZ_0 MR_0 EM_0 H locs hP hD hS ls (lv_sub hl [5, 4, 3, 2, 1, 0] rfl)
