set_option maxHeartbeats 4000000 in
set_option maxRecDepth 100000 in
theorem law_setSeats {p : Program} {l : Launch} {e : Env} {s : State} {m : MethodId} {below : List Frame} {meth : Method} {c : Code} {D : va_G} {cy : Nat → ClassId} {b L : Nat} {xs : Nat → Int32} {Q : State → Prop} (C : LX p l D cy s m c b L xs) {i n cells slots : Nat} (hi : i + 5 ≤ L) (hL : L ≤ 2560) (hn : n < 512) (hc : cells + 2 ≤ room_1.cells) (hs9 : slots + 28 ≤ room_1.slots) (K : LK p l e s m below meth c D cy b Q i (n + 1) 1317 (cells + 2) (slots + 28)) : LK p l e s m below meth c D cy b Q i n 152 cells slots := by
  obtain ⟨hx, hb, hml, hown, hts, hK, hXW, hXZ, hX, hbl, hfl⟩ := C
  intro ad σ er ofd de dl bo ql qs tv am wo th ao aD o d H locs ls hI hP hD hS hl
  obtain ⟨hIv, hof, hbo, hDL, hQZ⟩ := hI
  have hA : ∀ q, s.heap.size ≤ q → (fun q => s.heap.size ≤ q) q := fun q h => h
  have hbA : ¬ (fun q => s.heap.size ≤ q) b := Nat.not_le.mpr hbl
  have hI2 := hIv.more hn
  refine lv_aload_n hx hb dL_law_152 rfl (lv_at hl 2 rfl) ?_
  refine lv_aload_n hx hb dL_law_153 rfl (lv_at hl 1 rfl) ?_
  refine lv_iload hx hb dL_law_154 (lv_at hl 0 rfl) ?_
  refine lv_iconst (v := nI 1) hx hb dL_law_156 (by decide) ?_
  refine ln_iadd hx hb dL_law_157 (fun z hz => ?_)
  subst hz
  refine lw_sld hx hb hX hbl hbA hS (by omega) (by omega) dL_law_158 ?_
  refine lv_aload_n hx hb dL_law_159 rfl (lv_at hl 1 rfl) ?_
  refine lv_iload hx hb dL_law_160 (lv_at hl 0 rfl) ?_
  refine lv_iconst (v := nI 2) hx hb dL_law_162 (by decide) ?_
  refine ln_iadd hx hb dL_law_163 (fun z hz => ?_)
  subst hz
  refine lw_sld hx hb hX hbl hbA hS (by omega) (by omega) dL_law_164 ?_
  refine lv_aload_n hx hb dL_law_165 rfl (lv_at hl 1 rfl) ?_
  refine lv_iload hx hb dL_law_166 (lv_at hl 0 rfl) ?_
  refine lv_iconst (v := nI 3) hx hb dL_law_168 (by decide) ?_
  refine ln_iadd hx hb dL_law_169 (fun z hz => ?_)
  subst hz
  refine lw_sld hx hb hX hbl hbA hS (by omega) (by omega) dL_law_170 ?_
  refine al_calli (vx_runSW (As := [.ref (ad 0 0), .int (xs (i + 1)), .int (xs (i + 2)), .int (xs (i + 3))]) (rest := []) ⟨hx, hb, hml, hown, hts⟩ (c_L_setSeats l hfl D cy ad σ er ofd de bo ql qs tv ((xs (i + 1))) ((xs (i + 2))) ((xs (i + 3))) ao aD o d H.size) (vx_cwSW 4 hts gL_law_L_setSeats rfl rfl rfl hdL_setSeats.2 ⟨Nat.le_of_ble_eq_true rfl, Nat.le_of_ble_eq_true rfl⟩) (xo_preS hK rfl (hP.mem (fun _ hq => List.mem_append_left _ hq)) (hD.subl (List.sublist_append_left _ _)) hXW (hXZ.at hS hD hA (fun _ hq => List.mem_append_left _ hq))) rfl rfl hl.1 rfl (lv_room (Nat.le_of_ble_eq_true rfl)) dL_law_171 ⟨by omega, by omega⟩) hS hP hD hA (fun r1 u1 H locs hr1 hP hD hS => ?_)
  refine lv_istore (lv' := [(6, .int r1), (5, .int (nI i)), (0, .ref b), (1, .ref (ad 0 0)), (2, .ref (am 0)), (3, .ref ao), (4, .ref aD)]) hx hb dL_law_174 hl (by decide) rfl (fun ls hl => ?_)
  refine lv_aload_n hx hb dL_law_176 rfl (lv_at hl 4 rfl) ?_
  refine lv_aload_n hx hb dL_law_177 rfl (lv_at hl 2 rfl) ?_
  refine lv_iload hx hb dL_law_178 (lv_at hl 1 rfl) ?_
  refine lv_iconst (v := nI 1) hx hb dL_law_180 (by decide) ?_
  refine ln_iadd hx hb dL_law_181 (fun z hz => ?_)
  subst hz
  refine lw_sld hx hb hX hbl hbA hS (by omega) (by omega) dL_law_182 ?_
  refine lv_aload_n hx hb dL_law_183 rfl (lv_at hl 2 rfl) ?_
  refine lv_iload hx hb dL_law_184 (lv_at hl 1 rfl) ?_
  refine lv_iconst (v := nI 2) hx hb dL_law_186 (by decide) ?_
  refine ln_iadd hx hb dL_law_187 (fun z hz => ?_)
  subst hz
  refine lw_sld hx hb hX hbl hbA hS (by omega) (by omega) dL_law_188 ?_
  refine lv_aload_n hx hb dL_law_189 rfl (lv_at hl 2 rfl) ?_
  refine lv_iload hx hb dL_law_190 (lv_at hl 1 rfl) ?_
  refine lv_iconst (v := nI 3) hx hb dL_law_192 (by decide) ?_
  refine ln_iadd hx hb dL_law_193 (fun z hz => ?_)
  subst hz
  refine lw_sld hx hb hX hbl hbA hS (by omega) (by omega) dL_law_194 ?_
  refine ap_callv (va_runV (As := [.int (xs (i + 1)), .int (xs (i + 2)), .int (xs (i + 3))]) (rest := []) ⟨hx, hb, hml, hown, hts⟩ (c_X6_setSeats l D cy am σ er wo th ((xs (i + 1))) ((xs (i + 2))) ((xs (i + 3))) H.size) (cwV 3 hts gL_law_X6_setSeats rfl rfl rfl hdX6_setSeats ⟨Nat.le_of_ble_eq_true rfl, Nat.le_of_ble_eq_true rfl⟩) (mo_preV hK rfl (hP.mem (fun _ hq => List.mem_append_right _ hq)) (hD.subl (List.sublist_append_right _ _)) (va_recv hK.1 (hP.mem (fun _ hq => List.mem_append_right _ hq)) (ci := 6) (q0 := 0) rfl rfl)) rfl rfl hl.1 rfl (lv_room (Nat.le_of_ble_eq_true rfl)) dL_law_195 ⟨by omega, by omega⟩) hS hP hD hA (fun u2 H locs hr2 hP hD hS => ?_)
  obtain ⟨u1, o2, d2⟩ := u1
  obtain ⟨th2, τ⟩ := u2
  rcases hr1 with ⟨t, ht, hr6, hp⟩ | ⟨E, ht, hex, hr6⟩
  · skip
    obtain rfl : u1 = some t := ht
    obtain rfl : r1 = nI 0 := hr6
    have h1 := hp
    rcases hr2 with ⟨g1, gu⟩ | ⟨g1, gu⟩
    · skip
      obtain rfl : th2 = 0 := congrArg Prod.fst gu
      have gs : τ = seF σ (cN (xs (i + 1))) (cN (xs (i + 2))) (cN (xs (i + 3))) := congrArg Prod.snd gu
      subst gs
      have hP : va_P D vwCl (LWd cy ad (seF σ (cN (xs (i + 1))) (cN (xs (i + 2))) (cN (xs (i + 3)))) er ofd de bo ql qs tv ao aD o2 d2 am wo 0) H := hP
      have hD : va_D (fun q => s.heap.size ≤ q) (LWd cy ad (seF σ (cN (xs (i + 1))) (cN (xs (i + 2))) (cN (xs (i + 3)))) er ofd de bo ql qs tv ao aD o2 d2 am wo 0) := hD
      refine lv_aload_n hx hb dL_law_198 rfl (lv_at hl 4 rfl) ?_
      refine ro_calli (va_runV (As := []) (rest := []) ⟨hx, hb, hml, hown, hts⟩ (c_X6_thrown l D cy am (seF σ (cN (xs (i + 1))) (cN (xs (i + 2))) (cN (xs (i + 3)))) er wo 0 H (hP.mem (fun _ hq => List.mem_append_right _ hq))) (cwV 0 hts gL_law_X6_thrown rfl rfl rfl hdX6_thrown ⟨Nat.le_of_ble_eq_true rfl, Nat.le_of_ble_eq_true rfl⟩) (ro_preV hK (va_recv hK.1 (hP.mem (fun _ hq => List.mem_append_right _ hq)) (ci := 6) (q0 := 0) rfl rfl)) rfl rfl hl.1 rfl (lv_room (Nat.le_of_ble_eq_true rfl)) dL_law_199 ⟨by omega, by omega⟩) (fun r9 h9 => ?_)
      obtain rfl : r9 = nI 0 := h9
      refine lv_iload hx hb dL_law_202 (lv_at hl 0 rfl) ?_
      refine lv_icmp_eq (tgt := 209) hx hb dL_law_204 (by decide) (fun _ => ?_) (fun q => absurd rfl q)
      refine lv_goto (tgt := 1317) hx hb dL_law_209 (by decide) ?_
      refine W.widen (k := cells + 2) (n := slots + 28) (by omega) (by omega) ?_
      exact K ad (seF σ (cN (xs (i + 1))) (cN (xs (i + 2))) (cN (xs (i + 3)))) er ofd de dl bo ql qs tv am wo 0 ao aD o2 d2 H locs ls ⟨hIv.seats hn (okR_le h1.1 (by decide) (by decide)).2.1 (okR_le h1.2.1 (by decide) (by decide)).2.1 (okR_le h1.2.2 (by decide) (by decide)).2.1, hof.c rfl rfl, hbo.c rfl (Nat.le_refl _), hDL.c rfl rfl rfl, hQZ⟩ hP hD hS (lv_sub hl [1, 2, 3, 4, 5, 6] rfl)
    · skip
      first | exact absurd h1 g1 | exact absurd g1 h1 | exact absurd h2 g2 | exact absurd g2 h2 | exact absurd h3 g3 | exact absurd g3 h3 | exact absurd h4 g4 | exact absurd g4 h4
  · skip
    obtain rfl : u1 = none := ht
    rcases hex with ⟨h1, hE⟩
    · skip
      subst hE
      obtain rfl : r1 = nI 1 := hr6.trans (by decide +kernel)
      rcases hr2 with ⟨g1, gu⟩ | ⟨g1, gu⟩
      · skip
        first | exact absurd h1 g1 | exact absurd g1 h1 | exact absurd h2 g2 | exact absurd g2 h2 | exact absurd h3 g3 | exact absurd g3 h3 | exact absurd h4 g4 | exact absurd g4 h4
      · skip
        obtain rfl : th2 = 1 := congrArg Prod.fst gu
        have gs : σ = τ := (congrArg Prod.snd gu).symm
        subst gs
        have hP : va_P D vwCl (LWd cy ad σ er ofd de bo ql qs tv ao aD o2 d2 am wo 1) H := hP
        have hD : va_D (fun q => s.heap.size ≤ q) (LWd cy ad σ er ofd de bo ql qs tv ao aD o2 d2 am wo 1) := hD
        refine lv_aload_n hx hb dL_law_198 rfl (lv_at hl 4 rfl) ?_
        refine ro_calli (va_runV (As := []) (rest := []) ⟨hx, hb, hml, hown, hts⟩ (c_X6_thrown l D cy am σ er wo 1 H (hP.mem (fun _ hq => List.mem_append_right _ hq))) (cwV 0 hts gL_law_X6_thrown rfl rfl rfl hdX6_thrown ⟨Nat.le_of_ble_eq_true rfl, Nat.le_of_ble_eq_true rfl⟩) (ro_preV hK (va_recv hK.1 (hP.mem (fun _ hq => List.mem_append_right _ hq)) (ci := 6) (q0 := 0) rfl rfl)) rfl rfl hl.1 rfl (lv_room (Nat.le_of_ble_eq_true rfl)) dL_law_199 ⟨by omega, by omega⟩) (fun r9 h9 => ?_)
        obtain rfl : r9 = nI 1 := h9
        refine lv_iload hx hb dL_law_202 (lv_at hl 0 rfl) ?_
        refine lv_icmp_eq (tgt := 209) hx hb dL_law_204 (by decide) (fun _ => ?_) (fun q => absurd rfl q)
        refine lv_goto (tgt := 1317) hx hb dL_law_209 (by decide) ?_
        refine W.widen (k := cells + 2) (n := slots + 28) (by omega) (by omega) ?_
        exact K ad σ er ofd de dl bo ql qs tv am wo 1 ao aD o2 d2 H locs ls ⟨hI2, hof, hbo, hDL, hQZ⟩ hP hD hS (lv_sub hl [1, 2, 3, 4, 5, 6] rfl)
set_option maxHeartbeats 4000000 in
set_option maxRecDepth 100000 in
theorem law_addProduct {p : Program} {l : Launch} {e : Env} {s : State} {m : MethodId} {below : List Frame} {meth : Method} {c : Code} {D : va_G} {cy : Nat → ClassId} {b L : Nat} {xs : Nat → Int32} {Q : State → Prop} (C : LX p l D cy s m c b L xs) {i n cells slots : Nat} (hi : i + 5 ≤ L) (hL : L ≤ 2560) (hn : n < 512) (hc : cells + 2 ≤ room_1.cells) (hs9 : slots + 28 ≤ room_1.slots) (K : LK p l e s m below meth c D cy b Q i (n + 1) 1317 (cells + 2) (slots + 28)) : LK p l e s m below meth c D cy b Q i n 212 cells slots := by
  obtain ⟨hx, hb, hml, hown, hts, hK, hXW, hXZ, hX, hbl, hfl⟩ := C
  intro ad σ er ofd de dl bo ql qs tv am wo th ao aD o d H locs ls hI hP hD hS hl
  obtain ⟨hIv, hof, hbo, hDL, hQZ⟩ := hI
  have hA : ∀ q, s.heap.size ≤ q → (fun q => s.heap.size ≤ q) q := fun q h => h
  have hbA : ¬ (fun q => s.heap.size ≤ q) b := Nat.not_le.mpr hbl
  have hI2 := hIv.more hn
  refine lv_aload_n hx hb dL_law_212 rfl (lv_at hl 2 rfl) ?_
  refine lv_aload_n hx hb dL_law_213 rfl (lv_at hl 1 rfl) ?_
  refine lv_iload hx hb dL_law_214 (lv_at hl 0 rfl) ?_
  refine lv_iconst (v := nI 1) hx hb dL_law_216 (by decide) ?_
  refine ln_iadd hx hb dL_law_217 (fun z hz => ?_)
  subst hz
  refine lw_sld hx hb hX hbl hbA hS (by omega) (by omega) dL_law_218 ?_
  refine lv_aload_n hx hb dL_law_219 rfl (lv_at hl 1 rfl) ?_
  refine lv_iload hx hb dL_law_220 (lv_at hl 0 rfl) ?_
  refine lv_iconst (v := nI 2) hx hb dL_law_222 (by decide) ?_
  refine ln_iadd hx hb dL_law_223 (fun z hz => ?_)
  subst hz
  refine lw_sld hx hb hX hbl hbA hS (by omega) (by omega) dL_law_224 ?_
  refine lv_aload_n hx hb dL_law_225 rfl (lv_at hl 1 rfl) ?_
  refine lv_iload hx hb dL_law_226 (lv_at hl 0 rfl) ?_
  refine lv_iconst (v := nI 3) hx hb dL_law_228 (by decide) ?_
  refine ln_iadd hx hb dL_law_229 (fun z hz => ?_)
  subst hz
  refine lw_sld hx hb hX hbl hbA hS (by omega) (by omega) dL_law_230 ?_
  refine lv_aload_n hx hb dL_law_231 rfl (lv_at hl 4 rfl) ?_
  refine al_calli (vx_runSW (As := [.ref (ad 0 0), .int (xs (i + 1)), .int (xs (i + 2)), .int (xs (i + 3)), .ref ao]) (rest := []) ⟨hx, hb, hml, hown, hts⟩ (c_L_addProduct l hfl D cy ad σ er ofd de bo ql qs tv hof hIv hDL ((xs (i + 1))) ((xs (i + 2))) ((xs (i + 3))) ao aD o d H.size) (vx_cwSW 5 hts gL_law_L_addProduct rfl rfl rfl hdL_addProduct.2 ⟨Nat.le_of_ble_eq_true rfl, Nat.le_of_ble_eq_true rfl⟩) (xo_preS hK rfl (hP.mem (fun _ hq => List.mem_append_left _ hq)) (hD.subl (List.sublist_append_left _ _)) hXW (hXZ.at hS hD hA (fun _ hq => List.mem_append_left _ hq))) rfl rfl hl.1 rfl (lv_room (Nat.le_of_ble_eq_true rfl)) dL_law_232 ⟨by omega, by omega⟩) hS hP hD hA (fun r1 u1 H locs hr1 hP hD hS => ?_)
  refine lv_istore (lv' := [(6, .int r1), (5, .int (nI i)), (0, .ref b), (1, .ref (ad 0 0)), (2, .ref (am 0)), (3, .ref ao), (4, .ref aD)]) hx hb dL_law_235 hl (by decide) rfl (fun ls hl => ?_)
  refine lv_aload_n hx hb dL_law_237 rfl (lv_at hl 4 rfl) ?_
  refine lv_aload_n hx hb dL_law_238 rfl (lv_at hl 2 rfl) ?_
  refine lv_iload hx hb dL_law_239 (lv_at hl 1 rfl) ?_
  refine lv_iconst (v := nI 1) hx hb dL_law_241 (by decide) ?_
  refine ln_iadd hx hb dL_law_242 (fun z hz => ?_)
  subst hz
  refine lw_sld hx hb hX hbl hbA hS (by omega) (by omega) dL_law_243 ?_
  refine lv_aload_n hx hb dL_law_244 rfl (lv_at hl 2 rfl) ?_
  refine lv_iload hx hb dL_law_245 (lv_at hl 1 rfl) ?_
  refine lv_iconst (v := nI 2) hx hb dL_law_247 (by decide) ?_
  refine ln_iadd hx hb dL_law_248 (fun z hz => ?_)
  subst hz
  refine lw_sld hx hb hX hbl hbA hS (by omega) (by omega) dL_law_249 ?_
  refine lv_aload_n hx hb dL_law_250 rfl (lv_at hl 2 rfl) ?_
  refine lv_iload hx hb dL_law_251 (lv_at hl 1 rfl) ?_
  refine lv_iconst (v := nI 3) hx hb dL_law_253 (by decide) ?_
  refine ln_iadd hx hb dL_law_254 (fun z hz => ?_)
  subst hz
  refine lw_sld hx hb hX hbl hbA hS (by omega) (by omega) dL_law_255 ?_
  refine ap_calli (va_runV (As := [.int (xs (i + 1)), .int (xs (i + 2)), .int (xs (i + 3))]) (rest := []) ⟨hx, hb, hml, hown, hts⟩ (c_X6_addProduct l D cy am σ er wo th hIv ((xs (i + 1))) ((xs (i + 2))) ((xs (i + 3))) H.size) (cwV 3 hts gL_law_X6_addProduct rfl rfl rfl hdX6_addProduct ⟨Nat.le_of_ble_eq_true rfl, Nat.le_of_ble_eq_true rfl⟩) (mo_preV hK rfl (hP.mem (fun _ hq => List.mem_append_right _ hq)) (hD.subl (List.sublist_append_right _ _)) (va_recv hK.1 (hP.mem (fun _ hq => List.mem_append_right _ hq)) (ci := 6) (q0 := 0) rfl rfl)) rfl rfl hl.1 rfl (lv_room (Nat.le_of_ble_eq_true rfl)) dL_law_256 ⟨by omega, by omega⟩) hS hP hD hA (fun rm u2 H locs hr2 hP hD hS => ?_)
  obtain ⟨u1, o2, d2⟩ := u1
  obtain ⟨th2, τ⟩ := u2
  rcases hr1 with ⟨t, ri, ht, hr6, hp, ho⟩ | ⟨E, ht, hex, hr6⟩
  · skip
    obtain rfl : u1 = some t := ht
    obtain rfl : r1 = nI 0 := hr6
    obtain ⟨q2, tb2, de2⟩ := t
    obtain ⟨h1, h2, h3, hr, dl2, hdl2⟩ := hp
    rcases hr2 with ⟨g1, gu⟩ | ⟨g1, g2, gu⟩ | ⟨g1, g2, g3, gu⟩ | ⟨g1, g2, g3, gu, gr⟩
    · skip
      first | exact absurd h1 g1 | exact absurd g1 h1 | exact absurd h2 g2 | exact absurd g2 h2 | exact absurd h3 g3 | exact absurd g3 h3 | exact absurd h4 g4 | exact absurd g4 h4
    · skip
      first | exact absurd h1 g1 | exact absurd g1 h1 | exact absurd h2 g2 | exact absurd g2 h2 | exact absurd h3 g3 | exact absurd g3 h3 | exact absurd h4 g4 | exact absurd g4 h4
    · skip
      first | exact absurd h1 g1 | exact absurd g1 h1 | exact absurd h2 g2 | exact absurd g2 h2 | exact absurd h3 g3 | exact absurd g3 h3 | exact absurd h4 g4 | exact absurd g4 h4
    · skip
      obtain rfl : th2 = 0 := congrArg Prod.fst gu
      have gs : τ = adF σ (cN (xs (i + 1))) (cN (xs (i + 2))) (cN (xs (i + 3))) := congrArg Prod.snd gu
      subst gs
      have np8 := hIv.np
      have n8 : ¬ σ 0 0 = 8 := fun q => h3 (Or.inl q)
      have hP : va_P D vwCl (LWd cy (adP ad (σ 0 0) q2 tb2) (adF σ (cN (xs (i + 1))) (cN (xs (i + 2))) (cN (xs (i + 3)))) er (va_up ofd (σ 0 0) (some q2)) de2 bo ql qs tv ao aD o2 d2 am wo 0) H := hP
      have hD : va_D (fun q => s.heap.size ≤ q) (LWd cy (adP ad (σ 0 0) q2 tb2) (adF σ (cN (xs (i + 1))) (cN (xs (i + 2))) (cN (xs (i + 3)))) er (va_up ofd (σ 0 0) (some q2)) de2 bo ql qs tv ao aD o2 d2 am wo 0) := hD
      refine lv_istore (lv' := [(7, .int rm), (6, .int (nI 0)), (5, .int (nI i)), (0, .ref b), (1, .ref (ad 0 0)), (2, .ref (am 0)), (3, .ref ao), (4, .ref aD)]) hx hb dL_law_259 hl (by decide) rfl (fun ls hl => ?_)
      refine lv_aload_n hx hb dL_law_261 rfl (lv_at hl 5 rfl) ?_
      refine ro_calli (va_runV (As := []) (rest := []) ⟨hx, hb, hml, hown, hts⟩ (c_X6_thrown l D cy am (adF σ (cN (xs (i + 1))) (cN (xs (i + 2))) (cN (xs (i + 3)))) er wo 0 H (hP.mem (fun _ hq => List.mem_append_right _ hq))) (cwV 0 hts gL_law_X6_thrown rfl rfl rfl hdX6_thrown ⟨Nat.le_of_ble_eq_true rfl, Nat.le_of_ble_eq_true rfl⟩) (ro_preV hK (va_recv hK.1 (hP.mem (fun _ hq => List.mem_append_right _ hq)) (ci := 6) (q0 := 0) rfl rfl)) rfl rfl hl.1 rfl (lv_room (Nat.le_of_ble_eq_true rfl)) dL_law_262 ⟨by omega, by omega⟩) (fun r9 h9 => ?_)
      obtain rfl : r9 = nI 0 := h9
      refine lv_iload hx hb dL_law_265 (lv_at hl 1 rfl) ?_
      refine lv_icmp_eq (tgt := 272) hx hb dL_law_267 (by decide) (fun _ => ?_) (fun q => absurd rfl q)
      refine lv_iload hx hb dL_law_272 (lv_at hl 1 rfl) ?_
      refine lv_if_ne (tgt := 289) hx hb dL_law_274 (by decide) (fun q => by first | exact absurd q (by decide) | exact absurd (by decide) q) (fun _ => ?_)
      refine lv_aload_n hx hb dL_law_277 rfl (lv_at hl 6 rfl) ?_
      refine lv_iconst (v := nI 0) hx hb dL_law_278 (by decide) ?_
      refine lw_old hx hb hK hP dL_law_279 ?_
      refine lv_iload hx hb dL_law_280 (lv_at hl 0 rfl) ?_
      refine lv_i2l hx hb dL_law_282 rfl ?_
      refine lw_lcmpeq (tgt := 289) hx hb (ho.trans (congrArg Int32.toInt64 (hr.trans gr.symm))) dL_law_283 dL_law_284 (by decide) ?_
      refine lv_goto (tgt := 1317) hx hb dL_law_289 (by decide) ?_
      refine W.widen (k := cells + 2) (n := slots + 28) (by omega) (by omega) ?_
      exact K (adP ad (σ 0 0) q2 tb2) (adF σ (cN (xs (i + 1))) (cN (xs (i + 2))) (cN (xs (i + 3)))) er (va_up ofd (σ 0 0) (some q2)) de2 dl2 bo ql qs tv am wo 0 ao aD o2 d2 H locs ls ⟨hIv.adds hn (by omega) (okR_nle h1.1 h1.2 (by decide) (by decide) h2.1) (okR_le h1.2 (by decide) (by decide)).2.1 (okR_le h2.2 (by decide) (by decide)).1 (okR_le h2.2 (by decide) (by decide)).2.1, hof.adp, hbo.c rfl (Nat.le_refl _), hdl2, hQZ⟩ hP hD hS (lv_sub hl [2, 3, 4, 5, 6, 7] rfl)
  · skip
    obtain rfl : u1 = none := ht
    rcases hex with ⟨h1, hE⟩ | ⟨h1, h2, hE⟩ | ⟨h1, h2, h3, hE⟩
    · skip
      subst hE
      obtain rfl : r1 = nI 1 := hr6.trans (by decide +kernel)
      rcases hr2 with ⟨g1, gu⟩ | ⟨g1, g2, gu⟩ | ⟨g1, g2, g3, gu⟩ | ⟨g1, g2, g3, gu, gr⟩
      · skip
        obtain rfl : th2 = 1 := congrArg Prod.fst gu
        have gs : σ = τ := (congrArg Prod.snd gu).symm
        subst gs
        have hP : va_P D vwCl (LWd cy ad σ er ofd de bo ql qs tv ao aD o2 d2 am wo 1) H := hP
        have hD : va_D (fun q => s.heap.size ≤ q) (LWd cy ad σ er ofd de bo ql qs tv ao aD o2 d2 am wo 1) := hD
        refine lv_istore (lv' := [(7, .int rm), (6, .int (nI 1)), (5, .int (nI i)), (0, .ref b), (1, .ref (ad 0 0)), (2, .ref (am 0)), (3, .ref ao), (4, .ref aD)]) hx hb dL_law_259 hl (by decide) rfl (fun ls hl => ?_)
        refine lv_aload_n hx hb dL_law_261 rfl (lv_at hl 5 rfl) ?_
        refine ro_calli (va_runV (As := []) (rest := []) ⟨hx, hb, hml, hown, hts⟩ (c_X6_thrown l D cy am σ er wo 1 H (hP.mem (fun _ hq => List.mem_append_right _ hq))) (cwV 0 hts gL_law_X6_thrown rfl rfl rfl hdX6_thrown ⟨Nat.le_of_ble_eq_true rfl, Nat.le_of_ble_eq_true rfl⟩) (ro_preV hK (va_recv hK.1 (hP.mem (fun _ hq => List.mem_append_right _ hq)) (ci := 6) (q0 := 0) rfl rfl)) rfl rfl hl.1 rfl (lv_room (Nat.le_of_ble_eq_true rfl)) dL_law_262 ⟨by omega, by omega⟩) (fun r9 h9 => ?_)
        obtain rfl : r9 = nI 1 := h9
        refine lv_iload hx hb dL_law_265 (lv_at hl 1 rfl) ?_
        refine lv_icmp_eq (tgt := 272) hx hb dL_law_267 (by decide) (fun _ => ?_) (fun q => absurd rfl q)
        refine lv_iload hx hb dL_law_272 (lv_at hl 1 rfl) ?_
        refine lv_if_ne (tgt := 289) hx hb dL_law_274 (by decide) (fun _ => ?_) (fun q => by first | exact absurd q (by decide) | exact absurd (by decide) q)
        refine lv_goto (tgt := 1317) hx hb dL_law_289 (by decide) ?_
        refine W.widen (k := cells + 2) (n := slots + 28) (by omega) (by omega) ?_
        exact K ad σ er ofd de dl bo ql qs tv am wo 1 ao aD o2 d2 H locs ls ⟨hI2, hof, hbo, hDL, hQZ⟩ hP hD hS (lv_sub hl [2, 3, 4, 5, 6, 7] rfl)
      · skip
        first | exact absurd h1 g1 | exact absurd g1 h1 | exact absurd h2 g2 | exact absurd g2 h2 | exact absurd h3 g3 | exact absurd g3 h3 | exact absurd h4 g4 | exact absurd g4 h4
      · skip
        first | exact absurd h1 g1 | exact absurd g1 h1 | exact absurd h2 g2 | exact absurd g2 h2 | exact absurd h3 g3 | exact absurd g3 h3 | exact absurd h4 g4 | exact absurd g4 h4
      · skip
        first | exact absurd h1 g1 | exact absurd g1 h1 | exact absurd h2 g2 | exact absurd g2 h2 | exact absurd h3 g3 | exact absurd g3 h3 | exact absurd h4 g4 | exact absurd g4 h4
    · skip
      subst hE
      obtain rfl : r1 = nI 2 := hr6.trans (by decide +kernel)
      rcases hr2 with ⟨g1, gu⟩ | ⟨g1, g2, gu⟩ | ⟨g1, g2, g3, gu⟩ | ⟨g1, g2, g3, gu, gr⟩
      · skip
        first | exact absurd h1 g1 | exact absurd g1 h1 | exact absurd h2 g2 | exact absurd g2 h2 | exact absurd h3 g3 | exact absurd g3 h3 | exact absurd h4 g4 | exact absurd g4 h4
      · skip
        obtain rfl : th2 = 2 := congrArg Prod.fst gu
        have gs : σ = τ := (congrArg Prod.snd gu).symm
        subst gs
        have hP : va_P D vwCl (LWd cy ad σ er ofd de bo ql qs tv ao aD o2 d2 am wo 2) H := hP
        have hD : va_D (fun q => s.heap.size ≤ q) (LWd cy ad σ er ofd de bo ql qs tv ao aD o2 d2 am wo 2) := hD
        refine lv_istore (lv' := [(7, .int rm), (6, .int (nI 2)), (5, .int (nI i)), (0, .ref b), (1, .ref (ad 0 0)), (2, .ref (am 0)), (3, .ref ao), (4, .ref aD)]) hx hb dL_law_259 hl (by decide) rfl (fun ls hl => ?_)
        refine lv_aload_n hx hb dL_law_261 rfl (lv_at hl 5 rfl) ?_
        refine ro_calli (va_runV (As := []) (rest := []) ⟨hx, hb, hml, hown, hts⟩ (c_X6_thrown l D cy am σ er wo 2 H (hP.mem (fun _ hq => List.mem_append_right _ hq))) (cwV 0 hts gL_law_X6_thrown rfl rfl rfl hdX6_thrown ⟨Nat.le_of_ble_eq_true rfl, Nat.le_of_ble_eq_true rfl⟩) (ro_preV hK (va_recv hK.1 (hP.mem (fun _ hq => List.mem_append_right _ hq)) (ci := 6) (q0 := 0) rfl rfl)) rfl rfl hl.1 rfl (lv_room (Nat.le_of_ble_eq_true rfl)) dL_law_262 ⟨by omega, by omega⟩) (fun r9 h9 => ?_)
        obtain rfl : r9 = nI 2 := h9
        refine lv_iload hx hb dL_law_265 (lv_at hl 1 rfl) ?_
        refine lv_icmp_eq (tgt := 272) hx hb dL_law_267 (by decide) (fun _ => ?_) (fun q => absurd rfl q)
        refine lv_iload hx hb dL_law_272 (lv_at hl 1 rfl) ?_
        refine lv_if_ne (tgt := 289) hx hb dL_law_274 (by decide) (fun _ => ?_) (fun q => by first | exact absurd q (by decide) | exact absurd (by decide) q)
        refine lv_goto (tgt := 1317) hx hb dL_law_289 (by decide) ?_
        refine W.widen (k := cells + 2) (n := slots + 28) (by omega) (by omega) ?_
        exact K ad σ er ofd de dl bo ql qs tv am wo 2 ao aD o2 d2 H locs ls ⟨hI2, hof, hbo, hDL, hQZ⟩ hP hD hS (lv_sub hl [2, 3, 4, 5, 6, 7] rfl)
      · skip
        first | exact absurd h1 g1 | exact absurd g1 h1 | exact absurd h2 g2 | exact absurd g2 h2 | exact absurd h3 g3 | exact absurd g3 h3 | exact absurd h4 g4 | exact absurd g4 h4
      · skip
        first | exact absurd h1 g1 | exact absurd g1 h1 | exact absurd h2 g2 | exact absurd g2 h2 | exact absurd h3 g3 | exact absurd g3 h3 | exact absurd h4 g4 | exact absurd g4 h4
    · skip
      subst hE
      obtain rfl : r1 = nI 3 := hr6.trans (by decide +kernel)
      rcases hr2 with ⟨g1, gu⟩ | ⟨g1, g2, gu⟩ | ⟨g1, g2, g3, gu⟩ | ⟨g1, g2, g3, gu, gr⟩
      · skip
        first | exact absurd h1 g1 | exact absurd g1 h1 | exact absurd h2 g2 | exact absurd g2 h2 | exact absurd h3 g3 | exact absurd g3 h3 | exact absurd h4 g4 | exact absurd g4 h4
      · skip
        first | exact absurd h1 g1 | exact absurd g1 h1 | exact absurd h2 g2 | exact absurd g2 h2 | exact absurd h3 g3 | exact absurd g3 h3 | exact absurd h4 g4 | exact absurd g4 h4
      · skip
        obtain rfl : th2 = 3 := congrArg Prod.fst gu
        have gs : σ = τ := (congrArg Prod.snd gu).symm
        subst gs
        have hP : va_P D vwCl (LWd cy ad σ er ofd de bo ql qs tv ao aD o2 d2 am wo 3) H := hP
        have hD : va_D (fun q => s.heap.size ≤ q) (LWd cy ad σ er ofd de bo ql qs tv ao aD o2 d2 am wo 3) := hD
        refine lv_istore (lv' := [(7, .int rm), (6, .int (nI 3)), (5, .int (nI i)), (0, .ref b), (1, .ref (ad 0 0)), (2, .ref (am 0)), (3, .ref ao), (4, .ref aD)]) hx hb dL_law_259 hl (by decide) rfl (fun ls hl => ?_)
        refine lv_aload_n hx hb dL_law_261 rfl (lv_at hl 5 rfl) ?_
        refine ro_calli (va_runV (As := []) (rest := []) ⟨hx, hb, hml, hown, hts⟩ (c_X6_thrown l D cy am σ er wo 3 H (hP.mem (fun _ hq => List.mem_append_right _ hq))) (cwV 0 hts gL_law_X6_thrown rfl rfl rfl hdX6_thrown ⟨Nat.le_of_ble_eq_true rfl, Nat.le_of_ble_eq_true rfl⟩) (ro_preV hK (va_recv hK.1 (hP.mem (fun _ hq => List.mem_append_right _ hq)) (ci := 6) (q0 := 0) rfl rfl)) rfl rfl hl.1 rfl (lv_room (Nat.le_of_ble_eq_true rfl)) dL_law_262 ⟨by omega, by omega⟩) (fun r9 h9 => ?_)
        obtain rfl : r9 = nI 3 := h9
        refine lv_iload hx hb dL_law_265 (lv_at hl 1 rfl) ?_
        refine lv_icmp_eq (tgt := 272) hx hb dL_law_267 (by decide) (fun _ => ?_) (fun q => absurd rfl q)
        refine lv_iload hx hb dL_law_272 (lv_at hl 1 rfl) ?_
        refine lv_if_ne (tgt := 289) hx hb dL_law_274 (by decide) (fun _ => ?_) (fun q => by first | exact absurd q (by decide) | exact absurd (by decide) q)
        refine lv_goto (tgt := 1317) hx hb dL_law_289 (by decide) ?_
        refine W.widen (k := cells + 2) (n := slots + 28) (by omega) (by omega) ?_
        exact K ad σ er ofd de dl bo ql qs tv am wo 3 ao aD o2 d2 H locs ls ⟨hI2, hof, hbo, hDL, hQZ⟩ hP hD hS (lv_sub hl [2, 3, 4, 5, 6, 7] rfl)
      · skip
        first | exact absurd h1 g1 | exact absurd g1 h1 | exact absurd h2 g2 | exact absurd g2 h2 | exact absurd h3 g3 | exact absurd g3 h3 | exact absurd h4 g4 | exact absurd g4 h4
set_option maxHeartbeats 4000000 in
set_option maxRecDepth 100000 in
theorem law_setExpected {p : Program} {l : Launch} {e : Env} {s : State} {m : MethodId} {below : List Frame} {meth : Method} {c : Code} {D : va_G} {cy : Nat → ClassId} {b L : Nat} {xs : Nat → Int32} {Q : State → Prop} (C : LX p l D cy s m c b L xs) {i n cells slots : Nat} (hi : i + 5 ≤ L) (hL : L ≤ 2560) (hn : n < 512) (hc : cells + 2 ≤ room_1.cells) (hs9 : slots + 28 ≤ room_1.slots) (K : LK p l e s m below meth c D cy b Q i (n + 1) 1317 (cells + 2) (slots + 28)) : LK p l e s m below meth c D cy b Q i n 292 cells slots := by
  obtain ⟨hx, hb, hml, hown, hts, hK, hXW, hXZ, hX, hbl, hfl⟩ := C
  intro ad σ er ofd de dl bo ql qs tv am wo th ao aD o d H locs ls hI hP hD hS hl
  obtain ⟨hIv, hof, hbo, hDL, hQZ⟩ := hI
  have hA : ∀ q, s.heap.size ≤ q → (fun q => s.heap.size ≤ q) q := fun q h => h
  have hbA : ¬ (fun q => s.heap.size ≤ q) b := Nat.not_le.mpr hbl
  have hI2 := hIv.more hn
  refine lv_aload_n hx hb dL_law_292 rfl (lv_at hl 2 rfl) ?_
  refine lv_aload_n hx hb dL_law_293 rfl (lv_at hl 1 rfl) ?_
  refine lv_iload hx hb dL_law_294 (lv_at hl 0 rfl) ?_
  refine lv_iconst (v := nI 1) hx hb dL_law_296 (by decide) ?_
  refine ln_iadd hx hb dL_law_297 (fun z hz => ?_)
  subst hz
  refine lw_sld hx hb hX hbl hbA hS (by omega) (by omega) dL_law_298 ?_
  refine lv_aload_n hx hb dL_law_299 rfl (lv_at hl 1 rfl) ?_
  refine lv_iload hx hb dL_law_300 (lv_at hl 0 rfl) ?_
  refine lv_iconst (v := nI 2) hx hb dL_law_302 (by decide) ?_
  refine ln_iadd hx hb dL_law_303 (fun z hz => ?_)
  subst hz
  refine lw_sld hx hb hX hbl hbA hS (by omega) (by omega) dL_law_304 ?_
  refine lv_aload_n hx hb dL_law_305 rfl (lv_at hl 4 rfl) ?_
  refine al_calli (vx_runSW (As := [.ref (ad 0 0), .int (xs (i + 1)), .int (xs (i + 2)), .ref ao]) (rest := []) ⟨hx, hb, hml, hown, hts⟩ (c_L_setExpected l hfl D cy ad σ er ofd de bo ql qs tv hof hIv ((xs (i + 1))) ((xs (i + 2))) ao aD o d H.size) (vx_cwSW 4 hts gL_law_L_setExpected rfl rfl rfl hdL_setExpected.2 ⟨Nat.le_of_ble_eq_true rfl, Nat.le_of_ble_eq_true rfl⟩) (xo_preS hK rfl (hP.mem (fun _ hq => List.mem_append_left _ hq)) (hD.subl (List.sublist_append_left _ _)) hXW (hXZ.at hS hD hA (fun _ hq => List.mem_append_left _ hq))) rfl rfl hl.1 rfl (lv_room (Nat.le_of_ble_eq_true rfl)) dL_law_306 ⟨by omega, by omega⟩) hS hP hD hA (fun r1 u1 H locs hr1 hP hD hS => ?_)
  refine lv_istore (lv' := [(6, .int r1), (5, .int (nI i)), (0, .ref b), (1, .ref (ad 0 0)), (2, .ref (am 0)), (3, .ref ao), (4, .ref aD)]) hx hb dL_law_309 hl (by decide) rfl (fun ls hl => ?_)
  refine lv_aload_n hx hb dL_law_311 rfl (lv_at hl 4 rfl) ?_
  refine lv_aload_n hx hb dL_law_312 rfl (lv_at hl 2 rfl) ?_
  refine lv_iload hx hb dL_law_313 (lv_at hl 1 rfl) ?_
  refine lv_iconst (v := nI 1) hx hb dL_law_315 (by decide) ?_
  refine ln_iadd hx hb dL_law_316 (fun z hz => ?_)
  subst hz
  refine lw_sld hx hb hX hbl hbA hS (by omega) (by omega) dL_law_317 ?_
  refine lv_aload_n hx hb dL_law_318 rfl (lv_at hl 2 rfl) ?_
  refine lv_iload hx hb dL_law_319 (lv_at hl 1 rfl) ?_
  refine lv_iconst (v := nI 2) hx hb dL_law_321 (by decide) ?_
  refine ln_iadd hx hb dL_law_322 (fun z hz => ?_)
  subst hz
  refine lw_sld hx hb hX hbl hbA hS (by omega) (by omega) dL_law_323 ?_
  refine ap_calli (va_runV (As := [.int (xs (i + 1)), .int (xs (i + 2))]) (rest := []) ⟨hx, hb, hml, hown, hts⟩ (c_X6_setExpected l D cy am σ er wo th hIv ((xs (i + 1))) ((xs (i + 2))) H.size) (cwV 2 hts gL_law_X6_setExpected rfl rfl rfl hdX6_setExpected ⟨Nat.le_of_ble_eq_true rfl, Nat.le_of_ble_eq_true rfl⟩) (mo_preV hK rfl (hP.mem (fun _ hq => List.mem_append_right _ hq)) (hD.subl (List.sublist_append_right _ _)) (va_recv hK.1 (hP.mem (fun _ hq => List.mem_append_right _ hq)) (ci := 6) (q0 := 0) rfl rfl)) rfl rfl hl.1 rfl (lv_room (Nat.le_of_ble_eq_true rfl)) dL_law_324 ⟨by omega, by omega⟩) hS hP hD hA (fun rm u2 H locs hr2 hP hD hS => ?_)
  obtain ⟨u1, o2, d2⟩ := u1
  obtain ⟨th2, τ⟩ := u2
  rcases hr1 with ⟨t, ri, ht, hr6, hp, ho⟩ | ⟨E, ht, hex, hr6⟩
  · skip
    obtain rfl : u1 = some t := ht
    obtain rfl : r1 = nI 0 := hr6
    obtain ⟨h1, h2, hr⟩ := hp
    rcases hr2 with ⟨g1, gu⟩ | ⟨g1, g2, gu⟩ | ⟨g1, g2, gu, gr⟩
    · skip
      first | exact absurd h1 g1 | exact absurd g1 h1 | exact absurd h2 g2 | exact absurd g2 h2 | exact absurd h3 g3 | exact absurd g3 h3 | exact absurd h4 g4 | exact absurd g4 h4
    · skip
      first | exact absurd h1 g1 | exact absurd g1 h1 | exact absurd h2 g2 | exact absurd g2 h2 | exact absurd h3 g3 | exact absurd g3 h3 | exact absurd h4 g4 | exact absurd g4 h4
    · skip
      obtain rfl : th2 = 0 := congrArg Prod.fst gu
      have gs : τ = exF σ (cN (xs (i + 1))) (cN (xs (i + 2))) := congrArg Prod.snd gu
      subst gs
      have hP : va_P D vwCl (LWd cy ad (exF σ (cN (xs (i + 1))) (cN (xs (i + 2)))) er ofd de bo ql qs tv ao aD o2 d2 am wo 0) H := hP
      have hD : va_D (fun q => s.heap.size ≤ q) (LWd cy ad (exF σ (cN (xs (i + 1))) (cN (xs (i + 2)))) er ofd de bo ql qs tv ao aD o2 d2 am wo 0) := hD
      refine lv_istore (lv' := [(7, .int rm), (6, .int (nI 0)), (5, .int (nI i)), (0, .ref b), (1, .ref (ad 0 0)), (2, .ref (am 0)), (3, .ref ao), (4, .ref aD)]) hx hb dL_law_327 hl (by decide) rfl (fun ls hl => ?_)
      refine lv_aload_n hx hb dL_law_329 rfl (lv_at hl 5 rfl) ?_
      refine ro_calli (va_runV (As := []) (rest := []) ⟨hx, hb, hml, hown, hts⟩ (c_X6_thrown l D cy am (exF σ (cN (xs (i + 1))) (cN (xs (i + 2)))) er wo 0 H (hP.mem (fun _ hq => List.mem_append_right _ hq))) (cwV 0 hts gL_law_X6_thrown rfl rfl rfl hdX6_thrown ⟨Nat.le_of_ble_eq_true rfl, Nat.le_of_ble_eq_true rfl⟩) (ro_preV hK (va_recv hK.1 (hP.mem (fun _ hq => List.mem_append_right _ hq)) (ci := 6) (q0 := 0) rfl rfl)) rfl rfl hl.1 rfl (lv_room (Nat.le_of_ble_eq_true rfl)) dL_law_330 ⟨by omega, by omega⟩) (fun r9 h9 => ?_)
      obtain rfl : r9 = nI 0 := h9
      refine lv_iload hx hb dL_law_333 (lv_at hl 1 rfl) ?_
      refine lv_icmp_eq (tgt := 340) hx hb dL_law_335 (by decide) (fun _ => ?_) (fun q => absurd rfl q)
      refine lv_iload hx hb dL_law_340 (lv_at hl 1 rfl) ?_
      refine lv_if_ne (tgt := 357) hx hb dL_law_342 (by decide) (fun q => by first | exact absurd q (by decide) | exact absurd (by decide) q) (fun _ => ?_)
      refine lv_aload_n hx hb dL_law_345 rfl (lv_at hl 6 rfl) ?_
      refine lv_iconst (v := nI 0) hx hb dL_law_346 (by decide) ?_
      refine lw_old hx hb hK hP dL_law_347 ?_
      refine lv_iload hx hb dL_law_348 (lv_at hl 0 rfl) ?_
      refine lv_i2l hx hb dL_law_350 rfl ?_
      refine lw_lcmpeq (tgt := 357) hx hb (ho.trans (congrArg Int32.toInt64 (hr.trans gr.symm))) dL_law_351 dL_law_352 (by decide) ?_
      refine lv_goto (tgt := 1317) hx hb dL_law_357 (by decide) ?_
      refine W.widen (k := cells + 2) (n := slots + 28) (by omega) (by omega) ?_
      exact K ad (exF σ (cN (xs (i + 1))) (cN (xs (i + 2)))) er ofd de dl bo ql qs tv am wo 0 ao aD o2 d2 H locs ls ⟨hIv.exps hn (isP_lt hIv h1) (okR_le h2 (by decide) (by decide)).2.1, hof.c rfl rfl, hbo.c rfl (Nat.le_refl _), hDL.c rfl rfl rfl, hQZ⟩ hP hD hS (lv_sub hl [2, 3, 4, 5, 6, 7] rfl)
  · skip
    obtain rfl : u1 = none := ht
    rcases hex with ⟨h1, hE⟩ | ⟨h1, h2, hE⟩
    · skip
      subst hE
      obtain rfl : r1 = nI 1 := hr6.trans (by decide +kernel)
      rcases hr2 with ⟨g1, gu⟩ | ⟨g1, g2, gu⟩ | ⟨g1, g2, gu, gr⟩
      · skip
        obtain rfl : th2 = 1 := congrArg Prod.fst gu
        have gs : σ = τ := (congrArg Prod.snd gu).symm
        subst gs
        have hP : va_P D vwCl (LWd cy ad σ er ofd de bo ql qs tv ao aD o2 d2 am wo 1) H := hP
        have hD : va_D (fun q => s.heap.size ≤ q) (LWd cy ad σ er ofd de bo ql qs tv ao aD o2 d2 am wo 1) := hD
        refine lv_istore (lv' := [(7, .int rm), (6, .int (nI 1)), (5, .int (nI i)), (0, .ref b), (1, .ref (ad 0 0)), (2, .ref (am 0)), (3, .ref ao), (4, .ref aD)]) hx hb dL_law_327 hl (by decide) rfl (fun ls hl => ?_)
        refine lv_aload_n hx hb dL_law_329 rfl (lv_at hl 5 rfl) ?_
        refine ro_calli (va_runV (As := []) (rest := []) ⟨hx, hb, hml, hown, hts⟩ (c_X6_thrown l D cy am σ er wo 1 H (hP.mem (fun _ hq => List.mem_append_right _ hq))) (cwV 0 hts gL_law_X6_thrown rfl rfl rfl hdX6_thrown ⟨Nat.le_of_ble_eq_true rfl, Nat.le_of_ble_eq_true rfl⟩) (ro_preV hK (va_recv hK.1 (hP.mem (fun _ hq => List.mem_append_right _ hq)) (ci := 6) (q0 := 0) rfl rfl)) rfl rfl hl.1 rfl (lv_room (Nat.le_of_ble_eq_true rfl)) dL_law_330 ⟨by omega, by omega⟩) (fun r9 h9 => ?_)
        obtain rfl : r9 = nI 1 := h9
        refine lv_iload hx hb dL_law_333 (lv_at hl 1 rfl) ?_
        refine lv_icmp_eq (tgt := 340) hx hb dL_law_335 (by decide) (fun _ => ?_) (fun q => absurd rfl q)
        refine lv_iload hx hb dL_law_340 (lv_at hl 1 rfl) ?_
        refine lv_if_ne (tgt := 357) hx hb dL_law_342 (by decide) (fun _ => ?_) (fun q => by first | exact absurd q (by decide) | exact absurd (by decide) q)
        refine lv_goto (tgt := 1317) hx hb dL_law_357 (by decide) ?_
        refine W.widen (k := cells + 2) (n := slots + 28) (by omega) (by omega) ?_
        exact K ad σ er ofd de dl bo ql qs tv am wo 1 ao aD o2 d2 H locs ls ⟨hI2, hof, hbo, hDL, hQZ⟩ hP hD hS (lv_sub hl [2, 3, 4, 5, 6, 7] rfl)
      · skip
        first | exact absurd h1 g1 | exact absurd g1 h1 | exact absurd h2 g2 | exact absurd g2 h2 | exact absurd h3 g3 | exact absurd g3 h3 | exact absurd h4 g4 | exact absurd g4 h4
      · skip
        first | exact absurd h1 g1 | exact absurd g1 h1 | exact absurd h2 g2 | exact absurd g2 h2 | exact absurd h3 g3 | exact absurd g3 h3 | exact absurd h4 g4 | exact absurd g4 h4
    · skip
      subst hE
      obtain rfl : r1 = nI 2 := hr6.trans (by decide +kernel)
      rcases hr2 with ⟨g1, gu⟩ | ⟨g1, g2, gu⟩ | ⟨g1, g2, gu, gr⟩
      · skip
        first | exact absurd h1 g1 | exact absurd g1 h1 | exact absurd h2 g2 | exact absurd g2 h2 | exact absurd h3 g3 | exact absurd g3 h3 | exact absurd h4 g4 | exact absurd g4 h4
      · skip
        obtain rfl : th2 = 2 := congrArg Prod.fst gu
        have gs : σ = τ := (congrArg Prod.snd gu).symm
        subst gs
        have hP : va_P D vwCl (LWd cy ad σ er ofd de bo ql qs tv ao aD o2 d2 am wo 2) H := hP
        have hD : va_D (fun q => s.heap.size ≤ q) (LWd cy ad σ er ofd de bo ql qs tv ao aD o2 d2 am wo 2) := hD
        refine lv_istore (lv' := [(7, .int rm), (6, .int (nI 2)), (5, .int (nI i)), (0, .ref b), (1, .ref (ad 0 0)), (2, .ref (am 0)), (3, .ref ao), (4, .ref aD)]) hx hb dL_law_327 hl (by decide) rfl (fun ls hl => ?_)
        refine lv_aload_n hx hb dL_law_329 rfl (lv_at hl 5 rfl) ?_
        refine ro_calli (va_runV (As := []) (rest := []) ⟨hx, hb, hml, hown, hts⟩ (c_X6_thrown l D cy am σ er wo 2 H (hP.mem (fun _ hq => List.mem_append_right _ hq))) (cwV 0 hts gL_law_X6_thrown rfl rfl rfl hdX6_thrown ⟨Nat.le_of_ble_eq_true rfl, Nat.le_of_ble_eq_true rfl⟩) (ro_preV hK (va_recv hK.1 (hP.mem (fun _ hq => List.mem_append_right _ hq)) (ci := 6) (q0 := 0) rfl rfl)) rfl rfl hl.1 rfl (lv_room (Nat.le_of_ble_eq_true rfl)) dL_law_330 ⟨by omega, by omega⟩) (fun r9 h9 => ?_)
        obtain rfl : r9 = nI 2 := h9
        refine lv_iload hx hb dL_law_333 (lv_at hl 1 rfl) ?_
        refine lv_icmp_eq (tgt := 340) hx hb dL_law_335 (by decide) (fun _ => ?_) (fun q => absurd rfl q)
        refine lv_iload hx hb dL_law_340 (lv_at hl 1 rfl) ?_
        refine lv_if_ne (tgt := 357) hx hb dL_law_342 (by decide) (fun _ => ?_) (fun q => by first | exact absurd q (by decide) | exact absurd (by decide) q)
        refine lv_goto (tgt := 1317) hx hb dL_law_357 (by decide) ?_
        refine W.widen (k := cells + 2) (n := slots + 28) (by omega) (by omega) ?_
        exact K ad σ er ofd de dl bo ql qs tv am wo 2 ao aD o2 d2 H locs ls ⟨hI2, hof, hbo, hDL, hQZ⟩ hP hD hS (lv_sub hl [2, 3, 4, 5, 6, 7] rfl)
      · skip
        first | exact absurd h1 g1 | exact absurd g1 h1 | exact absurd h2 g2 | exact absurd g2 h2 | exact absurd h3 g3 | exact absurd g3 h3 | exact absurd h4 g4 | exact absurd g4 h4
set_option maxHeartbeats 4000000 in
set_option maxRecDepth 100000 in
theorem law_setRate {p : Program} {l : Launch} {e : Env} {s : State} {m : MethodId} {below : List Frame} {meth : Method} {c : Code} {D : va_G} {cy : Nat → ClassId} {b L : Nat} {xs : Nat → Int32} {Q : State → Prop} (C : LX p l D cy s m c b L xs) {i n cells slots : Nat} (hi : i + 5 ≤ L) (hL : L ≤ 2560) (hn : n < 512) (hc : cells + 2 ≤ room_1.cells) (hs9 : slots + 28 ≤ room_1.slots) (K : LK p l e s m below meth c D cy b Q i (n + 1) 1317 (cells + 2) (slots + 28)) : LK p l e s m below meth c D cy b Q i n 360 cells slots := by
  obtain ⟨hx, hb, hml, hown, hts, hK, hXW, hXZ, hX, hbl, hfl⟩ := C
  intro ad σ er ofd de dl bo ql qs tv am wo th ao aD o d H locs ls hI hP hD hS hl
  obtain ⟨hIv, hof, hbo, hDL, hQZ⟩ := hI
  have hA : ∀ q, s.heap.size ≤ q → (fun q => s.heap.size ≤ q) q := fun q h => h
  have hbA : ¬ (fun q => s.heap.size ≤ q) b := Nat.not_le.mpr hbl
  have hI2 := hIv.more hn
  refine lv_aload_n hx hb dL_law_360 rfl (lv_at hl 2 rfl) ?_
  refine lv_aload_n hx hb dL_law_361 rfl (lv_at hl 1 rfl) ?_
  refine lv_iload hx hb dL_law_362 (lv_at hl 0 rfl) ?_
  refine lv_iconst (v := nI 1) hx hb dL_law_364 (by decide) ?_
  refine ln_iadd hx hb dL_law_365 (fun z hz => ?_)
  subst hz
  refine lw_sld hx hb hX hbl hbA hS (by omega) (by omega) dL_law_366 ?_
  refine lv_aload_n hx hb dL_law_367 rfl (lv_at hl 4 rfl) ?_
  refine al_calli (vx_runSW (As := [.ref (ad 0 0), .int (xs (i + 1)), .ref ao]) (rest := []) ⟨hx, hb, hml, hown, hts⟩ (c_L_setRate l hfl D cy ad σ er ofd de bo ql qs tv ((xs (i + 1))) ao aD o d H.size) (vx_cwSW 3 hts gL_law_L_setRate rfl rfl rfl hdL_setRate.2 ⟨Nat.le_of_ble_eq_true rfl, Nat.le_of_ble_eq_true rfl⟩) (xo_preS hK rfl (hP.mem (fun _ hq => List.mem_append_left _ hq)) (hD.subl (List.sublist_append_left _ _)) hXW (hXZ.at hS hD hA (fun _ hq => List.mem_append_left _ hq))) rfl rfl hl.1 rfl (lv_room (Nat.le_of_ble_eq_true rfl)) dL_law_368 ⟨by omega, by omega⟩) hS hP hD hA (fun r1 u1 H locs hr1 hP hD hS => ?_)
  refine lv_istore (lv' := [(6, .int r1), (5, .int (nI i)), (0, .ref b), (1, .ref (ad 0 0)), (2, .ref (am 0)), (3, .ref ao), (4, .ref aD)]) hx hb dL_law_371 hl (by decide) rfl (fun ls hl => ?_)
  refine lv_aload_n hx hb dL_law_373 rfl (lv_at hl 4 rfl) ?_
  refine lv_aload_n hx hb dL_law_374 rfl (lv_at hl 2 rfl) ?_
  refine lv_iload hx hb dL_law_375 (lv_at hl 1 rfl) ?_
  refine lv_iconst (v := nI 1) hx hb dL_law_377 (by decide) ?_
  refine ln_iadd hx hb dL_law_378 (fun z hz => ?_)
  subst hz
  refine lw_sld hx hb hX hbl hbA hS (by omega) (by omega) dL_law_379 ?_
  refine ap_calli (va_runV (As := [.int (xs (i + 1))]) (rest := []) ⟨hx, hb, hml, hown, hts⟩ (c_X6_setRate l D cy am σ er wo th ((xs (i + 1))) H.size) (cwV 1 hts gL_law_X6_setRate rfl rfl rfl hdX6_setRate ⟨Nat.le_of_ble_eq_true rfl, Nat.le_of_ble_eq_true rfl⟩) (mo_preV hK rfl (hP.mem (fun _ hq => List.mem_append_right _ hq)) (hD.subl (List.sublist_append_right _ _)) (va_recv hK.1 (hP.mem (fun _ hq => List.mem_append_right _ hq)) (ci := 6) (q0 := 0) rfl rfl)) rfl rfl hl.1 rfl (lv_room (Nat.le_of_ble_eq_true rfl)) dL_law_380 ⟨by omega, by omega⟩) hS hP hD hA (fun rm u2 H locs hr2 hP hD hS => ?_)
  obtain ⟨u1, o2, d2⟩ := u1
  obtain ⟨th2, τ⟩ := u2
  rcases hr1 with ⟨t, ri, ht, hr6, hp, ho⟩ | ⟨E, ht, hex, hr6⟩
  · skip
    obtain rfl : u1 = some t := ht
    obtain rfl : r1 = nI 0 := hr6
    obtain ⟨h1, hr⟩ := hp
    rcases hr2 with ⟨g1, gu, gr⟩ | ⟨g1, gu⟩
    · skip
      obtain rfl : th2 = 0 := congrArg Prod.fst gu
      have gs : τ = raF σ (cN (xs (i + 1))) := congrArg Prod.snd gu
      subst gs
      have hP : va_P D vwCl (LWd cy ad (raF σ (cN (xs (i + 1)))) er ofd de bo ql qs tv ao aD o2 d2 am wo 0) H := hP
      have hD : va_D (fun q => s.heap.size ≤ q) (LWd cy ad (raF σ (cN (xs (i + 1)))) er ofd de bo ql qs tv ao aD o2 d2 am wo 0) := hD
      refine lv_istore (lv' := [(7, .int rm), (6, .int (nI 0)), (5, .int (nI i)), (0, .ref b), (1, .ref (ad 0 0)), (2, .ref (am 0)), (3, .ref ao), (4, .ref aD)]) hx hb dL_law_383 hl (by decide) rfl (fun ls hl => ?_)
      refine lv_aload_n hx hb dL_law_385 rfl (lv_at hl 5 rfl) ?_
      refine ro_calli (va_runV (As := []) (rest := []) ⟨hx, hb, hml, hown, hts⟩ (c_X6_thrown l D cy am (raF σ (cN (xs (i + 1)))) er wo 0 H (hP.mem (fun _ hq => List.mem_append_right _ hq))) (cwV 0 hts gL_law_X6_thrown rfl rfl rfl hdX6_thrown ⟨Nat.le_of_ble_eq_true rfl, Nat.le_of_ble_eq_true rfl⟩) (ro_preV hK (va_recv hK.1 (hP.mem (fun _ hq => List.mem_append_right _ hq)) (ci := 6) (q0 := 0) rfl rfl)) rfl rfl hl.1 rfl (lv_room (Nat.le_of_ble_eq_true rfl)) dL_law_386 ⟨by omega, by omega⟩) (fun r9 h9 => ?_)
      obtain rfl : r9 = nI 0 := h9
      refine lv_iload hx hb dL_law_389 (lv_at hl 1 rfl) ?_
      refine lv_icmp_eq (tgt := 396) hx hb dL_law_391 (by decide) (fun _ => ?_) (fun q => absurd rfl q)
      refine lv_iload hx hb dL_law_396 (lv_at hl 1 rfl) ?_
      refine lv_if_ne (tgt := 413) hx hb dL_law_398 (by decide) (fun q => by first | exact absurd q (by decide) | exact absurd (by decide) q) (fun _ => ?_)
      refine lv_aload_n hx hb dL_law_401 rfl (lv_at hl 6 rfl) ?_
      refine lv_iconst (v := nI 0) hx hb dL_law_402 (by decide) ?_
      refine lw_old hx hb hK hP dL_law_403 ?_
      refine lv_iload hx hb dL_law_404 (lv_at hl 0 rfl) ?_
      refine lv_i2l hx hb dL_law_406 rfl ?_
      refine lw_lcmpeq (tgt := 413) hx hb (ho.trans (congrArg Int32.toInt64 (hr.trans gr.symm))) dL_law_407 dL_law_408 (by decide) ?_
      refine lv_goto (tgt := 1317) hx hb dL_law_413 (by decide) ?_
      refine W.widen (k := cells + 2) (n := slots + 28) (by omega) (by omega) ?_
      exact K ad (raF σ (cN (xs (i + 1)))) er ofd de dl bo ql qs tv am wo 0 ao aD o2 d2 H locs ls ⟨hIv.rate hn (okR_le h1 (by decide) (by decide)).1 (okR_le h1 (by decide) (by decide)).2.1, hof.c rfl rfl, hbo.c rfl (Nat.le_refl _), hDL.c rfl rfl rfl, hQZ⟩ hP hD hS (lv_sub hl [2, 3, 4, 5, 6, 7] rfl)
    · skip
      first | exact absurd h1 g1 | exact absurd g1 h1 | exact absurd h2 g2 | exact absurd g2 h2 | exact absurd h3 g3 | exact absurd g3 h3 | exact absurd h4 g4 | exact absurd g4 h4
  · skip
    obtain rfl : u1 = none := ht
    rcases hex with ⟨h1, hE⟩
    · skip
      subst hE
      obtain rfl : r1 = nI 1 := hr6.trans (by decide +kernel)
      rcases hr2 with ⟨g1, gu, gr⟩ | ⟨g1, gu⟩
      · skip
        first | exact absurd h1 g1 | exact absurd g1 h1 | exact absurd h2 g2 | exact absurd g2 h2 | exact absurd h3 g3 | exact absurd g3 h3 | exact absurd h4 g4 | exact absurd g4 h4
      · skip
        obtain rfl : th2 = 1 := congrArg Prod.fst gu
        have gs : σ = τ := (congrArg Prod.snd gu).symm
        subst gs
        have hP : va_P D vwCl (LWd cy ad σ er ofd de bo ql qs tv ao aD o2 d2 am wo 1) H := hP
        have hD : va_D (fun q => s.heap.size ≤ q) (LWd cy ad σ er ofd de bo ql qs tv ao aD o2 d2 am wo 1) := hD
        refine lv_istore (lv' := [(7, .int rm), (6, .int (nI 1)), (5, .int (nI i)), (0, .ref b), (1, .ref (ad 0 0)), (2, .ref (am 0)), (3, .ref ao), (4, .ref aD)]) hx hb dL_law_383 hl (by decide) rfl (fun ls hl => ?_)
        refine lv_aload_n hx hb dL_law_385 rfl (lv_at hl 5 rfl) ?_
        refine ro_calli (va_runV (As := []) (rest := []) ⟨hx, hb, hml, hown, hts⟩ (c_X6_thrown l D cy am σ er wo 1 H (hP.mem (fun _ hq => List.mem_append_right _ hq))) (cwV 0 hts gL_law_X6_thrown rfl rfl rfl hdX6_thrown ⟨Nat.le_of_ble_eq_true rfl, Nat.le_of_ble_eq_true rfl⟩) (ro_preV hK (va_recv hK.1 (hP.mem (fun _ hq => List.mem_append_right _ hq)) (ci := 6) (q0 := 0) rfl rfl)) rfl rfl hl.1 rfl (lv_room (Nat.le_of_ble_eq_true rfl)) dL_law_386 ⟨by omega, by omega⟩) (fun r9 h9 => ?_)
        obtain rfl : r9 = nI 1 := h9
        refine lv_iload hx hb dL_law_389 (lv_at hl 1 rfl) ?_
        refine lv_icmp_eq (tgt := 396) hx hb dL_law_391 (by decide) (fun _ => ?_) (fun q => absurd rfl q)
        refine lv_iload hx hb dL_law_396 (lv_at hl 1 rfl) ?_
        refine lv_if_ne (tgt := 413) hx hb dL_law_398 (by decide) (fun _ => ?_) (fun q => by first | exact absurd q (by decide) | exact absurd (by decide) q)
        refine lv_goto (tgt := 1317) hx hb dL_law_413 (by decide) ?_
        refine W.widen (k := cells + 2) (n := slots + 28) (by omega) (by omega) ?_
        exact K ad σ er ofd de dl bo ql qs tv am wo 1 ao aD o2 d2 H locs ls ⟨hI2, hof, hbo, hDL, hQZ⟩ hP hD hS (lv_sub hl [2, 3, 4, 5, 6, 7] rfl)
set_option maxHeartbeats 4000000 in
set_option maxRecDepth 100000 in
theorem law_ask {p : Program} {l : Launch} {e : Env} {s : State} {m : MethodId} {below : List Frame} {meth : Method} {c : Code} {D : va_G} {cy : Nat → ClassId} {b L : Nat} {xs : Nat → Int32} {Q : State → Prop} (C : LX p l D cy s m c b L xs) {i n cells slots : Nat} (hi : i + 5 ≤ L) (hL : L ≤ 2560) (hn : n < 512) (hc : cells + 2 ≤ room_1.cells) (hs9 : slots + 28 ≤ room_1.slots) (K : LK p l e s m below meth c D cy b Q i (n + 1) 1317 (cells + 2) (slots + 28)) : LK p l e s m below meth c D cy b Q i n 416 cells slots := by
  obtain ⟨hx, hb, hml, hown, hts, hK, hXW, hXZ, hX, hbl, hfl⟩ := C
  intro ad σ er ofd de dl bo ql qs tv am wo th ao aD o d H locs ls hI hP hD hS hl
  obtain ⟨hIv, hof, hbo, hDL, hQZ⟩ := hI
  have hA : ∀ q, s.heap.size ≤ q → (fun q => s.heap.size ≤ q) q := fun q h => h
  have hbA : ¬ (fun q => s.heap.size ≤ q) b := Nat.not_le.mpr hbl
  have hI2 := hIv.more hn
  refine lv_aload_n hx hb dL_law_416 rfl (lv_at hl 2 rfl) ?_
  refine lv_aload_n hx hb dL_law_417 rfl (lv_at hl 1 rfl) ?_
  refine lv_iload hx hb dL_law_418 (lv_at hl 0 rfl) ?_
  refine lv_iconst (v := nI 1) hx hb dL_law_420 (by decide) ?_
  refine ln_iadd hx hb dL_law_421 (fun z hz => ?_)
  subst hz
  refine lw_sld hx hb hX hbl hbA hS (by omega) (by omega) dL_law_422 ?_
  refine lv_aload_n hx hb dL_law_423 rfl (lv_at hl 4 rfl) ?_
  refine al_calli (vx_runSW (As := [.ref (ad 0 0), .int (xs (i + 1)), .ref ao]) (rest := []) ⟨hx, hb, hml, hown, hts⟩ (c_L_ask l hfl D cy ad σ er ofd de bo ql qs tv hof hbo hIv hDL hQZ hn ((xs (i + 1))) ao aD o d H.size) (vx_cwSW 3 hts gL_law_L_ask rfl rfl rfl hdL_ask.2 ⟨Nat.le_of_ble_eq_true rfl, Nat.le_of_ble_eq_true rfl⟩) (xo_preS hK rfl (hP.mem (fun _ hq => List.mem_append_left _ hq)) (hD.subl (List.sublist_append_left _ _)) hXW (hXZ.at hS hD hA (fun _ hq => List.mem_append_left _ hq))) rfl rfl hl.1 rfl (lv_room (Nat.le_of_ble_eq_true rfl)) dL_law_424 ⟨by omega, by omega⟩) hS hP hD hA (fun r1 u1 H locs hr1 hP hD hS => ?_)
  refine lv_istore (lv' := [(6, .int r1), (5, .int (nI i)), (0, .ref b), (1, .ref (ad 0 0)), (2, .ref (am 0)), (3, .ref ao), (4, .ref aD)]) hx hb dL_law_427 hl (by decide) rfl (fun ls hl => ?_)
  refine lv_aload_n hx hb dL_law_429 rfl (lv_at hl 4 rfl) ?_
  refine lv_aload_n hx hb dL_law_430 rfl (lv_at hl 2 rfl) ?_
  refine lv_iload hx hb dL_law_431 (lv_at hl 1 rfl) ?_
  refine lv_iconst (v := nI 1) hx hb dL_law_433 (by decide) ?_
  refine ln_iadd hx hb dL_law_434 (fun z hz => ?_)
  subst hz
  refine lw_sld hx hb hX hbl hbA hS (by omega) (by omega) dL_law_435 ?_
  refine ap_calli (va_runV (As := [.int (xs (i + 1))]) (rest := []) ⟨hx, hb, hml, hown, hts⟩ (c_X6_ask l D cy am σ er wo th hIv hn ((xs (i + 1))) H.size) (cwV 1 hts gL_law_X6_ask rfl rfl rfl hdX6_ask ⟨Nat.le_of_ble_eq_true rfl, Nat.le_of_ble_eq_true rfl⟩) (mo_preV hK rfl (hP.mem (fun _ hq => List.mem_append_right _ hq)) (hD.subl (List.sublist_append_right _ _)) (va_recv hK.1 (hP.mem (fun _ hq => List.mem_append_right _ hq)) (ci := 6) (q0 := 0) rfl rfl)) rfl rfl hl.1 rfl (lv_room (Nat.le_of_ble_eq_true rfl)) dL_law_436 ⟨by omega, by omega⟩) hS hP hD hA (fun rm u2 H locs hr2 hP hD hS => ?_)
  obtain ⟨u1, o2, d2⟩ := u1
  obtain ⟨th2, τ, wo2⟩ := u2
  rcases hr1 with ⟨t, ri, ht, hr6, hp, ho⟩ | ⟨E, ht, hex, hr6⟩
  · skip
    obtain rfl : u1 = some t := ht
    obtain rfl : r1 = nI 0 := hr6
    obtain ⟨ad2, τ1, bo2, ql2, qs2⟩ := t
    obtain ⟨h1, h2, ha, hok⟩ := hp
    rcases hr2 with ⟨g1, gu, gs⟩ | ⟨g1, g2, gu, gs⟩ | ⟨g1, g2, gu, ga⟩
    · skip
      first | exact absurd h1 g1 | exact absurd g1 h1 | exact absurd h2 g2 | exact absurd g2 h2 | exact absurd h3 g3 | exact absurd g3 h3 | exact absurd h4 g4 | exact absurd g4 h4
    · skip
      first | exact absurd h1 g1 | exact absurd g1 h1 | exact absurd h2 g2 | exact absurd g2 h2 | exact absurd h3 g3 | exact absurd g3 h3 | exact absurd h4 g4 | exact absurd g4 h4
    · skip
      obtain rfl : th2 = 0 := gu
      obtain ⟨hrr, hττ⟩ := askA_fun ha ga
      have hττ : τ1 = τ := hττ
      subst hττ
      obtain ⟨k1, k2, k3, k4, k5⟩ := hok
      have k1 : QZ qs2 := k1
      have k2 : BO ad2 τ1 bo2 := k2
      have k3 : ad2 1 = ad 1 := k3
      have k5 : ad2 0 = ad 0 := k5
      obtain ⟨e1, e2⟩ := ask_keep ha
      have e1 : τ1 0 0 = σ 0 0 := e1
      have e2 : τ1 5 = σ 5 := e2
      have hP : va_P D vwCl (LWd cy ad2 (τ1) er ofd de bo2 ql2 qs2 tv ao aD o2 d2 am wo2 0) H := hP
      have hD : va_D (fun q => s.heap.size ≤ q) (LWd cy ad2 (τ1) er ofd de bo2 ql2 qs2 tv ao aD o2 d2 am wo2 0) := hD
      refine lv_istore (lv' := [(7, .int rm), (6, .int (nI 0)), (5, .int (nI i)), (0, .ref b), (1, .ref (ad 0 0)), (2, .ref (am 0)), (3, .ref ao), (4, .ref aD)]) hx hb dL_law_439 hl (by decide) rfl (fun ls hl => ?_)
      refine lv_aload_n hx hb dL_law_441 rfl (lv_at hl 5 rfl) ?_
      refine ro_calli (va_runV (As := []) (rest := []) ⟨hx, hb, hml, hown, hts⟩ (c_X6_thrown l D cy am (τ1) er wo2 0 H (hP.mem (fun _ hq => List.mem_append_right _ hq))) (cwV 0 hts gL_law_X6_thrown rfl rfl rfl hdX6_thrown ⟨Nat.le_of_ble_eq_true rfl, Nat.le_of_ble_eq_true rfl⟩) (ro_preV hK (va_recv hK.1 (hP.mem (fun _ hq => List.mem_append_right _ hq)) (ci := 6) (q0 := 0) rfl rfl)) rfl rfl hl.1 rfl (lv_room (Nat.le_of_ble_eq_true rfl)) dL_law_442 ⟨by omega, by omega⟩) (fun r9 h9 => ?_)
      obtain rfl : r9 = nI 0 := h9
      refine lv_iload hx hb dL_law_445 (lv_at hl 1 rfl) ?_
      refine lv_icmp_eq (tgt := 452) hx hb dL_law_447 (by decide) (fun _ => ?_) (fun q => absurd rfl q)
      refine lv_iload hx hb dL_law_452 (lv_at hl 1 rfl) ?_
      refine lv_if_ne (tgt := 469) hx hb dL_law_454 (by decide) (fun q => by first | exact absurd q (by decide) | exact absurd (by decide) q) (fun _ => ?_)
      refine lv_aload_n hx hb dL_law_457 rfl (lv_at hl 6 rfl) ?_
      refine lv_iconst (v := nI 0) hx hb dL_law_458 (by decide) ?_
      refine lw_old hx hb hK hP dL_law_459 ?_
      refine lv_iload hx hb dL_law_460 (lv_at hl 0 rfl) ?_
      refine lv_i2l hx hb dL_law_462 rfl ?_
      refine lw_lcmpeq (tgt := 469) hx hb (ho.trans (congrArg Int32.toInt64 hrr)) dL_law_463 dL_law_464 (by decide) ?_
      refine lv_goto (tgt := 1317) hx hb dL_law_469 (by decide) ?_
      refine W.widen (k := cells + 2) (n := slots + 28) (by omega) (by omega) ?_
      rw [show ad 0 0 = ad2 0 0 by rw [k5]] at hl
      exact K ad2 (τ1) er ofd de dl bo2 ql2 qs2 tv am wo2 0 ao aD o2 d2 H locs ls ⟨Iv_ask hIv hn (isP_lt hIv h1) h2 ha, hof.c k3 e1, k2, hDL.c k3 e1 e2, k1⟩ hP hD hS (lv_sub hl [2, 3, 4, 5, 6, 7] rfl)
  · skip
    obtain rfl : u1 = none := ht
    rcases hex with ⟨h1, hE⟩ | ⟨h1, h2, hE⟩
    · skip
      subst hE
      obtain rfl : r1 = nI 1 := hr6.trans (by decide +kernel)
      rcases hr2 with ⟨g1, gu, gs⟩ | ⟨g1, g2, gu, gs⟩ | ⟨g1, g2, gu, ga⟩
      · skip
        obtain rfl : th2 = 1 := gu
        have gs9 : σ = τ := gs.symm
        subst gs9
        have hP : va_P D vwCl (LWd cy ad σ er ofd de bo ql qs tv ao aD o2 d2 am wo2 1) H := hP
        have hD : va_D (fun q => s.heap.size ≤ q) (LWd cy ad σ er ofd de bo ql qs tv ao aD o2 d2 am wo2 1) := hD
        refine lv_istore (lv' := [(7, .int rm), (6, .int (nI 1)), (5, .int (nI i)), (0, .ref b), (1, .ref (ad 0 0)), (2, .ref (am 0)), (3, .ref ao), (4, .ref aD)]) hx hb dL_law_439 hl (by decide) rfl (fun ls hl => ?_)
        refine lv_aload_n hx hb dL_law_441 rfl (lv_at hl 5 rfl) ?_
        refine ro_calli (va_runV (As := []) (rest := []) ⟨hx, hb, hml, hown, hts⟩ (c_X6_thrown l D cy am σ er wo2 1 H (hP.mem (fun _ hq => List.mem_append_right _ hq))) (cwV 0 hts gL_law_X6_thrown rfl rfl rfl hdX6_thrown ⟨Nat.le_of_ble_eq_true rfl, Nat.le_of_ble_eq_true rfl⟩) (ro_preV hK (va_recv hK.1 (hP.mem (fun _ hq => List.mem_append_right _ hq)) (ci := 6) (q0 := 0) rfl rfl)) rfl rfl hl.1 rfl (lv_room (Nat.le_of_ble_eq_true rfl)) dL_law_442 ⟨by omega, by omega⟩) (fun r9 h9 => ?_)
        obtain rfl : r9 = nI 1 := h9
        refine lv_iload hx hb dL_law_445 (lv_at hl 1 rfl) ?_
        refine lv_icmp_eq (tgt := 452) hx hb dL_law_447 (by decide) (fun _ => ?_) (fun q => absurd rfl q)
        refine lv_iload hx hb dL_law_452 (lv_at hl 1 rfl) ?_
        refine lv_if_ne (tgt := 469) hx hb dL_law_454 (by decide) (fun _ => ?_) (fun q => by first | exact absurd q (by decide) | exact absurd (by decide) q)
        refine lv_goto (tgt := 1317) hx hb dL_law_469 (by decide) ?_
        refine W.widen (k := cells + 2) (n := slots + 28) (by omega) (by omega) ?_
        exact K ad σ er ofd de dl bo ql qs tv am wo2 1 ao aD o2 d2 H locs ls ⟨hI2, hof, hbo, hDL, hQZ⟩ hP hD hS (lv_sub hl [2, 3, 4, 5, 6, 7] rfl)
      · skip
        first | exact absurd h1 g1 | exact absurd g1 h1 | exact absurd h2 g2 | exact absurd g2 h2 | exact absurd h3 g3 | exact absurd g3 h3 | exact absurd h4 g4 | exact absurd g4 h4
      · skip
        first | exact absurd h1 g1 | exact absurd g1 h1 | exact absurd h2 g2 | exact absurd g2 h2 | exact absurd h3 g3 | exact absurd g3 h3 | exact absurd h4 g4 | exact absurd g4 h4
    · skip
      subst hE
      obtain rfl : r1 = nI 2 := hr6.trans (by decide +kernel)
      rcases hr2 with ⟨g1, gu, gs⟩ | ⟨g1, g2, gu, gs⟩ | ⟨g1, g2, gu, ga⟩
      · skip
        first | exact absurd h1 g1 | exact absurd g1 h1 | exact absurd h2 g2 | exact absurd g2 h2 | exact absurd h3 g3 | exact absurd g3 h3 | exact absurd h4 g4 | exact absurd g4 h4
      · skip
        obtain rfl : th2 = 2 := gu
        have gs9 : σ = τ := gs.symm
        subst gs9
        have hP : va_P D vwCl (LWd cy ad σ er ofd de bo ql qs tv ao aD o2 d2 am wo2 2) H := hP
        have hD : va_D (fun q => s.heap.size ≤ q) (LWd cy ad σ er ofd de bo ql qs tv ao aD o2 d2 am wo2 2) := hD
        refine lv_istore (lv' := [(7, .int rm), (6, .int (nI 2)), (5, .int (nI i)), (0, .ref b), (1, .ref (ad 0 0)), (2, .ref (am 0)), (3, .ref ao), (4, .ref aD)]) hx hb dL_law_439 hl (by decide) rfl (fun ls hl => ?_)
        refine lv_aload_n hx hb dL_law_441 rfl (lv_at hl 5 rfl) ?_
        refine ro_calli (va_runV (As := []) (rest := []) ⟨hx, hb, hml, hown, hts⟩ (c_X6_thrown l D cy am σ er wo2 2 H (hP.mem (fun _ hq => List.mem_append_right _ hq))) (cwV 0 hts gL_law_X6_thrown rfl rfl rfl hdX6_thrown ⟨Nat.le_of_ble_eq_true rfl, Nat.le_of_ble_eq_true rfl⟩) (ro_preV hK (va_recv hK.1 (hP.mem (fun _ hq => List.mem_append_right _ hq)) (ci := 6) (q0 := 0) rfl rfl)) rfl rfl hl.1 rfl (lv_room (Nat.le_of_ble_eq_true rfl)) dL_law_442 ⟨by omega, by omega⟩) (fun r9 h9 => ?_)
        obtain rfl : r9 = nI 2 := h9
        refine lv_iload hx hb dL_law_445 (lv_at hl 1 rfl) ?_
        refine lv_icmp_eq (tgt := 452) hx hb dL_law_447 (by decide) (fun _ => ?_) (fun q => absurd rfl q)
        refine lv_iload hx hb dL_law_452 (lv_at hl 1 rfl) ?_
        refine lv_if_ne (tgt := 469) hx hb dL_law_454 (by decide) (fun _ => ?_) (fun q => by first | exact absurd q (by decide) | exact absurd (by decide) q)
        refine lv_goto (tgt := 1317) hx hb dL_law_469 (by decide) ?_
        refine W.widen (k := cells + 2) (n := slots + 28) (by omega) (by omega) ?_
        exact K ad σ er ofd de dl bo ql qs tv am wo2 2 ao aD o2 d2 H locs ls ⟨hI2, hof, hbo, hDL, hQZ⟩ hP hD hS (lv_sub hl [2, 3, 4, 5, 6, 7] rfl)
      · skip
        first | exact absurd h1 g1 | exact absurd g1 h1 | exact absurd h2 g2 | exact absurd g2 h2 | exact absurd h3 g3 | exact absurd g3 h3 | exact absurd h4 g4 | exact absurd g4 h4
set_option maxHeartbeats 4000000 in
set_option maxRecDepth 100000 in
theorem law_group {p : Program} {l : Launch} {e : Env} {s : State} {m : MethodId} {below : List Frame} {meth : Method} {c : Code} {D : va_G} {cy : Nat → ClassId} {b L : Nat} {xs : Nat → Int32} {Q : State → Prop} (C : LX p l D cy s m c b L xs) {i n cells slots : Nat} (hi : i + 5 ≤ L) (hL : L ≤ 2560) (hn : n < 512) (hc : cells + 2 ≤ room_1.cells) (hs9 : slots + 28 ≤ room_1.slots) (K : LK p l e s m below meth c D cy b Q i (n + 1) 1317 (cells + 2) (slots + 28)) : LK p l e s m below meth c D cy b Q i n 472 cells slots := by
  obtain ⟨hx, hb, hml, hown, hts, hK, hXW, hXZ, hX, hbl, hfl⟩ := C
  intro ad σ er ofd de dl bo ql qs tv am wo th ao aD o d H locs ls hI hP hD hS hl
  obtain ⟨hIv, hof, hbo, hDL, hQZ⟩ := hI
  have hA : ∀ q, s.heap.size ≤ q → (fun q => s.heap.size ≤ q) q := fun q h => h
  have hbA : ¬ (fun q => s.heap.size ≤ q) b := Nat.not_le.mpr hbl
  have hI2 := hIv.more hn
  refine lv_aload_n hx hb dL_law_472 rfl (lv_at hl 2 rfl) ?_
  refine lv_aload_n hx hb dL_law_473 rfl (lv_at hl 1 rfl) ?_
  refine lv_iload hx hb dL_law_474 (lv_at hl 0 rfl) ?_
  refine lv_iconst (v := nI 1) hx hb dL_law_476 (by decide) ?_
  refine ln_iadd hx hb dL_law_477 (fun z hz => ?_)
  subst hz
  refine lw_sld hx hb hX hbl hbA hS (by omega) (by omega) dL_law_478 ?_
  refine lv_aload_n hx hb dL_law_479 rfl (lv_at hl 1 rfl) ?_
  refine lv_iload hx hb dL_law_480 (lv_at hl 0 rfl) ?_
  refine lv_iconst (v := nI 2) hx hb dL_law_482 (by decide) ?_
  refine ln_iadd hx hb dL_law_483 (fun z hz => ?_)
  subst hz
  refine lw_sld hx hb hX hbl hbA hS (by omega) (by omega) dL_law_484 ?_
  refine lv_aload_n hx hb dL_law_485 rfl (lv_at hl 1 rfl) ?_
  refine lv_iload hx hb dL_law_486 (lv_at hl 0 rfl) ?_
  refine lv_iconst (v := nI 3) hx hb dL_law_488 (by decide) ?_
  refine ln_iadd hx hb dL_law_489 (fun z hz => ?_)
  subst hz
  refine lw_sld hx hb hX hbl hbA hS (by omega) (by omega) dL_law_490 ?_
  refine lv_aload_n hx hb dL_law_491 rfl (lv_at hl 1 rfl) ?_
  refine lv_iload hx hb dL_law_492 (lv_at hl 0 rfl) ?_
  refine lv_iconst (v := nI 4) hx hb dL_law_494 (by decide) ?_
  refine ln_iadd hx hb dL_law_495 (fun z hz => ?_)
  subst hz
  refine lw_sld hx hb hX hbl hbA hS (by omega) (by omega) dL_law_496 ?_
  refine lv_aload_n hx hb dL_law_497 rfl (lv_at hl 4 rfl) ?_
  refine al_calli (vx_runSW (As := [.ref (ad 0 0), .int (xs (i + 1)), .int (xs (i + 2)), .int (xs (i + 3)), .int (xs (i + 4)), .ref ao]) (rest := []) ⟨hx, hb, hml, hown, hts⟩ (c_L_group l hfl D cy ad σ er ofd de bo ql qs tv hbo hIv hDL hQZ ((xs (i + 1))) ((xs (i + 2))) ((xs (i + 3))) ((xs (i + 4))) ao aD o d H.size) (vx_cwSW 6 hts gL_law_L_group rfl rfl rfl hdL_group.2 ⟨Nat.le_of_ble_eq_true rfl, Nat.le_of_ble_eq_true rfl⟩) (xo_preS hK rfl (hP.mem (fun _ hq => List.mem_append_left _ hq)) (hD.subl (List.sublist_append_left _ _)) hXW (hXZ.at hS hD hA (fun _ hq => List.mem_append_left _ hq))) rfl rfl hl.1 rfl (lv_room (Nat.le_of_ble_eq_true rfl)) dL_law_498 ⟨by omega, by omega⟩) hS hP hD hA (fun r1 u1 H locs hr1 hP hD hS => ?_)
  refine lv_istore (lv' := [(6, .int r1), (5, .int (nI i)), (0, .ref b), (1, .ref (ad 0 0)), (2, .ref (am 0)), (3, .ref ao), (4, .ref aD)]) hx hb dL_law_501 hl (by decide) rfl (fun ls hl => ?_)
  refine lv_aload_n hx hb dL_law_503 rfl (lv_at hl 4 rfl) ?_
  refine lv_aload_n hx hb dL_law_504 rfl (lv_at hl 2 rfl) ?_
  refine lv_iload hx hb dL_law_505 (lv_at hl 1 rfl) ?_
  refine lv_iconst (v := nI 1) hx hb dL_law_507 (by decide) ?_
  refine ln_iadd hx hb dL_law_508 (fun z hz => ?_)
  subst hz
  refine lw_sld hx hb hX hbl hbA hS (by omega) (by omega) dL_law_509 ?_
  refine lv_aload_n hx hb dL_law_510 rfl (lv_at hl 2 rfl) ?_
  refine lv_iload hx hb dL_law_511 (lv_at hl 1 rfl) ?_
  refine lv_iconst (v := nI 2) hx hb dL_law_513 (by decide) ?_
  refine ln_iadd hx hb dL_law_514 (fun z hz => ?_)
  subst hz
  refine lw_sld hx hb hX hbl hbA hS (by omega) (by omega) dL_law_515 ?_
  refine lv_aload_n hx hb dL_law_516 rfl (lv_at hl 2 rfl) ?_
  refine lv_iload hx hb dL_law_517 (lv_at hl 1 rfl) ?_
  refine lv_iconst (v := nI 3) hx hb dL_law_519 (by decide) ?_
  refine ln_iadd hx hb dL_law_520 (fun z hz => ?_)
  subst hz
  refine lw_sld hx hb hX hbl hbA hS (by omega) (by omega) dL_law_521 ?_
  refine lv_aload_n hx hb dL_law_522 rfl (lv_at hl 2 rfl) ?_
  refine lv_iload hx hb dL_law_523 (lv_at hl 1 rfl) ?_
  refine lv_iconst (v := nI 4) hx hb dL_law_525 (by decide) ?_
  refine ln_iadd hx hb dL_law_526 (fun z hz => ?_)
  subst hz
  refine lw_sld hx hb hX hbl hbA hS (by omega) (by omega) dL_law_527 ?_
  refine ap_calli (va_runV (As := [.int (xs (i + 1)), .int (xs (i + 2)), .int (xs (i + 3)), .int (xs (i + 4))]) (rest := []) ⟨hx, hb, hml, hown, hts⟩ (c_X6_group l D cy am σ er wo th hIv ((xs (i + 1))) ((xs (i + 2))) ((xs (i + 3))) ((xs (i + 4))) H.size) (cwV 4 hts gL_law_X6_group rfl rfl rfl hdX6_group ⟨Nat.le_of_ble_eq_true rfl, Nat.le_of_ble_eq_true rfl⟩) (mo_preV hK rfl (hP.mem (fun _ hq => List.mem_append_right _ hq)) (hD.subl (List.sublist_append_right _ _)) (va_recv hK.1 (hP.mem (fun _ hq => List.mem_append_right _ hq)) (ci := 6) (q0 := 0) rfl rfl)) rfl rfl hl.1 rfl (lv_room (Nat.le_of_ble_eq_true rfl)) dL_law_528 ⟨by omega, by omega⟩) hS hP hD hA (fun rm u2 H locs hr2 hP hD hS => ?_)
  obtain ⟨u1, o2, d2⟩ := u1
  obtain ⟨th2, τ, wo2⟩ := u2
  rcases hr1 with ⟨t, ri, ht, hr6, hp, ho⟩ | ⟨E, ht, hex, hr6⟩
  · skip
    obtain rfl : u1 = some t := ht
    obtain rfl : r1 = nI 0 := hr6
    obtain ⟨ad2, τ1, bo2, ql2, qs2⟩ := t
    obtain ⟨h1, h2, h3, ha, hok⟩ := hp
    rcases hr2 with ⟨g1, gu, gs⟩ | ⟨g1, g2, gu, gs⟩ | ⟨g1, g2, g3, gu, gs⟩ | ⟨g1, g2, g3, gu, ga⟩
    · skip
      first | exact absurd h1 g1 | exact absurd g1 h1 | exact absurd h2 g2 | exact absurd g2 h2 | exact absurd h3 g3 | exact absurd g3 h3 | exact absurd h4 g4 | exact absurd g4 h4
    · skip
      first | exact absurd h1 g1 | exact absurd g1 h1 | exact absurd h2 g2 | exact absurd g2 h2 | exact absurd h3 g3 | exact absurd g3 h3 | exact absurd h4 g4 | exact absurd g4 h4
    · skip
      first | exact absurd h1 g1 | exact absurd g1 h1 | exact absurd h2 g2 | exact absurd g2 h2 | exact absurd h3 g3 | exact absurd g3 h3 | exact absurd h4 g4 | exact absurd g4 h4
    · skip
      obtain rfl : th2 = 0 := gu
      obtain ⟨hrr, hττ⟩ := grpA_fun ha ga
      have hττ : τ1 = τ := hττ
      subst hττ
      obtain ⟨k1, k2, k3, k4, k5⟩ := hok
      have k1 : QZ qs2 := k1
      have k2 : BO ad2 τ1 bo2 := k2
      have k3 : ad2 1 = ad 1 := k3
      have k5 : ad2 0 = ad 0 := k5
      obtain ⟨e1, e2⟩ := grp_keep ha
      have e1 : τ1 0 0 = σ 0 0 := e1
      have e2 : τ1 5 = σ 5 := e2
      have hP : va_P D vwCl (LWd cy ad2 (τ1) er ofd de bo2 ql2 qs2 tv ao aD o2 d2 am wo2 0) H := hP
      have hD : va_D (fun q => s.heap.size ≤ q) (LWd cy ad2 (τ1) er ofd de bo2 ql2 qs2 tv ao aD o2 d2 am wo2 0) := hD
      refine lv_istore (lv' := [(7, .int rm), (6, .int (nI 0)), (5, .int (nI i)), (0, .ref b), (1, .ref (ad 0 0)), (2, .ref (am 0)), (3, .ref ao), (4, .ref aD)]) hx hb dL_law_531 hl (by decide) rfl (fun ls hl => ?_)
      refine lv_aload_n hx hb dL_law_533 rfl (lv_at hl 5 rfl) ?_
      refine ro_calli (va_runV (As := []) (rest := []) ⟨hx, hb, hml, hown, hts⟩ (c_X6_thrown l D cy am (τ1) er wo2 0 H (hP.mem (fun _ hq => List.mem_append_right _ hq))) (cwV 0 hts gL_law_X6_thrown rfl rfl rfl hdX6_thrown ⟨Nat.le_of_ble_eq_true rfl, Nat.le_of_ble_eq_true rfl⟩) (ro_preV hK (va_recv hK.1 (hP.mem (fun _ hq => List.mem_append_right _ hq)) (ci := 6) (q0 := 0) rfl rfl)) rfl rfl hl.1 rfl (lv_room (Nat.le_of_ble_eq_true rfl)) dL_law_534 ⟨by omega, by omega⟩) (fun r9 h9 => ?_)
      obtain rfl : r9 = nI 0 := h9
      refine lv_iload hx hb dL_law_537 (lv_at hl 1 rfl) ?_
      refine lv_icmp_eq (tgt := 544) hx hb dL_law_539 (by decide) (fun _ => ?_) (fun q => absurd rfl q)
      refine lv_iload hx hb dL_law_544 (lv_at hl 1 rfl) ?_
      refine lv_if_ne (tgt := 561) hx hb dL_law_546 (by decide) (fun q => by first | exact absurd q (by decide) | exact absurd (by decide) q) (fun _ => ?_)
      refine lv_aload_n hx hb dL_law_549 rfl (lv_at hl 6 rfl) ?_
      refine lv_iconst (v := nI 0) hx hb dL_law_550 (by decide) ?_
      refine lw_old hx hb hK hP dL_law_551 ?_
      refine lv_iload hx hb dL_law_552 (lv_at hl 0 rfl) ?_
      refine lv_i2l hx hb dL_law_554 rfl ?_
      refine lw_lcmpeq (tgt := 561) hx hb (ho.trans (congrArg Int32.toInt64 hrr)) dL_law_555 dL_law_556 (by decide) ?_
      refine lv_goto (tgt := 1317) hx hb dL_law_561 (by decide) ?_
      refine W.widen (k := cells + 2) (n := slots + 28) (by omega) (by omega) ?_
      rw [show ad 0 0 = ad2 0 0 by rw [k5]] at hl
      exact K ad2 (τ1) er ofd de dl bo2 ql2 qs2 tv am wo2 0 ao aD o2 d2 H locs ls ⟨Iv_grp hIv hn (okR_nle h1.1 h1.2 (by decide) (by decide) h2.1) (okR_le h1.2 (by decide) (by decide)).2.1 (okR_le h2.2.1 (by decide) (by decide)).2.1 (okR_le h2.2.2 (by decide) (by decide)).2.1 h3 ha, hof.c k3 e1, k2, hDL.c k3 e1 e2, k1⟩ hP hD hS (lv_sub hl [2, 3, 4, 5, 6, 7] rfl)
  · skip
    obtain rfl : u1 = none := ht
    rcases hex with ⟨h1, hE⟩ | ⟨h1, h2, hE⟩ | ⟨h1, h2, h3, hE⟩
    · skip
      subst hE
      obtain rfl : r1 = nI 1 := hr6.trans (by decide +kernel)
      rcases hr2 with ⟨g1, gu, gs⟩ | ⟨g1, g2, gu, gs⟩ | ⟨g1, g2, g3, gu, gs⟩ | ⟨g1, g2, g3, gu, ga⟩
      · skip
        obtain rfl : th2 = 1 := gu
        have gs9 : σ = τ := gs.symm
        subst gs9
        have hP : va_P D vwCl (LWd cy ad σ er ofd de bo ql qs tv ao aD o2 d2 am wo2 1) H := hP
        have hD : va_D (fun q => s.heap.size ≤ q) (LWd cy ad σ er ofd de bo ql qs tv ao aD o2 d2 am wo2 1) := hD
        refine lv_istore (lv' := [(7, .int rm), (6, .int (nI 1)), (5, .int (nI i)), (0, .ref b), (1, .ref (ad 0 0)), (2, .ref (am 0)), (3, .ref ao), (4, .ref aD)]) hx hb dL_law_531 hl (by decide) rfl (fun ls hl => ?_)
        refine lv_aload_n hx hb dL_law_533 rfl (lv_at hl 5 rfl) ?_
        refine ro_calli (va_runV (As := []) (rest := []) ⟨hx, hb, hml, hown, hts⟩ (c_X6_thrown l D cy am σ er wo2 1 H (hP.mem (fun _ hq => List.mem_append_right _ hq))) (cwV 0 hts gL_law_X6_thrown rfl rfl rfl hdX6_thrown ⟨Nat.le_of_ble_eq_true rfl, Nat.le_of_ble_eq_true rfl⟩) (ro_preV hK (va_recv hK.1 (hP.mem (fun _ hq => List.mem_append_right _ hq)) (ci := 6) (q0 := 0) rfl rfl)) rfl rfl hl.1 rfl (lv_room (Nat.le_of_ble_eq_true rfl)) dL_law_534 ⟨by omega, by omega⟩) (fun r9 h9 => ?_)
        obtain rfl : r9 = nI 1 := h9
        refine lv_iload hx hb dL_law_537 (lv_at hl 1 rfl) ?_
        refine lv_icmp_eq (tgt := 544) hx hb dL_law_539 (by decide) (fun _ => ?_) (fun q => absurd rfl q)
        refine lv_iload hx hb dL_law_544 (lv_at hl 1 rfl) ?_
        refine lv_if_ne (tgt := 561) hx hb dL_law_546 (by decide) (fun _ => ?_) (fun q => by first | exact absurd q (by decide) | exact absurd (by decide) q)
        refine lv_goto (tgt := 1317) hx hb dL_law_561 (by decide) ?_
        refine W.widen (k := cells + 2) (n := slots + 28) (by omega) (by omega) ?_
        exact K ad σ er ofd de dl bo ql qs tv am wo2 1 ao aD o2 d2 H locs ls ⟨hI2, hof, hbo, hDL, hQZ⟩ hP hD hS (lv_sub hl [2, 3, 4, 5, 6, 7] rfl)
      · skip
        first | exact absurd h1 g1 | exact absurd g1 h1 | exact absurd h2 g2 | exact absurd g2 h2 | exact absurd h3 g3 | exact absurd g3 h3 | exact absurd h4 g4 | exact absurd g4 h4
      · skip
        first | exact absurd h1 g1 | exact absurd g1 h1 | exact absurd h2 g2 | exact absurd g2 h2 | exact absurd h3 g3 | exact absurd g3 h3 | exact absurd h4 g4 | exact absurd g4 h4
      · skip
        first | exact absurd h1 g1 | exact absurd g1 h1 | exact absurd h2 g2 | exact absurd g2 h2 | exact absurd h3 g3 | exact absurd g3 h3 | exact absurd h4 g4 | exact absurd g4 h4
    · skip
      subst hE
      obtain rfl : r1 = nI 2 := hr6.trans (by decide +kernel)
      rcases hr2 with ⟨g1, gu, gs⟩ | ⟨g1, g2, gu, gs⟩ | ⟨g1, g2, g3, gu, gs⟩ | ⟨g1, g2, g3, gu, ga⟩
      · skip
        first | exact absurd h1 g1 | exact absurd g1 h1 | exact absurd h2 g2 | exact absurd g2 h2 | exact absurd h3 g3 | exact absurd g3 h3 | exact absurd h4 g4 | exact absurd g4 h4
      · skip
        obtain rfl : th2 = 2 := gu
        have gs9 : σ = τ := gs.symm
        subst gs9
        have hP : va_P D vwCl (LWd cy ad σ er ofd de bo ql qs tv ao aD o2 d2 am wo2 2) H := hP
        have hD : va_D (fun q => s.heap.size ≤ q) (LWd cy ad σ er ofd de bo ql qs tv ao aD o2 d2 am wo2 2) := hD
        refine lv_istore (lv' := [(7, .int rm), (6, .int (nI 2)), (5, .int (nI i)), (0, .ref b), (1, .ref (ad 0 0)), (2, .ref (am 0)), (3, .ref ao), (4, .ref aD)]) hx hb dL_law_531 hl (by decide) rfl (fun ls hl => ?_)
        refine lv_aload_n hx hb dL_law_533 rfl (lv_at hl 5 rfl) ?_
        refine ro_calli (va_runV (As := []) (rest := []) ⟨hx, hb, hml, hown, hts⟩ (c_X6_thrown l D cy am σ er wo2 2 H (hP.mem (fun _ hq => List.mem_append_right _ hq))) (cwV 0 hts gL_law_X6_thrown rfl rfl rfl hdX6_thrown ⟨Nat.le_of_ble_eq_true rfl, Nat.le_of_ble_eq_true rfl⟩) (ro_preV hK (va_recv hK.1 (hP.mem (fun _ hq => List.mem_append_right _ hq)) (ci := 6) (q0 := 0) rfl rfl)) rfl rfl hl.1 rfl (lv_room (Nat.le_of_ble_eq_true rfl)) dL_law_534 ⟨by omega, by omega⟩) (fun r9 h9 => ?_)
        obtain rfl : r9 = nI 2 := h9
        refine lv_iload hx hb dL_law_537 (lv_at hl 1 rfl) ?_
        refine lv_icmp_eq (tgt := 544) hx hb dL_law_539 (by decide) (fun _ => ?_) (fun q => absurd rfl q)
        refine lv_iload hx hb dL_law_544 (lv_at hl 1 rfl) ?_
        refine lv_if_ne (tgt := 561) hx hb dL_law_546 (by decide) (fun _ => ?_) (fun q => by first | exact absurd q (by decide) | exact absurd (by decide) q)
        refine lv_goto (tgt := 1317) hx hb dL_law_561 (by decide) ?_
        refine W.widen (k := cells + 2) (n := slots + 28) (by omega) (by omega) ?_
        exact K ad σ er ofd de dl bo ql qs tv am wo2 2 ao aD o2 d2 H locs ls ⟨hI2, hof, hbo, hDL, hQZ⟩ hP hD hS (lv_sub hl [2, 3, 4, 5, 6, 7] rfl)
      · skip
        first | exact absurd h1 g1 | exact absurd g1 h1 | exact absurd h2 g2 | exact absurd g2 h2 | exact absurd h3 g3 | exact absurd g3 h3 | exact absurd h4 g4 | exact absurd g4 h4
      · skip
        first | exact absurd h1 g1 | exact absurd g1 h1 | exact absurd h2 g2 | exact absurd g2 h2 | exact absurd h3 g3 | exact absurd g3 h3 | exact absurd h4 g4 | exact absurd g4 h4
    · skip
      subst hE
      obtain rfl : r1 = nI 3 := hr6.trans (by decide +kernel)
      rcases hr2 with ⟨g1, gu, gs⟩ | ⟨g1, g2, gu, gs⟩ | ⟨g1, g2, g3, gu, gs⟩ | ⟨g1, g2, g3, gu, ga⟩
      · skip
        first | exact absurd h1 g1 | exact absurd g1 h1 | exact absurd h2 g2 | exact absurd g2 h2 | exact absurd h3 g3 | exact absurd g3 h3 | exact absurd h4 g4 | exact absurd g4 h4
      · skip
        first | exact absurd h1 g1 | exact absurd g1 h1 | exact absurd h2 g2 | exact absurd g2 h2 | exact absurd h3 g3 | exact absurd g3 h3 | exact absurd h4 g4 | exact absurd g4 h4
      · skip
        obtain rfl : th2 = 3 := gu
        have gs9 : σ = τ := gs.symm
        subst gs9
        have hP : va_P D vwCl (LWd cy ad σ er ofd de bo ql qs tv ao aD o2 d2 am wo2 3) H := hP
        have hD : va_D (fun q => s.heap.size ≤ q) (LWd cy ad σ er ofd de bo ql qs tv ao aD o2 d2 am wo2 3) := hD
        refine lv_istore (lv' := [(7, .int rm), (6, .int (nI 3)), (5, .int (nI i)), (0, .ref b), (1, .ref (ad 0 0)), (2, .ref (am 0)), (3, .ref ao), (4, .ref aD)]) hx hb dL_law_531 hl (by decide) rfl (fun ls hl => ?_)
        refine lv_aload_n hx hb dL_law_533 rfl (lv_at hl 5 rfl) ?_
        refine ro_calli (va_runV (As := []) (rest := []) ⟨hx, hb, hml, hown, hts⟩ (c_X6_thrown l D cy am σ er wo2 3 H (hP.mem (fun _ hq => List.mem_append_right _ hq))) (cwV 0 hts gL_law_X6_thrown rfl rfl rfl hdX6_thrown ⟨Nat.le_of_ble_eq_true rfl, Nat.le_of_ble_eq_true rfl⟩) (ro_preV hK (va_recv hK.1 (hP.mem (fun _ hq => List.mem_append_right _ hq)) (ci := 6) (q0 := 0) rfl rfl)) rfl rfl hl.1 rfl (lv_room (Nat.le_of_ble_eq_true rfl)) dL_law_534 ⟨by omega, by omega⟩) (fun r9 h9 => ?_)
        obtain rfl : r9 = nI 3 := h9
        refine lv_iload hx hb dL_law_537 (lv_at hl 1 rfl) ?_
        refine lv_icmp_eq (tgt := 544) hx hb dL_law_539 (by decide) (fun _ => ?_) (fun q => absurd rfl q)
        refine lv_iload hx hb dL_law_544 (lv_at hl 1 rfl) ?_
        refine lv_if_ne (tgt := 561) hx hb dL_law_546 (by decide) (fun _ => ?_) (fun q => by first | exact absurd q (by decide) | exact absurd (by decide) q)
        refine lv_goto (tgt := 1317) hx hb dL_law_561 (by decide) ?_
        refine W.widen (k := cells + 2) (n := slots + 28) (by omega) (by omega) ?_
        exact K ad σ er ofd de dl bo ql qs tv am wo2 3 ao aD o2 d2 H locs ls ⟨hI2, hof, hbo, hDL, hQZ⟩ hP hD hS (lv_sub hl [2, 3, 4, 5, 6, 7] rfl)
      · skip
        first | exact absurd h1 g1 | exact absurd g1 h1 | exact absurd h2 g2 | exact absurd g2 h2 | exact absurd h3 g3 | exact absurd g3 h3 | exact absurd h4 g4 | exact absurd g4 h4
set_option maxHeartbeats 4000000 in
set_option maxRecDepth 100000 in
theorem law_cancel {p : Program} {l : Launch} {e : Env} {s : State} {m : MethodId} {below : List Frame} {meth : Method} {c : Code} {D : va_G} {cy : Nat → ClassId} {b L : Nat} {xs : Nat → Int32} {Q : State → Prop} (C : LX p l D cy s m c b L xs) {i n cells slots : Nat} (hi : i + 5 ≤ L) (hL : L ≤ 2560) (hn : n < 512) (hc : cells + 2 ≤ room_1.cells) (hs9 : slots + 28 ≤ room_1.slots) (K : LK p l e s m below meth c D cy b Q i (n + 1) 1317 (cells + 2) (slots + 28)) : LK p l e s m below meth c D cy b Q i n 564 cells slots := by
  obtain ⟨hx, hb, hml, hown, hts, hK, hXW, hXZ, hX, hbl, hfl⟩ := C
  intro ad σ er ofd de dl bo ql qs tv am wo th ao aD o d H locs ls hI hP hD hS hl
  obtain ⟨hIv, hof, hbo, hDL, hQZ⟩ := hI
  have hA : ∀ q, s.heap.size ≤ q → (fun q => s.heap.size ≤ q) q := fun q h => h
  have hbA : ¬ (fun q => s.heap.size ≤ q) b := Nat.not_le.mpr hbl
  have hI2 := hIv.more hn
  refine lv_aload_n hx hb dL_law_564 rfl (lv_at hl 2 rfl) ?_
  refine lv_aload_n hx hb dL_law_565 rfl (lv_at hl 1 rfl) ?_
  refine lv_iload hx hb dL_law_566 (lv_at hl 0 rfl) ?_
  refine lv_iconst (v := nI 1) hx hb dL_law_568 (by decide) ?_
  refine ln_iadd hx hb dL_law_569 (fun z hz => ?_)
  subst hz
  refine lw_sld hx hb hX hbl hbA hS (by omega) (by omega) dL_law_570 ?_
  refine lv_aload_n hx hb dL_law_571 rfl (lv_at hl 4 rfl) ?_
  refine al_calli (vx_runSW (As := [.ref (ad 0 0), .int (xs (i + 1)), .ref ao]) (rest := []) ⟨hx, hb, hml, hown, hts⟩ (c_L_cancel l hfl D cy ad σ er ofd de bo ql qs tv hbo hIv ((xs (i + 1))) ao aD o d H.size) (vx_cwSW 3 hts gL_law_L_cancel rfl rfl rfl hdL_cancel.2 ⟨Nat.le_of_ble_eq_true rfl, Nat.le_of_ble_eq_true rfl⟩) (xo_preS hK rfl (hP.mem (fun _ hq => List.mem_append_left _ hq)) (hD.subl (List.sublist_append_left _ _)) hXW (hXZ.at hS hD hA (fun _ hq => List.mem_append_left _ hq))) rfl rfl hl.1 rfl (lv_room (Nat.le_of_ble_eq_true rfl)) dL_law_572 ⟨by omega, by omega⟩) hS hP hD hA (fun r1 u1 H locs hr1 hP hD hS => ?_)
  refine lv_istore (lv' := [(6, .int r1), (5, .int (nI i)), (0, .ref b), (1, .ref (ad 0 0)), (2, .ref (am 0)), (3, .ref ao), (4, .ref aD)]) hx hb dL_law_575 hl (by decide) rfl (fun ls hl => ?_)
  refine lv_aload_n hx hb dL_law_577 rfl (lv_at hl 4 rfl) ?_
  refine lv_aload_n hx hb dL_law_578 rfl (lv_at hl 2 rfl) ?_
  refine lv_iload hx hb dL_law_579 (lv_at hl 1 rfl) ?_
  refine lv_iconst (v := nI 1) hx hb dL_law_581 (by decide) ?_
  refine ln_iadd hx hb dL_law_582 (fun z hz => ?_)
  subst hz
  refine lw_sld hx hb hX hbl hbA hS (by omega) (by omega) dL_law_583 ?_
  refine ap_calli (va_runV (As := [.int (xs (i + 1))]) (rest := []) ⟨hx, hb, hml, hown, hts⟩ (c_X6_cancel l D cy am σ er wo th hIv ((xs (i + 1))) H.size) (cwV 1 hts gL_law_X6_cancel rfl rfl rfl hdX6_cancel ⟨Nat.le_of_ble_eq_true rfl, Nat.le_of_ble_eq_true rfl⟩) (mo_preV hK rfl (hP.mem (fun _ hq => List.mem_append_right _ hq)) (hD.subl (List.sublist_append_right _ _)) (va_recv hK.1 (hP.mem (fun _ hq => List.mem_append_right _ hq)) (ci := 6) (q0 := 0) rfl rfl)) rfl rfl hl.1 rfl (lv_room (Nat.le_of_ble_eq_true rfl)) dL_law_584 ⟨by omega, by omega⟩) hS hP hD hA (fun rm u2 H locs hr2 hP hD hS => ?_)
  obtain ⟨u1, o2, d2⟩ := u1
  obtain ⟨th2, τ⟩ := u2
  rcases hr1 with ⟨t, ri, ht, hr6, hp, ho⟩ | ⟨E, ht, hex, hr6⟩
  · skip
    obtain rfl : u1 = some t := ht
    obtain rfl : r1 = nI 0 := hr6
    obtain ⟨h1, h2, hr⟩ := hp
    rcases hr2 with ⟨g1, gu⟩ | ⟨g1, g2, gu⟩ | ⟨g1, g2, gu, gr⟩
    · skip
      first | exact absurd h1 g1 | exact absurd g1 h1 | exact absurd h2 g2 | exact absurd g2 h2 | exact absurd h3 g3 | exact absurd g3 h3 | exact absurd h4 g4 | exact absurd g4 h4
    · skip
      first | exact absurd h1 g1 | exact absurd g1 h1 | exact absurd h2 g2 | exact absurd g2 h2 | exact absurd h3 g3 | exact absurd g3 h3 | exact absurd h4 g4 | exact absurd g4 h4
    · skip
      obtain rfl : th2 = 0 := congrArg Prod.fst gu
      have gs : τ = caF σ (cN (xs (i + 1))) := congrArg Prod.snd gu
      subst gs
      have hP : va_P D vwCl (LWd cy ad (caF σ (cN (xs (i + 1)))) er ofd de bo ql qs tv ao aD o2 d2 am wo 0) H := hP
      have hD : va_D (fun q => s.heap.size ≤ q) (LWd cy ad (caF σ (cN (xs (i + 1)))) er ofd de bo ql qs tv ao aD o2 d2 am wo 0) := hD
      refine lv_istore (lv' := [(7, .int rm), (6, .int (nI 0)), (5, .int (nI i)), (0, .ref b), (1, .ref (ad 0 0)), (2, .ref (am 0)), (3, .ref ao), (4, .ref aD)]) hx hb dL_law_587 hl (by decide) rfl (fun ls hl => ?_)
      refine lv_aload_n hx hb dL_law_589 rfl (lv_at hl 5 rfl) ?_
      refine ro_calli (va_runV (As := []) (rest := []) ⟨hx, hb, hml, hown, hts⟩ (c_X6_thrown l D cy am (caF σ (cN (xs (i + 1)))) er wo 0 H (hP.mem (fun _ hq => List.mem_append_right _ hq))) (cwV 0 hts gL_law_X6_thrown rfl rfl rfl hdX6_thrown ⟨Nat.le_of_ble_eq_true rfl, Nat.le_of_ble_eq_true rfl⟩) (ro_preV hK (va_recv hK.1 (hP.mem (fun _ hq => List.mem_append_right _ hq)) (ci := 6) (q0 := 0) rfl rfl)) rfl rfl hl.1 rfl (lv_room (Nat.le_of_ble_eq_true rfl)) dL_law_590 ⟨by omega, by omega⟩) (fun r9 h9 => ?_)
      obtain rfl : r9 = nI 0 := h9
      refine lv_iload hx hb dL_law_593 (lv_at hl 1 rfl) ?_
      refine lv_icmp_eq (tgt := 600) hx hb dL_law_595 (by decide) (fun _ => ?_) (fun q => absurd rfl q)
      refine lv_iload hx hb dL_law_600 (lv_at hl 1 rfl) ?_
      refine lv_if_ne (tgt := 617) hx hb dL_law_602 (by decide) (fun q => by first | exact absurd q (by decide) | exact absurd (by decide) q) (fun _ => ?_)
      refine lv_aload_n hx hb dL_law_605 rfl (lv_at hl 6 rfl) ?_
      refine lv_iconst (v := nI 0) hx hb dL_law_606 (by decide) ?_
      refine lw_old hx hb hK hP dL_law_607 ?_
      refine lv_iload hx hb dL_law_608 (lv_at hl 0 rfl) ?_
      refine lv_i2l hx hb dL_law_610 rfl ?_
      refine lw_lcmpeq (tgt := 617) hx hb (ho.trans (congrArg Int32.toInt64 (hr.trans gr.symm))) dL_law_611 dL_law_612 (by decide) ?_
      refine lv_goto (tgt := 1317) hx hb dL_law_617 (by decide) ?_
      refine W.widen (k := cells + 2) (n := slots + 28) (by omega) (by omega) ?_
      exact K ad (caF σ (cN (xs (i + 1)))) er ofd de dl bo ql qs tv am wo 0 ao aD o2 d2 H locs ls ⟨hIv.cans hn (isB_lt hIv h1) h2, hof.c rfl rfl, hbo.c rfl (Nat.le_refl _), hDL.c rfl rfl rfl, hQZ⟩ hP hD hS (lv_sub hl [2, 3, 4, 5, 6, 7] rfl)
  · skip
    obtain rfl : u1 = none := ht
    rcases hex with ⟨h1, hE⟩ | ⟨h1, h2, hE⟩
    · skip
      subst hE
      obtain rfl : r1 = nI 1 := hr6.trans (by decide +kernel)
      rcases hr2 with ⟨g1, gu⟩ | ⟨g1, g2, gu⟩ | ⟨g1, g2, gu, gr⟩
      · skip
        obtain rfl : th2 = 1 := congrArg Prod.fst gu
        have gs : σ = τ := (congrArg Prod.snd gu).symm
        subst gs
        have hP : va_P D vwCl (LWd cy ad σ er ofd de bo ql qs tv ao aD o2 d2 am wo 1) H := hP
        have hD : va_D (fun q => s.heap.size ≤ q) (LWd cy ad σ er ofd de bo ql qs tv ao aD o2 d2 am wo 1) := hD
        refine lv_istore (lv' := [(7, .int rm), (6, .int (nI 1)), (5, .int (nI i)), (0, .ref b), (1, .ref (ad 0 0)), (2, .ref (am 0)), (3, .ref ao), (4, .ref aD)]) hx hb dL_law_587 hl (by decide) rfl (fun ls hl => ?_)
        refine lv_aload_n hx hb dL_law_589 rfl (lv_at hl 5 rfl) ?_
        refine ro_calli (va_runV (As := []) (rest := []) ⟨hx, hb, hml, hown, hts⟩ (c_X6_thrown l D cy am σ er wo 1 H (hP.mem (fun _ hq => List.mem_append_right _ hq))) (cwV 0 hts gL_law_X6_thrown rfl rfl rfl hdX6_thrown ⟨Nat.le_of_ble_eq_true rfl, Nat.le_of_ble_eq_true rfl⟩) (ro_preV hK (va_recv hK.1 (hP.mem (fun _ hq => List.mem_append_right _ hq)) (ci := 6) (q0 := 0) rfl rfl)) rfl rfl hl.1 rfl (lv_room (Nat.le_of_ble_eq_true rfl)) dL_law_590 ⟨by omega, by omega⟩) (fun r9 h9 => ?_)
        obtain rfl : r9 = nI 1 := h9
        refine lv_iload hx hb dL_law_593 (lv_at hl 1 rfl) ?_
        refine lv_icmp_eq (tgt := 600) hx hb dL_law_595 (by decide) (fun _ => ?_) (fun q => absurd rfl q)
        refine lv_iload hx hb dL_law_600 (lv_at hl 1 rfl) ?_
        refine lv_if_ne (tgt := 617) hx hb dL_law_602 (by decide) (fun _ => ?_) (fun q => by first | exact absurd q (by decide) | exact absurd (by decide) q)
        refine lv_goto (tgt := 1317) hx hb dL_law_617 (by decide) ?_
        refine W.widen (k := cells + 2) (n := slots + 28) (by omega) (by omega) ?_
        exact K ad σ er ofd de dl bo ql qs tv am wo 1 ao aD o2 d2 H locs ls ⟨hI2, hof, hbo, hDL, hQZ⟩ hP hD hS (lv_sub hl [2, 3, 4, 5, 6, 7] rfl)
      · skip
        first | exact absurd h1 g1 | exact absurd g1 h1 | exact absurd h2 g2 | exact absurd g2 h2 | exact absurd h3 g3 | exact absurd g3 h3 | exact absurd h4 g4 | exact absurd g4 h4
      · skip
        first | exact absurd h1 g1 | exact absurd g1 h1 | exact absurd h2 g2 | exact absurd g2 h2 | exact absurd h3 g3 | exact absurd g3 h3 | exact absurd h4 g4 | exact absurd g4 h4
    · skip
      subst hE
      obtain rfl : r1 = nI 2 := hr6.trans (by decide +kernel)
      rcases hr2 with ⟨g1, gu⟩ | ⟨g1, g2, gu⟩ | ⟨g1, g2, gu, gr⟩
      · skip
        first | exact absurd h1 g1 | exact absurd g1 h1 | exact absurd h2 g2 | exact absurd g2 h2 | exact absurd h3 g3 | exact absurd g3 h3 | exact absurd h4 g4 | exact absurd g4 h4
      · skip
        obtain rfl : th2 = 2 := congrArg Prod.fst gu
        have gs : σ = τ := (congrArg Prod.snd gu).symm
        subst gs
        have hP : va_P D vwCl (LWd cy ad σ er ofd de bo ql qs tv ao aD o2 d2 am wo 2) H := hP
        have hD : va_D (fun q => s.heap.size ≤ q) (LWd cy ad σ er ofd de bo ql qs tv ao aD o2 d2 am wo 2) := hD
        refine lv_istore (lv' := [(7, .int rm), (6, .int (nI 2)), (5, .int (nI i)), (0, .ref b), (1, .ref (ad 0 0)), (2, .ref (am 0)), (3, .ref ao), (4, .ref aD)]) hx hb dL_law_587 hl (by decide) rfl (fun ls hl => ?_)
        refine lv_aload_n hx hb dL_law_589 rfl (lv_at hl 5 rfl) ?_
        refine ro_calli (va_runV (As := []) (rest := []) ⟨hx, hb, hml, hown, hts⟩ (c_X6_thrown l D cy am σ er wo 2 H (hP.mem (fun _ hq => List.mem_append_right _ hq))) (cwV 0 hts gL_law_X6_thrown rfl rfl rfl hdX6_thrown ⟨Nat.le_of_ble_eq_true rfl, Nat.le_of_ble_eq_true rfl⟩) (ro_preV hK (va_recv hK.1 (hP.mem (fun _ hq => List.mem_append_right _ hq)) (ci := 6) (q0 := 0) rfl rfl)) rfl rfl hl.1 rfl (lv_room (Nat.le_of_ble_eq_true rfl)) dL_law_590 ⟨by omega, by omega⟩) (fun r9 h9 => ?_)
        obtain rfl : r9 = nI 2 := h9
        refine lv_iload hx hb dL_law_593 (lv_at hl 1 rfl) ?_
        refine lv_icmp_eq (tgt := 600) hx hb dL_law_595 (by decide) (fun _ => ?_) (fun q => absurd rfl q)
        refine lv_iload hx hb dL_law_600 (lv_at hl 1 rfl) ?_
        refine lv_if_ne (tgt := 617) hx hb dL_law_602 (by decide) (fun _ => ?_) (fun q => by first | exact absurd q (by decide) | exact absurd (by decide) q)
        refine lv_goto (tgt := 1317) hx hb dL_law_617 (by decide) ?_
        refine W.widen (k := cells + 2) (n := slots + 28) (by omega) (by omega) ?_
        exact K ad σ er ofd de dl bo ql qs tv am wo 2 ao aD o2 d2 H locs ls ⟨hI2, hof, hbo, hDL, hQZ⟩ hP hD hS (lv_sub hl [2, 3, 4, 5, 6, 7] rfl)
      · skip
        first | exact absurd h1 g1 | exact absurd g1 h1 | exact absurd h2 g2 | exact absurd g2 h2 | exact absurd h3 g3 | exact absurd g3 h3 | exact absurd h4 g4 | exact absurd g4 h4
set_option maxHeartbeats 4000000 in
set_option maxRecDepth 100000 in
theorem law_endDay {p : Program} {l : Launch} {e : Env} {s : State} {m : MethodId} {below : List Frame} {meth : Method} {c : Code} {D : va_G} {cy : Nat → ClassId} {b L : Nat} {xs : Nat → Int32} {Q : State → Prop} (C : LX p l D cy s m c b L xs) {i n cells slots : Nat} (hi : i + 5 ≤ L) (hL : L ≤ 2560) (hn : n < 512) (hc : cells + 2 ≤ room_1.cells) (hs9 : slots + 28 ≤ room_1.slots) (K : LK p l e s m below meth c D cy b Q i (n + 1) 1317 (cells + 2) (slots + 28)) : LK p l e s m below meth c D cy b Q i n 620 cells slots := by
  obtain ⟨hx, hb, hml, hown, hts, hK, hXW, hXZ, hX, hbl, hfl⟩ := C
  intro ad σ er ofd de dl bo ql qs tv am wo th ao aD o d H locs ls hI hP hD hS hl
  obtain ⟨hIv, hof, hbo, hDL, hQZ⟩ := hI
  have hA : ∀ q, s.heap.size ≤ q → (fun q => s.heap.size ≤ q) q := fun q h => h
  have hbA : ¬ (fun q => s.heap.size ≤ q) b := Nat.not_le.mpr hbl
  have hI2 := hIv.more hn
  refine lv_aload_n hx hb dL_law_620 rfl (lv_at hl 2 rfl) ?_
  refine lv_aload_n hx hb dL_law_621 rfl (lv_at hl 1 rfl) ?_
  refine lv_iload hx hb dL_law_622 (lv_at hl 0 rfl) ?_
  refine lv_iconst (v := nI 1) hx hb dL_law_624 (by decide) ?_
  refine ln_iadd hx hb dL_law_625 (fun z hz => ?_)
  subst hz
  refine lw_sld hx hb hX hbl hbA hS (by omega) (by omega) dL_law_626 ?_
  refine lv_aload_n hx hb dL_law_627 rfl (lv_at hl 4 rfl) ?_
  refine al_calli (vx_runSW (As := [.ref (ad 0 0), .int (xs (i + 1)), .ref ao]) (rest := []) ⟨hx, hb, hml, hown, hts⟩ (c_L_endDay l hfl D cy ad σ er ofd de bo ql qs tv hof hbo hIv hn ((xs (i + 1))) ao aD o d H.size) (vx_cwSW 3 hts gL_law_L_endDay rfl rfl rfl hdL_endDay.2 ⟨Nat.le_of_ble_eq_true rfl, Nat.le_of_ble_eq_true rfl⟩) (xo_preS hK rfl (hP.mem (fun _ hq => List.mem_append_left _ hq)) (hD.subl (List.sublist_append_left _ _)) hXW (hXZ.at hS hD hA (fun _ hq => List.mem_append_left _ hq))) rfl rfl hl.1 rfl (lv_room (Nat.le_of_ble_eq_true rfl)) dL_law_628 ⟨by omega, by omega⟩) hS hP hD hA (fun r1 u1 H locs hr1 hP hD hS => ?_)
  refine lv_istore (lv' := [(6, .int r1), (5, .int (nI i)), (0, .ref b), (1, .ref (ad 0 0)), (2, .ref (am 0)), (3, .ref ao), (4, .ref aD)]) hx hb dL_law_631 hl (by decide) rfl (fun ls hl => ?_)
  refine lv_aload_n hx hb dL_law_633 rfl (lv_at hl 4 rfl) ?_
  refine lv_aload_n hx hb dL_law_634 rfl (lv_at hl 2 rfl) ?_
  refine lv_iload hx hb dL_law_635 (lv_at hl 1 rfl) ?_
  refine lv_iconst (v := nI 1) hx hb dL_law_637 (by decide) ?_
  refine ln_iadd hx hb dL_law_638 (fun z hz => ?_)
  subst hz
  refine lw_sld hx hb hX hbl hbA hS (by omega) (by omega) dL_law_639 ?_
  refine ap_calli (va_runV (As := [.int (xs (i + 1))]) (rest := []) ⟨hx, hb, hml, hown, hts⟩ (c_X6_endDay l D cy am σ er wo th hIv hn ((xs (i + 1))) H.size) (cwV 1 hts gL_law_X6_endDay rfl rfl rfl hdX6_endDay ⟨Nat.le_of_ble_eq_true rfl, Nat.le_of_ble_eq_true rfl⟩) (mo_preV hK rfl (hP.mem (fun _ hq => List.mem_append_right _ hq)) (hD.subl (List.sublist_append_right _ _)) (va_recv hK.1 (hP.mem (fun _ hq => List.mem_append_right _ hq)) (ci := 6) (q0 := 0) rfl rfl)) rfl rfl hl.1 rfl (lv_room (Nat.le_of_ble_eq_true rfl)) dL_law_640 ⟨by omega, by omega⟩) hS hP hD hA (fun rm u2 H locs hr2 hP hD hS => ?_)
  obtain ⟨u1, o2, d2⟩ := u1
  obtain ⟨th2, τ, er2⟩ := u2
  rcases hr1 with ⟨t, ri, ht, hr6, hp, ho⟩ | ⟨E, ht, hex, hr6⟩
  · skip
    obtain rfl : u1 = some t := ht
    obtain rfl : r1 = nI 0 := hr6
    obtain ⟨h1, hr⟩ := hp
    rcases hr2 with ⟨g1, gu, gr⟩ | ⟨g1, gu⟩
    · skip
      obtain rfl : th2 = 0 := congrArg Prod.fst gu
      have gs : τ = enF σ := congrArg (fun q => q.2.1) gu
      have ge : er2 = enE σ er (cN (xs (i + 1))) := congrArg (fun q => q.2.2) gu
      subst gs
      subst ge
      have hP : va_P D vwCl (LWd cy ad (enF σ) (enE σ er (cN (xs (i + 1)))) ofd de bo ql qs tv ao aD o2 d2 am wo 0) H := hP
      have hD : va_D (fun q => s.heap.size ≤ q) (LWd cy ad (enF σ) (enE σ er (cN (xs (i + 1)))) ofd de bo ql qs tv ao aD o2 d2 am wo 0) := hD
      refine lv_istore (lv' := [(7, .int rm), (6, .int (nI 0)), (5, .int (nI i)), (0, .ref b), (1, .ref (ad 0 0)), (2, .ref (am 0)), (3, .ref ao), (4, .ref aD)]) hx hb dL_law_643 hl (by decide) rfl (fun ls hl => ?_)
      refine lv_aload_n hx hb dL_law_645 rfl (lv_at hl 5 rfl) ?_
      refine ro_calli (va_runV (As := []) (rest := []) ⟨hx, hb, hml, hown, hts⟩ (c_X6_thrown l D cy am (enF σ) (enE σ er (cN (xs (i + 1)))) wo 0 H (hP.mem (fun _ hq => List.mem_append_right _ hq))) (cwV 0 hts gL_law_X6_thrown rfl rfl rfl hdX6_thrown ⟨Nat.le_of_ble_eq_true rfl, Nat.le_of_ble_eq_true rfl⟩) (ro_preV hK (va_recv hK.1 (hP.mem (fun _ hq => List.mem_append_right _ hq)) (ci := 6) (q0 := 0) rfl rfl)) rfl rfl hl.1 rfl (lv_room (Nat.le_of_ble_eq_true rfl)) dL_law_646 ⟨by omega, by omega⟩) (fun r9 h9 => ?_)
      obtain rfl : r9 = nI 0 := h9
      refine lv_iload hx hb dL_law_649 (lv_at hl 1 rfl) ?_
      refine lv_icmp_eq (tgt := 656) hx hb dL_law_651 (by decide) (fun _ => ?_) (fun q => absurd rfl q)
      refine lv_iload hx hb dL_law_656 (lv_at hl 1 rfl) ?_
      refine lv_if_ne (tgt := 673) hx hb dL_law_658 (by decide) (fun q => by first | exact absurd q (by decide) | exact absurd (by decide) q) (fun _ => ?_)
      refine lv_aload_n hx hb dL_law_661 rfl (lv_at hl 6 rfl) ?_
      refine lv_iconst (v := nI 0) hx hb dL_law_662 (by decide) ?_
      refine lw_old hx hb hK hP dL_law_663 ?_
      refine lv_iload hx hb dL_law_664 (lv_at hl 0 rfl) ?_
      refine lv_i2l hx hb dL_law_666 rfl ?_
      refine lw_lcmpeq (tgt := 673) hx hb (ho.trans (congrArg Int32.toInt64 (hr.trans gr.symm))) dL_law_667 dL_law_668 (by decide) ?_
      refine lv_goto (tgt := 1317) hx hb dL_law_673 (by decide) ?_
      refine W.widen (k := cells + 2) (n := slots + 28) (by omega) (by omega) ?_
      exact K ad (enF σ) (enE σ er (cN (xs (i + 1)))) ofd de dl bo ql qs tv am wo 0 ao aD o2 d2 H locs ls ⟨hIv.ends hn, hof.c rfl rfl, hbo.c rfl (Nat.zero_le _), hDL.c rfl rfl rfl, hQZ⟩ hP hD hS (lv_sub hl [2, 3, 4, 5, 6, 7] rfl)
    · skip
      first | exact absurd h1 g1 | exact absurd g1 h1 | exact absurd h2 g2 | exact absurd g2 h2 | exact absurd h3 g3 | exact absurd g3 h3 | exact absurd h4 g4 | exact absurd g4 h4
  · skip
    obtain rfl : u1 = none := ht
    rcases hex with ⟨h1, hE⟩
    · skip
      subst hE
      obtain rfl : r1 = nI 1 := hr6.trans (by decide +kernel)
      rcases hr2 with ⟨g1, gu, gr⟩ | ⟨g1, gu⟩
      · skip
        first | exact absurd h1 g1 | exact absurd g1 h1 | exact absurd h2 g2 | exact absurd g2 h2 | exact absurd h3 g3 | exact absurd g3 h3 | exact absurd h4 g4 | exact absurd g4 h4
      · skip
        obtain rfl : th2 = 1 := congrArg Prod.fst gu
        have gs : σ = τ := (congrArg (fun q => q.2.1) gu).symm
        have ge : er = er2 := (congrArg (fun q => q.2.2) gu).symm
        subst gs
        subst ge
        have hP : va_P D vwCl (LWd cy ad σ er ofd de bo ql qs tv ao aD o2 d2 am wo 1) H := hP
        have hD : va_D (fun q => s.heap.size ≤ q) (LWd cy ad σ er ofd de bo ql qs tv ao aD o2 d2 am wo 1) := hD
        refine lv_istore (lv' := [(7, .int rm), (6, .int (nI 1)), (5, .int (nI i)), (0, .ref b), (1, .ref (ad 0 0)), (2, .ref (am 0)), (3, .ref ao), (4, .ref aD)]) hx hb dL_law_643 hl (by decide) rfl (fun ls hl => ?_)
        refine lv_aload_n hx hb dL_law_645 rfl (lv_at hl 5 rfl) ?_
        refine ro_calli (va_runV (As := []) (rest := []) ⟨hx, hb, hml, hown, hts⟩ (c_X6_thrown l D cy am σ er wo 1 H (hP.mem (fun _ hq => List.mem_append_right _ hq))) (cwV 0 hts gL_law_X6_thrown rfl rfl rfl hdX6_thrown ⟨Nat.le_of_ble_eq_true rfl, Nat.le_of_ble_eq_true rfl⟩) (ro_preV hK (va_recv hK.1 (hP.mem (fun _ hq => List.mem_append_right _ hq)) (ci := 6) (q0 := 0) rfl rfl)) rfl rfl hl.1 rfl (lv_room (Nat.le_of_ble_eq_true rfl)) dL_law_646 ⟨by omega, by omega⟩) (fun r9 h9 => ?_)
        obtain rfl : r9 = nI 1 := h9
        refine lv_iload hx hb dL_law_649 (lv_at hl 1 rfl) ?_
        refine lv_icmp_eq (tgt := 656) hx hb dL_law_651 (by decide) (fun _ => ?_) (fun q => absurd rfl q)
        refine lv_iload hx hb dL_law_656 (lv_at hl 1 rfl) ?_
        refine lv_if_ne (tgt := 673) hx hb dL_law_658 (by decide) (fun _ => ?_) (fun q => by first | exact absurd q (by decide) | exact absurd (by decide) q)
        refine lv_goto (tgt := 1317) hx hb dL_law_673 (by decide) ?_
        refine W.widen (k := cells + 2) (n := slots + 28) (by omega) (by omega) ?_
        exact K ad σ er ofd de dl bo ql qs tv am wo 1 ao aD o2 d2 H locs ls ⟨hI2, hof, hbo, hDL, hQZ⟩ hP hD hS (lv_sub hl [2, 3, 4, 5, 6, 7] rfl)
set_option maxHeartbeats 4000000 in
set_option maxRecDepth 100000 in
theorem law_booked {p : Program} {l : Launch} {e : Env} {s : State} {m : MethodId} {below : List Frame} {meth : Method} {c : Code} {D : va_G} {cy : Nat → ClassId} {b L : Nat} {xs : Nat → Int32} {Q : State → Prop} (C : LX p l D cy s m c b L xs) {i n cells slots : Nat} (hi : i + 5 ≤ L) (hL : L ≤ 2560) (hn : n < 512) (hc : cells + 2 ≤ room_1.cells) (hs9 : slots + 28 ≤ room_1.slots) (K : LK p l e s m below meth c D cy b Q i (n + 1) 1317 (cells + 2) (slots + 28)) : LK p l e s m below meth c D cy b Q i n 702 cells slots := by
  obtain ⟨hx, hb, hml, hown, hts, hK, hXW, hXZ, hX, hbl, hfl⟩ := C
  intro ad σ er ofd de dl bo ql qs tv am wo th ao aD o d H locs ls hI hP hD hS hl
  obtain ⟨hIv, hof, hbo, hDL, hQZ⟩ := hI
  have hA : ∀ q, s.heap.size ≤ q → (fun q => s.heap.size ≤ q) q := fun q h => h
  have hbA : ¬ (fun q => s.heap.size ≤ q) b := Nat.not_le.mpr hbl
  have hI2 := hIv.more hn
  refine lv_aload_n hx hb dL_law_702 rfl (lv_at hl 2 rfl) ?_
  refine lv_aload_n hx hb dL_law_703 rfl (lv_at hl 1 rfl) ?_
  refine lv_iload hx hb dL_law_704 (lv_at hl 0 rfl) ?_
  refine lv_iconst (v := nI 1) hx hb dL_law_706 (by decide) ?_
  refine ln_iadd hx hb dL_law_707 (fun z hz => ?_)
  subst hz
  refine lw_sld hx hb hX hbl hbA hS (by omega) (by omega) dL_law_708 ?_
  refine lv_aload_n hx hb dL_law_709 rfl (lv_at hl 4 rfl) ?_
  refine al_calli (vx_runSW (As := [.ref (ad 0 0), .int (xs (i + 1)), .ref ao]) (rest := []) ⟨hx, hb, hml, hown, hts⟩ (c_L_booked l hfl D cy ad σ er ofd de bo ql qs tv hbo hIv ((xs (i + 1))) ao aD o d H.size) (vx_cwSW 3 hts gL_law_L_booked rfl rfl rfl hdL_booked.2 ⟨Nat.le_of_ble_eq_true rfl, Nat.le_of_ble_eq_true rfl⟩) (xo_preS hK rfl (hP.mem (fun _ hq => List.mem_append_left _ hq)) (hD.subl (List.sublist_append_left _ _)) hXW (hXZ.at hS hD hA (fun _ hq => List.mem_append_left _ hq))) rfl rfl hl.1 rfl (lv_room (Nat.le_of_ble_eq_true rfl)) dL_law_710 ⟨by omega, by omega⟩) hS hP hD hA (fun r1 u1 H locs hr1 hP hD hS => ?_)
  refine lv_istore (lv' := [(6, .int r1), (5, .int (nI i)), (0, .ref b), (1, .ref (ad 0 0)), (2, .ref (am 0)), (3, .ref ao), (4, .ref aD)]) hx hb dL_law_713 hl (by decide) rfl (fun ls hl => ?_)
  refine lv_aload_n hx hb dL_law_715 rfl (lv_at hl 4 rfl) ?_
  refine lv_aload_n hx hb dL_law_716 rfl (lv_at hl 2 rfl) ?_
  refine lv_iload hx hb dL_law_717 (lv_at hl 1 rfl) ?_
  refine lv_iconst (v := nI 1) hx hb dL_law_719 (by decide) ?_
  refine ln_iadd hx hb dL_law_720 (fun z hz => ?_)
  subst hz
  refine lw_sld hx hb hX hbl hbA hS (by omega) (by omega) dL_law_721 ?_
  refine ap_calli (va_runV (As := [.int (xs (i + 1))]) (rest := []) ⟨hx, hb, hml, hown, hts⟩ (c_X6_booked l D cy am σ er wo th hIv ((xs (i + 1))) H.size) (cwV 1 hts gL_law_X6_booked rfl rfl rfl hdX6_booked ⟨Nat.le_of_ble_eq_true rfl, Nat.le_of_ble_eq_true rfl⟩) (mo_preV hK rfl (hP.mem (fun _ hq => List.mem_append_right _ hq)) (hD.subl (List.sublist_append_right _ _)) (va_recv hK.1 (hP.mem (fun _ hq => List.mem_append_right _ hq)) (ci := 6) (q0 := 0) rfl rfl)) rfl rfl hl.1 rfl (lv_room (Nat.le_of_ble_eq_true rfl)) dL_law_722 ⟨by omega, by omega⟩) hS hP hD hA (fun rm th2 H locs hr2 hP hD hS => ?_)
  obtain ⟨u1, o2, d2⟩ := u1
  rcases hr1 with ⟨t, ri, ht, hr6, hp, ho⟩ | ⟨E, ht, hex, hr6⟩
  · skip
    obtain rfl : u1 = some t := ht
    obtain rfl : r1 = nI 0 := hr6
    obtain ⟨h1, hr⟩ := hp
    rcases hr2 with ⟨g1, gu, gr⟩ | ⟨g1, gu⟩
    · skip
      obtain rfl : th2 = 0 := gu
      have hP : va_P D vwCl (LWd cy ad σ er ofd de bo ql qs tv ao aD o2 d2 am wo 0) H := hP
      have hD : va_D (fun q => s.heap.size ≤ q) (LWd cy ad σ er ofd de bo ql qs tv ao aD o2 d2 am wo 0) := hD
      refine lv_istore (lv' := [(7, .int rm), (6, .int (nI 0)), (5, .int (nI i)), (0, .ref b), (1, .ref (ad 0 0)), (2, .ref (am 0)), (3, .ref ao), (4, .ref aD)]) hx hb dL_law_725 hl (by decide) rfl (fun ls hl => ?_)
      refine lv_aload_n hx hb dL_law_727 rfl (lv_at hl 5 rfl) ?_
      refine ro_calli (va_runV (As := []) (rest := []) ⟨hx, hb, hml, hown, hts⟩ (c_X6_thrown l D cy am σ er wo 0 H (hP.mem (fun _ hq => List.mem_append_right _ hq))) (cwV 0 hts gL_law_X6_thrown rfl rfl rfl hdX6_thrown ⟨Nat.le_of_ble_eq_true rfl, Nat.le_of_ble_eq_true rfl⟩) (ro_preV hK (va_recv hK.1 (hP.mem (fun _ hq => List.mem_append_right _ hq)) (ci := 6) (q0 := 0) rfl rfl)) rfl rfl hl.1 rfl (lv_room (Nat.le_of_ble_eq_true rfl)) dL_law_728 ⟨by omega, by omega⟩) (fun r9 h9 => ?_)
      obtain rfl : r9 = nI 0 := h9
      refine lv_iload hx hb dL_law_731 (lv_at hl 1 rfl) ?_
      refine lv_icmp_eq (tgt := 738) hx hb dL_law_733 (by decide) (fun _ => ?_) (fun q => absurd rfl q)
      refine lv_iload hx hb dL_law_738 (lv_at hl 1 rfl) ?_
      refine lv_if_ne (tgt := 755) hx hb dL_law_740 (by decide) (fun q => by first | exact absurd q (by decide) | exact absurd (by decide) q) (fun _ => ?_)
      refine lv_aload_n hx hb dL_law_743 rfl (lv_at hl 6 rfl) ?_
      refine lv_iconst (v := nI 0) hx hb dL_law_744 (by decide) ?_
      refine lw_old hx hb hK hP dL_law_745 ?_
      refine lv_iload hx hb dL_law_746 (lv_at hl 0 rfl) ?_
      refine lv_i2l hx hb dL_law_748 rfl ?_
      refine lw_lcmpeq (tgt := 755) hx hb (ho.trans (congrArg Int32.toInt64 (hr.trans gr.symm))) dL_law_749 dL_law_750 (by decide) ?_
      refine lv_goto (tgt := 1317) hx hb dL_law_755 (by decide) ?_
      refine W.widen (k := cells + 2) (n := slots + 28) (by omega) (by omega) ?_
      exact K ad σ er ofd de dl bo ql qs tv am wo 0 ao aD o2 d2 H locs ls ⟨hI2, hof.c rfl rfl, hbo.c rfl (Nat.le_refl _), hDL.c rfl rfl rfl, hQZ⟩ hP hD hS (lv_sub hl [2, 3, 4, 5, 6, 7] rfl)
    · skip
      first | exact absurd h1 g1 | exact absurd g1 h1 | exact absurd h2 g2 | exact absurd g2 h2 | exact absurd h3 g3 | exact absurd g3 h3 | exact absurd h4 g4 | exact absurd g4 h4
  · skip
    obtain rfl : u1 = none := ht
    rcases hex with ⟨h1, hE⟩
    · skip
      subst hE
      obtain rfl : r1 = nI 1 := hr6.trans (by decide +kernel)
      rcases hr2 with ⟨g1, gu, gr⟩ | ⟨g1, gu⟩
      · skip
        first | exact absurd h1 g1 | exact absurd g1 h1 | exact absurd h2 g2 | exact absurd g2 h2 | exact absurd h3 g3 | exact absurd g3 h3 | exact absurd h4 g4 | exact absurd g4 h4
      · skip
        obtain rfl : th2 = 1 := gu
        have hP : va_P D vwCl (LWd cy ad σ er ofd de bo ql qs tv ao aD o2 d2 am wo 1) H := hP
        have hD : va_D (fun q => s.heap.size ≤ q) (LWd cy ad σ er ofd de bo ql qs tv ao aD o2 d2 am wo 1) := hD
        refine lv_istore (lv' := [(7, .int rm), (6, .int (nI 1)), (5, .int (nI i)), (0, .ref b), (1, .ref (ad 0 0)), (2, .ref (am 0)), (3, .ref ao), (4, .ref aD)]) hx hb dL_law_725 hl (by decide) rfl (fun ls hl => ?_)
        refine lv_aload_n hx hb dL_law_727 rfl (lv_at hl 5 rfl) ?_
        refine ro_calli (va_runV (As := []) (rest := []) ⟨hx, hb, hml, hown, hts⟩ (c_X6_thrown l D cy am σ er wo 1 H (hP.mem (fun _ hq => List.mem_append_right _ hq))) (cwV 0 hts gL_law_X6_thrown rfl rfl rfl hdX6_thrown ⟨Nat.le_of_ble_eq_true rfl, Nat.le_of_ble_eq_true rfl⟩) (ro_preV hK (va_recv hK.1 (hP.mem (fun _ hq => List.mem_append_right _ hq)) (ci := 6) (q0 := 0) rfl rfl)) rfl rfl hl.1 rfl (lv_room (Nat.le_of_ble_eq_true rfl)) dL_law_728 ⟨by omega, by omega⟩) (fun r9 h9 => ?_)
        obtain rfl : r9 = nI 1 := h9
        refine lv_iload hx hb dL_law_731 (lv_at hl 1 rfl) ?_
        refine lv_icmp_eq (tgt := 738) hx hb dL_law_733 (by decide) (fun _ => ?_) (fun q => absurd rfl q)
        refine lv_iload hx hb dL_law_738 (lv_at hl 1 rfl) ?_
        refine lv_if_ne (tgt := 755) hx hb dL_law_740 (by decide) (fun _ => ?_) (fun q => by first | exact absurd q (by decide) | exact absurd (by decide) q)
        refine lv_goto (tgt := 1317) hx hb dL_law_755 (by decide) ?_
        refine W.widen (k := cells + 2) (n := slots + 28) (by omega) (by omega) ?_
        exact K ad σ er ofd de dl bo ql qs tv am wo 1 ao aD o2 d2 H locs ls ⟨hI2, hof, hbo, hDL, hQZ⟩ hP hD hS (lv_sub hl [2, 3, 4, 5, 6, 7] rfl)
set_option maxHeartbeats 4000000 in
set_option maxRecDepth 100000 in
theorem law_authorised {p : Program} {l : Launch} {e : Env} {s : State} {m : MethodId} {below : List Frame} {meth : Method} {c : Code} {D : va_G} {cy : Nat → ClassId} {b L : Nat} {xs : Nat → Int32} {Q : State → Prop} (C : LX p l D cy s m c b L xs) {i n cells slots : Nat} (hi : i + 5 ≤ L) (hL : L ≤ 2560) (hn : n < 512) (hc : cells + 2 ≤ room_1.cells) (hs9 : slots + 28 ≤ room_1.slots) (K : LK p l e s m below meth c D cy b Q i (n + 1) 1317 (cells + 2) (slots + 28)) : LK p l e s m below meth c D cy b Q i n 758 cells slots := by
  obtain ⟨hx, hb, hml, hown, hts, hK, hXW, hXZ, hX, hbl, hfl⟩ := C
  intro ad σ er ofd de dl bo ql qs tv am wo th ao aD o d H locs ls hI hP hD hS hl
  obtain ⟨hIv, hof, hbo, hDL, hQZ⟩ := hI
  have hA : ∀ q, s.heap.size ≤ q → (fun q => s.heap.size ≤ q) q := fun q h => h
  have hbA : ¬ (fun q => s.heap.size ≤ q) b := Nat.not_le.mpr hbl
  have hI2 := hIv.more hn
  refine lv_aload_n hx hb dL_law_758 rfl (lv_at hl 2 rfl) ?_
  refine lv_aload_n hx hb dL_law_759 rfl (lv_at hl 1 rfl) ?_
  refine lv_iload hx hb dL_law_760 (lv_at hl 0 rfl) ?_
  refine lv_iconst (v := nI 1) hx hb dL_law_762 (by decide) ?_
  refine ln_iadd hx hb dL_law_763 (fun z hz => ?_)
  subst hz
  refine lw_sld hx hb hX hbl hbA hS (by omega) (by omega) dL_law_764 ?_
  refine lv_aload_n hx hb dL_law_765 rfl (lv_at hl 4 rfl) ?_
  refine al_calli (vx_runSW (As := [.ref (ad 0 0), .int (xs (i + 1)), .ref ao]) (rest := []) ⟨hx, hb, hml, hown, hts⟩ (c_L_authorised l hfl D cy ad σ er ofd de bo ql qs tv hIv ((xs (i + 1))) ao aD o d H.size) (vx_cwSW 3 hts gL_law_L_authorised rfl rfl rfl hdL_authorised.2 ⟨Nat.le_of_ble_eq_true rfl, Nat.le_of_ble_eq_true rfl⟩) (xo_preS hK rfl (hP.mem (fun _ hq => List.mem_append_left _ hq)) (hD.subl (List.sublist_append_left _ _)) hXW (hXZ.at hS hD hA (fun _ hq => List.mem_append_left _ hq))) rfl rfl hl.1 rfl (lv_room (Nat.le_of_ble_eq_true rfl)) dL_law_766 ⟨by omega, by omega⟩) hS hP hD hA (fun r1 u1 H locs hr1 hP hD hS => ?_)
  refine lv_istore (lv' := [(6, .int r1), (5, .int (nI i)), (0, .ref b), (1, .ref (ad 0 0)), (2, .ref (am 0)), (3, .ref ao), (4, .ref aD)]) hx hb dL_law_769 hl (by decide) rfl (fun ls hl => ?_)
  refine lv_aload_n hx hb dL_law_771 rfl (lv_at hl 4 rfl) ?_
  refine lv_aload_n hx hb dL_law_772 rfl (lv_at hl 2 rfl) ?_
  refine lv_iload hx hb dL_law_773 (lv_at hl 1 rfl) ?_
  refine lv_iconst (v := nI 1) hx hb dL_law_775 (by decide) ?_
  refine ln_iadd hx hb dL_law_776 (fun z hz => ?_)
  subst hz
  refine lw_sld hx hb hX hbl hbA hS (by omega) (by omega) dL_law_777 ?_
  refine ap_calli (va_runV (As := [.int (xs (i + 1))]) (rest := []) ⟨hx, hb, hml, hown, hts⟩ (c_X6_authorised l D cy am σ er wo th hIv ((xs (i + 1))) H.size) (cwV 1 hts gL_law_X6_authorised rfl rfl rfl hdX6_authorised ⟨Nat.le_of_ble_eq_true rfl, Nat.le_of_ble_eq_true rfl⟩) (mo_preV hK rfl (hP.mem (fun _ hq => List.mem_append_right _ hq)) (hD.subl (List.sublist_append_right _ _)) (va_recv hK.1 (hP.mem (fun _ hq => List.mem_append_right _ hq)) (ci := 6) (q0 := 0) rfl rfl)) rfl rfl hl.1 rfl (lv_room (Nat.le_of_ble_eq_true rfl)) dL_law_778 ⟨by omega, by omega⟩) hS hP hD hA (fun rm th2 H locs hr2 hP hD hS => ?_)
  obtain ⟨u1, o2, d2⟩ := u1
  rcases hr1 with ⟨t, ri, ht, hr6, hp, ho⟩ | ⟨E, ht, hex, hr6⟩
  · skip
    obtain rfl : u1 = some t := ht
    obtain rfl : r1 = nI 0 := hr6
    obtain ⟨h1, hr⟩ := hp
    rcases hr2 with ⟨g1, gu, gr⟩ | ⟨g1, gu⟩
    · skip
      obtain rfl : th2 = 0 := gu
      have hP : va_P D vwCl (LWd cy ad σ er ofd de bo ql qs tv ao aD o2 d2 am wo 0) H := hP
      have hD : va_D (fun q => s.heap.size ≤ q) (LWd cy ad σ er ofd de bo ql qs tv ao aD o2 d2 am wo 0) := hD
      refine lv_istore (lv' := [(7, .int rm), (6, .int (nI 0)), (5, .int (nI i)), (0, .ref b), (1, .ref (ad 0 0)), (2, .ref (am 0)), (3, .ref ao), (4, .ref aD)]) hx hb dL_law_781 hl (by decide) rfl (fun ls hl => ?_)
      refine lv_aload_n hx hb dL_law_783 rfl (lv_at hl 5 rfl) ?_
      refine ro_calli (va_runV (As := []) (rest := []) ⟨hx, hb, hml, hown, hts⟩ (c_X6_thrown l D cy am σ er wo 0 H (hP.mem (fun _ hq => List.mem_append_right _ hq))) (cwV 0 hts gL_law_X6_thrown rfl rfl rfl hdX6_thrown ⟨Nat.le_of_ble_eq_true rfl, Nat.le_of_ble_eq_true rfl⟩) (ro_preV hK (va_recv hK.1 (hP.mem (fun _ hq => List.mem_append_right _ hq)) (ci := 6) (q0 := 0) rfl rfl)) rfl rfl hl.1 rfl (lv_room (Nat.le_of_ble_eq_true rfl)) dL_law_784 ⟨by omega, by omega⟩) (fun r9 h9 => ?_)
      obtain rfl : r9 = nI 0 := h9
      refine lv_iload hx hb dL_law_787 (lv_at hl 1 rfl) ?_
      refine lv_icmp_eq (tgt := 794) hx hb dL_law_789 (by decide) (fun _ => ?_) (fun q => absurd rfl q)
      refine lv_iload hx hb dL_law_794 (lv_at hl 1 rfl) ?_
      refine lv_if_ne (tgt := 811) hx hb dL_law_796 (by decide) (fun q => by first | exact absurd q (by decide) | exact absurd (by decide) q) (fun _ => ?_)
      refine lv_aload_n hx hb dL_law_799 rfl (lv_at hl 6 rfl) ?_
      refine lv_iconst (v := nI 0) hx hb dL_law_800 (by decide) ?_
      refine lw_old hx hb hK hP dL_law_801 ?_
      refine lv_iload hx hb dL_law_802 (lv_at hl 0 rfl) ?_
      refine lv_i2l hx hb dL_law_804 rfl ?_
      refine lw_lcmpeq (tgt := 811) hx hb (ho.trans (congrArg Int32.toInt64 (hr.trans gr.symm))) dL_law_805 dL_law_806 (by decide) ?_
      refine lv_goto (tgt := 1317) hx hb dL_law_811 (by decide) ?_
      refine W.widen (k := cells + 2) (n := slots + 28) (by omega) (by omega) ?_
      exact K ad σ er ofd de dl bo ql qs tv am wo 0 ao aD o2 d2 H locs ls ⟨hI2, hof.c rfl rfl, hbo.c rfl (Nat.le_refl _), hDL.c rfl rfl rfl, hQZ⟩ hP hD hS (lv_sub hl [2, 3, 4, 5, 6, 7] rfl)
    · skip
      first | exact absurd h1 g1 | exact absurd g1 h1 | exact absurd h2 g2 | exact absurd g2 h2 | exact absurd h3 g3 | exact absurd g3 h3 | exact absurd h4 g4 | exact absurd g4 h4
  · skip
    obtain rfl : u1 = none := ht
    rcases hex with ⟨h1, hE⟩
    · skip
      subst hE
      obtain rfl : r1 = nI 1 := hr6.trans (by decide +kernel)
      rcases hr2 with ⟨g1, gu, gr⟩ | ⟨g1, gu⟩
      · skip
        first | exact absurd h1 g1 | exact absurd g1 h1 | exact absurd h2 g2 | exact absurd g2 h2 | exact absurd h3 g3 | exact absurd g3 h3 | exact absurd h4 g4 | exact absurd g4 h4
      · skip
        obtain rfl : th2 = 1 := gu
        have hP : va_P D vwCl (LWd cy ad σ er ofd de bo ql qs tv ao aD o2 d2 am wo 1) H := hP
        have hD : va_D (fun q => s.heap.size ≤ q) (LWd cy ad σ er ofd de bo ql qs tv ao aD o2 d2 am wo 1) := hD
        refine lv_istore (lv' := [(7, .int rm), (6, .int (nI 1)), (5, .int (nI i)), (0, .ref b), (1, .ref (ad 0 0)), (2, .ref (am 0)), (3, .ref ao), (4, .ref aD)]) hx hb dL_law_781 hl (by decide) rfl (fun ls hl => ?_)
        refine lv_aload_n hx hb dL_law_783 rfl (lv_at hl 5 rfl) ?_
        refine ro_calli (va_runV (As := []) (rest := []) ⟨hx, hb, hml, hown, hts⟩ (c_X6_thrown l D cy am σ er wo 1 H (hP.mem (fun _ hq => List.mem_append_right _ hq))) (cwV 0 hts gL_law_X6_thrown rfl rfl rfl hdX6_thrown ⟨Nat.le_of_ble_eq_true rfl, Nat.le_of_ble_eq_true rfl⟩) (ro_preV hK (va_recv hK.1 (hP.mem (fun _ hq => List.mem_append_right _ hq)) (ci := 6) (q0 := 0) rfl rfl)) rfl rfl hl.1 rfl (lv_room (Nat.le_of_ble_eq_true rfl)) dL_law_784 ⟨by omega, by omega⟩) (fun r9 h9 => ?_)
        obtain rfl : r9 = nI 1 := h9
        refine lv_iload hx hb dL_law_787 (lv_at hl 1 rfl) ?_
        refine lv_icmp_eq (tgt := 794) hx hb dL_law_789 (by decide) (fun _ => ?_) (fun q => absurd rfl q)
        refine lv_iload hx hb dL_law_794 (lv_at hl 1 rfl) ?_
        refine lv_if_ne (tgt := 811) hx hb dL_law_796 (by decide) (fun _ => ?_) (fun q => by first | exact absurd q (by decide) | exact absurd (by decide) q)
        refine lv_goto (tgt := 1317) hx hb dL_law_811 (by decide) ?_
        refine W.widen (k := cells + 2) (n := slots + 28) (by omega) (by omega) ?_
        exact K ad σ er ofd de dl bo ql qs tv am wo 1 ao aD o2 d2 H locs ls ⟨hI2, hof, hbo, hDL, hQZ⟩ hP hD hS (lv_sub hl [2, 3, 4, 5, 6, 7] rfl)
set_option maxHeartbeats 4000000 in
set_option maxRecDepth 100000 in
theorem law_expected {p : Program} {l : Launch} {e : Env} {s : State} {m : MethodId} {below : List Frame} {meth : Method} {c : Code} {D : va_G} {cy : Nat → ClassId} {b L : Nat} {xs : Nat → Int32} {Q : State → Prop} (C : LX p l D cy s m c b L xs) {i n cells slots : Nat} (hi : i + 5 ≤ L) (hL : L ≤ 2560) (hn : n < 512) (hc : cells + 2 ≤ room_1.cells) (hs9 : slots + 28 ≤ room_1.slots) (K : LK p l e s m below meth c D cy b Q i (n + 1) 1317 (cells + 2) (slots + 28)) : LK p l e s m below meth c D cy b Q i n 1044 cells slots := by
  obtain ⟨hx, hb, hml, hown, hts, hK, hXW, hXZ, hX, hbl, hfl⟩ := C
  intro ad σ er ofd de dl bo ql qs tv am wo th ao aD o d H locs ls hI hP hD hS hl
  obtain ⟨hIv, hof, hbo, hDL, hQZ⟩ := hI
  have hA : ∀ q, s.heap.size ≤ q → (fun q => s.heap.size ≤ q) q := fun q h => h
  have hbA : ¬ (fun q => s.heap.size ≤ q) b := Nat.not_le.mpr hbl
  have hI2 := hIv.more hn
  refine lv_aload_n hx hb dL_law_1044 rfl (lv_at hl 2 rfl) ?_
  refine lv_aload_n hx hb dL_law_1045 rfl (lv_at hl 1 rfl) ?_
  refine lv_iload hx hb dL_law_1046 (lv_at hl 0 rfl) ?_
  refine lv_iconst (v := nI 1) hx hb dL_law_1048 (by decide) ?_
  refine ln_iadd hx hb dL_law_1049 (fun z hz => ?_)
  subst hz
  refine lw_sld hx hb hX hbl hbA hS (by omega) (by omega) dL_law_1050 ?_
  refine lv_aload_n hx hb dL_law_1051 rfl (lv_at hl 4 rfl) ?_
  refine al_calli (vx_runSW (As := [.ref (ad 0 0), .int (xs (i + 1)), .ref ao]) (rest := []) ⟨hx, hb, hml, hown, hts⟩ (c_L_expected l hfl D cy ad σ er ofd de bo ql qs tv hof hIv ((xs (i + 1))) ao aD o d H.size) (vx_cwSW 3 hts gL_law_L_expected rfl rfl rfl hdL_expected.2 ⟨Nat.le_of_ble_eq_true rfl, Nat.le_of_ble_eq_true rfl⟩) (xo_preS hK rfl (hP.mem (fun _ hq => List.mem_append_left _ hq)) (hD.subl (List.sublist_append_left _ _)) hXW (hXZ.at hS hD hA (fun _ hq => List.mem_append_left _ hq))) rfl rfl hl.1 rfl (lv_room (Nat.le_of_ble_eq_true rfl)) dL_law_1052 ⟨by omega, by omega⟩) hS hP hD hA (fun r1 u1 H locs hr1 hP hD hS => ?_)
  refine lv_istore (lv' := [(6, .int r1), (5, .int (nI i)), (0, .ref b), (1, .ref (ad 0 0)), (2, .ref (am 0)), (3, .ref ao), (4, .ref aD)]) hx hb dL_law_1055 hl (by decide) rfl (fun ls hl => ?_)
  refine lv_aload_n hx hb dL_law_1057 rfl (lv_at hl 4 rfl) ?_
  refine lv_aload_n hx hb dL_law_1058 rfl (lv_at hl 2 rfl) ?_
  refine lv_iload hx hb dL_law_1059 (lv_at hl 1 rfl) ?_
  refine lv_iconst (v := nI 1) hx hb dL_law_1061 (by decide) ?_
  refine ln_iadd hx hb dL_law_1062 (fun z hz => ?_)
  subst hz
  refine lw_sld hx hb hX hbl hbA hS (by omega) (by omega) dL_law_1063 ?_
  refine ap_calli (va_runV (As := [.int (xs (i + 1))]) (rest := []) ⟨hx, hb, hml, hown, hts⟩ (c_X6_expected l D cy am σ er wo th hIv ((xs (i + 1))) H.size) (cwV 1 hts gL_law_X6_expected rfl rfl rfl hdX6_expected ⟨Nat.le_of_ble_eq_true rfl, Nat.le_of_ble_eq_true rfl⟩) (mo_preV hK rfl (hP.mem (fun _ hq => List.mem_append_right _ hq)) (hD.subl (List.sublist_append_right _ _)) (va_recv hK.1 (hP.mem (fun _ hq => List.mem_append_right _ hq)) (ci := 6) (q0 := 0) rfl rfl)) rfl rfl hl.1 rfl (lv_room (Nat.le_of_ble_eq_true rfl)) dL_law_1064 ⟨by omega, by omega⟩) hS hP hD hA (fun rm th2 H locs hr2 hP hD hS => ?_)
  obtain ⟨u1, o2, d2⟩ := u1
  rcases hr1 with ⟨t, ri, ht, hr6, hp, ho⟩ | ⟨E, ht, hex, hr6⟩
  · skip
    obtain rfl : u1 = some t := ht
    obtain rfl : r1 = nI 0 := hr6
    obtain ⟨h1, hr⟩ := hp
    rcases hr2 with ⟨g1, gu, gr⟩ | ⟨g1, gu⟩
    · skip
      obtain rfl : th2 = 0 := gu
      have hP : va_P D vwCl (LWd cy ad σ er ofd de bo ql qs tv ao aD o2 d2 am wo 0) H := hP
      have hD : va_D (fun q => s.heap.size ≤ q) (LWd cy ad σ er ofd de bo ql qs tv ao aD o2 d2 am wo 0) := hD
      refine lv_istore (lv' := [(7, .int rm), (6, .int (nI 0)), (5, .int (nI i)), (0, .ref b), (1, .ref (ad 0 0)), (2, .ref (am 0)), (3, .ref ao), (4, .ref aD)]) hx hb dL_law_1067 hl (by decide) rfl (fun ls hl => ?_)
      refine lv_aload_n hx hb dL_law_1069 rfl (lv_at hl 5 rfl) ?_
      refine ro_calli (va_runV (As := []) (rest := []) ⟨hx, hb, hml, hown, hts⟩ (c_X6_thrown l D cy am σ er wo 0 H (hP.mem (fun _ hq => List.mem_append_right _ hq))) (cwV 0 hts gL_law_X6_thrown rfl rfl rfl hdX6_thrown ⟨Nat.le_of_ble_eq_true rfl, Nat.le_of_ble_eq_true rfl⟩) (ro_preV hK (va_recv hK.1 (hP.mem (fun _ hq => List.mem_append_right _ hq)) (ci := 6) (q0 := 0) rfl rfl)) rfl rfl hl.1 rfl (lv_room (Nat.le_of_ble_eq_true rfl)) dL_law_1070 ⟨by omega, by omega⟩) (fun r9 h9 => ?_)
      obtain rfl : r9 = nI 0 := h9
      refine lv_iload hx hb dL_law_1073 (lv_at hl 1 rfl) ?_
      refine lv_icmp_eq (tgt := 1080) hx hb dL_law_1075 (by decide) (fun _ => ?_) (fun q => absurd rfl q)
      refine lv_iload hx hb dL_law_1080 (lv_at hl 1 rfl) ?_
      refine lv_if_ne (tgt := 1097) hx hb dL_law_1082 (by decide) (fun q => by first | exact absurd q (by decide) | exact absurd (by decide) q) (fun _ => ?_)
      refine lv_aload_n hx hb dL_law_1085 rfl (lv_at hl 6 rfl) ?_
      refine lv_iconst (v := nI 0) hx hb dL_law_1086 (by decide) ?_
      refine lw_old hx hb hK hP dL_law_1087 ?_
      refine lv_iload hx hb dL_law_1088 (lv_at hl 0 rfl) ?_
      refine lv_i2l hx hb dL_law_1090 rfl ?_
      refine lw_lcmpeq (tgt := 1097) hx hb (ho.trans (congrArg Int32.toInt64 (hr.trans gr.symm))) dL_law_1091 dL_law_1092 (by decide) ?_
      refine lv_goto (tgt := 1317) hx hb dL_law_1097 (by decide) ?_
      refine W.widen (k := cells + 2) (n := slots + 28) (by omega) (by omega) ?_
      exact K ad σ er ofd de dl bo ql qs tv am wo 0 ao aD o2 d2 H locs ls ⟨hI2, hof.c rfl rfl, hbo.c rfl (Nat.le_refl _), hDL.c rfl rfl rfl, hQZ⟩ hP hD hS (lv_sub hl [2, 3, 4, 5, 6, 7] rfl)
    · skip
      first | exact absurd h1 g1 | exact absurd g1 h1 | exact absurd h2 g2 | exact absurd g2 h2 | exact absurd h3 g3 | exact absurd g3 h3 | exact absurd h4 g4 | exact absurd g4 h4
  · skip
    obtain rfl : u1 = none := ht
    rcases hex with ⟨h1, hE⟩
    · skip
      subst hE
      obtain rfl : r1 = nI 1 := hr6.trans (by decide +kernel)
      rcases hr2 with ⟨g1, gu, gr⟩ | ⟨g1, gu⟩
      · skip
        first | exact absurd h1 g1 | exact absurd g1 h1 | exact absurd h2 g2 | exact absurd g2 h2 | exact absurd h3 g3 | exact absurd g3 h3 | exact absurd h4 g4 | exact absurd g4 h4
      · skip
        obtain rfl : th2 = 1 := gu
        have hP : va_P D vwCl (LWd cy ad σ er ofd de bo ql qs tv ao aD o2 d2 am wo 1) H := hP
        have hD : va_D (fun q => s.heap.size ≤ q) (LWd cy ad σ er ofd de bo ql qs tv ao aD o2 d2 am wo 1) := hD
        refine lv_istore (lv' := [(7, .int rm), (6, .int (nI 1)), (5, .int (nI i)), (0, .ref b), (1, .ref (ad 0 0)), (2, .ref (am 0)), (3, .ref ao), (4, .ref aD)]) hx hb dL_law_1067 hl (by decide) rfl (fun ls hl => ?_)
        refine lv_aload_n hx hb dL_law_1069 rfl (lv_at hl 5 rfl) ?_
        refine ro_calli (va_runV (As := []) (rest := []) ⟨hx, hb, hml, hown, hts⟩ (c_X6_thrown l D cy am σ er wo 1 H (hP.mem (fun _ hq => List.mem_append_right _ hq))) (cwV 0 hts gL_law_X6_thrown rfl rfl rfl hdX6_thrown ⟨Nat.le_of_ble_eq_true rfl, Nat.le_of_ble_eq_true rfl⟩) (ro_preV hK (va_recv hK.1 (hP.mem (fun _ hq => List.mem_append_right _ hq)) (ci := 6) (q0 := 0) rfl rfl)) rfl rfl hl.1 rfl (lv_room (Nat.le_of_ble_eq_true rfl)) dL_law_1070 ⟨by omega, by omega⟩) (fun r9 h9 => ?_)
        obtain rfl : r9 = nI 1 := h9
        refine lv_iload hx hb dL_law_1073 (lv_at hl 1 rfl) ?_
        refine lv_icmp_eq (tgt := 1080) hx hb dL_law_1075 (by decide) (fun _ => ?_) (fun q => absurd rfl q)
        refine lv_iload hx hb dL_law_1080 (lv_at hl 1 rfl) ?_
        refine lv_if_ne (tgt := 1097) hx hb dL_law_1082 (by decide) (fun _ => ?_) (fun q => by first | exact absurd q (by decide) | exact absurd (by decide) q)
        refine lv_goto (tgt := 1317) hx hb dL_law_1097 (by decide) ?_
        refine W.widen (k := cells + 2) (n := slots + 28) (by omega) (by omega) ?_
        exact K ad σ er ofd de dl bo ql qs tv am wo 1 ao aD o2 d2 H locs ls ⟨hI2, hof, hbo, hDL, hQZ⟩ hP hD hS (lv_sub hl [2, 3, 4, 5, 6, 7] rfl)
set_option maxHeartbeats 4000000 in
set_option maxRecDepth 100000 in
theorem law_asked {p : Program} {l : Launch} {e : Env} {s : State} {m : MethodId} {below : List Frame} {meth : Method} {c : Code} {D : va_G} {cy : Nat → ClassId} {b L : Nat} {xs : Nat → Int32} {Q : State → Prop} (C : LX p l D cy s m c b L xs) {i n cells slots : Nat} (hi : i + 5 ≤ L) (hL : L ≤ 2560) (hn : n < 512) (hc : cells + 2 ≤ room_1.cells) (hs9 : slots + 28 ≤ room_1.slots) (K : LK p l e s m below meth c D cy b Q i (n + 1) 1317 (cells + 2) (slots + 28)) : LK p l e s m below meth c D cy b Q i n 1178 cells slots := by
  obtain ⟨hx, hb, hml, hown, hts, hK, hXW, hXZ, hX, hbl, hfl⟩ := C
  intro ad σ er ofd de dl bo ql qs tv am wo th ao aD o d H locs ls hI hP hD hS hl
  obtain ⟨hIv, hof, hbo, hDL, hQZ⟩ := hI
  have hA : ∀ q, s.heap.size ≤ q → (fun q => s.heap.size ≤ q) q := fun q h => h
  have hbA : ¬ (fun q => s.heap.size ≤ q) b := Nat.not_le.mpr hbl
  have hI2 := hIv.more hn
  refine lv_aload_n hx hb dL_law_1178 rfl (lv_at hl 2 rfl) ?_
  refine lv_aload_n hx hb dL_law_1179 rfl (lv_at hl 1 rfl) ?_
  refine lv_iload hx hb dL_law_1180 (lv_at hl 0 rfl) ?_
  refine lv_iconst (v := nI 1) hx hb dL_law_1182 (by decide) ?_
  refine ln_iadd hx hb dL_law_1183 (fun z hz => ?_)
  subst hz
  refine lw_sld hx hb hX hbl hbA hS (by omega) (by omega) dL_law_1184 ?_
  refine lv_aload_n hx hb dL_law_1185 rfl (lv_at hl 4 rfl) ?_
  refine al_calli (vx_runSW (As := [.ref (ad 0 0), .int (xs (i + 1)), .ref ao]) (rest := []) ⟨hx, hb, hml, hown, hts⟩ (c_L_asked l hfl D cy ad σ er ofd de bo ql qs tv hof hIv ((xs (i + 1))) ao aD o d H.size) (vx_cwSW 3 hts gL_law_L_asked rfl rfl rfl hdL_asked.2 ⟨Nat.le_of_ble_eq_true rfl, Nat.le_of_ble_eq_true rfl⟩) (xo_preS hK rfl (hP.mem (fun _ hq => List.mem_append_left _ hq)) (hD.subl (List.sublist_append_left _ _)) hXW (hXZ.at hS hD hA (fun _ hq => List.mem_append_left _ hq))) rfl rfl hl.1 rfl (lv_room (Nat.le_of_ble_eq_true rfl)) dL_law_1186 ⟨by omega, by omega⟩) hS hP hD hA (fun r1 u1 H locs hr1 hP hD hS => ?_)
  refine lv_istore (lv' := [(6, .int r1), (5, .int (nI i)), (0, .ref b), (1, .ref (ad 0 0)), (2, .ref (am 0)), (3, .ref ao), (4, .ref aD)]) hx hb dL_law_1189 hl (by decide) rfl (fun ls hl => ?_)
  refine lv_aload_n hx hb dL_law_1191 rfl (lv_at hl 4 rfl) ?_
  refine lv_aload_n hx hb dL_law_1192 rfl (lv_at hl 2 rfl) ?_
  refine lv_iload hx hb dL_law_1193 (lv_at hl 1 rfl) ?_
  refine lv_iconst (v := nI 1) hx hb dL_law_1195 (by decide) ?_
  refine ln_iadd hx hb dL_law_1196 (fun z hz => ?_)
  subst hz
  refine lw_sld hx hb hX hbl hbA hS (by omega) (by omega) dL_law_1197 ?_
  refine ap_calli (va_runV (As := [.int (xs (i + 1))]) (rest := []) ⟨hx, hb, hml, hown, hts⟩ (c_X6_asked l D cy am σ er wo th hIv ((xs (i + 1))) H.size) (cwV 1 hts gL_law_X6_asked rfl rfl rfl hdX6_asked ⟨Nat.le_of_ble_eq_true rfl, Nat.le_of_ble_eq_true rfl⟩) (mo_preV hK rfl (hP.mem (fun _ hq => List.mem_append_right _ hq)) (hD.subl (List.sublist_append_right _ _)) (va_recv hK.1 (hP.mem (fun _ hq => List.mem_append_right _ hq)) (ci := 6) (q0 := 0) rfl rfl)) rfl rfl hl.1 rfl (lv_room (Nat.le_of_ble_eq_true rfl)) dL_law_1198 ⟨by omega, by omega⟩) hS hP hD hA (fun rm th2 H locs hr2 hP hD hS => ?_)
  obtain ⟨u1, o2, d2⟩ := u1
  rcases hr1 with ⟨t, ri, ht, hr6, hp, ho⟩ | ⟨E, ht, hex, hr6⟩
  · skip
    obtain rfl : u1 = some t := ht
    obtain rfl : r1 = nI 0 := hr6
    obtain ⟨h1, hr⟩ := hp
    rcases hr2 with ⟨g1, gu, gr⟩ | ⟨g1, gu⟩
    · skip
      obtain rfl : th2 = 0 := gu
      have hP : va_P D vwCl (LWd cy ad σ er ofd de bo ql qs tv ao aD o2 d2 am wo 0) H := hP
      have hD : va_D (fun q => s.heap.size ≤ q) (LWd cy ad σ er ofd de bo ql qs tv ao aD o2 d2 am wo 0) := hD
      refine lv_istore (lv' := [(7, .int rm), (6, .int (nI 0)), (5, .int (nI i)), (0, .ref b), (1, .ref (ad 0 0)), (2, .ref (am 0)), (3, .ref ao), (4, .ref aD)]) hx hb dL_law_1201 hl (by decide) rfl (fun ls hl => ?_)
      refine lv_aload_n hx hb dL_law_1203 rfl (lv_at hl 5 rfl) ?_
      refine ro_calli (va_runV (As := []) (rest := []) ⟨hx, hb, hml, hown, hts⟩ (c_X6_thrown l D cy am σ er wo 0 H (hP.mem (fun _ hq => List.mem_append_right _ hq))) (cwV 0 hts gL_law_X6_thrown rfl rfl rfl hdX6_thrown ⟨Nat.le_of_ble_eq_true rfl, Nat.le_of_ble_eq_true rfl⟩) (ro_preV hK (va_recv hK.1 (hP.mem (fun _ hq => List.mem_append_right _ hq)) (ci := 6) (q0 := 0) rfl rfl)) rfl rfl hl.1 rfl (lv_room (Nat.le_of_ble_eq_true rfl)) dL_law_1204 ⟨by omega, by omega⟩) (fun r9 h9 => ?_)
      obtain rfl : r9 = nI 0 := h9
      refine lv_iload hx hb dL_law_1207 (lv_at hl 1 rfl) ?_
      refine lv_icmp_eq (tgt := 1214) hx hb dL_law_1209 (by decide) (fun _ => ?_) (fun q => absurd rfl q)
      refine lv_iload hx hb dL_law_1214 (lv_at hl 1 rfl) ?_
      refine lv_if_ne (tgt := 1231) hx hb dL_law_1216 (by decide) (fun q => by first | exact absurd q (by decide) | exact absurd (by decide) q) (fun _ => ?_)
      refine lv_aload_n hx hb dL_law_1219 rfl (lv_at hl 6 rfl) ?_
      refine lv_iconst (v := nI 0) hx hb dL_law_1220 (by decide) ?_
      refine lw_old hx hb hK hP dL_law_1221 ?_
      refine lv_iload hx hb dL_law_1222 (lv_at hl 0 rfl) ?_
      refine lv_i2l hx hb dL_law_1224 rfl ?_
      refine lw_lcmpeq (tgt := 1231) hx hb (ho.trans (congrArg Int32.toInt64 (hr.trans gr.symm))) dL_law_1225 dL_law_1226 (by decide) ?_
      refine lv_goto (tgt := 1317) hx hb dL_law_1231 (by decide) ?_
      refine W.widen (k := cells + 2) (n := slots + 28) (by omega) (by omega) ?_
      exact K ad σ er ofd de dl bo ql qs tv am wo 0 ao aD o2 d2 H locs ls ⟨hI2, hof.c rfl rfl, hbo.c rfl (Nat.le_refl _), hDL.c rfl rfl rfl, hQZ⟩ hP hD hS (lv_sub hl [2, 3, 4, 5, 6, 7] rfl)
    · skip
      first | exact absurd h1 g1 | exact absurd g1 h1 | exact absurd h2 g2 | exact absurd g2 h2 | exact absurd h3 g3 | exact absurd g3 h3 | exact absurd h4 g4 | exact absurd g4 h4
  · skip
    obtain rfl : u1 = none := ht
    rcases hex with ⟨h1, hE⟩
    · skip
      subst hE
      obtain rfl : r1 = nI 1 := hr6.trans (by decide +kernel)
      rcases hr2 with ⟨g1, gu, gr⟩ | ⟨g1, gu⟩
      · skip
        first | exact absurd h1 g1 | exact absurd g1 h1 | exact absurd h2 g2 | exact absurd g2 h2 | exact absurd h3 g3 | exact absurd g3 h3 | exact absurd h4 g4 | exact absurd g4 h4
      · skip
        obtain rfl : th2 = 1 := gu
        have hP : va_P D vwCl (LWd cy ad σ er ofd de bo ql qs tv ao aD o2 d2 am wo 1) H := hP
        have hD : va_D (fun q => s.heap.size ≤ q) (LWd cy ad σ er ofd de bo ql qs tv ao aD o2 d2 am wo 1) := hD
        refine lv_istore (lv' := [(7, .int rm), (6, .int (nI 1)), (5, .int (nI i)), (0, .ref b), (1, .ref (ad 0 0)), (2, .ref (am 0)), (3, .ref ao), (4, .ref aD)]) hx hb dL_law_1201 hl (by decide) rfl (fun ls hl => ?_)
        refine lv_aload_n hx hb dL_law_1203 rfl (lv_at hl 5 rfl) ?_
        refine ro_calli (va_runV (As := []) (rest := []) ⟨hx, hb, hml, hown, hts⟩ (c_X6_thrown l D cy am σ er wo 1 H (hP.mem (fun _ hq => List.mem_append_right _ hq))) (cwV 0 hts gL_law_X6_thrown rfl rfl rfl hdX6_thrown ⟨Nat.le_of_ble_eq_true rfl, Nat.le_of_ble_eq_true rfl⟩) (ro_preV hK (va_recv hK.1 (hP.mem (fun _ hq => List.mem_append_right _ hq)) (ci := 6) (q0 := 0) rfl rfl)) rfl rfl hl.1 rfl (lv_room (Nat.le_of_ble_eq_true rfl)) dL_law_1204 ⟨by omega, by omega⟩) (fun r9 h9 => ?_)
        obtain rfl : r9 = nI 1 := h9
        refine lv_iload hx hb dL_law_1207 (lv_at hl 1 rfl) ?_
        refine lv_icmp_eq (tgt := 1214) hx hb dL_law_1209 (by decide) (fun _ => ?_) (fun q => absurd rfl q)
        refine lv_iload hx hb dL_law_1214 (lv_at hl 1 rfl) ?_
        refine lv_if_ne (tgt := 1231) hx hb dL_law_1216 (by decide) (fun _ => ?_) (fun q => by first | exact absurd q (by decide) | exact absurd (by decide) q)
        refine lv_goto (tgt := 1317) hx hb dL_law_1231 (by decide) ?_
        refine W.widen (k := cells + 2) (n := slots + 28) (by omega) (by omega) ?_
        exact K ad σ er ofd de dl bo ql qs tv am wo 1 ao aD o2 d2 H locs ls ⟨hI2, hof, hbo, hDL, hQZ⟩ hP hD hS (lv_sub hl [2, 3, 4, 5, 6, 7] rfl)
set_option maxHeartbeats 4000000 in
set_option maxRecDepth 100000 in
theorem law_refused {p : Program} {l : Launch} {e : Env} {s : State} {m : MethodId} {below : List Frame} {meth : Method} {c : Code} {D : va_G} {cy : Nat → ClassId} {b L : Nat} {xs : Nat → Int32} {Q : State → Prop} (C : LX p l D cy s m c b L xs) {i n cells slots : Nat} (hi : i + 5 ≤ L) (hL : L ≤ 2560) (hn : n < 512) (hc : cells + 2 ≤ room_1.cells) (hs9 : slots + 28 ≤ room_1.slots) (K : LK p l e s m below meth c D cy b Q i (n + 1) 1317 (cells + 2) (slots + 28)) : LK p l e s m below meth c D cy b Q i n 1234 cells slots := by
  obtain ⟨hx, hb, hml, hown, hts, hK, hXW, hXZ, hX, hbl, hfl⟩ := C
  intro ad σ er ofd de dl bo ql qs tv am wo th ao aD o d H locs ls hI hP hD hS hl
  obtain ⟨hIv, hof, hbo, hDL, hQZ⟩ := hI
  have hA : ∀ q, s.heap.size ≤ q → (fun q => s.heap.size ≤ q) q := fun q h => h
  have hbA : ¬ (fun q => s.heap.size ≤ q) b := Nat.not_le.mpr hbl
  have hI2 := hIv.more hn
  refine lv_aload_n hx hb dL_law_1234 rfl (lv_at hl 2 rfl) ?_
  refine lv_aload_n hx hb dL_law_1235 rfl (lv_at hl 1 rfl) ?_
  refine lv_iload hx hb dL_law_1236 (lv_at hl 0 rfl) ?_
  refine lv_iconst (v := nI 1) hx hb dL_law_1238 (by decide) ?_
  refine ln_iadd hx hb dL_law_1239 (fun z hz => ?_)
  subst hz
  refine lw_sld hx hb hX hbl hbA hS (by omega) (by omega) dL_law_1240 ?_
  refine lv_aload_n hx hb dL_law_1241 rfl (lv_at hl 4 rfl) ?_
  refine al_calli (vx_runSW (As := [.ref (ad 0 0), .int (xs (i + 1)), .ref ao]) (rest := []) ⟨hx, hb, hml, hown, hts⟩ (c_L_refused l hfl D cy ad σ er ofd de bo ql qs tv ((xs (i + 1))) ao aD o d H.size) (vx_cwSW 3 hts gL_law_L_refused rfl rfl rfl hdL_refused.2 ⟨Nat.le_of_ble_eq_true rfl, Nat.le_of_ble_eq_true rfl⟩) (xo_preS hK rfl (hP.mem (fun _ hq => List.mem_append_left _ hq)) (hD.subl (List.sublist_append_left _ _)) hXW (hXZ.at hS hD hA (fun _ hq => List.mem_append_left _ hq))) rfl rfl hl.1 rfl (lv_room (Nat.le_of_ble_eq_true rfl)) dL_law_1242 ⟨by omega, by omega⟩) hS hP hD hA (fun r1 u1 H locs hr1 hP hD hS => ?_)
  refine lv_istore (lv' := [(6, .int r1), (5, .int (nI i)), (0, .ref b), (1, .ref (ad 0 0)), (2, .ref (am 0)), (3, .ref ao), (4, .ref aD)]) hx hb dL_law_1245 hl (by decide) rfl (fun ls hl => ?_)
  refine lv_aload_n hx hb dL_law_1247 rfl (lv_at hl 4 rfl) ?_
  refine lv_aload_n hx hb dL_law_1248 rfl (lv_at hl 2 rfl) ?_
  refine lv_iload hx hb dL_law_1249 (lv_at hl 1 rfl) ?_
  refine lv_iconst (v := nI 1) hx hb dL_law_1251 (by decide) ?_
  refine ln_iadd hx hb dL_law_1252 (fun z hz => ?_)
  subst hz
  refine lw_sld hx hb hX hbl hbA hS (by omega) (by omega) dL_law_1253 ?_
  refine ap_calli (va_runV (As := [.int (xs (i + 1))]) (rest := []) ⟨hx, hb, hml, hown, hts⟩ (c_X6_refused l D cy am σ er wo th ((xs (i + 1))) H.size) (cwV 1 hts gL_law_X6_refused rfl rfl rfl hdX6_refused ⟨Nat.le_of_ble_eq_true rfl, Nat.le_of_ble_eq_true rfl⟩) (mo_preV hK rfl (hP.mem (fun _ hq => List.mem_append_right _ hq)) (hD.subl (List.sublist_append_right _ _)) (va_recv hK.1 (hP.mem (fun _ hq => List.mem_append_right _ hq)) (ci := 6) (q0 := 0) rfl rfl)) rfl rfl hl.1 rfl (lv_room (Nat.le_of_ble_eq_true rfl)) dL_law_1254 ⟨by omega, by omega⟩) hS hP hD hA (fun rm th2 H locs hr2 hP hD hS => ?_)
  obtain ⟨u1, o2, d2⟩ := u1
  rcases hr1 with ⟨t, ri, ht, hr6, hp, ho⟩ | ⟨E, ht, hex, hr6⟩
  · skip
    obtain rfl : u1 = some t := ht
    obtain rfl : r1 = nI 0 := hr6
    obtain ⟨h1, hr⟩ := hp
    rcases hr2 with ⟨g1, gu, gr⟩ | ⟨g1, gu⟩
    · skip
      obtain rfl : th2 = 0 := gu
      have hP : va_P D vwCl (LWd cy ad σ er ofd de bo ql qs tv ao aD o2 d2 am wo 0) H := hP
      have hD : va_D (fun q => s.heap.size ≤ q) (LWd cy ad σ er ofd de bo ql qs tv ao aD o2 d2 am wo 0) := hD
      refine lv_istore (lv' := [(7, .int rm), (6, .int (nI 0)), (5, .int (nI i)), (0, .ref b), (1, .ref (ad 0 0)), (2, .ref (am 0)), (3, .ref ao), (4, .ref aD)]) hx hb dL_law_1257 hl (by decide) rfl (fun ls hl => ?_)
      refine lv_aload_n hx hb dL_law_1259 rfl (lv_at hl 5 rfl) ?_
      refine ro_calli (va_runV (As := []) (rest := []) ⟨hx, hb, hml, hown, hts⟩ (c_X6_thrown l D cy am σ er wo 0 H (hP.mem (fun _ hq => List.mem_append_right _ hq))) (cwV 0 hts gL_law_X6_thrown rfl rfl rfl hdX6_thrown ⟨Nat.le_of_ble_eq_true rfl, Nat.le_of_ble_eq_true rfl⟩) (ro_preV hK (va_recv hK.1 (hP.mem (fun _ hq => List.mem_append_right _ hq)) (ci := 6) (q0 := 0) rfl rfl)) rfl rfl hl.1 rfl (lv_room (Nat.le_of_ble_eq_true rfl)) dL_law_1260 ⟨by omega, by omega⟩) (fun r9 h9 => ?_)
      obtain rfl : r9 = nI 0 := h9
      refine lv_iload hx hb dL_law_1263 (lv_at hl 1 rfl) ?_
      refine lv_icmp_eq (tgt := 1270) hx hb dL_law_1265 (by decide) (fun _ => ?_) (fun q => absurd rfl q)
      refine lv_iload hx hb dL_law_1270 (lv_at hl 1 rfl) ?_
      refine lv_if_ne (tgt := 1287) hx hb dL_law_1272 (by decide) (fun q => by first | exact absurd q (by decide) | exact absurd (by decide) q) (fun _ => ?_)
      refine lv_aload_n hx hb dL_law_1275 rfl (lv_at hl 6 rfl) ?_
      refine lv_iconst (v := nI 0) hx hb dL_law_1276 (by decide) ?_
      refine lw_old hx hb hK hP dL_law_1277 ?_
      refine lv_iload hx hb dL_law_1278 (lv_at hl 0 rfl) ?_
      refine lv_i2l hx hb dL_law_1280 rfl ?_
      refine lw_lcmpeq (tgt := 1287) hx hb (ho.trans (congrArg Int32.toInt64 (hr.trans gr.symm))) dL_law_1281 dL_law_1282 (by decide) ?_
      refine lv_goto (tgt := 1317) hx hb dL_law_1287 (by decide) ?_
      refine W.widen (k := cells + 2) (n := slots + 28) (by omega) (by omega) ?_
      exact K ad σ er ofd de dl bo ql qs tv am wo 0 ao aD o2 d2 H locs ls ⟨hI2, hof.c rfl rfl, hbo.c rfl (Nat.le_refl _), hDL.c rfl rfl rfl, hQZ⟩ hP hD hS (lv_sub hl [2, 3, 4, 5, 6, 7] rfl)
    · skip
      first | exact absurd h1 g1 | exact absurd g1 h1 | exact absurd h2 g2 | exact absurd g2 h2 | exact absurd h3 g3 | exact absurd g3 h3 | exact absurd h4 g4 | exact absurd g4 h4
  · skip
    obtain rfl : u1 = none := ht
    rcases hex with ⟨h1, hE⟩
    · skip
      subst hE
      obtain rfl : r1 = nI 1 := hr6.trans (by decide +kernel)
      rcases hr2 with ⟨g1, gu, gr⟩ | ⟨g1, gu⟩
      · skip
        first | exact absurd h1 g1 | exact absurd g1 h1 | exact absurd h2 g2 | exact absurd g2 h2 | exact absurd h3 g3 | exact absurd g3 h3 | exact absurd h4 g4 | exact absurd g4 h4
      · skip
        obtain rfl : th2 = 1 := gu
        have hP : va_P D vwCl (LWd cy ad σ er ofd de bo ql qs tv ao aD o2 d2 am wo 1) H := hP
        have hD : va_D (fun q => s.heap.size ≤ q) (LWd cy ad σ er ofd de bo ql qs tv ao aD o2 d2 am wo 1) := hD
        refine lv_istore (lv' := [(7, .int rm), (6, .int (nI 1)), (5, .int (nI i)), (0, .ref b), (1, .ref (ad 0 0)), (2, .ref (am 0)), (3, .ref ao), (4, .ref aD)]) hx hb dL_law_1257 hl (by decide) rfl (fun ls hl => ?_)
        refine lv_aload_n hx hb dL_law_1259 rfl (lv_at hl 5 rfl) ?_
        refine ro_calli (va_runV (As := []) (rest := []) ⟨hx, hb, hml, hown, hts⟩ (c_X6_thrown l D cy am σ er wo 1 H (hP.mem (fun _ hq => List.mem_append_right _ hq))) (cwV 0 hts gL_law_X6_thrown rfl rfl rfl hdX6_thrown ⟨Nat.le_of_ble_eq_true rfl, Nat.le_of_ble_eq_true rfl⟩) (ro_preV hK (va_recv hK.1 (hP.mem (fun _ hq => List.mem_append_right _ hq)) (ci := 6) (q0 := 0) rfl rfl)) rfl rfl hl.1 rfl (lv_room (Nat.le_of_ble_eq_true rfl)) dL_law_1260 ⟨by omega, by omega⟩) (fun r9 h9 => ?_)
        obtain rfl : r9 = nI 1 := h9
        refine lv_iload hx hb dL_law_1263 (lv_at hl 1 rfl) ?_
        refine lv_icmp_eq (tgt := 1270) hx hb dL_law_1265 (by decide) (fun _ => ?_) (fun q => absurd rfl q)
        refine lv_iload hx hb dL_law_1270 (lv_at hl 1 rfl) ?_
        refine lv_if_ne (tgt := 1287) hx hb dL_law_1272 (by decide) (fun _ => ?_) (fun q => by first | exact absurd q (by decide) | exact absurd (by decide) q)
        refine lv_goto (tgt := 1317) hx hb dL_law_1287 (by decide) ?_
        refine W.widen (k := cells + 2) (n := slots + 28) (by omega) (by omega) ?_
        exact K ad σ er ofd de dl bo ql qs tv am wo 1 ao aD o2 d2 H locs ls ⟨hI2, hof, hbo, hDL, hQZ⟩ hP hD hS (lv_sub hl [2, 3, 4, 5, 6, 7] rfl)
set_option maxHeartbeats 4000000 in
set_option maxRecDepth 100000 in
theorem law_protectedSeats {p : Program} {l : Launch} {e : Env} {s : State} {m : MethodId} {below : List Frame} {meth : Method} {c : Code} {D : va_G} {cy : Nat → ClassId} {b L : Nat} {xs : Nat → Int32} {Q : State → Prop} (C : LX p l D cy s m c b L xs) {i n cells slots : Nat} (hi : i + 5 ≤ L) (hL : L ≤ 2560) (hn : n < 512) (hc : cells + 2 ≤ room_1.cells) (hs9 : slots + 28 ≤ room_1.slots) (K : LK p l e s m below meth c D cy b Q i (n + 1) 1317 (cells + 2) (slots + 28)) : LK p l e s m below meth c D cy b Q i n 814 cells slots := by
  obtain ⟨hx, hb, hml, hown, hts, hK, hXW, hXZ, hX, hbl, hfl⟩ := C
  intro ad σ er ofd de dl bo ql qs tv am wo th ao aD o d H locs ls hI hP hD hS hl
  obtain ⟨hIv, hof, hbo, hDL, hQZ⟩ := hI
  have hA : ∀ q, s.heap.size ≤ q → (fun q => s.heap.size ≤ q) q := fun q h => h
  have hbA : ¬ (fun q => s.heap.size ≤ q) b := Nat.not_le.mpr hbl
  have hI2 := hIv.more hn
  refine lv_aload_n hx hb dL_law_814 rfl (lv_at hl 2 rfl) ?_
  refine lv_aload_n hx hb dL_law_815 rfl (lv_at hl 1 rfl) ?_
  refine lv_iload hx hb dL_law_816 (lv_at hl 0 rfl) ?_
  refine lv_iconst (v := nI 1) hx hb dL_law_818 (by decide) ?_
  refine ln_iadd hx hb dL_law_819 (fun z hz => ?_)
  subst hz
  refine lw_sld hx hb hX hbl hbA hS (by omega) (by omega) dL_law_820 ?_
  refine lv_aload_n hx hb dL_law_821 rfl (lv_at hl 1 rfl) ?_
  refine lv_iload hx hb dL_law_822 (lv_at hl 0 rfl) ?_
  refine lv_iconst (v := nI 2) hx hb dL_law_824 (by decide) ?_
  refine ln_iadd hx hb dL_law_825 (fun z hz => ?_)
  subst hz
  refine lw_sld hx hb hX hbl hbA hS (by omega) (by omega) dL_law_826 ?_
  refine lv_aload_n hx hb dL_law_827 rfl (lv_at hl 4 rfl) ?_
  refine al_calli (vx_runSW (As := [.ref (ad 0 0), .int (xs (i + 1)), .int (xs (i + 2)), .ref ao]) (rest := []) ⟨hx, hb, hml, hown, hts⟩ (c_L_protectedSeats l hfl D cy ad σ er ofd de bo ql qs tv hof hIv ((xs (i + 1))) ((xs (i + 2))) ao aD o d H.size) (vx_cwSW 4 hts gL_law_L_protectedSeats rfl rfl rfl hdL_protectedSeats.2 ⟨Nat.le_of_ble_eq_true rfl, Nat.le_of_ble_eq_true rfl⟩) (xo_preS hK rfl (hP.mem (fun _ hq => List.mem_append_left _ hq)) (hD.subl (List.sublist_append_left _ _)) hXW (hXZ.at hS hD hA (fun _ hq => List.mem_append_left _ hq))) rfl rfl hl.1 rfl (lv_room (Nat.le_of_ble_eq_true rfl)) dL_law_828 ⟨by omega, by omega⟩) hS hP hD hA (fun r1 u1 H locs hr1 hP hD hS => ?_)
  refine lv_istore (lv' := [(6, .int r1), (5, .int (nI i)), (0, .ref b), (1, .ref (ad 0 0)), (2, .ref (am 0)), (3, .ref ao), (4, .ref aD)]) hx hb dL_law_831 hl (by decide) rfl (fun ls hl => ?_)
  refine lv_aload_n hx hb dL_law_833 rfl (lv_at hl 4 rfl) ?_
  refine lv_aload_n hx hb dL_law_834 rfl (lv_at hl 2 rfl) ?_
  refine lv_iload hx hb dL_law_835 (lv_at hl 1 rfl) ?_
  refine lv_iconst (v := nI 1) hx hb dL_law_837 (by decide) ?_
  refine ln_iadd hx hb dL_law_838 (fun z hz => ?_)
  subst hz
  refine lw_sld hx hb hX hbl hbA hS (by omega) (by omega) dL_law_839 ?_
  refine lv_aload_n hx hb dL_law_840 rfl (lv_at hl 2 rfl) ?_
  refine lv_iload hx hb dL_law_841 (lv_at hl 1 rfl) ?_
  refine lv_iconst (v := nI 2) hx hb dL_law_843 (by decide) ?_
  refine ln_iadd hx hb dL_law_844 (fun z hz => ?_)
  subst hz
  refine lw_sld hx hb hX hbl hbA hS (by omega) (by omega) dL_law_845 ?_
  refine ap_calli (va_runV (As := [.int (xs (i + 1)), .int (xs (i + 2))]) (rest := []) ⟨hx, hb, hml, hown, hts⟩ (c_X6_protectedSeats l D cy am σ er wo th hIv ((xs (i + 1))) ((xs (i + 2))) H.size) (cwV 2 hts gL_law_X6_protectedSeats rfl rfl rfl hdX6_protectedSeats ⟨Nat.le_of_ble_eq_true rfl, Nat.le_of_ble_eq_true rfl⟩) (mo_preV hK rfl (hP.mem (fun _ hq => List.mem_append_right _ hq)) (hD.subl (List.sublist_append_right _ _)) (va_recv hK.1 (hP.mem (fun _ hq => List.mem_append_right _ hq)) (ci := 6) (q0 := 0) rfl rfl)) rfl rfl hl.1 rfl (lv_room (Nat.le_of_ble_eq_true rfl)) dL_law_846 ⟨by omega, by omega⟩) hS hP hD hA (fun rm th2 H locs hr2 hP hD hS => ?_)
  obtain ⟨u1, o2, d2⟩ := u1
  rcases hr1 with ⟨t, ri, ht, hr6, hp, ho⟩ | ⟨E, ht, hex, hr6⟩
  · skip
    obtain rfl : u1 = some t := ht
    obtain rfl : r1 = nI 0 := hr6
    obtain ⟨h1, h2, hr⟩ := hp
    rcases hr2 with ⟨g1, gu⟩ | ⟨g1, g2, gu⟩ | ⟨g1, g2, gu, gr⟩
    · skip
      first | exact absurd h1 g1 | exact absurd g1 h1 | exact absurd h2 g2 | exact absurd g2 h2 | exact absurd h3 g3 | exact absurd g3 h3 | exact absurd h4 g4 | exact absurd g4 h4
    · skip
      first | exact absurd h1 g1 | exact absurd g1 h1 | exact absurd h2 g2 | exact absurd g2 h2 | exact absurd h3 g3 | exact absurd g3 h3 | exact absurd h4 g4 | exact absurd g4 h4
    · skip
      obtain rfl : th2 = 0 := gu
      have hP : va_P D vwCl (LWd cy ad σ er ofd de bo ql qs tv ao aD o2 d2 am wo 0) H := hP
      have hD : va_D (fun q => s.heap.size ≤ q) (LWd cy ad σ er ofd de bo ql qs tv ao aD o2 d2 am wo 0) := hD
      refine lv_istore (lv' := [(7, .int rm), (6, .int (nI 0)), (5, .int (nI i)), (0, .ref b), (1, .ref (ad 0 0)), (2, .ref (am 0)), (3, .ref ao), (4, .ref aD)]) hx hb dL_law_849 hl (by decide) rfl (fun ls hl => ?_)
      refine lv_aload_n hx hb dL_law_851 rfl (lv_at hl 5 rfl) ?_
      refine ro_calli (va_runV (As := []) (rest := []) ⟨hx, hb, hml, hown, hts⟩ (c_X6_thrown l D cy am σ er wo 0 H (hP.mem (fun _ hq => List.mem_append_right _ hq))) (cwV 0 hts gL_law_X6_thrown rfl rfl rfl hdX6_thrown ⟨Nat.le_of_ble_eq_true rfl, Nat.le_of_ble_eq_true rfl⟩) (ro_preV hK (va_recv hK.1 (hP.mem (fun _ hq => List.mem_append_right _ hq)) (ci := 6) (q0 := 0) rfl rfl)) rfl rfl hl.1 rfl (lv_room (Nat.le_of_ble_eq_true rfl)) dL_law_852 ⟨by omega, by omega⟩) (fun r9 h9 => ?_)
      obtain rfl : r9 = nI 0 := h9
      refine lv_iload hx hb dL_law_855 (lv_at hl 1 rfl) ?_
      refine lv_icmp_eq (tgt := 862) hx hb dL_law_857 (by decide) (fun _ => ?_) (fun q => absurd rfl q)
      refine lv_iload hx hb dL_law_862 (lv_at hl 1 rfl) ?_
      refine lv_if_ne (tgt := 879) hx hb dL_law_864 (by decide) (fun q => by first | exact absurd q (by decide) | exact absurd (by decide) q) (fun _ => ?_)
      refine lv_aload_n hx hb dL_law_867 rfl (lv_at hl 6 rfl) ?_
      refine lv_iconst (v := nI 0) hx hb dL_law_868 (by decide) ?_
      refine lw_old hx hb hK hP dL_law_869 ?_
      refine lv_iload hx hb dL_law_870 (lv_at hl 0 rfl) ?_
      refine lv_i2l hx hb dL_law_872 rfl ?_
      refine lw_lcmpeq (tgt := 879) hx hb (ho.trans (congrArg Int32.toInt64 (hr.trans gr.symm))) dL_law_873 dL_law_874 (by decide) ?_
      refine lv_goto (tgt := 1317) hx hb dL_law_879 (by decide) ?_
      refine W.widen (k := cells + 2) (n := slots + 28) (by omega) (by omega) ?_
      exact K ad σ er ofd de dl bo ql qs tv am wo 0 ao aD o2 d2 H locs ls ⟨hI2, hof.c rfl rfl, hbo.c rfl (Nat.le_refl _), hDL.c rfl rfl rfl, hQZ⟩ hP hD hS (lv_sub hl [2, 3, 4, 5, 6, 7] rfl)
  · skip
    obtain rfl : u1 = none := ht
    rcases hex with ⟨h1, hE⟩ | ⟨h1, h2, hE⟩
    · skip
      subst hE
      obtain rfl : r1 = nI 1 := hr6.trans (by decide +kernel)
      rcases hr2 with ⟨g1, gu⟩ | ⟨g1, g2, gu⟩ | ⟨g1, g2, gu, gr⟩
      · skip
        obtain rfl : th2 = 1 := gu
        have hP : va_P D vwCl (LWd cy ad σ er ofd de bo ql qs tv ao aD o2 d2 am wo 1) H := hP
        have hD : va_D (fun q => s.heap.size ≤ q) (LWd cy ad σ er ofd de bo ql qs tv ao aD o2 d2 am wo 1) := hD
        refine lv_istore (lv' := [(7, .int rm), (6, .int (nI 1)), (5, .int (nI i)), (0, .ref b), (1, .ref (ad 0 0)), (2, .ref (am 0)), (3, .ref ao), (4, .ref aD)]) hx hb dL_law_849 hl (by decide) rfl (fun ls hl => ?_)
        refine lv_aload_n hx hb dL_law_851 rfl (lv_at hl 5 rfl) ?_
        refine ro_calli (va_runV (As := []) (rest := []) ⟨hx, hb, hml, hown, hts⟩ (c_X6_thrown l D cy am σ er wo 1 H (hP.mem (fun _ hq => List.mem_append_right _ hq))) (cwV 0 hts gL_law_X6_thrown rfl rfl rfl hdX6_thrown ⟨Nat.le_of_ble_eq_true rfl, Nat.le_of_ble_eq_true rfl⟩) (ro_preV hK (va_recv hK.1 (hP.mem (fun _ hq => List.mem_append_right _ hq)) (ci := 6) (q0 := 0) rfl rfl)) rfl rfl hl.1 rfl (lv_room (Nat.le_of_ble_eq_true rfl)) dL_law_852 ⟨by omega, by omega⟩) (fun r9 h9 => ?_)
        obtain rfl : r9 = nI 1 := h9
        refine lv_iload hx hb dL_law_855 (lv_at hl 1 rfl) ?_
        refine lv_icmp_eq (tgt := 862) hx hb dL_law_857 (by decide) (fun _ => ?_) (fun q => absurd rfl q)
        refine lv_iload hx hb dL_law_862 (lv_at hl 1 rfl) ?_
        refine lv_if_ne (tgt := 879) hx hb dL_law_864 (by decide) (fun _ => ?_) (fun q => by first | exact absurd q (by decide) | exact absurd (by decide) q)
        refine lv_goto (tgt := 1317) hx hb dL_law_879 (by decide) ?_
        refine W.widen (k := cells + 2) (n := slots + 28) (by omega) (by omega) ?_
        exact K ad σ er ofd de dl bo ql qs tv am wo 1 ao aD o2 d2 H locs ls ⟨hI2, hof, hbo, hDL, hQZ⟩ hP hD hS (lv_sub hl [2, 3, 4, 5, 6, 7] rfl)
      · skip
        first | exact absurd h1 g1 | exact absurd g1 h1 | exact absurd h2 g2 | exact absurd g2 h2 | exact absurd h3 g3 | exact absurd g3 h3 | exact absurd h4 g4 | exact absurd g4 h4
      · skip
        first | exact absurd h1 g1 | exact absurd g1 h1 | exact absurd h2 g2 | exact absurd g2 h2 | exact absurd h3 g3 | exact absurd g3 h3 | exact absurd h4 g4 | exact absurd g4 h4
    · skip
      subst hE
      obtain rfl : r1 = nI 2 := hr6.trans (by decide +kernel)
      rcases hr2 with ⟨g1, gu⟩ | ⟨g1, g2, gu⟩ | ⟨g1, g2, gu, gr⟩
      · skip
        first | exact absurd h1 g1 | exact absurd g1 h1 | exact absurd h2 g2 | exact absurd g2 h2 | exact absurd h3 g3 | exact absurd g3 h3 | exact absurd h4 g4 | exact absurd g4 h4
      · skip
        obtain rfl : th2 = 2 := gu
        have hP : va_P D vwCl (LWd cy ad σ er ofd de bo ql qs tv ao aD o2 d2 am wo 2) H := hP
        have hD : va_D (fun q => s.heap.size ≤ q) (LWd cy ad σ er ofd de bo ql qs tv ao aD o2 d2 am wo 2) := hD
        refine lv_istore (lv' := [(7, .int rm), (6, .int (nI 2)), (5, .int (nI i)), (0, .ref b), (1, .ref (ad 0 0)), (2, .ref (am 0)), (3, .ref ao), (4, .ref aD)]) hx hb dL_law_849 hl (by decide) rfl (fun ls hl => ?_)
        refine lv_aload_n hx hb dL_law_851 rfl (lv_at hl 5 rfl) ?_
        refine ro_calli (va_runV (As := []) (rest := []) ⟨hx, hb, hml, hown, hts⟩ (c_X6_thrown l D cy am σ er wo 2 H (hP.mem (fun _ hq => List.mem_append_right _ hq))) (cwV 0 hts gL_law_X6_thrown rfl rfl rfl hdX6_thrown ⟨Nat.le_of_ble_eq_true rfl, Nat.le_of_ble_eq_true rfl⟩) (ro_preV hK (va_recv hK.1 (hP.mem (fun _ hq => List.mem_append_right _ hq)) (ci := 6) (q0 := 0) rfl rfl)) rfl rfl hl.1 rfl (lv_room (Nat.le_of_ble_eq_true rfl)) dL_law_852 ⟨by omega, by omega⟩) (fun r9 h9 => ?_)
        obtain rfl : r9 = nI 2 := h9
        refine lv_iload hx hb dL_law_855 (lv_at hl 1 rfl) ?_
        refine lv_icmp_eq (tgt := 862) hx hb dL_law_857 (by decide) (fun _ => ?_) (fun q => absurd rfl q)
        refine lv_iload hx hb dL_law_862 (lv_at hl 1 rfl) ?_
        refine lv_if_ne (tgt := 879) hx hb dL_law_864 (by decide) (fun _ => ?_) (fun q => by first | exact absurd q (by decide) | exact absurd (by decide) q)
        refine lv_goto (tgt := 1317) hx hb dL_law_879 (by decide) ?_
        refine W.widen (k := cells + 2) (n := slots + 28) (by omega) (by omega) ?_
        exact K ad σ er ofd de dl bo ql qs tv am wo 2 ao aD o2 d2 H locs ls ⟨hI2, hof, hbo, hDL, hQZ⟩ hP hD hS (lv_sub hl [2, 3, 4, 5, 6, 7] rfl)
      · skip
        first | exact absurd h1 g1 | exact absurd g1 h1 | exact absurd h2 g2 | exact absurd g2 h2 | exact absurd h3 g3 | exact absurd g3 h3 | exact absurd h4 g4 | exact absurd g4 h4
set_option maxHeartbeats 4000000 in
set_option maxRecDepth 100000 in
theorem law_bid {p : Program} {l : Launch} {e : Env} {s : State} {m : MethodId} {below : List Frame} {meth : Method} {c : Code} {D : va_G} {cy : Nat → ClassId} {b L : Nat} {xs : Nat → Int32} {Q : State → Prop} (C : LX p l D cy s m c b L xs) {i n cells slots : Nat} (hi : i + 5 ≤ L) (hL : L ≤ 2560) (hn : n < 512) (hc : cells + 2 ≤ room_1.cells) (hs9 : slots + 28 ≤ room_1.slots) (K : LK p l e s m below meth c D cy b Q i (n + 1) 1317 (cells + 2) (slots + 28)) : LK p l e s m below meth c D cy b Q i n 908 cells slots := by
  obtain ⟨hx, hb, hml, hown, hts, hK, hXW, hXZ, hX, hbl, hfl⟩ := C
  intro ad σ er ofd de dl bo ql qs tv am wo th ao aD o d H locs ls hI hP hD hS hl
  obtain ⟨hIv, hof, hbo, hDL, hQZ⟩ := hI
  have hA : ∀ q, s.heap.size ≤ q → (fun q => s.heap.size ≤ q) q := fun q h => h
  have hbA : ¬ (fun q => s.heap.size ≤ q) b := Nat.not_le.mpr hbl
  have hI2 := hIv.more hn
  refine lv_aload_n hx hb dL_law_908 rfl (lv_at hl 2 rfl) ?_
  refine lv_aload_n hx hb dL_law_909 rfl (lv_at hl 1 rfl) ?_
  refine lv_iload hx hb dL_law_910 (lv_at hl 0 rfl) ?_
  refine lv_iconst (v := nI 1) hx hb dL_law_912 (by decide) ?_
  refine ln_iadd hx hb dL_law_913 (fun z hz => ?_)
  subst hz
  refine lw_sld hx hb hX hbl hbA hS (by omega) (by omega) dL_law_914 ?_
  refine lv_aload_n hx hb dL_law_915 rfl (lv_at hl 4 rfl) ?_
  refine al_calli (vx_runSW (As := [.ref (ad 0 0), .int (xs (i + 1)), .ref ao]) (rest := []) ⟨hx, hb, hml, hown, hts⟩ (c_L_bid l hfl D cy ad σ er ofd de bo ql qs tv hbo hIv hDL hQZ ((xs (i + 1))) ao aD o d H.size) (vx_cwSW 3 hts gL_law_L_bid rfl rfl rfl hdL_bid.2 ⟨Nat.le_of_ble_eq_true rfl, Nat.le_of_ble_eq_true rfl⟩) (xo_preS hK rfl (hP.mem (fun _ hq => List.mem_append_left _ hq)) (hD.subl (List.sublist_append_left _ _)) hXW (hXZ.at hS hD hA (fun _ hq => List.mem_append_left _ hq))) rfl rfl hl.1 rfl (lv_room (Nat.le_of_ble_eq_true rfl)) dL_law_916 ⟨by omega, by omega⟩) hS hP hD hA (fun r1 u1 H locs hr1 hP hD hS => ?_)
  refine lv_istore (lv' := [(6, .int r1), (5, .int (nI i)), (0, .ref b), (1, .ref (ad 0 0)), (2, .ref (am 0)), (3, .ref ao), (4, .ref aD)]) hx hb dL_law_919 hl (by decide) rfl (fun ls hl => ?_)
  refine lv_aload_n hx hb dL_law_921 rfl (lv_at hl 4 rfl) ?_
  refine lv_aload_n hx hb dL_law_922 rfl (lv_at hl 2 rfl) ?_
  refine lv_iload hx hb dL_law_923 (lv_at hl 1 rfl) ?_
  refine lv_iconst (v := nI 1) hx hb dL_law_925 (by decide) ?_
  refine ln_iadd hx hb dL_law_926 (fun z hz => ?_)
  subst hz
  refine lw_sld hx hb hX hbl hbA hS (by omega) (by omega) dL_law_927 ?_
  refine ap_calli (va_runV (As := [.int (xs (i + 1))]) (rest := []) ⟨hx, hb, hml, hown, hts⟩ (c_X6_bid l D cy am σ er wo th hIv ((xs (i + 1))) H.size) (cwV 1 hts gL_law_X6_bid rfl rfl rfl hdX6_bid ⟨Nat.le_of_ble_eq_true rfl, Nat.le_of_ble_eq_true rfl⟩) (mo_preV hK rfl (hP.mem (fun _ hq => List.mem_append_right _ hq)) (hD.subl (List.sublist_append_right _ _)) (va_recv hK.1 (hP.mem (fun _ hq => List.mem_append_right _ hq)) (ci := 6) (q0 := 0) rfl rfl)) rfl rfl hl.1 rfl (lv_room (Nat.le_of_ble_eq_true rfl)) dL_law_928 ⟨by omega, by omega⟩) hS hP hD hA (fun rm u2 H locs hr2 hP hD hS => ?_)
  obtain ⟨u1, o2, d2⟩ := u1
  obtain ⟨wo2, th2⟩ := u2
  rcases hr1 with ⟨t, ri, ht, hr6, hp, ho⟩ | ⟨E, ht, hex, hr6⟩
  · skip
    obtain rfl : u1 = some t := ht
    obtain rfl : r1 = nI 0 := hr6
    obtain ⟨ql2, qs2⟩ := t
    obtain ⟨h1, hr, hq⟩ := hp
    rcases hr2 with ⟨g1, gu, gr⟩ | ⟨g1, gu⟩
    · skip
      obtain rfl : th2 = 0 := gu
      have hP : va_P D vwCl (LWd cy ad σ er ofd de bo ql2 qs2 tv ao aD o2 d2 am wo2 0) H := hP
      have hD : va_D (fun q => s.heap.size ≤ q) (LWd cy ad σ er ofd de bo ql2 qs2 tv ao aD o2 d2 am wo2 0) := hD
      refine lv_istore (lv' := [(7, .int rm), (6, .int (nI 0)), (5, .int (nI i)), (0, .ref b), (1, .ref (ad 0 0)), (2, .ref (am 0)), (3, .ref ao), (4, .ref aD)]) hx hb dL_law_931 hl (by decide) rfl (fun ls hl => ?_)
      refine lv_aload_n hx hb dL_law_933 rfl (lv_at hl 5 rfl) ?_
      refine ro_calli (va_runV (As := []) (rest := []) ⟨hx, hb, hml, hown, hts⟩ (c_X6_thrown l D cy am σ er wo2 0 H (hP.mem (fun _ hq => List.mem_append_right _ hq))) (cwV 0 hts gL_law_X6_thrown rfl rfl rfl hdX6_thrown ⟨Nat.le_of_ble_eq_true rfl, Nat.le_of_ble_eq_true rfl⟩) (ro_preV hK (va_recv hK.1 (hP.mem (fun _ hq => List.mem_append_right _ hq)) (ci := 6) (q0 := 0) rfl rfl)) rfl rfl hl.1 rfl (lv_room (Nat.le_of_ble_eq_true rfl)) dL_law_934 ⟨by omega, by omega⟩) (fun r9 h9 => ?_)
      obtain rfl : r9 = nI 0 := h9
      refine lv_iload hx hb dL_law_937 (lv_at hl 1 rfl) ?_
      refine lv_icmp_eq (tgt := 944) hx hb dL_law_939 (by decide) (fun _ => ?_) (fun q => absurd rfl q)
      refine lv_iload hx hb dL_law_944 (lv_at hl 1 rfl) ?_
      refine lv_if_ne (tgt := 961) hx hb dL_law_946 (by decide) (fun q => by first | exact absurd q (by decide) | exact absurd (by decide) q) (fun _ => ?_)
      refine lv_aload_n hx hb dL_law_949 rfl (lv_at hl 6 rfl) ?_
      refine lv_iconst (v := nI 0) hx hb dL_law_950 (by decide) ?_
      refine lw_old hx hb hK hP dL_law_951 ?_
      refine lv_iload hx hb dL_law_952 (lv_at hl 0 rfl) ?_
      refine lv_i2l hx hb dL_law_954 rfl ?_
      refine lw_lcmpeq (tgt := 961) hx hb (ho.trans (congrArg Int32.toInt64 (hr.trans gr.symm))) dL_law_955 dL_law_956 (by decide) ?_
      refine lv_goto (tgt := 1317) hx hb dL_law_961 (by decide) ?_
      refine W.widen (k := cells + 2) (n := slots + 28) (by omega) (by omega) ?_
      exact K ad σ er ofd de dl bo ql2 qs2 tv am wo2 0 ao aD o2 d2 H locs ls ⟨hI2, hof.c rfl rfl, hbo.c rfl (Nat.le_refl _), hDL.c rfl rfl rfl, hq⟩ hP hD hS (lv_sub hl [2, 3, 4, 5, 6, 7] rfl)
    · skip
      first | exact absurd h1 g1 | exact absurd g1 h1 | exact absurd h2 g2 | exact absurd g2 h2 | exact absurd h3 g3 | exact absurd g3 h3 | exact absurd h4 g4 | exact absurd g4 h4
  · skip
    obtain rfl : u1 = none := ht
    rcases hex with ⟨h1, hE⟩
    · skip
      subst hE
      obtain rfl : r1 = nI 1 := hr6.trans (by decide +kernel)
      rcases hr2 with ⟨g1, gu, gr⟩ | ⟨g1, gu⟩
      · skip
        first | exact absurd h1 g1 | exact absurd g1 h1 | exact absurd h2 g2 | exact absurd g2 h2 | exact absurd h3 g3 | exact absurd g3 h3 | exact absurd h4 g4 | exact absurd g4 h4
      · skip
        obtain rfl : th2 = 1 := gu
        have hP : va_P D vwCl (LWd cy ad σ er ofd de bo ql qs tv ao aD o2 d2 am wo2 1) H := hP
        have hD : va_D (fun q => s.heap.size ≤ q) (LWd cy ad σ er ofd de bo ql qs tv ao aD o2 d2 am wo2 1) := hD
        refine lv_istore (lv' := [(7, .int rm), (6, .int (nI 1)), (5, .int (nI i)), (0, .ref b), (1, .ref (ad 0 0)), (2, .ref (am 0)), (3, .ref ao), (4, .ref aD)]) hx hb dL_law_931 hl (by decide) rfl (fun ls hl => ?_)
        refine lv_aload_n hx hb dL_law_933 rfl (lv_at hl 5 rfl) ?_
        refine ro_calli (va_runV (As := []) (rest := []) ⟨hx, hb, hml, hown, hts⟩ (c_X6_thrown l D cy am σ er wo2 1 H (hP.mem (fun _ hq => List.mem_append_right _ hq))) (cwV 0 hts gL_law_X6_thrown rfl rfl rfl hdX6_thrown ⟨Nat.le_of_ble_eq_true rfl, Nat.le_of_ble_eq_true rfl⟩) (ro_preV hK (va_recv hK.1 (hP.mem (fun _ hq => List.mem_append_right _ hq)) (ci := 6) (q0 := 0) rfl rfl)) rfl rfl hl.1 rfl (lv_room (Nat.le_of_ble_eq_true rfl)) dL_law_934 ⟨by omega, by omega⟩) (fun r9 h9 => ?_)
        obtain rfl : r9 = nI 1 := h9
        refine lv_iload hx hb dL_law_937 (lv_at hl 1 rfl) ?_
        refine lv_icmp_eq (tgt := 944) hx hb dL_law_939 (by decide) (fun _ => ?_) (fun q => absurd rfl q)
        refine lv_iload hx hb dL_law_944 (lv_at hl 1 rfl) ?_
        refine lv_if_ne (tgt := 961) hx hb dL_law_946 (by decide) (fun _ => ?_) (fun q => by first | exact absurd q (by decide) | exact absurd (by decide) q)
        refine lv_goto (tgt := 1317) hx hb dL_law_961 (by decide) ?_
        refine W.widen (k := cells + 2) (n := slots + 28) (by omega) (by omega) ?_
        exact K ad σ er ofd de dl bo ql qs tv am wo2 1 ao aD o2 d2 H locs ls ⟨hI2, hof, hbo, hDL, hQZ⟩ hP hD hS (lv_sub hl [2, 3, 4, 5, 6, 7] rfl)
set_option maxHeartbeats 4000000 in
set_option maxRecDepth 100000 in
theorem law_displaced {p : Program} {l : Launch} {e : Env} {s : State} {m : MethodId} {below : List Frame} {meth : Method} {c : Code} {D : va_G} {cy : Nat → ClassId} {b L : Nat} {xs : Nat → Int32} {Q : State → Prop} (C : LX p l D cy s m c b L xs) {i n cells slots : Nat} (hi : i + 5 ≤ L) (hL : L ≤ 2560) (hn : n < 512) (hc : cells + 2 ≤ room_1.cells) (hs9 : slots + 28 ≤ room_1.slots) (K : LK p l e s m below meth c D cy b Q i (n + 1) 1317 (cells + 2) (slots + 28)) : LK p l e s m below meth c D cy b Q i n 964 cells slots := by
  obtain ⟨hx, hb, hml, hown, hts, hK, hXW, hXZ, hX, hbl, hfl⟩ := C
  intro ad σ er ofd de dl bo ql qs tv am wo th ao aD o d H locs ls hI hP hD hS hl
  obtain ⟨hIv, hof, hbo, hDL, hQZ⟩ := hI
  have hA : ∀ q, s.heap.size ≤ q → (fun q => s.heap.size ≤ q) q := fun q h => h
  have hbA : ¬ (fun q => s.heap.size ≤ q) b := Nat.not_le.mpr hbl
  have hI2 := hIv.more hn
  refine lv_aload_n hx hb dL_law_964 rfl (lv_at hl 2 rfl) ?_
  refine lv_aload_n hx hb dL_law_965 rfl (lv_at hl 1 rfl) ?_
  refine lv_iload hx hb dL_law_966 (lv_at hl 0 rfl) ?_
  refine lv_iconst (v := nI 1) hx hb dL_law_968 (by decide) ?_
  refine ln_iadd hx hb dL_law_969 (fun z hz => ?_)
  subst hz
  refine lw_sld hx hb hX hbl hbA hS (by omega) (by omega) dL_law_970 ?_
  refine lv_aload_n hx hb dL_law_971 rfl (lv_at hl 1 rfl) ?_
  refine lv_iload hx hb dL_law_972 (lv_at hl 0 rfl) ?_
  refine lv_iconst (v := nI 2) hx hb dL_law_974 (by decide) ?_
  refine ln_iadd hx hb dL_law_975 (fun z hz => ?_)
  subst hz
  refine lw_sld hx hb hX hbl hbA hS (by omega) (by omega) dL_law_976 ?_
  refine lv_aload_n hx hb dL_law_977 rfl (lv_at hl 1 rfl) ?_
  refine lv_iload hx hb dL_law_978 (lv_at hl 0 rfl) ?_
  refine lv_iconst (v := nI 3) hx hb dL_law_980 (by decide) ?_
  refine ln_iadd hx hb dL_law_981 (fun z hz => ?_)
  subst hz
  refine lw_sld hx hb hX hbl hbA hS (by omega) (by omega) dL_law_982 ?_
  refine lv_aload_n hx hb dL_law_983 rfl (lv_at hl 4 rfl) ?_
  refine al_calli (vx_runSW (As := [.ref (ad 0 0), .int (xs (i + 1)), .int (xs (i + 2)), .int (xs (i + 3)), .ref ao]) (rest := []) ⟨hx, hb, hml, hown, hts⟩ (c_L_displaced l hfl D cy ad σ er ofd de bo ql qs tv hbo hIv hDL hQZ ((xs (i + 1))) ((xs (i + 2))) ((xs (i + 3))) ao aD o d H.size) (vx_cwSW 5 hts gL_law_L_displaced rfl rfl rfl hdL_displaced.2 ⟨Nat.le_of_ble_eq_true rfl, Nat.le_of_ble_eq_true rfl⟩) (xo_preS hK rfl (hP.mem (fun _ hq => List.mem_append_left _ hq)) (hD.subl (List.sublist_append_left _ _)) hXW (hXZ.at hS hD hA (fun _ hq => List.mem_append_left _ hq))) rfl rfl hl.1 rfl (lv_room (Nat.le_of_ble_eq_true rfl)) dL_law_984 ⟨by omega, by omega⟩) hS hP hD hA (fun r1 u1 H locs hr1 hP hD hS => ?_)
  refine lv_istore (lv' := [(6, .int r1), (5, .int (nI i)), (0, .ref b), (1, .ref (ad 0 0)), (2, .ref (am 0)), (3, .ref ao), (4, .ref aD)]) hx hb dL_law_987 hl (by decide) rfl (fun ls hl => ?_)
  refine lv_aload_n hx hb dL_law_989 rfl (lv_at hl 4 rfl) ?_
  refine lv_aload_n hx hb dL_law_990 rfl (lv_at hl 2 rfl) ?_
  refine lv_iload hx hb dL_law_991 (lv_at hl 1 rfl) ?_
  refine lv_iconst (v := nI 1) hx hb dL_law_993 (by decide) ?_
  refine ln_iadd hx hb dL_law_994 (fun z hz => ?_)
  subst hz
  refine lw_sld hx hb hX hbl hbA hS (by omega) (by omega) dL_law_995 ?_
  refine lv_aload_n hx hb dL_law_996 rfl (lv_at hl 2 rfl) ?_
  refine lv_iload hx hb dL_law_997 (lv_at hl 1 rfl) ?_
  refine lv_iconst (v := nI 2) hx hb dL_law_999 (by decide) ?_
  refine ln_iadd hx hb dL_law_1000 (fun z hz => ?_)
  subst hz
  refine lw_sld hx hb hX hbl hbA hS (by omega) (by omega) dL_law_1001 ?_
  refine lv_aload_n hx hb dL_law_1002 rfl (lv_at hl 2 rfl) ?_
  refine lv_iload hx hb dL_law_1003 (lv_at hl 1 rfl) ?_
  refine lv_iconst (v := nI 3) hx hb dL_law_1005 (by decide) ?_
  refine ln_iadd hx hb dL_law_1006 (fun z hz => ?_)
  subst hz
  refine lw_sld hx hb hX hbl hbA hS (by omega) (by omega) dL_law_1007 ?_
  refine ap_calli (va_runV (As := [.int (xs (i + 1)), .int (xs (i + 2)), .int (xs (i + 3))]) (rest := []) ⟨hx, hb, hml, hown, hts⟩ (c_X6_displaced l D cy am σ er wo th hIv ((xs (i + 1))) ((xs (i + 2))) ((xs (i + 3))) H.size) (cwV 3 hts gL_law_X6_displaced rfl rfl rfl hdX6_displaced ⟨Nat.le_of_ble_eq_true rfl, Nat.le_of_ble_eq_true rfl⟩) (mo_preV hK rfl (hP.mem (fun _ hq => List.mem_append_right _ hq)) (hD.subl (List.sublist_append_right _ _)) (va_recv hK.1 (hP.mem (fun _ hq => List.mem_append_right _ hq)) (ci := 6) (q0 := 0) rfl rfl)) rfl rfl hl.1 rfl (lv_room (Nat.le_of_ble_eq_true rfl)) dL_law_1008 ⟨by omega, by omega⟩) hS hP hD hA (fun rm u2 H locs hr2 hP hD hS => ?_)
  obtain ⟨u1, o2, d2⟩ := u1
  obtain ⟨wo2, th2⟩ := u2
  rcases hr1 with ⟨t, ri, ht, hr6, hp, ho⟩ | ⟨E, ht, hex, hr6⟩
  · skip
    obtain rfl : u1 = some t := ht
    obtain rfl : r1 = nI 0 := hr6
    obtain ⟨ql2, qs2⟩ := t
    obtain ⟨h1, h2, hr, hq⟩ := hp
    rcases hr2 with ⟨g1, gu⟩ | ⟨g1, g2, gu⟩ | ⟨g1, g2, gu, gr⟩
    · skip
      first | exact absurd h1 g1 | exact absurd g1 h1 | exact absurd h2 g2 | exact absurd g2 h2 | exact absurd h3 g3 | exact absurd g3 h3 | exact absurd h4 g4 | exact absurd g4 h4
    · skip
      first | exact absurd h1 g1 | exact absurd g1 h1 | exact absurd h2 g2 | exact absurd g2 h2 | exact absurd h3 g3 | exact absurd g3 h3 | exact absurd h4 g4 | exact absurd g4 h4
    · skip
      obtain rfl : th2 = 0 := gu
      have hP : va_P D vwCl (LWd cy ad σ er ofd de bo ql2 qs2 tv ao aD o2 d2 am wo2 0) H := hP
      have hD : va_D (fun q => s.heap.size ≤ q) (LWd cy ad σ er ofd de bo ql2 qs2 tv ao aD o2 d2 am wo2 0) := hD
      refine lv_istore (lv' := [(7, .int rm), (6, .int (nI 0)), (5, .int (nI i)), (0, .ref b), (1, .ref (ad 0 0)), (2, .ref (am 0)), (3, .ref ao), (4, .ref aD)]) hx hb dL_law_1011 hl (by decide) rfl (fun ls hl => ?_)
      refine lv_aload_n hx hb dL_law_1013 rfl (lv_at hl 5 rfl) ?_
      refine ro_calli (va_runV (As := []) (rest := []) ⟨hx, hb, hml, hown, hts⟩ (c_X6_thrown l D cy am σ er wo2 0 H (hP.mem (fun _ hq => List.mem_append_right _ hq))) (cwV 0 hts gL_law_X6_thrown rfl rfl rfl hdX6_thrown ⟨Nat.le_of_ble_eq_true rfl, Nat.le_of_ble_eq_true rfl⟩) (ro_preV hK (va_recv hK.1 (hP.mem (fun _ hq => List.mem_append_right _ hq)) (ci := 6) (q0 := 0) rfl rfl)) rfl rfl hl.1 rfl (lv_room (Nat.le_of_ble_eq_true rfl)) dL_law_1014 ⟨by omega, by omega⟩) (fun r9 h9 => ?_)
      obtain rfl : r9 = nI 0 := h9
      refine lv_iload hx hb dL_law_1017 (lv_at hl 1 rfl) ?_
      refine lv_icmp_eq (tgt := 1024) hx hb dL_law_1019 (by decide) (fun _ => ?_) (fun q => absurd rfl q)
      refine lv_iload hx hb dL_law_1024 (lv_at hl 1 rfl) ?_
      refine lv_if_ne (tgt := 1041) hx hb dL_law_1026 (by decide) (fun q => by first | exact absurd q (by decide) | exact absurd (by decide) q) (fun _ => ?_)
      refine lv_aload_n hx hb dL_law_1029 rfl (lv_at hl 6 rfl) ?_
      refine lv_iconst (v := nI 0) hx hb dL_law_1030 (by decide) ?_
      refine lw_old hx hb hK hP dL_law_1031 ?_
      refine lv_iload hx hb dL_law_1032 (lv_at hl 0 rfl) ?_
      refine lv_i2l hx hb dL_law_1034 rfl ?_
      refine lw_lcmpeq (tgt := 1041) hx hb (ho.trans (congrArg Int32.toInt64 (two_fun hr gr))) dL_law_1035 dL_law_1036 (by decide) ?_
      refine lv_goto (tgt := 1317) hx hb dL_law_1041 (by decide) ?_
      refine W.widen (k := cells + 2) (n := slots + 28) (by omega) (by omega) ?_
      exact K ad σ er ofd de dl bo ql2 qs2 tv am wo2 0 ao aD o2 d2 H locs ls ⟨hI2, hof.c rfl rfl, hbo.c rfl (Nat.le_refl _), hDL.c rfl rfl rfl, hq⟩ hP hD hS (lv_sub hl [2, 3, 4, 5, 6, 7] rfl)
  · skip
    obtain rfl : u1 = none := ht
    rcases hex with ⟨h1, hE⟩ | ⟨h1, h2, hE⟩
    · skip
      subst hE
      obtain rfl : r1 = nI 1 := hr6.trans (by decide +kernel)
      rcases hr2 with ⟨g1, gu⟩ | ⟨g1, g2, gu⟩ | ⟨g1, g2, gu, gr⟩
      · skip
        obtain rfl : th2 = 1 := gu
        have hP : va_P D vwCl (LWd cy ad σ er ofd de bo ql qs tv ao aD o2 d2 am wo2 1) H := hP
        have hD : va_D (fun q => s.heap.size ≤ q) (LWd cy ad σ er ofd de bo ql qs tv ao aD o2 d2 am wo2 1) := hD
        refine lv_istore (lv' := [(7, .int rm), (6, .int (nI 1)), (5, .int (nI i)), (0, .ref b), (1, .ref (ad 0 0)), (2, .ref (am 0)), (3, .ref ao), (4, .ref aD)]) hx hb dL_law_1011 hl (by decide) rfl (fun ls hl => ?_)
        refine lv_aload_n hx hb dL_law_1013 rfl (lv_at hl 5 rfl) ?_
        refine ro_calli (va_runV (As := []) (rest := []) ⟨hx, hb, hml, hown, hts⟩ (c_X6_thrown l D cy am σ er wo2 1 H (hP.mem (fun _ hq => List.mem_append_right _ hq))) (cwV 0 hts gL_law_X6_thrown rfl rfl rfl hdX6_thrown ⟨Nat.le_of_ble_eq_true rfl, Nat.le_of_ble_eq_true rfl⟩) (ro_preV hK (va_recv hK.1 (hP.mem (fun _ hq => List.mem_append_right _ hq)) (ci := 6) (q0 := 0) rfl rfl)) rfl rfl hl.1 rfl (lv_room (Nat.le_of_ble_eq_true rfl)) dL_law_1014 ⟨by omega, by omega⟩) (fun r9 h9 => ?_)
        obtain rfl : r9 = nI 1 := h9
        refine lv_iload hx hb dL_law_1017 (lv_at hl 1 rfl) ?_
        refine lv_icmp_eq (tgt := 1024) hx hb dL_law_1019 (by decide) (fun _ => ?_) (fun q => absurd rfl q)
        refine lv_iload hx hb dL_law_1024 (lv_at hl 1 rfl) ?_
        refine lv_if_ne (tgt := 1041) hx hb dL_law_1026 (by decide) (fun _ => ?_) (fun q => by first | exact absurd q (by decide) | exact absurd (by decide) q)
        refine lv_goto (tgt := 1317) hx hb dL_law_1041 (by decide) ?_
        refine W.widen (k := cells + 2) (n := slots + 28) (by omega) (by omega) ?_
        exact K ad σ er ofd de dl bo ql qs tv am wo2 1 ao aD o2 d2 H locs ls ⟨hI2, hof, hbo, hDL, hQZ⟩ hP hD hS (lv_sub hl [2, 3, 4, 5, 6, 7] rfl)
      · skip
        first | exact absurd h1 g1 | exact absurd g1 h1 | exact absurd h2 g2 | exact absurd g2 h2 | exact absurd h3 g3 | exact absurd g3 h3 | exact absurd h4 g4 | exact absurd g4 h4
      · skip
        first | exact absurd h1 g1 | exact absurd g1 h1 | exact absurd h2 g2 | exact absurd g2 h2 | exact absurd h3 g3 | exact absurd g3 h3 | exact absurd h4 g4 | exact absurd g4 h4
    · skip
      subst hE
      obtain rfl : r1 = nI 2 := hr6.trans (by decide +kernel)
      rcases hr2 with ⟨g1, gu⟩ | ⟨g1, g2, gu⟩ | ⟨g1, g2, gu, gr⟩
      · skip
        first | exact absurd h1 g1 | exact absurd g1 h1 | exact absurd h2 g2 | exact absurd g2 h2 | exact absurd h3 g3 | exact absurd g3 h3 | exact absurd h4 g4 | exact absurd g4 h4
      · skip
        obtain rfl : th2 = 2 := gu
        have hP : va_P D vwCl (LWd cy ad σ er ofd de bo ql qs tv ao aD o2 d2 am wo2 2) H := hP
        have hD : va_D (fun q => s.heap.size ≤ q) (LWd cy ad σ er ofd de bo ql qs tv ao aD o2 d2 am wo2 2) := hD
        refine lv_istore (lv' := [(7, .int rm), (6, .int (nI 2)), (5, .int (nI i)), (0, .ref b), (1, .ref (ad 0 0)), (2, .ref (am 0)), (3, .ref ao), (4, .ref aD)]) hx hb dL_law_1011 hl (by decide) rfl (fun ls hl => ?_)
        refine lv_aload_n hx hb dL_law_1013 rfl (lv_at hl 5 rfl) ?_
        refine ro_calli (va_runV (As := []) (rest := []) ⟨hx, hb, hml, hown, hts⟩ (c_X6_thrown l D cy am σ er wo2 2 H (hP.mem (fun _ hq => List.mem_append_right _ hq))) (cwV 0 hts gL_law_X6_thrown rfl rfl rfl hdX6_thrown ⟨Nat.le_of_ble_eq_true rfl, Nat.le_of_ble_eq_true rfl⟩) (ro_preV hK (va_recv hK.1 (hP.mem (fun _ hq => List.mem_append_right _ hq)) (ci := 6) (q0 := 0) rfl rfl)) rfl rfl hl.1 rfl (lv_room (Nat.le_of_ble_eq_true rfl)) dL_law_1014 ⟨by omega, by omega⟩) (fun r9 h9 => ?_)
        obtain rfl : r9 = nI 2 := h9
        refine lv_iload hx hb dL_law_1017 (lv_at hl 1 rfl) ?_
        refine lv_icmp_eq (tgt := 1024) hx hb dL_law_1019 (by decide) (fun _ => ?_) (fun q => absurd rfl q)
        refine lv_iload hx hb dL_law_1024 (lv_at hl 1 rfl) ?_
        refine lv_if_ne (tgt := 1041) hx hb dL_law_1026 (by decide) (fun _ => ?_) (fun q => by first | exact absurd q (by decide) | exact absurd (by decide) q)
        refine lv_goto (tgt := 1317) hx hb dL_law_1041 (by decide) ?_
        refine W.widen (k := cells + 2) (n := slots + 28) (by omega) (by omega) ?_
        exact K ad σ er ofd de dl bo ql qs tv am wo2 2 ao aD o2 d2 H locs ls ⟨hI2, hof, hbo, hDL, hQZ⟩ hP hD hS (lv_sub hl [2, 3, 4, 5, 6, 7] rfl)
      · skip
        first | exact absurd h1 g1 | exact absurd g1 h1 | exact absurd h2 g2 | exact absurd g2 h2 | exact absurd h3 g3 | exact absurd g3 h3 | exact absurd h4 g4 | exact absurd g4 h4
set_option maxHeartbeats 4000000 in
set_option maxRecDepth 100000 in
theorem law_average {p : Program} {l : Launch} {e : Env} {s : State} {m : MethodId} {below : List Frame} {meth : Method} {c : Code} {D : va_G} {cy : Nat → ClassId} {b L : Nat} {xs : Nat → Int32} {Q : State → Prop} (C : LX p l D cy s m c b L xs) {i n cells slots : Nat} (hi : i + 5 ≤ L) (hL : L ≤ 2560) (hn : n < 512) (hc : cells + 2 ≤ room_1.cells) (hs9 : slots + 28 ≤ room_1.slots) (K : LK p l e s m below meth c D cy b Q i (n + 1) 1317 (cells + 2) (slots + 28)) : LK p l e s m below meth c D cy b Q i n 1100 cells slots := by
  obtain ⟨hx, hb, hml, hown, hts, hK, hXW, hXZ, hX, hbl, hfl⟩ := C
  intro ad σ er ofd de dl bo ql qs tv am wo th ao aD o d H locs ls hI hP hD hS hl
  obtain ⟨hIv, hof, hbo, hDL, hQZ⟩ := hI
  have hA : ∀ q, s.heap.size ≤ q → (fun q => s.heap.size ≤ q) q := fun q h => h
  have hbA : ¬ (fun q => s.heap.size ≤ q) b := Nat.not_le.mpr hbl
  have hI2 := hIv.more hn
  refine lv_aload_n hx hb dL_law_1100 rfl (lv_at hl 2 rfl) ?_
  refine lv_aload_n hx hb dL_law_1101 rfl (lv_at hl 1 rfl) ?_
  refine lv_iload hx hb dL_law_1102 (lv_at hl 0 rfl) ?_
  refine lv_iconst (v := nI 1) hx hb dL_law_1104 (by decide) ?_
  refine ln_iadd hx hb dL_law_1105 (fun z hz => ?_)
  subst hz
  refine lw_sld hx hb hX hbl hbA hS (by omega) (by omega) dL_law_1106 ?_
  refine lv_aload hx hb dL_law_1107 (lv_at hl 5 rfl) ?_
  refine al_calli (vx_runSW (As := [.ref (ad 0 0), .int (xs (i + 1)), .ref aD]) (rest := []) ⟨hx, hb, hml, hown, hts⟩ (c_L_average l hfl D cy ad σ er ofd de bo ql qs tv hof hIv ((xs (i + 1))) ao aD o d H.size) (vx_cwSW 3 hts gL_law_L_average rfl rfl rfl hdL_average.2 ⟨Nat.le_of_ble_eq_true rfl, Nat.le_of_ble_eq_true rfl⟩) (xo_preS hK rfl (hP.mem (fun _ hq => List.mem_append_left _ hq)) (hD.subl (List.sublist_append_left _ _)) hXW (hXZ.at hS hD hA (fun _ hq => List.mem_append_left _ hq))) rfl rfl hl.1 rfl (lv_room (Nat.le_of_ble_eq_true rfl)) dL_law_1109 ⟨by omega, by omega⟩) hS hP hD hA (fun r1 u1 H locs hr1 hP hD hS => ?_)
  refine lv_istore (lv' := [(6, .int r1), (5, .int (nI i)), (0, .ref b), (1, .ref (ad 0 0)), (2, .ref (am 0)), (3, .ref ao), (4, .ref aD)]) hx hb dL_law_1112 hl (by decide) rfl (fun ls hl => ?_)
  refine lv_aload_n hx hb dL_law_1114 rfl (lv_at hl 4 rfl) ?_
  refine lv_aload_n hx hb dL_law_1115 rfl (lv_at hl 2 rfl) ?_
  refine lv_iload hx hb dL_law_1116 (lv_at hl 1 rfl) ?_
  refine lv_iconst (v := nI 1) hx hb dL_law_1118 (by decide) ?_
  refine ln_iadd hx hb dL_law_1119 (fun z hz => ?_)
  subst hz
  refine lw_sld hx hb hX hbl hbA hS (by omega) (by omega) dL_law_1120 ?_
  refine ap_callf (va_runV (As := [.int (xs (i + 1))]) (rest := []) ⟨hx, hb, hml, hown, hts⟩ (c_X6_average l D cy am σ er wo th hIv ((xs (i + 1))) H.size) (cwV 1 hts gL_law_X6_average rfl rfl rfl hdX6_average ⟨Nat.le_of_ble_eq_true rfl, Nat.le_of_ble_eq_true rfl⟩) (mo_preV hK rfl (hP.mem (fun _ hq => List.mem_append_right _ hq)) (hD.subl (List.sublist_append_right _ _)) (va_recv hK.1 (hP.mem (fun _ hq => List.mem_append_right _ hq)) (ci := 6) (q0 := 0) rfl rfl)) rfl rfl hl.1 rfl (lv_room (Nat.le_of_ble_eq_true rfl)) dL_law_1121 ⟨by omega, by omega⟩) hS hP hD hA (fun rm th2 H locs hr2 hP hD hS => ?_)
  obtain ⟨u1, o2, d2⟩ := u1
  rcases hr1 with ⟨t, ri, ht, hr6, hp, ho⟩ | ⟨E, ht, hex, hr6⟩
  · skip
    obtain rfl : u1 = some t := ht
    obtain rfl : r1 = nI 0 := hr6
    obtain ⟨h1, h2⟩ := hp
    rcases hr2 with ⟨g1, gu, g3⟩ | ⟨g1, gu⟩
    · skip
      obtain rfl : th2 = 0 := gu
      have hP : va_P D vwCl (LWd cy ad σ er ofd de bo ql qs tv ao aD o2 d2 am wo 0) H := hP
      have hD : va_D (fun q => s.heap.size ≤ q) (LWd cy ad σ er ofd de bo ql qs tv ao aD o2 d2 am wo 0) := hD
      refine lv_fstore (lv' := [(7, .float rm), (6, .int (nI 0)), (5, .int (nI i)), (0, .ref b), (1, .ref (ad 0 0)), (2, .ref (am 0)), (3, .ref ao), (4, .ref aD)]) hx hb dL_law_1124 hl (by decide) rfl (fun ls hl => ?_)
      refine lv_aload_n hx hb dL_law_1126 rfl (lv_at hl 5 rfl) ?_
      refine ro_calli (va_runV (As := []) (rest := []) ⟨hx, hb, hml, hown, hts⟩ (c_X6_thrown l D cy am σ er wo 0 H (hP.mem (fun _ hq => List.mem_append_right _ hq))) (cwV 0 hts gL_law_X6_thrown rfl rfl rfl hdX6_thrown ⟨Nat.le_of_ble_eq_true rfl, Nat.le_of_ble_eq_true rfl⟩) (ro_preV hK (va_recv hK.1 (hP.mem (fun _ hq => List.mem_append_right _ hq)) (ci := 6) (q0 := 0) rfl rfl)) rfl rfl hl.1 rfl (lv_room (Nat.le_of_ble_eq_true rfl)) dL_law_1127 ⟨by omega, by omega⟩) (fun r9 h9 => ?_)
      obtain rfl : r9 = nI 0 := h9
      refine lv_iload hx hb dL_law_1130 (lv_at hl 1 rfl) ?_
      refine lv_icmp_eq (tgt := 1137) hx hb dL_law_1132 (by decide) (fun _ => ?_) (fun q => absurd rfl q)
      refine lv_iload hx hb dL_law_1137 (lv_at hl 1 rfl) ?_
      refine lv_if_ne (tgt := 1175) hx hb dL_law_1139 (by decide) (fun q => by first | exact absurd q (by decide) | exact absurd (by decide) q) (fun _ => ?_)
      refine lv_aload hx hb dL_law_1142 (lv_at hl 7 rfl) ?_
      refine lv_iconst (v := nI 0) hx hb dL_law_1144 (by decide) ?_
      refine lw_odd hx hb hK hP dL_law_1145 ?_
      refine lv_fload hx hb dL_law_1146 (lv_at hl 0 rfl) ?_
      refine lv_f2d hx hb dL_law_1148 (by rw [g3]; exact avg_d (by have := hIv.dy; omega)) ?_
      refine lw_dcmpeq (tgt := 1175) hx hb (ho.trans (congrArg FP.f2d (h2.trans g3.symm))) (by rw [g3]; exact (FP.f2d_nan _).trans (avg_nan (by have := hIv.dy; omega))) dL_law_1149 dL_law_1150 (by decide) ?_
      refine lv_goto (tgt := 1317) hx hb dL_law_1175 (by decide) ?_
      refine W.widen (k := cells + 2) (n := slots + 28) (by omega) (by omega) ?_
      exact K ad σ er ofd de dl bo ql qs tv am wo 0 ao aD o2 d2 H locs ls ⟨hI2, hof.c rfl rfl, hbo.c rfl (Nat.le_refl _), hDL.c rfl rfl rfl, hQZ⟩ hP hD hS (lv_sub hl [2, 3, 4, 5, 6, 7] rfl)
    · skip
      first | exact absurd h1 g1 | exact absurd g1 h1 | exact absurd h2 g2 | exact absurd g2 h2 | exact absurd h3 g3 | exact absurd g3 h3 | exact absurd h4 g4 | exact absurd g4 h4
  · skip
    obtain rfl : u1 = none := ht
    rcases hex with ⟨h1, hE⟩
    · skip
      subst hE
      obtain rfl : r1 = nI 1 := hr6.trans (by decide +kernel)
      rcases hr2 with ⟨g1, gu, g3⟩ | ⟨g1, gu⟩
      · skip
        first | exact absurd h1 g1 | exact absurd g1 h1 | exact absurd h2 g2 | exact absurd g2 h2 | exact absurd h3 g3 | exact absurd g3 h3 | exact absurd h4 g4 | exact absurd g4 h4
      · skip
        obtain rfl : th2 = 1 := gu
        have hP : va_P D vwCl (LWd cy ad σ er ofd de bo ql qs tv ao aD o2 d2 am wo 1) H := hP
        have hD : va_D (fun q => s.heap.size ≤ q) (LWd cy ad σ er ofd de bo ql qs tv ao aD o2 d2 am wo 1) := hD
        refine lv_fstore (lv' := [(7, .float rm), (6, .int (nI 1)), (5, .int (nI i)), (0, .ref b), (1, .ref (ad 0 0)), (2, .ref (am 0)), (3, .ref ao), (4, .ref aD)]) hx hb dL_law_1124 hl (by decide) rfl (fun ls hl => ?_)
        refine lv_aload_n hx hb dL_law_1126 rfl (lv_at hl 5 rfl) ?_
        refine ro_calli (va_runV (As := []) (rest := []) ⟨hx, hb, hml, hown, hts⟩ (c_X6_thrown l D cy am σ er wo 1 H (hP.mem (fun _ hq => List.mem_append_right _ hq))) (cwV 0 hts gL_law_X6_thrown rfl rfl rfl hdX6_thrown ⟨Nat.le_of_ble_eq_true rfl, Nat.le_of_ble_eq_true rfl⟩) (ro_preV hK (va_recv hK.1 (hP.mem (fun _ hq => List.mem_append_right _ hq)) (ci := 6) (q0 := 0) rfl rfl)) rfl rfl hl.1 rfl (lv_room (Nat.le_of_ble_eq_true rfl)) dL_law_1127 ⟨by omega, by omega⟩) (fun r9 h9 => ?_)
        obtain rfl : r9 = nI 1 := h9
        refine lv_iload hx hb dL_law_1130 (lv_at hl 1 rfl) ?_
        refine lv_icmp_eq (tgt := 1137) hx hb dL_law_1132 (by decide) (fun _ => ?_) (fun q => absurd rfl q)
        refine lv_iload hx hb dL_law_1137 (lv_at hl 1 rfl) ?_
        refine lv_if_ne (tgt := 1175) hx hb dL_law_1139 (by decide) (fun _ => ?_) (fun q => by first | exact absurd q (by decide) | exact absurd (by decide) q)
        refine lv_goto (tgt := 1317) hx hb dL_law_1175 (by decide) ?_
        refine W.widen (k := cells + 2) (n := slots + 28) (by omega) (by omega) ?_
        exact K ad σ er ofd de dl bo ql qs tv am wo 1 ao aD o2 d2 H locs ls ⟨hI2, hof, hbo, hDL, hQZ⟩ hP hD hS (lv_sub hl [2, 3, 4, 5, 6, 7] rfl)
set_option maxHeartbeats 4000000 in
set_option maxRecDepth 100000 in
theorem law_products {p : Program} {l : Launch} {e : Env} {s : State} {m : MethodId} {below : List Frame} {meth : Method} {c : Code} {D : va_G} {cy : Nat → ClassId} {b L : Nat} {xs : Nat → Int32} {Q : State → Prop} (C : LX p l D cy s m c b L xs) {i n cells slots : Nat} (hi : i + 5 ≤ L) (hL : L ≤ 2560) (hn : n < 512) (hc : cells + 2 ≤ room_1.cells) (hs9 : slots + 28 ≤ room_1.slots) (K : LK p l e s m below meth c D cy b Q i (n + 1) 1317 (cells + 2) (slots + 28)) : LK p l e s m below meth c D cy b Q i n 676 cells slots := by
  obtain ⟨hx, hb, hml, hown, hts, hK, hXW, hXZ, hX, hbl, hfl⟩ := C
  intro ad σ er ofd de dl bo ql qs tv am wo th ao aD o d H locs ls hI hP hD hS hl
  obtain ⟨hIv, hof, hbo, hDL, hQZ⟩ := hI
  have hA : ∀ q, s.heap.size ≤ q → (fun q => s.heap.size ≤ q) q := fun q h => h
  have hbA : ¬ (fun q => s.heap.size ≤ q) b := Nat.not_le.mpr hbl
  have hI2 := hIv.more hn
  refine lv_aload_n hx hb dL_law_676 rfl (lv_at hl 2 rfl) ?_
  refine ro_calli (va_runV (As := []) (rest := []) ⟨hx, hb, hml, hown, hts⟩ (c_X5_products l D cy ad σ er ofd de bo ql qs tv  H (hP.mem (fun _ hq => List.mem_append_left _ (List.mem_append_left _ hq)))) (cwV 0 hts gL_law_X5_products rfl rfl rfl hdX5_products ⟨Nat.le_of_ble_eq_true rfl, Nat.le_of_ble_eq_true rfl⟩) (ro_preV hK (va_recv hK.1 hP (ci := 5) (q0 := 0) rfl rfl)) rfl rfl hl.1 rfl (lv_room (Nat.le_of_ble_eq_true rfl)) dL_law_677 ⟨by omega, by omega⟩) (fun r1 h1 => ?_)
  refine lv_aload_n hx hb dL_law_680 rfl (lv_at hl 3 rfl) ?_
  refine ap_calli (va_runV (As := []) (rest := [.int r1]) ⟨hx, hb, hml, hown, hts⟩ (c_X6_products l D cy am σ er wo th  H.size) (cwV 0 hts gL_law_X6_products rfl rfl rfl hdX6_products ⟨Nat.le_of_ble_eq_true rfl, Nat.le_of_ble_eq_true rfl⟩) (mo_preV hK rfl (hP.mem (fun _ hq => List.mem_append_right _ hq)) (hD.subl (List.sublist_append_right _ _)) (va_recv hK.1 (hP.mem (fun _ hq => List.mem_append_right _ hq)) (ci := 6) (q0 := 0) rfl rfl)) rfl rfl hl.1 rfl (lv_room (Nat.le_of_ble_eq_true rfl)) dL_law_681 ⟨by omega, by omega⟩) hS hP hD hA (fun rm _u H locs h2 hP hD hS => ?_)
  have hP : va_P D vwCl (LWd cy ad σ er ofd de bo ql qs tv ao aD o d am wo 0) H := hP
  have hD : va_D (fun q => s.heap.size ≤ q) (LWd cy ad σ er ofd de bo ql qs tv ao aD o d am wo 0) := hD
  refine lv_icmp_eq (tgt := 1317) hx hb dL_law_684 (by decide) (fun _ => ?_) (fun q => absurd (h1.trans h2.symm) q)
  refine W.widen (k := cells + 2) (n := slots + 28) (by omega) (by omega) ?_
  exact K ad σ er ofd de dl bo ql qs tv am wo 0 ao aD o d H locs ls ⟨hI2, hof.c rfl rfl, hbo.c rfl (Nat.le_refl _), hDL.c rfl rfl rfl, hQZ⟩ hP hD hS (lv_sub hl [0, 1, 2, 3, 4, 5] rfl)
set_option maxHeartbeats 4000000 in
set_option maxRecDepth 100000 in
theorem law_days {p : Program} {l : Launch} {e : Env} {s : State} {m : MethodId} {below : List Frame} {meth : Method} {c : Code} {D : va_G} {cy : Nat → ClassId} {b L : Nat} {xs : Nat → Int32} {Q : State → Prop} (C : LX p l D cy s m c b L xs) {i n cells slots : Nat} (hi : i + 5 ≤ L) (hL : L ≤ 2560) (hn : n < 512) (hc : cells + 2 ≤ room_1.cells) (hs9 : slots + 28 ≤ room_1.slots) (K : LK p l e s m below meth c D cy b Q i (n + 1) 1317 (cells + 2) (slots + 28)) : LK p l e s m below meth c D cy b Q i n 689 cells slots := by
  obtain ⟨hx, hb, hml, hown, hts, hK, hXW, hXZ, hX, hbl, hfl⟩ := C
  intro ad σ er ofd de dl bo ql qs tv am wo th ao aD o d H locs ls hI hP hD hS hl
  obtain ⟨hIv, hof, hbo, hDL, hQZ⟩ := hI
  have hA : ∀ q, s.heap.size ≤ q → (fun q => s.heap.size ≤ q) q := fun q h => h
  have hbA : ¬ (fun q => s.heap.size ≤ q) b := Nat.not_le.mpr hbl
  have hI2 := hIv.more hn
  refine lv_aload_n hx hb dL_law_689 rfl (lv_at hl 2 rfl) ?_
  refine ro_calli (va_runV (As := []) (rest := []) ⟨hx, hb, hml, hown, hts⟩ (c_X5_days l D cy ad σ er ofd de bo ql qs tv  H (hP.mem (fun _ hq => List.mem_append_left _ (List.mem_append_left _ hq)))) (cwV 0 hts gL_law_X5_days rfl rfl rfl hdX5_days ⟨Nat.le_of_ble_eq_true rfl, Nat.le_of_ble_eq_true rfl⟩) (ro_preV hK (va_recv hK.1 hP (ci := 5) (q0 := 0) rfl rfl)) rfl rfl hl.1 rfl (lv_room (Nat.le_of_ble_eq_true rfl)) dL_law_690 ⟨by omega, by omega⟩) (fun r1 h1 => ?_)
  refine lv_aload_n hx hb dL_law_693 rfl (lv_at hl 3 rfl) ?_
  refine ap_calli (va_runV (As := []) (rest := [.int r1]) ⟨hx, hb, hml, hown, hts⟩ (c_X6_days l D cy am σ er wo th  H.size) (cwV 0 hts gL_law_X6_days rfl rfl rfl hdX6_days ⟨Nat.le_of_ble_eq_true rfl, Nat.le_of_ble_eq_true rfl⟩) (mo_preV hK rfl (hP.mem (fun _ hq => List.mem_append_right _ hq)) (hD.subl (List.sublist_append_right _ _)) (va_recv hK.1 (hP.mem (fun _ hq => List.mem_append_right _ hq)) (ci := 6) (q0 := 0) rfl rfl)) rfl rfl hl.1 rfl (lv_room (Nat.le_of_ble_eq_true rfl)) dL_law_694 ⟨by omega, by omega⟩) hS hP hD hA (fun rm _u H locs h2 hP hD hS => ?_)
  have hP : va_P D vwCl (LWd cy ad σ er ofd de bo ql qs tv ao aD o d am wo 0) H := hP
  have hD : va_D (fun q => s.heap.size ≤ q) (LWd cy ad σ er ofd de bo ql qs tv ao aD o d am wo 0) := hD
  refine lv_icmp_eq (tgt := 1317) hx hb dL_law_697 (by decide) (fun _ => ?_) (fun q => absurd (h1.trans h2.symm) q)
  refine W.widen (k := cells + 2) (n := slots + 28) (by omega) (by omega) ?_
  exact K ad σ er ofd de dl bo ql qs tv am wo 0 ao aD o d H locs ls ⟨hI2, hof.c rfl rfl, hbo.c rfl (Nat.le_refl _), hDL.c rfl rfl rfl, hQZ⟩ hP hD hS (lv_sub hl [0, 1, 2, 3, 4, 5] rfl)
set_option maxHeartbeats 4000000 in
set_option maxRecDepth 100000 in
theorem law_worth {p : Program} {l : Launch} {e : Env} {s : State} {m : MethodId} {below : List Frame} {meth : Method} {c : Code} {D : va_G} {cy : Nat → ClassId} {b L : Nat} {xs : Nat → Int32} {Q : State → Prop} (C : LX p l D cy s m c b L xs) {i n cells slots : Nat} (hi : i + 5 ≤ L) (hL : L ≤ 2560) (hn : n < 512) (hc : cells + 2 ≤ room_1.cells) (hs9 : slots + 28 ≤ room_1.slots) (K : LK p l e s m below meth c D cy b Q i (n + 1) 1317 (cells + 2) (slots + 28)) : LK p l e s m below meth c D cy b Q i n 882 cells slots := by
  obtain ⟨hx, hb, hml, hown, hts, hK, hXW, hXZ, hX, hbl, hfl⟩ := C
  intro ad σ er ofd de dl bo ql qs tv am wo th ao aD o d H locs ls hI hP hD hS hl
  obtain ⟨hIv, hof, hbo, hDL, hQZ⟩ := hI
  have hA : ∀ q, s.heap.size ≤ q → (fun q => s.heap.size ≤ q) q := fun q h => h
  have hbA : ¬ (fun q => s.heap.size ≤ q) b := Nat.not_le.mpr hbl
  have hI2 := hIv.more hn
  refine lv_aload_n hx hb dL_law_882 rfl (lv_at hl 2 rfl) ?_
  have hP : va_P D vwCl (WG ad cy (σ 0 0) (σ 0 3) σ er ofd de bo ql qs tv ++ (oC cy ao aD o d ++ WM am cy σ er wo th)) H := by rw [← List.append_assoc]; exact hP
  have hD : va_D (fun q => s.heap.size ≤ q) (WG ad cy (σ 0 0) (σ 0 3) σ er ofd de bo ql qs tv ++ (oC cy ao aD o d ++ WM am cy σ er wo th)) := by rw [← List.append_assoc]; exact hD
  refine al_calli (va_runV (As := []) (rest := []) ⟨hx, hb, hml, hown, hts⟩ (c_X5_worth l D cy ad σ er ofd de bo ql qs tv hbo hIv hDL hQZ H.size) (cwV 0 hts gL_law_X5_worth rfl rfl rfl hdX5_worth ⟨Nat.le_of_ble_eq_true rfl, Nat.le_of_ble_eq_true rfl⟩) (mo_preV hK rfl (hP.mem (fun _ hq => List.mem_append_left _ hq)) (hD.subl (List.sublist_append_left _ _)) (va_recv hK.1 hP (ci := 5) (q0 := 0) rfl rfl)) rfl rfl hl.1 rfl (lv_room (Nat.le_of_ble_eq_true rfl)) dL_law_883 ⟨by omega, by omega⟩) hS hP hD hA (fun r1 u1 H locs h1 hP hD hS => ?_)
  obtain ⟨ql2, qs2⟩ := u1
  obtain ⟨h1, hq⟩ := h1
  have hP : va_P D vwCl ((WG ad cy (σ 0 0) (σ 0 3) σ er ofd de bo ql2 qs2 tv ++ oC cy ao aD o d) ++ WM am cy σ er wo th) H := by rw [List.append_assoc]; exact hP
  have hD : va_D (fun q => s.heap.size ≤ q) ((WG ad cy (σ 0 0) (σ 0 3) σ er ofd de bo ql2 qs2 tv ++ oC cy ao aD o d) ++ WM am cy σ er wo th) := by rw [List.append_assoc]; exact hD
  refine lv_aload_n hx hb dL_law_886 rfl (lv_at hl 3 rfl) ?_
  refine ap_calli (va_runV (As := []) (rest := [.int r1]) ⟨hx, hb, hml, hown, hts⟩ (c_X6_worth l D cy am σ er wo th hIv H.size) (cwV 0 hts gL_law_X6_worth rfl rfl rfl hdX6_worth ⟨Nat.le_of_ble_eq_true rfl, Nat.le_of_ble_eq_true rfl⟩) (mo_preV hK rfl (hP.mem (fun _ hq => List.mem_append_right _ hq)) (hD.subl (List.sublist_append_right _ _)) (va_recv hK.1 (hP.mem (fun _ hq => List.mem_append_right _ hq)) (ci := 6) (q0 := 0) rfl rfl)) rfl rfl hl.1 rfl (lv_room (Nat.le_of_ble_eq_true rfl)) dL_law_887 ⟨by omega, by omega⟩) hS hP hD hA (fun rm wo2 H locs h2 hP hD hS => ?_)
  have hP : va_P D vwCl (LWd cy ad σ er ofd de bo ql2 qs2 tv ao aD o d am wo2 0) H := hP
  have hD : va_D (fun q => s.heap.size ≤ q) (LWd cy ad σ er ofd de bo ql2 qs2 tv ao aD o d am wo2 0) := hD
  refine lv_icmp_eq (tgt := 1317) hx hb dL_law_890 (by decide) (fun _ => ?_) (fun q => absurd (h1.trans h2.symm) q)
  refine W.widen (k := cells + 2) (n := slots + 28) (by omega) (by omega) ?_
  exact K ad σ er ofd de dl bo ql2 qs2 tv am wo2 0 ao aD o d H locs ls ⟨hI2, hof.c rfl rfl, hbo.c rfl (Nat.le_refl _), hDL.c rfl rfl rfl, hq⟩ hP hD hS (lv_sub hl [0, 1, 2, 3, 4, 5] rfl)
set_option maxHeartbeats 4000000 in
set_option maxRecDepth 100000 in
theorem law_worthByTable {p : Program} {l : Launch} {e : Env} {s : State} {m : MethodId} {below : List Frame} {meth : Method} {c : Code} {D : va_G} {cy : Nat → ClassId} {b L : Nat} {xs : Nat → Int32} {Q : State → Prop} (C : LX p l D cy s m c b L xs) {i n cells slots : Nat} (hi : i + 5 ≤ L) (hL : L ≤ 2560) (hn : n < 512) (hc : cells + 2 ≤ room_1.cells) (hs9 : slots + 28 ≤ room_1.slots) (K : LK p l e s m below meth c D cy b Q i (n + 1) 1317 (cells + 2) (slots + 28)) : LK p l e s m below meth c D cy b Q i n 895 cells slots := by
  obtain ⟨hx, hb, hml, hown, hts, hK, hXW, hXZ, hX, hbl, hfl⟩ := C
  intro ad σ er ofd de dl bo ql qs tv am wo th ao aD o d H locs ls hI hP hD hS hl
  obtain ⟨hIv, hof, hbo, hDL, hQZ⟩ := hI
  have hA : ∀ q, s.heap.size ≤ q → (fun q => s.heap.size ≤ q) q := fun q h => h
  have hbA : ¬ (fun q => s.heap.size ≤ q) b := Nat.not_le.mpr hbl
  have hI2 := hIv.more hn
  refine lv_aload_n hx hb dL_law_895 rfl (lv_at hl 2 rfl) ?_
  have hP : va_P D vwCl (WG ad cy (σ 0 0) (σ 0 3) σ er ofd de bo ql qs tv ++ (oC cy ao aD o d ++ WM am cy σ er wo th)) H := by rw [← List.append_assoc]; exact hP
  have hD : va_D (fun q => s.heap.size ≤ q) (WG ad cy (σ 0 0) (σ 0 3) σ er ofd de bo ql qs tv ++ (oC cy ao aD o d ++ WM am cy σ er wo th)) := by rw [← List.append_assoc]; exact hD
  refine al_calli (va_runV (As := []) (rest := []) ⟨hx, hb, hml, hown, hts⟩ (c_X5_worthByTable l D cy ad σ er ofd de bo ql qs tv hof hbo hIv H.size) (cwV 0 hts gL_law_X5_worthByTable rfl rfl rfl hdX5_worthByTable ⟨Nat.le_of_ble_eq_true rfl, Nat.le_of_ble_eq_true rfl⟩) (mo_preV hK rfl (hP.mem (fun _ hq => List.mem_append_left _ hq)) (hD.subl (List.sublist_append_left _ _)) (va_recv hK.1 hP (ci := 5) (q0 := 0) rfl rfl)) rfl rfl hl.1 rfl (lv_room (Nat.le_of_ble_eq_true rfl)) dL_law_896 ⟨by omega, by omega⟩) hS hP hD hA (fun r1 u1 H locs h1 hP hD hS => ?_)
  obtain ⟨tv2, htv⟩ : ∃ z, z = u1 := ⟨_, rfl⟩
  rw [← htv] at hP hD
  have hP : va_P D vwCl ((WG ad cy (σ 0 0) (σ 0 3) σ er ofd de bo ql qs tv2 ++ oC cy ao aD o d) ++ WM am cy σ er wo th) H := by rw [List.append_assoc]; exact hP
  have hD : va_D (fun q => s.heap.size ≤ q) ((WG ad cy (σ 0 0) (σ 0 3) σ er ofd de bo ql qs tv2 ++ oC cy ao aD o d) ++ WM am cy σ er wo th) := by rw [List.append_assoc]; exact hD
  refine lv_aload_n hx hb dL_law_899 rfl (lv_at hl 3 rfl) ?_
  refine ap_calli (va_runV (As := []) (rest := [.int r1]) ⟨hx, hb, hml, hown, hts⟩ (c_X6_worthByTable l D cy am σ er wo th hIv H.size) (cwV 0 hts gL_law_X6_worthByTable rfl rfl rfl hdX6_worthByTable ⟨Nat.le_of_ble_eq_true rfl, Nat.le_of_ble_eq_true rfl⟩) (mo_preV hK rfl (hP.mem (fun _ hq => List.mem_append_right _ hq)) (hD.subl (List.sublist_append_right _ _)) (va_recv hK.1 (hP.mem (fun _ hq => List.mem_append_right _ hq)) (ci := 6) (q0 := 0) rfl rfl)) rfl rfl hl.1 rfl (lv_room (Nat.le_of_ble_eq_true rfl)) dL_law_900 ⟨by omega, by omega⟩) hS hP hD hA (fun rm wo2 H locs h2 hP hD hS => ?_)
  have hP : va_P D vwCl (LWd cy ad σ er ofd de bo ql qs tv2 ao aD o d am wo2 0) H := hP
  have hD : va_D (fun q => s.heap.size ≤ q) (LWd cy ad σ er ofd de bo ql qs tv2 ao aD o d am wo2 0) := hD
  refine lv_icmp_eq (tgt := 1317) hx hb dL_law_903 (by decide) (fun _ => ?_) (fun q => absurd (h1.trans h2.symm) q)
  refine W.widen (k := cells + 2) (n := slots + 28) (by omega) (by omega) ?_
  exact K ad σ er ofd de dl bo ql qs tv2 am wo2 0 ao aD o d H locs ls ⟨hI2, hof.c rfl rfl, hbo.c rfl (Nat.le_refl _), hDL.c rfl rfl rfl, hQZ⟩ hP hD hS (lv_sub hl [0, 1, 2, 3, 4, 5] rfl)
set_option maxHeartbeats 4000000 in
set_option maxRecDepth 100000 in
theorem law_revenue {p : Program} {l : Launch} {e : Env} {s : State} {m : MethodId} {below : List Frame} {meth : Method} {c : Code} {D : va_G} {cy : Nat → ClassId} {b L : Nat} {xs : Nat → Int32} {Q : State → Prop} (C : LX p l D cy s m c b L xs) {i n cells slots : Nat} (hi : i + 5 ≤ L) (hL : L ≤ 2560) (hn : n < 512) (hc : cells + 2 ≤ room_1.cells) (hs9 : slots + 28 ≤ room_1.slots) (K : LK p l e s m below meth c D cy b Q i (n + 1) 1317 (cells + 2) (slots + 28)) : LK p l e s m below meth c D cy b Q i n 1290 cells slots := by
  obtain ⟨hx, hb, hml, hown, hts, hK, hXW, hXZ, hX, hbl, hfl⟩ := C
  intro ad σ er ofd de dl bo ql qs tv am wo th ao aD o d H locs ls hI hP hD hS hl
  obtain ⟨hIv, hof, hbo, hDL, hQZ⟩ := hI
  have hA : ∀ q, s.heap.size ≤ q → (fun q => s.heap.size ≤ q) q := fun q h => h
  have hbA : ¬ (fun q => s.heap.size ≤ q) b := Nat.not_le.mpr hbl
  have hI2 := hIv.more hn
  refine lv_aload_n hx hb dL_law_1290 rfl (lv_at hl 2 rfl) ?_
  refine ro_calli (va_runV (As := []) (rest := []) ⟨hx, hb, hml, hown, hts⟩ (c_X5_revenue l D cy ad σ er ofd de bo ql qs tv hbo hIv H (hP.mem (fun _ hq => List.mem_append_left _ (List.mem_append_left _ hq)))) (cwV 0 hts gL_law_X5_revenue rfl rfl rfl hdX5_revenue ⟨Nat.le_of_ble_eq_true rfl, Nat.le_of_ble_eq_true rfl⟩) (ro_preV hK (va_recv hK.1 hP (ci := 5) (q0 := 0) rfl rfl)) rfl rfl hl.1 rfl (lv_room (Nat.le_of_ble_eq_true rfl)) dL_law_1291 ⟨by omega, by omega⟩) (fun r1 h1 => ?_)
  refine lv_aload_n hx hb dL_law_1294 rfl (lv_at hl 3 rfl) ?_
  refine ap_calli (va_runV (As := []) (rest := [.int r1]) ⟨hx, hb, hml, hown, hts⟩ (c_X6_revenue l D cy am σ er wo th hIv H.size) (cwV 0 hts gL_law_X6_revenue rfl rfl rfl hdX6_revenue ⟨Nat.le_of_ble_eq_true rfl, Nat.le_of_ble_eq_true rfl⟩) (mo_preV hK rfl (hP.mem (fun _ hq => List.mem_append_right _ hq)) (hD.subl (List.sublist_append_right _ _)) (va_recv hK.1 (hP.mem (fun _ hq => List.mem_append_right _ hq)) (ci := 6) (q0 := 0) rfl rfl)) rfl rfl hl.1 rfl (lv_room (Nat.le_of_ble_eq_true rfl)) dL_law_1295 ⟨by omega, by omega⟩) hS hP hD hA (fun rm _u H locs h2 hP hD hS => ?_)
  have hP : va_P D vwCl (LWd cy ad σ er ofd de bo ql qs tv ao aD o d am wo 0) H := hP
  have hD : va_D (fun q => s.heap.size ≤ q) (LWd cy ad σ er ofd de bo ql qs tv ao aD o d am wo 0) := hD
  refine lv_icmp_eq (tgt := 1317) hx hb dL_law_1298 (by decide) (fun _ => ?_) (fun q => absurd (h1.trans h2.symm) q)
  refine W.widen (k := cells + 2) (n := slots + 28) (by omega) (by omega) ?_
  exact K ad σ er ofd de dl bo ql qs tv am wo 0 ao aD o d H locs ls ⟨hI2, hof.c rfl rfl, hbo.c rfl (Nat.le_refl _), hDL.c rfl rfl rfl, hQZ⟩ hP hD hS (lv_sub hl [0, 1, 2, 3, 4, 5] rfl)
set_option maxHeartbeats 4000000 in
set_option maxRecDepth 100000 in
theorem law_earned {p : Program} {l : Launch} {e : Env} {s : State} {m : MethodId} {below : List Frame} {meth : Method} {c : Code} {D : va_G} {cy : Nat → ClassId} {b L : Nat} {xs : Nat → Int32} {Q : State → Prop} (C : LX p l D cy s m c b L xs) {i n cells slots : Nat} (hi : i + 5 ≤ L) (hL : L ≤ 2560) (hn : n < 512) (hc : cells + 2 ≤ room_1.cells) (hs9 : slots + 28 ≤ room_1.slots) (K : LK p l e s m below meth c D cy b Q i (n + 1) 1317 (cells + 2) (slots + 28)) : LK p l e s m below meth c D cy b Q i n 1303 cells slots := by
  obtain ⟨hx, hb, hml, hown, hts, hK, hXW, hXZ, hX, hbl, hfl⟩ := C
  intro ad σ er ofd de dl bo ql qs tv am wo th ao aD o d H locs ls hI hP hD hS hl
  obtain ⟨hIv, hof, hbo, hDL, hQZ⟩ := hI
  have hA : ∀ q, s.heap.size ≤ q → (fun q => s.heap.size ≤ q) q := fun q h => h
  have hbA : ¬ (fun q => s.heap.size ≤ q) b := Nat.not_le.mpr hbl
  have hI2 := hIv.more hn
  refine lv_aload_n hx hb dL_law_1303 rfl (lv_at hl 2 rfl) ?_
  refine ro_calll (va_runV (As := []) (rest := []) ⟨hx, hb, hml, hown, hts⟩ (c_X5_earned l D cy ad σ er ofd de bo ql qs tv  H (hP.mem (fun _ hq => List.mem_append_left _ (List.mem_append_left _ hq)))) (cwV 0 hts gL_law_X5_earned rfl rfl rfl hdX5_earned ⟨Nat.le_of_ble_eq_true rfl, Nat.le_of_ble_eq_true rfl⟩) (ro_preV hK (va_recv hK.1 hP (ci := 5) (q0 := 0) rfl rfl)) rfl rfl hl.1 rfl (lv_room (Nat.le_of_ble_eq_true rfl)) dL_law_1304 ⟨by omega, by omega⟩) (fun r1 h1 => ?_)
  refine lv_aload_n hx hb dL_law_1307 rfl (lv_at hl 3 rfl) ?_
  refine ap_calll (va_runV (As := []) (rest := [.long r1]) ⟨hx, hb, hml, hown, hts⟩ (c_X6_earned l D cy am σ er wo th  H.size) (cwV 0 hts gL_law_X6_earned rfl rfl rfl hdX6_earned ⟨Nat.le_of_ble_eq_true rfl, Nat.le_of_ble_eq_true rfl⟩) (mo_preV hK rfl (hP.mem (fun _ hq => List.mem_append_right _ hq)) (hD.subl (List.sublist_append_right _ _)) (va_recv hK.1 (hP.mem (fun _ hq => List.mem_append_right _ hq)) (ci := 6) (q0 := 0) rfl rfl)) rfl rfl hl.1 rfl (lv_room (Nat.le_of_ble_eq_true rfl)) dL_law_1308 ⟨by omega, by omega⟩) hS hP hD hA (fun rm _u H locs h2 hP hD hS => ?_)
  have hP : va_P D vwCl (LWd cy ad σ er ofd de bo ql qs tv ao aD o d am wo 0) H := hP
  have hD : va_D (fun q => s.heap.size ≤ q) (LWd cy ad σ er ofd de bo ql qs tv ao aD o d am wo 0) := hD
  refine lw_lcmpeq (tgt := 1317) hx hb (h1.trans h2.symm) dL_law_1311 dL_law_1312 (by decide) ?_
  refine W.widen (k := cells + 2) (n := slots + 28) (by omega) (by omega) ?_
  exact K ad σ er ofd de dl bo ql qs tv am wo 0 ao aD o d H locs ls ⟨hI2, hof.c rfl rfl, hbo.c rfl (Nat.le_refl _), hDL.c rfl rfl rfl, hQZ⟩ hP hD hS (lv_sub hl [0, 1, 2, 3, 4, 5] rfl)
