theorem va_tyU {s : State} {cA cB : ClassId} {ty : FieldType} (h1 : va_RA s cA ty) (h2 : va_RA s cB ty) : cA = cB := by
  cases ty <;> first
    | exact Option.some.inj (h1.symm.trans h2)
    | (obtain ⟨_, _, _, _, _, a⟩ := h1; obtain ⟨_, _, _, _, _, b⟩ := h2; exact Option.some.inj (a.symm.trans b))
section NEW
variable {p : Program} {l : Launch} {e : Env} {R : Room} {s : State} {m : MethodId} {args : Array Value} {below : List Frame} {meth : Method} {c : Code} {H : Heap} {locs : List Loc} {cells slots : Nat} {Q : State → Prop}
variable {cc : ByteArray} {pc : Nat} {ls : Array Slot} {rest : List Value} {D : va_G} {A : Nat → Prop} {H0 : Heap} {ws : va_W} {cy : Nat → ClassId}
theorem ln_newI (hx : p.tables.exec = Jvm.exec) (hb : c.code = cc) (harr : (Cond.arrayClass .int).before args s = true) (hK : KW D cy s) (hP : va_P D vwCl ws H) (hD : va_D A ws) (hS : va_S A H0 H locs) (hA : ∀ q, H0.size ≤ q → A q) {N : Nat} (hN : N < 5000) (hcells : cells + 1 ≤ R.cells) (hslots : slots + N ≤ R.slots) (hd : decode cc pc = .ok (.newarray .int, 2)) (kk : ∀ (q : Nat) (H1 : Heap), va_P D vwCl (ws ++ [(q, .inl (cy 0, N, .inl (fun _ => nI 0)))]) H1 → va_D A (ws ++ [(q, .inl (cy 0, N, .inl (fun _ => nI 0)))]) → va_S A H0 H1 locs → W p l e R s m args below meth c H1 locs (cells + 1) (slots + N) Q (F0 m (pc + 2) ls (.ref q :: rest))) : W p l e R s m args below meth c H locs cells slots Q (F0 m pc ls (.int (nI N) :: rest)) := by
  refine va_newa (atype := .int) (ty := .int) (a0 := (N, .inl (fun _ => nI 0))) hx hb harr rfl hK.1 hP hD hS hA (fun cA => rfl) (nI_pos (by omega)) (nI_clamp (by omega)) (by show N * 4 ≤ _; omega) hcells hslots hd (fun q cA H1 hK1 hP1 hD1 hS1 => ?_)
  have e1 : cA = cy 0 := va_tyU (hK1.2 (tyL cy).length (cA, .int) rfl).2 (hK.1.2 0 (cy 0, .int) rfl).2
  subst e1
  exact kk q H1 hP1 hD1 hS1
theorem ln_newB (hx : p.tables.exec = Jvm.exec) (hb : c.code = cc) {own : String} {index : Nat} (hown : s.vm.findClass own = some m.cls) (hcl : (Cond.classLink own index "Nestedfare$Booking").before args s = true) (hov : va_AO "Nestedfare$Booking" s) (hK : KW D cy s) (hP : va_P D vwCl ws H) (hD : va_D A ws) (hS : va_S A H0 H locs) (hA : ∀ q, H0.size ≤ q → A q) {N : Nat} (hN : N < 5000) (hcells : cells + 1 ≤ R.cells) (hslots : slots + N ≤ R.slots) (hd : decode cc pc = .ok (.anewarray index, 3)) (kk : ∀ (q : Nat) (H1 : Heap), va_P D vwCl (ws ++ [(q, .inl (cy 3, N, .inr (.inr (.inr (.inr (fun _ => none))))))]) H1 → va_D A (ws ++ [(q, .inl (cy 3, N, .inr (.inr (.inr (.inr (fun _ => none))))))]) → va_S A H0 H1 locs → W p l e R s m args below meth c H1 locs (cells + 1) (slots + N) Q (F0 m (pc + 3) ls (.ref q :: rest))) : W p l e R s m args below meth c H locs cells slots Q (F0 m pc ls (.int (nI N) :: rest)) := by
  refine va_newq hx hb hown hcl hov hK.1 hP hD hS hA (nI_pos (by omega)) (nI_clamp (by omega)) (by omega) hcells hslots hd (fun q cA H1 hK1 hP1 hD1 hS1 => ?_)
  have e1 : cA = cy 3 := va_tyU (hK1.2 (tyL cy).length (cA, .object "Nestedfare$Booking") rfl).2 (hK.1.2 3 (cy 3, .object "Nestedfare$Booking") rfl).2
  subst e1
  exact kk q H1 hP1 hD1 hS1
theorem ln_newP (hx : p.tables.exec = Jvm.exec) (hb : c.code = cc) {own : String} {index : Nat} (hown : s.vm.findClass own = some m.cls) (hcl : (Cond.classLink own index "Nestedfare$Product").before args s = true) (hov : va_AO "Nestedfare$Product" s) (hK : KW D cy s) (hP : va_P D vwCl ws H) (hD : va_D A ws) (hS : va_S A H0 H locs) (hA : ∀ q, H0.size ≤ q → A q) {N : Nat} (hN : N < 5000) (hcells : cells + 1 ≤ R.cells) (hslots : slots + N ≤ R.slots) (hd : decode cc pc = .ok (.anewarray index, 3)) (kk : ∀ (q : Nat) (H1 : Heap), va_P D vwCl (ws ++ [(q, .inl (cy 4, N, .inr (.inr (.inr (.inr (fun _ => none))))))]) H1 → va_D A (ws ++ [(q, .inl (cy 4, N, .inr (.inr (.inr (.inr (fun _ => none))))))]) → va_S A H0 H1 locs → W p l e R s m args below meth c H1 locs (cells + 1) (slots + N) Q (F0 m (pc + 3) ls (.ref q :: rest))) : W p l e R s m args below meth c H locs cells slots Q (F0 m pc ls (.int (nI N) :: rest)) := by
  refine va_newq hx hb hown hcl hov hK.1 hP hD hS hA (nI_pos (by omega)) (nI_clamp (by omega)) (by omega) hcells hslots hd (fun q cA H1 hK1 hP1 hD1 hS1 => ?_)
  have e1 : cA = cy 4 := va_tyU (hK1.2 (tyL cy).length (cA, .object "Nestedfare$Product") rfl).2 (hK.1.2 4 (cy 4, .object "Nestedfare$Product") rfl).2
  subst e1
  exact kk q H1 hP1 hD1 hS1
end NEW
set_option maxHeartbeats 4000000 in
set_option maxRecDepth 100000 in
theorem c_X0_init (l : Launch) (D : va_G) (cy : Nat → ClassId) (a f t n pr : Nat) : cMV l D cy yX0_init wsX0_init rmX0_init [.ref a, .int (nI f), .int (nI t), .int (nI n), .int (nI pr)] ([(a, .inr (0, [.int (nI 0), .int (nI 0), .int (nI 0), .int (nI 0), .int (nI 0)]))]) (T := Unit) (fun _ => [(a, .inr (0, [.int (nI f), .int (nI t), .int (nI n), .int (nI pr), .int (nI 0)]))]) (fun _ => True) 0 0 := by
  refine cMV.of (cc := cX0_init) (maxL := 5) (by decide) rfl (Nat.le_of_ble_eq_true rfl) ?_
  intro p e s m args below meth c H0 A Q hx hb hml hown hts hP hK hD hS hA hin0 hret ls hl
  obtain ⟨H, locs, hH, hlo⟩ : ∃ (H : Heap) (locs : List Loc), H = H0 ∧ locs = [] := ⟨_, _, rfl, rfl⟩
  rw [← hH] at hP
  rw [show va_S A H0 H0 [] = va_S A H0 H locs by rw [hH, hlo]] at hS
  rw [show W p l e rmX0_init s m args below meth c H0 [] 0 0 Q (F0 m 0 ls []) = W p l e rmX0_init s m args below meth c H locs 0 0 Q (F0 m 0 ls []) by rw [hH, hlo]]
  refine lv_aload_n hx hb dX0_init_0 rfl (lv_at hl 0 rfl) ?_
  refine W.objInit hx hb hown (hts _ (List.mem_of_getElem? (i := 1) rfl)) (hts _ (List.mem_of_getElem? (i := 2) rfl)) (hts _ (List.mem_of_getElem? (i := 3) rfl)) rfl (by rw [hml]; exact hl.1) rfl dX0_init_1 (Nat.le_of_ble_eq_true rfl) (Nat.le_of_ble_eq_true rfl) ?_
  refine W.eq (g2 := F0 m 4 ls []) rfl ?_
  refine lv_aload_n hx hb dX0_init_4 rfl (lv_at hl 0 rfl) ?_
  refine lv_iconst (v := nI 0) hx hb dX0_init_5 (by decide) ?_
  refine pf0 hx hb hts fX0_init_0 hown hK.1 hP hD hS 0 4 rfl (by decide) kX0_init_6 rfl rfl (ty := .boolean) (by decide) (by decide) rfl (Nat.le_of_ble_eq_true rfl) dX0_init_6 (fun H locs hP hD hS => ?_)
  refine lv_aload_n hx hb dX0_init_9 rfl (lv_at hl 0 rfl) ?_
  refine lv_iload_n hx hb dX0_init_10 rfl (lv_at hl 1 rfl) ?_
  have hP : va_P D vwCl ([(a, .inr (0, [.int (nI 0), .int (nI 0), .int (nI 0), .int (nI 0), .int (nI 0)]))]) H := hP
  have hD : va_D A ([(a, .inr (0, [.int (nI 0), .int (nI 0), .int (nI 0), .int (nI 0), .int (nI 0)]))]) := hD
  refine pF0 hx hb hts fX0_init_0 hown hK.1 hP hD hS 0 0 rfl (by decide) kX0_init_11 rfl rfl hin0 (ty := .int) (by decide) rfl rfl (Nat.le_of_ble_eq_true rfl) dX0_init_11 (fun H locs hP hD hS => ?_)
  refine lv_aload_n hx hb dX0_init_14 rfl (lv_at hl 0 rfl) ?_
  refine lv_iload_n hx hb dX0_init_15 rfl (lv_at hl 2 rfl) ?_
  have hP : va_P D vwCl ([(a, .inr (0, [.int (nI f), .int (nI 0), .int (nI 0), .int (nI 0), .int (nI 0)]))]) H := hP
  have hD : va_D A ([(a, .inr (0, [.int (nI f), .int (nI 0), .int (nI 0), .int (nI 0), .int (nI 0)]))]) := hD
  refine pF0 hx hb hts fX0_init_0 hown hK.1 hP hD hS 0 1 rfl (by decide) kX0_init_16 rfl rfl hin0 (ty := .int) (by decide) rfl rfl (Nat.le_of_ble_eq_true rfl) dX0_init_16 (fun H locs hP hD hS => ?_)
  refine lv_aload_n hx hb dX0_init_19 rfl (lv_at hl 0 rfl) ?_
  refine lv_iload_n hx hb dX0_init_20 rfl (lv_at hl 3 rfl) ?_
  have hP : va_P D vwCl ([(a, .inr (0, [.int (nI f), .int (nI t), .int (nI 0), .int (nI 0), .int (nI 0)]))]) H := hP
  have hD : va_D A ([(a, .inr (0, [.int (nI f), .int (nI t), .int (nI 0), .int (nI 0), .int (nI 0)]))]) := hD
  refine pF0 hx hb hts fX0_init_0 hown hK.1 hP hD hS 0 2 rfl (by decide) kX0_init_21 rfl rfl hin0 (ty := .int) (by decide) rfl rfl (Nat.le_of_ble_eq_true rfl) dX0_init_21 (fun H locs hP hD hS => ?_)
  refine lv_aload_n hx hb dX0_init_24 rfl (lv_at hl 0 rfl) ?_
  refine lv_iload hx hb dX0_init_25 (lv_at hl 4 rfl) ?_
  have hP : va_P D vwCl ([(a, .inr (0, [.int (nI f), .int (nI t), .int (nI n), .int (nI 0), .int (nI 0)]))]) H := hP
  have hD : va_D A ([(a, .inr (0, [.int (nI f), .int (nI t), .int (nI n), .int (nI 0), .int (nI 0)]))]) := hD
  refine pF0 hx hb hts fX0_init_0 hown hK.1 hP hD hS 0 3 rfl (by decide) kX0_init_27 rfl rfl hin0 (ty := .int) (by decide) rfl rfl (Nat.le_of_ble_eq_true rfl) dX0_init_27 (fun H locs hP hD hS => ?_)
  have hP : va_P D vwCl ([(a, .inr (0, [.int (nI f), .int (nI t), .int (nI n), .int (nI pr), .int (nI 0)]))]) H := hP
  have hD : va_D A ([(a, .inr (0, [.int (nI f), .int (nI t), .int (nI n), .int (nI pr), .int (nI 0)]))]) := hD
  exact hret () dX0_init_30 hP hD hS trivial
set_option maxHeartbeats 4000000 in
set_option maxRecDepth 100000 in
theorem c_X2_init (l : Launch) (D : va_G) (cy : Nat → ClassId) (a f t fa d : Nat) : cMV l D cy yX2_init wsX2_init rmX2_init [.ref a, .int (nI f), .int (nI t), .int (nI fa), .int (nI d)] ([(a, .inr (2, [.int (nI 0), .int (nI 0), .int (nI 0), .null, .int (nI 0), .int (nI 0), .int (nI 0)]))]) (T := Nat) (fun tb => [(a, .inr (2, [.int (nI f), .int (nI t), .int (nI fa), .ref tb, .int (nI 0), .int (nI 0), .int (nI 0)])), (tb, .inl (cy 0, 21, .inl (fun j => nI ((va_up (fun _ => 0) 0 d) j))))]) (fun _ => True) 1 21 := by
  refine cMV.of (cc := cX2_init) (maxL := 5) (by decide) rfl (Nat.le_of_ble_eq_true rfl) ?_
  intro p e s m args below meth c H0 A Q hx hb hml hown hts hP hK hD hS hA hin0 hret ls hl
  obtain ⟨H, locs, hH, hlo⟩ : ∃ (H : Heap) (locs : List Loc), H = H0 ∧ locs = [] := ⟨_, _, rfl, rfl⟩
  rw [← hH] at hP
  rw [show va_S A H0 H0 [] = va_S A H0 H locs by rw [hH, hlo]] at hS
  rw [show W p l e rmX2_init s m args below meth c H0 [] 0 0 Q (F0 m 0 ls []) = W p l e rmX2_init s m args below meth c H locs 0 0 Q (F0 m 0 ls []) by rw [hH, hlo]]
  refine lv_aload_n hx hb dX2_init_0 rfl (lv_at hl 0 rfl) ?_
  refine W.objInit hx hb hown (hts _ (List.mem_of_getElem? (i := 1) rfl)) (hts _ (List.mem_of_getElem? (i := 2) rfl)) (hts _ (List.mem_of_getElem? (i := 3) rfl)) rfl (by rw [hml]; exact hl.1) rfl dX2_init_1 (Nat.le_of_ble_eq_true rfl) (Nat.le_of_ble_eq_true rfl) ?_
  refine W.eq (g2 := F0 m 4 ls []) rfl ?_
  refine lv_aload_n hx hb dX2_init_4 rfl (lv_at hl 0 rfl) ?_
  refine lv_bipush (v := nI 21) hx hb dX2_init_5 (by decide) ?_
  refine ln_newI hx hb (hts _ (List.mem_of_getElem? (i := 4) rfl)) hK hP hD hS hA (by decide) (Nat.le_of_ble_eq_true rfl) (Nat.le_of_ble_eq_true rfl) dX2_init_7 (fun q7 H hP hD hS => ?_)
  have hP : va_P D vwCl ([(a, .inr (2, [.int (nI 0), .int (nI 0), .int (nI 0), .null, .int (nI 0), .int (nI 0), .int (nI 0)])), (q7, .inl (cy 0, 21, .inl (fun j => nI ((fun _ => 0) j))))]) H := hP
  have hD : va_D A ([(a, .inr (2, [.int (nI 0), .int (nI 0), .int (nI 0), .null, .int (nI 0), .int (nI 0), .int (nI 0)])), (q7, .inl (cy 0, 21, .inl (fun j => nI ((fun _ => 0) j))))]) := hD
  refine pF2 hx hb hts fX2_init_2 hown hK.1 hP hD hS 0 3 rfl (by decide) kX2_init_9 rfl rfl hin0 (ty := .array .int) (by decide) rfl rfl (Nat.le_of_ble_eq_true rfl) dX2_init_9 (fun H locs hP hD hS => ?_)
  refine lv_aload_n hx hb dX2_init_12 rfl (lv_at hl 0 rfl) ?_
  refine lv_iconst (v := nI 0) hx hb dX2_init_13 (by decide) ?_
  have hP : va_P D vwCl ([(a, .inr (2, [.int (nI 0), .int (nI 0), .int (nI 0), .ref q7, .int (nI 0), .int (nI 0), .int (nI 0)])), (q7, .inl (cy 0, 21, .inl (fun j => nI ((fun _ => 0) j))))]) H := hP
  have hD : va_D A ([(a, .inr (2, [.int (nI 0), .int (nI 0), .int (nI 0), .ref q7, .int (nI 0), .int (nI 0), .int (nI 0)])), (q7, .inl (cy 0, 21, .inl (fun j => nI ((fun _ => 0) j))))]) := hD
  refine pf2 hx hb hts fX2_init_2 hown hK.1 hP hD hS 0 4 rfl (by decide) kX2_init_14 rfl rfl (ty := .int) (by decide) rfl rfl (Nat.le_of_ble_eq_true rfl) dX2_init_14 (fun H locs hP hD hS => ?_)
  refine lv_aload_n hx hb dX2_init_17 rfl (lv_at hl 0 rfl) ?_
  refine lv_iconst (v := nI 0) hx hb dX2_init_18 (by decide) ?_
  have hP : va_P D vwCl ([(a, .inr (2, [.int (nI 0), .int (nI 0), .int (nI 0), .ref q7, .int (nI 0), .int (nI 0), .int (nI 0)])), (q7, .inl (cy 0, 21, .inl (fun j => nI ((fun _ => 0) j))))]) H := hP
  have hD : va_D A ([(a, .inr (2, [.int (nI 0), .int (nI 0), .int (nI 0), .ref q7, .int (nI 0), .int (nI 0), .int (nI 0)])), (q7, .inl (cy 0, 21, .inl (fun j => nI ((fun _ => 0) j))))]) := hD
  refine pf2 hx hb hts fX2_init_2 hown hK.1 hP hD hS 0 5 rfl (by decide) kX2_init_19 rfl rfl (ty := .int) (by decide) rfl rfl (Nat.le_of_ble_eq_true rfl) dX2_init_19 (fun H locs hP hD hS => ?_)
  refine lv_aload_n hx hb dX2_init_22 rfl (lv_at hl 0 rfl) ?_
  refine lv_iconst (v := nI 0) hx hb dX2_init_23 (by decide) ?_
  have hP : va_P D vwCl ([(a, .inr (2, [.int (nI 0), .int (nI 0), .int (nI 0), .ref q7, .int (nI 0), .int (nI 0), .int (nI 0)])), (q7, .inl (cy 0, 21, .inl (fun j => nI ((fun _ => 0) j))))]) H := hP
  have hD : va_D A ([(a, .inr (2, [.int (nI 0), .int (nI 0), .int (nI 0), .ref q7, .int (nI 0), .int (nI 0), .int (nI 0)])), (q7, .inl (cy 0, 21, .inl (fun j => nI ((fun _ => 0) j))))]) := hD
  refine pf2 hx hb hts fX2_init_2 hown hK.1 hP hD hS 0 6 rfl (by decide) kX2_init_24 rfl rfl (ty := .int) (by decide) rfl rfl (Nat.le_of_ble_eq_true rfl) dX2_init_24 (fun H locs hP hD hS => ?_)
  refine lv_aload_n hx hb dX2_init_27 rfl (lv_at hl 0 rfl) ?_
  refine lv_iload_n hx hb dX2_init_28 rfl (lv_at hl 1 rfl) ?_
  have hP : va_P D vwCl ([(a, .inr (2, [.int (nI 0), .int (nI 0), .int (nI 0), .ref q7, .int (nI 0), .int (nI 0), .int (nI 0)])), (q7, .inl (cy 0, 21, .inl (fun j => nI ((fun _ => 0) j))))]) H := hP
  have hD : va_D A ([(a, .inr (2, [.int (nI 0), .int (nI 0), .int (nI 0), .ref q7, .int (nI 0), .int (nI 0), .int (nI 0)])), (q7, .inl (cy 0, 21, .inl (fun j => nI ((fun _ => 0) j))))]) := hD
  refine pF2 hx hb hts fX2_init_2 hown hK.1 hP hD hS 0 0 rfl (by decide) kX2_init_29 rfl rfl hin0 (ty := .int) (by decide) rfl rfl (Nat.le_of_ble_eq_true rfl) dX2_init_29 (fun H locs hP hD hS => ?_)
  refine lv_aload_n hx hb dX2_init_32 rfl (lv_at hl 0 rfl) ?_
  refine lv_iload_n hx hb dX2_init_33 rfl (lv_at hl 2 rfl) ?_
  have hP : va_P D vwCl ([(a, .inr (2, [.int (nI f), .int (nI 0), .int (nI 0), .ref q7, .int (nI 0), .int (nI 0), .int (nI 0)])), (q7, .inl (cy 0, 21, .inl (fun j => nI ((fun _ => 0) j))))]) H := hP
  have hD : va_D A ([(a, .inr (2, [.int (nI f), .int (nI 0), .int (nI 0), .ref q7, .int (nI 0), .int (nI 0), .int (nI 0)])), (q7, .inl (cy 0, 21, .inl (fun j => nI ((fun _ => 0) j))))]) := hD
  refine pF2 hx hb hts fX2_init_2 hown hK.1 hP hD hS 0 1 rfl (by decide) kX2_init_34 rfl rfl hin0 (ty := .int) (by decide) rfl rfl (Nat.le_of_ble_eq_true rfl) dX2_init_34 (fun H locs hP hD hS => ?_)
  refine lv_aload_n hx hb dX2_init_37 rfl (lv_at hl 0 rfl) ?_
  refine lv_iload_n hx hb dX2_init_38 rfl (lv_at hl 3 rfl) ?_
  have hP : va_P D vwCl ([(a, .inr (2, [.int (nI f), .int (nI t), .int (nI 0), .ref q7, .int (nI 0), .int (nI 0), .int (nI 0)])), (q7, .inl (cy 0, 21, .inl (fun j => nI ((fun _ => 0) j))))]) H := hP
  have hD : va_D A ([(a, .inr (2, [.int (nI f), .int (nI t), .int (nI 0), .ref q7, .int (nI 0), .int (nI 0), .int (nI 0)])), (q7, .inl (cy 0, 21, .inl (fun j => nI ((fun _ => 0) j))))]) := hD
  refine pF2 hx hb hts fX2_init_2 hown hK.1 hP hD hS 0 2 rfl (by decide) kX2_init_39 rfl rfl hin0 (ty := .int) (by decide) rfl rfl (Nat.le_of_ble_eq_true rfl) dX2_init_39 (fun H locs hP hD hS => ?_)
  refine lv_aload_n hx hb dX2_init_42 rfl (lv_at hl 0 rfl) ?_
  refine gf2 (v := .ref q7) hx hb hts fX2_init_2 hown hK.1 hP 0 3 rfl (by decide) kX2_init_43 rfl rfl dX2_init_43 ?_
  refine lv_iconst (v := nI 0) hx hb dX2_init_46 (by decide) ?_
  refine lv_iload hx hb dX2_init_47 (lv_at hl 4 rfl) ?_
  have hP : va_P D vwCl ([(a, .inr (2, [.int (nI f), .int (nI t), .int (nI fa), .ref q7, .int (nI 0), .int (nI 0), .int (nI 0)])), (q7, .inl (cy 0, 21, .inl (fun j => nI ((fun _ => 0) j))))]) H := hP
  have hD : va_D A ([(a, .inr (2, [.int (nI f), .int (nI t), .int (nI fa), .ref q7, .int (nI 0), .int (nI 0), .int (nI 0)])), (q7, .inl (cy 0, 21, .inl (fun j => nI ((fun _ => 0) j))))]) := hD
  refine ln_iast (g := (fun _ => 0)) hx hb hK.1 hP hD hS 1 0 rfl rfl (by omega) (by decide) dX2_init_49 (fun H locs hP hD hS => ?_)
  have hP : va_P D vwCl ([(a, .inr (2, [.int (nI f), .int (nI t), .int (nI fa), .ref q7, .int (nI 0), .int (nI 0), .int (nI 0)])), (q7, .inl (cy 0, 21, .inl (fun j => nI (va_up ((fun _ => 0)) 0 d j))))]) H := hP
  have hD : va_D A ([(a, .inr (2, [.int (nI f), .int (nI t), .int (nI fa), .ref q7, .int (nI 0), .int (nI 0), .int (nI 0)])), (q7, .inl (cy 0, 21, .inl (fun j => nI (va_up ((fun _ => 0)) 0 d j))))]) := hD
  exact hret q7 dX2_init_50 hP hD hS trivial
