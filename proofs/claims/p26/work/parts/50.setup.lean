theorem nx_nw {w : Cond} {A : Array Value} {U : State} (ho : nxOk w = true) (h : w.before A U = true) : va_Nw w U := by
  cases w <;> first | exact va_Nw.of rfl h | exact absurd ho Bool.false_ne_true | (rename_i ty; cases ty <;> first | exact va_AO.of h | exact absurd ho Bool.false_ne_true)
theorem nw_on {w : Cond} (h : nwOk w = true) : w.onTables = true := by
  cases w <;> first | rfl | exact absurd h Bool.false_ne_true
theorem ar_I {args : Array Value} {s : State} {ty : FieldType} (hty : ∀ C, ty ≠ .object C) (h : (Cond.arrayClass ty).before args s = true) : ∃ cA, ArrOfT s cA ty ∧ va_RA s cA ty := by
  obtain ⟨cA, kA, comp, h1, h2, h3⟩ := Cond.arrayClass_spec h
  exact ⟨cA, fun n z => ⟨fun k h => (by cases h), kA, h2, comp, h3⟩, by cases ty <;> first | exact h1 | exact absurd rfl (hty _)⟩
theorem ar_O {args : Array Value} {s : State} {C : String} (h : (Cond.arrayOver (.object C)).before args s = true) : ∃ cA, ArrOfT s cA (.object C) ∧ va_RA s cA (.object C) := by
  obtain ⟨comp, cA, kA, h1, h2, h3, h4, h5⟩ := Cond.arrayOver_spec h
  exact ⟨cA, fun n z => ⟨fun k h => (by cases h), kA, h3, comp, h4⟩, kA, comp, h3, h4, h1, h5⟩
set_option maxRecDepth 100000 in
theorem xs_t : ∀ q ∈ strL, Cond.stringRef RX5 q.1 q.2 ∈ tables_1 := by decide +kernel
set_option maxRecDepth 100000 in
theorem xs_e : ∀ q ∈ strL, Cond.exactly (.string RX5 q.1) "java/lang/String" ∈ flatC (Jvm.Cond.and given_1 narrow_1) := by decide +kernel
set_option maxRecDepth 100000 in
theorem xs_n : ∀ q ∈ ncL, Cond.not (.castable q.1 q.2) ∈ flatC (Jvm.Cond.and given_1 narrow_1) := by decide +kernel
set_option maxRecDepth 100000 in
theorem xs_r : ∀ q ∈ [("UNASSIGNED_STACK", Bundle.steD), ("SUPPRESSED_SENTINEL", Bundle.listD)], Cond.isRef (.static Bundle.tN q.1 q.2) ∈ flatC (Jvm.Cond.and given_1 narrow_1) ∧ Cond.laysStatic Bundle.tN q.1 q.2 ∈ tables_1 := by decide +kernel
theorem xs_i : Cond.initialized Bundle.tN ∈ tables_1 := by decide +kernel
theorem xs_a : Cond.arrayClass .int ∈ tables_1 := by decide +kernel
theorem xs_o : ∀ t ∈ ["Nestedfare$Booking", "Nestedfare$Product"], Cond.arrayOver (.object t) ∈ tables_1 := by decide +kernel
set_option maxRecDepth 100000 in
theorem xs_c : ∀ q ∈ vwCl, (∀ w ∈ u_ws q.1 q.2.1 q.2.2, w ∈ tables_1) ∧ Cond.instantiable q.1 q.2.2 ∈ tables_1 := by decide +kernel
/-- what the law has at its entry -/
theorem law_setup {s : State} {args : Array Value} (hts : ∀ w ∈ lw_tbl, w.before args s = true) (hgv : (Jvm.Cond.and given_1 narrow_1).before args s = true) : ∃ (D : va_G) (cy : Nat → ClassId), KW D cy s ∧ XW s ∧ XZ (fun q => s.heap.size ≤ q) s s.heap ∧ va_AO "Nestedfare$Booking" s ∧ va_AO "Nestedfare$Product" s := by
  have ht : ∀ w ∈ tables_1, w.before args s = true := fun w h => hts w (List.mem_append_right _ h)
  have hg : ∀ w ∈ flatC (Jvm.Cond.and given_1 narrow_1), w.before args s = true := flat_of_before _ hgv
  have hc : ∀ q ∈ vwCl, ∃ (cC : ClassId) (iS : Nat → Nat), u_Kn s q.1 q.2.1 q.2.2 cC iS := fun q hq => u_known (ws := lw_tbl) hts (fun w h => List.mem_append_right _ ((xs_c q hq).1 w h)) (ht _ (xs_c q hq).2)
  obtain ⟨c0, i0, k0⟩ := hc (RX0, TX0, 5) (List.mem_of_getElem? (i := 0) rfl)
  obtain ⟨c1, i1, k1⟩ := hc (RX1, TX1, 6) (List.mem_of_getElem? (i := 1) rfl)
  obtain ⟨c2, i2, k2⟩ := hc (RX2, TX2, 7) (List.mem_of_getElem? (i := 2) rfl)
  obtain ⟨c3, i3, k3⟩ := hc (RX3, TX3, 2) (List.mem_of_getElem? (i := 3) rfl)
  obtain ⟨c4, i4, k4⟩ := hc (RX4, TX4, 1) (List.mem_of_getElem? (i := 4) rfl)
  obtain ⟨c5, i5, k5⟩ := hc (RX5, TX5, 14) (List.mem_of_getElem? (i := 5) rfl)
  obtain ⟨yI, aI⟩ := ar_I (s := s) (ty := .int) (fun C q => by cases q) (ht _ xs_a)
  obtain ⟨yB, aB⟩ := ar_O (s := s) (C := "Nestedfare$Booking") (ht _ (xs_o _ (by decide)))
  obtain ⟨yP, aP⟩ := ar_O (s := s) (C := "Nestedfare$Product") (ht _ (xs_o _ (by decide)))
  refine ⟨(fun c => match c with | 0 => c0 | 1 => c1 | 2 => c2 | 3 => c3 | 4 => c4 | _ => c5, fun c => match c with | 0 => i0 | 1 => i1 | 2 => i2 | 3 => i3 | 4 => i4 | _ => i5), (fun k => match k with | 3 => yB | 4 => yP | _ => yI), ⟨⟨fun c q hq => ?_, fun k q hq => ?_⟩, fun w hw ho => va_Nw.of (nw_on ho) (ht w hw)⟩, ⟨fun w hw ho => nx_nw ho (ht w hw), fun q hq => va_Nc.of (hg _ (xs_n q hq)), fun q hq => ?_⟩, ⟨vx_Zqof (ht _ (xs_r ("UNASSIGNED_STACK", Bundle.steD) (by decide)).2) (ht _ xs_i) (hg _ (xs_r ("UNASSIGNED_STACK", Bundle.steD) (by decide)).1) (fun a h => Nat.not_le.mpr h), vx_Zqof (ht _ (xs_r ("SUPPRESSED_SENTINEL", Bundle.listD) (by decide)).2) (ht _ xs_i) (hg _ (xs_r ("SUPPRESSED_SENTINEL", Bundle.listD) (by decide)).1) (fun a h => Nat.not_le.mpr h)⟩, ?_, ?_⟩
  · match c, hq with
    | 0, hq => cases hq; exact k0
    | 1, hq => cases hq; exact k1
    | 2, hq => cases hq; exact k2
    | 3, hq => cases hq; exact k3
    | 4, hq => cases hq; exact k4
    | 5, hq => cases hq; exact k5
    | c + 6, hq => cases hq
  · match k, hq with
    | 0, hq => cases hq; exact aI
    | 1, hq => cases hq; exact aI
    | 2, hq => cases hq; exact aI
    | 3, hq => cases hq; exact aB
    | 4, hq => cases hq; exact aP
    | 5, hq => cases hq; exact aI
    | k + 6, hq => cases hq
  · obtain ⟨a, c, cell, k, h1, -⟩ := Cond.exactly_spec (hg _ (xs_e q hq))
    exact ⟨a, vk_R.of (ht _ (xs_t q hq)) h1⟩
  · exact va_AO.of (ht _ (xs_o _ (by decide)))
  · exact va_AO.of (ht _ (xs_o _ (by decide)))
theorem no_traces {l : Launch} (h : l.flags = flags0) : l.stackTraces = false := by
  unfold Launch.stackTraces
  rw [h]
  decide +kernel
