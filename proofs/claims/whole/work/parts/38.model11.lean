/-- a method that writes and answers a float -/
def cMF (l : Launch) (D : va_G) (cy : Nat → ClassId) (y : MethodName) (ws : List Cond) (rm : Room) (av : List Value) (w : va_W) {T : Type} (w1 : T → va_W) (post : UInt32 → T → Prop) (mc ms : Nat) : Prop :=
  ∀ sz : Nat, Met l y ws rm (va_Pc av (fun U => U.heap.size = sz ∧ va_P D vwCl w U.heap ∧ KW D cy U ∧ va_D (fun _ => True) w)) (va_Qf post (fun u t => va_P D vwCl (w1 u) t.heap ∧ va_D (va_A w sz) (w1 u)) (va_A w sz)) mc ms (va_A w sz)
theorem cMF.of {l : Launch} {D : va_G} {cy : Nat → ClassId} {y : MethodName} {ws ws' : List Cond} {rm : Room} {av : List Value} {w : va_W} {T : Type} {w1 : T → va_W} {post : UInt32 → T → Prop} {mc ms : Nat} {cc : ByteArray} {maxL : Nat} (hy : plainName y.cls = true) (hw : ws = Cond.code y cc maxL (some .float) :: ws') (hlen : (lg_sl av).length ≤ maxL)
    (body : ∀ (p : Program) (e : Env) (s : State) (m : MethodId) (args : Array Value) (below : List Frame) (meth : Method) (c : Code) (H0 : Heap) (A : Nat → Prop) (Q : State → Prop), p.tables.exec = Jvm.exec → c.code = cc → c.maxLocals = maxL → s.vm.findClass y.cls = some m.cls → (∀ w ∈ ws, w.before args s = true) → va_P D vwCl w H0 → KW D cy s → va_D A w → va_S A H0 H0 [] → (∀ q : Nat, H0.size ≤ q → A q) →
      (∀ {pc : Nat} {ls : Array Slot} {v : UInt32} {H : Heap} {locs : List Loc} (u : T), decode cc pc = .ok (.freturn, 1) → va_P D vwCl (w1 u) H → va_D A (w1 u) → va_S A H0 H locs → post v u → W p l e rm s m args below meth c H locs mc ms Q (F0 m pc ls [.float v])) →
      ∀ ls : Array Slot, lv_has ls maxL (lv_args 0 av) → W p l e rm s m args below meth c H0 [] 0 0 Q (F0 m 0 ls [])) : cMF l D cy y ws rm av w w1 post mc ms := by
  intro sz
  refine Met.ofW (cc := cc) (maxL := maxL) (ret := some .float) hy hw ?_
  intro p e s m args below meth c s₁ B hml hv
  obtain ⟨rfl, hsz, hP, hK, hD0⟩ := hv
  subst hsz
  have hD := hD0.self (sz := s.heap.size)
  have hl := lv_entry av hlen
  rw [lg_entry_eq]
  refine body p e s m _ below meth c s.heap (va_A w s.heap.size) _ B.exec B.bytes hml (findClass_of_methodNamed B.named) (atoms_spec (ws := ws) B.pre) hP hK hD va_S.rf (fun q h => Or.inr h) ?_ _ hl
  intro pc ls v H locs u hd hP1 hD1 hS hp
  exact W.fret B.exec B.bytes B.returns (fun t ht hW => ⟨⟨v, u, rfl, hp, by rw [ht]; exact hP1, hD1⟩, hS.F ht⟩) hS.2.2 hd B.notSynchronized
/-- a method that writes and answers a long -/
def cML (l : Launch) (D : va_G) (cy : Nat → ClassId) (y : MethodName) (ws : List Cond) (rm : Room) (av : List Value) (w : va_W) {T : Type} (w1 : T → va_W) (post : Int64 → T → Prop) (mc ms : Nat) : Prop :=
  ∀ sz : Nat, Met l y ws rm (va_Pc av (fun U => U.heap.size = sz ∧ va_P D vwCl w U.heap ∧ KW D cy U ∧ va_D (fun _ => True) w)) (va_Ql post (fun u t => va_P D vwCl (w1 u) t.heap ∧ va_D (va_A w sz) (w1 u)) (va_A w sz)) mc ms (va_A w sz)
theorem cML.of {l : Launch} {D : va_G} {cy : Nat → ClassId} {y : MethodName} {ws ws' : List Cond} {rm : Room} {av : List Value} {w : va_W} {T : Type} {w1 : T → va_W} {post : Int64 → T → Prop} {mc ms : Nat} {cc : ByteArray} {maxL : Nat} (hy : plainName y.cls = true) (hw : ws = Cond.code y cc maxL (some .long) :: ws') (hlen : (lg_sl av).length ≤ maxL)
    (body : ∀ (p : Program) (e : Env) (s : State) (m : MethodId) (args : Array Value) (below : List Frame) (meth : Method) (c : Code) (H0 : Heap) (A : Nat → Prop) (Q : State → Prop), p.tables.exec = Jvm.exec → c.code = cc → c.maxLocals = maxL → s.vm.findClass y.cls = some m.cls → (∀ w ∈ ws, w.before args s = true) → va_P D vwCl w H0 → KW D cy s → va_D A w → va_S A H0 H0 [] → (∀ q : Nat, H0.size ≤ q → A q) →
      (∀ {pc : Nat} {ls : Array Slot} {v : Int64} {H : Heap} {locs : List Loc} (u : T), decode cc pc = .ok (.lreturn, 1) → va_P D vwCl (w1 u) H → va_D A (w1 u) → va_S A H0 H locs → post v u → W p l e rm s m args below meth c H locs mc ms Q (F0 m pc ls [.long v])) →
      ∀ ls : Array Slot, lv_has ls maxL (lv_args 0 av) → W p l e rm s m args below meth c H0 [] 0 0 Q (F0 m 0 ls [])) : cML l D cy y ws rm av w w1 post mc ms := by
  intro sz
  refine Met.ofW (cc := cc) (maxL := maxL) (ret := some .long) hy hw ?_
  intro p e s m args below meth c s₁ B hml hv
  obtain ⟨rfl, hsz, hP, hK, hD0⟩ := hv
  subst hsz
  have hD := hD0.self (sz := s.heap.size)
  have hl := lv_entry av hlen
  rw [lg_entry_eq]
  refine body p e s m _ below meth c s.heap (va_A w s.heap.size) _ B.exec B.bytes hml (findClass_of_methodNamed B.named) (atoms_spec (ws := ws) B.pre) hP hK hD va_S.rf (fun q h => Or.inr h) ?_ _ hl
  intro pc ls v H locs u hd hP1 hD1 hS hp
  exact W.lret B.exec B.bytes B.returns (fun t ht hW => ⟨⟨v, u, rfl, hp, by rw [ht]; exact hP1, hD1⟩, hS.F ht⟩) hS.2.2 hd B.notSynchronized
theorem l2f_N {n : Nat} (h : n < 2 ^ 31) : FP.l2f (lN n) = FP.i2f (nI n) := by rw [← nI_l h]; exact (FP.Core.i2f_l2f (nI n)).symm
set_option maxHeartbeats 4000000 in
set_option maxRecDepth 100000 in
theorem c_X6_average (l : Launch) (D : va_G) (cy : Nat → ClassId) (ad : Nat → Nat) (σ : SF) (er : Int64) (wo : Nat → Nat) (th : Nat) {n : Nat} (hI : Iv n σ) (v : Int32) : cMF l D cy yX6_average wsX6_average rmX6_average [.ref (ad 0), .int v] (WM ad cy σ er wo th) (T := Nat) (fun u => WM ad cy σ er wo u) (fun r u => (isP σ v ∧ u = 0 ∧ r = avg σ (cN v)) ∨ (¬ isP σ v ∧ u = 1)) 0 0 := by
  refine cMF.of (cc := cX6_average) (maxL := 2) (by decide) rfl (Nat.le_of_ble_eq_true rfl) ?_
  intro p e s m args below meth c H0 A Q hx hb hml hown hts hP hK hD hS hA hret ls hl
  obtain ⟨H, locs, hH, hlo⟩ : ∃ (H : Heap) (locs : List Loc), H = H0 ∧ locs = [] := ⟨_, _, rfl, rfl⟩
  rw [← hH] at hP
  rw [show va_S A H0 H0 [] = va_S A H0 H locs by rw [hH, hlo]] at hS
  rw [show W p l e rmX6_average s m args below meth c H0 [] 0 0 Q (F0 m 0 ls []) = W p l e rmX6_average s m args below meth c H locs 0 0 Q (F0 m 0 ls []) by rw [hH, hlo]]
  refine lv_aload_n hx hb dX6_average_0 rfl (lv_at hl 0 rfl) ?_
  refine lv_aload_n hx hb dX6_average_1 rfl (lv_at hl 0 rfl) ?_
  refine lv_iload_n hx hb dX6_average_2 rfl (lv_at hl 1 rfl) ?_
  refine ro_calliB (va_runV (As := [.int v]) (rest := [.ref (ad 0)]) ⟨hx, hb, hml, hown, hts⟩ (c_X6_isProduct l D cy ad σ er wo th v hI.np H hP) (cwV 1 hts gX6_average_X6_isProduct rfl rfl rfl hdX6_isProduct ⟨Nat.le_of_ble_eq_true rfl, Nat.le_of_ble_eq_true rfl⟩) (ro_preV hK (va_recv hK.1 hP (ci := 6) (q0 := 0) rfl rfl)) rfl rfl hl.1 rfl (lv_room (Nat.le_of_ble_eq_true rfl)) dX6_average_3 ⟨Nat.le_of_ble_eq_true rfl, Nat.le_of_ble_eq_true rfl⟩) (fun b3 => ?_) (fun b3 => ?_)
  · skip
    refine lv_if_eq (tgt := 13) hx hb dX6_average_6 (by decide) (fun q => by first | exact absurd q (by decide) | exact absurd (by decide) q) (fun _ => ?_)
    refine lv_iconst (v := nI 0) hx hb dX6_average_9 (by decide) ?_
    refine lv_goto (tgt := 14) hx hb dX6_average_10 (by decide) ?_
    refine mw_calli (va_runV (As := [.int (nI 0)]) (rest := []) ⟨hx, hb, hml, hown, hts⟩ (c_X6_fails l D cy ad σ er wo th 0 (by omega) H.size) (cwV 1 hts gX6_average_X6_fails rfl rfl rfl hdX6_fails ⟨Nat.le_of_ble_eq_true rfl, Nat.le_of_ble_eq_true rfl⟩) (mo_preV hK rfl hP hD (va_recv hK.1 hP (ci := 6) (q0 := 0) rfl rfl)) rfl rfl hl.1 rfl (lv_room (Nat.le_of_ble_eq_true rfl)) dX6_average_14 ⟨Nat.le_of_ble_eq_true rfl, Nat.le_of_ble_eq_true rfl⟩) hS hD hA (fun r _ H locs hr hP hD hS => ?_)
    rcases hr with ⟨b14, rfl⟩ | ⟨b14, rfl⟩
    · skip
      exact absurd b14 (by decide)
    · skip
      obtain ⟨k, hk, rfl⟩ := b3
      have hnp := hI.np
      have hdy := hI.dy
      have hnn := hI.nn
      have hpA := hI.pA k
      refine lv_if_ne (tgt := 27) hx hb dX6_average_17 (by decide) (fun q => by first | exact absurd q (by decide) | exact absurd (by decide) q) (fun _ => ?_)
      refine lv_aload_n hx hb dX6_average_20 rfl (lv_at hl 0 rfl) ?_
      refine mg (v := .int (nI (σ 0 1))) hx hb hts fX6_average_6 hown hK hP 10 (by decide) kX6_average_21 rfl rfl dX6_average_21 ?_
      refine ln_if_ne (tgt := 31) hx hb (by omega) dX6_average_24 (by decide) (fun c24 => ?_) (fun c24 => ?_)
      · skip
        refine lv_aload_n hx hb dX6_average_31 rfl (lv_at hl 0 rfl) ?_
        refine mg (v := .ref (ad 8)) hx hb hts fX6_average_6 hown hK hP 8 (by decide) kX6_average_32 rfl rfl dX6_average_32 ?_
        refine lv_iload_n hx hb dX6_average_35 rfl (lv_at hl 1 rfl) ?_
        refine ml8 (v := σ 8 k) hx hb hK hP (by omega) rfl dX6_average_36 ?_
        refine lv_l2f hx hb dX6_average_37 ?_
        refine lv_aload_n hx hb dX6_average_38 rfl (lv_at hl 0 rfl) ?_
        refine mg (v := .int (nI (σ 0 1))) hx hb hts fX6_average_6 hown hK hP 10 (by decide) kX6_average_39 rfl rfl dX6_average_39 ?_
        refine lv_i2f hx hb dX6_average_42 ?_
        refine lv_fdiv hx hb dX6_average_43 (vf_of32 (by rw [l2f_N (by omega)]; exact avg_nn (by omega) (by omega))) ?_
        exact hret 0 dX6_average_44 hP hD hS (Or.inl ⟨⟨k, hk, rfl⟩, rfl, by unfold avg; rw [if_neg (by omega), cN_nI (by omega), l2f_N (by omega)]⟩)
      · skip
        refine lv_fconst0 hx hb dX6_average_27 ?_
        refine lv_goto (tgt := 44) hx hb dX6_average_28 (by decide) ?_
        exact hret 0 dX6_average_44 hP hD hS (Or.inl ⟨⟨k, hk, rfl⟩, rfl, by unfold avg; rw [if_pos (by omega)]⟩)
  · skip
    refine lv_if_eq (tgt := 13) hx hb dX6_average_6 (by decide) (fun _ => ?_) (fun q => by first | exact absurd q (by decide) | exact absurd (by decide) q)
    refine lv_iconst (v := nI 1) hx hb dX6_average_13 (by decide) ?_
    refine mw_calli (va_runV (As := [.int (nI 1)]) (rest := []) ⟨hx, hb, hml, hown, hts⟩ (c_X6_fails l D cy ad σ er wo th 1 (by omega) H.size) (cwV 1 hts gX6_average_X6_fails rfl rfl rfl hdX6_fails ⟨Nat.le_of_ble_eq_true rfl, Nat.le_of_ble_eq_true rfl⟩) (mo_preV hK rfl hP hD (va_recv hK.1 hP (ci := 6) (q0 := 0) rfl rfl)) rfl rfl hl.1 rfl (lv_room (Nat.le_of_ble_eq_true rfl)) dX6_average_14 ⟨Nat.le_of_ble_eq_true rfl, Nat.le_of_ble_eq_true rfl⟩) hS hD hA (fun r _ H locs hr hP hD hS => ?_)
    rcases hr with ⟨b14, rfl⟩ | ⟨b14, rfl⟩
    · skip
      refine lv_if_ne (tgt := 27) hx hb dX6_average_17 (by decide) (fun _ => ?_) (fun q => by first | exact absurd q (by decide) | exact absurd (by decide) q)
      refine lv_fconst0 hx hb dX6_average_27 ?_
      refine lv_goto (tgt := 44) hx hb dX6_average_28 (by decide) ?_
      exact hret 1 dX6_average_44 hP hD hS (Or.inr ⟨b3, rfl⟩)
    · skip
      exact absurd (by decide) b14
set_option maxHeartbeats 4000000 in
set_option maxRecDepth 100000 in
theorem c_X6_earned (l : Launch) (D : va_G) (cy : Nat → ClassId) (ad : Nat → Nat) (σ : SF) (er : Int64) (wo : Nat → Nat) (th : Nat) : cML l D cy yX6_earned wsX6_earned rmX6_earned [.ref (ad 0)] (WM ad cy σ er wo th) (T := Unit) (fun _ => WM ad cy σ er wo 0) (fun r _ => r = er) 0 0 := by
  refine cML.of (cc := cX6_earned) (maxL := 1) (by decide) rfl (Nat.le_of_ble_eq_true rfl) ?_
  intro p e s m args below meth c H0 A Q hx hb hml hown hts hP hK hD hS hA hret ls hl
  obtain ⟨H, locs, hH, hlo⟩ : ∃ (H : Heap) (locs : List Loc), H = H0 ∧ locs = [] := ⟨_, _, rfl, rfl⟩
  rw [← hH] at hP
  rw [show va_S A H0 H0 [] = va_S A H0 H locs by rw [hH, hlo]] at hS
  rw [show W p l e rmX6_earned s m args below meth c H0 [] 0 0 Q (F0 m 0 ls []) = W p l e rmX6_earned s m args below meth c H locs 0 0 Q (F0 m 0 ls []) by rw [hH, hlo]]
  refine lv_aload_n hx hb dX6_earned_0 rfl (lv_at hl 0 rfl) ?_
  refine lv_iconst (v := nI 0) hx hb dX6_earned_1 (by decide) ?_
  refine mp_thrown hx hb hts fX6_earned_6 hown hK hP hD hS kX6_earned_2 dX6_earned_2 (fun H locs hP hD hS => ?_)
  refine lv_aload_n hx hb dX6_earned_5 rfl (lv_at hl 0 rfl) ?_
  refine mg (v := .long er) hx hb hts fX6_earned_6 hown hK hP 19 (by decide) kX6_earned_6 rfl rfl dX6_earned_6 ?_
  have hP : va_P D vwCl (WM ad cy σ er wo 0) H := hP
  have hD : va_D A (WM ad cy σ er wo 0) := hD
  exact hret () dX6_earned_9 hP hD hS rfl
