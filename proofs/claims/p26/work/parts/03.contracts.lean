/-- the array classes, in one order -/
abbrev tyL (cy : Nat → ClassId) : List (ClassId × FieldType) := [(cy 0, .int), (cy 1, .int), (cy 2, .int), (cy 3, .object "Nestedfare$Booking"), (cy 4, .object "Nestedfare$Product"), (cy 5, .int)]
/-- the words of links among nest mates, of the tables -/
def nwOk : Cond → Bool
  | .fieldLinkNest .. => true
  | .methodLinkNest .. => true
  | _ => false
def NW (U : State) : Prop := ∀ w, w ∈ tables_1 → nwOk w = true → va_Nw w U
theorem NW.warm {s U : State} (hW : s.WarmedH U.vm) (h : NW s) : NW U := by
  intro w hw ho
  have h1 := h w hw ho
  cases w <;> first | exact va_Nw.warmF hW h1 | exact va_Nw.warmM hW h1 | exact absurd ho Bool.false_ne_true
theorem NW.same {u U : State} (hv : u.vm = U.vm) (h : NW u) : NW U := by
  intro w hw ho
  have h1 := h w hw ho
  cases w <;> first | exact va_Nw.same rfl hv h1 | exact absurd ho Bool.false_ne_true
/-- what holds of the tables wherever the run stands -/
def KW (D : va_G) (cy : Nat → ClassId) (U : State) : Prop := va_K D vwCl (tyL cy) U ∧ NW U
theorem KW.warm {D : va_G} {cy : Nat → ClassId} {s U : State} (hW : s.WarmedH U.vm) (h : KW D cy s) : KW D cy U := ⟨va_K.moved hW.alike h.1, NW.warm hW h.2⟩
theorem KW.calling {D : va_G} {cy : Nat → ClassId} {a : Array Value} {U : State} {g : JFrame} {mk : MethodId} (h : KW D cy U) : KW D cy (U.calling g mk a) := ⟨va_K.moved (u := U) (U := U.calling g mk a) (Vm.Alike.refl U.vm) h.1, NW.same (u := U) (U := U.calling g mk a) rfl h.2⟩
/-- a method that writes nothing and answers an int -/
def cRO (l : Launch) (D : va_G) (cy : Nat → ClassId) (y : MethodName) (ws : List Cond) (rm : Room) (av : List Value) (w : va_W) (post : Int32 → Prop) : Prop :=
  ∀ HH : Heap, va_P D vwCl w HH → Met l y ws rm (va_Pc av (fun U => U.heap = HH ∧ KW D cy U)) (va_Qi (fun r (_ : Unit) => post r) (fun _ t => t.heap = HH) (fun _ => False)) 0 0 (fun _ => False)
/-- a method that writes nothing and answers a reference or null -/
def cRQ (l : Launch) (D : va_G) (cy : Nat → ClassId) (y : MethodName) (ws : List Cond) (rm : Room) (av : List Value) (w : va_W) (post : Option Nat → Prop) : Prop :=
  ∀ HH : Heap, va_P D vwCl w HH → Met l y ws rm (va_Pc av (fun U => U.heap = HH ∧ KW D cy U)) (va_Qq (fun r (_ : Unit) => post r) (fun _ t => t.heap = HH) (fun _ => False)) 0 0 (fun _ => False)
/-- a method that writes nothing and answers a long -/
def cRL (l : Launch) (D : va_G) (cy : Nat → ClassId) (y : MethodName) (ws : List Cond) (rm : Room) (av : List Value) (w : va_W) (post : Int64 → Prop) : Prop :=
  ∀ HH : Heap, va_P D vwCl w HH → Met l y ws rm (va_Pc av (fun U => U.heap = HH ∧ KW D cy U)) (va_Ql (fun r (_ : Unit) => post r) (fun _ t => t.heap = HH) (fun _ => False)) 0 0 (fun _ => False)
/-- a method that writes (and may make mc cells of ms slots) and answers an int: u is what stands behind it -/
def cMI (l : Launch) (D : va_G) (cy : Nat → ClassId) (y : MethodName) (ws : List Cond) (rm : Room) (av : List Value) (w : va_W) {T : Type} (w1 : T → va_W) (post : Int32 → T → Prop) (mc ms : Nat) : Prop :=
  ∀ sz : Nat, Met l y ws rm (va_Pc av (fun U => U.heap.size = sz ∧ va_P D vwCl w U.heap ∧ KW D cy U ∧ va_D (fun _ => True) w)) (va_Qi post (fun u t => va_P D vwCl (w1 u) t.heap ∧ va_D (va_A w sz) (w1 u)) (va_A w sz)) mc ms (va_A w sz)
/-- a method that writes and answers nothing -/
def cMV (l : Launch) (D : va_G) (cy : Nat → ClassId) (y : MethodName) (ws : List Cond) (rm : Room) (av : List Value) (w : va_W) {T : Type} (w1 : T → va_W) (post : T → Prop) (mc ms : Nat) : Prop :=
  ∀ sz : Nat, Met l y ws rm (va_Pc av (fun U => U.heap.size = sz ∧ va_P D vwCl w U.heap ∧ KW D cy U ∧ va_D (fun _ => True) w)) (va_Qv post (fun u t => va_P D vwCl (w1 u) t.heap ∧ va_D (va_A w sz) (w1 u)) (va_A w sz)) mc ms (va_A w sz)
section CNT
variable {l : Launch} {D : va_G} {cy : Nat → ClassId} {y : MethodName} {ws ws' : List Cond} {rm : Room} {av : List Value} {w : va_W}
theorem cRO.of {post : Int32 → Prop} {cc : ByteArray} {maxL : Nat} {ret : FieldType} (hy : plainName y.cls = true) (hw : ws = Cond.code y cc maxL (some ret) :: ws') (hlen : (lg_sl av).length ≤ maxL) (hret : ret = .int ∨ (ret = .boolean ∧ ∀ v, post v → narrow .boolean (.int v) = .int v))
    (body : ∀ (p : Program) (e : Env) (s : State) (m : MethodId) (args : Array Value) (below : List Frame) (meth : Method) (c : Code) (H : Heap) (Q : State → Prop), p.tables.exec = Jvm.exec → c.code = cc → c.maxLocals = maxL → s.vm.findClass y.cls = some m.cls → (∀ w ∈ ws, w.before args s = true) → va_P D vwCl w H → KW D cy s →
      (∀ {pc : Nat} {ls : Array Slot} {v : Int32}, decode cc pc = .ok (.ireturn, 1) → post v → W p l e rm s m args below meth c H [] 0 0 Q (F0 m pc ls [.int v])) →
      ∀ ls : Array Slot, lv_has ls maxL (lv_args 0 av) → W p l e rm s m args below meth c H [] 0 0 Q (F0 m 0 ls [])) : cRO l D cy y ws rm av w post := by
  intro HH hP
  refine Met.ofW (cc := cc) (maxL := maxL) (ret := some ret) hy hw ?_
  intro p e s m args below meth c s₁ B hml hv
  obtain ⟨rfl, hH, hK⟩ := hv
  subst hH
  have hl := lv_entry av hlen
  rw [lg_entry_eq]
  refine body p e s m _ below meth c s.heap _ B.exec B.bytes hml (findClass_of_methodNamed B.named) (atoms_spec (ws := ws) B.pre) hP hK ?_ _ hl
  intro pc ls v hd hp
  have hr := B.returns
  have hlk := B.notSynchronized
  rcases hret with rfl | ⟨rfl, hz⟩
  · exact W.iret B.exec B.bytes hr (fun t ht hW => ⟨⟨v, (), rfl, hp, ht⟩, by rw [ht]; exact Nat.le_refl _, fun q _ _ => by rw [ht]⟩) (fun q hq => absurd hq List.not_mem_nil) hd hlk
  · exact W.zret B.exec B.bytes hr (hz v hp) (fun t ht hW => ⟨⟨v, (), rfl, hp, ht⟩, by rw [ht]; exact Nat.le_refl _, fun q _ _ => by rw [ht]⟩) (fun q hq => absurd hq List.not_mem_nil) hd hlk
theorem cRL.of {post : Int64 → Prop} {cc : ByteArray} {maxL : Nat} (hy : plainName y.cls = true) (hw : ws = Cond.code y cc maxL (some .long) :: ws') (hlen : (lg_sl av).length ≤ maxL)
    (body : ∀ (p : Program) (e : Env) (s : State) (m : MethodId) (args : Array Value) (below : List Frame) (meth : Method) (c : Code) (H : Heap) (Q : State → Prop), p.tables.exec = Jvm.exec → c.code = cc → c.maxLocals = maxL → s.vm.findClass y.cls = some m.cls → (∀ w ∈ ws, w.before args s = true) → va_P D vwCl w H → KW D cy s →
      (∀ {pc : Nat} {ls : Array Slot} {v : Int64}, decode cc pc = .ok (.lreturn, 1) → post v → W p l e rm s m args below meth c H [] 0 0 Q (F0 m pc ls [.long v])) →
      ∀ ls : Array Slot, lv_has ls maxL (lv_args 0 av) → W p l e rm s m args below meth c H [] 0 0 Q (F0 m 0 ls [])) : cRL l D cy y ws rm av w post := by
  intro HH hP
  refine Met.ofW (cc := cc) (maxL := maxL) (ret := some .long) hy hw ?_
  intro p e s m args below meth c s₁ B hml hv
  obtain ⟨rfl, hH, hK⟩ := hv
  subst hH
  have hl := lv_entry av hlen
  rw [lg_entry_eq]
  refine body p e s m _ below meth c s.heap _ B.exec B.bytes hml (findClass_of_methodNamed B.named) (atoms_spec (ws := ws) B.pre) hP hK ?_ _ hl
  intro pc ls v hd hp
  have hr := B.returns
  have hlk := B.notSynchronized
  exact W.lret B.exec B.bytes hr (fun t ht hW => ⟨⟨v, (), rfl, hp, ht⟩, by rw [ht]; exact Nat.le_refl _, fun q _ _ => by rw [ht]⟩) (fun q hq => absurd hq List.not_mem_nil) hd hlk
theorem cRQ.of {post : Option Nat → Prop} {cc : ByteArray} {maxL : Nat} {rn : String} (hy : plainName y.cls = true) (hw : ws = Cond.code y cc maxL (some (.object rn)) :: ws') (hlen : (lg_sl av).length ≤ maxL)
    (body : ∀ (p : Program) (e : Env) (s : State) (m : MethodId) (args : Array Value) (below : List Frame) (meth : Method) (c : Code) (H : Heap) (Q : State → Prop), p.tables.exec = Jvm.exec → c.code = cc → c.maxLocals = maxL → s.vm.findClass y.cls = some m.cls → (∀ w ∈ ws, w.before args s = true) → va_P D vwCl w H → KW D cy s →
      (∀ {pc : Nat} {ls : Array Slot} (v : Option Nat), decode cc pc = .ok (.areturn, 1) → post v → W p l e rm s m args below meth c H [] 0 0 Q (F0 m pc ls [va_rf v])) →
      ∀ ls : Array Slot, lv_has ls maxL (lv_args 0 av) → W p l e rm s m args below meth c H [] 0 0 Q (F0 m 0 ls [])) : cRQ l D cy y ws rm av w post := by
  intro HH hP
  refine Met.ofW (cc := cc) (maxL := maxL) (ret := some (.object rn)) hy hw ?_
  intro p e s m args below meth c s₁ B hml hv
  obtain ⟨rfl, hH, hK⟩ := hv
  subst hH
  have hl := lv_entry av hlen
  rw [lg_entry_eq]
  refine body p e s m _ below meth c s.heap _ B.exec B.bytes hml (findClass_of_methodNamed B.named) (atoms_spec (ws := ws) B.pre) hP hK ?_ _ hl
  intro pc ls v hd hp
  have hr := B.returns
  have hlk := B.notSynchronized
  exact W.aret B.exec B.bytes hr (Or.inl ⟨_, rfl⟩) (by cases v with | none => exact Or.inl rfl | some a => exact Or.inr ⟨a, rfl⟩) (fun t ht hW => ⟨⟨v, (), rfl, hp, ht⟩, by rw [ht]; exact Nat.le_refl _, fun q _ _ => by rw [ht]⟩) (fun q hq => absurd hq List.not_mem_nil) hd hlk
theorem cMI.of {T : Type} {w1 : T → va_W} {post : Int32 → T → Prop} {mc ms : Nat} {cc : ByteArray} {maxL : Nat} {ret : FieldType} (hy : plainName y.cls = true) (hw : ws = Cond.code y cc maxL (some ret) :: ws') (hlen : (lg_sl av).length ≤ maxL) (hret : ret = .int ∨ (ret = .boolean ∧ ∀ v u, post v u → narrow .boolean (.int v) = .int v))
    (body : ∀ (p : Program) (e : Env) (s : State) (m : MethodId) (args : Array Value) (below : List Frame) (meth : Method) (c : Code) (H0 : Heap) (A : Nat → Prop) (Q : State → Prop), p.tables.exec = Jvm.exec → c.code = cc → c.maxLocals = maxL → s.vm.findClass y.cls = some m.cls → (∀ w ∈ ws, w.before args s = true) → va_P D vwCl w H0 → KW D cy s → va_D A w → va_S A H0 H0 [] → (∀ q : Nat, H0.size ≤ q → A q) →
      (∀ {pc : Nat} {ls : Array Slot} {v : Int32} {H : Heap} {locs : List Loc} (u : T), decode cc pc = .ok (.ireturn, 1) → va_P D vwCl (w1 u) H → va_D A (w1 u) → va_S A H0 H locs → post v u → W p l e rm s m args below meth c H locs mc ms Q (F0 m pc ls [.int v])) →
      ∀ ls : Array Slot, lv_has ls maxL (lv_args 0 av) → W p l e rm s m args below meth c H0 [] 0 0 Q (F0 m 0 ls [])) : cMI l D cy y ws rm av w w1 post mc ms := by
  intro sz
  refine Met.ofW (cc := cc) (maxL := maxL) (ret := some ret) hy hw ?_
  intro p e s m args below meth c s₁ B hml hv
  obtain ⟨rfl, hsz, hP, hK, hD0⟩ := hv
  subst hsz
  have hD := hD0.self (sz := s.heap.size)
  have hl := lv_entry av hlen
  rw [lg_entry_eq]
  refine body p e s m _ below meth c s.heap (va_A w s.heap.size) _ B.exec B.bytes hml (findClass_of_methodNamed B.named) (atoms_spec (ws := ws) B.pre) hP hK hD va_S.rf (fun q h => Or.inr h) ?_ _ hl
  intro pc ls v H locs u hd hP1 hD1 hS hp
  have hr := B.returns
  have hlk := B.notSynchronized
  rcases hret with rfl | ⟨rfl, hz⟩
  · exact W.iret B.exec B.bytes hr (fun t ht hW => ⟨⟨v, u, rfl, hp, by rw [ht]; exact hP1, hD1⟩, hS.F ht⟩) hS.2.2 hd hlk
  · exact W.zret B.exec B.bytes hr (hz v u hp) (fun t ht hW => ⟨⟨v, u, rfl, hp, by rw [ht]; exact hP1, hD1⟩, hS.F ht⟩) hS.2.2 hd hlk
theorem cMV.of {T : Type} {w1 : T → va_W} {post : T → Prop} {mc ms : Nat} {cc : ByteArray} {maxL : Nat} (hy : plainName y.cls = true) (hw : ws = Cond.code y cc maxL none :: ws') (hlen : (lg_sl av).length ≤ maxL)
    (body : ∀ (p : Program) (e : Env) (s : State) (m : MethodId) (args : Array Value) (below : List Frame) (meth : Method) (c : Code) (H0 : Heap) (A : Nat → Prop) (Q : State → Prop), p.tables.exec = Jvm.exec → c.code = cc → c.maxLocals = maxL → s.vm.findClass y.cls = some m.cls → (∀ w ∈ ws, w.before args s = true) → va_P D vwCl w H0 → KW D cy s → va_D A w → va_S A H0 H0 [] → (∀ q : Nat, H0.size ≤ q → A q) → meth.name = y.name →
      (∀ {pc : Nat} {ls : Array Slot} {H : Heap} {locs : List Loc} (u : T), decode cc pc = .ok (.return_, 1) → va_P D vwCl (w1 u) H → va_D A (w1 u) → va_S A H0 H locs → post u → W p l e rm s m args below meth c H locs mc ms Q (F0 m pc ls [])) →
      ∀ ls : Array Slot, lv_has ls maxL (lv_args 0 av) → W p l e rm s m args below meth c H0 [] 0 0 Q (F0 m 0 ls [])) : cMV l D cy y ws rm av w w1 post mc ms := by
  intro sz
  refine Met.ofW (cc := cc) (maxL := maxL) (ret := none) hy hw ?_
  intro p e s m args below meth c s₁ B hml hv
  obtain ⟨rfl, hsz, hP, hK, hD0⟩ := hv
  subst hsz
  have hD := hD0.self (sz := s.heap.size)
  have hl := lv_entry av hlen
  rw [lg_entry_eq]
  refine body p e s m _ below meth c s.heap (va_A w s.heap.size) _ B.exec B.bytes hml (findClass_of_methodNamed B.named) (atoms_spec (ws := ws) B.pre) hP hK hD va_S.rf (fun q h => Or.inr h) (name_of_methodNamed B.named B.method).1 ?_ _ hl
  intro pc ls H locs u hd hP1 hD1 hS hp
  have hr := B.returns
  have hlk := B.notSynchronized
  exact W.vret B.exec B.bytes hr (fun t ht hW => ⟨⟨u, rfl, hp, by rw [ht]; exact hP1, hD1⟩, hS.F ht⟩) hS.2.2 hd hlk
end CNT
section CAL
variable {p : Program} {l : Launch} {e : Env} {R : Room} {s : State} {m : MethodId} {args : Array Value} {below : List Frame} {meth : Method} {c : Code} {H : Heap} {locs : List Loc} {cells slots : Nat} {Q : State → Prop}
variable {cc : ByteArray} {pc : Nat} {ls : Array Slot} {rest : List Value} {D : va_G} {cy : Nat → ClassId} {A0 : Nat → Prop} {a : Array Value} {H0 : Heap} {w : va_W} {av As : List Value} {b : Nat}
/-- a call that wrote nothing: the heap is the same -/
theorem ro_calli {post : Int32 → Prop} {st : List Value} (hr : va_Run p l e R s m args below meth c H locs cells slots 0 0 (F0 m pc ls st) rest (va_Qi (fun r (_ : Unit) => post r) (fun _ t => t.heap = H) (fun _ => False) a) (fun _ => False))
    (k : ∀ r, post r → W p l e R s m args below meth c H locs cells slots Q (F0 m (pc + 3) ls (.int r :: rest))) : W p l e R s m args below meth c H locs cells slots Q (F0 m pc ls st) := by
  intro T hT X
  obtain ⟨v, st₀, t, T', L, h0, X', hL, e1, e2, ⟨⟨r, u, hv, hp, hb⟩, -⟩, st'⟩ := hr T hT X
  cases hv
  have hL0 : L = [] := List.eq_nil_iff_forall_not_mem.mpr (fun q hq => hL q hq)
  subst hL0
  rw [List.append_nil] at X'
  obtain ⟨t2, a1, b1⟩ := k r hp T' (by rw [e1, hb]) X'
  exact ⟨t2, st' t2 a1, b1⟩
theorem ro_calll {post : Int64 → Prop} {st : List Value} (hr : va_Run p l e R s m args below meth c H locs cells slots 0 0 (F0 m pc ls st) rest (va_Ql (fun r (_ : Unit) => post r) (fun _ t => t.heap = H) (fun _ => False) a) (fun _ => False))
    (k : ∀ r, post r → W p l e R s m args below meth c H locs cells slots Q (F0 m (pc + 3) ls (.long r :: rest))) : W p l e R s m args below meth c H locs cells slots Q (F0 m pc ls st) := by
  intro T hT X
  obtain ⟨v, st₀, t, T', L, h0, X', hL, e1, e2, ⟨⟨r, u, hv, hp, hb⟩, -⟩, st'⟩ := hr T hT X
  cases hv
  have hL0 : L = [] := List.eq_nil_iff_forall_not_mem.mpr (fun q hq => hL q hq)
  subst hL0
  rw [List.append_nil] at X'
  obtain ⟨t2, a1, b1⟩ := k r hp T' (by rw [e1, hb]) X'
  exact ⟨t2, st' t2 a1, b1⟩
theorem ro_callq {post : Option Nat → Prop} {st : List Value} (hr : va_Run p l e R s m args below meth c H locs cells slots 0 0 (F0 m pc ls st) rest (va_Qq (fun r (_ : Unit) => post r) (fun _ t => t.heap = H) (fun _ => False) a) (fun _ => False))
    (k : ∀ r, post r → W p l e R s m args below meth c H locs cells slots Q (F0 m (pc + 3) ls (va_rf r :: rest))) : W p l e R s m args below meth c H locs cells slots Q (F0 m pc ls st) := by
  intro T hT X
  obtain ⟨v, st₀, t, T', L, h0, X', hL, e1, e2, ⟨⟨r, u, hv, hp, hb⟩, -⟩, st'⟩ := hr T hT X
  cases hv
  have hL0 : L = [] := List.eq_nil_iff_forall_not_mem.mpr (fun q hq => hL q hq)
  subst hL0
  rw [List.append_nil] at X'
  obtain ⟨t2, a1, b1⟩ := k r hp T' (by rw [e1, hb]) X'
  exact ⟨t2, st' t2 a1, b1⟩
theorem ro_pre (hK : KW D cy s) {HH : Heap} (e : H = HH) : PreS s H (va_Pc As (fun U => U.heap = HH ∧ KW D cy U)) As := ⟨fun a U g mk q => by obtain ⟨q0, q1, q2⟩ := q; exact ⟨q0, q1, q2.calling⟩, fun U hU hW => ⟨rfl, hU.trans e, hK.warm hW⟩⟩
theorem ro_preV {C : String} (hK : KW D cy s) (hrecv : ∃ cellB : Cell, H[b]? = some cellB ∧ cellB.vm.isStatics = false ∧ s.vm.findClass C = some cellB.cls) : PreV s H C b (va_Pc (.ref b :: As) (fun U => U.heap = H ∧ KW D cy U)) As := ⟨fun a U g mk q => by obtain ⟨q0, q1, q2⟩ := q; exact ⟨q0, q1, q2.calling⟩, hrecv, fun U hU hW => ⟨rfl, hU, hK.warm hW⟩⟩
theorem mo_pre {sz : Nat} (hK : KW D cy s) (hsz : H.size = sz) (hP : va_P D vwCl w H) (hD : va_D A0 w) : PreS s H (va_Pc As (fun U => U.heap.size = sz ∧ va_P D vwCl w U.heap ∧ KW D cy U ∧ va_D (fun _ => True) w)) As := ⟨fun a U g mk q => by obtain ⟨q0, q1, q2, q3, q4⟩ := q; exact ⟨q0, q1, q2, q3.calling, q4⟩, fun U hU hW => ⟨rfl, by rw [hU]; exact hsz, by rw [hU]; exact hP, hK.warm hW, hD.weaken (fun _ _ _ _ => trivial)⟩⟩
theorem mo_preV {sz : Nat} {C : String} (hK : KW D cy s) (hsz : H.size = sz) (hP : va_P D vwCl w H) (hD : va_D A0 w) (hrecv : ∃ cellB : Cell, H[b]? = some cellB ∧ cellB.vm.isStatics = false ∧ s.vm.findClass C = some cellB.cls) : PreV s H C b (va_Pc (.ref b :: As) (fun U => U.heap.size = sz ∧ va_P D vwCl w U.heap ∧ KW D cy U ∧ va_D (fun _ => True) w)) As := ⟨fun a U g mk q => by obtain ⟨q0, q1, q2, q3, q4⟩ := q; exact ⟨q0, q1, q2, q3.calling, q4⟩, hrecv, fun U hU hW => ⟨rfl, by rw [hU]; exact hsz, by rw [hU]; exact hP, hK.warm hW, hD.weaken (fun _ _ _ _ => trivial)⟩⟩
end CAL
/-- cells of a world set anew at their places -/
def va_rp (ws : va_W) : List Nat → va_W → va_W
  | i :: is, q :: w => va_rp (ws.set i q) is w
  | _, _ => ws
theorem va_rp_get {ws : va_W} : ∀ {is : List Nat} {w : va_W} {k : Nat} {q : Nat × va_E}, (va_rp ws is w)[k]? = some q → (∃ j i : Nat, is[j]? = some i ∧ i = k ∧ w[j]? = some q) ∨ (k ∉ is.take w.length ∧ ws[k]? = some q) := by
  intro is
  induction is generalizing ws with
  | nil => intro w k q h; cases w <;> exact Or.inr ⟨by simp, h⟩
  | cons i is ih =>
    intro w k q h
    cases w with
    | nil => exact Or.inr ⟨by simp, h⟩
    | cons x w =>
      rcases ih (ws := ws.set i x) h with ⟨j, i', h1, h2, h3⟩ | ⟨h1, h2⟩
      · exact Or.inl ⟨j + 1, i', by simpa using h1, h2, by simpa using h3⟩
      · rw [List.getElem?_set] at h2
        by_cases hik : i = k
        · rw [if_pos hik] at h2
          split at h2
          · exact Or.inl ⟨0, i, rfl, hik, h2⟩
          · cases h2
        · rw [if_neg hik] at h2
          refine Or.inr ⟨?_, h2⟩
          simp only [List.length_cons, List.take_succ_cons, List.mem_cons, not_or]
          exact ⟨fun q => hik q.symm, h1⟩
/-- a callee wrote the cells wc that stand at the places is, all of them kept their addresses: they are set anew where they stood -/
theorem va_inpl {A0 : Nat → Prop} {D : va_G} {cl : List vw_C} {ws wc w1 : va_W} {H H1 : Heap} (hP : va_P D cl ws H) (hD : va_D A0 ws) (is : List Nat) (hC : is.map (fun i => ws[i]?) = wc.map some) (ha : w1.map Prod.fst = wc.map Prod.fst)
    (hk : ∀ q : Nat, q < H.size → ¬ va_A wc H.size q → H1[q]? = H[q]?) (hP1 : va_P D cl w1 H1) : va_P D cl (va_rp ws is w1) H1 ∧ va_D A0 (va_rp ws is w1) := by
  have hl1 : w1.length = wc.length := by simpa using congrArg List.length ha
  have hl2 : is.length = wc.length := by simpa using congrArg List.length hC
  have old : ∀ {j i : Nat} {q : Nat × va_E}, is[j]? = some i → w1[j]? = some q → ∃ q0 : Nat × va_E, ws[i]? = some q0 ∧ wc[j]? = some q0 ∧ q0.1 = q.1 := by
    intro j i q h1 h2
    have h3 : (is.map (fun i => ws[i]?))[j]? = some ws[i]? := by rw [List.getElem?_map, h1]; rfl
    rw [hC, List.getElem?_map] at h3
    cases h4 : wc[j]? with
    | none => rw [h4] at h3; cases h3
    | some q0 =>
      rw [h4] at h3
      have h5 : (w1.map Prod.fst)[j]? = some q.1 := by rw [List.getElem?_map, h2]; rfl
      rw [ha, List.getElem?_map, h4] at h5
      exact ⟨q0, (Option.some.inj h3).symm, rfl, Option.some.inj h5⟩
  have addr : ∀ {k : Nat} {q : Nat × va_E}, (va_rp ws is w1)[k]? = some q → ∃ q0 : Nat × va_E, ws[k]? = some q0 ∧ q0.1 = q.1 := by
    intro k q h
    rcases va_rp_get h with ⟨j, i, h1, rfl, h3⟩ | ⟨-, h2⟩
    · obtain ⟨q0, g1, -, g3⟩ := old h1 h3
      exact ⟨q0, g1, g3⟩
    · exact ⟨q, h2, rfl⟩
  refine ⟨fun k q h => ?_, ⟨fun i j p q hp hq hpq => ?_, fun k q h => ?_⟩⟩
  · rcases va_rp_get h with ⟨j, i, h1, rfl, h3⟩ | ⟨h1, h2⟩
    · exact hP1 j q h3
    · refine (hP k q h2).kept (hk q.1 (hP k q h2).lt ?_)
      rintro (⟨j, e, h4⟩ | h4)
      · have h5 : (is.map (fun i => ws[i]?))[j]? = some (some (q.1, e)) := by rw [hC, List.getElem?_map, h4]; rfl
        rw [List.getElem?_map] at h5
        cases h6 : is[j]? with
        | none => rw [h6] at h5; cases h5
        | some i =>
          rw [h6] at h5
          have h7 := hD.1 k i q (q.1, e) h2 (Option.some.inj h5) rfl
          subst h7
          refine h1 ?_
          rw [hl1, ← hl2, List.take_length]
          exact List.mem_of_getElem? h6
      · exact absurd (hP k q h2).lt (Nat.not_lt.mpr h4)
  · obtain ⟨p0, h1, h2⟩ := addr hp
    obtain ⟨q0, h3, h4⟩ := addr hq
    exact hD.1 i j p0 q0 h1 h3 (by rw [h2, h4, hpq])
  · obtain ⟨q0, h1, h2⟩ := addr h
    rw [← h2]
    exact hD.2 k q0 h1
/-- the whole world is the callee's -/
theorem va_whole {A0 : Nat → Prop} {ws : va_W} {H0 H : Heap} {locs : List Loc} {w1 : va_W} (hS : va_S A0 H0 H locs) (hD : va_D A0 ws) (hA : ∀ q, H0.size ≤ q → A0 q) (hD1 : va_D (va_A ws H.size) w1) : va_D A0 w1 := by
  refine hD1.weaken (fun k q _ h => ?_)
  rcases h with ⟨k2, e, h⟩ | h
  · exact hD.2 k2 (q.1, e) h
  · exact hA _ (Nat.le_trans hS.1 h)
theorem va_wholeF {A0 : Nat → Prop} {ws : va_W} {H0 H : Heap} {locs : List Loc} (hS : va_S A0 H0 H locs) (hD : va_D A0 ws) (hA : ∀ q, H0.size ≤ q → A0 q) : ∀ q, va_A ws H.size q → A0 q := by
  intro q h
  rcases h with ⟨k2, e, h⟩ | h
  · exact hD.2 k2 (q, e) h
  · exact hA _ (Nat.le_trans hS.1 h)
