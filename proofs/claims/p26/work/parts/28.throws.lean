def eIA : String := "java/lang/IllegalArgumentException"
def eIO : String := "java/lang/IndexOutOfBoundsException"
def eIS : String := "java/lang/IllegalStateException"
def xNm : List String := ["java/lang/RuntimeException", "java/lang/Exception"]
def nxOk : Cond → Bool
  | .declares _ => true
  | .castable .. => true
  | .arrayOver (.object _) => true
  | _ => false
def strL : List (Nat × String) := [(74, "a leg has 0 to 10 seats"), (89, "there is no such leg"), (92, "the legs are in the wrong order, or the fare is out of range"), (99, "there are 8 products, or there is this one"), (113, "there is no such product"), (115, "0 to 20 passengers can be expected"), (120, "the show rate is 50 to 100"), (122, "there are 60 bookings"), (156, "the legs are in the wrong order, or seats or fare is out of range"), (169, "there is no such booking"), (175, "the booking is cancelled"), (179, "0 to 100 percent show up"), (197, "a fare is 1 to 1000"), (218, "the legs are in the wrong order, or seats is out of range"), (223, "nothing is refused so")]
def ncL : List (String × String) := [(eIO, eIA), (eIS, eIA), (eIA, eIO), (eIS, eIO), (eIA, eIS), (eIO, eIS)]
/-- what throwing and catching asks of the tables, wherever the run stands -/
def XW (U : State) : Prop := (∀ w, w ∈ tables_1 → nxOk w = true → va_Nw w U) ∧ (∀ q, q ∈ ncL → va_Nc q.1 q.2 U) ∧ (∀ q, q ∈ strL → ∃ a, vk_R RX5 q.1 q.2 a U)
theorem XW.warm {s U : State} (hW : s.WarmedH U.vm) (h : XW s) : XW U := by
  refine ⟨fun w hw ho => ?_, fun q hq => va_Nc.moved hW.alike (h.2.1 q hq), fun q hq => ?_⟩
  · have h1 := h.1 w hw ho
    cases w <;> first | exact va_Nw.warmD hW h1 | exact va_Nw.warmC hW h1 | exact absurd ho Bool.false_ne_true | (rename_i ty; cases ty <;> first | exact va_AO.moved hW.alike h1 | exact absurd ho Bool.false_ne_true)
  · obtain ⟨a, ha⟩ := h.2.2 q hq
    exact ⟨a, vk_R.warm hW ha⟩
theorem XW.same {u U : State} (hv : u.vm = U.vm) (h : XW u) : XW U := by
  refine ⟨fun w hw ho => ?_, fun q hq => ?_, fun q hq => ?_⟩
  · have h1 := h.1 w hw ho
    cases w <;> first | exact va_Nw.same rfl hv h1 | exact absurd ho Bool.false_ne_true | (rename_i ty; cases ty <;> first | exact va_AO.moved (hv ▸ Vm.Alike.refl u.vm) h1 | exact absurd ho Bool.false_ne_true)
  · have h1 := h.2.1 q hq
    unfold va_Nc at h1 ⊢
    rw [← hv]
    exact h1
  · obtain ⟨a, ha⟩ := h.2.2 q hq
    exact ⟨a, vk_R.same hv.symm ha⟩
/-- the two statics of Throwable, outside of what may be written -/
def XZ (A : Nat → Prop) (U : State) (H : Heap) : Prop := vx_Zq Bundle.tN "UNASSIGNED_STACK" Bundle.steD A U H ∧ vx_Zq Bundle.tN "SUPPRESSED_SENTINEL" Bundle.listD A U H
theorem XZ.moved {A : Nat → Prop} {u U : State} {H : Heap} (hvm : u.vm.Alike U.vm) (h : XZ A u H) : XZ A U H := ⟨h.1.moved hvm, h.2.moved hvm⟩
theorem XZ.kept {A : Nat → Prop} {U : State} {H H1 : Heap} (h : XZ A U H) (hq : ∀ a : Nat, a < H.size → ¬ A a → H1[a]? = H[a]?) : XZ A U H1 := ⟨h.1.kept hq, h.2.kept hq⟩
theorem XZ.narrow {A B : Nat → Prop} {U : State} {H : Heap} (h : XZ A U H) (hAB : ∀ q, B q → A q) : XZ B U H := ⟨h.1.narrow hAB, h.2.narrow hAB⟩
set_option maxRecDepth 20000 in
theorem xn_IA : ∀ w ∈ (vx_atS RX5 76 "java/lang/IllegalArgumentException" ["java/lang/RuntimeException", "java/lang/Exception"]).filter (fun w => !goodWord w), w ∈ tables_1 ∧ nxOk w = true := by decide +kernel
set_option maxRecDepth 20000 in
theorem xg_IA : ∀ w ∈ Cond.classLink RX5 72 "java/lang/IllegalArgumentException" :: Cond.initialized "java/lang/IllegalArgumentException" :: vx_atS RX5 76 "java/lang/IllegalArgumentException" ["java/lang/RuntimeException", "java/lang/Exception"], vx_ot w = true := by decide +kernel
set_option maxRecDepth 20000 in
theorem xn_IO : ∀ w ∈ (vx_atS RX5 91 "java/lang/IndexOutOfBoundsException" ["java/lang/RuntimeException", "java/lang/Exception"]).filter (fun w => !goodWord w), w ∈ tables_1 ∧ nxOk w = true := by decide +kernel
set_option maxRecDepth 20000 in
theorem xg_IO : ∀ w ∈ Cond.classLink RX5 87 "java/lang/IndexOutOfBoundsException" :: Cond.initialized "java/lang/IndexOutOfBoundsException" :: vx_atS RX5 91 "java/lang/IndexOutOfBoundsException" ["java/lang/RuntimeException", "java/lang/Exception"], vx_ot w = true := by decide +kernel
set_option maxRecDepth 20000 in
theorem xn_IS : ∀ w ∈ (vx_atS RX5 101 "java/lang/IllegalStateException" ["java/lang/RuntimeException", "java/lang/Exception"]).filter (fun w => !goodWord w), w ∈ tables_1 ∧ nxOk w = true := by decide +kernel
set_option maxRecDepth 20000 in
theorem xg_IS : ∀ w ∈ Cond.classLink RX5 97 "java/lang/IllegalStateException" :: Cond.initialized "java/lang/IllegalStateException" :: vx_atS RX5 101 "java/lang/IllegalStateException" ["java/lang/RuntimeException", "java/lang/Exception"], vx_ot w = true := by decide +kernel
/-- the start of a method that may throw -/
def PX (D : va_G) (cy : Nat → ClassId) (w : va_W) (sz : Nat) (U : State) : Prop := U.heap.size = sz ∧ va_P D vwCl w U.heap ∧ KW D cy U ∧ va_D (fun _ => True) w ∧ XW U ∧ XZ (va_A w sz) U U.heap
def BXt (D : va_G) (w : va_W) (ex : String → Prop) (sz : Nat) : String → Unit → State → Prop := fun E _ t => ex E ∧ va_P D vwCl w t.heap ∧ va_D (va_A w sz) w
/-- a method that answers an int or throws; where it throws the world is as before -/
def cXI (l : Launch) (D : va_G) (cy : Nat → ClassId) (y : MethodName) (ws : List Cond) (rm : Room) (av : List Value) (w : va_W) {T : Type} (w1 : T → va_W) (post : Int32 → T → Prop) (ex : String → Prop) (mc ms : Nat) : Prop :=
  ∀ sz : Nat, vx_Met l y ws rm (va_Pc av (PX D cy w sz)) (va_Qi post (fun u t => va_P D vwCl (w1 u) t.heap ∧ va_D (va_A w sz) (w1 u)) (va_A w sz)) (vx_X (fun _ : Unit => True) (BXt D w ex sz) (va_A w sz)) mc ms (va_A w sz)
def cXV (l : Launch) (D : va_G) (cy : Nat → ClassId) (y : MethodName) (ws : List Cond) (rm : Room) (av : List Value) (w : va_W) {T : Type} (w1 : T → va_W) (post : T → Prop) (ex : String → Prop) (mc ms : Nat) : Prop :=
  ∀ sz : Nat, vx_Met l y ws rm (va_Pc av (PX D cy w sz)) (va_Qv post (fun u t => va_P D vwCl (w1 u) t.heap ∧ va_D (va_A w sz) (w1 u)) (va_A w sz)) (vx_X (fun _ : Unit => True) (BXt D w ex sz) (va_A w sz)) mc ms (va_A w sz)
def cXF (l : Launch) (D : va_G) (cy : Nat → ClassId) (y : MethodName) (ws : List Cond) (rm : Room) (av : List Value) (w : va_W) {T : Type} (w1 : T → va_W) (post : UInt32 → T → Prop) (ex : String → Prop) (mc ms : Nat) : Prop :=
  ∀ sz : Nat, vx_Met l y ws rm (va_Pc av (PX D cy w sz)) (va_Qf post (fun u t => va_P D vwCl (w1 u) t.heap ∧ va_D (va_A w sz) (w1 u)) (va_A w sz)) (vx_X (fun _ : Unit => True) (BXt D w ex sz) (va_A w sz)) mc ms (va_A w sz)
theorem PX.calling {D : va_G} {cy : Nat → ClassId} {w : va_W} {sz : Nat} {a : Array Value} {U : State} {g : JFrame} {mk : MethodId} (h : PX D cy w sz U) : PX D cy w sz (U.calling g mk a) :=
  ⟨h.1, h.2.1, h.2.2.1.calling, h.2.2.2.1, XW.same (u := U) (U := U.calling g mk a) rfl h.2.2.2.2.1, XZ.moved (u := U) (U := U.calling g mk a) (Vm.Alike.refl U.vm) h.2.2.2.2.2⟩
section XOF
variable {l : Launch} {D : va_G} {cy : Nat → ClassId} {y : MethodName} {ws ws' : List Cond} {rm : Room} {av : List Value} {w : va_W} {ex : String → Prop} {mc ms : Nat} {T : Type} {w1 : T → va_W}
/-- the throw of a class, for the ends of the walks -/
def THR (p : Program) (l : Launch) (D : va_G) (rm : Room) (e : Env) (s : State) (m : MethodId) (args : Array Value) (below : List Frame) (meth : Method) (c : Code) (cc : ByteArray) (own : String) (w : va_W) (ex : String → Prop) (A : Nat → Prop) (mc ms : Nat) (Q : State → Prop) : Prop :=
  ∀ {pc : Nat} {ls : Array Slot} {rest : List Value} {H : Heap} {locs : List Loc} (cls text : String) (names : List String) (ik is ic : Nat), ex cls → Bundle.fit cls = true → (∀ n ∈ names, Bundle.fit n = true) → (Cond.classLink own ik cls).before args s = true → (Cond.initialized cls).before args s = true → (∃ sa, vk_R own is text sa s) → (∀ w ∈ vx_atS own ic cls names, w.before args s = true) → (∀ w ∈ Cond.classLink own ik cls :: Cond.initialized cls :: vx_atS own ic cls names, vx_ot w = true) →
    va_P D vwCl w H → va_D A w → va_S A s.heap H locs → ls.size = c.maxLocals → decode cc pc = .ok (.new ik, 3) → decode cc (pc + 3) = .ok (.dup, 1) → decode cc (pc + 4) = .ok (.ldc is, 2) → decode cc (pc + 6) = .ok (.invokespecial ic, 3) → decode cc (pc + 9) = .ok (.athrow, 1) →
    names.length + 3 < rm.frames → (rest.map fun v => v.category).sum + (13 * (names.length + 1) + 43) ≤ rm.locals → 0 + 1 ≤ rm.cells → 0 + 6 ≤ rm.slots → 0 + 1 ≤ mc → 0 + 6 ≤ ms → W p l e rm s m args below meth c H locs 0 0 Q (F0 m pc ls rest)
theorem cXI.of {post : Int32 → T → Prop} {cc : ByteArray} {maxL : Nat} (hfl : l.stackTraces = false) (hy : plainName y.cls = true) (hw : ws = Cond.code y cc maxL (some .int) :: ws') (hlen : (lg_sl av).length ≤ maxL)
    (body : ∀ (p : Program) (e : Env) (s : State) (m : MethodId) (args : Array Value) (below : List Frame) (meth : Method) (c : Code) (H0 : Heap) (A : Nat → Prop) (Q : State → Prop), p.tables.exec = Jvm.exec → c.code = cc → c.maxLocals = maxL → s.vm.findClass y.cls = some m.cls → (∀ w ∈ ws, w.before args s = true) → va_P D vwCl w H0 → KW D cy s → va_D A w → va_S A H0 H0 [] → (∀ q : Nat, H0.size ≤ q → A q) → XW s → H0 = s.heap →
      (∀ {pc : Nat} {ls : Array Slot} {v : Int32} {H : Heap} {locs : List Loc} (u : T), decode cc pc = .ok (.ireturn, 1) → va_P D vwCl (w1 u) H → va_D A (w1 u) → va_S A H0 H locs → post v u → W p l e rm s m args below meth c H locs mc ms Q (F0 m pc ls [.int v])) →
      THR p l D rm e s m args below meth c cc y.cls w ex A mc ms Q →
      ∀ ls : Array Slot, lv_has ls maxL (lv_args 0 av) → W p l e rm s m args below meth c H0 [] 0 0 Q (F0 m 0 ls [])) : cXI l D cy y ws rm av w w1 post ex mc ms := by
  intro sz
  refine vx_ofW (cc := cc) (maxL := maxL) (ret := (some .int)) hy hw ?_
  intro p e s m args below meth c s₁ B hml hnt hv
  obtain ⟨rfl, hsz, hP, hK, hD0, hXW, hXZ⟩ := hv
  subst hsz
  have hD := hD0.self (sz := s.heap.size)
  have hl := lv_entry av hlen
  rw [lg_entry_eq]
  refine body p e s m _ below meth c s.heap (va_A w s.heap.size) _ B.exec B.bytes hml (findClass_of_methodNamed B.named) (atoms_spec (ws := ws) B.pre) hP hK hD va_S.rf (fun q h => Or.inr h) hXW rfl ?_ ?_ _ hl
  · intro pc ls v H locs u hd hP1 hD1 hS hp
    refine vx_ret ?_
    exact W.iret B.exec B.bytes B.returns (fun t ht hW => ⟨⟨v, u, rfl, hp, by rw [ht]; exact hP1, hD1⟩, hS.F ht⟩) hS.2.2 hd B.notSynchronized
  · intro pc ls rest H locs cls text names ik is ic hex hcls hnames hk hini hstr hat hgood hP1 hD1 hS hsize d0 d3 d4 d6 d9 hRf hRl hRc hRs hc hs
    obtain ⟨sa, hsa⟩ := hstr
    exact vx_throwS (A := va_A w s.heap.size) B.exec B.bytes hfl (findClass_of_methodNamed B.named) hcls hnames hk hini hsa hat hgood hXZ.1 hXZ.2 hS hsize d0 d3 d4 d6 d9 (fun x hx => absurd (hnt x hx) id) hRf hRl hRc hRs B.notSynchronized
      (fun t ha hz hq => ⟨(), trivial, ⟨hex, hP1.kept (fun k q hk => hq q.1 (hP1 k q hk).lt), hD1⟩, ⟨Nat.le_trans hS.1 hz, fun q h1 h2 => by rw [hq q (Nat.lt_of_lt_of_le h1 hS.1)]; exact hS.2.1 q h1 h2⟩⟩) hS.2.2 hc hs
theorem cXV.of {post : T → Prop} {cc : ByteArray} {maxL : Nat} (hfl : l.stackTraces = false) (hy : plainName y.cls = true) (hw : ws = Cond.code y cc maxL none :: ws') (hlen : (lg_sl av).length ≤ maxL)
    (body : ∀ (p : Program) (e : Env) (s : State) (m : MethodId) (args : Array Value) (below : List Frame) (meth : Method) (c : Code) (H0 : Heap) (A : Nat → Prop) (Q : State → Prop), p.tables.exec = Jvm.exec → c.code = cc → c.maxLocals = maxL → s.vm.findClass y.cls = some m.cls → (∀ w ∈ ws, w.before args s = true) → va_P D vwCl w H0 → KW D cy s → va_D A w → va_S A H0 H0 [] → (∀ q : Nat, H0.size ≤ q → A q) → XW s → H0 = s.heap →
      (∀ {pc : Nat} {ls : Array Slot} {H : Heap} {locs : List Loc} (u : T), decode cc pc = .ok (.return_, 1) → va_P D vwCl (w1 u) H → va_D A (w1 u) → va_S A H0 H locs → post u → W p l e rm s m args below meth c H locs mc ms Q (F0 m pc ls [])) →
      THR p l D rm e s m args below meth c cc y.cls w ex A mc ms Q →
      ∀ ls : Array Slot, lv_has ls maxL (lv_args 0 av) → W p l e rm s m args below meth c H0 [] 0 0 Q (F0 m 0 ls [])) : cXV l D cy y ws rm av w w1 post ex mc ms := by
  intro sz
  refine vx_ofW (cc := cc) (maxL := maxL) (ret := none) hy hw ?_
  intro p e s m args below meth c s₁ B hml hnt hv
  obtain ⟨rfl, hsz, hP, hK, hD0, hXW, hXZ⟩ := hv
  subst hsz
  have hD := hD0.self (sz := s.heap.size)
  have hl := lv_entry av hlen
  rw [lg_entry_eq]
  refine body p e s m _ below meth c s.heap (va_A w s.heap.size) _ B.exec B.bytes hml (findClass_of_methodNamed B.named) (atoms_spec (ws := ws) B.pre) hP hK hD va_S.rf (fun q h => Or.inr h) hXW rfl ?_ ?_ _ hl
  · intro pc ls H locs u hd hP1 hD1 hS hp
    refine vx_ret ?_
    exact W.vret B.exec B.bytes B.returns (fun t ht hW => ⟨⟨u, rfl, hp, by rw [ht]; exact hP1, hD1⟩, hS.F ht⟩) hS.2.2 hd B.notSynchronized
  · intro pc ls rest H locs cls text names ik is ic hex hcls hnames hk hini hstr hat hgood hP1 hD1 hS hsize d0 d3 d4 d6 d9 hRf hRl hRc hRs hc hs
    obtain ⟨sa, hsa⟩ := hstr
    exact vx_throwS (A := va_A w s.heap.size) B.exec B.bytes hfl (findClass_of_methodNamed B.named) hcls hnames hk hini hsa hat hgood hXZ.1 hXZ.2 hS hsize d0 d3 d4 d6 d9 (fun x hx => absurd (hnt x hx) id) hRf hRl hRc hRs B.notSynchronized
      (fun t ha hz hq => ⟨(), trivial, ⟨hex, hP1.kept (fun k q hk => hq q.1 (hP1 k q hk).lt), hD1⟩, ⟨Nat.le_trans hS.1 hz, fun q h1 h2 => by rw [hq q (Nat.lt_of_lt_of_le h1 hS.1)]; exact hS.2.1 q h1 h2⟩⟩) hS.2.2 hc hs
theorem cXF.of {post : UInt32 → T → Prop} {cc : ByteArray} {maxL : Nat} (hfl : l.stackTraces = false) (hy : plainName y.cls = true) (hw : ws = Cond.code y cc maxL (some .float) :: ws') (hlen : (lg_sl av).length ≤ maxL)
    (body : ∀ (p : Program) (e : Env) (s : State) (m : MethodId) (args : Array Value) (below : List Frame) (meth : Method) (c : Code) (H0 : Heap) (A : Nat → Prop) (Q : State → Prop), p.tables.exec = Jvm.exec → c.code = cc → c.maxLocals = maxL → s.vm.findClass y.cls = some m.cls → (∀ w ∈ ws, w.before args s = true) → va_P D vwCl w H0 → KW D cy s → va_D A w → va_S A H0 H0 [] → (∀ q : Nat, H0.size ≤ q → A q) → XW s → H0 = s.heap →
      (∀ {pc : Nat} {ls : Array Slot} {v : UInt32} {H : Heap} {locs : List Loc} (u : T), decode cc pc = .ok (.freturn, 1) → va_P D vwCl (w1 u) H → va_D A (w1 u) → va_S A H0 H locs → post v u → W p l e rm s m args below meth c H locs mc ms Q (F0 m pc ls [.float v])) →
      THR p l D rm e s m args below meth c cc y.cls w ex A mc ms Q →
      ∀ ls : Array Slot, lv_has ls maxL (lv_args 0 av) → W p l e rm s m args below meth c H0 [] 0 0 Q (F0 m 0 ls [])) : cXF l D cy y ws rm av w w1 post ex mc ms := by
  intro sz
  refine vx_ofW (cc := cc) (maxL := maxL) (ret := (some .float)) hy hw ?_
  intro p e s m args below meth c s₁ B hml hnt hv
  obtain ⟨rfl, hsz, hP, hK, hD0, hXW, hXZ⟩ := hv
  subst hsz
  have hD := hD0.self (sz := s.heap.size)
  have hl := lv_entry av hlen
  rw [lg_entry_eq]
  refine body p e s m _ below meth c s.heap (va_A w s.heap.size) _ B.exec B.bytes hml (findClass_of_methodNamed B.named) (atoms_spec (ws := ws) B.pre) hP hK hD va_S.rf (fun q h => Or.inr h) hXW rfl ?_ ?_ _ hl
  · intro pc ls v H locs u hd hP1 hD1 hS hp
    refine vx_ret ?_
    exact W.fret B.exec B.bytes B.returns (fun t ht hW => ⟨⟨v, u, rfl, hp, by rw [ht]; exact hP1, hD1⟩, hS.F ht⟩) hS.2.2 hd B.notSynchronized
  · intro pc ls rest H locs cls text names ik is ic hex hcls hnames hk hini hstr hat hgood hP1 hD1 hS hsize d0 d3 d4 d6 d9 hRf hRl hRc hRs hc hs
    obtain ⟨sa, hsa⟩ := hstr
    exact vx_throwS (A := va_A w s.heap.size) B.exec B.bytes hfl (findClass_of_methodNamed B.named) hcls hnames hk hini hsa hat hgood hXZ.1 hXZ.2 hS hsize d0 d3 d4 d6 d9 (fun x hx => absurd (hnt x hx) id) hRf hRl hRc hRs B.notSynchronized
      (fun t ha hz hq => ⟨(), trivial, ⟨hex, hP1.kept (fun k q hk => hq q.1 (hP1 k q hk).lt), hD1⟩, ⟨Nat.le_trans hS.1 hz, fun q h1 h2 => by rw [hq q (Nat.lt_of_lt_of_le h1 hS.1)]; exact hS.2.1 q h1 h2⟩⟩) hS.2.2 hc hs
end XOF
