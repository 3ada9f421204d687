/-- the law's two cells behind the class's world; the class's world is as it was where a call threw -/
def oC (cy : Nat → ClassId) (ao aD : Nat) (o : Nat → Int64) (d : Nat → UInt64) : va_W := [(ao, .inl (cy 1, 1, .inr (.inl o))), (aD, .inl (cy 5, 1, .inr (.inr (.inr (.inl d)))))]
abbrev TL (T : Type) : Type := Option T × (Nat → Int64) × (Nat → UInt64)
def wL {T : Type} (cy : Nat → ClassId) (W : va_W) (w1 : T → va_W) (ao aD : Nat) (u : TL T) : va_W := (match u.1 with | some t => w1 t | none => W) ++ oC cy ao aD u.2.1 u.2.2
def pL {T : Type} (post : Int32 → T → Prop) (ex : String → Prop) (code : String → Nat) : Int32 → TL T → Prop := fun r u => (∃ t ri, u.1 = some t ∧ r = nI 0 ∧ post ri t ∧ u.2.1 0 = ri.toInt64) ∨ (∃ E, u.1 = none ∧ ex E ∧ r = nI (code E))
def pLv {T : Type} (post : T → Prop) (ex : String → Prop) (code : String → Nat) : Int32 → TL T → Prop := fun r u => (∃ t, u.1 = some t ∧ r = nI 0 ∧ post t) ∨ (∃ E, u.1 = none ∧ ex E ∧ r = nI (code E))
def pLf {T : Type} (post : UInt32 → T → Prop) (ex : String → Prop) (code : String → Nat) : Int32 → TL T → Prop := fun r u => (∃ t ri, u.1 = some t ∧ r = nI 0 ∧ post ri t ∧ u.2.2 0 = FP.f2d ri) ∨ (∃ E, u.1 = none ∧ ex E ∧ r = nI (code E))
def cd1 (a : String) : String → Nat := fun _ => 1
def cd2 (a : String) : String → Nat := fun E => if E = a then 1 else 2
def cd3 (a b : String) : String → Nat := fun E => if E = a then 1 else if E = b then 2 else 3
/-- a method of the law that calls the class and catches -/
def cLI (l : Launch) (D : va_G) (cy : Nat → ClassId) (y : MethodName) (ws : List Cond) (rm : Room) (av : List Value) (w : va_W) {T : Type} (w1 : T → va_W) (post : Int32 → T → Prop) (mc ms : Nat) : Prop :=
  ∀ sz : Nat, Met l y ws rm (va_Pc av (PX D cy w sz)) (va_Qi post (fun u t => va_P D vwCl (w1 u) t.heap ∧ va_D (va_A w sz) (w1 u)) (va_A w sz)) mc ms (va_A w sz)
section LOF
variable {l : Launch} {D : va_G} {cy : Nat → ClassId} {y : MethodName} {ws ws' : List Cond} {rm : Room} {av : List Value} {w : va_W}
theorem cLI.of {T : Type} {w1 : T → va_W} {post : Int32 → T → Prop} {mc ms : Nat} {cc : ByteArray} {maxL : Nat} {hh : List (Nat × Nat × Nat × Nat)} (hy : plainName y.cls = true) (hw : ws = Cond.codeWith y cc maxL (some .int) hh :: ws') (hlen : (lg_sl av).length ≤ maxL)
    (body : ∀ (p : Program) (e : Env) (s : State) (m : MethodId) (args : Array Value) (below : List Frame) (meth : Method) (c : Code) (H0 : Heap) (A : Nat → Prop) (Q : State → Prop), p.tables.exec = Jvm.exec → c.code = cc → c.maxLocals = maxL → s.vm.findClass y.cls = some m.cls → (∀ w ∈ ws, w.before args s = true) → va_P D vwCl w H0 → KW D cy s → va_D A w → va_S A H0 H0 [] → (∀ q : Nat, H0.size ≤ q → A q) → XW s → XZ A s H0 → c.exceptionTable.toList = tableOf hh →
      (∀ {pc : Nat} {ls : Array Slot} {v : Int32} {H : Heap} {locs : List Loc} (u : T), decode cc pc = .ok (.ireturn, 1) → va_P D vwCl (w1 u) H → va_D A (w1 u) → va_S A H0 H locs → post v u → W p l e rm s m args below meth c H locs mc ms Q (F0 m pc ls [.int v])) →
      ∀ ls : Array Slot, lv_has ls maxL (lv_args 0 av) → W p l e rm s m args below meth c H0 [] 0 0 Q (F0 m 0 ls [])) : cLI l D cy y ws rm av w w1 post mc ms := by
  intro sz
  refine va_MetW (cc := cc) (maxL := maxL) (ret := some .int) (hh := hh) hy hw ?_
  intro p e s m args below meth c s₁ B hml hv
  have htab := vx_table (x := y) B (atoms_spec (ws := ws) B.pre _ (by rw [hw]; exact List.mem_cons_self))
  obtain ⟨rfl, hsz, hP, hK, hD0, hXW, hXZ⟩ := hv
  subst hsz
  have hD := hD0.self (sz := s.heap.size)
  have hl := lv_entry av hlen
  rw [lg_entry_eq]
  refine body p e s m _ below meth c s.heap (va_A w s.heap.size) _ B.exec B.bytes hml (findClass_of_methodNamed B.named) (atoms_spec (ws := ws) B.pre) hP hK hD va_S.rf (fun q h => Or.inr h) hXW hXZ htab ?_ _ hl
  intro pc ls v H locs u hd hP1 hD1 hS hp
  exact W.iret B.exec B.bytes B.returns (fun t ht hW => ⟨⟨v, u, rfl, hp, by rw [ht]; exact hP1, hD1⟩, hS.F ht⟩) hS.2.2 hd B.notSynchronized
end LOF
section XLC
variable {p : Program} {l : Launch} {e : Env} {R : Room} {s : State} {m : MethodId} {args : Array Value} {below : List Frame} {meth : Method} {c : Code} {H : Heap} {locs : List Loc} {cells slots mc ms : Nat} {Q : State → Prop}
variable {cc : ByteArray} {pc : Nat} {ls : Array Slot} {rest st : List Value} {D : va_G} {cy : Nat → ClassId} {A0 : Nat → Prop} {a : Array Value} {H0 : Heap} {wc Y w wa : va_W} {ex : String → Prop} {As : List Value} {b ao aD : Nat} {o : Nat → Int64} {d : Nat → UInt64}
theorem xo_preV {sz : Nat} {C : String} (hK : KW D cy s) (hsz : H.size = sz) (hP : va_P D vwCl w H) (hD : va_D A0 w) (hXW : XW s) (hXZ : XZ (va_A w sz) s H) (hrecv : ∃ cellB : Cell, H[b]? = some cellB ∧ cellB.vm.isStatics = false ∧ s.vm.findClass C = some cellB.cls) : PreV s H C b (va_Pc (.ref b :: As) (PX D cy w sz)) As :=
  ⟨fun a U g mk q => by obtain ⟨q0, q1⟩ := q; exact ⟨q0, q1.calling⟩, hrecv, fun U hU hW => ⟨rfl, by rw [hU]; exact hsz, by rw [hU]; exact hP, hK.warm hW, hD.weaken (fun _ _ _ _ => trivial), hXW.warm hW, by rw [hU]; exact hXZ.moved hW.alike⟩⟩
theorem xo_preS {sz : Nat} (hK : KW D cy s) (hsz : H.size = sz) (hP : va_P D vwCl w H) (hD : va_D A0 w) (hXW : XW s) (hXZ : XZ (va_A w sz) s H) : PreS s H (va_Pc As (PX D cy w sz)) As :=
  ⟨fun a U g mk q => by obtain ⟨q0, q1⟩ := q; exact ⟨q0, q1.calling⟩, fun U hU hW => ⟨rfl, by rw [hU]; exact hsz, by rw [hU]; exact hP, hK.warm hW, hD.weaken (fun _ _ _ _ => trivial), hXW.warm hW, by rw [hU]; exact hXZ.moved hW.alike⟩⟩
theorem XZ.at {A : Nat → Prop} (hXZ : XZ A s H0) (hS : va_S A H0 H locs) (hD : va_D A Y) (hA : ∀ q, H0.size ≤ q → A q) (hs : ∀ q ∈ w, q ∈ Y) : XZ (va_A w H.size) s H := (hXZ.kept hS.2.1).narrow (va_fri hS hD hA hs)
theorem xl_calli {T : Type} {w1 : T → va_W} {post : Int32 → T → Prop} (hr : vx_Run p l e R s m args below meth c H locs cells slots mc ms (F0 m pc ls st) rest (va_Qi post (fun u t => va_P D vwCl (w1 u) t.heap ∧ va_D (va_A wc H.size) (w1 u)) (va_A wc H.size) a) (vx_X (fun _ : Unit => True) (BXt D wc ex H.size) (va_A wc H.size)) (va_A wc H.size)) (hS : va_S A0 H0 H locs) (hP : va_P D vwCl (wc ++ Y) H) (hD : va_D A0 (wc ++ Y)) (hA : ∀ q, H0.size ≤ q → A0 q)
    (kx : ∀ (E : String) (ce : Cell) (q9 : Addr) (H1 : Heap) (locs1 : List Loc), ex E → va_P D vwCl (wc ++ Y) H1 → va_D A0 (wc ++ Y) → va_S A0 H0 H1 locs1 → H1[q9]? = some ce → ce.vm = .none → s.vm.findClass E = some ce.cls → vx_W p l e R s m args below meth c H1 locs1 (cells + mc) (slots + ms) Q (F0 m pc ls rest) q9)
    (kk : ∀ (r : Int32) (u : T) (H1 : Heap) (locs1 : List Loc), post r u → va_P D vwCl (w1 u ++ Y) H1 → va_D A0 (w1 u ++ Y) → va_S A0 H0 H1 locs1 → W p l e R s m args below meth c H1 locs1 (cells + mc) (slots + ms) Q (F0 m (pc + 3) ls (.int r :: rest))) : W p l e R s m args below meth c H locs cells slots Q (F0 m pc ls st) := by
  have hF := va_fri hS hD hA (wc := wc) (fun q hq => List.mem_append_left _ hq)
  refine vx_calli hr hS (fun q _ h => hF q h) hF (fun q _ h => hF q h) (fun E ce q9 u t H1 locs1 ht hvm hp hB hz hk hS1 h1 h2 h3 => ?_) (fun r u t H1 locs1 ht hvm hp hB hz hk hS1 => ?_)
  · obtain ⟨hex, hb1, hb2⟩ := hB
    rw [ht] at hb1
    have h9 := va_apartL hP hD hF hk hb1 hb2
    exact kx E ce q9 H1 locs1 hex h9.1 h9.2 hS1 h1 h2 h3
  · rw [ht] at hB
    have h9 := va_apartL hP hD hF hk hB.1 hB.2
    exact kk r u H1 locs1 hp h9.1 h9.2 hS1
theorem xl_callv {T : Type} {w1 : T → va_W} {post : T → Prop} (hr : vx_Run p l e R s m args below meth c H locs cells slots mc ms (F0 m pc ls st) rest (va_Qv post (fun u t => va_P D vwCl (w1 u) t.heap ∧ va_D (va_A wc H.size) (w1 u)) (va_A wc H.size) a) (vx_X (fun _ : Unit => True) (BXt D wc ex H.size) (va_A wc H.size)) (va_A wc H.size)) (hS : va_S A0 H0 H locs) (hP : va_P D vwCl (wc ++ Y) H) (hD : va_D A0 (wc ++ Y)) (hA : ∀ q, H0.size ≤ q → A0 q)
    (kx : ∀ (E : String) (ce : Cell) (q9 : Addr) (H1 : Heap) (locs1 : List Loc), ex E → va_P D vwCl (wc ++ Y) H1 → va_D A0 (wc ++ Y) → va_S A0 H0 H1 locs1 → H1[q9]? = some ce → ce.vm = .none → s.vm.findClass E = some ce.cls → vx_W p l e R s m args below meth c H1 locs1 (cells + mc) (slots + ms) Q (F0 m pc ls rest) q9)
    (kk : ∀ (u : T) (H1 : Heap) (locs1 : List Loc), post u → va_P D vwCl (w1 u ++ Y) H1 → va_D A0 (w1 u ++ Y) → va_S A0 H0 H1 locs1 → W p l e R s m args below meth c H1 locs1 (cells + mc) (slots + ms) Q (F0 m (pc + 3) ls (rest))) : W p l e R s m args below meth c H locs cells slots Q (F0 m pc ls st) := by
  have hF := va_fri hS hD hA (wc := wc) (fun q hq => List.mem_append_left _ hq)
  refine vx_callv hr hS (fun q _ h => hF q h) hF (fun q _ h => hF q h) (fun E ce q9 u t H1 locs1 ht hvm hp hB hz hk hS1 h1 h2 h3 => ?_) (fun u t H1 locs1 ht hvm hp hB hz hk hS1 => ?_)
  · obtain ⟨hex, hb1, hb2⟩ := hB
    rw [ht] at hb1
    have h9 := va_apartL hP hD hF hk hb1 hb2
    exact kx E ce q9 H1 locs1 hex h9.1 h9.2 hS1 h1 h2 h3
  · rw [ht] at hB
    have h9 := va_apartL hP hD hF hk hB.1 hB.2
    exact kk u H1 locs1 hp h9.1 h9.2 hS1
theorem xl_callf {T : Type} {w1 : T → va_W} {post : UInt32 → T → Prop} (hr : vx_Run p l e R s m args below meth c H locs cells slots mc ms (F0 m pc ls st) rest (va_Qf post (fun u t => va_P D vwCl (w1 u) t.heap ∧ va_D (va_A wc H.size) (w1 u)) (va_A wc H.size) a) (vx_X (fun _ : Unit => True) (BXt D wc ex H.size) (va_A wc H.size)) (va_A wc H.size)) (hS : va_S A0 H0 H locs) (hP : va_P D vwCl (wc ++ Y) H) (hD : va_D A0 (wc ++ Y)) (hA : ∀ q, H0.size ≤ q → A0 q)
    (kx : ∀ (E : String) (ce : Cell) (q9 : Addr) (H1 : Heap) (locs1 : List Loc), ex E → va_P D vwCl (wc ++ Y) H1 → va_D A0 (wc ++ Y) → va_S A0 H0 H1 locs1 → H1[q9]? = some ce → ce.vm = .none → s.vm.findClass E = some ce.cls → vx_W p l e R s m args below meth c H1 locs1 (cells + mc) (slots + ms) Q (F0 m pc ls rest) q9)
    (kk : ∀ (r : UInt32) (u : T) (H1 : Heap) (locs1 : List Loc), post r u → va_P D vwCl (w1 u ++ Y) H1 → va_D A0 (w1 u ++ Y) → va_S A0 H0 H1 locs1 → W p l e R s m args below meth c H1 locs1 (cells + mc) (slots + ms) Q (F0 m (pc + 3) ls (.float r :: rest))) : W p l e R s m args below meth c H locs cells slots Q (F0 m pc ls st) := by
  have hF := va_fri hS hD hA (wc := wc) (fun q hq => List.mem_append_left _ hq)
  refine vx_callf hr hS (fun q _ h => hF q h) hF (fun q _ h => hF q h) (fun E ce q9 u t H1 locs1 ht hvm hp hB hz hk hS1 h1 h2 h3 => ?_) (fun r u t H1 locs1 ht hvm hp hB hz hk hS1 => ?_)
  · obtain ⟨hex, hb1, hb2⟩ := hB
    rw [ht] at hb1
    have h9 := va_apartL hP hD hF hk hb1 hb2
    exact kx E ce q9 H1 locs1 hex h9.1 h9.2 hS1 h1 h2 h3
  · rw [ht] at hB
    have h9 := va_apartL hP hD hF hk hB.1 hB.2
    exact kk r u H1 locs1 hp h9.1 h9.2 hS1
theorem app_at0 {x : Nat × va_E} : (wa ++ x :: Y)[wa.length]? = some x := by rw [List.getElem?_append_right (Nat.le_refl _), Nat.sub_self]; rfl
theorem app_at1 {x y : Nat × va_E} : (wa ++ x :: y :: Y)[wa.length + 1]? = some y := by rw [List.getElem?_append_right (by omega), Nat.add_sub_cancel_left]; rfl
theorem app_set0 {α : Type _} {wa Y : List α} {x z : α} : (wa ++ x :: Y).set wa.length z = wa ++ z :: Y := by
  induction wa with
  | nil => rfl
  | cons a t ih => exact congrArg (a :: ·) ih
theorem app_set1 {α : Type _} {wa Y : List α} {x y z : α} : (wa ++ x :: y :: Y).set (wa.length + 1) z = wa ++ x :: z :: Y := by
  induction wa with
  | nil => rfl
  | cons a t ih => exact congrArg (a :: ·) ih
theorem ll_st (hx : p.tables.exec = Jvm.exec) (hb : c.code = cc) (hK : KW D cy s) (hP : va_P D vwCl (wa ++ oC cy ao aD o d) H) (hD : va_D A0 (wa ++ oC cy ao aD o d)) (hS : va_S A0 H0 H locs) {x : Int64} (hd : decode cc pc = .ok (.lastore, 1)) (kk : ∀ (o2 : Nat → Int64) (H1 : Heap) (locs1 : List Loc), o2 0 = x → va_P D vwCl (wa ++ oC cy ao aD o2 d) H1 → va_D A0 (wa ++ oC cy ao aD o2 d) → va_S A0 H0 H1 locs1 → W p l e R s m args below meth c H1 locs1 cells slots Q (F0 m (pc + 1) ls rest)) : W p l e R s m args below meth c H locs cells slots Q (F0 m pc ls (.long x :: .int (nI 0) :: .ref ao :: rest)) := by
  refine va_last hx hb hK.1 hP hD hS wa.length 1 (app_at0 (wa := wa)) rfl (vp_in_nI (show 0 < 1 by omega) (by decide)) hd (fun H1 locs1 hP1 hD1 hS1 => ?_)
  rw [show ∀ z, (wa ++ oC cy ao aD o d).set wa.length z = wa ++ z :: [(aD, .inl (cy 5, 1, .inr (.inr (.inr (.inl d)))))] from fun z => app_set0] at hP1 hD1
  exact kk _ H1 locs1 (by show (if 0 = (nI 0).toNatClampNeg then x else o 0) = x; rw [nI_clamp (by decide), if_pos rfl]) hP1 hD1 hS1
theorem ll_dst (hx : p.tables.exec = Jvm.exec) (hb : c.code = cc) (hK : KW D cy s) (hP : va_P D vwCl (wa ++ oC cy ao aD o d) H) (hD : va_D A0 (wa ++ oC cy ao aD o d)) (hS : va_S A0 H0 H locs) {x : UInt64} (hd : decode cc pc = .ok (.dastore, 1)) (kk : ∀ (d2 : Nat → UInt64) (H1 : Heap) (locs1 : List Loc), d2 0 = x → va_P D vwCl (wa ++ oC cy ao aD o d2) H1 → va_D A0 (wa ++ oC cy ao aD o d2) → va_S A0 H0 H1 locs1 → W p l e R s m args below meth c H1 locs1 cells slots Q (F0 m (pc + 1) ls rest)) : W p l e R s m args below meth c H locs cells slots Q (F0 m pc ls (.double x :: .int (nI 0) :: .ref aD :: rest)) := by
  refine va_dast hx hb hK.1 hP hD hS (wa.length + 1) 5 (app_at1 (wa := wa)) rfl (vp_in_nI (show 0 < 1 by omega) (by decide)) hd (fun H1 locs1 hP1 hD1 hS1 => ?_)
  rw [show ∀ z, (wa ++ oC cy ao aD o d).set (wa.length + 1) z = wa ++ (ao, .inl (cy 1, 1, .inr (.inl o))) :: [z] from fun z => app_set1] at hP1 hD1
  exact kk _ H1 locs1 (by show (if 0 = (nI 0).toNatClampNeg then x else d 0) = x; rw [nI_clamp (by decide), if_pos rfl]) hP1 hD1 hS1
end XLC
theorem xc_IA : Cond.castable "java/lang/IllegalArgumentException" "java/lang/IllegalArgumentException" ∈ tables_1 := by decide +kernel
theorem xc_IO : Cond.castable "java/lang/IndexOutOfBoundsException" "java/lang/IndexOutOfBoundsException" ∈ tables_1 := by decide +kernel
theorem xc_IS : Cond.castable "java/lang/IllegalStateException" "java/lang/IllegalStateException" ∈ tables_1 := by decide +kernel
