/-- a method of the law that calls the class and catches -/
def cLI (l : Launch) (D : va_G) (cy : Nat → ClassId) (y : MethodName) (ws : List Cond) (rm : Room) (av : List Value) (w : va_W) {T : Type} (w1 : T → va_W) (post : Int32 → T → Prop) (mc ms : Nat) : Prop :=
  ∀ sz : Nat, Met l y ws rm (va_Pc av (PX D cy w sz)) (va_Qi post (fun u t => va_P D vwCl (w1 u) t.heap ∧ va_D (va_A w sz) (w1 u)) (va_A w sz)) mc ms (va_A w sz)
section LOF
variable {l : Launch} {D : va_G} {cy : Nat → ClassId} {y : MethodName} {ws ws' : List Cond} {rm : Room} {av : List Value} {w : va_W}
theorem cLI.of {T : Type} {w1 : T → va_W} {post : Int32 → T → Prop} {mc ms : Nat} {cc : ByteArray} {maxL : Nat} {hh : List (Nat × Nat × Nat × Nat)} (hy : plainName y.cls = true) (hw : ws = Cond.codeWith y cc maxL (some .int) hh :: ws') (hlen : (lg_sl av).length ≤ maxL)
    (body : ∀ (p : Program) (e : Env) (s : State) (m : MethodId) (args : Array Value) (below : List Frame) (meth : Method) (c : Code) (H0 : Heap) (A : Nat → Prop) (Q : State → Prop), p.tables.exec = Jvm.exec → c.code = cc → c.maxLocals = maxL → s.vm.findClass y.cls = some m.cls → (∀ w ∈ ws, w.before args s = true) → va_P D vwCl w H0 → KW D cy s → va_D A w → va_S A H0 H0 [] → (∀ q : Nat, H0.size ≤ q → A q) → XW s → XZ A s H0 → c.exceptionTable.toList = tableOf hh →
      (∀ {pc : Nat} {ls : Array Slot} {v : Int32} {H : Heap} {locs : List Loc} (u : T), decode cc pc = .ok (.ireturn, 1) → va_P D vwCl (w1 u) H → va_D A (w1 u) → va_S A H0 H locs → post v u → W p l e rm s m args below meth c H locs mc ms Q (F0 m pc ls [.int v])) →
      ∀ ls : Array Slot, lv_has ls maxL (lv_args 0 av) → W p l e rm s m args below meth c H0 [] 0 0 Q (F0 m 0 ls [])) : cLI l D cy y ws rm av w w1 post mc ms := by
  intro sz
  refine va_MetW (cc := cc) (maxL := maxL) (ret := some .int) (hh := hh) hy hw ?_
  intro p e s m args below meth c s₁ B hml hv
  have htab := vx_table (x := y) B (atoms_spec (ws := ws) B.pre _ (by rw [hw]; exact List.mem_cons_self))
  obtain ⟨rfl, hsz, hP, hK, hD0, hXW, hXZ⟩ := hv
  subst hsz
  have hD := hD0.self (sz := s.heap.size)
  have hl := lv_entry av hlen
  rw [lg_entry_eq]
  refine body p e s m _ below meth c s.heap (va_A w s.heap.size) _ B.exec B.bytes hml (findClass_of_methodNamed B.named) (atoms_spec (ws := ws) B.pre) hP hK hD va_S.rf (fun q h => Or.inr h) hXW hXZ htab ?_ _ hl
  intro pc ls v H locs u hd hP1 hD1 hS hp
  exact W.iret B.exec B.bytes B.returns (fun t ht hW => ⟨⟨v, u, rfl, hp, by rw [ht]; exact hP1, hD1⟩, hS.F ht⟩) hS.2.2 hd B.notSynchronized
end LOF
section XLC
variable {p : Program} {l : Launch} {e : Env} {R : Room} {s : State} {m : MethodId} {args : Array Value} {below : List Frame} {meth : Method} {c : Code} {H : Heap} {locs : List Loc} {cells slots mc ms : Nat} {Q : State → Prop}
variable {cc : ByteArray} {pc : Nat} {ls : Array Slot} {rest st : List Value} {D : va_G} {cy : Nat → ClassId} {A0 : Nat → Prop} {a : Array Value} {H0 : Heap} {wc Y w wa : va_W} {ex : String → Prop} {As : List Value} {b : Nat}
theorem xo_preV {sz : Nat} {C : String} (hK : KW D cy s) (hsz : H.size = sz) (hP : va_P D vwCl w H) (hD : va_D A0 w) (hXW : XW s) (hXZ : XZ (va_A w sz) s H) (hrecv : ∃ cellB : Cell, H[b]? = some cellB ∧ cellB.vm.isStatics = false ∧ s.vm.findClass C = some cellB.cls) : PreV s H C b (va_Pc (.ref b :: As) (PX D cy w sz)) As :=
  ⟨fun a U g mk q => by obtain ⟨q0, q1⟩ := q; exact ⟨q0, q1.calling⟩, hrecv, fun U hU hW => ⟨rfl, by rw [hU]; exact hsz, by rw [hU]; exact hP, hK.warm hW, hD.weaken (fun _ _ _ _ => trivial), hXW.warm hW, by rw [hU]; exact hXZ.moved hW.alike⟩⟩
theorem xo_preS {sz : Nat} (hK : KW D cy s) (hsz : H.size = sz) (hP : va_P D vwCl w H) (hD : va_D A0 w) (hXW : XW s) (hXZ : XZ (va_A w sz) s H) : PreS s H (va_Pc As (PX D cy w sz)) As :=
  ⟨fun a U g mk q => by obtain ⟨q0, q1⟩ := q; exact ⟨q0, q1.calling⟩, fun U hU hW => ⟨rfl, by rw [hU]; exact hsz, by rw [hU]; exact hP, hK.warm hW, hD.weaken (fun _ _ _ _ => trivial), hXW.warm hW, by rw [hU]; exact hXZ.moved hW.alike⟩⟩
theorem XZ.at {A : Nat → Prop} (hXZ : XZ A s H0) (hS : va_S A H0 H locs) (hD : va_D A Y) (hA : ∀ q, H0.size ≤ q → A q) (hs : ∀ q ∈ w, q ∈ Y) : XZ (va_A w H.size) s H := (hXZ.kept hS.2.1).narrow (va_fri hS hD hA hs)
theorem xl_calli {T : Type} {w1 : T → va_W} {post : Int32 → T → Prop} (hr : vx_Run p l e R s m args below meth c H locs cells slots mc ms (F0 m pc ls st) rest (va_Qi post (fun u t => va_P D vwCl (w1 u) t.heap ∧ va_D (va_A wc H.size) (w1 u)) (va_A wc H.size) a) (vx_X (fun _ : Unit => True) (BXt D wc ex H.size) (va_A wc H.size)) (va_A wc H.size)) (hS : va_S A0 H0 H locs) (hP : va_P D vwCl (wc ++ Y) H) (hD : va_D A0 (wc ++ Y)) (hA : ∀ q, H0.size ≤ q → A0 q)
    (kx : ∀ (E : String) (ce : Cell) (q9 : Addr) (H1 : Heap) (locs1 : List Loc), ex E → va_P D vwCl (wc ++ Y) H1 → va_D A0 (wc ++ Y) → va_S A0 H0 H1 locs1 → H1[q9]? = some ce → ce.vm = .none → s.vm.findClass E = some ce.cls → vx_W p l e R s m args below meth c H1 locs1 (cells + mc) (slots + ms) Q (F0 m pc ls rest) q9)
    (kk : ∀ (r : Int32) (u : T) (H1 : Heap) (locs1 : List Loc), post r u → va_P D vwCl (w1 u ++ Y) H1 → va_D A0 (w1 u ++ Y) → va_S A0 H0 H1 locs1 → W p l e R s m args below meth c H1 locs1 (cells + mc) (slots + ms) Q (F0 m (pc + 3) ls (.int r :: rest))) : W p l e R s m args below meth c H locs cells slots Q (F0 m pc ls st) := by
  have hF := va_fri hS hD hA (wc := wc) (fun q hq => List.mem_append_left _ hq)
  refine vx_calli hr hS (fun q _ h => hF q h) hF (fun q _ h => hF q h) (fun E ce q9 u t H1 locs1 ht hvm hp hB hz hk hS1 h1 h2 h3 => ?_) (fun r u t H1 locs1 ht hvm hp hB hz hk hS1 => ?_)
  · obtain ⟨hex, hb1, hb2⟩ := hB
    rw [ht] at hb1
    have h9 := va_apartL hP hD hF hk hb1 hb2
    exact kx E ce q9 H1 locs1 hex h9.1 h9.2 hS1 h1 h2 h3
  · rw [ht] at hB
    have h9 := va_apartL hP hD hF hk hB.1 hB.2
    exact kk r u H1 locs1 hp h9.1 h9.2 hS1
theorem xl_callv {T : Type} {w1 : T → va_W} {post : T → Prop} (hr : vx_Run p l e R s m args below meth c H locs cells slots mc ms (F0 m pc ls st) rest (va_Qv post (fun u t => va_P D vwCl (w1 u) t.heap ∧ va_D (va_A wc H.size) (w1 u)) (va_A wc H.size) a) (vx_X (fun _ : Unit => True) (BXt D wc ex H.size) (va_A wc H.size)) (va_A wc H.size)) (hS : va_S A0 H0 H locs) (hP : va_P D vwCl (wc ++ Y) H) (hD : va_D A0 (wc ++ Y)) (hA : ∀ q, H0.size ≤ q → A0 q)
    (kx : ∀ (E : String) (ce : Cell) (q9 : Addr) (H1 : Heap) (locs1 : List Loc), ex E → va_P D vwCl (wc ++ Y) H1 → va_D A0 (wc ++ Y) → va_S A0 H0 H1 locs1 → H1[q9]? = some ce → ce.vm = .none → s.vm.findClass E = some ce.cls → vx_W p l e R s m args below meth c H1 locs1 (cells + mc) (slots + ms) Q (F0 m pc ls rest) q9)
    (kk : ∀ (u : T) (H1 : Heap) (locs1 : List Loc), post u → va_P D vwCl (w1 u ++ Y) H1 → va_D A0 (w1 u ++ Y) → va_S A0 H0 H1 locs1 → W p l e R s m args below meth c H1 locs1 (cells + mc) (slots + ms) Q (F0 m (pc + 3) ls (rest))) : W p l e R s m args below meth c H locs cells slots Q (F0 m pc ls st) := by
  have hF := va_fri hS hD hA (wc := wc) (fun q hq => List.mem_append_left _ hq)
  refine vx_callv hr hS (fun q _ h => hF q h) hF (fun q _ h => hF q h) (fun E ce q9 u t H1 locs1 ht hvm hp hB hz hk hS1 h1 h2 h3 => ?_) (fun u t H1 locs1 ht hvm hp hB hz hk hS1 => ?_)
  · obtain ⟨hex, hb1, hb2⟩ := hB
    rw [ht] at hb1
    have h9 := va_apartL hP hD hF hk hb1 hb2
    exact kx E ce q9 H1 locs1 hex h9.1 h9.2 hS1 h1 h2 h3
  · rw [ht] at hB
    have h9 := va_apartL hP hD hF hk hB.1 hB.2
    exact kk u H1 locs1 hp h9.1 h9.2 hS1
theorem xl_callf {T : Type} {w1 : T → va_W} {post : UInt32 → T → Prop} (hr : vx_Run p l e R s m args below meth c H locs cells slots mc ms (F0 m pc ls st) rest (va_Qf post (fun u t => va_P D vwCl (w1 u) t.heap ∧ va_D (va_A wc H.size) (w1 u)) (va_A wc H.size) a) (vx_X (fun _ : Unit => True) (BXt D wc ex H.size) (va_A wc H.size)) (va_A wc H.size)) (hS : va_S A0 H0 H locs) (hP : va_P D vwCl (wc ++ Y) H) (hD : va_D A0 (wc ++ Y)) (hA : ∀ q, H0.size ≤ q → A0 q)
    (kx : ∀ (E : String) (ce : Cell) (q9 : Addr) (H1 : Heap) (locs1 : List Loc), ex E → va_P D vwCl (wc ++ Y) H1 → va_D A0 (wc ++ Y) → va_S A0 H0 H1 locs1 → H1[q9]? = some ce → ce.vm = .none → s.vm.findClass E = some ce.cls → vx_W p l e R s m args below meth c H1 locs1 (cells + mc) (slots + ms) Q (F0 m pc ls rest) q9)
    (kk : ∀ (r : UInt32) (u : T) (H1 : Heap) (locs1 : List Loc), post r u → va_P D vwCl (w1 u ++ Y) H1 → va_D A0 (w1 u ++ Y) → va_S A0 H0 H1 locs1 → W p l e R s m args below meth c H1 locs1 (cells + mc) (slots + ms) Q (F0 m (pc + 3) ls (.float r :: rest))) : W p l e R s m args below meth c H locs cells slots Q (F0 m pc ls st) := by
  have hF := va_fri hS hD hA (wc := wc) (fun q hq => List.mem_append_left _ hq)
  refine vx_callf hr hS (fun q _ h => hF q h) hF (fun q _ h => hF q h) (fun E ce q9 u t H1 locs1 ht hvm hp hB hz hk hS1 h1 h2 h3 => ?_) (fun r u t H1 locs1 ht hvm hp hB hz hk hS1 => ?_)
  · obtain ⟨hex, hb1, hb2⟩ := hB
    rw [ht] at hb1
    have h9 := va_apartL hP hD hF hk hb1 hb2
    exact kx E ce q9 H1 locs1 hex h9.1 h9.2 hS1 h1 h2 h3
  · rw [ht] at hB
    have h9 := va_apartL hP hD hF hk hB.1 hB.2
    exact kk r u H1 locs1 hp h9.1 h9.2 hS1
end XLC
theorem xc_IA : Cond.castable "java/lang/IllegalArgumentException" "java/lang/IllegalArgumentException" ∈ tables_1 := by decide +kernel
theorem xc_IO : Cond.castable "java/lang/IndexOutOfBoundsException" "java/lang/IndexOutOfBoundsException" ∈ tables_1 := by decide +kernel
theorem xc_IS : Cond.castable "java/lang/IllegalStateException" "java/lang/IllegalStateException" ∈ tables_1 := by decide +kernel
/-- the int that the law makes of an exception -/
def cdE (E : String) : Int32 := if E = eIO then -30 else if E = eIA then -20 else -10
def wD {T : Type} (W : va_W) (w1 : T → va_W) (u : Option T) : va_W := match u with
  | some t => w1 t
  | none => W
def pD {T : Type} (post : Int32 → T → Prop) (ex : String → Prop) : Int32 → Option T → Prop := fun r u => (∃ t, u = some t ∧ post r t) ∨ (∃ E, u = none ∧ ex E ∧ r = cdE E)
theorem cd_O : cdE eIO = -30 := by decide +kernel
theorem cd_A : cdE eIA = -20 := by decide +kernel
theorem cd_S : cdE eIS = -10 := by decide +kernel
section XNC
variable {p : Program} {l : Launch} {e : Env} {R : Room} {s : State} {m : MethodId} {args : Array Value} {below : List Frame} {meth : Method} {c : Code} {H : Heap} {locs : List Loc} {cells slots mc ms : Nat} {Q : State → Prop}
variable {cc : ByteArray} {pc : Nat} {ls : Array Slot} {rest st : List Value} {D : va_G} {cy : Nat → ClassId} {A0 : Nat → Prop} {a : Array Value} {H0 : Heap} {wc : va_W} {ex : String → Prop}
theorem xn_calli {T : Type} {w1 : T → va_W} {post : Int32 → T → Prop} (hr : vx_Run p l e R s m args below meth c H locs cells slots mc ms (F0 m pc ls st) rest (va_Qi post (fun u t => va_P D vwCl (w1 u) t.heap ∧ va_D (va_A wc H.size) (w1 u)) (va_A wc H.size) a) (vx_X (fun _ : Unit => True) (BXt D wc ex H.size) (va_A wc H.size)) (va_A wc H.size)) (hS : va_S A0 H0 H locs) (hP : va_P D vwCl wc H) (hD : va_D A0 wc) (hA : ∀ q, H0.size ≤ q → A0 q)
    (kx : ∀ (E : String) (ce : Cell) (q9 : Addr) (H1 : Heap) (locs1 : List Loc), ex E → va_P D vwCl wc H1 → va_D A0 wc → va_S A0 H0 H1 locs1 → H1[q9]? = some ce → ce.vm = .none → s.vm.findClass E = some ce.cls → vx_W p l e R s m args below meth c H1 locs1 (cells + mc) (slots + ms) Q (F0 m pc ls rest) q9)
    (kk : ∀ (r : Int32) (u : T) (H1 : Heap) (locs1 : List Loc), post r u → va_P D vwCl (w1 u) H1 → va_D A0 (w1 u) → va_S A0 H0 H1 locs1 → W p l e R s m args below meth c H1 locs1 (cells + mc) (slots + ms) Q (F0 m (pc + 3) ls (.int r :: rest))) : W p l e R s m args below meth c H locs cells slots Q (F0 m pc ls st) :=
  xl_calli (Y := []) hr hS (by rw [List.append_nil]; exact hP) (by rw [List.append_nil]; exact hD) hA (fun E ce q9 H1 l1 h1 h2 h3 => kx E ce q9 H1 l1 h1 (by rw [List.append_nil] at h2; exact h2) (by rw [List.append_nil] at h3; exact h3)) (fun r u H1 l1 h1 h2 h3 => kk r u H1 l1 h1 (by rw [List.append_nil] at h2; exact h2) (by rw [List.append_nil] at h3; exact h3))
theorem xn_callv {T : Type} {w1 : T → va_W} {post : T → Prop} (hr : vx_Run p l e R s m args below meth c H locs cells slots mc ms (F0 m pc ls st) rest (va_Qv post (fun u t => va_P D vwCl (w1 u) t.heap ∧ va_D (va_A wc H.size) (w1 u)) (va_A wc H.size) a) (vx_X (fun _ : Unit => True) (BXt D wc ex H.size) (va_A wc H.size)) (va_A wc H.size)) (hS : va_S A0 H0 H locs) (hP : va_P D vwCl wc H) (hD : va_D A0 wc) (hA : ∀ q, H0.size ≤ q → A0 q)
    (kx : ∀ (E : String) (ce : Cell) (q9 : Addr) (H1 : Heap) (locs1 : List Loc), ex E → va_P D vwCl wc H1 → va_D A0 wc → va_S A0 H0 H1 locs1 → H1[q9]? = some ce → ce.vm = .none → s.vm.findClass E = some ce.cls → vx_W p l e R s m args below meth c H1 locs1 (cells + mc) (slots + ms) Q (F0 m pc ls rest) q9)
    (kk : ∀ (u : T) (H1 : Heap) (locs1 : List Loc), post u → va_P D vwCl (w1 u) H1 → va_D A0 (w1 u) → va_S A0 H0 H1 locs1 → W p l e R s m args below meth c H1 locs1 (cells + mc) (slots + ms) Q (F0 m (pc + 3) ls (rest))) : W p l e R s m args below meth c H locs cells slots Q (F0 m pc ls st) :=
  xl_callv (Y := []) hr hS (by rw [List.append_nil]; exact hP) (by rw [List.append_nil]; exact hD) hA (fun E ce q9 H1 l1 h1 h2 h3 => kx E ce q9 H1 l1 h1 (by rw [List.append_nil] at h2; exact h2) (by rw [List.append_nil] at h3; exact h3)) (fun u H1 l1 h1 h2 h3 => kk u H1 l1 h1 (by rw [List.append_nil] at h2; exact h2) (by rw [List.append_nil] at h3; exact h3))
theorem xn_callf {T : Type} {w1 : T → va_W} {post : UInt32 → T → Prop} (hr : vx_Run p l e R s m args below meth c H locs cells slots mc ms (F0 m pc ls st) rest (va_Qf post (fun u t => va_P D vwCl (w1 u) t.heap ∧ va_D (va_A wc H.size) (w1 u)) (va_A wc H.size) a) (vx_X (fun _ : Unit => True) (BXt D wc ex H.size) (va_A wc H.size)) (va_A wc H.size)) (hS : va_S A0 H0 H locs) (hP : va_P D vwCl wc H) (hD : va_D A0 wc) (hA : ∀ q, H0.size ≤ q → A0 q)
    (kx : ∀ (E : String) (ce : Cell) (q9 : Addr) (H1 : Heap) (locs1 : List Loc), ex E → va_P D vwCl wc H1 → va_D A0 wc → va_S A0 H0 H1 locs1 → H1[q9]? = some ce → ce.vm = .none → s.vm.findClass E = some ce.cls → vx_W p l e R s m args below meth c H1 locs1 (cells + mc) (slots + ms) Q (F0 m pc ls rest) q9)
    (kk : ∀ (r : UInt32) (u : T) (H1 : Heap) (locs1 : List Loc), post r u → va_P D vwCl (w1 u) H1 → va_D A0 (w1 u) → va_S A0 H0 H1 locs1 → W p l e R s m args below meth c H1 locs1 (cells + mc) (slots + ms) Q (F0 m (pc + 3) ls (.float r :: rest))) : W p l e R s m args below meth c H locs cells slots Q (F0 m pc ls st) :=
  xl_callf (Y := []) hr hS (by rw [List.append_nil]; exact hP) (by rw [List.append_nil]; exact hD) hA (fun E ce q9 H1 l1 h1 h2 h3 => kx E ce q9 H1 l1 h1 (by rw [List.append_nil] at h2; exact h2) (by rw [List.append_nil] at h3; exact h3)) (fun r u H1 l1 h1 h2 h3 => kk r u H1 l1 h1 (by rw [List.append_nil] at h2; exact h2) (by rw [List.append_nil] at h3; exact h3))
end XNC
set_option maxHeartbeats 4000000 in
set_option maxRecDepth 100000 in
theorem c_L_sets (l : Launch) (hfl : l.stackTraces = false) (D : va_G) (cy : Nat → ClassId) (ad : Nat → Nat → Nat) (σ : SF) (er : Int64) (ofd de bo : Nat → Option Nat) (ql : Nat → Nat) (qs : Nat → Nat → Nat) (tv : Nat → Nat) (f t q : Int32) : cXI l D cy yL_sets wsL_sets rmL_sets [.ref (ad 0 0), .int f, .int t, .int q] (WG ad cy (σ 0 0) (σ 0 3) σ er ofd de bo ql qs tv) (T := Unit) (fun _ => WG ad cy (σ 0 0) (σ 0 3) ((seF σ (cN f) (cN t) (cN q))) er ofd de bo ql qs tv) (fun r _ => (okR f 0 10 ∧ okR t 0 10 ∧ okR q 0 10) ∧ r = nI 0) (fun E => ¬ (okR f 0 10 ∧ okR t 0 10 ∧ okR q 0 10) ∧ E = eIA) 1 6 := by
  intro sz
  refine vx_ofW (cc := cL_sets) (maxL := 4) (ret := (some .int)) (by decide) rfl ?_
  intro p e s m args below meth c s₁ B hml hnt hv
  obtain ⟨rfl, hsz, hP, hK, hD0, hXW, hXZ⟩ := hv
  subst hsz
  have hD := hD0.self (sz := s.heap.size)
  have hl := lv_entry [.ref (ad 0 0), .int f, .int t, .int q] (n := 4) (Nat.le_of_ble_eq_true rfl)
  rw [lg_entry_eq]
  have hx := B.exec
  have hb := B.bytes
  have hown := findClass_of_methodNamed B.named
  have hts := atoms_spec (ws := wsL_sets) B.pre
  have hA : ∀ q : Nat, s.heap.size ≤ q → va_A (WG ad cy (σ 0 0) (σ 0 3) σ er ofd de bo ql qs tv) s.heap.size q := fun q h => Or.inr h
  generalize (lg_sl [.ref (ad 0 0), .int f, .int t, .int q] ++ List.replicate (4 - (lg_sl [.ref (ad 0 0), .int f, .int t, .int q]).length) Slot.unset).toArray = ls at hl ⊢
  refine lv_aload_n hx hb dL_sets_0 rfl (lv_at hl 0 rfl) ?_
  refine lv_iload_n hx hb dL_sets_1 rfl (lv_at hl 1 rfl) ?_
  refine lv_iload_n hx hb dL_sets_2 rfl (lv_at hl 2 rfl) ?_
  refine lv_iload_n hx hb dL_sets_3 rfl (lv_at hl 3 rfl) ?_
  refine xn_callv (vx_runV (As := [.int f, .int t, .int q]) (rest := []) ⟨hx, hb, hml, hown, hts⟩ (c_X5_setSeats l hfl D cy ad σ er ofd de bo ql qs tv f t q s.heap.size) (cwV 3 hts gL_sets_X5_setSeats rfl rfl rfl hdX5_setSeats ⟨Nat.le_of_ble_eq_true rfl, Nat.le_of_ble_eq_true rfl⟩) (xo_preV hK rfl hP hD hXW hXZ (va_recv hK.1 hP (ci := 5) (q0 := 0) rfl rfl)) rfl rfl hl.1 rfl (lv_room (Nat.le_of_ble_eq_true rfl)) dL_sets_4 ⟨Nat.le_of_ble_eq_true rfl, Nat.le_of_ble_eq_true rfl⟩) va_S.rf hP hD hA (fun E ce q9 H locs hex hP hD hS hc9 hv9 hcl9 => ?_) (fun u H locs hr hP hD hS => ?_)
  · exact vx_out (fun x hx => absurd (hnt x hx) id) B.notSynchronized hc9 hv9 hcl9 (fun t ht ha => ⟨(), trivial, ⟨hex, by rw [ht]; exact hP, hD⟩, hS.F ht⟩) hS.2.2 (Nat.le_of_ble_eq_true rfl) (Nat.le_of_ble_eq_true rfl)
  · refine lv_iconst (v := nI 0) hx hb dL_sets_7 (by decide) ?_
    refine W.widen (k := 1) (n := 6) (Nat.le_of_ble_eq_true rfl) (Nat.le_of_ble_eq_true rfl) ?_
    refine vx_ret ?_
    exact W.iret B.exec B.bytes B.returns (fun t ht hW => ⟨⟨nI 0, u, rfl, ⟨hr, rfl⟩, by rw [ht]; exact hP, hD⟩, hS.F ht⟩) hS.2.2 dL_sets_8 B.notSynchronized
set_option maxHeartbeats 4000000 in
set_option maxRecDepth 100000 in
theorem c_L_does_0 (l : Launch) (hfl : l.stackTraces = false) (D : va_G) (cy : Nat → ClassId) (ad : Nat → Nat → Nat) (σ : SF) (er : Int64) (ofd de bo : Nat → Option Nat) (ql : Nat → Nat) (qs : Nat → Nat → Nat) (tv : Nat → Nat) (f t q : Int32) (x3 : Int32) : cLI l D cy yL_does wsL_does rmL_does [.ref (ad 0 0), .int (nI 0), .int f, .int t, .int q, .int x3] (WG ad cy (σ 0 0) (σ 0 3) σ er ofd de bo ql qs tv) (T := Option (Unit)) (wD (WG ad cy (σ 0 0) (σ 0 3) σ er ofd de bo ql qs tv) (fun _ => WG ad cy (σ 0 0) (σ 0 3) ((seF σ (cN f) (cN t) (cN q))) er ofd de bo ql qs tv)) (pD (fun r _ => (okR f 0 10 ∧ okR t 0 10 ∧ okR q 0 10) ∧ r = nI 0) (fun E => ¬ (okR f 0 10 ∧ okR t 0 10 ∧ okR q 0 10) ∧ E = eIA)) 2 28 := by
  refine cLI.of (cc := cL_does) (maxL := 7) (hh := [(0, 108, 109, 45), (0, 108, 114, 47), (0, 108, 119, 49)]) (by decide) rfl (Nat.le_of_ble_eq_true rfl) ?_
  intro p e s m args below meth c H0 A Q hx hb hml hown hts hP hK hD hS hA hXW hXZ htab hret ls hl
  obtain ⟨H, locs, hH, hlo⟩ : ∃ (H : Heap) (locs : List Loc), H = H0 ∧ locs = [] := ⟨_, _, rfl, rfl⟩
  rw [← hH] at hP
  rw [show va_S A H0 H0 [] = va_S A H0 H locs by rw [hH, hlo]] at hS
  rw [show W p l e rmL_does s m args below meth c H0 [] 0 0 Q (F0 m 0 ls []) = W p l e rmL_does s m args below meth c H locs 0 0 Q (F0 m 0 ls []) by rw [hH, hlo]]
  refine lv_iload_n hx hb dL_does_0 rfl (lv_at hl 1 rfl) ?_
  refine lv_if_ne (tgt := 15) hx hb dL_does_1 (by decide) (fun q => by first | exact absurd q (by decide) | exact absurd (by decide) q) (fun _ => ?_)
  refine lv_aload_n hx hb dL_does_4 rfl (lv_at hl 0 rfl) ?_
  refine lv_iload_n hx hb dL_does_5 rfl (lv_at hl 2 rfl) ?_
  refine lv_iload_n hx hb dL_does_6 rfl (lv_at hl 3 rfl) ?_
  refine lv_iload hx hb dL_does_7 (lv_at hl 4 rfl) ?_
  refine xn_calli (vx_runS (As := [.ref ((ad 0 0)), .int f, .int t, .int q]) (rest := []) ⟨hx, hb, hml, hown, hts⟩ (c_L_sets l hfl D cy ad σ er ofd de bo ql qs tv f t q H.size) (va_cwS 4 hts gL_does_L_sets rfl rfl rfl hdL_sets.2 ⟨Nat.le_of_ble_eq_true rfl, Nat.le_of_ble_eq_true rfl⟩) (xo_preS hK rfl hP hD hXW (hXZ.at hS hD hA (fun _ hq => hq))) rfl rfl hl.1 rfl (lv_room (Nat.le_of_ble_eq_true rfl)) dL_does_9 ⟨Nat.le_of_ble_eq_true rfl, Nat.le_of_ble_eq_true rfl⟩) hS hP hD hA (fun E ce q9 H locs hex hP hD hS hc9 hv9 hcl9 => ?_) (fun r u H locs hr hP hD hS => ?_)
  · skip
    have hex0 := hex
    rcases hex with hex
    · skip
      obtain rfl : E = eIA := by first | exact hex.2 | exact hex.2.2 | exact hex.2.2.2
      refine vx_catch hown [⟨0, 108, 109, 45⟩] ⟨0, 108, 114, 47⟩ [⟨0, 108, 119, 49⟩] (htab.trans rfl) (List.forall_mem_cons.mpr ⟨Or.inr ⟨by decide, "java/lang/IndexOutOfBoundsException", hts _ (List.mem_of_getElem? (i := 1) rfl), hXW.2.1 (eIA, eIO) (by decide)⟩, (fun _ h => absurd h List.not_mem_nil)⟩) rfl (by decide) (hts _ (List.mem_of_getElem? (i := 2) rfl)) (va_Nw.use rfl (hXW.1 _ xc_IA rfl)) hc9 hv9 hcl9 ?_
      refine lv_astore (lv' := [(6, .ref q9), (0, .ref ((ad 0 0))), (1, .int (nI 0)), (2, .int f), (3, .int t), (4, .int q), (5, .int x3)]) hx hb dL_does_114 hl (by decide) rfl (fun ls hl => ?_)
      refine lv_bipush (v := -20) hx hb dL_does_116 (by decide) ?_
      refine W.widen (k := 2) (n := 28) (Nat.le_of_ble_eq_true rfl) (Nat.le_of_ble_eq_true rfl) ?_
      exact hret none dL_does_118 hP hD hS (Or.inr ⟨eIA, rfl, hex0, (cd_A).symm⟩)
  · skip
    refine lv_goto (tgt := 108) hx hb dL_does_12 (by decide) ?_
    refine W.widen (k := 2) (n := 28) (Nat.le_of_ble_eq_true rfl) (Nat.le_of_ble_eq_true rfl) ?_
    exact hret (some u) dL_does_108 hP hD hS (Or.inl ⟨u, rfl, hr⟩)
set_option maxHeartbeats 4000000 in
set_option maxRecDepth 100000 in
theorem c_L_does_1 (l : Launch) (hfl : l.stackTraces = false) (D : va_G) (cy : Nat → ClassId) (ad : Nat → Nat → Nat) (σ : SF) (er : Int64) (ofd de bo : Nat → Option Nat) (ql : Nat → Nat) (qs : Nat → Nat → Nat) (tv : Nat → Nat) (hof : OF ad σ ofd) {n : Nat} (hI : Iv n σ) {dl : List Nat} (hDL : DL ad σ de dl) (f t q : Int32) (x3 : Int32) : cLI l D cy yL_does wsL_does rmL_does [.ref (ad 0 0), .int (nI 1), .int f, .int t, .int q, .int x3] (WG ad cy (σ 0 0) (σ 0 3) σ er ofd de bo ql qs tv) (T := Option (Nat × Nat × (Nat → Option Nat))) (wD (WG ad cy (σ 0 0) (σ 0 3) σ er ofd de bo ql qs tv) (fun u => WG ((adP ad (σ 0 0) u.1 u.2.1)) cy ((σ 0 0 + 1)) (σ 0 3) ((adF σ (cN f) (cN t) (cN q))) er ((va_up ofd (σ 0 0) (some u.1))) u.2.2 bo ql qs tv)) (pD (fun r u => (okR f 0 2 ∧ okR t 0 2) ∧ (f ≤ t ∧ okR q 1 1000) ∧ ¬ (σ 0 0 = 8 ∨ isSame σ f t q) ∧ r = nI (σ 0 0) ∧ ∃ dl2, DL (adP ad (σ 0 0) u.1 u.2.1) (adF σ (cN f) (cN t) (cN q)) u.2.2 dl2) (fun E => (¬ (okR f 0 2 ∧ okR t 0 2) ∧ E = eIO) ∨ ((okR f 0 2 ∧ okR t 0 2) ∧ ¬ (f ≤ t ∧ okR q 1 1000) ∧ E = eIA) ∨ ((okR f 0 2 ∧ okR t 0 2) ∧ (f ≤ t ∧ okR q 1 1000) ∧ (σ 0 0 = 8 ∨ isSame σ f t q) ∧ E = eIS))) 2 28 := by
  refine cLI.of (cc := cL_does) (maxL := 7) (hh := [(0, 108, 109, 45), (0, 108, 114, 47), (0, 108, 119, 49)]) (by decide) rfl (Nat.le_of_ble_eq_true rfl) ?_
  intro p e s m args below meth c H0 A Q hx hb hml hown hts hP hK hD hS hA hXW hXZ htab hret ls hl
  obtain ⟨H, locs, hH, hlo⟩ : ∃ (H : Heap) (locs : List Loc), H = H0 ∧ locs = [] := ⟨_, _, rfl, rfl⟩
  rw [← hH] at hP
  rw [show va_S A H0 H0 [] = va_S A H0 H locs by rw [hH, hlo]] at hS
  rw [show W p l e rmL_does s m args below meth c H0 [] 0 0 Q (F0 m 0 ls []) = W p l e rmL_does s m args below meth c H locs 0 0 Q (F0 m 0 ls []) by rw [hH, hlo]]
  refine lv_iload_n hx hb dL_does_0 rfl (lv_at hl 1 rfl) ?_
  refine lv_if_ne (tgt := 15) hx hb dL_does_1 (by decide) (fun _ => ?_) (fun q => by first | exact absurd q (by decide) | exact absurd (by decide) q)
  refine lv_iload_n hx hb dL_does_15 rfl (lv_at hl 1 rfl) ?_
  refine lv_iconst (v := nI 1) hx hb dL_does_16 (by decide) ?_
  refine lv_icmp_ne (tgt := 31) hx hb dL_does_17 (by decide) (fun q => by first | exact absurd q (by decide) | exact absurd (by decide) q) (fun _ => ?_)
  refine lv_aload_n hx hb dL_does_20 rfl (lv_at hl 0 rfl) ?_
  refine lv_iload_n hx hb dL_does_21 rfl (lv_at hl 2 rfl) ?_
  refine lv_iload_n hx hb dL_does_22 rfl (lv_at hl 3 rfl) ?_
  refine lv_iload hx hb dL_does_23 (lv_at hl 4 rfl) ?_
  refine xn_calli (vx_runV (As := [.int f, .int t, .int q]) (rest := []) ⟨hx, hb, hml, hown, hts⟩ (c_X5_addProduct l hfl D cy ad σ er ofd de bo ql qs tv hof hI hDL f t q H.size) (cwV 3 hts gL_does_X5_addProduct rfl rfl rfl hdX5_addProduct ⟨Nat.le_of_ble_eq_true rfl, Nat.le_of_ble_eq_true rfl⟩) (xo_preV hK rfl hP hD hXW (hXZ.at hS hD hA (fun _ hq => hq)) (va_recv hK.1 hP (ci := 5) (q0 := 0) rfl rfl)) rfl rfl hl.1 rfl (lv_room (Nat.le_of_ble_eq_true rfl)) dL_does_25 ⟨Nat.le_of_ble_eq_true rfl, Nat.le_of_ble_eq_true rfl⟩) hS hP hD hA (fun E ce q9 H locs hex hP hD hS hc9 hv9 hcl9 => ?_) (fun r u H locs hr hP hD hS => ?_)
  · skip
    have hex0 := hex
    rcases hex with hex | hex | hex
    · skip
      obtain rfl : E = eIO := by first | exact hex.2 | exact hex.2.2 | exact hex.2.2.2
      refine vx_catch hown [] ⟨0, 108, 109, 45⟩ [⟨0, 108, 114, 47⟩, ⟨0, 108, 119, 49⟩] (htab.trans rfl) (fun z hz => absurd hz List.not_mem_nil) rfl (by decide) (hts _ (List.mem_of_getElem? (i := 1) rfl)) (va_Nw.use rfl (hXW.1 _ xc_IO rfl)) hc9 hv9 hcl9 ?_
      refine lv_astore (lv' := [(6, .ref q9), (0, .ref ((ad 0 0))), (1, .int (nI 1)), (2, .int f), (3, .int t), (4, .int q), (5, .int x3)]) hx hb dL_does_109 hl (by decide) rfl (fun ls hl => ?_)
      refine lv_bipush (v := -30) hx hb dL_does_111 (by decide) ?_
      refine W.widen (k := 2) (n := 28) (Nat.le_of_ble_eq_true rfl) (Nat.le_of_ble_eq_true rfl) ?_
      exact hret none dL_does_113 hP hD hS (Or.inr ⟨eIO, rfl, hex0, (cd_O).symm⟩)
    · skip
      obtain rfl : E = eIA := by first | exact hex.2 | exact hex.2.2 | exact hex.2.2.2
      refine vx_catch hown [⟨0, 108, 109, 45⟩] ⟨0, 108, 114, 47⟩ [⟨0, 108, 119, 49⟩] (htab.trans rfl) (List.forall_mem_cons.mpr ⟨Or.inr ⟨by decide, "java/lang/IndexOutOfBoundsException", hts _ (List.mem_of_getElem? (i := 1) rfl), hXW.2.1 (eIA, eIO) (by decide)⟩, (fun _ h => absurd h List.not_mem_nil)⟩) rfl (by decide) (hts _ (List.mem_of_getElem? (i := 2) rfl)) (va_Nw.use rfl (hXW.1 _ xc_IA rfl)) hc9 hv9 hcl9 ?_
      refine lv_astore (lv' := [(6, .ref q9), (0, .ref ((ad 0 0))), (1, .int (nI 1)), (2, .int f), (3, .int t), (4, .int q), (5, .int x3)]) hx hb dL_does_114 hl (by decide) rfl (fun ls hl => ?_)
      refine lv_bipush (v := -20) hx hb dL_does_116 (by decide) ?_
      refine W.widen (k := 2) (n := 28) (Nat.le_of_ble_eq_true rfl) (Nat.le_of_ble_eq_true rfl) ?_
      exact hret none dL_does_118 hP hD hS (Or.inr ⟨eIA, rfl, hex0, (cd_A).symm⟩)
    · skip
      obtain rfl : E = eIS := by first | exact hex.2 | exact hex.2.2 | exact hex.2.2.2
      refine vx_catch hown [⟨0, 108, 109, 45⟩, ⟨0, 108, 114, 47⟩] ⟨0, 108, 119, 49⟩ [] (htab.trans rfl) (List.forall_mem_cons.mpr ⟨Or.inr ⟨by decide, "java/lang/IndexOutOfBoundsException", hts _ (List.mem_of_getElem? (i := 1) rfl), hXW.2.1 (eIS, eIO) (by decide)⟩, (List.forall_mem_cons.mpr ⟨Or.inr ⟨by decide, "java/lang/IllegalArgumentException", hts _ (List.mem_of_getElem? (i := 2) rfl), hXW.2.1 (eIS, eIA) (by decide)⟩, (fun _ h => absurd h List.not_mem_nil)⟩)⟩) rfl (by decide) (hts _ (List.mem_of_getElem? (i := 3) rfl)) (va_Nw.use rfl (hXW.1 _ xc_IS rfl)) hc9 hv9 hcl9 ?_
      refine lv_astore (lv' := [(6, .ref q9), (0, .ref ((ad 0 0))), (1, .int (nI 1)), (2, .int f), (3, .int t), (4, .int q), (5, .int x3)]) hx hb dL_does_119 hl (by decide) rfl (fun ls hl => ?_)
      refine lv_bipush (v := -10) hx hb dL_does_121 (by decide) ?_
      refine W.widen (k := 2) (n := 28) (Nat.le_of_ble_eq_true rfl) (Nat.le_of_ble_eq_true rfl) ?_
      exact hret none dL_does_123 hP hD hS (Or.inr ⟨eIS, rfl, hex0, (cd_S).symm⟩)
  · skip
    refine lv_goto (tgt := 108) hx hb dL_does_28 (by decide) ?_
    refine W.widen (k := 2) (n := 28) (Nat.le_of_ble_eq_true rfl) (Nat.le_of_ble_eq_true rfl) ?_
    exact hret (some u) dL_does_108 hP hD hS (Or.inl ⟨u, rfl, hr⟩)
set_option maxHeartbeats 4000000 in
set_option maxRecDepth 100000 in
theorem c_L_does_2 (l : Launch) (hfl : l.stackTraces = false) (D : va_G) (cy : Nat → ClassId) (ad : Nat → Nat → Nat) (σ : SF) (er : Int64) (ofd de bo : Nat → Option Nat) (ql : Nat → Nat) (qs : Nat → Nat → Nat) (tv : Nat → Nat) (hof : OF ad σ ofd) {n : Nat} (hI : Iv n σ) (v x : Int32) (x2 x3 : Int32) : cLI l D cy yL_does wsL_does rmL_does [.ref (ad 0 0), .int (nI 2), .int v, .int x, .int x2, .int x3] (WG ad cy (σ 0 0) (σ 0 3) σ er ofd de bo ql qs tv) (T := Option (Unit)) (wD (WG ad cy (σ 0 0) (σ 0 3) σ er ofd de bo ql qs tv) (fun _ => WG ad cy (σ 0 0) (σ 0 3) ((exF σ (cN v) (cN x))) er ofd de bo ql qs tv)) (pD (fun r _ => isP σ v ∧ okR x 0 20 ∧ r = nI (σ 6 (cN v))) (fun E => (¬ isP σ v ∧ E = eIO) ∨ (isP σ v ∧ ¬ okR x 0 20 ∧ E = eIA))) 2 28 := by
  refine cLI.of (cc := cL_does) (maxL := 7) (hh := [(0, 108, 109, 45), (0, 108, 114, 47), (0, 108, 119, 49)]) (by decide) rfl (Nat.le_of_ble_eq_true rfl) ?_
  intro p e s m args below meth c H0 A Q hx hb hml hown hts hP hK hD hS hA hXW hXZ htab hret ls hl
  obtain ⟨H, locs, hH, hlo⟩ : ∃ (H : Heap) (locs : List Loc), H = H0 ∧ locs = [] := ⟨_, _, rfl, rfl⟩
  rw [← hH] at hP
  rw [show va_S A H0 H0 [] = va_S A H0 H locs by rw [hH, hlo]] at hS
  rw [show W p l e rmL_does s m args below meth c H0 [] 0 0 Q (F0 m 0 ls []) = W p l e rmL_does s m args below meth c H locs 0 0 Q (F0 m 0 ls []) by rw [hH, hlo]]
  refine lv_iload_n hx hb dL_does_0 rfl (lv_at hl 1 rfl) ?_
  refine lv_if_ne (tgt := 15) hx hb dL_does_1 (by decide) (fun _ => ?_) (fun q => by first | exact absurd q (by decide) | exact absurd (by decide) q)
  refine lv_iload_n hx hb dL_does_15 rfl (lv_at hl 1 rfl) ?_
  refine lv_iconst (v := nI 1) hx hb dL_does_16 (by decide) ?_
  refine lv_icmp_ne (tgt := 31) hx hb dL_does_17 (by decide) (fun _ => ?_) (fun q => by first | exact absurd q (by decide) | exact absurd (by decide) q)
  refine lv_iload_n hx hb dL_does_31 rfl (lv_at hl 1 rfl) ?_
  refine lv_iconst (v := nI 2) hx hb dL_does_32 (by decide) ?_
  refine lv_icmp_ne (tgt := 45) hx hb dL_does_33 (by decide) (fun q => by first | exact absurd q (by decide) | exact absurd (by decide) q) (fun _ => ?_)
  refine lv_aload_n hx hb dL_does_36 rfl (lv_at hl 0 rfl) ?_
  refine lv_iload_n hx hb dL_does_37 rfl (lv_at hl 2 rfl) ?_
  refine lv_iload_n hx hb dL_does_38 rfl (lv_at hl 3 rfl) ?_
  refine xn_calli (vx_runV (As := [.int v, .int x]) (rest := []) ⟨hx, hb, hml, hown, hts⟩ (c_X5_setExpected l hfl D cy ad σ er ofd de bo ql qs tv hof hI v x H.size) (cwV 2 hts gL_does_X5_setExpected rfl rfl rfl hdX5_setExpected ⟨Nat.le_of_ble_eq_true rfl, Nat.le_of_ble_eq_true rfl⟩) (xo_preV hK rfl hP hD hXW (hXZ.at hS hD hA (fun _ hq => hq)) (va_recv hK.1 hP (ci := 5) (q0 := 0) rfl rfl)) rfl rfl hl.1 rfl (lv_room (Nat.le_of_ble_eq_true rfl)) dL_does_39 ⟨Nat.le_of_ble_eq_true rfl, Nat.le_of_ble_eq_true rfl⟩) hS hP hD hA (fun E ce q9 H locs hex hP hD hS hc9 hv9 hcl9 => ?_) (fun r u H locs hr hP hD hS => ?_)
  · skip
    have hex0 := hex
    rcases hex with hex | hex
    · skip
      obtain rfl : E = eIO := by first | exact hex.2 | exact hex.2.2 | exact hex.2.2.2
      refine vx_catch hown [] ⟨0, 108, 109, 45⟩ [⟨0, 108, 114, 47⟩, ⟨0, 108, 119, 49⟩] (htab.trans rfl) (fun z hz => absurd hz List.not_mem_nil) rfl (by decide) (hts _ (List.mem_of_getElem? (i := 1) rfl)) (va_Nw.use rfl (hXW.1 _ xc_IO rfl)) hc9 hv9 hcl9 ?_
      refine lv_astore (lv' := [(6, .ref q9), (0, .ref ((ad 0 0))), (1, .int (nI 2)), (2, .int v), (3, .int x), (4, .int x2), (5, .int x3)]) hx hb dL_does_109 hl (by decide) rfl (fun ls hl => ?_)
      refine lv_bipush (v := -30) hx hb dL_does_111 (by decide) ?_
      refine W.widen (k := 2) (n := 28) (Nat.le_of_ble_eq_true rfl) (Nat.le_of_ble_eq_true rfl) ?_
      exact hret none dL_does_113 hP hD hS (Or.inr ⟨eIO, rfl, hex0, (cd_O).symm⟩)
    · skip
      obtain rfl : E = eIA := by first | exact hex.2 | exact hex.2.2 | exact hex.2.2.2
      refine vx_catch hown [⟨0, 108, 109, 45⟩] ⟨0, 108, 114, 47⟩ [⟨0, 108, 119, 49⟩] (htab.trans rfl) (List.forall_mem_cons.mpr ⟨Or.inr ⟨by decide, "java/lang/IndexOutOfBoundsException", hts _ (List.mem_of_getElem? (i := 1) rfl), hXW.2.1 (eIA, eIO) (by decide)⟩, (fun _ h => absurd h List.not_mem_nil)⟩) rfl (by decide) (hts _ (List.mem_of_getElem? (i := 2) rfl)) (va_Nw.use rfl (hXW.1 _ xc_IA rfl)) hc9 hv9 hcl9 ?_
      refine lv_astore (lv' := [(6, .ref q9), (0, .ref ((ad 0 0))), (1, .int (nI 2)), (2, .int v), (3, .int x), (4, .int x2), (5, .int x3)]) hx hb dL_does_114 hl (by decide) rfl (fun ls hl => ?_)
      refine lv_bipush (v := -20) hx hb dL_does_116 (by decide) ?_
      refine W.widen (k := 2) (n := 28) (Nat.le_of_ble_eq_true rfl) (Nat.le_of_ble_eq_true rfl) ?_
      exact hret none dL_does_118 hP hD hS (Or.inr ⟨eIA, rfl, hex0, (cd_A).symm⟩)
  · skip
    refine lv_goto (tgt := 108) hx hb dL_does_42 (by decide) ?_
    refine W.widen (k := 2) (n := 28) (Nat.le_of_ble_eq_true rfl) (Nat.le_of_ble_eq_true rfl) ?_
    exact hret (some u) dL_does_108 hP hD hS (Or.inl ⟨u, rfl, hr⟩)
set_option maxHeartbeats 4000000 in
set_option maxRecDepth 100000 in
theorem c_L_does_3 (l : Launch) (hfl : l.stackTraces = false) (D : va_G) (cy : Nat → ClassId) (ad : Nat → Nat → Nat) (σ : SF) (er : Int64) (ofd de bo : Nat → Option Nat) (ql : Nat → Nat) (qs : Nat → Nat → Nat) (tv : Nat → Nat) (v : Int32) (x1 x2 x3 : Int32) : cLI l D cy yL_does wsL_does rmL_does [.ref (ad 0 0), .int (nI 3), .int v, .int x1, .int x2, .int x3] (WG ad cy (σ 0 0) (σ 0 3) σ er ofd de bo ql qs tv) (T := Option (Unit)) (wD (WG ad cy (σ 0 0) (σ 0 3) σ er ofd de bo ql qs tv) (fun _ => WG ad cy (σ 0 0) (σ 0 3) ((raF σ (cN v))) er ofd de bo ql qs tv)) (pD (fun r _ => okR v 50 100 ∧ r = nI (σ 0 2)) (fun E => ¬ okR v 50 100 ∧ E = eIA)) 2 28 := by
  refine cLI.of (cc := cL_does) (maxL := 7) (hh := [(0, 108, 109, 45), (0, 108, 114, 47), (0, 108, 119, 49)]) (by decide) rfl (Nat.le_of_ble_eq_true rfl) ?_
  intro p e s m args below meth c H0 A Q hx hb hml hown hts hP hK hD hS hA hXW hXZ htab hret ls hl
  obtain ⟨H, locs, hH, hlo⟩ : ∃ (H : Heap) (locs : List Loc), H = H0 ∧ locs = [] := ⟨_, _, rfl, rfl⟩
  rw [← hH] at hP
  rw [show va_S A H0 H0 [] = va_S A H0 H locs by rw [hH, hlo]] at hS
  rw [show W p l e rmL_does s m args below meth c H0 [] 0 0 Q (F0 m 0 ls []) = W p l e rmL_does s m args below meth c H locs 0 0 Q (F0 m 0 ls []) by rw [hH, hlo]]
  refine lv_iload_n hx hb dL_does_0 rfl (lv_at hl 1 rfl) ?_
  refine lv_if_ne (tgt := 15) hx hb dL_does_1 (by decide) (fun _ => ?_) (fun q => by first | exact absurd q (by decide) | exact absurd (by decide) q)
  refine lv_iload_n hx hb dL_does_15 rfl (lv_at hl 1 rfl) ?_
  refine lv_iconst (v := nI 1) hx hb dL_does_16 (by decide) ?_
  refine lv_icmp_ne (tgt := 31) hx hb dL_does_17 (by decide) (fun _ => ?_) (fun q => by first | exact absurd q (by decide) | exact absurd (by decide) q)
  refine lv_iload_n hx hb dL_does_31 rfl (lv_at hl 1 rfl) ?_
  refine lv_iconst (v := nI 2) hx hb dL_does_32 (by decide) ?_
  refine lv_icmp_ne (tgt := 45) hx hb dL_does_33 (by decide) (fun _ => ?_) (fun q => by first | exact absurd q (by decide) | exact absurd (by decide) q)
  refine lv_iload_n hx hb dL_does_45 rfl (lv_at hl 1 rfl) ?_
  refine lv_iconst (v := nI 3) hx hb dL_does_46 (by decide) ?_
  refine lv_icmp_ne (tgt := 58) hx hb dL_does_47 (by decide) (fun q => by first | exact absurd q (by decide) | exact absurd (by decide) q) (fun _ => ?_)
  refine lv_aload_n hx hb dL_does_50 rfl (lv_at hl 0 rfl) ?_
  refine lv_iload_n hx hb dL_does_51 rfl (lv_at hl 2 rfl) ?_
  refine xn_calli (vx_runV (As := [.int v]) (rest := []) ⟨hx, hb, hml, hown, hts⟩ (c_X5_setRate l hfl D cy ad σ er ofd de bo ql qs tv v H.size) (cwV 1 hts gL_does_X5_setRate rfl rfl rfl hdX5_setRate ⟨Nat.le_of_ble_eq_true rfl, Nat.le_of_ble_eq_true rfl⟩) (xo_preV hK rfl hP hD hXW (hXZ.at hS hD hA (fun _ hq => hq)) (va_recv hK.1 hP (ci := 5) (q0 := 0) rfl rfl)) rfl rfl hl.1 rfl (lv_room (Nat.le_of_ble_eq_true rfl)) dL_does_52 ⟨Nat.le_of_ble_eq_true rfl, Nat.le_of_ble_eq_true rfl⟩) hS hP hD hA (fun E ce q9 H locs hex hP hD hS hc9 hv9 hcl9 => ?_) (fun r u H locs hr hP hD hS => ?_)
  · skip
    have hex0 := hex
    rcases hex with hex
    · skip
      obtain rfl : E = eIA := by first | exact hex.2 | exact hex.2.2 | exact hex.2.2.2
      refine vx_catch hown [⟨0, 108, 109, 45⟩] ⟨0, 108, 114, 47⟩ [⟨0, 108, 119, 49⟩] (htab.trans rfl) (List.forall_mem_cons.mpr ⟨Or.inr ⟨by decide, "java/lang/IndexOutOfBoundsException", hts _ (List.mem_of_getElem? (i := 1) rfl), hXW.2.1 (eIA, eIO) (by decide)⟩, (fun _ h => absurd h List.not_mem_nil)⟩) rfl (by decide) (hts _ (List.mem_of_getElem? (i := 2) rfl)) (va_Nw.use rfl (hXW.1 _ xc_IA rfl)) hc9 hv9 hcl9 ?_
      refine lv_astore (lv' := [(6, .ref q9), (0, .ref ((ad 0 0))), (1, .int (nI 3)), (2, .int v), (3, .int x1), (4, .int x2), (5, .int x3)]) hx hb dL_does_114 hl (by decide) rfl (fun ls hl => ?_)
      refine lv_bipush (v := -20) hx hb dL_does_116 (by decide) ?_
      refine W.widen (k := 2) (n := 28) (Nat.le_of_ble_eq_true rfl) (Nat.le_of_ble_eq_true rfl) ?_
      exact hret none dL_does_118 hP hD hS (Or.inr ⟨eIA, rfl, hex0, (cd_A).symm⟩)
  · skip
    refine lv_goto (tgt := 108) hx hb dL_does_55 (by decide) ?_
    refine W.widen (k := 2) (n := 28) (Nat.le_of_ble_eq_true rfl) (Nat.le_of_ble_eq_true rfl) ?_
    exact hret (some u) dL_does_108 hP hD hS (Or.inl ⟨u, rfl, hr⟩)
set_option maxHeartbeats 4000000 in
set_option maxRecDepth 100000 in
theorem c_L_does_4 (l : Launch) (hfl : l.stackTraces = false) (D : va_G) (cy : Nat → ClassId) (ad : Nat → Nat → Nat) (σ : SF) (er : Int64) (ofd de bo : Nat → Option Nat) (ql : Nat → Nat) (qs : Nat → Nat → Nat) (tv : Nat → Nat) (hof : OF ad σ ofd) (hbo : BO ad σ bo) {n : Nat} (hI : Iv n σ) {dl : List Nat} (hDL : DL ad σ de dl) (hQZ : QZ qs) (hn : n < 512) (v : Int32) (x1 x2 x3 : Int32) : cLI l D cy yL_does wsL_does rmL_does [.ref (ad 0 0), .int (nI 4), .int v, .int x1, .int x2, .int x3] (WG ad cy (σ 0 0) (σ 0 3) σ er ofd de bo ql qs tv) (T := Option (TA)) (wD (WG ad cy (σ 0 0) (σ 0 3) σ er ofd de bo ql qs tv) (fun u => WG u.1 cy (u.2.1 0 0) (u.2.1 0 3) u.2.1 er ofd de u.2.2.1 u.2.2.2.1 u.2.2.2.2 tv)) (pD (fun r u => isP σ v ∧ ¬ σ 0 3 = 60 ∧ askA (asF σ (cN v)) (cN v) r u.2.1 ∧ okA ad u) (fun E => (¬ isP σ v ∧ E = eIO) ∨ (isP σ v ∧ σ 0 3 = 60 ∧ E = eIS))) 2 28 := by
  refine cLI.of (cc := cL_does) (maxL := 7) (hh := [(0, 108, 109, 45), (0, 108, 114, 47), (0, 108, 119, 49)]) (by decide) rfl (Nat.le_of_ble_eq_true rfl) ?_
  intro p e s m args below meth c H0 A Q hx hb hml hown hts hP hK hD hS hA hXW hXZ htab hret ls hl
  obtain ⟨H, locs, hH, hlo⟩ : ∃ (H : Heap) (locs : List Loc), H = H0 ∧ locs = [] := ⟨_, _, rfl, rfl⟩
  rw [← hH] at hP
  rw [show va_S A H0 H0 [] = va_S A H0 H locs by rw [hH, hlo]] at hS
  rw [show W p l e rmL_does s m args below meth c H0 [] 0 0 Q (F0 m 0 ls []) = W p l e rmL_does s m args below meth c H locs 0 0 Q (F0 m 0 ls []) by rw [hH, hlo]]
  refine lv_iload_n hx hb dL_does_0 rfl (lv_at hl 1 rfl) ?_
  refine lv_if_ne (tgt := 15) hx hb dL_does_1 (by decide) (fun _ => ?_) (fun q => by first | exact absurd q (by decide) | exact absurd (by decide) q)
  refine lv_iload_n hx hb dL_does_15 rfl (lv_at hl 1 rfl) ?_
  refine lv_iconst (v := nI 1) hx hb dL_does_16 (by decide) ?_
  refine lv_icmp_ne (tgt := 31) hx hb dL_does_17 (by decide) (fun _ => ?_) (fun q => by first | exact absurd q (by decide) | exact absurd (by decide) q)
  refine lv_iload_n hx hb dL_does_31 rfl (lv_at hl 1 rfl) ?_
  refine lv_iconst (v := nI 2) hx hb dL_does_32 (by decide) ?_
  refine lv_icmp_ne (tgt := 45) hx hb dL_does_33 (by decide) (fun _ => ?_) (fun q => by first | exact absurd q (by decide) | exact absurd (by decide) q)
  refine lv_iload_n hx hb dL_does_45 rfl (lv_at hl 1 rfl) ?_
  refine lv_iconst (v := nI 3) hx hb dL_does_46 (by decide) ?_
  refine lv_icmp_ne (tgt := 58) hx hb dL_does_47 (by decide) (fun _ => ?_) (fun q => by first | exact absurd q (by decide) | exact absurd (by decide) q)
  refine lv_iload_n hx hb dL_does_58 rfl (lv_at hl 1 rfl) ?_
  refine lv_iconst (v := nI 4) hx hb dL_does_59 (by decide) ?_
  refine lv_icmp_ne (tgt := 71) hx hb dL_does_60 (by decide) (fun q => by first | exact absurd q (by decide) | exact absurd (by decide) q) (fun _ => ?_)
  refine lv_aload_n hx hb dL_does_63 rfl (lv_at hl 0 rfl) ?_
  refine lv_iload_n hx hb dL_does_64 rfl (lv_at hl 2 rfl) ?_
  refine xn_calli (vx_runV (As := [.int v]) (rest := []) ⟨hx, hb, hml, hown, hts⟩ (c_X5_ask l hfl D cy ad σ er ofd de bo ql qs tv hof hbo hI hDL hQZ hn v H.size) (cwV 1 hts gL_does_X5_ask rfl rfl rfl hdX5_ask ⟨Nat.le_of_ble_eq_true rfl, Nat.le_of_ble_eq_true rfl⟩) (xo_preV hK rfl hP hD hXW (hXZ.at hS hD hA (fun _ hq => hq)) (va_recv hK.1 hP (ci := 5) (q0 := 0) rfl rfl)) rfl rfl hl.1 rfl (lv_room (Nat.le_of_ble_eq_true rfl)) dL_does_65 ⟨Nat.le_of_ble_eq_true rfl, Nat.le_of_ble_eq_true rfl⟩) hS hP hD hA (fun E ce q9 H locs hex hP hD hS hc9 hv9 hcl9 => ?_) (fun r u H locs hr hP hD hS => ?_)
  · skip
    have hex0 := hex
    rcases hex with hex | hex
    · skip
      obtain rfl : E = eIO := by first | exact hex.2 | exact hex.2.2 | exact hex.2.2.2
      refine vx_catch hown [] ⟨0, 108, 109, 45⟩ [⟨0, 108, 114, 47⟩, ⟨0, 108, 119, 49⟩] (htab.trans rfl) (fun z hz => absurd hz List.not_mem_nil) rfl (by decide) (hts _ (List.mem_of_getElem? (i := 1) rfl)) (va_Nw.use rfl (hXW.1 _ xc_IO rfl)) hc9 hv9 hcl9 ?_
      refine lv_astore (lv' := [(6, .ref q9), (0, .ref ((ad 0 0))), (1, .int (nI 4)), (2, .int v), (3, .int x1), (4, .int x2), (5, .int x3)]) hx hb dL_does_109 hl (by decide) rfl (fun ls hl => ?_)
      refine lv_bipush (v := -30) hx hb dL_does_111 (by decide) ?_
      refine W.widen (k := 2) (n := 28) (Nat.le_of_ble_eq_true rfl) (Nat.le_of_ble_eq_true rfl) ?_
      exact hret none dL_does_113 hP hD hS (Or.inr ⟨eIO, rfl, hex0, (cd_O).symm⟩)
    · skip
      obtain rfl : E = eIS := by first | exact hex.2 | exact hex.2.2 | exact hex.2.2.2
      refine vx_catch hown [⟨0, 108, 109, 45⟩, ⟨0, 108, 114, 47⟩] ⟨0, 108, 119, 49⟩ [] (htab.trans rfl) (List.forall_mem_cons.mpr ⟨Or.inr ⟨by decide, "java/lang/IndexOutOfBoundsException", hts _ (List.mem_of_getElem? (i := 1) rfl), hXW.2.1 (eIS, eIO) (by decide)⟩, (List.forall_mem_cons.mpr ⟨Or.inr ⟨by decide, "java/lang/IllegalArgumentException", hts _ (List.mem_of_getElem? (i := 2) rfl), hXW.2.1 (eIS, eIA) (by decide)⟩, (fun _ h => absurd h List.not_mem_nil)⟩)⟩) rfl (by decide) (hts _ (List.mem_of_getElem? (i := 3) rfl)) (va_Nw.use rfl (hXW.1 _ xc_IS rfl)) hc9 hv9 hcl9 ?_
      refine lv_astore (lv' := [(6, .ref q9), (0, .ref ((ad 0 0))), (1, .int (nI 4)), (2, .int v), (3, .int x1), (4, .int x2), (5, .int x3)]) hx hb dL_does_119 hl (by decide) rfl (fun ls hl => ?_)
      refine lv_bipush (v := -10) hx hb dL_does_121 (by decide) ?_
      refine W.widen (k := 2) (n := 28) (Nat.le_of_ble_eq_true rfl) (Nat.le_of_ble_eq_true rfl) ?_
      exact hret none dL_does_123 hP hD hS (Or.inr ⟨eIS, rfl, hex0, (cd_S).symm⟩)
  · skip
    refine lv_goto (tgt := 108) hx hb dL_does_68 (by decide) ?_
    refine W.widen (k := 2) (n := 28) (Nat.le_of_ble_eq_true rfl) (Nat.le_of_ble_eq_true rfl) ?_
    exact hret (some u) dL_does_108 hP hD hS (Or.inl ⟨u, rfl, hr⟩)
set_option maxHeartbeats 4000000 in
set_option maxRecDepth 100000 in
theorem c_L_does_5 (l : Launch) (hfl : l.stackTraces = false) (D : va_G) (cy : Nat → ClassId) (ad : Nat → Nat → Nat) (σ : SF) (er : Int64) (ofd de bo : Nat → Option Nat) (ql : Nat → Nat) (qs : Nat → Nat → Nat) (tv : Nat → Nat) (hbo : BO ad σ bo) {n : Nat} (hI : Iv n σ) {dl : List Nat} (hDL : DL ad σ de dl) (hQZ : QZ qs) (f t q g : Int32) : cLI l D cy yL_does wsL_does rmL_does [.ref (ad 0 0), .int (nI 5), .int f, .int t, .int q, .int g] (WG ad cy (σ 0 0) (σ 0 3) σ er ofd de bo ql qs tv) (T := Option (TA)) (wD (WG ad cy (σ 0 0) (σ 0 3) σ er ofd de bo ql qs tv) (fun u => WG u.1 cy (u.2.1 0 0) (u.2.1 0 3) u.2.1 er ofd de u.2.2.1 u.2.2.2.1 u.2.2.2.2 tv)) (pD (fun r u => (okR f 0 2 ∧ okR t 0 2) ∧ (f ≤ t ∧ okR q 1 10 ∧ okR g 1 3000) ∧ ¬ σ 0 3 = 60 ∧ grpA σ (cN f) (cN t) (cN q) (cN g) r u.2.1 ∧ okA ad u) (fun E => (¬ (okR f 0 2 ∧ okR t 0 2) ∧ E = eIO) ∨ ((okR f 0 2 ∧ okR t 0 2) ∧ ¬ (f ≤ t ∧ okR q 1 10 ∧ okR g 1 3000) ∧ E = eIA) ∨ ((okR f 0 2 ∧ okR t 0 2) ∧ (f ≤ t ∧ okR q 1 10 ∧ okR g 1 3000) ∧ σ 0 3 = 60 ∧ E = eIS))) 2 28 := by
  refine cLI.of (cc := cL_does) (maxL := 7) (hh := [(0, 108, 109, 45), (0, 108, 114, 47), (0, 108, 119, 49)]) (by decide) rfl (Nat.le_of_ble_eq_true rfl) ?_
  intro p e s m args below meth c H0 A Q hx hb hml hown hts hP hK hD hS hA hXW hXZ htab hret ls hl
  obtain ⟨H, locs, hH, hlo⟩ : ∃ (H : Heap) (locs : List Loc), H = H0 ∧ locs = [] := ⟨_, _, rfl, rfl⟩
  rw [← hH] at hP
  rw [show va_S A H0 H0 [] = va_S A H0 H locs by rw [hH, hlo]] at hS
  rw [show W p l e rmL_does s m args below meth c H0 [] 0 0 Q (F0 m 0 ls []) = W p l e rmL_does s m args below meth c H locs 0 0 Q (F0 m 0 ls []) by rw [hH, hlo]]
  refine lv_iload_n hx hb dL_does_0 rfl (lv_at hl 1 rfl) ?_
  refine lv_if_ne (tgt := 15) hx hb dL_does_1 (by decide) (fun _ => ?_) (fun q => by first | exact absurd q (by decide) | exact absurd (by decide) q)
  refine lv_iload_n hx hb dL_does_15 rfl (lv_at hl 1 rfl) ?_
  refine lv_iconst (v := nI 1) hx hb dL_does_16 (by decide) ?_
  refine lv_icmp_ne (tgt := 31) hx hb dL_does_17 (by decide) (fun _ => ?_) (fun q => by first | exact absurd q (by decide) | exact absurd (by decide) q)
  refine lv_iload_n hx hb dL_does_31 rfl (lv_at hl 1 rfl) ?_
  refine lv_iconst (v := nI 2) hx hb dL_does_32 (by decide) ?_
  refine lv_icmp_ne (tgt := 45) hx hb dL_does_33 (by decide) (fun _ => ?_) (fun q => by first | exact absurd q (by decide) | exact absurd (by decide) q)
  refine lv_iload_n hx hb dL_does_45 rfl (lv_at hl 1 rfl) ?_
  refine lv_iconst (v := nI 3) hx hb dL_does_46 (by decide) ?_
  refine lv_icmp_ne (tgt := 58) hx hb dL_does_47 (by decide) (fun _ => ?_) (fun q => by first | exact absurd q (by decide) | exact absurd (by decide) q)
  refine lv_iload_n hx hb dL_does_58 rfl (lv_at hl 1 rfl) ?_
  refine lv_iconst (v := nI 4) hx hb dL_does_59 (by decide) ?_
  refine lv_icmp_ne (tgt := 71) hx hb dL_does_60 (by decide) (fun _ => ?_) (fun q => by first | exact absurd q (by decide) | exact absurd (by decide) q)
  refine lv_iload_n hx hb dL_does_71 rfl (lv_at hl 1 rfl) ?_
  refine lv_iconst (v := nI 5) hx hb dL_does_72 (by decide) ?_
  refine lv_icmp_ne (tgt := 89) hx hb dL_does_73 (by decide) (fun q => by first | exact absurd q (by decide) | exact absurd (by decide) q) (fun _ => ?_)
  refine lv_aload_n hx hb dL_does_76 rfl (lv_at hl 0 rfl) ?_
  refine lv_iload_n hx hb dL_does_77 rfl (lv_at hl 2 rfl) ?_
  refine lv_iload_n hx hb dL_does_78 rfl (lv_at hl 3 rfl) ?_
  refine lv_iload hx hb dL_does_79 (lv_at hl 4 rfl) ?_
  refine lv_iload hx hb dL_does_81 (lv_at hl 5 rfl) ?_
  refine xn_calli (vx_runV (As := [.int f, .int t, .int q, .int g]) (rest := []) ⟨hx, hb, hml, hown, hts⟩ (c_X5_group l hfl D cy ad σ er ofd de bo ql qs tv hbo hI hDL hQZ f t q g H.size) (cwV 4 hts gL_does_X5_group rfl rfl rfl hdX5_group ⟨Nat.le_of_ble_eq_true rfl, Nat.le_of_ble_eq_true rfl⟩) (xo_preV hK rfl hP hD hXW (hXZ.at hS hD hA (fun _ hq => hq)) (va_recv hK.1 hP (ci := 5) (q0 := 0) rfl rfl)) rfl rfl hl.1 rfl (lv_room (Nat.le_of_ble_eq_true rfl)) dL_does_83 ⟨Nat.le_of_ble_eq_true rfl, Nat.le_of_ble_eq_true rfl⟩) hS hP hD hA (fun E ce q9 H locs hex hP hD hS hc9 hv9 hcl9 => ?_) (fun r u H locs hr hP hD hS => ?_)
  · skip
    have hex0 := hex
    rcases hex with hex | hex | hex
    · skip
      obtain rfl : E = eIO := by first | exact hex.2 | exact hex.2.2 | exact hex.2.2.2
      refine vx_catch hown [] ⟨0, 108, 109, 45⟩ [⟨0, 108, 114, 47⟩, ⟨0, 108, 119, 49⟩] (htab.trans rfl) (fun z hz => absurd hz List.not_mem_nil) rfl (by decide) (hts _ (List.mem_of_getElem? (i := 1) rfl)) (va_Nw.use rfl (hXW.1 _ xc_IO rfl)) hc9 hv9 hcl9 ?_
      refine lv_astore (lv' := [(6, .ref q9), (0, .ref ((ad 0 0))), (1, .int (nI 5)), (2, .int f), (3, .int t), (4, .int q), (5, .int g)]) hx hb dL_does_109 hl (by decide) rfl (fun ls hl => ?_)
      refine lv_bipush (v := -30) hx hb dL_does_111 (by decide) ?_
      refine W.widen (k := 2) (n := 28) (Nat.le_of_ble_eq_true rfl) (Nat.le_of_ble_eq_true rfl) ?_
      exact hret none dL_does_113 hP hD hS (Or.inr ⟨eIO, rfl, hex0, (cd_O).symm⟩)
    · skip
      obtain rfl : E = eIA := by first | exact hex.2 | exact hex.2.2 | exact hex.2.2.2
      refine vx_catch hown [⟨0, 108, 109, 45⟩] ⟨0, 108, 114, 47⟩ [⟨0, 108, 119, 49⟩] (htab.trans rfl) (List.forall_mem_cons.mpr ⟨Or.inr ⟨by decide, "java/lang/IndexOutOfBoundsException", hts _ (List.mem_of_getElem? (i := 1) rfl), hXW.2.1 (eIA, eIO) (by decide)⟩, (fun _ h => absurd h List.not_mem_nil)⟩) rfl (by decide) (hts _ (List.mem_of_getElem? (i := 2) rfl)) (va_Nw.use rfl (hXW.1 _ xc_IA rfl)) hc9 hv9 hcl9 ?_
      refine lv_astore (lv' := [(6, .ref q9), (0, .ref ((ad 0 0))), (1, .int (nI 5)), (2, .int f), (3, .int t), (4, .int q), (5, .int g)]) hx hb dL_does_114 hl (by decide) rfl (fun ls hl => ?_)
      refine lv_bipush (v := -20) hx hb dL_does_116 (by decide) ?_
      refine W.widen (k := 2) (n := 28) (Nat.le_of_ble_eq_true rfl) (Nat.le_of_ble_eq_true rfl) ?_
      exact hret none dL_does_118 hP hD hS (Or.inr ⟨eIA, rfl, hex0, (cd_A).symm⟩)
    · skip
      obtain rfl : E = eIS := by first | exact hex.2 | exact hex.2.2 | exact hex.2.2.2
      refine vx_catch hown [⟨0, 108, 109, 45⟩, ⟨0, 108, 114, 47⟩] ⟨0, 108, 119, 49⟩ [] (htab.trans rfl) (List.forall_mem_cons.mpr ⟨Or.inr ⟨by decide, "java/lang/IndexOutOfBoundsException", hts _ (List.mem_of_getElem? (i := 1) rfl), hXW.2.1 (eIS, eIO) (by decide)⟩, (List.forall_mem_cons.mpr ⟨Or.inr ⟨by decide, "java/lang/IllegalArgumentException", hts _ (List.mem_of_getElem? (i := 2) rfl), hXW.2.1 (eIS, eIA) (by decide)⟩, (fun _ h => absurd h List.not_mem_nil)⟩)⟩) rfl (by decide) (hts _ (List.mem_of_getElem? (i := 3) rfl)) (va_Nw.use rfl (hXW.1 _ xc_IS rfl)) hc9 hv9 hcl9 ?_
      refine lv_astore (lv' := [(6, .ref q9), (0, .ref ((ad 0 0))), (1, .int (nI 5)), (2, .int f), (3, .int t), (4, .int q), (5, .int g)]) hx hb dL_does_119 hl (by decide) rfl (fun ls hl => ?_)
      refine lv_bipush (v := -10) hx hb dL_does_121 (by decide) ?_
      refine W.widen (k := 2) (n := 28) (Nat.le_of_ble_eq_true rfl) (Nat.le_of_ble_eq_true rfl) ?_
      exact hret none dL_does_123 hP hD hS (Or.inr ⟨eIS, rfl, hex0, (cd_S).symm⟩)
  · skip
    refine lv_goto (tgt := 108) hx hb dL_does_86 (by decide) ?_
    refine W.widen (k := 2) (n := 28) (Nat.le_of_ble_eq_true rfl) (Nat.le_of_ble_eq_true rfl) ?_
    exact hret (some u) dL_does_108 hP hD hS (Or.inl ⟨u, rfl, hr⟩)
set_option maxHeartbeats 4000000 in
set_option maxRecDepth 100000 in
theorem c_L_does_6 (l : Launch) (hfl : l.stackTraces = false) (D : va_G) (cy : Nat → ClassId) (ad : Nat → Nat → Nat) (σ : SF) (er : Int64) (ofd de bo : Nat → Option Nat) (ql : Nat → Nat) (qs : Nat → Nat → Nat) (tv : Nat → Nat) (hbo : BO ad σ bo) {n : Nat} (hI : Iv n σ) (v : Int32) (x1 x2 x3 : Int32) : cLI l D cy yL_does wsL_does rmL_does [.ref (ad 0 0), .int (nI 6), .int v, .int x1, .int x2, .int x3] (WG ad cy (σ 0 0) (σ 0 3) σ er ofd de bo ql qs tv) (T := Option (Unit)) (wD (WG ad cy (σ 0 0) (σ 0 3) σ er ofd de bo ql qs tv) (fun _ => WG ad cy (σ 0 0) (σ 0 3) ((caF σ (cN v))) er ofd de bo ql qs tv)) (pD (fun r _ => isB σ v ∧ σ 14 (cN v) = 0 ∧ r = nI (σ 12 (cN v))) (fun E => (¬ isB σ v ∧ E = eIO) ∨ (isB σ v ∧ ¬ σ 14 (cN v) = 0 ∧ E = eIS))) 2 28 := by
  refine cLI.of (cc := cL_does) (maxL := 7) (hh := [(0, 108, 109, 45), (0, 108, 114, 47), (0, 108, 119, 49)]) (by decide) rfl (Nat.le_of_ble_eq_true rfl) ?_
  intro p e s m args below meth c H0 A Q hx hb hml hown hts hP hK hD hS hA hXW hXZ htab hret ls hl
  obtain ⟨H, locs, hH, hlo⟩ : ∃ (H : Heap) (locs : List Loc), H = H0 ∧ locs = [] := ⟨_, _, rfl, rfl⟩
  rw [← hH] at hP
  rw [show va_S A H0 H0 [] = va_S A H0 H locs by rw [hH, hlo]] at hS
  rw [show W p l e rmL_does s m args below meth c H0 [] 0 0 Q (F0 m 0 ls []) = W p l e rmL_does s m args below meth c H locs 0 0 Q (F0 m 0 ls []) by rw [hH, hlo]]
  refine lv_iload_n hx hb dL_does_0 rfl (lv_at hl 1 rfl) ?_
  refine lv_if_ne (tgt := 15) hx hb dL_does_1 (by decide) (fun _ => ?_) (fun q => by first | exact absurd q (by decide) | exact absurd (by decide) q)
  refine lv_iload_n hx hb dL_does_15 rfl (lv_at hl 1 rfl) ?_
  refine lv_iconst (v := nI 1) hx hb dL_does_16 (by decide) ?_
  refine lv_icmp_ne (tgt := 31) hx hb dL_does_17 (by decide) (fun _ => ?_) (fun q => by first | exact absurd q (by decide) | exact absurd (by decide) q)
  refine lv_iload_n hx hb dL_does_31 rfl (lv_at hl 1 rfl) ?_
  refine lv_iconst (v := nI 2) hx hb dL_does_32 (by decide) ?_
  refine lv_icmp_ne (tgt := 45) hx hb dL_does_33 (by decide) (fun _ => ?_) (fun q => by first | exact absurd q (by decide) | exact absurd (by decide) q)
  refine lv_iload_n hx hb dL_does_45 rfl (lv_at hl 1 rfl) ?_
  refine lv_iconst (v := nI 3) hx hb dL_does_46 (by decide) ?_
  refine lv_icmp_ne (tgt := 58) hx hb dL_does_47 (by decide) (fun _ => ?_) (fun q => by first | exact absurd q (by decide) | exact absurd (by decide) q)
  refine lv_iload_n hx hb dL_does_58 rfl (lv_at hl 1 rfl) ?_
  refine lv_iconst (v := nI 4) hx hb dL_does_59 (by decide) ?_
  refine lv_icmp_ne (tgt := 71) hx hb dL_does_60 (by decide) (fun _ => ?_) (fun q => by first | exact absurd q (by decide) | exact absurd (by decide) q)
  refine lv_iload_n hx hb dL_does_71 rfl (lv_at hl 1 rfl) ?_
  refine lv_iconst (v := nI 5) hx hb dL_does_72 (by decide) ?_
  refine lv_icmp_ne (tgt := 89) hx hb dL_does_73 (by decide) (fun _ => ?_) (fun q => by first | exact absurd q (by decide) | exact absurd (by decide) q)
  refine lv_iload_n hx hb dL_does_89 rfl (lv_at hl 1 rfl) ?_
  refine lv_bipush (v := nI 6) hx hb dL_does_90 (by decide) ?_
  refine lv_icmp_ne (tgt := 103) hx hb dL_does_92 (by decide) (fun q => by first | exact absurd q (by decide) | exact absurd (by decide) q) (fun _ => ?_)
  refine lv_aload_n hx hb dL_does_95 rfl (lv_at hl 0 rfl) ?_
  refine lv_iload_n hx hb dL_does_96 rfl (lv_at hl 2 rfl) ?_
  refine xn_calli (vx_runV (As := [.int v]) (rest := []) ⟨hx, hb, hml, hown, hts⟩ (c_X5_cancel l hfl D cy ad σ er ofd de bo ql qs tv hbo hI v H.size) (cwV 1 hts gL_does_X5_cancel rfl rfl rfl hdX5_cancel ⟨Nat.le_of_ble_eq_true rfl, Nat.le_of_ble_eq_true rfl⟩) (xo_preV hK rfl hP hD hXW (hXZ.at hS hD hA (fun _ hq => hq)) (va_recv hK.1 hP (ci := 5) (q0 := 0) rfl rfl)) rfl rfl hl.1 rfl (lv_room (Nat.le_of_ble_eq_true rfl)) dL_does_97 ⟨Nat.le_of_ble_eq_true rfl, Nat.le_of_ble_eq_true rfl⟩) hS hP hD hA (fun E ce q9 H locs hex hP hD hS hc9 hv9 hcl9 => ?_) (fun r u H locs hr hP hD hS => ?_)
  · skip
    have hex0 := hex
    rcases hex with hex | hex
    · skip
      obtain rfl : E = eIO := by first | exact hex.2 | exact hex.2.2 | exact hex.2.2.2
      refine vx_catch hown [] ⟨0, 108, 109, 45⟩ [⟨0, 108, 114, 47⟩, ⟨0, 108, 119, 49⟩] (htab.trans rfl) (fun z hz => absurd hz List.not_mem_nil) rfl (by decide) (hts _ (List.mem_of_getElem? (i := 1) rfl)) (va_Nw.use rfl (hXW.1 _ xc_IO rfl)) hc9 hv9 hcl9 ?_
      refine lv_astore (lv' := [(6, .ref q9), (0, .ref ((ad 0 0))), (1, .int (nI 6)), (2, .int v), (3, .int x1), (4, .int x2), (5, .int x3)]) hx hb dL_does_109 hl (by decide) rfl (fun ls hl => ?_)
      refine lv_bipush (v := -30) hx hb dL_does_111 (by decide) ?_
      refine W.widen (k := 2) (n := 28) (Nat.le_of_ble_eq_true rfl) (Nat.le_of_ble_eq_true rfl) ?_
      exact hret none dL_does_113 hP hD hS (Or.inr ⟨eIO, rfl, hex0, (cd_O).symm⟩)
    · skip
      obtain rfl : E = eIS := by first | exact hex.2 | exact hex.2.2 | exact hex.2.2.2
      refine vx_catch hown [⟨0, 108, 109, 45⟩, ⟨0, 108, 114, 47⟩] ⟨0, 108, 119, 49⟩ [] (htab.trans rfl) (List.forall_mem_cons.mpr ⟨Or.inr ⟨by decide, "java/lang/IndexOutOfBoundsException", hts _ (List.mem_of_getElem? (i := 1) rfl), hXW.2.1 (eIS, eIO) (by decide)⟩, (List.forall_mem_cons.mpr ⟨Or.inr ⟨by decide, "java/lang/IllegalArgumentException", hts _ (List.mem_of_getElem? (i := 2) rfl), hXW.2.1 (eIS, eIA) (by decide)⟩, (fun _ h => absurd h List.not_mem_nil)⟩)⟩) rfl (by decide) (hts _ (List.mem_of_getElem? (i := 3) rfl)) (va_Nw.use rfl (hXW.1 _ xc_IS rfl)) hc9 hv9 hcl9 ?_
      refine lv_astore (lv' := [(6, .ref q9), (0, .ref ((ad 0 0))), (1, .int (nI 6)), (2, .int v), (3, .int x1), (4, .int x2), (5, .int x3)]) hx hb dL_does_119 hl (by decide) rfl (fun ls hl => ?_)
      refine lv_bipush (v := -10) hx hb dL_does_121 (by decide) ?_
      refine W.widen (k := 2) (n := 28) (Nat.le_of_ble_eq_true rfl) (Nat.le_of_ble_eq_true rfl) ?_
      exact hret none dL_does_123 hP hD hS (Or.inr ⟨eIS, rfl, hex0, (cd_S).symm⟩)
  · skip
    refine lv_goto (tgt := 108) hx hb dL_does_100 (by decide) ?_
    refine W.widen (k := 2) (n := 28) (Nat.le_of_ble_eq_true rfl) (Nat.le_of_ble_eq_true rfl) ?_
    exact hret (some u) dL_does_108 hP hD hS (Or.inl ⟨u, rfl, hr⟩)
set_option maxHeartbeats 4000000 in
set_option maxRecDepth 100000 in
theorem c_L_does_7 (l : Launch) (hfl : l.stackTraces = false) (D : va_G) (cy : Nat → ClassId) (ad : Nat → Nat → Nat) (σ : SF) (er : Int64) (ofd de bo : Nat → Option Nat) (ql : Nat → Nat) (qs : Nat → Nat → Nat) (tv : Nat → Nat) (hof : OF ad σ ofd) (hbo : BO ad σ bo) {n : Nat} (hI : Iv n σ) (hn : n < 512) (v : Int32) (x1 x2 x3 : Int32) : cLI l D cy yL_does wsL_does rmL_does [.ref (ad 0 0), .int (nI 7), .int v, .int x1, .int x2, .int x3] (WG ad cy (σ 0 0) (σ 0 3) σ er ofd de bo ql qs tv) (T := Option (Unit)) (wD (WG ad cy (σ 0 0) (σ 0 3) σ er ofd de bo ql qs tv) (fun _ => WG ad cy (σ 0 0) 0 (enF σ) (enE σ er (cN v)) ofd de bo ql qs tv)) (pD (fun r _ => okR v 0 100 ∧ r = nI (den σ (cN v) 3)) (fun E => ¬ okR v 0 100 ∧ E = eIA)) 2 28 := by
  refine cLI.of (cc := cL_does) (maxL := 7) (hh := [(0, 108, 109, 45), (0, 108, 114, 47), (0, 108, 119, 49)]) (by decide) rfl (Nat.le_of_ble_eq_true rfl) ?_
  intro p e s m args below meth c H0 A Q hx hb hml hown hts hP hK hD hS hA hXW hXZ htab hret ls hl
  obtain ⟨H, locs, hH, hlo⟩ : ∃ (H : Heap) (locs : List Loc), H = H0 ∧ locs = [] := ⟨_, _, rfl, rfl⟩
  rw [← hH] at hP
  rw [show va_S A H0 H0 [] = va_S A H0 H locs by rw [hH, hlo]] at hS
  rw [show W p l e rmL_does s m args below meth c H0 [] 0 0 Q (F0 m 0 ls []) = W p l e rmL_does s m args below meth c H locs 0 0 Q (F0 m 0 ls []) by rw [hH, hlo]]
  refine lv_iload_n hx hb dL_does_0 rfl (lv_at hl 1 rfl) ?_
  refine lv_if_ne (tgt := 15) hx hb dL_does_1 (by decide) (fun _ => ?_) (fun q => by first | exact absurd q (by decide) | exact absurd (by decide) q)
  refine lv_iload_n hx hb dL_does_15 rfl (lv_at hl 1 rfl) ?_
  refine lv_iconst (v := nI 1) hx hb dL_does_16 (by decide) ?_
  refine lv_icmp_ne (tgt := 31) hx hb dL_does_17 (by decide) (fun _ => ?_) (fun q => by first | exact absurd q (by decide) | exact absurd (by decide) q)
  refine lv_iload_n hx hb dL_does_31 rfl (lv_at hl 1 rfl) ?_
  refine lv_iconst (v := nI 2) hx hb dL_does_32 (by decide) ?_
  refine lv_icmp_ne (tgt := 45) hx hb dL_does_33 (by decide) (fun _ => ?_) (fun q => by first | exact absurd q (by decide) | exact absurd (by decide) q)
  refine lv_iload_n hx hb dL_does_45 rfl (lv_at hl 1 rfl) ?_
  refine lv_iconst (v := nI 3) hx hb dL_does_46 (by decide) ?_
  refine lv_icmp_ne (tgt := 58) hx hb dL_does_47 (by decide) (fun _ => ?_) (fun q => by first | exact absurd q (by decide) | exact absurd (by decide) q)
  refine lv_iload_n hx hb dL_does_58 rfl (lv_at hl 1 rfl) ?_
  refine lv_iconst (v := nI 4) hx hb dL_does_59 (by decide) ?_
  refine lv_icmp_ne (tgt := 71) hx hb dL_does_60 (by decide) (fun _ => ?_) (fun q => by first | exact absurd q (by decide) | exact absurd (by decide) q)
  refine lv_iload_n hx hb dL_does_71 rfl (lv_at hl 1 rfl) ?_
  refine lv_iconst (v := nI 5) hx hb dL_does_72 (by decide) ?_
  refine lv_icmp_ne (tgt := 89) hx hb dL_does_73 (by decide) (fun _ => ?_) (fun q => by first | exact absurd q (by decide) | exact absurd (by decide) q)
  refine lv_iload_n hx hb dL_does_89 rfl (lv_at hl 1 rfl) ?_
  refine lv_bipush (v := nI 6) hx hb dL_does_90 (by decide) ?_
  refine lv_icmp_ne (tgt := 103) hx hb dL_does_92 (by decide) (fun _ => ?_) (fun q => by first | exact absurd q (by decide) | exact absurd (by decide) q)
  refine lv_aload_n hx hb dL_does_103 rfl (lv_at hl 0 rfl) ?_
  refine lv_iload_n hx hb dL_does_104 rfl (lv_at hl 2 rfl) ?_
  refine xn_calli (vx_runV (As := [.int v]) (rest := []) ⟨hx, hb, hml, hown, hts⟩ (c_X5_endDay l hfl D cy ad σ er ofd de bo ql qs tv hof hbo hI hn v H.size) (cwV 1 hts gL_does_X5_endDay rfl rfl rfl hdX5_endDay ⟨Nat.le_of_ble_eq_true rfl, Nat.le_of_ble_eq_true rfl⟩) (xo_preV hK rfl hP hD hXW (hXZ.at hS hD hA (fun _ hq => hq)) (va_recv hK.1 hP (ci := 5) (q0 := 0) rfl rfl)) rfl rfl hl.1 rfl (lv_room (Nat.le_of_ble_eq_true rfl)) dL_does_105 ⟨Nat.le_of_ble_eq_true rfl, Nat.le_of_ble_eq_true rfl⟩) hS hP hD hA (fun E ce q9 H locs hex hP hD hS hc9 hv9 hcl9 => ?_) (fun r u H locs hr hP hD hS => ?_)
  · skip
    have hex0 := hex
    rcases hex with hex
    · skip
      obtain rfl : E = eIA := by first | exact hex.2 | exact hex.2.2 | exact hex.2.2.2
      refine vx_catch hown [⟨0, 108, 109, 45⟩] ⟨0, 108, 114, 47⟩ [⟨0, 108, 119, 49⟩] (htab.trans rfl) (List.forall_mem_cons.mpr ⟨Or.inr ⟨by decide, "java/lang/IndexOutOfBoundsException", hts _ (List.mem_of_getElem? (i := 1) rfl), hXW.2.1 (eIA, eIO) (by decide)⟩, (fun _ h => absurd h List.not_mem_nil)⟩) rfl (by decide) (hts _ (List.mem_of_getElem? (i := 2) rfl)) (va_Nw.use rfl (hXW.1 _ xc_IA rfl)) hc9 hv9 hcl9 ?_
      refine lv_astore (lv' := [(6, .ref q9), (0, .ref ((ad 0 0))), (1, .int (nI 7)), (2, .int v), (3, .int x1), (4, .int x2), (5, .int x3)]) hx hb dL_does_114 hl (by decide) rfl (fun ls hl => ?_)
      refine lv_bipush (v := -20) hx hb dL_does_116 (by decide) ?_
      refine W.widen (k := 2) (n := 28) (Nat.le_of_ble_eq_true rfl) (Nat.le_of_ble_eq_true rfl) ?_
      exact hret none dL_does_118 hP hD hS (Or.inr ⟨eIA, rfl, hex0, (cd_A).symm⟩)
  · skip
    refine W.widen (k := 2) (n := 28) (Nat.le_of_ble_eq_true rfl) (Nat.le_of_ble_eq_true rfl) ?_
    exact hret (some u) dL_does_108 hP hD hS (Or.inl ⟨u, rfl, hr⟩)
set_option maxHeartbeats 4000000 in
set_option maxRecDepth 100000 in
theorem c_L_asks_0 (l : Launch) (hfl : l.stackTraces = false) (D : va_G) (cy : Nat → ClassId) (ad : Nat → Nat → Nat) (σ : SF) (er : Int64) (ofd de bo : Nat → Option Nat) (ql : Nat → Nat) (qs : Nat → Nat → Nat) (tv : Nat → Nat) (hbo : BO ad σ bo) {n : Nat} (hI : Iv n σ) (v : Int32) (x1 x2 : Int32) : cLI l D cy yL_asks wsL_asks rmL_asks [.ref (ad 0 0), .int (nI 0), .int v, .int x1, .int x2] (WG ad cy (σ 0 0) (σ 0 3) σ er ofd de bo ql qs tv) (T := Option (Unit)) (wD (WG ad cy (σ 0 0) (σ 0 3) σ er ofd de bo ql qs tv) (fun _ => WG ad cy (σ 0 0) (σ 0 3) σ er ofd de bo ql qs tv)) (pD (fun r _ => okR v 0 2 ∧ r = nI (σ 2 (cN v))) (fun E => ¬ okR v 0 2 ∧ E = eIO)) 1 6 := by
  refine cLI.of (cc := cL_asks) (maxL := 6) (hh := [(0, 124, 125, 45), (0, 124, 130, 47)]) (by decide) rfl (Nat.le_of_ble_eq_true rfl) ?_
  intro p e s m args below meth c H0 A Q hx hb hml hown hts hP hK hD hS hA hXW hXZ htab hret ls hl
  obtain ⟨H, locs, hH, hlo⟩ : ∃ (H : Heap) (locs : List Loc), H = H0 ∧ locs = [] := ⟨_, _, rfl, rfl⟩
  rw [← hH] at hP
  rw [show va_S A H0 H0 [] = va_S A H0 H locs by rw [hH, hlo]] at hS
  rw [show W p l e rmL_asks s m args below meth c H0 [] 0 0 Q (F0 m 0 ls []) = W p l e rmL_asks s m args below meth c H locs 0 0 Q (F0 m 0 ls []) by rw [hH, hlo]]
  refine lv_iload_n hx hb dL_asks_0 rfl (lv_at hl 1 rfl) ?_
  refine lv_if_ne (tgt := 12) hx hb dL_asks_1 (by decide) (fun q => by first | exact absurd q (by decide) | exact absurd (by decide) q) (fun _ => ?_)
  refine lv_aload_n hx hb dL_asks_4 rfl (lv_at hl 0 rfl) ?_
  refine lv_iload_n hx hb dL_asks_5 rfl (lv_at hl 2 rfl) ?_
  refine xn_calli (vx_runV (As := [.int v]) (rest := []) ⟨hx, hb, hml, hown, hts⟩ (c_X5_booked l hfl D cy ad σ er ofd de bo ql qs tv hbo hI v H.size) (cwV 1 hts gL_asks_X5_booked rfl rfl rfl hdX5_booked ⟨Nat.le_of_ble_eq_true rfl, Nat.le_of_ble_eq_true rfl⟩) (xo_preV hK rfl hP hD hXW (hXZ.at hS hD hA (fun _ hq => hq)) (va_recv hK.1 hP (ci := 5) (q0 := 0) rfl rfl)) rfl rfl hl.1 rfl (lv_room (Nat.le_of_ble_eq_true rfl)) dL_asks_6 ⟨Nat.le_of_ble_eq_true rfl, Nat.le_of_ble_eq_true rfl⟩) hS hP hD hA (fun E ce q9 H locs hex hP hD hS hc9 hv9 hcl9 => ?_) (fun r u H locs hr hP hD hS => ?_)
  · skip
    have hex0 := hex
    rcases hex with hex
    · skip
      obtain rfl : E = eIO := by first | exact hex.2 | exact hex.2.2 | exact hex.2.2.2
      refine vx_catch hown [] ⟨0, 124, 125, 45⟩ [⟨0, 124, 130, 47⟩] (htab.trans rfl) (fun z hz => absurd hz List.not_mem_nil) rfl (by decide) (hts _ (List.mem_of_getElem? (i := 1) rfl)) (va_Nw.use rfl (hXW.1 _ xc_IO rfl)) hc9 hv9 hcl9 ?_
      refine lv_astore (lv' := [(5, .ref q9), (0, .ref ((ad 0 0))), (1, .int (nI 0)), (2, .int v), (3, .int x1), (4, .int x2)]) hx hb dL_asks_125 hl (by decide) rfl (fun ls hl => ?_)
      refine lv_bipush (v := -30) hx hb dL_asks_127 (by decide) ?_
      refine W.widen (k := 1) (n := 6) (Nat.le_of_ble_eq_true rfl) (Nat.le_of_ble_eq_true rfl) ?_
      exact hret none dL_asks_129 hP hD hS (Or.inr ⟨eIO, rfl, hex0, (cd_O).symm⟩)
  · skip
    refine lv_goto (tgt := 124) hx hb dL_asks_9 (by decide) ?_
    refine W.widen (k := 1) (n := 6) (Nat.le_of_ble_eq_true rfl) (Nat.le_of_ble_eq_true rfl) ?_
    exact hret (some u) dL_asks_124 hP hD hS (Or.inl ⟨u, rfl, hr⟩)
set_option maxHeartbeats 4000000 in
set_option maxRecDepth 100000 in
theorem c_L_asks_1 (l : Launch) (hfl : l.stackTraces = false) (D : va_G) (cy : Nat → ClassId) (ad : Nat → Nat → Nat) (σ : SF) (er : Int64) (ofd de bo : Nat → Option Nat) (ql : Nat → Nat) (qs : Nat → Nat → Nat) (tv : Nat → Nat) {n : Nat} (hI : Iv n σ) (v : Int32) (x1 x2 : Int32) : cLI l D cy yL_asks wsL_asks rmL_asks [.ref (ad 0 0), .int (nI 1), .int v, .int x1, .int x2] (WG ad cy (σ 0 0) (σ 0 3) σ er ofd de bo ql qs tv) (T := Option (Unit)) (wD (WG ad cy (σ 0 0) (σ 0 3) σ er ofd de bo ql qs tv) (fun _ => WG ad cy (σ 0 0) (σ 0 3) σ er ofd de bo ql qs tv)) (pD (fun r _ => okR v 0 2 ∧ r = nI (aut σ (cN v))) (fun E => ¬ okR v 0 2 ∧ E = eIO)) 1 6 := by
  refine cLI.of (cc := cL_asks) (maxL := 6) (hh := [(0, 124, 125, 45), (0, 124, 130, 47)]) (by decide) rfl (Nat.le_of_ble_eq_true rfl) ?_
  intro p e s m args below meth c H0 A Q hx hb hml hown hts hP hK hD hS hA hXW hXZ htab hret ls hl
  obtain ⟨H, locs, hH, hlo⟩ : ∃ (H : Heap) (locs : List Loc), H = H0 ∧ locs = [] := ⟨_, _, rfl, rfl⟩
  rw [← hH] at hP
  rw [show va_S A H0 H0 [] = va_S A H0 H locs by rw [hH, hlo]] at hS
  rw [show W p l e rmL_asks s m args below meth c H0 [] 0 0 Q (F0 m 0 ls []) = W p l e rmL_asks s m args below meth c H locs 0 0 Q (F0 m 0 ls []) by rw [hH, hlo]]
  refine lv_iload_n hx hb dL_asks_0 rfl (lv_at hl 1 rfl) ?_
  refine lv_if_ne (tgt := 12) hx hb dL_asks_1 (by decide) (fun _ => ?_) (fun q => by first | exact absurd q (by decide) | exact absurd (by decide) q)
  refine lv_iload_n hx hb dL_asks_12 rfl (lv_at hl 1 rfl) ?_
  refine lv_iconst (v := nI 1) hx hb dL_asks_13 (by decide) ?_
  refine lv_icmp_ne (tgt := 25) hx hb dL_asks_14 (by decide) (fun q => by first | exact absurd q (by decide) | exact absurd (by decide) q) (fun _ => ?_)
  refine lv_aload_n hx hb dL_asks_17 rfl (lv_at hl 0 rfl) ?_
  refine lv_iload_n hx hb dL_asks_18 rfl (lv_at hl 2 rfl) ?_
  refine xn_calli (vx_runV (As := [.int v]) (rest := []) ⟨hx, hb, hml, hown, hts⟩ (c_X5_authorised l hfl D cy ad σ er ofd de bo ql qs tv hI v H.size) (cwV 1 hts gL_asks_X5_authorised rfl rfl rfl hdX5_authorised ⟨Nat.le_of_ble_eq_true rfl, Nat.le_of_ble_eq_true rfl⟩) (xo_preV hK rfl hP hD hXW (hXZ.at hS hD hA (fun _ hq => hq)) (va_recv hK.1 hP (ci := 5) (q0 := 0) rfl rfl)) rfl rfl hl.1 rfl (lv_room (Nat.le_of_ble_eq_true rfl)) dL_asks_19 ⟨Nat.le_of_ble_eq_true rfl, Nat.le_of_ble_eq_true rfl⟩) hS hP hD hA (fun E ce q9 H locs hex hP hD hS hc9 hv9 hcl9 => ?_) (fun r u H locs hr hP hD hS => ?_)
  · skip
    have hex0 := hex
    rcases hex with hex
    · skip
      obtain rfl : E = eIO := by first | exact hex.2 | exact hex.2.2 | exact hex.2.2.2
      refine vx_catch hown [] ⟨0, 124, 125, 45⟩ [⟨0, 124, 130, 47⟩] (htab.trans rfl) (fun z hz => absurd hz List.not_mem_nil) rfl (by decide) (hts _ (List.mem_of_getElem? (i := 1) rfl)) (va_Nw.use rfl (hXW.1 _ xc_IO rfl)) hc9 hv9 hcl9 ?_
      refine lv_astore (lv' := [(5, .ref q9), (0, .ref ((ad 0 0))), (1, .int (nI 1)), (2, .int v), (3, .int x1), (4, .int x2)]) hx hb dL_asks_125 hl (by decide) rfl (fun ls hl => ?_)
      refine lv_bipush (v := -30) hx hb dL_asks_127 (by decide) ?_
      refine W.widen (k := 1) (n := 6) (Nat.le_of_ble_eq_true rfl) (Nat.le_of_ble_eq_true rfl) ?_
      exact hret none dL_asks_129 hP hD hS (Or.inr ⟨eIO, rfl, hex0, (cd_O).symm⟩)
  · skip
    refine lv_goto (tgt := 124) hx hb dL_asks_22 (by decide) ?_
    refine W.widen (k := 1) (n := 6) (Nat.le_of_ble_eq_true rfl) (Nat.le_of_ble_eq_true rfl) ?_
    exact hret (some u) dL_asks_124 hP hD hS (Or.inl ⟨u, rfl, hr⟩)
set_option maxHeartbeats 4000000 in
set_option maxRecDepth 100000 in
theorem c_L_asks_2 (l : Launch) (hfl : l.stackTraces = false) (D : va_G) (cy : Nat → ClassId) (ad : Nat → Nat → Nat) (σ : SF) (er : Int64) (ofd de bo : Nat → Option Nat) (ql : Nat → Nat) (qs : Nat → Nat → Nat) (tv : Nat → Nat) (hof : OF ad σ ofd) {n : Nat} (hI : Iv n σ) (v x : Int32) (x2 : Int32) : cLI l D cy yL_asks wsL_asks rmL_asks [.ref (ad 0 0), .int (nI 2), .int v, .int x, .int x2] (WG ad cy (σ 0 0) (σ 0 3) σ er ofd de bo ql qs tv) (T := Option (Unit)) (wD (WG ad cy (σ 0 0) (σ 0 3) σ er ofd de bo ql qs tv) (fun _ => WG ad cy (σ 0 0) (σ 0 3) σ er ofd de bo ql qs tv)) (pD (fun r _ => okR v 0 2 ∧ okR x 1 1000 ∧ r = nI (prot σ (cN v) (cN x))) (fun E => (¬ okR v 0 2 ∧ E = eIO) ∨ (okR v 0 2 ∧ ¬ okR x 1 1000 ∧ E = eIA))) 1 6 := by
  refine cLI.of (cc := cL_asks) (maxL := 6) (hh := [(0, 124, 125, 45), (0, 124, 130, 47)]) (by decide) rfl (Nat.le_of_ble_eq_true rfl) ?_
  intro p e s m args below meth c H0 A Q hx hb hml hown hts hP hK hD hS hA hXW hXZ htab hret ls hl
  obtain ⟨H, locs, hH, hlo⟩ : ∃ (H : Heap) (locs : List Loc), H = H0 ∧ locs = [] := ⟨_, _, rfl, rfl⟩
  rw [← hH] at hP
  rw [show va_S A H0 H0 [] = va_S A H0 H locs by rw [hH, hlo]] at hS
  rw [show W p l e rmL_asks s m args below meth c H0 [] 0 0 Q (F0 m 0 ls []) = W p l e rmL_asks s m args below meth c H locs 0 0 Q (F0 m 0 ls []) by rw [hH, hlo]]
  refine lv_iload_n hx hb dL_asks_0 rfl (lv_at hl 1 rfl) ?_
  refine lv_if_ne (tgt := 12) hx hb dL_asks_1 (by decide) (fun _ => ?_) (fun q => by first | exact absurd q (by decide) | exact absurd (by decide) q)
  refine lv_iload_n hx hb dL_asks_12 rfl (lv_at hl 1 rfl) ?_
  refine lv_iconst (v := nI 1) hx hb dL_asks_13 (by decide) ?_
  refine lv_icmp_ne (tgt := 25) hx hb dL_asks_14 (by decide) (fun _ => ?_) (fun q => by first | exact absurd q (by decide) | exact absurd (by decide) q)
  refine lv_iload_n hx hb dL_asks_25 rfl (lv_at hl 1 rfl) ?_
  refine lv_iconst (v := nI 2) hx hb dL_asks_26 (by decide) ?_
  refine lv_icmp_ne (tgt := 39) hx hb dL_asks_27 (by decide) (fun q => by first | exact absurd q (by decide) | exact absurd (by decide) q) (fun _ => ?_)
  refine lv_aload_n hx hb dL_asks_30 rfl (lv_at hl 0 rfl) ?_
  refine lv_iload_n hx hb dL_asks_31 rfl (lv_at hl 2 rfl) ?_
  refine lv_iload_n hx hb dL_asks_32 rfl (lv_at hl 3 rfl) ?_
  refine xn_calli (vx_runV (As := [.int v, .int x]) (rest := []) ⟨hx, hb, hml, hown, hts⟩ (c_X5_protectedSeats l hfl D cy ad σ er ofd de bo ql qs tv hof hI v x H.size) (cwV 2 hts gL_asks_X5_protectedSeats rfl rfl rfl hdX5_protectedSeats ⟨Nat.le_of_ble_eq_true rfl, Nat.le_of_ble_eq_true rfl⟩) (xo_preV hK rfl hP hD hXW (hXZ.at hS hD hA (fun _ hq => hq)) (va_recv hK.1 hP (ci := 5) (q0 := 0) rfl rfl)) rfl rfl hl.1 rfl (lv_room (Nat.le_of_ble_eq_true rfl)) dL_asks_33 ⟨Nat.le_of_ble_eq_true rfl, Nat.le_of_ble_eq_true rfl⟩) hS hP hD hA (fun E ce q9 H locs hex hP hD hS hc9 hv9 hcl9 => ?_) (fun r u H locs hr hP hD hS => ?_)
  · skip
    have hex0 := hex
    rcases hex with hex | hex
    · skip
      obtain rfl : E = eIO := by first | exact hex.2 | exact hex.2.2 | exact hex.2.2.2
      refine vx_catch hown [] ⟨0, 124, 125, 45⟩ [⟨0, 124, 130, 47⟩] (htab.trans rfl) (fun z hz => absurd hz List.not_mem_nil) rfl (by decide) (hts _ (List.mem_of_getElem? (i := 1) rfl)) (va_Nw.use rfl (hXW.1 _ xc_IO rfl)) hc9 hv9 hcl9 ?_
      refine lv_astore (lv' := [(5, .ref q9), (0, .ref ((ad 0 0))), (1, .int (nI 2)), (2, .int v), (3, .int x), (4, .int x2)]) hx hb dL_asks_125 hl (by decide) rfl (fun ls hl => ?_)
      refine lv_bipush (v := -30) hx hb dL_asks_127 (by decide) ?_
      refine W.widen (k := 1) (n := 6) (Nat.le_of_ble_eq_true rfl) (Nat.le_of_ble_eq_true rfl) ?_
      exact hret none dL_asks_129 hP hD hS (Or.inr ⟨eIO, rfl, hex0, (cd_O).symm⟩)
    · skip
      obtain rfl : E = eIA := by first | exact hex.2 | exact hex.2.2 | exact hex.2.2.2
      refine vx_catch hown [⟨0, 124, 125, 45⟩] ⟨0, 124, 130, 47⟩ [] (htab.trans rfl) (List.forall_mem_cons.mpr ⟨Or.inr ⟨by decide, "java/lang/IndexOutOfBoundsException", hts _ (List.mem_of_getElem? (i := 1) rfl), hXW.2.1 (eIA, eIO) (by decide)⟩, (fun _ h => absurd h List.not_mem_nil)⟩) rfl (by decide) (hts _ (List.mem_of_getElem? (i := 2) rfl)) (va_Nw.use rfl (hXW.1 _ xc_IA rfl)) hc9 hv9 hcl9 ?_
      refine lv_astore (lv' := [(5, .ref q9), (0, .ref ((ad 0 0))), (1, .int (nI 2)), (2, .int v), (3, .int x), (4, .int x2)]) hx hb dL_asks_130 hl (by decide) rfl (fun ls hl => ?_)
      refine lv_bipush (v := -20) hx hb dL_asks_132 (by decide) ?_
      refine W.widen (k := 1) (n := 6) (Nat.le_of_ble_eq_true rfl) (Nat.le_of_ble_eq_true rfl) ?_
      exact hret none dL_asks_134 hP hD hS (Or.inr ⟨eIA, rfl, hex0, (cd_A).symm⟩)
  · skip
    refine lv_goto (tgt := 124) hx hb dL_asks_36 (by decide) ?_
    refine W.widen (k := 1) (n := 6) (Nat.le_of_ble_eq_true rfl) (Nat.le_of_ble_eq_true rfl) ?_
    exact hret (some u) dL_asks_124 hP hD hS (Or.inl ⟨u, rfl, hr⟩)
set_option maxHeartbeats 4000000 in
set_option maxRecDepth 100000 in
theorem c_L_asks_3 (l : Launch) (hfl : l.stackTraces = false) (D : va_G) (cy : Nat → ClassId) (ad : Nat → Nat → Nat) (σ : SF) (er : Int64) (ofd de bo : Nat → Option Nat) (ql : Nat → Nat) (qs : Nat → Nat → Nat) (tv : Nat → Nat) (hbo : BO ad σ bo) {n : Nat} (hI : Iv n σ) {dl : List Nat} (hDL : DL ad σ de dl) (hQZ : QZ qs) (v : Int32) (x1 x2 : Int32) : cLI l D cy yL_asks wsL_asks rmL_asks [.ref (ad 0 0), .int (nI 3), .int v, .int x1, .int x2] (WG ad cy (σ 0 0) (σ 0 3) σ er ofd de bo ql qs tv) (T := Option ((Nat → Nat) × (Nat → Nat → Nat))) (wD (WG ad cy (σ 0 0) (σ 0 3) σ er ofd de bo ql qs tv) (fun u => WG ad cy (σ 0 0) (σ 0 3) σ er ofd de bo u.1 u.2 tv)) (pD (fun r u => okR v 0 2 ∧ r = bidI σ (cN v) ∧ QZ u.2) (fun E => ¬ okR v 0 2 ∧ E = eIO)) 1 6 := by
  refine cLI.of (cc := cL_asks) (maxL := 6) (hh := [(0, 124, 125, 45), (0, 124, 130, 47)]) (by decide) rfl (Nat.le_of_ble_eq_true rfl) ?_
  intro p e s m args below meth c H0 A Q hx hb hml hown hts hP hK hD hS hA hXW hXZ htab hret ls hl
  obtain ⟨H, locs, hH, hlo⟩ : ∃ (H : Heap) (locs : List Loc), H = H0 ∧ locs = [] := ⟨_, _, rfl, rfl⟩
  rw [← hH] at hP
  rw [show va_S A H0 H0 [] = va_S A H0 H locs by rw [hH, hlo]] at hS
  rw [show W p l e rmL_asks s m args below meth c H0 [] 0 0 Q (F0 m 0 ls []) = W p l e rmL_asks s m args below meth c H locs 0 0 Q (F0 m 0 ls []) by rw [hH, hlo]]
  refine lv_iload_n hx hb dL_asks_0 rfl (lv_at hl 1 rfl) ?_
  refine lv_if_ne (tgt := 12) hx hb dL_asks_1 (by decide) (fun _ => ?_) (fun q => by first | exact absurd q (by decide) | exact absurd (by decide) q)
  refine lv_iload_n hx hb dL_asks_12 rfl (lv_at hl 1 rfl) ?_
  refine lv_iconst (v := nI 1) hx hb dL_asks_13 (by decide) ?_
  refine lv_icmp_ne (tgt := 25) hx hb dL_asks_14 (by decide) (fun _ => ?_) (fun q => by first | exact absurd q (by decide) | exact absurd (by decide) q)
  refine lv_iload_n hx hb dL_asks_25 rfl (lv_at hl 1 rfl) ?_
  refine lv_iconst (v := nI 2) hx hb dL_asks_26 (by decide) ?_
  refine lv_icmp_ne (tgt := 39) hx hb dL_asks_27 (by decide) (fun _ => ?_) (fun q => by first | exact absurd q (by decide) | exact absurd (by decide) q)
  refine lv_iload_n hx hb dL_asks_39 rfl (lv_at hl 1 rfl) ?_
  refine lv_iconst (v := nI 3) hx hb dL_asks_40 (by decide) ?_
  refine lv_icmp_ne (tgt := 52) hx hb dL_asks_41 (by decide) (fun q => by first | exact absurd q (by decide) | exact absurd (by decide) q) (fun _ => ?_)
  refine lv_aload_n hx hb dL_asks_44 rfl (lv_at hl 0 rfl) ?_
  refine lv_iload_n hx hb dL_asks_45 rfl (lv_at hl 2 rfl) ?_
  refine xn_calli (vx_runV (As := [.int v]) (rest := []) ⟨hx, hb, hml, hown, hts⟩ (c_X5_bid l hfl D cy ad σ er ofd de bo ql qs tv hbo hI hDL hQZ v H.size) (cwV 1 hts gL_asks_X5_bid rfl rfl rfl hdX5_bid ⟨Nat.le_of_ble_eq_true rfl, Nat.le_of_ble_eq_true rfl⟩) (xo_preV hK rfl hP hD hXW (hXZ.at hS hD hA (fun _ hq => hq)) (va_recv hK.1 hP (ci := 5) (q0 := 0) rfl rfl)) rfl rfl hl.1 rfl (lv_room (Nat.le_of_ble_eq_true rfl)) dL_asks_46 ⟨Nat.le_of_ble_eq_true rfl, Nat.le_of_ble_eq_true rfl⟩) hS hP hD hA (fun E ce q9 H locs hex hP hD hS hc9 hv9 hcl9 => ?_) (fun r u H locs hr hP hD hS => ?_)
  · skip
    have hex0 := hex
    rcases hex with hex
    · skip
      obtain rfl : E = eIO := by first | exact hex.2 | exact hex.2.2 | exact hex.2.2.2
      refine vx_catch hown [] ⟨0, 124, 125, 45⟩ [⟨0, 124, 130, 47⟩] (htab.trans rfl) (fun z hz => absurd hz List.not_mem_nil) rfl (by decide) (hts _ (List.mem_of_getElem? (i := 1) rfl)) (va_Nw.use rfl (hXW.1 _ xc_IO rfl)) hc9 hv9 hcl9 ?_
      refine lv_astore (lv' := [(5, .ref q9), (0, .ref ((ad 0 0))), (1, .int (nI 3)), (2, .int v), (3, .int x1), (4, .int x2)]) hx hb dL_asks_125 hl (by decide) rfl (fun ls hl => ?_)
      refine lv_bipush (v := -30) hx hb dL_asks_127 (by decide) ?_
      refine W.widen (k := 1) (n := 6) (Nat.le_of_ble_eq_true rfl) (Nat.le_of_ble_eq_true rfl) ?_
      exact hret none dL_asks_129 hP hD hS (Or.inr ⟨eIO, rfl, hex0, (cd_O).symm⟩)
  · skip
    refine lv_goto (tgt := 124) hx hb dL_asks_49 (by decide) ?_
    refine W.widen (k := 1) (n := 6) (Nat.le_of_ble_eq_true rfl) (Nat.le_of_ble_eq_true rfl) ?_
    exact hret (some u) dL_asks_124 hP hD hS (Or.inl ⟨u, rfl, hr⟩)
set_option maxHeartbeats 4000000 in
set_option maxRecDepth 100000 in
theorem c_L_asks_4 (l : Launch) (hfl : l.stackTraces = false) (D : va_G) (cy : Nat → ClassId) (ad : Nat → Nat → Nat) (σ : SF) (er : Int64) (ofd de bo : Nat → Option Nat) (ql : Nat → Nat) (qs : Nat → Nat → Nat) (tv : Nat → Nat) (hbo : BO ad σ bo) {n : Nat} (hI : Iv n σ) {dl : List Nat} (hDL : DL ad σ de dl) (hQZ : QZ qs) (f t q : Int32) : cLI l D cy yL_asks wsL_asks rmL_asks [.ref (ad 0 0), .int (nI 4), .int f, .int t, .int q] (WG ad cy (σ 0 0) (σ 0 3) σ er ofd de bo ql qs tv) (T := Option ((Nat → Nat) × (Nat → Nat → Nat))) (wD (WG ad cy (σ 0 0) (σ 0 3) σ er ofd de bo ql qs tv) (fun u => WG ad cy (σ 0 0) (σ 0 3) σ er ofd de bo u.1 u.2 tv)) (pD (fun r u => (okR f 0 2 ∧ okR t 0 2) ∧ (f ≤ t ∧ okR q 1 10) ∧ ((tooFull σ (cN f) (cN t) (cN q) ∧ r = -1) ∨ (¬ tooFull σ (cN f) (cN t) (cN q) ∧ r = disI σ (cN f) (cN t) (cN q))) ∧ QZ u.2) (fun E => (¬ (okR f 0 2 ∧ okR t 0 2) ∧ E = eIO) ∨ ((okR f 0 2 ∧ okR t 0 2) ∧ ¬ (f ≤ t ∧ okR q 1 10) ∧ E = eIA))) 1 6 := by
  refine cLI.of (cc := cL_asks) (maxL := 6) (hh := [(0, 124, 125, 45), (0, 124, 130, 47)]) (by decide) rfl (Nat.le_of_ble_eq_true rfl) ?_
  intro p e s m args below meth c H0 A Q hx hb hml hown hts hP hK hD hS hA hXW hXZ htab hret ls hl
  obtain ⟨H, locs, hH, hlo⟩ : ∃ (H : Heap) (locs : List Loc), H = H0 ∧ locs = [] := ⟨_, _, rfl, rfl⟩
  rw [← hH] at hP
  rw [show va_S A H0 H0 [] = va_S A H0 H locs by rw [hH, hlo]] at hS
  rw [show W p l e rmL_asks s m args below meth c H0 [] 0 0 Q (F0 m 0 ls []) = W p l e rmL_asks s m args below meth c H locs 0 0 Q (F0 m 0 ls []) by rw [hH, hlo]]
  refine lv_iload_n hx hb dL_asks_0 rfl (lv_at hl 1 rfl) ?_
  refine lv_if_ne (tgt := 12) hx hb dL_asks_1 (by decide) (fun _ => ?_) (fun q => by first | exact absurd q (by decide) | exact absurd (by decide) q)
  refine lv_iload_n hx hb dL_asks_12 rfl (lv_at hl 1 rfl) ?_
  refine lv_iconst (v := nI 1) hx hb dL_asks_13 (by decide) ?_
  refine lv_icmp_ne (tgt := 25) hx hb dL_asks_14 (by decide) (fun _ => ?_) (fun q => by first | exact absurd q (by decide) | exact absurd (by decide) q)
  refine lv_iload_n hx hb dL_asks_25 rfl (lv_at hl 1 rfl) ?_
  refine lv_iconst (v := nI 2) hx hb dL_asks_26 (by decide) ?_
  refine lv_icmp_ne (tgt := 39) hx hb dL_asks_27 (by decide) (fun _ => ?_) (fun q => by first | exact absurd q (by decide) | exact absurd (by decide) q)
  refine lv_iload_n hx hb dL_asks_39 rfl (lv_at hl 1 rfl) ?_
  refine lv_iconst (v := nI 3) hx hb dL_asks_40 (by decide) ?_
  refine lv_icmp_ne (tgt := 52) hx hb dL_asks_41 (by decide) (fun _ => ?_) (fun q => by first | exact absurd q (by decide) | exact absurd (by decide) q)
  refine lv_iload_n hx hb dL_asks_52 rfl (lv_at hl 1 rfl) ?_
  refine lv_iconst (v := nI 4) hx hb dL_asks_53 (by decide) ?_
  refine lv_icmp_ne (tgt := 68) hx hb dL_asks_54 (by decide) (fun q => by first | exact absurd q (by decide) | exact absurd (by decide) q) (fun _ => ?_)
  refine lv_aload_n hx hb dL_asks_57 rfl (lv_at hl 0 rfl) ?_
  refine lv_iload_n hx hb dL_asks_58 rfl (lv_at hl 2 rfl) ?_
  refine lv_iload_n hx hb dL_asks_59 rfl (lv_at hl 3 rfl) ?_
  refine lv_iload hx hb dL_asks_60 (lv_at hl 4 rfl) ?_
  refine xn_calli (vx_runV (As := [.int f, .int t, .int q]) (rest := []) ⟨hx, hb, hml, hown, hts⟩ (c_X5_displaced l hfl D cy ad σ er ofd de bo ql qs tv hbo hI hDL hQZ f t q H.size) (cwV 3 hts gL_asks_X5_displaced rfl rfl rfl hdX5_displaced ⟨Nat.le_of_ble_eq_true rfl, Nat.le_of_ble_eq_true rfl⟩) (xo_preV hK rfl hP hD hXW (hXZ.at hS hD hA (fun _ hq => hq)) (va_recv hK.1 hP (ci := 5) (q0 := 0) rfl rfl)) rfl rfl hl.1 rfl (lv_room (Nat.le_of_ble_eq_true rfl)) dL_asks_62 ⟨Nat.le_of_ble_eq_true rfl, Nat.le_of_ble_eq_true rfl⟩) hS hP hD hA (fun E ce q9 H locs hex hP hD hS hc9 hv9 hcl9 => ?_) (fun r u H locs hr hP hD hS => ?_)
  · skip
    have hex0 := hex
    rcases hex with hex | hex
    · skip
      obtain rfl : E = eIO := by first | exact hex.2 | exact hex.2.2 | exact hex.2.2.2
      refine vx_catch hown [] ⟨0, 124, 125, 45⟩ [⟨0, 124, 130, 47⟩] (htab.trans rfl) (fun z hz => absurd hz List.not_mem_nil) rfl (by decide) (hts _ (List.mem_of_getElem? (i := 1) rfl)) (va_Nw.use rfl (hXW.1 _ xc_IO rfl)) hc9 hv9 hcl9 ?_
      refine lv_astore (lv' := [(5, .ref q9), (0, .ref ((ad 0 0))), (1, .int (nI 4)), (2, .int f), (3, .int t), (4, .int q)]) hx hb dL_asks_125 hl (by decide) rfl (fun ls hl => ?_)
      refine lv_bipush (v := -30) hx hb dL_asks_127 (by decide) ?_
      refine W.widen (k := 1) (n := 6) (Nat.le_of_ble_eq_true rfl) (Nat.le_of_ble_eq_true rfl) ?_
      exact hret none dL_asks_129 hP hD hS (Or.inr ⟨eIO, rfl, hex0, (cd_O).symm⟩)
    · skip
      obtain rfl : E = eIA := by first | exact hex.2 | exact hex.2.2 | exact hex.2.2.2
      refine vx_catch hown [⟨0, 124, 125, 45⟩] ⟨0, 124, 130, 47⟩ [] (htab.trans rfl) (List.forall_mem_cons.mpr ⟨Or.inr ⟨by decide, "java/lang/IndexOutOfBoundsException", hts _ (List.mem_of_getElem? (i := 1) rfl), hXW.2.1 (eIA, eIO) (by decide)⟩, (fun _ h => absurd h List.not_mem_nil)⟩) rfl (by decide) (hts _ (List.mem_of_getElem? (i := 2) rfl)) (va_Nw.use rfl (hXW.1 _ xc_IA rfl)) hc9 hv9 hcl9 ?_
      refine lv_astore (lv' := [(5, .ref q9), (0, .ref ((ad 0 0))), (1, .int (nI 4)), (2, .int f), (3, .int t), (4, .int q)]) hx hb dL_asks_130 hl (by decide) rfl (fun ls hl => ?_)
      refine lv_bipush (v := -20) hx hb dL_asks_132 (by decide) ?_
      refine W.widen (k := 1) (n := 6) (Nat.le_of_ble_eq_true rfl) (Nat.le_of_ble_eq_true rfl) ?_
      exact hret none dL_asks_134 hP hD hS (Or.inr ⟨eIA, rfl, hex0, (cd_A).symm⟩)
  · skip
    refine lv_goto (tgt := 124) hx hb dL_asks_65 (by decide) ?_
    refine W.widen (k := 1) (n := 6) (Nat.le_of_ble_eq_true rfl) (Nat.le_of_ble_eq_true rfl) ?_
    exact hret (some u) dL_asks_124 hP hD hS (Or.inl ⟨u, rfl, hr⟩)
set_option maxHeartbeats 4000000 in
set_option maxRecDepth 100000 in
theorem c_L_asks_5 (l : Launch) (hfl : l.stackTraces = false) (D : va_G) (cy : Nat → ClassId) (ad : Nat → Nat → Nat) (σ : SF) (er : Int64) (ofd de bo : Nat → Option Nat) (ql : Nat → Nat) (qs : Nat → Nat → Nat) (tv : Nat → Nat) (hof : OF ad σ ofd) {n : Nat} (hI : Iv n σ) (v : Int32) (x1 x2 : Int32) : cLI l D cy yL_asks wsL_asks rmL_asks [.ref (ad 0 0), .int (nI 5), .int v, .int x1, .int x2] (WG ad cy (σ 0 0) (σ 0 3) σ er ofd de bo ql qs tv) (T := Option (Unit)) (wD (WG ad cy (σ 0 0) (σ 0 3) σ er ofd de bo ql qs tv) (fun _ => WG ad cy (σ 0 0) (σ 0 3) σ er ofd de bo ql qs tv)) (pD (fun r _ => isP σ v ∧ r = nI (σ 6 (cN v))) (fun E => ¬ isP σ v ∧ E = eIO)) 1 6 := by
  refine cLI.of (cc := cL_asks) (maxL := 6) (hh := [(0, 124, 125, 45), (0, 124, 130, 47)]) (by decide) rfl (Nat.le_of_ble_eq_true rfl) ?_
  intro p e s m args below meth c H0 A Q hx hb hml hown hts hP hK hD hS hA hXW hXZ htab hret ls hl
  obtain ⟨H, locs, hH, hlo⟩ : ∃ (H : Heap) (locs : List Loc), H = H0 ∧ locs = [] := ⟨_, _, rfl, rfl⟩
  rw [← hH] at hP
  rw [show va_S A H0 H0 [] = va_S A H0 H locs by rw [hH, hlo]] at hS
  rw [show W p l e rmL_asks s m args below meth c H0 [] 0 0 Q (F0 m 0 ls []) = W p l e rmL_asks s m args below meth c H locs 0 0 Q (F0 m 0 ls []) by rw [hH, hlo]]
  refine lv_iload_n hx hb dL_asks_0 rfl (lv_at hl 1 rfl) ?_
  refine lv_if_ne (tgt := 12) hx hb dL_asks_1 (by decide) (fun _ => ?_) (fun q => by first | exact absurd q (by decide) | exact absurd (by decide) q)
  refine lv_iload_n hx hb dL_asks_12 rfl (lv_at hl 1 rfl) ?_
  refine lv_iconst (v := nI 1) hx hb dL_asks_13 (by decide) ?_
  refine lv_icmp_ne (tgt := 25) hx hb dL_asks_14 (by decide) (fun _ => ?_) (fun q => by first | exact absurd q (by decide) | exact absurd (by decide) q)
  refine lv_iload_n hx hb dL_asks_25 rfl (lv_at hl 1 rfl) ?_
  refine lv_iconst (v := nI 2) hx hb dL_asks_26 (by decide) ?_
  refine lv_icmp_ne (tgt := 39) hx hb dL_asks_27 (by decide) (fun _ => ?_) (fun q => by first | exact absurd q (by decide) | exact absurd (by decide) q)
  refine lv_iload_n hx hb dL_asks_39 rfl (lv_at hl 1 rfl) ?_
  refine lv_iconst (v := nI 3) hx hb dL_asks_40 (by decide) ?_
  refine lv_icmp_ne (tgt := 52) hx hb dL_asks_41 (by decide) (fun _ => ?_) (fun q => by first | exact absurd q (by decide) | exact absurd (by decide) q)
  refine lv_iload_n hx hb dL_asks_52 rfl (lv_at hl 1 rfl) ?_
  refine lv_iconst (v := nI 4) hx hb dL_asks_53 (by decide) ?_
  refine lv_icmp_ne (tgt := 68) hx hb dL_asks_54 (by decide) (fun _ => ?_) (fun q => by first | exact absurd q (by decide) | exact absurd (by decide) q)
  refine lv_iload_n hx hb dL_asks_68 rfl (lv_at hl 1 rfl) ?_
  refine lv_iconst (v := nI 5) hx hb dL_asks_69 (by decide) ?_
  refine lv_icmp_ne (tgt := 81) hx hb dL_asks_70 (by decide) (fun q => by first | exact absurd q (by decide) | exact absurd (by decide) q) (fun _ => ?_)
  refine lv_aload_n hx hb dL_asks_73 rfl (lv_at hl 0 rfl) ?_
  refine lv_iload_n hx hb dL_asks_74 rfl (lv_at hl 2 rfl) ?_
  refine xn_calli (vx_runV (As := [.int v]) (rest := []) ⟨hx, hb, hml, hown, hts⟩ (c_X5_expected l hfl D cy ad σ er ofd de bo ql qs tv hof hI v H.size) (cwV 1 hts gL_asks_X5_expected rfl rfl rfl hdX5_expected ⟨Nat.le_of_ble_eq_true rfl, Nat.le_of_ble_eq_true rfl⟩) (xo_preV hK rfl hP hD hXW (hXZ.at hS hD hA (fun _ hq => hq)) (va_recv hK.1 hP (ci := 5) (q0 := 0) rfl rfl)) rfl rfl hl.1 rfl (lv_room (Nat.le_of_ble_eq_true rfl)) dL_asks_75 ⟨Nat.le_of_ble_eq_true rfl, Nat.le_of_ble_eq_true rfl⟩) hS hP hD hA (fun E ce q9 H locs hex hP hD hS hc9 hv9 hcl9 => ?_) (fun r u H locs hr hP hD hS => ?_)
  · skip
    have hex0 := hex
    rcases hex with hex
    · skip
      obtain rfl : E = eIO := by first | exact hex.2 | exact hex.2.2 | exact hex.2.2.2
      refine vx_catch hown [] ⟨0, 124, 125, 45⟩ [⟨0, 124, 130, 47⟩] (htab.trans rfl) (fun z hz => absurd hz List.not_mem_nil) rfl (by decide) (hts _ (List.mem_of_getElem? (i := 1) rfl)) (va_Nw.use rfl (hXW.1 _ xc_IO rfl)) hc9 hv9 hcl9 ?_
      refine lv_astore (lv' := [(5, .ref q9), (0, .ref ((ad 0 0))), (1, .int (nI 5)), (2, .int v), (3, .int x1), (4, .int x2)]) hx hb dL_asks_125 hl (by decide) rfl (fun ls hl => ?_)
      refine lv_bipush (v := -30) hx hb dL_asks_127 (by decide) ?_
      refine W.widen (k := 1) (n := 6) (Nat.le_of_ble_eq_true rfl) (Nat.le_of_ble_eq_true rfl) ?_
      exact hret none dL_asks_129 hP hD hS (Or.inr ⟨eIO, rfl, hex0, (cd_O).symm⟩)
  · skip
    refine lv_goto (tgt := 124) hx hb dL_asks_78 (by decide) ?_
    refine W.widen (k := 1) (n := 6) (Nat.le_of_ble_eq_true rfl) (Nat.le_of_ble_eq_true rfl) ?_
    exact hret (some u) dL_asks_124 hP hD hS (Or.inl ⟨u, rfl, hr⟩)
set_option maxHeartbeats 4000000 in
set_option maxRecDepth 100000 in
theorem c_L_asks_6 (l : Launch) (hfl : l.stackTraces = false) (D : va_G) (cy : Nat → ClassId) (ad : Nat → Nat → Nat) (σ : SF) (er : Int64) (ofd de bo : Nat → Option Nat) (ql : Nat → Nat) (qs : Nat → Nat → Nat) (tv : Nat → Nat) (hof : OF ad σ ofd) {n : Nat} (hI : Iv n σ) (v : Int32) (x1 x2 : Int32) : cLI l D cy yL_asks wsL_asks rmL_asks [.ref (ad 0 0), .int (nI 6), .int v, .int x1, .int x2] (WG ad cy (σ 0 0) (σ 0 3) σ er ofd de bo ql qs tv) (T := Option (Unit)) (wD (WG ad cy (σ 0 0) (σ 0 3) σ er ofd de bo ql qs tv) (fun _ => WG ad cy (σ 0 0) (σ 0 3) σ er ofd de bo ql qs tv)) (pD (fun r _ => isP σ v ∧ r = nI (σ 7 (cN v))) (fun E => ¬ isP σ v ∧ E = eIO)) 1 6 := by
  refine cLI.of (cc := cL_asks) (maxL := 6) (hh := [(0, 124, 125, 45), (0, 124, 130, 47)]) (by decide) rfl (Nat.le_of_ble_eq_true rfl) ?_
  intro p e s m args below meth c H0 A Q hx hb hml hown hts hP hK hD hS hA hXW hXZ htab hret ls hl
  obtain ⟨H, locs, hH, hlo⟩ : ∃ (H : Heap) (locs : List Loc), H = H0 ∧ locs = [] := ⟨_, _, rfl, rfl⟩
  rw [← hH] at hP
  rw [show va_S A H0 H0 [] = va_S A H0 H locs by rw [hH, hlo]] at hS
  rw [show W p l e rmL_asks s m args below meth c H0 [] 0 0 Q (F0 m 0 ls []) = W p l e rmL_asks s m args below meth c H locs 0 0 Q (F0 m 0 ls []) by rw [hH, hlo]]
  refine lv_iload_n hx hb dL_asks_0 rfl (lv_at hl 1 rfl) ?_
  refine lv_if_ne (tgt := 12) hx hb dL_asks_1 (by decide) (fun _ => ?_) (fun q => by first | exact absurd q (by decide) | exact absurd (by decide) q)
  refine lv_iload_n hx hb dL_asks_12 rfl (lv_at hl 1 rfl) ?_
  refine lv_iconst (v := nI 1) hx hb dL_asks_13 (by decide) ?_
  refine lv_icmp_ne (tgt := 25) hx hb dL_asks_14 (by decide) (fun _ => ?_) (fun q => by first | exact absurd q (by decide) | exact absurd (by decide) q)
  refine lv_iload_n hx hb dL_asks_25 rfl (lv_at hl 1 rfl) ?_
  refine lv_iconst (v := nI 2) hx hb dL_asks_26 (by decide) ?_
  refine lv_icmp_ne (tgt := 39) hx hb dL_asks_27 (by decide) (fun _ => ?_) (fun q => by first | exact absurd q (by decide) | exact absurd (by decide) q)
  refine lv_iload_n hx hb dL_asks_39 rfl (lv_at hl 1 rfl) ?_
  refine lv_iconst (v := nI 3) hx hb dL_asks_40 (by decide) ?_
  refine lv_icmp_ne (tgt := 52) hx hb dL_asks_41 (by decide) (fun _ => ?_) (fun q => by first | exact absurd q (by decide) | exact absurd (by decide) q)
  refine lv_iload_n hx hb dL_asks_52 rfl (lv_at hl 1 rfl) ?_
  refine lv_iconst (v := nI 4) hx hb dL_asks_53 (by decide) ?_
  refine lv_icmp_ne (tgt := 68) hx hb dL_asks_54 (by decide) (fun _ => ?_) (fun q => by first | exact absurd q (by decide) | exact absurd (by decide) q)
  refine lv_iload_n hx hb dL_asks_68 rfl (lv_at hl 1 rfl) ?_
  refine lv_iconst (v := nI 5) hx hb dL_asks_69 (by decide) ?_
  refine lv_icmp_ne (tgt := 81) hx hb dL_asks_70 (by decide) (fun _ => ?_) (fun q => by first | exact absurd q (by decide) | exact absurd (by decide) q)
  refine lv_iload_n hx hb dL_asks_81 rfl (lv_at hl 1 rfl) ?_
  refine lv_bipush (v := nI 6) hx hb dL_asks_82 (by decide) ?_
  refine lv_icmp_ne (tgt := 95) hx hb dL_asks_84 (by decide) (fun q => by first | exact absurd q (by decide) | exact absurd (by decide) q) (fun _ => ?_)
  refine lv_aload_n hx hb dL_asks_87 rfl (lv_at hl 0 rfl) ?_
  refine lv_iload_n hx hb dL_asks_88 rfl (lv_at hl 2 rfl) ?_
  refine xn_calli (vx_runV (As := [.int v]) (rest := []) ⟨hx, hb, hml, hown, hts⟩ (c_X5_asked l hfl D cy ad σ er ofd de bo ql qs tv hof hI v H.size) (cwV 1 hts gL_asks_X5_asked rfl rfl rfl hdX5_asked ⟨Nat.le_of_ble_eq_true rfl, Nat.le_of_ble_eq_true rfl⟩) (xo_preV hK rfl hP hD hXW (hXZ.at hS hD hA (fun _ hq => hq)) (va_recv hK.1 hP (ci := 5) (q0 := 0) rfl rfl)) rfl rfl hl.1 rfl (lv_room (Nat.le_of_ble_eq_true rfl)) dL_asks_89 ⟨Nat.le_of_ble_eq_true rfl, Nat.le_of_ble_eq_true rfl⟩) hS hP hD hA (fun E ce q9 H locs hex hP hD hS hc9 hv9 hcl9 => ?_) (fun r u H locs hr hP hD hS => ?_)
  · skip
    have hex0 := hex
    rcases hex with hex
    · skip
      obtain rfl : E = eIO := by first | exact hex.2 | exact hex.2.2 | exact hex.2.2.2
      refine vx_catch hown [] ⟨0, 124, 125, 45⟩ [⟨0, 124, 130, 47⟩] (htab.trans rfl) (fun z hz => absurd hz List.not_mem_nil) rfl (by decide) (hts _ (List.mem_of_getElem? (i := 1) rfl)) (va_Nw.use rfl (hXW.1 _ xc_IO rfl)) hc9 hv9 hcl9 ?_
      refine lv_astore (lv' := [(5, .ref q9), (0, .ref ((ad 0 0))), (1, .int (nI 6)), (2, .int v), (3, .int x1), (4, .int x2)]) hx hb dL_asks_125 hl (by decide) rfl (fun ls hl => ?_)
      refine lv_bipush (v := -30) hx hb dL_asks_127 (by decide) ?_
      refine W.widen (k := 1) (n := 6) (Nat.le_of_ble_eq_true rfl) (Nat.le_of_ble_eq_true rfl) ?_
      exact hret none dL_asks_129 hP hD hS (Or.inr ⟨eIO, rfl, hex0, (cd_O).symm⟩)
  · skip
    refine lv_goto (tgt := 124) hx hb dL_asks_92 (by decide) ?_
    refine W.widen (k := 1) (n := 6) (Nat.le_of_ble_eq_true rfl) (Nat.le_of_ble_eq_true rfl) ?_
    exact hret (some u) dL_asks_124 hP hD hS (Or.inl ⟨u, rfl, hr⟩)
set_option maxHeartbeats 4000000 in
set_option maxRecDepth 100000 in
theorem c_L_asks_7 (l : Launch) (hfl : l.stackTraces = false) (D : va_G) (cy : Nat → ClassId) (ad : Nat → Nat → Nat) (σ : SF) (er : Int64) (ofd de bo : Nat → Option Nat) (ql : Nat → Nat) (qs : Nat → Nat → Nat) (tv : Nat → Nat) (v : Int32) (x1 x2 : Int32) : cLI l D cy yL_asks wsL_asks rmL_asks [.ref (ad 0 0), .int (nI 7), .int v, .int x1, .int x2] (WG ad cy (σ 0 0) (σ 0 3) σ er ofd de bo ql qs tv) (T := Option (Unit)) (wD (WG ad cy (σ 0 0) (σ 0 3) σ er ofd de bo ql qs tv) (fun _ => WG ad cy (σ 0 0) (σ 0 3) σ er ofd de bo ql qs tv)) (pD (fun r _ => okN v ∧ r = nI (σ 15 (cN (-v)))) (fun E => ¬ okN v ∧ E = eIA)) 1 6 := by
  refine cLI.of (cc := cL_asks) (maxL := 6) (hh := [(0, 124, 125, 45), (0, 124, 130, 47)]) (by decide) rfl (Nat.le_of_ble_eq_true rfl) ?_
  intro p e s m args below meth c H0 A Q hx hb hml hown hts hP hK hD hS hA hXW hXZ htab hret ls hl
  obtain ⟨H, locs, hH, hlo⟩ : ∃ (H : Heap) (locs : List Loc), H = H0 ∧ locs = [] := ⟨_, _, rfl, rfl⟩
  rw [← hH] at hP
  rw [show va_S A H0 H0 [] = va_S A H0 H locs by rw [hH, hlo]] at hS
  rw [show W p l e rmL_asks s m args below meth c H0 [] 0 0 Q (F0 m 0 ls []) = W p l e rmL_asks s m args below meth c H locs 0 0 Q (F0 m 0 ls []) by rw [hH, hlo]]
  refine lv_iload_n hx hb dL_asks_0 rfl (lv_at hl 1 rfl) ?_
  refine lv_if_ne (tgt := 12) hx hb dL_asks_1 (by decide) (fun _ => ?_) (fun q => by first | exact absurd q (by decide) | exact absurd (by decide) q)
  refine lv_iload_n hx hb dL_asks_12 rfl (lv_at hl 1 rfl) ?_
  refine lv_iconst (v := nI 1) hx hb dL_asks_13 (by decide) ?_
  refine lv_icmp_ne (tgt := 25) hx hb dL_asks_14 (by decide) (fun _ => ?_) (fun q => by first | exact absurd q (by decide) | exact absurd (by decide) q)
  refine lv_iload_n hx hb dL_asks_25 rfl (lv_at hl 1 rfl) ?_
  refine lv_iconst (v := nI 2) hx hb dL_asks_26 (by decide) ?_
  refine lv_icmp_ne (tgt := 39) hx hb dL_asks_27 (by decide) (fun _ => ?_) (fun q => by first | exact absurd q (by decide) | exact absurd (by decide) q)
  refine lv_iload_n hx hb dL_asks_39 rfl (lv_at hl 1 rfl) ?_
  refine lv_iconst (v := nI 3) hx hb dL_asks_40 (by decide) ?_
  refine lv_icmp_ne (tgt := 52) hx hb dL_asks_41 (by decide) (fun _ => ?_) (fun q => by first | exact absurd q (by decide) | exact absurd (by decide) q)
  refine lv_iload_n hx hb dL_asks_52 rfl (lv_at hl 1 rfl) ?_
  refine lv_iconst (v := nI 4) hx hb dL_asks_53 (by decide) ?_
  refine lv_icmp_ne (tgt := 68) hx hb dL_asks_54 (by decide) (fun _ => ?_) (fun q => by first | exact absurd q (by decide) | exact absurd (by decide) q)
  refine lv_iload_n hx hb dL_asks_68 rfl (lv_at hl 1 rfl) ?_
  refine lv_iconst (v := nI 5) hx hb dL_asks_69 (by decide) ?_
  refine lv_icmp_ne (tgt := 81) hx hb dL_asks_70 (by decide) (fun _ => ?_) (fun q => by first | exact absurd q (by decide) | exact absurd (by decide) q)
  refine lv_iload_n hx hb dL_asks_81 rfl (lv_at hl 1 rfl) ?_
  refine lv_bipush (v := nI 6) hx hb dL_asks_82 (by decide) ?_
  refine lv_icmp_ne (tgt := 95) hx hb dL_asks_84 (by decide) (fun _ => ?_) (fun q => by first | exact absurd q (by decide) | exact absurd (by decide) q)
  refine lv_iload_n hx hb dL_asks_95 rfl (lv_at hl 1 rfl) ?_
  refine lv_bipush (v := nI 7) hx hb dL_asks_96 (by decide) ?_
  refine lv_icmp_ne (tgt := 109) hx hb dL_asks_98 (by decide) (fun q => by first | exact absurd q (by decide) | exact absurd (by decide) q) (fun _ => ?_)
  refine lv_aload_n hx hb dL_asks_101 rfl (lv_at hl 0 rfl) ?_
  refine lv_iload_n hx hb dL_asks_102 rfl (lv_at hl 2 rfl) ?_
  refine xn_calli (vx_runV (As := [.int v]) (rest := []) ⟨hx, hb, hml, hown, hts⟩ (c_X5_refused l hfl D cy ad σ er ofd de bo ql qs tv v H.size) (cwV 1 hts gL_asks_X5_refused rfl rfl rfl hdX5_refused ⟨Nat.le_of_ble_eq_true rfl, Nat.le_of_ble_eq_true rfl⟩) (xo_preV hK rfl hP hD hXW (hXZ.at hS hD hA (fun _ hq => hq)) (va_recv hK.1 hP (ci := 5) (q0 := 0) rfl rfl)) rfl rfl hl.1 rfl (lv_room (Nat.le_of_ble_eq_true rfl)) dL_asks_103 ⟨Nat.le_of_ble_eq_true rfl, Nat.le_of_ble_eq_true rfl⟩) hS hP hD hA (fun E ce q9 H locs hex hP hD hS hc9 hv9 hcl9 => ?_) (fun r u H locs hr hP hD hS => ?_)
  · skip
    have hex0 := hex
    rcases hex with hex
    · skip
      obtain rfl : E = eIA := by first | exact hex.2 | exact hex.2.2 | exact hex.2.2.2
      refine vx_catch hown [⟨0, 124, 125, 45⟩] ⟨0, 124, 130, 47⟩ [] (htab.trans rfl) (List.forall_mem_cons.mpr ⟨Or.inr ⟨by decide, "java/lang/IndexOutOfBoundsException", hts _ (List.mem_of_getElem? (i := 1) rfl), hXW.2.1 (eIA, eIO) (by decide)⟩, (fun _ h => absurd h List.not_mem_nil)⟩) rfl (by decide) (hts _ (List.mem_of_getElem? (i := 2) rfl)) (va_Nw.use rfl (hXW.1 _ xc_IA rfl)) hc9 hv9 hcl9 ?_
      refine lv_astore (lv' := [(5, .ref q9), (0, .ref ((ad 0 0))), (1, .int (nI 7)), (2, .int v), (3, .int x1), (4, .int x2)]) hx hb dL_asks_130 hl (by decide) rfl (fun ls hl => ?_)
      refine lv_bipush (v := -20) hx hb dL_asks_132 (by decide) ?_
      refine W.widen (k := 1) (n := 6) (Nat.le_of_ble_eq_true rfl) (Nat.le_of_ble_eq_true rfl) ?_
      exact hret none dL_asks_134 hP hD hS (Or.inr ⟨eIA, rfl, hex0, (cd_A).symm⟩)
  · skip
    refine lv_goto (tgt := 124) hx hb dL_asks_106 (by decide) ?_
    refine W.widen (k := 1) (n := 6) (Nat.le_of_ble_eq_true rfl) (Nat.le_of_ble_eq_true rfl) ?_
    exact hret (some u) dL_asks_124 hP hD hS (Or.inl ⟨u, rfl, hr⟩)
set_option maxHeartbeats 4000000 in
set_option maxRecDepth 100000 in
theorem c_L_asks_8 (l : Launch) (hfl : l.stackTraces = false) (D : va_G) (cy : Nat → ClassId) (ad : Nat → Nat → Nat) (σ : SF) (er : Int64) (ofd de bo : Nat → Option Nat) (ql : Nat → Nat) (qs : Nat → Nat → Nat) (tv : Nat → Nat) (hof : OF ad σ ofd) {n : Nat} (hI : Iv n σ) (v : Int32) (hv : ¬ isP σ v) (x1 x2 : Int32) : cLI l D cy yL_asks wsL_asks rmL_asks [.ref (ad 0 0), .int (nI 8), .int v, .int x1, .int x2] (WG ad cy (σ 0 0) (σ 0 3) σ er ofd de bo ql qs tv) (T := Option (Unit)) (wD (WG ad cy (σ 0 0) (σ 0 3) σ er ofd de bo ql qs tv) (fun _ => WG ad cy (σ 0 0) (σ 0 3) σ er ofd de bo ql qs tv)) (pD (fun _ _ => False) (fun E => ¬ isP σ v ∧ E = eIO)) 1 6 := by
  refine cLI.of (cc := cL_asks) (maxL := 6) (hh := [(0, 124, 125, 45), (0, 124, 130, 47)]) (by decide) rfl (Nat.le_of_ble_eq_true rfl) ?_
  intro p e s m args below meth c H0 A Q hx hb hml hown hts hP hK hD hS hA hXW hXZ htab hret ls hl
  obtain ⟨H, locs, hH, hlo⟩ : ∃ (H : Heap) (locs : List Loc), H = H0 ∧ locs = [] := ⟨_, _, rfl, rfl⟩
  rw [← hH] at hP
  rw [show va_S A H0 H0 [] = va_S A H0 H locs by rw [hH, hlo]] at hS
  rw [show W p l e rmL_asks s m args below meth c H0 [] 0 0 Q (F0 m 0 ls []) = W p l e rmL_asks s m args below meth c H locs 0 0 Q (F0 m 0 ls []) by rw [hH, hlo]]
  refine lv_iload_n hx hb dL_asks_0 rfl (lv_at hl 1 rfl) ?_
  refine lv_if_ne (tgt := 12) hx hb dL_asks_1 (by decide) (fun _ => ?_) (fun q => by first | exact absurd q (by decide) | exact absurd (by decide) q)
  refine lv_iload_n hx hb dL_asks_12 rfl (lv_at hl 1 rfl) ?_
  refine lv_iconst (v := nI 1) hx hb dL_asks_13 (by decide) ?_
  refine lv_icmp_ne (tgt := 25) hx hb dL_asks_14 (by decide) (fun _ => ?_) (fun q => by first | exact absurd q (by decide) | exact absurd (by decide) q)
  refine lv_iload_n hx hb dL_asks_25 rfl (lv_at hl 1 rfl) ?_
  refine lv_iconst (v := nI 2) hx hb dL_asks_26 (by decide) ?_
  refine lv_icmp_ne (tgt := 39) hx hb dL_asks_27 (by decide) (fun _ => ?_) (fun q => by first | exact absurd q (by decide) | exact absurd (by decide) q)
  refine lv_iload_n hx hb dL_asks_39 rfl (lv_at hl 1 rfl) ?_
  refine lv_iconst (v := nI 3) hx hb dL_asks_40 (by decide) ?_
  refine lv_icmp_ne (tgt := 52) hx hb dL_asks_41 (by decide) (fun _ => ?_) (fun q => by first | exact absurd q (by decide) | exact absurd (by decide) q)
  refine lv_iload_n hx hb dL_asks_52 rfl (lv_at hl 1 rfl) ?_
  refine lv_iconst (v := nI 4) hx hb dL_asks_53 (by decide) ?_
  refine lv_icmp_ne (tgt := 68) hx hb dL_asks_54 (by decide) (fun _ => ?_) (fun q => by first | exact absurd q (by decide) | exact absurd (by decide) q)
  refine lv_iload_n hx hb dL_asks_68 rfl (lv_at hl 1 rfl) ?_
  refine lv_iconst (v := nI 5) hx hb dL_asks_69 (by decide) ?_
  refine lv_icmp_ne (tgt := 81) hx hb dL_asks_70 (by decide) (fun _ => ?_) (fun q => by first | exact absurd q (by decide) | exact absurd (by decide) q)
  refine lv_iload_n hx hb dL_asks_81 rfl (lv_at hl 1 rfl) ?_
  refine lv_bipush (v := nI 6) hx hb dL_asks_82 (by decide) ?_
  refine lv_icmp_ne (tgt := 95) hx hb dL_asks_84 (by decide) (fun _ => ?_) (fun q => by first | exact absurd q (by decide) | exact absurd (by decide) q)
  refine lv_iload_n hx hb dL_asks_95 rfl (lv_at hl 1 rfl) ?_
  refine lv_bipush (v := nI 7) hx hb dL_asks_96 (by decide) ?_
  refine lv_icmp_ne (tgt := 109) hx hb dL_asks_98 (by decide) (fun _ => ?_) (fun q => by first | exact absurd q (by decide) | exact absurd (by decide) q)
  refine lv_aload_n hx hb dL_asks_109 rfl (lv_at hl 0 rfl) ?_
  refine lv_iload_n hx hb dL_asks_110 rfl (lv_at hl 2 rfl) ?_
  refine xn_callf (vx_runV (As := [.int v]) (rest := []) ⟨hx, hb, hml, hown, hts⟩ (c_X5_average l hfl D cy ad σ er ofd de bo ql qs tv hof hI v H.size) (cwV 1 hts gL_asks_X5_average rfl rfl rfl hdX5_average ⟨Nat.le_of_ble_eq_true rfl, Nat.le_of_ble_eq_true rfl⟩) (xo_preV hK rfl hP hD hXW (hXZ.at hS hD hA (fun _ hq => hq)) (va_recv hK.1 hP (ci := 5) (q0 := 0) rfl rfl)) rfl rfl hl.1 rfl (lv_room (Nat.le_of_ble_eq_true rfl)) dL_asks_111 ⟨Nat.le_of_ble_eq_true rfl, Nat.le_of_ble_eq_true rfl⟩) hS hP hD hA (fun E ce q9 H locs hex hP hD hS hc9 hv9 hcl9 => ?_) (fun r u H locs hr hP hD hS => ?_)
  · skip
    have hex0 := hex
    rcases hex with hex
    · skip
      obtain rfl : E = eIO := by first | exact hex.2 | exact hex.2.2 | exact hex.2.2.2
      refine vx_catch hown [] ⟨0, 124, 125, 45⟩ [⟨0, 124, 130, 47⟩] (htab.trans rfl) (fun z hz => absurd hz List.not_mem_nil) rfl (by decide) (hts _ (List.mem_of_getElem? (i := 1) rfl)) (va_Nw.use rfl (hXW.1 _ xc_IO rfl)) hc9 hv9 hcl9 ?_
      refine lv_astore (lv' := [(5, .ref q9), (0, .ref ((ad 0 0))), (1, .int (nI 8)), (2, .int v), (3, .int x1), (4, .int x2)]) hx hb dL_asks_125 hl (by decide) rfl (fun ls hl => ?_)
      refine lv_bipush (v := -30) hx hb dL_asks_127 (by decide) ?_
      refine W.widen (k := 1) (n := 6) (Nat.le_of_ble_eq_true rfl) (Nat.le_of_ble_eq_true rfl) ?_
      exact hret none dL_asks_129 hP hD hS (Or.inr ⟨eIO, rfl, hex0, (cd_O).symm⟩)
  · skip
    exact absurd hr.1 hv
