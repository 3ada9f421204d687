/-! a method of the law that reads the script too -/
def cLS (l : Launch) (D : va_G) (cy : Nat → ClassId) (y : MethodName) (ws : List Cond) (rm : Room) (av : List Value) (b L : Nat) (xs : Nat → Int32) (w : va_W) {T : Type} (w1 : T → va_W) (post : Int32 → T → Prop) (mc ms : Nat) : Prop :=
  ∀ sz : Nat, Met l y ws rm (va_Pc av (fun U => PX D cy w sz U ∧ va_X b L xs U U.heap ∧ b < U.heap.size)) (va_Qi post (fun u t => va_P D vwCl (w1 u) t.heap ∧ va_D (va_A w sz) (w1 u)) (va_A w sz)) mc ms (va_A w sz)
theorem cLS.of {l : Launch} {D : va_G} {cy : Nat → ClassId} {y : MethodName} {ws ws' : List Cond} {rm : Room} {av : List Value} {b L : Nat} {xs : Nat → Int32} {w : va_W} {T : Type} {w1 : T → va_W} {post : Int32 → T → Prop} {mc ms : Nat} {cc : ByteArray} {maxL : Nat} (hy : plainName y.cls = true) (hw : ws = Cond.code y cc maxL (some .boolean) :: ws') (hlen : (lg_sl av).length ≤ maxL) (hz : ∀ v u, post v u → narrow .boolean (.int v) = .int v)
    (body : ∀ (p : Program) (e : Env) (s : State) (m : MethodId) (args : Array Value) (below : List Frame) (meth : Method) (c : Code) (H0 : Heap) (A : Nat → Prop) (Q : State → Prop), p.tables.exec = Jvm.exec → c.code = cc → c.maxLocals = maxL → s.vm.findClass y.cls = some m.cls → (∀ w ∈ ws, w.before args s = true) → va_P D vwCl w H0 → KW D cy s → va_D A w → va_S A H0 H0 [] → (∀ q : Nat, H0.size ≤ q → A q) → XW s → XZ A s H0 → va_X b L xs s H0 → b < H0.size →
      (∀ {pc : Nat} {ls : Array Slot} {v : Int32} {H : Heap} {locs : List Loc} (u : T), decode cc pc = .ok (.ireturn, 1) → va_P D vwCl (w1 u) H → va_D A (w1 u) → va_S A H0 H locs → post v u → W p l e rm s m args below meth c H locs mc ms Q (F0 m pc ls [.int v])) →
      ∀ ls : Array Slot, lv_has ls maxL (lv_args 0 av) → W p l e rm s m args below meth c H0 [] 0 0 Q (F0 m 0 ls [])) : cLS l D cy y ws rm av b L xs w w1 post mc ms := by
  intro sz
  refine Met.ofW (cc := cc) (maxL := maxL) (ret := some .boolean) hy hw ?_
  intro p e s m args below meth c s₁ B hml hv
  obtain ⟨rfl, ⟨hsz, hP, hK, hD0, hXW, hXZ⟩, hX, hbl⟩ := hv
  subst hsz
  have hD := hD0.self (sz := s.heap.size)
  have hl := lv_entry av hlen
  rw [lg_entry_eq]
  refine body p e s m _ below meth c s.heap (va_A w s.heap.size) _ B.exec B.bytes hml (findClass_of_methodNamed B.named) (atoms_spec (ws := ws) B.pre) hP hK hD va_S.rf (fun q h => Or.inr h) hXW hXZ hX hbl ?_ _ hl
  intro pc ls v H locs u hd hP1 hD1 hS hp
  exact W.zret B.exec B.bytes B.returns (hz v u hp) (fun t ht hW => ⟨⟨v, u, rfl, hp, by rw [ht]; exact hP1, hD1⟩, hS.F ht⟩) hS.2.2 hd B.notSynchronized
theorem xs_preS {s : State} {H : Heap} {D : va_G} {cy : Nat → ClassId} {w : va_W} {A0 : Nat → Prop} {As : List Value} {sz b L : Nat} {xs : Nat → Int32} (hK : KW D cy s) (hsz : H.size = sz) (hP : va_P D vwCl w H) (hD : va_D A0 w) (hXW : XW s) (hXZ : XZ (va_A w sz) s H) (hX : va_X b L xs s H) (hbl : b < H.size) : PreS s H (va_Pc As (fun U => PX D cy w sz U ∧ va_X b L xs U U.heap ∧ b < U.heap.size)) As :=
  ⟨fun a U g mk q => by obtain ⟨q0, q1, q2, q3⟩ := q; exact ⟨q0, q1.calling, va_X.moved (u := U) (U := U.calling g mk a) (Vm.Alike.refl U.vm) q2, q3⟩, fun U hU hW => ⟨rfl, ⟨by rw [hU]; exact hsz, by rw [hU]; exact hP, hK.warm hW, hD.weaken (fun _ _ _ _ => trivial), hXW.warm hW, by rw [hU]; exact hXZ.moved hW.alike⟩, by rw [hU]; exact va_X.moved hW.alike hX, by rw [hU]; exact hbl⟩⟩
theorem sc_kept {s : State} {H0 H : Heap} {A : Nat → Prop} {locs : List Loc} {b L : Nat} {xs : Nat → Int32} (hX : va_X b L xs s H0) (hbl : b < H0.size) (hbA : ¬ A b) (hS : va_S A H0 H locs) : va_X b L xs s H ∧ b < H.size := ⟨hX.kept (hS.2.1 b hbl hbA), Nat.lt_of_lt_of_le hbl hS.1⟩
/-! the law may write what stands there already -/
section MSET
variable {σ : SF} {pf hf bf gf : Nat → Nat}
theorem MR.same0 (h : MR σ pf hf bf gf) {j x : Nat} (hj : j < 3) (hx : x = σ 1 j) : MR σ pf hf bf (va_up gf j x) := by
  subst hx
  refine ⟨h.1, h.2.1, h.2.2.1, ⟨fun i hi => ?_, ?_, ?_, ?_, ?_, ?_, ?_, ?_⟩, h.2.2.2.2⟩
  · rw [up_if]
    split
    · rename_i q; rw [q]
    · exact h.g0 hi
  · rw [va_ne (by omega)]; exact h.g3
  · rw [va_ne (by omega)]; exact h.g4
  · rw [va_ne (by omega)]; exact h.g5
  · rw [va_ne (by omega)]; exact h.g6
  · rw [va_ne (by omega)]; exact h.g7
  · rw [va_ne (by omega)]; exact h.g8
  · rw [va_ne (by omega)]; exact h.g9
theorem MR.same3 (h : MR σ pf hf bf gf) {x : Nat} (hx : x = σ 0 2) : MR σ pf hf bf (va_up gf 3 x) := by
  subst hx
  refine ⟨h.1, h.2.1, h.2.2.1, ⟨fun i hi => ?_, ?_, ?_, ?_, ?_, ?_, ?_, ?_⟩, h.2.2.2.2⟩
  · rw [va_ne (by omega)]; exact h.g0 hi
  · rw [up_at]
  · rw [va_ne (by omega)]; exact h.g4
  · rw [va_ne (by omega)]; exact h.g5
  · rw [va_ne (by omega)]; exact h.g6
  · rw [va_ne (by omega)]; exact h.g7
  · rw [va_ne (by omega)]; exact h.g8
  · rw [va_ne (by omega)]; exact h.g9
end MSET
