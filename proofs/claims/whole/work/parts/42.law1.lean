section LCA
variable {p : Program} {l : Launch} {e : Env} {R : Room} {s : State} {m : MethodId} {args : Array Value} {below : List Frame} {meth : Method} {c : Code} {H : Heap} {locs : List Loc} {cells slots mc ms : Nat} {Q : State → Prop}
variable {cc : ByteArray} {pc : Nat} {ls : Array Slot} {rest st : List Value} {D : va_G} {cy : Nat → ClassId} {A0 : Nat → Prop} {a : Array Value} {H0 : Heap} {wc X Y : va_W} {b ao aD : Nat} {o : Nat → Int64} {d : Nat → UInt64}
theorem al_calli {T : Type} {w1 : T → va_W} {post : Int32 → T → Prop} (hr : va_Run p l e R s m args below meth c H locs cells slots mc ms (F0 m pc ls st) rest (va_Qi post (fun u t => va_P D vwCl (w1 u) t.heap ∧ va_D (va_A wc H.size) (w1 u)) (va_A wc H.size) a) (va_A wc H.size)) (hS : va_S A0 H0 H locs) (hP : va_P D vwCl (wc ++ Y) H) (hD : va_D A0 (wc ++ Y)) (hA : ∀ q, H0.size ≤ q → A0 q) (k : ∀ (r : Int32) (u : T) (H1 : Heap) (locs1 : List Loc), post r u → va_P D vwCl (w1 u ++ Y) H1 → va_D A0 (w1 u ++ Y) → va_S A0 H0 H1 locs1 → W p l e R s m args below meth c H1 locs1 (cells + mc) (slots + ms) Q (F0 m (pc + 3) ls (.int r :: rest))) : W p l e R s m args below meth c H locs cells slots Q (F0 m pc ls st) := by
  have hF := va_fri hS hD hA (wc := wc) (fun q hq => List.mem_append_left _ hq)
  refine va_calli hr hS (fun q _ h => hF q h) hF (fun r u t H1 locs1 ht hvm hp hB hz hk hS1 => ?_)
  rw [ht] at hB
  have h9 := va_apartL hP hD hF hk hB.1 hB.2
  exact k r u H1 locs1 hp h9.1 h9.2 hS1
theorem ap_calli {T : Type} {w1 : T → va_W} {post : Int32 → T → Prop} (hr : va_Run p l e R s m args below meth c H locs cells slots mc ms (F0 m pc ls st) rest (va_Qi post (fun u t => va_P D vwCl (w1 u) t.heap ∧ va_D (va_A wc H.size) (w1 u)) (va_A wc H.size) a) (va_A wc H.size)) (hS : va_S A0 H0 H locs) (hP : va_P D vwCl (X ++ wc) H) (hD : va_D A0 (X ++ wc)) (hA : ∀ q, H0.size ≤ q → A0 q) (k : ∀ (r : Int32) (u : T) (H1 : Heap) (locs1 : List Loc), post r u → va_P D vwCl (X ++ w1 u) H1 → va_D A0 (X ++ w1 u) → va_S A0 H0 H1 locs1 → W p l e R s m args below meth c H1 locs1 (cells + mc) (slots + ms) Q (F0 m (pc + 3) ls (.int r :: rest))) : W p l e R s m args below meth c H locs cells slots Q (F0 m pc ls st) := by
  have hF := va_fri hS hD hA (wc := wc) (fun q hq => List.mem_append_right _ hq)
  refine va_calli hr hS (fun q _ h => hF q h) hF (fun r u t H1 locs1 ht hvm hp hB hz hk hS1 => ?_)
  rw [ht] at hB
  have h9 := va_apartR hP hD hF hk hB.1 hB.2
  exact k r u H1 locs1 hp h9.1 h9.2 hS1
theorem ap_calll {T : Type} {w1 : T → va_W} {post : Int64 → T → Prop} (hr : va_Run p l e R s m args below meth c H locs cells slots mc ms (F0 m pc ls st) rest (va_Ql post (fun u t => va_P D vwCl (w1 u) t.heap ∧ va_D (va_A wc H.size) (w1 u)) (va_A wc H.size) a) (va_A wc H.size)) (hS : va_S A0 H0 H locs) (hP : va_P D vwCl (X ++ wc) H) (hD : va_D A0 (X ++ wc)) (hA : ∀ q, H0.size ≤ q → A0 q) (k : ∀ (r : Int64) (u : T) (H1 : Heap) (locs1 : List Loc), post r u → va_P D vwCl (X ++ w1 u) H1 → va_D A0 (X ++ w1 u) → va_S A0 H0 H1 locs1 → W p l e R s m args below meth c H1 locs1 (cells + mc) (slots + ms) Q (F0 m (pc + 3) ls (.long r :: rest))) : W p l e R s m args below meth c H locs cells slots Q (F0 m pc ls st) := by
  have hF := va_fri hS hD hA (wc := wc) (fun q hq => List.mem_append_right _ hq)
  refine va_calll hr hS (fun q _ h => hF q h) hF (fun r u t H1 locs1 ht hvm hp hB hz hk hS1 => ?_)
  rw [ht] at hB
  have h9 := va_apartR hP hD hF hk hB.1 hB.2
  exact k r u H1 locs1 hp h9.1 h9.2 hS1
theorem ap_callf {T : Type} {w1 : T → va_W} {post : UInt32 → T → Prop} (hr : va_Run p l e R s m args below meth c H locs cells slots mc ms (F0 m pc ls st) rest (va_Qf post (fun u t => va_P D vwCl (w1 u) t.heap ∧ va_D (va_A wc H.size) (w1 u)) (va_A wc H.size) a) (va_A wc H.size)) (hS : va_S A0 H0 H locs) (hP : va_P D vwCl (X ++ wc) H) (hD : va_D A0 (X ++ wc)) (hA : ∀ q, H0.size ≤ q → A0 q) (k : ∀ (r : UInt32) (u : T) (H1 : Heap) (locs1 : List Loc), post r u → va_P D vwCl (X ++ w1 u) H1 → va_D A0 (X ++ w1 u) → va_S A0 H0 H1 locs1 → W p l e R s m args below meth c H1 locs1 (cells + mc) (slots + ms) Q (F0 m (pc + 3) ls (.float r :: rest))) : W p l e R s m args below meth c H locs cells slots Q (F0 m pc ls st) := by
  have hF := va_fri hS hD hA (wc := wc) (fun q hq => List.mem_append_right _ hq)
  refine va_callf hr hS (fun q _ h => hF q h) hF (fun r u t H1 locs1 ht hvm hp hB hz hk hS1 => ?_)
  rw [ht] at hB
  have h9 := va_apartR hP hD hF hk hB.1 hB.2
  exact k r u H1 locs1 hp h9.1 h9.2 hS1
theorem lw_sld (hx : p.tables.exec = Jvm.exec) (hb : c.code = cc) {L : Nat} {xs : Nat → Int32} (hX : va_X b L xs s H0) (hbl : b < H0.size) (hbA : ¬ A0 b) (hS : va_S A0 H0 H locs) {j : Nat} (hj : j < L) (hL : L < 2 ^ 31) (hd : decode cc pc = .ok (.iaload, 1))
    (kk : W p l e R s m args below meth c H locs cells slots Q (F0 m (pc + 1) ls (.int (xs j) :: rest))) : W p l e R s m args below meth c H locs cells slots Q (F0 m pc ls (.int (nI j) :: .ref b :: rest)) :=
  va_sld hx hb hX hbl hbA hS (vp_in_nI hj hL) hd (by rw [nI_clamp (by omega)]; exact kk)
theorem lw_old (hx : p.tables.exec = Jvm.exec) (hb : c.code = cc) (hK : KW D cy s) (hP : va_P D vwCl ((X ++ oC cy ao aD o d) ++ Y) H) (hd : decode cc pc = .ok (.laload, 1))
    (kk : W p l e R s m args below meth c H locs cells slots Q (F0 m (pc + 1) ls (.long (o 0) :: rest))) : W p l e R s m args below meth c H locs cells slots Q (F0 m pc ls (.int (nI 0) :: .ref ao :: rest)) := by
  have hP1 : va_P D vwCl (oC cy ao aD o d) H := hP.mem (fun q hq => List.mem_append_left _ (List.mem_append_right _ hq))
  exact va_lald hx hb hK.1 hP1 0 1 rfl rfl (vp_in_nI (show 0 < 1 by omega) (by decide)) hd (by rw [nI_clamp (by decide)]; exact kk)
theorem lw_odd (hx : p.tables.exec = Jvm.exec) (hb : c.code = cc) (hK : KW D cy s) (hP : va_P D vwCl ((X ++ oC cy ao aD o d) ++ Y) H) (hd : decode cc pc = .ok (.daload, 1))
    (kk : W p l e R s m args below meth c H locs cells slots Q (F0 m (pc + 1) ls (.double (d 0) :: rest))) : W p l e R s m args below meth c H locs cells slots Q (F0 m pc ls (.int (nI 0) :: .ref aD :: rest)) := by
  have hP1 : va_P D vwCl (oC cy ao aD o d) H := hP.mem (fun q hq => List.mem_append_left _ (List.mem_append_right _ hq))
  exact va_dald hx hb hK.1 hP1 1 5 rfl rfl (vp_in_nI (show 0 < 1 by omega) (by decide)) hd (by rw [nI_clamp (by decide)]; exact kk)
theorem lc_self (x : Int64) : lg_cmp x x = 0 := by simp [lg_cmp]
theorem lw_lcmpeq (hx : p.tables.exec = Jvm.exec) (hb : c.code = cc) {x y : Int64} (h : x = y) {off : Int} {tgt : Nat} (hd : decode cc pc = .ok (.lcmp, 1)) (hd2 : decode cc (pc + 1) = .ok (.ifCond .eq off, 3)) (ht : ((pc + 1 : Nat) : Int) + off = (tgt : Int))
    (kt : W p l e R s m args below meth c H locs cells slots Q (F0 m tgt ls rest)) : W p l e R s m args below meth c H locs cells slots Q (F0 m pc ls (.long y :: .long x :: rest)) := by
  subst h
  refine W.lcmp hx hb hd ?_
  rw [lc_self]
  exact lv_if_eq hx hb hd2 ht (fun _ => kt) (fun q => absurd rfl q)
theorem lw_dcmpeq (hx : p.tables.exec = Jvm.exec) (hb : c.code = cc) {x y : UInt64} (h : x = y) (hn : FP.Core.dIsNaN y = false) {off : Int} {tgt : Nat} (hd : decode cc pc = .ok (.dcmp .l, 1)) (hd2 : decode cc (pc + 1) = .ok (.ifCond .eq off, 3)) (ht : ((pc + 1 : Nat) : Int) + off = (tgt : Int))
    (kt : W p l e R s m args below meth c H locs cells slots Q (F0 m tgt ls rest)) : W p l e R s m args below meth c H locs cells slots Q (F0 m pc ls (.double y :: .double x :: rest)) := by
  subst h
  refine lv_dcmp hx hb hd ?_
  rw [show FP.dcmp x x = some .eq from FP.Core.dcmp_refl hn]
  exact lv_if_eq hx hb hd2 ht (fun _ => kt) (fun q => absurd rfl q)
end LCA
theorem okR_le {v : Int32} {a b : Nat} (h : okR v a b) (ha : a < 2 ^ 31) (hb : b < 2 ^ 31) : a ≤ cN v ∧ cN v ≤ b ∧ v = nI (cN v) := by
  obtain ⟨k, h1, h2, rfl⟩ := okR_nat h ha hb
  rw [cN_nI (by omega)]
  exact ⟨h1, h2, rfl⟩
theorem okR_nle {v w : Int32} {a b : Nat} (h1 : okR v a b) (h2 : okR w a b) (ha : a < 2 ^ 31) (hb : b < 2 ^ 31) (h : v ≤ w) : cN v ≤ cN w := by
  obtain ⟨j, -, h4, rfl⟩ := okR_nat h1 ha hb
  obtain ⟨k, -, h6, rfl⟩ := okR_nat h2 ha hb
  rw [cN_nI (by omega), cN_nI (by omega)]
  exact (nI_leI (by omega) (by omega)).mp h
theorem isP_lt {n : Nat} {σ : SF} (hI : Iv n σ) {v : Int32} (h : isP σ v) : cN v < σ 0 0 := by
  obtain ⟨k, hk, rfl⟩ := h
  have := hI.np
  rw [cN_nI (by omega)]
  exact hk
theorem isB_lt {n : Nat} {σ : SF} (hI : Iv n σ) {v : Int32} (h : isB σ v) : cN v < σ 0 3 := by
  obtain ⟨k, hk, rfl⟩ := h
  have := hI.nb
  rw [cN_nI (by omega)]
  exact hk
theorem askA_fun {σ : SF} {k : Nat} {r r2 : Int32} {τ τ2 : SF} (h : askA σ k r τ) (g : askA σ k r2 τ2) : r = r2 ∧ τ = τ2 := by
  rcases h with ⟨h1, h2, h3⟩ | ⟨h1, h4, h2, h3⟩ | ⟨h1, h4, h5, h2, h3⟩ | ⟨h1, h4, h5, h2, h3⟩ <;> rcases g with ⟨g1, g2, g3⟩ | ⟨g1, g4, g2, g3⟩ | ⟨g1, g4, g5, g2, g3⟩ | ⟨g1, g4, g5, g2, g3⟩ <;> first
    | exact ⟨h2.trans g2.symm, h3.trans g3.symm⟩
    | exact absurd h1 g1
    | exact absurd g1 h1
    | exact absurd h4 g4
    | exact absurd g4 h4
    | exact absurd h5 g5
    | exact absurd g5 h5
theorem grpA_fun {σ : SF} {f t n c : Nat} {r r2 : Int32} {τ τ2 : SF} (h : grpA σ f t n c r τ) (g : grpA σ f t n c r2 τ2) : r = r2 ∧ τ = τ2 := by
  rcases h with ⟨h1, h2, h3⟩ | ⟨h1, h4, h2, h3⟩ | ⟨h1, h4, h2, h3⟩ <;> rcases g with ⟨g1, g2, g3⟩ | ⟨g1, g4, g2, g3⟩ | ⟨g1, g4, g2, g3⟩ <;> first
    | exact ⟨h2.trans g2.symm, h3.trans g3.symm⟩
    | exact absurd h1 g1
    | exact absurd g1 h1
    | exact absurd h4 g4
    | exact absurd g4 h4
theorem two_fun {A : Prop} {x y r r2 : Int32} (h : (A ∧ r = x) ∨ (¬ A ∧ r = y)) (g : (A ∧ r2 = x) ∨ (¬ A ∧ r2 = y)) : r = r2 := by
  rcases h with ⟨h1, h2⟩ | ⟨h1, h2⟩ <;> rcases g with ⟨g1, g2⟩ | ⟨g1, g2⟩ <;> first
    | exact h2.trans g2.symm
    | exact absurd h1 g1
    | exact absurd g1 h1
theorem ask_keep {σ : SF} {k : Nat} {r : Int32} {τ : SF} (h : askA (asF σ k) k r τ) : τ 0 0 = σ 0 0 ∧ τ 5 = σ 5 := by
  rcases h with ⟨h1, h2, rfl⟩ | ⟨h1, h4, h2, rfl⟩ | ⟨h1, h4, h5, h2, rfl⟩ | ⟨h1, h4, h5, h2, rfl⟩ <;> exact ⟨rfl, rfl⟩
theorem grp_keep {σ : SF} {f t n c : Nat} {r : Int32} {τ : SF} (h : grpA σ f t n c r τ) : τ 0 0 = σ 0 0 ∧ τ 5 = σ 5 := by
  rcases h with ⟨h1, h2, rfl⟩ | ⟨h1, h4, h2, rfl⟩ | ⟨h1, h4, h2, rfl⟩ <;> exact ⟨rfl, rfl⟩
theorem Iv_ask {n : Nat} {σ : SF} (h : Iv n σ) (hn : n < 512) {k : Nat} (hk : k < σ 0 0) (hB : ¬ σ 0 3 = 60) {r : Int32} {τ : SF} (ha : askA (asF σ k) k r τ) : Iv (n + 1) τ := by
  have h1 := h.ask hn hk
  have hp := h.pr k hk
  have hb := h.nb
  have h15 : ∀ j, asF σ k 15 j < n + 1 := fun j => Nat.lt_succ_of_le (h.rf j)
  rcases ha with ⟨-, -, rfl⟩ | ⟨-, -, -, rfl⟩ | ⟨-, -, -, -, rfl⟩ | ⟨-, -, -, -, rfl⟩
  · exact h1.rfs h15
  · exact h1.rfs h15
  · exact h1.rfs h15
  · exact h1.boks (show σ 0 3 < 60 by omega) (show σ 3 k ≤ σ 4 k from hp.1) (show σ 4 k ≤ 2 from hp.2.1) (by omega) (show σ 5 k ≤ 30000 by omega)
theorem Iv_grp {n : Nat} {σ : SF} (h : Iv n σ) (hn : n < 512) {f t q c : Nat} (hf : f ≤ t) (ht : t ≤ 2) (hq : q ≤ 10) (hc : c ≤ 3000) (hB : ¬ σ 0 3 = 60) {r : Int32} {τ : SF} (ha : grpA σ f t q c r τ) : Iv (n + 1) τ := by
  have h1 := h.more hn
  have hb := h.nb
  have hm : c * q ≤ 3000 * 10 := Nat.mul_le_mul hc hq
  have h15 : ∀ j, σ 15 j < n + 1 := fun j => Nat.lt_succ_of_le (h.rf j)
  rcases ha with ⟨-, -, rfl⟩ | ⟨-, -, -, rfl⟩ | ⟨-, -, -, rfl⟩
  · exact h1.rfs h15
  · exact h1.rfs h15
  · exact h1.boks (by omega) hf ht hq (by omega)
/-- the law's world: the class's, the law's two cells, the reference's -/
abbrev LWd (cy : Nat → ClassId) (ad : Nat → Nat → Nat) (σ : SF) (er : Int64) (ofd de bo : Nat → Option Nat) (ql : Nat → Nat) (qs : Nat → Nat → Nat) (tv : Nat → Nat) (ao aD : Nat) (o : Nat → Int64) (d : Nat → UInt64) (am : Nat → Nat) (wo : Nat → Nat) (th : Nat) : va_W := (WG ad cy (σ 0 0) (σ 0 3) σ er ofd de bo ql qs tv ++ oC cy ao aD o d) ++ WM am cy σ er wo th
/-- what holds of the state behind n calls -/
def LI (n : Nat) (ad : Nat → Nat → Nat) (σ : SF) (ofd de : Nat → Option Nat) (dl : List Nat) (bo : Nat → Option Nat) (qs : Nat → Nat → Nat) : Prop := Iv n σ ∧ OF ad σ ofd ∧ BO ad σ bo ∧ DL ad σ de dl ∧ QZ qs
/-- what stays, all along the law -/
def LX (p : Program) (l : Launch) (D : va_G) (cy : Nat → ClassId) (s : State) (m : MethodId) (c : Code) (b L : Nat) (xs : Nat → Int32) : Prop := p.tables.exec = Jvm.exec ∧ c.code = cL_law ∧ c.maxLocals = 8 ∧ s.vm.findClass RL = some m.cls ∧ (∀ w ∈ wsL_law, w.before #[Value.ref b] s = true) ∧ KW D cy s ∧ XW s ∧ XZ (fun q => s.heap.size ≤ q) s s.heap ∧ va_X b L xs s s.heap ∧ b < s.heap.size ∧ l.stackTraces = false
/-- the law stands at pc, with its i-th word next -/
def LK (p : Program) (l : Launch) (e : Env) (s : State) (m : MethodId) (below : List Frame) (meth : Method) (c : Code) (D : va_G) (cy : Nat → ClassId) (b : Nat) (Q : State → Prop) (i n pc cells slots : Nat) : Prop :=
  ∀ (ad : Nat → Nat → Nat) (σ : SF) (er : Int64) (ofd de : Nat → Option Nat) (dl : List Nat) (bo : Nat → Option Nat) (ql : Nat → Nat) (qs : Nat → Nat → Nat) (tv : Nat → Nat) (am : Nat → Nat) (wo : Nat → Nat) (th ao aD : Nat) (o : Nat → Int64) (d : Nat → UInt64) (H : Heap) (locs : List Loc) (ls : Array Slot), LI n ad σ ofd de dl bo qs → va_P D vwCl (LWd cy ad σ er ofd de bo ql qs tv ao aD o d am wo th) H → va_D (fun q => s.heap.size ≤ q) (LWd cy ad σ er ofd de bo ql qs tv ao aD o d am wo th) → va_S (fun q => s.heap.size ≤ q) s.heap H locs → lv_has ls 8 [(5, .int (nI i)), (0, .ref b), (1, .ref (ad 0 0)), (2, .ref (am 0)), (3, .ref ao), (4, .ref aD)] → W p l e room_1 s m #[Value.ref b] below meth c H locs cells slots Q (F0 m pc ls [])
