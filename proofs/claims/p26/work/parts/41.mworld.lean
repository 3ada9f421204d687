/-! the law's world: its four rows of numbers ahead of the class's world -/
def gI (f : Nat → Nat) (e : Int32) : Nat → Int32 := fun j => if j = 10 then e else nI (f j)
theorem gI_10 {f : Nat → Nat} {e : Int32} : gI f e 10 = e := rfl
theorem gI_lt {f : Nat → Nat} {e : Int32} {j : Nat} (h : j < 10) : gI f e j = nI (f j) := if_neg (by omega)
theorem gI_up {f : Nat → Nat} {e : Int32} {i x : Nat} (h : i < 10) : upd (gI f e) i (nI x) = gI (va_up f i x) e := by
  funext j
  show (if j = i then nI x else if j = 10 then e else nI (f j)) = if j = 10 then e else nI (if j = i then x else f j)
  by_cases q : j = i
  · rw [if_pos q, if_neg (by omega), if_pos q]
  · rw [if_neg q, if_neg q]
theorem gI_up10 {f : Nat → Nat} {e x : Int32} : upd (gI f e) 10 x = gI f x := by
  funext j
  show (if j = 10 then x else if j = 10 then e else nI (f j)) = if j = 10 then x else nI (f j)
  by_cases q : j = 10
  · rw [if_pos q, if_pos q]
  · rw [if_neg q, if_neg q, if_neg q]
def MC (cy : Nat → ClassId) (ap ah ab ag : Nat) (pf hf bf gf : Nat → Nat) (ei : Int32) : va_W := [(ap, .inl (cy 0, 36, .inl (fun j => nI (pf j)))), (ah, .inl (cy 0, 60, .inl (fun j => nI (hf j)))), (ab, .inl (cy 0, 40, .inl (fun j => nI (bf j)))), (ag, .inl (cy 0, 11, .inl (gI gf ei)))]
theorem mcl {D : va_G} {cl : List vw_C} {w X : va_W} {H : Heap} (h : va_P D cl (w ++ X) H) : va_P D cl w H := h.mem (fun _ hq => List.mem_append_left _ hq)
theorem mcr {D : va_G} {cl : List vw_C} {w X : va_W} {H : Heap} (h : va_P D cl (X ++ w) H) : va_P D cl w H := h.mem (fun _ hq => List.mem_append_right _ hq)
section MCR
variable {p : Program} {l : Launch} {e : Env} {R : Room} {s : State} {m : MethodId} {args : Array Value} {below : List Frame} {meth : Method} {c : Code} {H : Heap} {locs : List Loc} {cells slots mc ms : Nat} {Q : State → Prop}
variable {cc : ByteArray} {pc : Nat} {ls : Array Slot} {rest st : List Value} {D : va_G} {cy : Nat → ClassId} {A A0 : Nat → Prop} {a : Array Value} {H0 : Heap} {wc X Y : va_W} {ap ah ab ag b : Nat} {pf hf bf gf : Nat → Nat} {ei : Int32} {ex : String → Prop}
theorem mp_ld (hx : p.tables.exec = Jvm.exec) (hb : c.code = cc) (hK : KW D cy s) (hM : va_P D vwCl (MC cy ap ah ab ag pf hf bf gf ei) H) {i v : Nat} (hi : i < 36) (hv : pf i = v) (hd : decode cc pc = .ok (.iaload, 1)) (kk : W p l e R s m args below meth c H locs cells slots Q (F0 m (pc + 1) ls (.int (nI v) :: rest))) : W p l e R s m args below meth c H locs cells slots Q (F0 m pc ls (.int (nI i) :: .ref ap :: rest)) := by
  subst hv
  exact ln_iald hx hb hK.1 hM 0 0 rfl rfl hi (by decide) hd kk
theorem mp_st (hx : p.tables.exec = Jvm.exec) (hb : c.code = cc) (hK : KW D cy s) (hP : va_P D vwCl (MC cy ap ah ab ag pf hf bf gf ei ++ X) H) (hD : va_D A (MC cy ap ah ab ag pf hf bf gf ei ++ X)) (hS : va_S A H0 H locs) {i x : Nat} (hi : i < 36) (hd : decode cc pc = .ok (.iastore, 1)) (kk : ∀ (H1 : Heap) (locs1 : List Loc), va_P D vwCl (MC cy ap ah ab ag (va_up pf i x) hf bf gf ei ++ X) H1 → va_D A (MC cy ap ah ab ag (va_up pf i x) hf bf gf ei ++ X) → va_S A H0 H1 locs1 → W p l e R s m args below meth c H1 locs1 cells slots Q (F0 m (pc + 1) ls rest)) : W p l e R s m args below meth c H locs cells slots Q (F0 m pc ls (.int (nI x) :: .int (nI i) :: .ref ap :: rest)) := ln_iast hx hb hK.1 hP hD hS 0 0 rfl rfl hi (by decide) hd kk
theorem mh_ld (hx : p.tables.exec = Jvm.exec) (hb : c.code = cc) (hK : KW D cy s) (hM : va_P D vwCl (MC cy ap ah ab ag pf hf bf gf ei) H) {i v : Nat} (hi : i < 60) (hv : hf i = v) (hd : decode cc pc = .ok (.iaload, 1)) (kk : W p l e R s m args below meth c H locs cells slots Q (F0 m (pc + 1) ls (.int (nI v) :: rest))) : W p l e R s m args below meth c H locs cells slots Q (F0 m pc ls (.int (nI i) :: .ref ah :: rest)) := by
  subst hv
  exact ln_iald hx hb hK.1 hM 1 0 rfl rfl hi (by decide) hd kk
theorem mh_st (hx : p.tables.exec = Jvm.exec) (hb : c.code = cc) (hK : KW D cy s) (hP : va_P D vwCl (MC cy ap ah ab ag pf hf bf gf ei ++ X) H) (hD : va_D A (MC cy ap ah ab ag pf hf bf gf ei ++ X)) (hS : va_S A H0 H locs) {i x : Nat} (hi : i < 60) (hd : decode cc pc = .ok (.iastore, 1)) (kk : ∀ (H1 : Heap) (locs1 : List Loc), va_P D vwCl (MC cy ap ah ab ag pf (va_up hf i x) bf gf ei ++ X) H1 → va_D A (MC cy ap ah ab ag pf (va_up hf i x) bf gf ei ++ X) → va_S A H0 H1 locs1 → W p l e R s m args below meth c H1 locs1 cells slots Q (F0 m (pc + 1) ls rest)) : W p l e R s m args below meth c H locs cells slots Q (F0 m pc ls (.int (nI x) :: .int (nI i) :: .ref ah :: rest)) := ln_iast hx hb hK.1 hP hD hS 1 0 rfl rfl hi (by decide) hd kk
theorem mb_ld (hx : p.tables.exec = Jvm.exec) (hb : c.code = cc) (hK : KW D cy s) (hM : va_P D vwCl (MC cy ap ah ab ag pf hf bf gf ei) H) {i v : Nat} (hi : i < 40) (hv : bf i = v) (hd : decode cc pc = .ok (.iaload, 1)) (kk : W p l e R s m args below meth c H locs cells slots Q (F0 m (pc + 1) ls (.int (nI v) :: rest))) : W p l e R s m args below meth c H locs cells slots Q (F0 m pc ls (.int (nI i) :: .ref ab :: rest)) := by
  subst hv
  exact ln_iald hx hb hK.1 hM 2 0 rfl rfl hi (by decide) hd kk
theorem mb_st (hx : p.tables.exec = Jvm.exec) (hb : c.code = cc) (hK : KW D cy s) (hP : va_P D vwCl (MC cy ap ah ab ag pf hf bf gf ei ++ X) H) (hD : va_D A (MC cy ap ah ab ag pf hf bf gf ei ++ X)) (hS : va_S A H0 H locs) {i x : Nat} (hi : i < 40) (hd : decode cc pc = .ok (.iastore, 1)) (kk : ∀ (H1 : Heap) (locs1 : List Loc), va_P D vwCl (MC cy ap ah ab ag pf hf (va_up bf i x) gf ei ++ X) H1 → va_D A (MC cy ap ah ab ag pf hf (va_up bf i x) gf ei ++ X) → va_S A H0 H1 locs1 → W p l e R s m args below meth c H1 locs1 cells slots Q (F0 m (pc + 1) ls rest)) : W p l e R s m args below meth c H locs cells slots Q (F0 m pc ls (.int (nI x) :: .int (nI i) :: .ref ab :: rest)) := ln_iast hx hb hK.1 hP hD hS 2 0 rfl rfl hi (by decide) hd kk
theorem mg_ld (hx : p.tables.exec = Jvm.exec) (hb : c.code = cc) (hK : KW D cy s) (hM : va_P D vwCl (MC cy ap ah ab ag pf hf bf gf ei) H) {i v : Nat} (hi : i < 10) (hv : gf i = v) (hd : decode cc pc = .ok (.iaload, 1)) (kk : W p l e R s m args below meth c H locs cells slots Q (F0 m (pc + 1) ls (.int (nI v) :: rest))) : W p l e R s m args below meth c H locs cells slots Q (F0 m pc ls (.int (nI i) :: .ref ag :: rest)) := by
  subst hv
  exact va_iald hx hb hK.1 hM 3 0 rfl rfl (vp_in_nI (show i < 11 by omega) (by decide)) hd (by rw [nI_clamp (by omega), gI_lt hi]; exact kk)
theorem mgE_ld (hx : p.tables.exec = Jvm.exec) (hb : c.code = cc) (hK : KW D cy s) (hM : va_P D vwCl (MC cy ap ah ab ag pf hf bf gf ei) H) (hd : decode cc pc = .ok (.iaload, 1)) (kk : W p l e R s m args below meth c H locs cells slots Q (F0 m (pc + 1) ls (.int ei :: rest))) : W p l e R s m args below meth c H locs cells slots Q (F0 m pc ls (.int (nI 10) :: .ref ag :: rest)) := va_iald hx hb hK.1 hM 3 0 rfl rfl (vp_in_nI (show 10 < 11 by omega) (by decide)) hd (by rw [nI_clamp (by omega)]; exact kk)
theorem mg_st (hx : p.tables.exec = Jvm.exec) (hb : c.code = cc) (hK : KW D cy s) (hP : va_P D vwCl (MC cy ap ah ab ag pf hf bf gf ei ++ X) H) (hD : va_D A (MC cy ap ah ab ag pf hf bf gf ei ++ X)) (hS : va_S A H0 H locs) {i x : Nat} (hi : i < 10) (hd : decode cc pc = .ok (.iastore, 1)) (kk : ∀ (H1 : Heap) (locs1 : List Loc), va_P D vwCl (MC cy ap ah ab ag pf hf bf (va_up gf i x) ei ++ X) H1 → va_D A (MC cy ap ah ab ag pf hf bf (va_up gf i x) ei ++ X) → va_S A H0 H1 locs1 → W p l e R s m args below meth c H1 locs1 cells slots Q (F0 m (pc + 1) ls rest)) : W p l e R s m args below meth c H locs cells slots Q (F0 m pc ls (.int (nI x) :: .int (nI i) :: .ref ag :: rest)) := va_iast hx hb hK.1 hP hD hS 3 0 rfl rfl (vp_in_nI (show i < 11 by omega) (by decide)) hd (by rw [nI_clamp (by omega), gI_up hi]; exact kk)
theorem mgE_st (hx : p.tables.exec = Jvm.exec) (hb : c.code = cc) (hK : KW D cy s) (hP : va_P D vwCl (MC cy ap ah ab ag pf hf bf gf ei ++ X) H) (hD : va_D A (MC cy ap ah ab ag pf hf bf gf ei ++ X)) (hS : va_S A H0 H locs) {x : Int32} (hd : decode cc pc = .ok (.iastore, 1)) (kk : ∀ (H1 : Heap) (locs1 : List Loc), va_P D vwCl (MC cy ap ah ab ag pf hf bf gf x ++ X) H1 → va_D A (MC cy ap ah ab ag pf hf bf gf x ++ X) → va_S A H0 H1 locs1 → W p l e R s m args below meth c H1 locs1 cells slots Q (F0 m (pc + 1) ls rest)) : W p l e R s m args below meth c H locs cells slots Q (F0 m pc ls (.int x :: .int (nI 10) :: .ref ag :: rest)) := va_iast hx hb hK.1 hP hD hS 3 0 rfl rfl (vp_in_nI (show 10 < 11 by omega) (by decide)) hd (by rw [nI_clamp (by omega), gI_up10]; exact kk)
theorem al_calli {T : Type} {w1 : T → va_W} {post : Int32 → T → Prop} (hr : va_Run p l e R s m args below meth c H locs cells slots mc ms (F0 m pc ls st) rest (va_Qi post (fun u t => va_P D vwCl (w1 u) t.heap ∧ va_D (va_A wc H.size) (w1 u)) (va_A wc H.size) a) (va_A wc H.size)) (hS : va_S A0 H0 H locs) (hP : va_P D vwCl (wc ++ Y) H) (hD : va_D A0 (wc ++ Y)) (hA : ∀ q, H0.size ≤ q → A0 q) (k : ∀ (r : Int32) (u : T) (H1 : Heap) (locs1 : List Loc), post r u → va_P D vwCl (w1 u ++ Y) H1 → va_D A0 (w1 u ++ Y) → va_S A0 H0 H1 locs1 → W p l e R s m args below meth c H1 locs1 (cells + mc) (slots + ms) Q (F0 m (pc + 3) ls (.int r :: rest))) : W p l e R s m args below meth c H locs cells slots Q (F0 m pc ls st) := by
  have hF := va_fri hS hD hA (wc := wc) (fun q hq => List.mem_append_left _ hq)
  refine va_calli hr hS (fun q _ h => hF q h) hF (fun r u t H1 locs1 ht hvm hp hB hz hk hS1 => ?_)
  rw [ht] at hB
  have h9 := va_apartL hP hD hF hk hB.1 hB.2
  exact k r u H1 locs1 hp h9.1 h9.2 hS1
theorem ap_calli {T : Type} {w1 : T → va_W} {post : Int32 → T → Prop} (hr : va_Run p l e R s m args below meth c H locs cells slots mc ms (F0 m pc ls st) rest (va_Qi post (fun u t => va_P D vwCl (w1 u) t.heap ∧ va_D (va_A wc H.size) (w1 u)) (va_A wc H.size) a) (va_A wc H.size)) (hS : va_S A0 H0 H locs) (hP : va_P D vwCl (X ++ wc) H) (hD : va_D A0 (X ++ wc)) (hA : ∀ q, H0.size ≤ q → A0 q) (k : ∀ (r : Int32) (u : T) (H1 : Heap) (locs1 : List Loc), post r u → va_P D vwCl (X ++ w1 u) H1 → va_D A0 (X ++ w1 u) → va_S A0 H0 H1 locs1 → W p l e R s m args below meth c H1 locs1 (cells + mc) (slots + ms) Q (F0 m (pc + 3) ls (.int r :: rest))) : W p l e R s m args below meth c H locs cells slots Q (F0 m pc ls st) := by
  have hF := va_fri hS hD hA (wc := wc) (fun q hq => List.mem_append_right _ hq)
  refine va_calli hr hS (fun q _ h => hF q h) hF (fun r u t H1 locs1 ht hvm hp hB hz hk hS1 => ?_)
  rw [ht] at hB
  have h9 := va_apartR hP hD hF hk hB.1 hB.2
  exact k r u H1 locs1 hp h9.1 h9.2 hS1
theorem ap_callf {T : Type} {w1 : T → va_W} {post : UInt32 → T → Prop} (hr : va_Run p l e R s m args below meth c H locs cells slots mc ms (F0 m pc ls st) rest (va_Qf post (fun u t => va_P D vwCl (w1 u) t.heap ∧ va_D (va_A wc H.size) (w1 u)) (va_A wc H.size) a) (va_A wc H.size)) (hS : va_S A0 H0 H locs) (hP : va_P D vwCl (X ++ wc) H) (hD : va_D A0 (X ++ wc)) (hA : ∀ q, H0.size ≤ q → A0 q) (k : ∀ (r : UInt32) (u : T) (H1 : Heap) (locs1 : List Loc), post r u → va_P D vwCl (X ++ w1 u) H1 → va_D A0 (X ++ w1 u) → va_S A0 H0 H1 locs1 → W p l e R s m args below meth c H1 locs1 (cells + mc) (slots + ms) Q (F0 m (pc + 3) ls (.float r :: rest))) : W p l e R s m args below meth c H locs cells slots Q (F0 m pc ls st) := by
  have hF := va_fri hS hD hA (wc := wc) (fun q hq => List.mem_append_right _ hq)
  refine va_callf hr hS (fun q _ h => hF q h) hF (fun r u t H1 locs1 ht hvm hp hB hz hk hS1 => ?_)
  rw [ht] at hB
  have h9 := va_apartR hP hD hF hk hB.1 hB.2
  exact k r u H1 locs1 hp h9.1 h9.2 hS1
theorem lc_self (x : Int64) : lg_cmp x x = 0 := by simp [lg_cmp]
theorem lw_lcmpeq (hx : p.tables.exec = Jvm.exec) (hb : c.code = cc) {x y : Int64} (h : x = y) {off : Int} {tgt : Nat} (hd : decode cc pc = .ok (.lcmp, 1)) (hd2 : decode cc (pc + 1) = .ok (.ifCond .eq off, 3)) (ht : ((pc + 1 : Nat) : Int) + off = (tgt : Int))
    (kt : W p l e R s m args below meth c H locs cells slots Q (F0 m tgt ls rest)) : W p l e R s m args below meth c H locs cells slots Q (F0 m pc ls (.long y :: .long x :: rest)) := by
  subst h
  refine W.lcmp hx hb hd ?_
  rw [lc_self]
  exact lv_if_eq hx hb hd2 ht (fun _ => kt) (fun q => absurd rfl q)
/-- a call of the class, behind the law's rows, that throws nothing here -/
theorem xr_calli {T : Type} {w1 : T → va_W} {post : Int32 → T → Prop} (hr : vx_Run p l e R s m args below meth c H locs cells slots mc ms (F0 m pc ls st) rest (va_Qi post (fun u t => va_P D vwCl (w1 u) t.heap ∧ va_D (va_A wc H.size) (w1 u)) (va_A wc H.size) a) (vx_X (fun _ : Unit => True) (BXt D wc ex H.size) (va_A wc H.size)) (va_A wc H.size)) (hS : va_S A0 H0 H locs) (hP : va_P D vwCl (X ++ wc) H) (hD : va_D A0 (X ++ wc)) (hA : ∀ q, H0.size ≤ q → A0 q) (hno : ∀ E, ¬ ex E)
    (kk : ∀ (r : Int32) (u : T) (H1 : Heap) (locs1 : List Loc), post r u → va_P D vwCl (X ++ w1 u) H1 → va_D A0 (X ++ w1 u) → va_S A0 H0 H1 locs1 → W p l e R s m args below meth c H1 locs1 (cells + mc) (slots + ms) Q (F0 m (pc + 3) ls (.int r :: rest))) : W p l e R s m args below meth c H locs cells slots Q (F0 m pc ls st) := by
  have hF := va_fri hS hD hA (wc := wc) (fun q hq => List.mem_append_right _ hq)
  refine vx_calli hr hS (fun q _ h => hF q h) hF (fun q _ h => hF q h) (fun E ce q9 u t H1 locs1 ht hvm hp hB hz hk hS1 h1 h2 h3 => absurd hB.1 (hno E)) (fun r u t H1 locs1 ht hvm hp hB hz hk hS1 => ?_)
  rw [ht] at hB
  have h9 := va_apartR hP hD hF hk hB.1 hB.2
  exact kk r u H1 locs1 hp h9.1 h9.2 hS1
/-- a call of the class, behind the law's rows, that throws nothing here -/
theorem xr_callf {T : Type} {w1 : T → va_W} {post : UInt32 → T → Prop} (hr : vx_Run p l e R s m args below meth c H locs cells slots mc ms (F0 m pc ls st) rest (va_Qf post (fun u t => va_P D vwCl (w1 u) t.heap ∧ va_D (va_A wc H.size) (w1 u)) (va_A wc H.size) a) (vx_X (fun _ : Unit => True) (BXt D wc ex H.size) (va_A wc H.size)) (va_A wc H.size)) (hS : va_S A0 H0 H locs) (hP : va_P D vwCl (X ++ wc) H) (hD : va_D A0 (X ++ wc)) (hA : ∀ q, H0.size ≤ q → A0 q) (hno : ∀ E, ¬ ex E)
    (kk : ∀ (r : UInt32) (u : T) (H1 : Heap) (locs1 : List Loc), post r u → va_P D vwCl (X ++ w1 u) H1 → va_D A0 (X ++ w1 u) → va_S A0 H0 H1 locs1 → W p l e R s m args below meth c H1 locs1 (cells + mc) (slots + ms) Q (F0 m (pc + 3) ls (.float r :: rest))) : W p l e R s m args below meth c H locs cells slots Q (F0 m pc ls st) := by
  have hF := va_fri hS hD hA (wc := wc) (fun q hq => List.mem_append_right _ hq)
  refine vx_callf hr hS (fun q _ h => hF q h) hF (fun q _ h => hF q h) (fun E ce q9 u t H1 locs1 ht hvm hp hB hz hk hS1 h1 h2 h3 => absurd hB.1 (hno E)) (fun r u t H1 locs1 ht hvm hp hB hz hk hS1 => ?_)
  rw [ht] at hB
  have h9 := va_apartR hP hD hF hk hB.1 hB.2
  exact kk r u H1 locs1 hp h9.1 h9.2 hS1
theorem al_callv {T : Type} {w1 : T → va_W} {post : T → Prop} (hr : va_Run p l e R s m args below meth c H locs cells slots mc ms (F0 m pc ls st) rest (va_Qv post (fun u t => va_P D vwCl (w1 u) t.heap ∧ va_D (va_A wc H.size) (w1 u)) (va_A wc H.size) a) (va_A wc H.size)) (hS : va_S A0 H0 H locs) (hP : va_P D vwCl (wc ++ Y) H) (hD : va_D A0 (wc ++ Y)) (hA : ∀ q, H0.size ≤ q → A0 q) (k : ∀ (u : T) (H1 : Heap) (locs1 : List Loc), post u → va_P D vwCl (w1 u ++ Y) H1 → va_D A0 (w1 u ++ Y) → va_S A0 H0 H1 locs1 → W p l e R s m args below meth c H1 locs1 (cells + mc) (slots + ms) Q (F0 m (pc + 3) ls rest)) : W p l e R s m args below meth c H locs cells slots Q (F0 m pc ls st) := by
  have hF := va_fri hS hD hA (wc := wc) (fun q hq => List.mem_append_left _ hq)
  refine va_callv hr hS (fun q _ h => hF q h) hF (fun u t H1 locs1 ht hvm hp hB hz hk hS1 => ?_)
  rw [ht] at hB
  have h9 := va_apartL hP hD hF hk hB.1 hB.2
  exact k u H1 locs1 hp h9.1 h9.2 hS1
theorem lw_lcmpne (hx : p.tables.exec = Jvm.exec) (hb : c.code = cc) {x y : Int64} (h : x = y) {off : Int} {tgt : Nat} (hd : decode cc pc = .ok (.lcmp, 1)) (hd2 : decode cc (pc + 1) = .ok (.ifCond .ne off, 3)) (ht : ((pc + 1 : Nat) : Int) + off = (tgt : Int))
    (kf : W p l e R s m args below meth c H locs cells slots Q (F0 m (pc + 4) ls rest)) : W p l e R s m args below meth c H locs cells slots Q (F0 m pc ls (.long y :: .long x :: rest)) := by
  subst h
  refine W.lcmp hx hb hd ?_
  rw [lc_self]
  exact lv_if_ne hx hb hd2 ht (fun q => absurd rfl q) (fun _ => kf)
theorem lw_fcmpne (hx : p.tables.exec = Jvm.exec) (hb : c.code = cc) {x y : UInt32} (h : x = y) (hn : FP.Core.fIsNaN y = false) {off : Int} {tgt : Nat} (hd : decode cc pc = .ok (.fcmp .l, 1)) (hd2 : decode cc (pc + 1) = .ok (.ifCond .ne off, 3)) (ht : ((pc + 1 : Nat) : Int) + off = (tgt : Int))
    (kf : W p l e R s m args below meth c H locs cells slots Q (F0 m (pc + 4) ls rest)) : W p l e R s m args below meth c H locs cells slots Q (F0 m pc ls (.float y :: .float x :: rest)) := by
  subst h
  refine lv_fcmp hx hb hd ?_
  rw [show FP.fcmp x x = some .eq from FP.Core.fcmp_refl hn]
  exact lv_if_ne hx hb hd2 ht (fun q => absurd rfl q) (fun _ => kf)
theorem lw_sld (hx : p.tables.exec = Jvm.exec) (hb : c.code = cc) {L : Nat} {xs : Nat → Int32} (hX : va_X b L xs s H0) (hbl : b < H0.size) (hbA : ¬ A0 b) (hS : va_S A0 H0 H locs) {j : Nat} (hj : j < L) (hL : L < 2 ^ 31) (hd : decode cc pc = .ok (.iaload, 1))
    (kk : W p l e R s m args below meth c H locs cells slots Q (F0 m (pc + 1) ls (.int (xs j) :: rest))) : W p l e R s m args below meth c H locs cells slots Q (F0 m pc ls (.int (nI j) :: .ref b :: rest)) :=
  va_sld hx hb hX hbl hbA hS (vp_in_nI hj hL) hd (by rw [nI_clamp (by omega)]; exact kk)
theorem lw_slen (hx : p.tables.exec = Jvm.exec) (hb : c.code = cc) {L : Nat} {xs : Nat → Int32} (hX : va_X b L xs s H0) (hbl : b < H0.size) (hbA : ¬ A0 b) (hS : va_S A0 H0 H locs) (hd : decode cc pc = .ok (.arraylength, 1))
    (kk : W p l e R s m args below meth c H locs cells slots Q (F0 m (pc + 1) ls (.int (nI L) :: rest))) : W p l e R s m args below meth c H locs cells slots Q (F0 m pc ls (.ref b :: rest)) := va_slen hx hb hX hbl hbA hS hd kk
/-- a method that reads the script alone -/
def cRX (l : Launch) (y : MethodName) (ws : List Cond) (rm : Room) (av : List Value) (b L : Nat) (xs : Nat → Int32) (post : Int32 → Prop) : Prop :=
  ∀ HH : Heap, Met l y ws rm (va_Pc av (fun U => U.heap = HH ∧ va_X b L xs U HH ∧ b < HH.size)) (va_Qi (fun r (_ : Unit) => post r) (fun _ t => t.heap = HH) (fun _ => False)) 0 0 (fun _ => False)
theorem rx_pre {L : Nat} {xs : Nat → Int32} {As : List Value} (hX : va_X b L xs s H) (hbl : b < H.size) : PreS s H (va_Pc As (fun U => U.heap = H ∧ va_X b L xs U H ∧ b < H.size)) As := ⟨fun a U g mk q => by obtain ⟨q0, q1, q2, q3⟩ := q; exact ⟨q0, q1, va_X.moved (u := U) (U := U.calling g mk a) (Vm.Alike.refl U.vm) q2, q3⟩, fun U hU hW => ⟨rfl, hU, va_X.moved hW.alike hX, hbl⟩⟩
end MCR
theorem cRX.of {l : Launch} {y : MethodName} {ws ws' : List Cond} {rm : Room} {av : List Value} {b L : Nat} {xs : Nat → Int32} {post : Int32 → Prop} {cc : ByteArray} {maxL : Nat} (hy : plainName y.cls = true) (hw : ws = Cond.code y cc maxL (some .int) :: ws') (hlen : (lg_sl av).length ≤ maxL)
    (body : ∀ (p : Program) (e : Env) (s : State) (m : MethodId) (args : Array Value) (below : List Frame) (meth : Method) (c : Code) (H : Heap) (Q : State → Prop), p.tables.exec = Jvm.exec → c.code = cc → c.maxLocals = maxL → s.vm.findClass y.cls = some m.cls → (∀ w ∈ ws, w.before args s = true) → va_X b L xs s H → b < H.size →
      (∀ {pc : Nat} {ls : Array Slot} {v : Int32}, decode cc pc = .ok (.ireturn, 1) → post v → W p l e rm s m args below meth c H [] 0 0 Q (F0 m pc ls [.int v])) →
      ∀ ls : Array Slot, lv_has ls maxL (lv_args 0 av) → W p l e rm s m args below meth c H [] 0 0 Q (F0 m 0 ls [])) : cRX l y ws rm av b L xs post := by
  intro HH
  refine Met.ofW (cc := cc) (maxL := maxL) (ret := some .int) hy hw ?_
  intro p e s m args below meth c s₁ B hml hv
  obtain ⟨rfl, hH, hX, hbl⟩ := hv
  subst hH
  have hl := lv_entry av hlen
  rw [lg_entry_eq]
  refine body p e s m _ below meth c s.heap _ B.exec B.bytes hml (findClass_of_methodNamed B.named) (atoms_spec (ws := ws) B.pre) hX hbl ?_ _ hl
  intro pc ls v hd hp
  exact W.iret B.exec B.bytes B.returns (fun t ht hW => ⟨⟨v, (), rfl, hp, ht⟩, by rw [ht]; exact Nat.le_refl _, fun q _ _ => by rw [ht]⟩) (fun q hq => absurd hq List.not_mem_nil) hd B.notSynchronized
/-- a method of the law, without a table of its own, whose callees may throw -/
theorem cLI.ofN {l : Launch} {D : va_G} {cy : Nat → ClassId} {y : MethodName} {ws ws' : List Cond} {rm : Room} {av : List Value} {w : va_W} {T : Type} {w1 : T → va_W} {post : Int32 → T → Prop} {mc ms : Nat} {cc : ByteArray} {maxL : Nat} (hy : plainName y.cls = true) (hw : ws = Cond.code y cc maxL (some .boolean) :: ws') (hlen : (lg_sl av).length ≤ maxL) (hz : ∀ v u, post v u → narrow .boolean (.int v) = .int v)
    (body : ∀ (p : Program) (e : Env) (s : State) (m : MethodId) (args : Array Value) (below : List Frame) (meth : Method) (c : Code) (H0 : Heap) (A : Nat → Prop) (Q : State → Prop), p.tables.exec = Jvm.exec → c.code = cc → c.maxLocals = maxL → s.vm.findClass y.cls = some m.cls → (∀ w ∈ ws, w.before args s = true) → va_P D vwCl w H0 → KW D cy s → va_D A w → va_S A H0 H0 [] → (∀ q : Nat, H0.size ≤ q → A q) → XW s → XZ A s H0 → A = va_A w H0.size → s.heap = H0 →
      (∀ {pc : Nat} {ls : Array Slot} {v : Int32} {H : Heap} {locs : List Loc} (u : T), decode cc pc = .ok (.ireturn, 1) → va_P D vwCl (w1 u) H → va_D A (w1 u) → va_S A H0 H locs → post v u → W p l e rm s m args below meth c H locs mc ms Q (F0 m pc ls [.int v])) →
      ∀ ls : Array Slot, lv_has ls maxL (lv_args 0 av) → W p l e rm s m args below meth c H0 [] 0 0 Q (F0 m 0 ls [])) : cLI l D cy y ws rm av w w1 post mc ms := by
  intro sz
  refine Met.ofW (cc := cc) (maxL := maxL) (ret := some .boolean) hy hw ?_
  intro p e s m args below meth c s₁ B hml hv
  obtain ⟨rfl, hsz, hP, hK, hD0, hXW, hXZ⟩ := hv
  subst hsz
  have hD := hD0.self (sz := s.heap.size)
  have hl := lv_entry av hlen
  rw [lg_entry_eq]
  refine body p e s m _ below meth c s.heap (va_A w s.heap.size) _ B.exec B.bytes hml (findClass_of_methodNamed B.named) (atoms_spec (ws := ws) B.pre) hP hK hD va_S.rf (fun q h => Or.inr h) hXW hXZ rfl rfl ?_ _ hl
  intro pc ls v H locs u hd hP1 hD1 hS hp
  exact W.zret B.exec B.bytes B.returns (hz v u hp) (fun t ht hW => ⟨⟨v, u, rfl, hp, by rw [ht]; exact hP1, hD1⟩, hS.F ht⟩) hS.2.2 hd B.notSynchronized
theorem z_one {v : Int32} (h : v = nI 1) : narrow .boolean (.int v) = .int v := by subst h; decide
theorem okR_le {v : Int32} {a b : Nat} (h : okR v a b) (ha : a < 2 ^ 31) (hb : b < 2 ^ 31) : a ≤ cN v ∧ cN v ≤ b ∧ v = nI (cN v) := by
  obtain ⟨k, h1, h2, rfl⟩ := okR_nat h ha hb
  rw [cN_nI (by omega)]
  exact ⟨h1, h2, rfl⟩
theorem okR_nle {v w : Int32} {a b : Nat} (h1 : okR v a b) (h2 : okR w a b) (ha : a < 2 ^ 31) (hb : b < 2 ^ 31) (h : v ≤ w) : cN v ≤ cN w := by
  obtain ⟨j, -, h4, rfl⟩ := okR_nat h1 ha hb
  obtain ⟨k, -, h6, rfl⟩ := okR_nat h2 ha hb
  rw [cN_nI (by omega), cN_nI (by omega)]
  exact (nI_leI (by omega) (by omega)).mp h
theorem isP_lt {n : Nat} {σ : SF} (hI : Iv n σ) {v : Int32} (h : isP σ v) : cN v < σ 0 0 := by
  obtain ⟨k, hk, rfl⟩ := h
  have := hI.np
  rw [cN_nI (by omega)]
  exact hk
theorem isB_lt {n : Nat} {σ : SF} (hI : Iv n σ) {v : Int32} (h : isB σ v) : cN v < σ 0 3 := by
  obtain ⟨k, hk, rfl⟩ := h
  have := hI.nb
  rw [cN_nI (by omega)]
  exact hk
theorem Iv_ask {n : Nat} {σ : SF} (h : Iv n σ) (hn : n < 512) {k : Nat} (hk : k < σ 0 0) (hB : ¬ σ 0 3 = 60) {r : Int32} {τ : SF} (ha : askA (asF σ k) k r τ) : Iv (n + 1) τ := by
  have h1 := h.ask hn hk
  have hp := h.pr k hk
  have hb := h.nb
  have h15 : ∀ j, asF σ k 15 j < n + 1 := fun j => Nat.lt_succ_of_le (h.rf j)
  rcases ha with ⟨-, -, rfl⟩ | ⟨-, -, -, rfl⟩ | ⟨-, -, -, -, rfl⟩ | ⟨-, -, -, -, rfl⟩
  · exact h1.rfs h15
  · exact h1.rfs h15
  · exact h1.rfs h15
  · exact h1.boks (show σ 0 3 < 60 by omega) (show σ 3 k ≤ σ 4 k from hp.1) (show σ 4 k ≤ 2 from hp.2.1) (by omega) (show σ 5 k ≤ 30000 by omega)
theorem Iv_grp {n : Nat} {σ : SF} (h : Iv n σ) (hn : n < 512) {f t q c : Nat} (hf : f ≤ t) (ht : t ≤ 2) (hq : q ≤ 10) (hc : c ≤ 3000) (hB : ¬ σ 0 3 = 60) {r : Int32} {τ : SF} (ha : grpA σ f t q c r τ) : Iv (n + 1) τ := by
  have h1 := h.more hn
  have hb := h.nb
  have hm : c * q ≤ 3000 * 10 := Nat.mul_le_mul hc hq
  have h15 : ∀ j, σ 15 j < n + 1 := fun j => Nat.lt_succ_of_le (h.rf j)
  rcases ha with ⟨-, -, rfl⟩ | ⟨-, -, -, rfl⟩ | ⟨-, -, -, rfl⟩
  · exact h1.rfs h15
  · exact h1.rfs h15
  · exact h1.boks (by omega) hf ht hq (by omega)
/-- all that may change from call to call: addresses, state, what was earned, the class's rows, the law's numbers -/
abbrev STt : Type := (Nat → Nat → Nat) × SF × Int64 × (Nat → Option Nat) × (Nat → Option Nat) × (Nat → Option Nat) × (Nat → Nat) × (Nat → Nat → Nat) × (Nat → Nat) × (Nat → Nat) × (Nat → Nat) × (Nat → Nat) × (Nat → Nat) × Int32
def wS (cy : Nat → ClassId) (ap ah ab ag : Nat) : STt → va_W := fun u => match u with
  | (ad, σ, er, ofd, de, bo, ql, qs, tv, pf, hf, bf, gf, ei) => MC cy ap ah ab ag pf hf bf gf ei ++ WG ad cy (σ 0 0) (σ 0 3) σ er ofd de bo ql qs tv
def LJ (n ad0 : Nat) : STt → Prop := fun u => match u with
  | (ad, σ, er, ofd, de, bo, _, qs, _, pf, hf, bf, gf, ei) => ad 0 0 = ad0 ∧ Iv n σ ∧ OF ad σ ofd ∧ BO ad σ bo ∧ (∃ dl, DL ad σ de dl) ∧ QZ qs ∧ MR σ pf hf bf gf ∧ EM σ er ei
theorem LJ.mk {n ad0 : Nat} {ad : Nat → Nat → Nat} {σ : SF} {er : Int64} {ofd de bo : Nat → Option Nat} {ql : Nat → Nat} {qs : Nat → Nat → Nat} {tv pf hf bf gf : Nat → Nat} {ei : Int32} (h0 : ad 0 0 = ad0) (h1 : Iv n σ) (h2 : OF ad σ ofd) (h3 : BO ad σ bo) (h4 : ∃ dl, DL ad σ de dl) (h5 : QZ qs) (h6 : MR σ pf hf bf gf) (h7 : EM σ er ei) : LJ n ad0 (ad, σ, er, ofd, de, bo, ql, qs, tv, pf, hf, bf, gf, ei) := And.intro h0 (And.intro h1 (And.intro h2 (And.intro h3 (And.intro h4 (And.intro h5 (And.intro h6 h7))))))
