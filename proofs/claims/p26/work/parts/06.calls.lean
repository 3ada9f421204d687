abbrev rmL_areLegs : Room := { frames := 8, cells := 24, slots := 150, locals := 200 }
abbrev rmL_areProducts : Room := { frames := 8, cells := 30, slots := 200, locals := 200 }
abbrev rmL_asks : Room := { frames := 7, cells := 1, slots := 6, locals := 175 }
abbrev rmL_authorised : Room := { frames := 0, cells := 0, slots := 0, locals := 0 }
abbrev rmL_booked : Room := { frames := 0, cells := 0, slots := 0, locals := 0 }
abbrev rmL_books : Room := { frames := 0, cells := 0, slots := 0, locals := 0 }
abbrev rmL_does : Room := { frames := 8, cells := 2, slots := 28, locals := 177 }
abbrev rmL_guarded : Room := { frames := 0, cells := 0, slots := 0, locals := 0 }
abbrev rmL_isAsked : Room := { frames := 9, cells := 6, slots := 60, locals := 203 }
abbrev rmL_isDone : Room := { frames := 10, cells := 8, slots := 80, locals := 238 }
abbrev rmL_isEnd : Room := { frames := 9, cells := 6, slots := 60, locals := 203 }
abbrev rmL_isGroup : Room := { frames := 9, cells := 6, slots := 60, locals := 203 }
abbrev rmL_isProduct : Room := { frames := 9, cells := 6, slots := 60, locals := 203 }
abbrev rmL_part : Room := { frames := 0, cells := 0, slots := 0, locals := 0 }
abbrev rmL_sets : Room := { frames := 7, cells := 1, slots := 6, locals := 133 }
abbrev rmX0_init : Room := { frames := 1, cells := 0, slots := 0, locals := 24 }
abbrev rmX0_seatsOn : Room := { frames := 0, cells := 0, slots := 0, locals := 0 }
abbrev rmX1_add : Room := { frames := 2, cells := 0, slots := 0, locals := 44 }
abbrev rmX1_clear : Room := { frames := 0, cells := 0, slots := 0, locals := 0 }
abbrev rmX1_init : Room := { frames := 2, cells := 12, slots := 84, locals := 44 }
abbrev rmX1_mostBehind : Room := { frames := 1, cells := 0, slots := 0, locals := 24 }
abbrev rmX1_mostFor : Room := { frames := 3, cells := 0, slots := 0, locals := 76 }
abbrev rmX1_mostOfShorter : Room := { frames := 2, cells := 0, slots := 0, locals := 49 }
abbrev rmX1_queueOf : Room := { frames := 0, cells := 0, slots := 0, locals := 0 }
abbrev rmX2_covers : Room := { frames := 0, cells := 0, slots := 0, locals := 0 }
abbrev rmX2_init : Room := { frames := 1, cells := 1, slots := 21, locals := 24 }
abbrev rmX2_learn : Room := { frames := 1, cells := 0, slots := 0, locals := 24 }
abbrev rmX2_protectedAgainst : Room := { frames := 0, cells := 0, slots := 0, locals := 0 }
abbrev rmX2_toCome : Room := { frames := 1, cells := 0, slots := 0, locals := 24 }
abbrev rmX3_add : Room := { frames := 0, cells := 0, slots := 0, locals := 0 }
abbrev rmX3_init : Room := { frames := 1, cells := 1, slots := 12, locals := 24 }
abbrev rmX3_mostFor : Room := { frames := 0, cells := 0, slots := 0, locals := 0 }
abbrev rmX4_admit : Room := { frames := 2, cells := 0, slots := 0, locals := 56 }
abbrev rmX4_admitOne : Room := { frames := 1, cells := 0, slots := 0, locals := 26 }
abbrev rmX4_cellOf : Room := { frames := 0, cells := 0, slots := 0, locals := 0 }
abbrev rmX4_clear : Room := { frames := 2, cells := 0, slots := 0, locals := 60 }
abbrev rmX4_init : Room := { frames := 1, cells := 1, slots := 1331, locals := 24 }
abbrev rmX4_raiseRow : Room := { frames := 0, cells := 0, slots := 0, locals := 0 }
abbrev rmX4_valueOf : Room := { frames := 1, cells := 0, slots := 0, locals := 22 }
abbrev rmX5_addProduct : Room := { frames := 6, cells := 2, slots := 28, locals := 110 }
abbrev rmX5_ask : Room := { frames := 6, cells := 1, slots := 6, locals := 154 }
abbrev rmX5_asked : Room := { frames := 6, cells := 1, slots := 6, locals := 110 }
abbrev rmX5_authorised : Room := { frames := 6, cells := 1, slots := 6, locals := 110 }
abbrev rmX5_authorisedOn : Room := { frames := 1, cells := 0, slots := 0, locals := 21 }
abbrev rmX5_average : Room := { frames := 6, cells := 1, slots := 6, locals := 110 }
abbrev rmX5_bid : Room := { frames := 6, cells := 1, slots := 6, locals := 154 }
abbrev rmX5_bidsOver : Room := { frames := 5, cells := 0, slots := 0, locals := 129 }
abbrev rmX5_booked : Room := { frames := 6, cells := 1, slots := 6, locals := 110 }
abbrev rmX5_bookedOn : Room := { frames := 1, cells := 0, slots := 0, locals := 21 }
abbrev rmX5_bookingAt : Room := { frames := 0, cells := 0, slots := 0, locals := 0 }
abbrev rmX5_cancel : Room := { frames := 6, cells := 1, slots := 6, locals := 110 }
abbrev rmX5_days : Room := { frames := 0, cells := 0, slots := 0, locals := 0 }
abbrev rmX5_deniedOn : Room := { frames := 2, cells := 0, slots := 0, locals := 45 }
abbrev rmX5_displaced : Room := { frames := 6, cells := 1, slots := 6, locals := 152 }
abbrev rmX5_displacement : Room := { frames := 5, cells := 0, slots := 0, locals := 129 }
abbrev rmX5_earned : Room := { frames := 0, cells := 0, slots := 0, locals := 0 }
abbrev rmX5_endDay : Room := { frames := 6, cells := 1, slots := 6, locals := 110 }
abbrev rmX5_enter : Room := { frames := 0, cells := 0, slots := 0, locals := 0 }
abbrev rmX5_expected : Room := { frames := 6, cells := 1, slots := 6, locals := 110 }
abbrev rmX5_faresOfToday : Room := { frames := 1, cells := 0, slots := 0, locals := 21 }
abbrev rmX5_group : Room := { frames := 6, cells := 1, slots := 6, locals := 152 }
abbrev rmX5_hasLeft : Room := { frames := 3, cells := 0, slots := 0, locals := 66 }
abbrev rmX5_init : Room := { frames := 3, cells := 19, slots := 1501, locals := 64 }
abbrev rmX5_isFull : Room := { frames := 2, cells := 0, slots := 0, locals := 45 }
abbrev rmX5_isLeg : Room := { frames := 1, cells := 0, slots := 0, locals := 22 }
abbrev rmX5_isOffered : Room := { frames := 0, cells := 0, slots := 0, locals := 0 }
abbrev rmX5_isProtected : Room := { frames := 2, cells := 0, slots := 0, locals := 54 }
abbrev rmX5_learn : Room := { frames := 2, cells := 0, slots := 0, locals := 46 }
abbrev rmX5_leftOn : Room := { frames := 2, cells := 0, slots := 0, locals := 45 }
abbrev rmX5_offer : Room := { frames := 0, cells := 0, slots := 0, locals := 0 }
abbrev rmX5_productAt : Room := { frames := 0, cells := 0, slots := 0, locals := 0 }
abbrev rmX5_products : Room := { frames := 0, cells := 0, slots := 0, locals := 0 }
abbrev rmX5_protectedOn : Room := { frames := 1, cells := 0, slots := 0, locals := 27 }
abbrev rmX5_protectedSeats : Room := { frames := 6, cells := 1, slots := 6, locals := 110 }
abbrev rmX5_putSeats : Room := { frames := 0, cells := 0, slots := 0, locals := 0 }
abbrev rmX5_refuse : Room := { frames := 0, cells := 0, slots := 0, locals := 0 }
abbrev rmX5_refused : Room := { frames := 6, cells := 1, slots := 6, locals := 110 }
abbrev rmX5_revenue : Room := { frames := 2, cells := 0, slots := 0, locals := 44 }
abbrev rmX5_seatsOf : Room := { frames := 0, cells := 0, slots := 0, locals := 0 }
abbrev rmX5_setExpected : Room := { frames := 6, cells := 1, slots := 6, locals := 110 }
abbrev rmX5_setRate : Room := { frames := 6, cells := 1, slots := 6, locals := 110 }
abbrev rmX5_setSeats : Room := { frames := 6, cells := 1, slots := 6, locals := 110 }
abbrev rmX5_within : Room := { frames := 0, cells := 0, slots := 0, locals := 0 }
abbrev rmX5_worth : Room := { frames := 5, cells := 0, slots := 0, locals := 129 }
abbrev rmX5_worthByTable : Room := { frames := 3, cells := 0, slots := 0, locals := 82 }
abbrev rmX5_worthWithMore : Room := { frames := 4, cells := 0, slots := 0, locals := 102 }
def pN (v : Nat) : Int32 → Prop := fun r => r = nI v
def pB (P : Prop) : Int32 → Prop := fun r => (P ∧ r = nI 1) ∨ (¬ P ∧ r = nI 0)
theorem pB.t {P : Prop} (h : P) : pB P (nI 1) := Or.inl ⟨h, rfl⟩
theorem pB.f {P : Prop} (h : ¬ P) : pB P (nI 0) := Or.inr ⟨h, rfl⟩
theorem pB.z {P : Prop} : ∀ v, pB P v → narrow .boolean (.int v) = .int v := by rintro v (⟨-, rfl⟩ | ⟨-, rfl⟩) <;> decide
section CLS
variable {p : Program} {l : Launch} {e : Env} {R : Room} {s : State} {m : MethodId} {args : Array Value} {below : List Frame} {meth : Method} {c : Code} {H : Heap} {locs : List Loc} {cells slots mc ms : Nat} {Q : State → Prop}
variable {pc : Nat} {ls : Array Slot} {rest st : List Value} {D : va_G} {A0 : Nat → Prop} {a : Array Value} {H0 : Heap} {w wc ws : va_W}
theorem ro_calliN {v : Nat} (hr : va_Run p l e R s m args below meth c H locs cells slots 0 0 (F0 m pc ls st) rest (va_Qi (fun r (_ : Unit) => pN v r) (fun _ t => t.heap = H) (fun _ => False) a) (fun _ => False)) (k : ∀ z : Nat, z = v → W p l e R s m args below meth c H locs cells slots Q (F0 m (pc + 3) ls (.int (nI z) :: rest))) : W p l e R s m args below meth c H locs cells slots Q (F0 m pc ls st) := ro_calli hr (fun r h => by rw [show r = nI v from h]; exact k v rfl)
theorem ro_calliB {P : Prop} (hr : va_Run p l e R s m args below meth c H locs cells slots 0 0 (F0 m pc ls st) rest (va_Qi (fun r (_ : Unit) => pB P r) (fun _ t => t.heap = H) (fun _ => False) a) (fun _ => False)) (kt : P → W p l e R s m args below meth c H locs cells slots Q (F0 m (pc + 3) ls (.int (nI 1) :: rest))) (kf : ¬ P → W p l e R s m args below meth c H locs cells slots Q (F0 m (pc + 3) ls (.int (nI 0) :: rest))) : W p l e R s m args below meth c H locs cells slots Q (F0 m pc ls st) := ro_calli hr (fun r h => by rcases h with ⟨h1, rfl⟩ | ⟨h1, rfl⟩; exact kt h1; exact kf h1)
theorem mw_calli {T : Type} {w1 : T → va_W} {post : Int32 → T → Prop} (hr : va_Run p l e R s m args below meth c H locs cells slots mc ms (F0 m pc ls st) rest (va_Qi post (fun u t => va_P D vwCl (w1 u) t.heap ∧ va_D (va_A w H.size) (w1 u)) (va_A w H.size) a) (va_A w H.size)) (hS : va_S A0 H0 H locs) (hD : va_D A0 w) (hA : ∀ q, H0.size ≤ q → A0 q) (k : ∀ (r : Int32) (u : T) (H1 : Heap) (locs1 : List Loc), post r u → va_P D vwCl (w1 u) H1 → va_D A0 (w1 u) → va_S A0 H0 H1 locs1 → W p l e R s m args below meth c H1 locs1 (cells + mc) (slots + ms) Q (F0 m (pc + 3) ls (.int r :: rest))) : W p l e R s m args below meth c H locs cells slots Q (F0 m pc ls st) := by
  refine va_calli hr hS (fun q _ h => va_wholeF hS hD hA q h) (va_wholeF hS hD hA) (fun r u t H1 locs1 ht hvm hp hB hz hk hS1 => ?_)
  rw [ht] at hB
  exact k r u H1 locs1 hp hB.1 (va_whole hS hD hA hB.2) hS1
theorem mp_calli {T : Type} {w1 : T → va_W} {post : Int32 → T → Prop} (hr : va_Run p l e R s m args below meth c H locs cells slots mc ms (F0 m pc ls st) rest (va_Qi post (fun u t => va_P D vwCl (w1 u) t.heap ∧ va_D (va_A wc H.size) (w1 u)) (va_A wc H.size) a) (va_A wc H.size)) (hS : va_S A0 H0 H locs) (hP : va_P D vwCl ws H) (hD : va_D A0 ws) (hA : ∀ q, H0.size ≤ q → A0 q) (is : List Nat) (hC : is.map (fun i => ws[i]?) = wc.map some) (ha : ∀ u, (w1 u).map Prod.fst = wc.map Prod.fst) (k : ∀ (r : Int32) (u : T) (H1 : Heap) (locs1 : List Loc), post r u → va_P D vwCl (va_rp ws is (w1 u)) H1 → va_D A0 (va_rp ws is (w1 u)) → va_S A0 H0 H1 locs1 → W p l e R s m args below meth c H1 locs1 (cells + mc) (slots + ms) Q (F0 m (pc + 3) ls (.int r :: rest))) : W p l e R s m args below meth c H locs cells slots Q (F0 m pc ls st) := by
  have hF := va_free hD hS hA is hC
  refine va_calli hr hS (fun q _ h => hF q h) hF (fun r u t H1 locs1 ht hvm hp hB hz hk hS1 => ?_)
  rw [ht] at hB
  have h9 := va_inpl hP hD is hC (ha u) hk hB.1
  exact k r u H1 locs1 hp h9.1 h9.2 hS1
theorem mw_callv {T : Type} {w1 : T → va_W} {post : T → Prop} (hr : va_Run p l e R s m args below meth c H locs cells slots mc ms (F0 m pc ls st) rest (va_Qv post (fun u t => va_P D vwCl (w1 u) t.heap ∧ va_D (va_A w H.size) (w1 u)) (va_A w H.size) a) (va_A w H.size)) (hS : va_S A0 H0 H locs) (hD : va_D A0 w) (hA : ∀ q, H0.size ≤ q → A0 q) (k : ∀ (u : T) (H1 : Heap) (locs1 : List Loc), post u → va_P D vwCl (w1 u) H1 → va_D A0 (w1 u) → va_S A0 H0 H1 locs1 → W p l e R s m args below meth c H1 locs1 (cells + mc) (slots + ms) Q (F0 m (pc + 3) ls (rest))) : W p l e R s m args below meth c H locs cells slots Q (F0 m pc ls st) := by
  refine va_callv hr hS (fun q _ h => va_wholeF hS hD hA q h) (va_wholeF hS hD hA) (fun u t H1 locs1 ht hvm hp hB hz hk hS1 => ?_)
  rw [ht] at hB
  exact k u H1 locs1 hp hB.1 (va_whole hS hD hA hB.2) hS1
theorem mp_callv {T : Type} {w1 : T → va_W} {post : T → Prop} (hr : va_Run p l e R s m args below meth c H locs cells slots mc ms (F0 m pc ls st) rest (va_Qv post (fun u t => va_P D vwCl (w1 u) t.heap ∧ va_D (va_A wc H.size) (w1 u)) (va_A wc H.size) a) (va_A wc H.size)) (hS : va_S A0 H0 H locs) (hP : va_P D vwCl ws H) (hD : va_D A0 ws) (hA : ∀ q, H0.size ≤ q → A0 q) (is : List Nat) (hC : is.map (fun i => ws[i]?) = wc.map some) (ha : ∀ u, (w1 u).map Prod.fst = wc.map Prod.fst) (k : ∀ (u : T) (H1 : Heap) (locs1 : List Loc), post u → va_P D vwCl (va_rp ws is (w1 u)) H1 → va_D A0 (va_rp ws is (w1 u)) → va_S A0 H0 H1 locs1 → W p l e R s m args below meth c H1 locs1 (cells + mc) (slots + ms) Q (F0 m (pc + 3) ls (rest))) : W p l e R s m args below meth c H locs cells slots Q (F0 m pc ls st) := by
  have hF := va_free hD hS hA is hC
  refine va_callv hr hS (fun q _ h => hF q h) hF (fun u t H1 locs1 ht hvm hp hB hz hk hS1 => ?_)
  rw [ht] at hB
  have h9 := va_inpl hP hD is hC (ha u) hk hB.1
  exact k u H1 locs1 hp h9.1 h9.2 hS1
end CLS
