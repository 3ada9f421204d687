/-! rows that the class's parts lean on, out of the work at the whole claim -/
theorem va_P0 {D : va_G} {cl : List vw_C} {H : Heap} : va_P D cl [] H := fun k q h => by simp at h
theorem pnE {a b : Nat} (h : a = b) : pN b (nI a) := congrArg nI h
theorem nI_an {x n : Nat} (h : n ≤ x) : nI x + -nI n = nI (x - n) := by rw [show nI x + -nI n = nI x - nI n from (Int32.sub_eq_add_neg _ _).symm, pk_sub h]
theorem pmU_le {σ : SF} {k cost : Nat} : ∀ i, pmU σ k cost i ≤ 20 := by
  intro i
  induction i with
  | zero => exact Nat.zero_le _
  | succ i ih => unfold pmU; split <;> omega
theorem prS_le {σ : SF} {leg cost : Nat} : ∀ k, prS σ leg cost k ≤ 20 * k := by
  intro k
  induction k with
  | zero => exact Nat.le_refl _
  | succ k ih => unfold prS; have := pmU_le (σ := σ) (k := k) (cost := cost) 21; split <;> omega
theorem isIn_nn {v a b : Nat} (hv : v < 2 ^ 31) (ha : a < 2 ^ 31) (hb : b < 2 ^ 31) : (nI a ≤ nI v ∧ nI v ≤ nI b) ↔ (a ≤ v ∧ v ≤ b) := by rw [nI_leI ha hv, nI_leI hv hb]
theorem prS_n {σ : SF} {leg cost k : Nat} (h : ¬ ((σ 3 k ≤ leg ∧ leg ≤ σ 4 k) ∧ cost < σ 5 k ∧ 0 < σ 0 1)) : prS σ leg cost k = prS σ leg cost (k + 1) := by
  conv => rhs; unfold prS
  rw [if_neg h]; rfl
theorem psum_0 {σ : SF} {k : Nat} (h : σ 14 k = 0) : psum σ k + σ 13 k = psum σ (k + 1) := by
  conv => rhs; unfold psum
  rw [if_pos h]
theorem psum_1 {σ : SF} {k : Nat} (h : ¬ σ 14 k = 0) : psum σ k + 0 = psum σ (k + 1) := by
  conv => rhs; unfold psum
  rw [if_neg h]
def bookF (σ : SF) (f t n c : Nat) : SF := va_up (va_up (va_up (va_up (va_up (va_up (va_up σ 0 (va_up (σ 0) 3 (σ 0 3 + 1))) 2 (fun j => σ 2 j + if f ≤ j ∧ j ≤ t then n else 0)) 10 (va_up (σ 10) (σ 0 3) f)) 11 (va_up (σ 11) (σ 0 3) t)) 12 (va_up (σ 12) (σ 0 3) n)) 13 (va_up (σ 13) (σ 0 3) c)) 14 (va_up (σ 14) (σ 0 3) 0)
theorem dA_one {σ : SF} {k : Nat} (h : σ 3 k ≤ σ 4 k) (h2 : σ 4 k ≤ 2) : 1 ≤ dA σ k 0 + dA σ k 1 + dA σ k 2 := by
  unfold dA
  rcases (show σ 3 k = 0 ∨ σ 3 k = 1 ∨ σ 3 k = 2 by omega) with q | q | q
  · rw [if_pos (show σ 3 k ≤ 0 ∧ 0 ≤ σ 4 k by omega)]; omega
  · rw [if_pos (show σ 3 k ≤ 1 ∧ 1 ≤ σ 4 k by omega)]; omega
  · rw [if_pos (show σ 3 k ≤ 2 ∧ 2 ≤ σ 4 k by omega)]; omega
theorem dA_le {σ : SF} {k j : Nat} : dA σ k j ≤ 1 := by unfold dA; split <;> omega
theorem bsum_congr {σ τ : SF} (h1 : ∀ b, τ 14 b = σ 14 b) (h2 : ∀ b, τ 10 b = σ 10 b) (h3 : ∀ b, τ 11 b = σ 11 b) (h4 : ∀ b, τ 12 b = σ 12 b) (leg : Nat) : ∀ n, bsum τ leg n = bsum σ leg n := by
  intro n
  induction n with
  | zero => rfl
  | succ n ih => unfold bsum; rw [ih, h1, h2, h3, h4]
theorem Iv.mono {n m : Nat} {σ : SF} (h : Iv n σ) (h1 : n ≤ m) (h2 : m ≤ 512) : Iv m σ :=
  ⟨h2, h.np, Nat.le_trans h.dy h1, h.rt.1, h.rt.2, h.nb, h.se, h.bk, fun k hk => ⟨(h.pr k hk).1, (h.pr k hk).2.1, (h.pr k hk).2.2.1, (h.pr k hk).2.2.2.1, (h.pr k hk).2.2.2.2.1, Nat.le_trans (h.pr k hk).2.2.2.2.2 h1⟩, h.p0, h.tb, h.t0, h.bo, fun j => Nat.le_trans (h.rf j) h1⟩
theorem up_at {g : Nat → Nat} {k x : Nat} : va_up g k x k = x := va_up_self g k x
theorem up_if {g : Nat → Nat} {k x j : Nat} : va_up g k x j = if j = k then x else g j := rfl
theorem sub2 {a b x : Nat} (ha : a < 2 ^ 29) (hb : b < 2 ^ 29) (hx : x < 2 ^ 29) : (0 : Int32) < nI a - nI b - nI x ↔ b + x < a := by
  rw [show nI a - nI b - nI x = nI a - nI (b + x) by rw [← nI_add]; exact (by simp only [Int32.sub_eq_add_neg, Int32.neg_add, Int32.add_assoc])]
  rw [Int32.lt_iff_toInt_lt, pk_sub_toInt (by omega) (by omega), show (0 : Int32).toInt = 0 from rfl]
  omega
theorem bidsI_s {σ : SF} {f j z : Nat} {bi w : Int32} (hf : f ≤ j) (hb : bi = bidsI σ f (j - f)) (hw : w = bidI σ j) (hz : z = j + 1) : bi + w = bidsI σ f (z - f) := by
  subst hz
  rw [hb, hw, show j + 1 - f = (j - f) + 1 by omega]
  conv => rhs; unfold bidsI
  rw [show f + (j - f) = j by omega]
theorem row_0 {F G : Nat → Nat} : F = fun j => if j < 0 then G j else F j := by funext j; rw [if_neg (by omega)]
theorem tab_0 {F A : Nat → Nat} : F = fun j => if j / 21 < 0 ∧ j % 21 = min (A (j / 21)) 20 then F j + 1 else F j := by funext j; rw [if_neg (by omega)]
