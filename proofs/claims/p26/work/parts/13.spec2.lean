def okR (v : Int32) (a b : Nat) : Prop := nI a ≤ v ∧ v ≤ nI b
theorem okR_nat {v : Int32} {a b : Nat} (h : okR v a b) (ha : a < 2 ^ 31) (hb : b < 2 ^ 31) : ∃ k, a ≤ k ∧ k ≤ b ∧ v = nI k := by
  obtain ⟨j, hj, rfl⟩ := nI_of (x := v) (fun q => absurd (Int32.lt_of_lt_of_le q (Int32.le_trans (by rw [← nI_0]; exact nI_le (Nat.zero_le a) ha) h.1)) Int32.lt_irrefl)
  exact ⟨j, (nI_leI ha hj).mp h.1, (nI_leI hj hb).mp h.2, rfl⟩
/-- the natural number of an int -/
def cN (v : Int32) : Nat := v.toNatClampNeg
theorem cN_nI {n : Nat} (h : n < 2 ^ 31) : cN (nI n) = n := nI_clamp h
def seF (σ : SF) (a b c : Nat) : SF := va_up σ 1 (va_up (va_up (va_up (σ 1) 0 a) 1 b) 2 c)
def adF (σ : SF) (f t c : Nat) : SF := va_up (va_up (va_up (va_up (va_up σ 0 (va_up (σ 0) 0 (σ 0 0 + 1))) 3 (va_up (σ 3) (σ 0 0) f)) 4 (va_up (σ 4) (σ 0 0) t)) 5 (va_up (σ 5) (σ 0 0) c)) 9 (va_up (σ 9) (21 * σ 0 0) (σ 0 1))
def exF (σ : SF) (k m : Nat) : SF := va_up σ 6 (va_up (σ 6) k m)
def raF (σ : SF) (r : Nat) : SF := va_up σ 0 (va_up (σ 0) 2 r)
def asF (σ : SF) (k : Nat) : SF := va_up σ 7 (va_up (σ 7) k (σ 7 k + 1))
def rfF (σ : SF) (w : Nat) : SF := va_up σ 15 (va_up (σ 15) w (σ 15 w + 1))
def caF (σ : SF) (b : Nat) : SF := va_up (va_up σ 2 (fun j => σ 2 j - if σ 10 b ≤ j ∧ j ≤ σ 11 b then σ 12 b else 0)) 14 (va_up (σ 14) b 1)
def enF (σ : SF) : SF := va_up (va_up (va_up (va_up (va_up (va_up σ 0 (va_up (va_up (σ 0) 3 0) 1 (σ 0 1 + 1))) 2 (fun j => if j < 3 then 0 else σ 2 j)) 6 (fun k => if k < σ 0 0 then (σ 8 k + σ 7 k) / (σ 0 1 + 1) else σ 6 k)) 7 (fun k => if k < σ 0 0 then 0 else σ 7 k)) 8 (fun k => if k < σ 0 0 then σ 8 k + σ 7 k else σ 8 k)) 9 (fun j => if j / 21 < σ 0 0 ∧ j % 21 = min (σ 7 (j / 21)) 20 then σ 9 j + 1 else σ 9 j)
def enE (σ : SF) (er : Int64) (sh : Nat) : Int64 := er + (nI (psum σ (σ 0 3)) - nI 100 * nI (den σ sh 3)).toInt64
/-- there is a product with these legs and this fare -/
def isSame (σ : SF) (f t c : Int32) : Prop := ∃ k, k < σ 0 0 ∧ nI (σ 3 k) = f ∧ nI (σ 4 k) = t ∧ nI (σ 5 k) = c
/-- what asking answers, and what stands behind it: the passenger is counted in σ -/
def askA (σ : SF) (k : Nat) (r : Int32) (τ : SF) : Prop :=
  (fullA σ (σ 3 k) (σ 4 k) ∧ r = -1 ∧ τ = rfF σ 1) ∨
  (¬ fullA σ (σ 3 k) (σ 4 k) ∧ protA σ (σ 3 k) (σ 4 k) (σ 5 k) ∧ r = -2 ∧ τ = rfF σ 2) ∨
  (¬ fullA σ (σ 3 k) (σ 4 k) ∧ ¬ protA σ (σ 3 k) (σ 4 k) (σ 5 k) ∧ nI (σ 5 k) < bidsI σ (σ 3 k) (σ 4 k + 1 - σ 3 k) ∧ r = -3 ∧ τ = rfF σ 3) ∨
  (¬ fullA σ (σ 3 k) (σ 4 k) ∧ ¬ protA σ (σ 3 k) (σ 4 k) (σ 5 k) ∧ ¬ nI (σ 5 k) < bidsI σ (σ 3 k) (σ 4 k + 1 - σ 3 k) ∧ r = nI (σ 0 3) ∧ τ = bookF σ (σ 3 k) (σ 4 k) 1 (σ 5 k))
def grpA (σ : SF) (f t n c : Nat) (r : Int32) (τ : SF) : Prop :=
  (tooFull σ f t n ∧ r = -1 ∧ τ = rfF σ 1) ∨
  (¬ tooFull σ f t n ∧ nI (c * n) < disI σ f t n ∧ r = -3 ∧ τ = rfF σ 3) ∨
  (¬ tooFull σ f t n ∧ ¬ nI (c * n) < disI σ f t n ∧ r = nI (σ 0 3) ∧ τ = bookF σ f t n (c * n))
def pV (v : Nat) (P : Prop) : Prop := (v = 1 ∧ P) ∨ (v = 0 ∧ ¬ P)
theorem pV.t {P : Prop} (h : P) : pV 1 P := Or.inl ⟨rfl, h⟩
theorem pV.f {P : Prop} (h : ¬ P) : pV 0 P := Or.inr ⟨rfl, h⟩
theorem pV.le {v : Nat} {P : Prop} (h : pV v P) : v ≤ 1 := by rcases h with ⟨h, -⟩ | ⟨h, -⟩ <;> omega
theorem pV.yes {v : Nat} {P : Prop} (h : pV v P) (q : ¬ v = 0) : P := by rcases h with ⟨-, h⟩ | ⟨h, -⟩; exact h; exact absurd h q
theorem pV.no {v : Nat} {P : Prop} (h : pV v P) (q : v = 0) : ¬ P := by rcases h with ⟨h, -⟩ | ⟨-, h⟩; omega; exact h
def isP (σ : SF) (v : Int32) : Prop := ∃ k, k < σ 0 0 ∧ v = nI k
def isB (σ : SF) (v : Int32) : Prop := ∃ b, b < σ 0 3 ∧ v = nI b
def okN (v : Int32) : Prop := (-3 : Int32) ≤ v ∧ v ≤ -1
theorem okN_nat {v : Int32} (h : okN v) : ∃ w, 1 ≤ w ∧ w ≤ 3 ∧ -v = nI w ∧ v = -nI w := by
  have h1 := Int32.le_iff_toInt_le.mp h.1
  have h2 := Int32.le_iff_toInt_le.mp h.2
  have e1 : (-3 : Int32).toInt = -3 := by decide
  have e2 : (-1 : Int32).toInt = -1 := by decide
  rw [e1] at h1
  rw [e2] at h2
  rcases (show v.toInt = -3 ∨ v.toInt = -2 ∨ v.toInt = -1 by omega) with q | q | q
  · have := Int32.toInt_inj.mp (q.trans (show (-3 : Int) = (-3 : Int32).toInt from rfl)); subst this; exact ⟨3, by omega, by omega, by decide, by decide⟩
  · have := Int32.toInt_inj.mp (q.trans (show (-2 : Int) = (-2 : Int32).toInt from rfl)); subst this; exact ⟨2, by omega, by omega, by decide, by decide⟩
  · have := Int32.toInt_inj.mp (q.trans (show (-1 : Int) = (-1 : Int32).toInt from rfl)); subst this; exact ⟨1, by omega, by omega, by decide, by decide⟩
