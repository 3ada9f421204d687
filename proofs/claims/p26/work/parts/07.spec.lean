/-! WHAT THE SYSTEM'S STATE IS, for class and reference alike: σ 0: how many products, past days, the show rate, how many bookings; σ 1 the seats; σ 2 the booked seats; σ 3 .. σ 8 of a product its first and last leg, fare, expected, asked today, asked before; σ 9 the tables, 21 numbers a product; σ 10 .. σ 14 of a booking its first and last leg, seats, price, whether it is cancelled; σ 15 the refusals -/
abbrev SF : Type := Nat → Nat → Nat
def bsum (σ : SF) (leg : Nat) : Nat → Nat
  | 0 => 0
  | b + 1 => bsum σ leg b + (if σ 14 b = 0 ∧ σ 10 b ≤ leg ∧ leg ≤ σ 11 b then σ 12 b else 0)
def psum (σ : SF) : Nat → Nat
  | 0 => 0
  | b + 1 => psum σ b + (if σ 14 b = 0 then σ 13 b else 0)
def lft (σ : SF) (j : Nat) : Nat := σ 1 j - σ 2 j
def aut (σ : SF) (j : Nat) : Nat := σ 1 j + σ 1 j * (100 - σ 0 2) / 100
def dA (σ : SF) (k j : Nat) : Nat := if σ 3 k ≤ j ∧ j ≤ σ 4 k then 1 else 0
/-- a table of worths with one passenger more -/
def vAdd (T : Nat → Nat → Nat → Nat) (da db dc f : Nat) : Nat → Nat → Nat → Nat := fun a b c => max (T a b c) (if da ≤ a ∧ db ≤ b ∧ dc ≤ c then T (a - da) (b - db) (c - dc) + f else 0)
def vRep (T : Nat → Nat → Nat → Nat) (da db dc f : Nat) : Nat → Nat → Nat → Nat → Nat
  | 0 => T
  | j + 1 => vAdd (vRep T da db dc f j) da db dc f
def vK (σ : SF) : Nat → Nat → Nat → Nat → Nat
  | 0 => fun _ _ _ => 0
  | k + 1 => vRep (vK σ k) (dA σ k 0) (dA σ k 1) (dA σ k 2) (σ 5 k) (min (σ 6 k - σ 7 k) 12)
def wv (σ : SF) (a b c : Nat) : Nat := vK σ (σ 0 0) a b c
/-- how many days so many or more asked: the first j entries from the top -/
def cntU (σ : SF) (k : Nat) : Nat → Nat
  | 0 => 0
  | j + 1 => cntU σ k j + σ 9 (21 * k + (20 - j))
def pmU (σ : SF) (k cost : Nat) : Nat → Nat
  | 0 => 0
  | j + 1 => if cost * σ 0 1 ≤ σ 5 k * cntU σ k (j + 1) ∧ pmU σ k cost j < 20 - j then 20 - j else pmU σ k cost j
def prS (σ : SF) (leg cost : Nat) : Nat → Nat
  | 0 => 0
  | k + 1 => prS σ leg cost k + (if (σ 3 k ≤ leg ∧ leg ≤ σ 4 k) ∧ cost < σ 5 k ∧ 0 < σ 0 1 then pmU σ k cost 21 else 0)
def prot (σ : SF) (leg cost : Nat) : Nat := prS σ leg cost (σ 0 0)
/-- the worth with x, y, z seats more on the legs -/
def wM (σ : SF) (x y z : Nat) : Nat := wv σ (lft σ 0 + x) (lft σ 1 + y) (lft σ 2 + z)
def bidI (σ : SF) (j : Nat) : Int32 := nI (wM σ (if j = 0 then 1 else 0) (if j = 1 then 1 else 0) (if j = 2 then 1 else 0)) - nI (wM σ 0 0 0)
/-- the bid prices of n legs from the leg j on, added up -/
def bidsI (σ : SF) (j : Nat) : Nat → Int32
  | 0 => 0
  | n + 1 => bidsI σ j n + bidI σ (j + n)
def disI (σ : SF) (f t n : Nat) : Int32 := nI (wM σ 0 0 0) - nI (wv σ (lft σ 0 - if f ≤ 0 ∧ 0 ≤ t then n else 0) (lft σ 1 - if f ≤ 1 ∧ 1 ≤ t then n else 0) (lft σ 2 - if f ≤ 2 ∧ 2 ≤ t then n else 0))
def fullA (σ : SF) (f t : Nat) : Prop := ∃ j, f ≤ j ∧ j ≤ t ∧ aut σ j ≤ σ 2 j
def protA (σ : SF) (f t cost : Nat) : Prop := ∃ j, f ≤ j ∧ j ≤ t ∧ aut σ j ≤ σ 2 j + prot σ j cost
def tooFull (σ : SF) (f t n : Nat) : Prop := ∃ j, f ≤ j ∧ j ≤ t ∧ lft σ j < n
def den1 (σ : SF) (sh j : Nat) : Nat := (σ 2 j * sh + 99) / 100 - σ 1 j
def den (σ : SF) (sh : Nat) : Nat → Nat
  | 0 => 0
  | j + 1 => den σ sh j + den1 σ sh j
/-- what always holds behind n calls -/
def Iv (n : Nat) (σ : SF) : Prop :=
  n ≤ 512 ∧ σ 0 0 ≤ 8 ∧ σ 0 1 ≤ n ∧ 50 ≤ σ 0 2 ∧ σ 0 2 ≤ 100 ∧ σ 0 3 ≤ 60 ∧
  (∀ j, j < 3 → σ 1 j ≤ 10) ∧ (∀ j, j < 3 → σ 2 j = bsum σ j (σ 0 3)) ∧
  (∀ k, k < σ 0 0 → σ 3 k ≤ σ 4 k ∧ σ 4 k ≤ 2 ∧ 1 ≤ σ 5 k ∧ σ 5 k ≤ 1000 ∧ σ 6 k ≤ 512 ∧ σ 8 k + σ 7 k ≤ n) ∧
  (∀ k, σ 0 0 ≤ k → σ 6 k = 0 ∧ σ 7 k = 0 ∧ σ 8 k = 0) ∧
  (∀ j, σ 9 j ≤ σ 0 1) ∧ (∀ j, 21 * σ 0 0 ≤ j → σ 9 j = 0) ∧
  (∀ b, b < σ 0 3 → σ 10 b ≤ σ 11 b ∧ σ 11 b ≤ 2 ∧ σ 12 b ≤ 10 ∧ σ 13 b ≤ 30000 ∧ σ 14 b ≤ 1) ∧
  (∀ j, σ 15 j ≤ n)
section IVS
variable {n : Nat} {σ : SF}
theorem Iv.nn (h : Iv n σ) : n ≤ 512 := h.1
theorem Iv.np (h : Iv n σ) : σ 0 0 ≤ 8 := h.2.1
theorem Iv.dy (h : Iv n σ) : σ 0 1 ≤ n := h.2.2.1
theorem Iv.rt (h : Iv n σ) : 50 ≤ σ 0 2 ∧ σ 0 2 ≤ 100 := ⟨h.2.2.2.1, h.2.2.2.2.1⟩
theorem Iv.nb (h : Iv n σ) : σ 0 3 ≤ 60 := h.2.2.2.2.2.1
theorem Iv.se (h : Iv n σ) : ∀ j, j < 3 → σ 1 j ≤ 10 := h.2.2.2.2.2.2.1
theorem Iv.bk (h : Iv n σ) : ∀ j, j < 3 → σ 2 j = bsum σ j (σ 0 3) := h.2.2.2.2.2.2.2.1
theorem Iv.pr (h : Iv n σ) : ∀ k, k < σ 0 0 → σ 3 k ≤ σ 4 k ∧ σ 4 k ≤ 2 ∧ 1 ≤ σ 5 k ∧ σ 5 k ≤ 1000 ∧ σ 6 k ≤ 512 ∧ σ 8 k + σ 7 k ≤ n := h.2.2.2.2.2.2.2.2.1
theorem Iv.p0 (h : Iv n σ) : ∀ k, σ 0 0 ≤ k → σ 6 k = 0 ∧ σ 7 k = 0 ∧ σ 8 k = 0 := h.2.2.2.2.2.2.2.2.2.1
theorem Iv.tb (h : Iv n σ) : ∀ j, σ 9 j ≤ σ 0 1 := h.2.2.2.2.2.2.2.2.2.2.1
theorem Iv.t0 (h : Iv n σ) : ∀ j, 21 * σ 0 0 ≤ j → σ 9 j = 0 := h.2.2.2.2.2.2.2.2.2.2.2.1
theorem Iv.bo (h : Iv n σ) : ∀ b, b < σ 0 3 → σ 10 b ≤ σ 11 b ∧ σ 11 b ≤ 2 ∧ σ 12 b ≤ 10 ∧ σ 13 b ≤ 30000 ∧ σ 14 b ≤ 1 := h.2.2.2.2.2.2.2.2.2.2.2.2.1
theorem Iv.rf (h : Iv n σ) : ∀ j, σ 15 j ≤ n := h.2.2.2.2.2.2.2.2.2.2.2.2.2
theorem bsum_le (h : ∀ b, b < σ 0 3 → σ 12 b ≤ 10) (leg : Nat) : ∀ b, b ≤ σ 0 3 → bsum σ leg b ≤ 10 * b := by
  intro b
  induction b with
  | zero => intro _; exact Nat.le_refl _
  | succ b ih =>
    intro hb
    have h1 := ih (by omega)
    have h2 := h b (by omega)
    unfold bsum
    split <;> omega
theorem psum_le (h : ∀ b, b < σ 0 3 → σ 13 b ≤ 30000) : ∀ b, b ≤ σ 0 3 → psum σ b ≤ 30000 * b := by
  intro b
  induction b with
  | zero => intro _; exact Nat.le_refl _
  | succ b ih =>
    intro hb
    have h1 := ih (by omega)
    have h2 := h b (by omega)
    unfold psum
    split <;> omega
theorem Iv.bkle (h : Iv n σ) : ∀ j, j < 3 → σ 2 j ≤ 600 := by
  intro j hj
  rw [h.bk j hj]
  have h1 := bsum_le (σ := σ) (fun b hb => (h.bo b hb).2.2.1) j (σ 0 3) (Nat.le_refl _)
  have h2 := h.nb
  omega
theorem Iv.lf (h : Iv n σ) : ∀ j, j < 3 → lft σ j ≤ 10 := by
  intro j hj
  have h1 := h.se j hj
  unfold lft
  omega
theorem Iv.pA (h : Iv n σ) (k : Nat) : σ 6 k ≤ 512 ∧ σ 7 k ≤ 512 ∧ σ 8 k ≤ 512 ∧ σ 8 k + σ 7 k ≤ n := by
  have hn := h.nn
  rcases Nat.lt_or_ge k (σ 0 0) with q | q
  · have := h.pr k q; omega
  · have := h.p0 k q; omega
end IVS
