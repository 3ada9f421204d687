/-! the law's own numbers beside the state: p six numbers a product, h what was asked on each past day, b bookings and their prices, g the rest -/
def cE (hf : Nat → Nat) (k y : Nat) : Nat → Nat
  | 0 => 0
  | d + 1 => cE hf k y d + (if y ≤ hf (10 * k + d) then 1 else 0)
def PM (σ : SF) (pf : Nat → Nat) : Prop := ∀ k, k < σ 0 0 → pf (6 * k) = σ 3 k ∧ pf (6 * k + 1) = σ 4 k ∧ pf (6 * k + 2) = σ 5 k ∧ pf (6 * k + 3) = σ 6 k ∧ pf (6 * k + 4) = σ 7 k ∧ pf (6 * k + 5) = σ 8 k
def HM (σ : SF) (hf : Nat → Nat) : Prop := (∀ i, hf i ≤ 512) ∧ ∀ k, k < σ 0 0 → ∀ j, j ≤ 20 → cntU σ k (j + 1) = cE hf k (20 - j) (σ 0 1)
def BM (σ : SF) (bf : Nat → Nat) : Prop := ∀ b, b < σ 0 3 → bf b = 1000 * σ 10 b + 100 * σ 11 b + σ 12 b ∧ bf (20 + b) = if σ 14 b = 0 then σ 13 b else 0
def GM (σ : SF) (gf : Nat → Nat) : Prop := (∀ j, j < 3 → gf j = σ 1 j) ∧ gf 3 = σ 0 2 ∧ gf 4 = σ 0 0 ∧ gf 5 = σ 0 1 ∧ gf 6 = σ 0 3 ∧ gf 7 = σ 15 1 ∧ gf 8 = σ 15 2 ∧ gf 9 = σ 15 3
def XM (σ : SF) : Prop := σ 0 0 ≤ 6 ∧ σ 0 3 ≤ 19 ∧ σ 0 1 ≤ 10 ∧ ∀ b, b < σ 0 3 → 1 ≤ σ 12 b ∧ 1 ≤ σ 13 b
def MR (σ : SF) (pf hf bf gf : Nat → Nat) : Prop := PM σ pf ∧ HM σ hf ∧ BM σ bf ∧ GM σ gf ∧ XM σ
/-- what was earned, as the law's int -/
def EM (σ : SF) (er : Int64) (ei : Int32) : Prop := er = ei.toInt64 ∧ -(1000000 * (σ 0 1 : Int)) ≤ ei.toInt ∧ ei.toInt ≤ 1000000 * (σ 0 1 : Int)
section MIR
variable {σ : SF} {pf hf bf gf : Nat → Nat}
theorem MR.p0 (h : MR σ pf hf bf gf) {k i : Nat} (hk : k < σ 0 0) (hi : i = 6 * k) : pf i = σ 3 k := by subst hi; exact (h.1 k hk).1
theorem MR.p1 (h : MR σ pf hf bf gf) {k i : Nat} (hk : k < σ 0 0) (hi : i = 6 * k + 1) : pf i = σ 4 k := by subst hi; exact (h.1 k hk).2.1
theorem MR.p2 (h : MR σ pf hf bf gf) {k i : Nat} (hk : k < σ 0 0) (hi : i = 6 * k + 2) : pf i = σ 5 k := by subst hi; exact (h.1 k hk).2.2.1
theorem MR.p3 (h : MR σ pf hf bf gf) {k i : Nat} (hk : k < σ 0 0) (hi : i = 6 * k + 3) : pf i = σ 6 k := by subst hi; exact (h.1 k hk).2.2.2.1
theorem MR.p4 (h : MR σ pf hf bf gf) {k i : Nat} (hk : k < σ 0 0) (hi : i = 6 * k + 4) : pf i = σ 7 k := by subst hi; exact (h.1 k hk).2.2.2.2.1
theorem MR.p5 (h : MR σ pf hf bf gf) {k i : Nat} (hk : k < σ 0 0) (hi : i = 6 * k + 5) : pf i = σ 8 k := by subst hi; exact (h.1 k hk).2.2.2.2.2
theorem MR.hh (h : MR σ pf hf bf gf) {k : Nat} (hk : k < σ 0 0) : ∀ j, j ≤ 20 → cntU σ k (j + 1) = cE hf k (20 - j) (σ 0 1) := h.2.1.2 k hk
theorem MR.hb (h : MR σ pf hf bf gf) (i : Nat) : hf i ≤ 512 := h.2.1.1 i
theorem MR.b1 (h : MR σ pf hf bf gf) {b : Nat} (hb : b < σ 0 3) : bf b = 1000 * σ 10 b + 100 * σ 11 b + σ 12 b := (h.2.2.1 b hb).1
theorem MR.b2 (h : MR σ pf hf bf gf) {b i : Nat} (hb : b < σ 0 3) (hi : i = 20 + b) : bf i = if σ 14 b = 0 then σ 13 b else 0 := by subst hi; exact (h.2.2.1 b hb).2
theorem MR.g0 (h : MR σ pf hf bf gf) {j : Nat} (hj : j < 3) : gf j = σ 1 j := h.2.2.2.1.1 j hj
theorem MR.g3 (h : MR σ pf hf bf gf) : gf 3 = σ 0 2 := h.2.2.2.1.2.1
theorem MR.g4 (h : MR σ pf hf bf gf) : gf 4 = σ 0 0 := h.2.2.2.1.2.2.1
theorem MR.g5 (h : MR σ pf hf bf gf) : gf 5 = σ 0 1 := h.2.2.2.1.2.2.2.1
theorem MR.g6 (h : MR σ pf hf bf gf) : gf 6 = σ 0 3 := h.2.2.2.1.2.2.2.2.1
theorem MR.g7 (h : MR σ pf hf bf gf) : gf 7 = σ 15 1 := h.2.2.2.1.2.2.2.2.2.1
theorem MR.g8 (h : MR σ pf hf bf gf) : gf 8 = σ 15 2 := h.2.2.2.1.2.2.2.2.2.2.1
theorem MR.g9 (h : MR σ pf hf bf gf) : gf 9 = σ 15 3 := h.2.2.2.1.2.2.2.2.2.2.2
theorem MR.gr (h : MR σ pf hf bf gf) {w : Nat} (h1 : 1 ≤ w) (h3 : w ≤ 3) {i : Nat} (hi : i = 6 + w) : gf i = σ 15 w := by
  subst hi
  rcases (show w = 1 ∨ w = 2 ∨ w = 3 by omega) with rfl | rfl | rfl
  · exact h.g7
  · exact h.g8
  · exact h.g9
theorem MR.np (h : MR σ pf hf bf gf) : σ 0 0 ≤ 6 := h.2.2.2.2.1
theorem MR.nb (h : MR σ pf hf bf gf) : σ 0 3 ≤ 19 := h.2.2.2.2.2.1
theorem MR.dy (h : MR σ pf hf bf gf) : σ 0 1 ≤ 10 := h.2.2.2.2.2.2.1
theorem MR.bo (h : MR σ pf hf bf gf) {b : Nat} (hb : b < σ 0 3) : 1 ≤ σ 12 b ∧ 1 ≤ σ 13 b := h.2.2.2.2.2.2.2 b hb
theorem cntU_congr {τ : SF} {k : Nat} (h : ∀ i, i < 21 → τ 9 (21 * k + i) = σ 9 (21 * k + i)) : ∀ j, j ≤ 21 → cntU τ k j = cntU σ k j := by
  intro j
  induction j with
  | zero => intro _; rfl
  | succ j ih =>
    intro hj
    unfold cntU
    rw [ih (by omega), h (20 - j) (by omega)]
theorem cE_congr {hf hf' : Nat → Nat} {k y : Nat} : ∀ d, (∀ i, i < d → hf' (10 * k + i) = hf (10 * k + i)) → cE hf' k y d = cE hf k y d := by
  intro d
  induction d with
  | zero => intro _; rfl
  | succ d ih =>
    intro h
    unfold cE
    rw [ih (fun i hi => h i (by omega)), h d (Nat.lt_succ_self d)]
theorem cE_zero {hf : Nat → Nat} {k y : Nat} : ∀ d, (∀ i, i < d → hf (10 * k + i) = 0) → cE hf k y d = if y = 0 then d else 0 := by
  intro d
  induction d with
  | zero => intro _; split <;> rfl
  | succ d ih =>
    intro h
    unfold cE
    rw [ih (fun i hi => h i (by omega)), h d (Nat.lt_succ_self d)]
    by_cases q : y = 0
    · subst q; simp
    · have q2 : ¬ y ≤ 0 := by omega
      simp [q, q2]
theorem cE_le {hf : Nat → Nat} {k y : Nat} : ∀ d, cE hf k y d ≤ d := by
  intro d
  induction d with
  | zero => exact Nat.le_refl _
  | succ d ih => unfold cE; split <;> omega
/-! the seats that one product keeps, y by y up to the last that holds -/
def mY (f r : Nat) (c : Nat → Nat) : Nat → Nat
  | 0 => 0
  | y + 1 => if r ≤ f * c (y + 1) then y + 1 else mY f r c y
theorem mY_s {f r : Nat} {c : Nat → Nat} {y : Nat} (hy : 1 ≤ y) : mY f r c y = if r ≤ f * c y then y else mY f r c (y - 1) := by
  obtain ⟨z, rfl⟩ : ∃ z, y = z + 1 := ⟨y - 1, by omega⟩
  rfl
theorem mY_pm {k cost : Nat} {c : Nat → Nat} (hc : ∀ j, j ≤ 20 → cntU σ k (j + 1) = c (20 - j)) : mY (σ 5 k) (cost * σ 0 1) c 20 = pmU σ k cost 21 := by
  have key : ∀ j, j ≤ 20 → (pmU σ k cost j = 0 ∧ mY (σ 5 k) (cost * σ 0 1) c 20 = mY (σ 5 k) (cost * σ 0 1) c (20 - j)) ∨ (20 - j < pmU σ k cost j ∧ mY (σ 5 k) (cost * σ 0 1) c 20 = pmU σ k cost j) := by
    intro j
    induction j with
    | zero => intro _; exact Or.inl ⟨rfl, rfl⟩
    | succ j ih =>
      intro hj
      have h1 := ih (by omega)
      have h2 := hc j (by omega)
      have e1 : pmU σ k cost (j + 1) = if cost * σ 0 1 ≤ σ 5 k * cntU σ k (j + 1) ∧ pmU σ k cost j < 20 - j then 20 - j else pmU σ k cost j := rfl
      have e2 : mY (σ 5 k) (cost * σ 0 1) c (20 - j) = if cost * σ 0 1 ≤ σ 5 k * c (20 - j) then 20 - j else mY (σ 5 k) (cost * σ 0 1) c (20 - (j + 1)) := by
        obtain ⟨y, hy⟩ : ∃ y, 20 - j = y + 1 := ⟨19 - j, by omega⟩
        rw [show 20 - (j + 1) = y by omega, hy]
        rfl
      rw [e1, h2]
      rcases h1 with ⟨q1, q2⟩ | ⟨q1, q2⟩
      · rw [q1]
        by_cases r : cost * σ 0 1 ≤ σ 5 k * c (20 - j)
        · rw [if_pos ⟨r, by omega⟩]
          rw [e2, if_pos r] at q2
          exact Or.inr ⟨by omega, q2⟩
        · rw [if_neg (fun z => r z.1)]
          rw [e2, if_neg r] at q2
          exact Or.inl ⟨rfl, q2⟩
      · rw [if_neg (fun z => by omega)]
        exact Or.inr ⟨by omega, q2⟩
  have e3 : pmU σ k cost 21 = pmU σ k cost 20 := by
    show (if cost * σ 0 1 ≤ σ 5 k * cntU σ k 21 ∧ pmU σ k cost 20 < 20 - 20 then 20 - 20 else pmU σ k cost 20) = _
    exact if_neg (fun z => absurd z.2 (Nat.not_lt_zero _))
  rw [e3]
  rcases key 20 (Nat.le_refl _) with ⟨q1, q2⟩ | ⟨q1, q2⟩
  · rw [q1, q2]; rfl
  · exact q2
theorem prS_0 {leg cost : Nat} (h : σ 0 1 = 0) : ∀ k, prS σ leg cost k = 0 := by
  intro k
  induction k with
  | zero => rfl
  | succ k ih =>
    unfold prS
    rw [ih]
    split
    · exfalso; omega
    · rfl
theorem prS_y {leg cost k : Nat} (h : (σ 3 k ≤ leg ∧ leg ≤ σ 4 k) ∧ cost < σ 5 k ∧ 0 < σ 0 1) : prS σ leg cost k + pmU σ k cost 21 = prS σ leg cost (k + 1) := by
  conv => rhs; unfold prS
  rw [if_pos h]
theorem bsum_y {leg k : Nat} (h : σ 14 k = 0 ∧ σ 10 k ≤ leg ∧ leg ≤ σ 11 k) : bsum σ leg k + σ 12 k = bsum σ leg (k + 1) := by
  conv => rhs; unfold bsum
  rw [if_pos h]
theorem bsum_n {leg k : Nat} (h : ¬ (σ 14 k = 0 ∧ σ 10 k ≤ leg ∧ leg ≤ σ 11 k)) : bsum σ leg k + 0 = bsum σ leg (k + 1) := by
  conv => rhs; unfold bsum
  rw [if_neg h]
/-- the dearest fare over a leg -/
def dS (σ : SF) (leg : Nat) : Nat → Nat
  | 0 => 0
  | k + 1 => if σ 3 k ≤ leg ∧ leg ≤ σ 4 k ∧ dS σ leg k < σ 5 k then σ 5 k else dS σ leg k
theorem dS_y {leg k : Nat} (h : σ 3 k ≤ leg ∧ leg ≤ σ 4 k ∧ dS σ leg k < σ 5 k) : σ 5 k = dS σ leg (k + 1) := by
  conv => rhs; unfold dS
  rw [if_pos h]
theorem dS_n {leg k : Nat} (h : ¬ (σ 3 k ≤ leg ∧ leg ≤ σ 4 k ∧ dS σ leg k < σ 5 k)) : dS σ leg k = dS σ leg (k + 1) := by
  conv => rhs; unfold dS
  rw [if_neg h]
theorem dS_mono {leg k : Nat} : dS σ leg k ≤ dS σ leg (k + 1) := by
  by_cases h : σ 3 k ≤ leg ∧ leg ≤ σ 4 k ∧ dS σ leg k < σ 5 k
  · rw [← dS_y h]; omega
  · rw [← dS_n h]; exact Nat.le_refl _
theorem dS_at {leg k : Nat} (h : σ 3 k ≤ leg ∧ leg ≤ σ 4 k) : σ 5 k ≤ dS σ leg (k + 1) := by
  by_cases q : dS σ leg k < σ 5 k
  · rw [← dS_y ⟨h.1, h.2, q⟩]; exact Nat.le_refl _
  · have := dS_mono (σ := σ) (leg := leg) (k := k); omega
theorem dS_le {leg M : Nat} : ∀ k, (∀ i, i < k → σ 5 i ≤ M) → dS σ leg k ≤ M := by
  intro k
  induction k with
  | zero => intro _; exact Nat.zero_le _
  | succ k ih =>
    intro h
    have h1 := ih (fun i hi => h i (by omega))
    have h2 := h k (Nat.lt_succ_self k)
    unfold dS
    split <;> omega
end MIR
/-! the worth never falls with a seat more, and one seat more over a leg is worth no more than the dearest fare over it -/
def tMo (T : Nat → Nat → Nat → Nat) : Prop := ∀ a b c a' b' c', a ≤ a' → b ≤ b' → c ≤ c' → T a b c ≤ T a' b' c'
theorem vAdd_mo {T : Nat → Nat → Nat → Nat} (h : tMo T) (da db dc f : Nat) : tMo (vAdd T da db dc f) := by
  intro a b c a' b' c' h1 h2 h3
  unfold vAdd
  have e1 := h a b c a' b' c' h1 h2 h3
  have e2 := h (a - da) (b - db) (c - dc) (a' - da) (b' - db) (c' - dc) (by omega) (by omega) (by omega)
  by_cases q : da ≤ a ∧ db ≤ b ∧ dc ≤ c
  · rw [if_pos q, if_pos (show da ≤ a' ∧ db ≤ b' ∧ dc ≤ c' by omega)]; omega
  · rw [if_neg q]; omega
theorem vRep_mo {T : Nat → Nat → Nat → Nat} (h : tMo T) (da db dc f : Nat) : ∀ m, tMo (vRep T da db dc f m) := by
  intro m
  induction m with
  | zero => exact h
  | succ m ih => exact vAdd_mo ih da db dc f
theorem vK_mo (σ : SF) : ∀ k, tMo (vK σ k) := by
  intro k
  induction k with
  | zero => intro _ _ _ _ _ _ _ _ _; exact Nat.le_refl _
  | succ k ih => exact vRep_mo ih _ _ _ _ _
/-- one seat more over the leg x (x = 0, 1, 2 by ex, ey, ez) is worth no more than M -/
def tOn (T : Nat → Nat → Nat → Nat) (ex ey ez M : Nat) : Prop := ∀ a b c, T (a + ex) (b + ey) (c + ez) ≤ T a b c + M
theorem vAdd_on {T : Nat → Nat → Nat → Nat} (hm : tMo T) {ex ey ez M : Nat} (h : tOn T ex ey ez M) (he : ex + ey + ez ≤ 1) {da db dc f : Nat} (ha : da ≤ 1) (hb : db ≤ 1) (hc : dc ≤ 1) (hf : (1 ≤ ex * da + ey * db + ez * dc) → f ≤ M) : tOn (vAdd T da db dc f) ex ey ez M := by
  intro a b c
  unfold vAdd
  have e1 := h a b c
  by_cases q : da ≤ a ∧ db ≤ b ∧ dc ≤ c
  · have e2 := h (a - da) (b - db) (c - dc)
    rw [show a - da + ex = a + ex - da by omega, show b - db + ey = b + ey - db by omega, show c - dc + ez = c + ez - dc by omega] at e2
    rw [if_pos q, if_pos (show da ≤ a + ex ∧ db ≤ b + ey ∧ dc ≤ c + ez by omega)]
    omega
  · rw [if_neg q]
    by_cases q2 : da ≤ a + ex ∧ db ≤ b + ey ∧ dc ≤ c + ez
    · have e3 := hm (a + ex - da) (b + ey - db) (c + ez - dc) a b c (by
        rcases Nat.eq_zero_or_pos da with z | z
        · rcases Nat.eq_zero_or_pos ex with y | y
          · omega
          · exfalso; apply q; omega
        · omega) (by
        rcases Nat.eq_zero_or_pos db with z | z
        · rcases Nat.eq_zero_or_pos ey with y | y
          · omega
          · exfalso; apply q; omega
        · omega) (by
        rcases Nat.eq_zero_or_pos dc with z | z
        · rcases Nat.eq_zero_or_pos ez with y | y
          · omega
          · exfalso; apply q; omega
        · omega)
      have e4 : f ≤ M := hf (by
        rcases (show (ex = 1 ∧ ey = 0 ∧ ez = 0) ∨ (ex = 0 ∧ ey = 1 ∧ ez = 0) ∨ (ex = 0 ∧ ey = 0 ∧ ez = 1) ∨ (ex = 0 ∧ ey = 0 ∧ ez = 0) by omega) with ⟨x1, x2, x3⟩ | ⟨x1, x2, x3⟩ | ⟨x1, x2, x3⟩ | ⟨x1, x2, x3⟩ <;> subst x1 <;> subst x2 <;> subst x3 <;> omega)
      rw [if_pos q2]
      omega
    · rw [if_neg q2]
      omega
theorem vRep_on {T : Nat → Nat → Nat → Nat} (hm : tMo T) {ex ey ez M : Nat} (h : tOn T ex ey ez M) (he : ex + ey + ez ≤ 1) {da db dc f : Nat} (ha : da ≤ 1) (hb : db ≤ 1) (hc : dc ≤ 1) (hf : (1 ≤ ex * da + ey * db + ez * dc) → f ≤ M) : ∀ m, tOn (vRep T da db dc f m) ex ey ez M := by
  intro m
  induction m with
  | zero => exact h
  | succ m ih => exact vAdd_on (vRep_mo hm da db dc f m) ih he ha hb hc hf
theorem tOn.le {T : Nat → Nat → Nat → Nat} {ex ey ez M M' : Nat} (h : tOn T ex ey ez M) (hM : M ≤ M') : tOn T ex ey ez M' := fun a b c => Nat.le_trans (h a b c) (by omega)
theorem vK_on (σ : SF) {leg : Nat} (hl : leg < 3) : ∀ k, tOn (vK σ k) (if leg = 0 then 1 else 0) (if leg = 1 then 1 else 0) (if leg = 2 then 1 else 0) (dS σ leg k) := by
  intro k
  induction k with
  | zero => intro _ _ _; exact Nat.zero_le _
  | succ k ih =>
    have h0 := ih.le (dS_mono (σ := σ) (leg := leg) (k := k))
    refine vRep_on (vK_mo σ k) h0 ?_ dA_le dA_le dA_le ?_ _
    · split <;> split <;> split <;> omega
    · intro q
      refine dS_at ?_
      have e : ∀ j, dA σ k j = if σ 3 k ≤ j ∧ j ≤ σ 4 k then 1 else 0 := fun _ => rfl
      rw [e, e, e] at q
      rcases (show leg = 0 ∨ leg = 1 ∨ leg = 2 by omega) with rfl | rfl | rfl
      · by_cases z : σ 3 k ≤ 0 ∧ 0 ≤ σ 4 k
        · exact z
        · rw [if_neg z] at q; simp at q
      · by_cases z : σ 3 k ≤ 1 ∧ 1 ≤ σ 4 k
        · exact z
        · rw [if_neg z] at q; simp at q
      · by_cases z : σ 3 k ≤ 2 ∧ 2 ≤ σ 4 k
        · exact z
        · rw [if_neg z] at q; simp at q
theorem bid_nat (σ : SF) {leg : Nat} (hl : leg < 3) : ∃ d, d ≤ dS σ leg (σ 0 0) ∧ bidI σ leg = nI d := by
  have h1 := vK_on σ hl (σ 0 0) (lft σ 0) (lft σ 1) (lft σ 2)
  have h2 := vK_mo σ (σ 0 0) (lft σ 0) (lft σ 1) (lft σ 2) (lft σ 0 + if leg = 0 then 1 else 0) (lft σ 1 + if leg = 1 then 1 else 0) (lft σ 2 + if leg = 2 then 1 else 0) (Nat.le_add_right _ _) (Nat.le_add_right _ _) (Nat.le_add_right _ _)
  refine ⟨vK σ (σ 0 0) (lft σ 0 + if leg = 0 then 1 else 0) (lft σ 1 + if leg = 1 then 1 else 0) (lft σ 2 + if leg = 2 then 1 else 0) - vK σ (σ 0 0) (lft σ 0) (lft σ 1) (lft σ 2), by omega, ?_⟩
  exact pk_sub h2
theorem dis_nat (σ : SF) (f t q : Nat) : ∃ d, d ≤ wM σ 0 0 0 ∧ disI σ f t q = nI d := by
  have h2 := vK_mo σ (σ 0 0) (lft σ 0 - if f ≤ 0 ∧ 0 ≤ t then q else 0) (lft σ 1 - if f ≤ 1 ∧ 1 ≤ t then q else 0) (lft σ 2 - if f ≤ 2 ∧ 2 ≤ t then q else 0) (lft σ 0) (lft σ 1) (lft σ 2) (Nat.sub_le _ _) (Nat.sub_le _ _) (Nat.sub_le _ _)
  refine ⟨vK σ (σ 0 0) (lft σ 0) (lft σ 1) (lft σ 2) - vK σ (σ 0 0) (lft σ 0 - if f ≤ 0 ∧ 0 ≤ t then q else 0) (lft σ 1 - if f ≤ 1 ∧ 1 ≤ t then q else 0) (lft σ 2 - if f ≤ 2 ∧ 2 ≤ t then q else 0), Nat.sub_le _ _, ?_⟩
  exact pk_sub h2
theorem vRep_bd {T : Nat → Nat → Nat → Nat} {B : Nat} (h : ∀ a b c, T a b c ≤ B) (da db dc f : Nat) : ∀ m a b c, vRep T da db dc f m a b c ≤ B + m * f := by
  intro m
  induction m with
  | zero => intro a b c; exact Nat.le_trans (h a b c) (Nat.le_add_right _ _)
  | succ m ih =>
    intro a b c
    show max (vRep T da db dc f m a b c) (if da ≤ a ∧ db ≤ b ∧ dc ≤ c then vRep T da db dc f m (a - da) (b - db) (c - dc) + f else 0) ≤ B + (m + 1) * f
    have e1 := ih a b c
    have e2 := ih (a - da) (b - db) (c - dc)
    rw [Nat.add_mul, Nat.one_mul]
    split <;> omega
theorem vK_bd {σ : SF} : ∀ k, (∀ i, i < k → σ 5 i ≤ 1000) → ∀ a b c, vK σ k a b c ≤ 12000 * k := by
  intro k
  induction k with
  | zero => intro _ a b c; exact Nat.le_refl _
  | succ k ih =>
    intro h a b c
    have e1 := vRep_bd (ih (fun i hi => h i (by omega))) (dA σ k 0) (dA σ k 1) (dA σ k 2) (σ 5 k) (min (σ 6 k - σ 7 k) 12) a b c
    have e2 := h k (Nat.lt_succ_self k)
    have e3 : min (σ 6 k - σ 7 k) 12 * σ 5 k ≤ 12 * 1000 := Nat.mul_le_mul (Nat.min_le_right _ _) e2
    show vRep (vK σ k) (dA σ k 0) (dA σ k 1) (dA σ k 2) (σ 5 k) (min (σ 6 k - σ 7 k) 12) a b c ≤ _
    omega
theorem wM_lt {n : Nat} {σ : SF} (hI : Iv n σ) (x y z : Nat) : wM σ x y z ≤ 96000 := by
  have h1 := vK_bd (σ := σ) (σ 0 0) (fun i hi => (hI.pr i hi).2.2.2.1) (lft σ 0 + x) (lft σ 1 + y) (lft σ 2 + z)
  have h2 := hI.np
  show vK σ (σ 0 0) _ _ _ ≤ 96000
  omega
