/-! what the law writes into its numbers keeps them beside the state -/
section MTR
variable {σ : SF} {pf hf bf gf : Nat → Nat} {n : Nat}
theorem va_ne {g : Nat → Nat} {i x j : Nat} (h : j ≠ i) : va_up g i x j = g j := if_neg h
theorem up6 {i i1 i2 i3 i4 i5 a b c : Nat} (h1 : i1 = i + 1) (h2 : i2 = i + 2) (h3 : i3 = i + 3) (h4 : i4 = i + 4) (h5 : i5 = i + 5) : (∀ j, j < i → (va_up (va_up (va_up (va_up (va_up (va_up pf i a) i1 b) i2 c) i3 0) i4 0) i5 0) j = pf j) ∧ (va_up (va_up (va_up (va_up (va_up (va_up pf i a) i1 b) i2 c) i3 0) i4 0) i5 0) i = a ∧ (va_up (va_up (va_up (va_up (va_up (va_up pf i a) i1 b) i2 c) i3 0) i4 0) i5 0) (i + 1) = b ∧ (va_up (va_up (va_up (va_up (va_up (va_up pf i a) i1 b) i2 c) i3 0) i4 0) i5 0) (i + 2) = c ∧ (va_up (va_up (va_up (va_up (va_up (va_up pf i a) i1 b) i2 c) i3 0) i4 0) i5 0) (i + 3) = 0 ∧ (va_up (va_up (va_up (va_up (va_up (va_up pf i a) i1 b) i2 c) i3 0) i4 0) i5 0) (i + 4) = 0 ∧ (va_up (va_up (va_up (va_up (va_up (va_up pf i a) i1 b) i2 c) i3 0) i4 0) i5 0) (i + 5) = 0 := by
  subst h1 h2 h3 h4 h5
  refine ⟨fun j hj => ?_, ?_, ?_, ?_, ?_, ?_, ?_⟩
  · rw [va_ne (by omega), va_ne (by omega), va_ne (by omega), va_ne (by omega), va_ne (by omega), va_ne (by omega)]
  · rw [va_ne (by omega), va_ne (by omega), va_ne (by omega), va_ne (by omega), va_ne (by omega), up_at]
  · rw [va_ne (by omega), va_ne (by omega), va_ne (by omega), va_ne (by omega), up_at]
  · rw [va_ne (by omega), va_ne (by omega), va_ne (by omega), up_at]
  · rw [va_ne (by omega), va_ne (by omega), up_at]
  · rw [va_ne (by omega), up_at]
  · rw [up_at]
theorem MR.seats (h : MR σ pf hf bf gf) (a b c : Nat) : MR (seF σ a b c) pf hf bf (va_up (va_up (va_up gf 0 a) 1 b) 2 c) := by
  refine ⟨fun k hk => h.1 k hk, ⟨h.hb, fun k hk j hj => ?_⟩, fun b hb => h.2.2.1 b hb, ⟨fun j hj => ?_, h.g3, h.g4, h.g5, h.g6, h.g7, h.g8, h.g9⟩, h.2.2.2.2⟩
  · rw [cntU_congr (σ := σ) (τ := seF σ a b c) (fun _ _ => rfl) (j + 1) (by omega)]; exact h.hh hk j hj
  · show va_up (va_up (va_up gf 0 a) 1 b) 2 c j = va_up (va_up (va_up (σ 1) 0 a) 1 b) 2 c j
    have h9 := h.g0 hj
    simp only [up_if]
    rw [h9]
theorem MR.rate (h : MR σ pf hf bf gf) (r : Nat) : MR (raF σ r) pf hf bf (va_up gf 3 r) := by
  refine ⟨fun k hk => h.1 k hk, ⟨h.hb, fun k hk j hj => ?_⟩, fun b hb => h.2.2.1 b hb, ⟨fun j hj => ?_, rfl, h.g4, h.g5, h.g6, h.g7, h.g8, h.g9⟩, h.2.2.2.2⟩
  · rw [cntU_congr (σ := σ) (τ := raF σ r) (fun _ _ => rfl) (j + 1) (by omega)]; exact h.hh hk j hj
  · show va_up gf 3 r j = σ 1 j
    rw [va_ne (by omega)]; exact h.g0 hj
theorem MR.exps (h : MR σ pf hf bf gf) {k x : Nat} : MR (exF σ k x) (va_up pf (6 * k + 3) x) hf bf gf := by
  refine ⟨fun i hi => ?_, ⟨h.hb, fun k2 hk j hj => ?_⟩, fun b hb => h.2.2.1 b hb, h.2.2.2.1, h.2.2.2.2⟩
  · obtain ⟨e0, e1, e2, e3, e4, e5⟩ := h.1 i hi
    refine ⟨?_, ?_, ?_, ?_, ?_, ?_⟩
    · rw [va_ne (by omega)]; exact e0
    · rw [va_ne (by omega)]; exact e1
    · rw [va_ne (by omega)]; exact e2
    · show va_up pf (6 * k + 3) x (6 * i + 3) = va_up (σ 6) k x i
      rw [up_if, up_if]
      by_cases q : i = k
      · rw [if_pos (by omega), if_pos q]
      · rw [if_neg (by omega), if_neg q]; exact e3
    · rw [va_ne (by omega)]; exact e4
    · rw [va_ne (by omega)]; exact e5
  · rw [cntU_congr (σ := σ) (τ := exF σ k x) (fun _ _ => rfl) (j + 1) (by omega)]; exact h.hh hk j hj
theorem MR.asks (h : MR σ pf hf bf gf) {k : Nat} : MR (asF σ k) (va_up pf (6 * k + 4) (σ 7 k + 1)) hf bf gf := by
  refine ⟨fun i hi => ?_, ⟨h.hb, fun k2 hk j hj => ?_⟩, fun b hb => h.2.2.1 b hb, h.2.2.2.1, h.2.2.2.2⟩
  · obtain ⟨e0, e1, e2, e3, e4, e5⟩ := h.1 i hi
    refine ⟨?_, ?_, ?_, ?_, ?_, ?_⟩
    · rw [va_ne (by omega)]; exact e0
    · rw [va_ne (by omega)]; exact e1
    · rw [va_ne (by omega)]; exact e2
    · rw [va_ne (by omega)]; exact e3
    · show va_up pf (6 * k + 4) (σ 7 k + 1) (6 * i + 4) = va_up (σ 7) k (σ 7 k + 1) i
      rw [up_if, up_if]
      by_cases q : i = k
      · rw [if_pos (by omega), if_pos q]
      · rw [if_neg (by omega), if_neg q]; exact e4
    · rw [va_ne (by omega)]; exact e5
  · rw [cntU_congr (σ := σ) (τ := asF σ k) (fun _ _ => rfl) (j + 1) (by omega)]; exact h.hh hk j hj
theorem MR.rfs (h : MR σ pf hf bf gf) {w : Nat} (h1 : 1 ≤ w) (h3 : w ≤ 3) : MR (rfF σ w) pf hf bf (va_up gf (6 + w) (σ 15 w + 1)) := by
  refine ⟨fun k hk => h.1 k hk, ⟨h.hb, fun k hk j hj => ?_⟩, fun b hb => h.2.2.1 b hb, ⟨fun j hj => ?_, ?_, ?_, ?_, ?_, ?_, ?_, ?_⟩, h.2.2.2.2⟩
  · rw [cntU_congr (σ := σ) (τ := rfF σ w) (fun _ _ => rfl) (j + 1) (by omega)]; exact h.hh hk j hj
  · rw [va_ne (by omega)]; exact h.g0 hj
  · rw [va_ne (by omega)]; exact h.g3
  · rw [va_ne (by omega)]; exact h.g4
  · rw [va_ne (by omega)]; exact h.g5
  · rw [va_ne (by omega)]; exact h.g6
  · show va_up gf (6 + w) (σ 15 w + 1) 7 = va_up (σ 15) w (σ 15 w + 1) 1
    rw [up_if, up_if]
    by_cases q : 1 = w
    · rw [if_pos (by omega), if_pos q]
    · rw [if_neg (by omega), if_neg q]; exact h.g7
  · show va_up gf (6 + w) (σ 15 w + 1) 8 = va_up (σ 15) w (σ 15 w + 1) 2
    rw [up_if, up_if]
    by_cases q : 2 = w
    · rw [if_pos (by omega), if_pos q]
    · rw [if_neg (by omega), if_neg q]; exact h.g8
  · show va_up gf (6 + w) (σ 15 w + 1) 9 = va_up (σ 15) w (σ 15 w + 1) 3
    rw [up_if, up_if]
    by_cases q : 3 = w
    · rw [if_pos (by omega), if_pos q]
    · rw [if_neg (by omega), if_neg q]; exact h.g9
theorem MR.boks (h : MR σ pf hf bf gf) {f t q c : Nat} (hB : σ 0 3 ≤ 18) (hq : 1 ≤ q) (hc : 1 ≤ c) : MR (bookF σ f t q c) pf hf (va_up (va_up bf (σ 0 3) (1000 * f + 100 * t + q)) (20 + σ 0 3) c) (va_up gf 6 (σ 0 3 + 1)) := by
  refine ⟨fun k hk => h.1 k hk, ⟨h.hb, fun k hk j hj => ?_⟩, fun b hb => ?_, ⟨fun j hj => ?_, h.g3, h.g4, h.g5, rfl, h.g7, h.g8, h.g9⟩, ⟨h.np, (by show σ 0 3 + 1 ≤ 19; omega), h.dy, fun b hb => ?_⟩⟩
  · rw [cntU_congr (σ := σ) (τ := bookF σ f t q c) (fun _ _ => rfl) (j + 1) (by omega)]; exact h.hh hk j hj
  · have hb2 : b < σ 0 3 + 1 := hb
    show va_up (va_up bf (σ 0 3) (1000 * f + 100 * t + q)) (20 + σ 0 3) c b = 1000 * va_up (σ 10) (σ 0 3) f b + 100 * va_up (σ 11) (σ 0 3) t b + va_up (σ 12) (σ 0 3) q b ∧ va_up (va_up bf (σ 0 3) (1000 * f + 100 * t + q)) (20 + σ 0 3) c (20 + b) = if va_up (σ 14) (σ 0 3) 0 b = 0 then va_up (σ 13) (σ 0 3) c b else 0
    by_cases z : b = σ 0 3
    · subst z
      refine ⟨?_, ?_⟩
      · rw [va_ne (by omega), up_at, up_at, up_at, up_at]
      · rw [if_pos (up_at (g := σ 14) (k := σ 0 3) (x := 0)), up_at, up_at]
    · obtain ⟨e1, e2⟩ := h.2.2.1 b (by omega)
      refine ⟨?_, ?_⟩
      · rw [va_ne (by omega), va_ne z, va_ne z, va_ne z, va_ne z]; exact e1
      · rw [va_ne (by omega), va_ne (by omega), va_ne z, va_ne z]; exact e2
  · rw [va_ne (by omega)]; exact h.g0 hj
  · have hb2 : b < σ 0 3 + 1 := hb
    show 1 ≤ va_up (σ 12) (σ 0 3) q b ∧ 1 ≤ va_up (σ 13) (σ 0 3) c b
    simp only [up_if]
    by_cases z : b = σ 0 3
    · rw [if_pos z, if_pos z]; exact ⟨hq, hc⟩
    · rw [if_neg z, if_neg z]; exact h.bo (by omega)
theorem MR.cans (h : MR σ pf hf bf gf) {b : Nat} (hb : b < σ 0 3) : MR (caF σ b) pf hf (va_up bf (20 + b) 0) gf := by
  have hnb := h.nb
  refine ⟨fun k hk => h.1 k hk, ⟨h.hb, fun k hk j hj => ?_⟩, fun i hi => ?_, h.2.2.2.1, h.2.2.2.2⟩
  · rw [cntU_congr (σ := σ) (τ := caF σ b) (fun _ _ => rfl) (j + 1) (by omega)]; exact h.hh hk j hj
  · have hi2 : i < σ 0 3 := hi
    show va_up bf (20 + b) 0 i = 1000 * σ 10 i + 100 * σ 11 i + σ 12 i ∧ va_up bf (20 + b) 0 (20 + i) = if va_up (σ 14) b 1 i = 0 then σ 13 i else 0
    obtain ⟨e1, e2⟩ := h.2.2.1 i hi2
    refine ⟨by rw [va_ne (by omega)]; exact e1, ?_⟩
    by_cases z : i = b
    · subst z
      rw [up_at, if_neg (by rw [up_at]; decide)]
    · rw [va_ne (by omega), va_ne z]; exact e2
theorem cntU_ad {f t c : Nat} (hI : Iv n σ) : ∀ j, j ≤ 21 → cntU (adF σ f t c) (σ 0 0) j = if j = 21 then σ 0 1 else 0 := by
  intro j
  induction j with
  | zero => intro _; rfl
  | succ j ih =>
    intro hj
    have e1 : cntU (adF σ f t c) (σ 0 0) (j + 1) = cntU (adF σ f t c) (σ 0 0) j + va_up (σ 9) (21 * σ 0 0) (σ 0 1) (21 * σ 0 0 + (20 - j)) := rfl
    rw [e1, ih (by omega), up_if, if_neg (by omega)]
    by_cases q : j = 20
    · rw [if_pos (by omega), if_pos (by omega)]; omega
    · have z := hI.t0 (21 * σ 0 0 + (20 - j)) (by omega)
      rw [if_neg (by omega), if_neg (by omega)]
      omega
theorem MR.adds (h : MR σ pf hf bf gf) (hI : Iv n σ) {f t c : Nat} (h6 : σ 0 0 < 6) {pf' hf' : Nat → Nat} (hp : ∀ i, i < 6 * σ 0 0 → pf' i = pf i) (q0 : pf' (6 * σ 0 0) = f) (q1 : pf' (6 * σ 0 0 + 1) = t) (q2 : pf' (6 * σ 0 0 + 2) = c) (q3 : pf' (6 * σ 0 0 + 3) = 0) (q4 : pf' (6 * σ 0 0 + 4) = 0) (q5 : pf' (6 * σ 0 0 + 5) = 0) (hh1 : ∀ i, i < 10 * σ 0 0 → hf' i = hf i) (hh2 : ∀ d, d < 10 → hf' (10 * σ 0 0 + d) = 0) (hh3 : ∀ i, hf' i ≤ 512) : MR (adF σ f t c) pf' hf' bf (va_up gf 4 (σ 0 0 + 1)) := by
  have hdy := h.dy
  refine ⟨fun k hk => ?_, ⟨hh3, fun k hk j hj => ?_⟩, fun b hb => h.2.2.1 b hb, ⟨fun j hj => ?_, h.g3, rfl, h.g5, h.g6, h.g7, h.g8, h.g9⟩, ⟨(by show σ 0 0 + 1 ≤ 6; omega), h.nb, h.dy, h.2.2.2.2.2.2.2⟩⟩
  · have hk2 : k < σ 0 0 + 1 := hk
    show pf' (6 * k) = va_up (σ 3) (σ 0 0) f k ∧ pf' (6 * k + 1) = va_up (σ 4) (σ 0 0) t k ∧ pf' (6 * k + 2) = va_up (σ 5) (σ 0 0) c k ∧ pf' (6 * k + 3) = σ 6 k ∧ pf' (6 * k + 4) = σ 7 k ∧ pf' (6 * k + 5) = σ 8 k
    by_cases z : k = σ 0 0
    · subst z
      obtain ⟨z6, z7, z8⟩ := hI.p0 (σ 0 0) (Nat.le_refl _)
      rw [up_at, up_at, up_at, z6, z7, z8]
      exact ⟨q0, q1, q2, q3, q4, q5⟩
    · rw [va_ne z, va_ne z, va_ne z, hp _ (by omega), hp _ (by omega), hp _ (by omega), hp _ (by omega), hp _ (by omega), hp _ (by omega)]
      exact h.1 k (by omega)
  · have hk2 : k < σ 0 0 + 1 := hk
    show cntU (adF σ f t c) k (j + 1) = cE hf' k (20 - j) (σ 0 1)
    by_cases z : k = σ 0 0
    · subst z
      rw [cntU_ad hI (j + 1) (by omega), cE_zero _ (fun i hi => hh2 i (by omega))]
      by_cases r : j = 20
      · rw [if_pos (by omega), if_pos (by omega)]
      · rw [if_neg (by omega), if_neg (by omega)]
    · rw [cntU_congr (σ := σ) (τ := adF σ f t c) (fun i hi => (show va_up (σ 9) (21 * σ 0 0) (σ 0 1) (21 * k + i) = σ 9 (21 * k + i) from va_ne (by omega))) (j + 1) (by omega), cE_congr (hf := hf) _ (fun i hi => hh1 _ (by omega))]
      exact h.hh (by omega) j hj
  · rw [va_ne (by omega)]; exact h.g0 hj
theorem cntU_en {k : Nat} (hk : k < σ 0 0) : ∀ j, j ≤ 21 → cntU (enF σ) k j = cntU σ k j + (if 21 - j ≤ min (σ 7 k) 20 then 1 else 0) := by
  intro j
  induction j with
  | zero => intro _; rw [if_neg (by omega)]; rfl
  | succ j ih =>
    intro hj
    have e1 : cntU (enF σ) k (j + 1) = cntU (enF σ) k j + enF σ 9 (21 * k + (20 - j)) := rfl
    have e2 : cntU σ k (j + 1) = cntU σ k j + σ 9 (21 * k + (20 - j)) := rfl
    have d1 : (21 * k + (20 - j)) / 21 = k := by omega
    have d2 : (21 * k + (20 - j)) % 21 = 20 - j := by omega
    have e3 : enF σ 9 (21 * k + (20 - j)) = if 20 - j = min (σ 7 k) 20 then σ 9 (21 * k + (20 - j)) + 1 else σ 9 (21 * k + (20 - j)) := by
      show (if (21 * k + (20 - j)) / 21 < σ 0 0 ∧ (21 * k + (20 - j)) % 21 = min (σ 7 ((21 * k + (20 - j)) / 21)) 20 then σ 9 (21 * k + (20 - j)) + 1 else σ 9 (21 * k + (20 - j))) = _
      by_cases r : 20 - j = min (σ 7 k) 20
      · rw [if_pos r, if_pos ⟨by omega, by rw [d1, d2]; exact r⟩]
      · rw [if_neg r, if_neg (fun q => r (by have q2 := q.2; rw [d1, d2] at q2; exact q2))]
    rw [e1, e2, ih (by omega), e3]
    generalize σ 9 (21 * k + (20 - j)) = x
    generalize cntU σ k j = y
    by_cases r : 20 - j = min (σ 7 k) 20
    · (rw [if_pos r, if_neg (show ¬ 21 - j ≤ min (σ 7 k) 20 by omega), if_pos (show 21 - (j + 1) ≤ min (σ 7 k) 20 by omega)]) <;> omega
    · rw [if_neg r]
      by_cases r2 : 21 - j ≤ min (σ 7 k) 20
      · (rw [if_pos r2, if_pos (show 21 - (j + 1) ≤ min (σ 7 k) 20 by omega)]) <;> omega
      · (rw [if_neg r2, if_neg (show ¬ 21 - (j + 1) ≤ min (σ 7 k) 20 by omega)]) <;> omega
theorem MR.ends (h : MR σ pf hf bf gf) (h9 : σ 0 1 ≤ 9) {pf' hf' : Nat → Nat} (hp : ∀ k, k < σ 0 0 → pf' (6 * k) = σ 3 k ∧ pf' (6 * k + 1) = σ 4 k ∧ pf' (6 * k + 2) = σ 5 k ∧ pf' (6 * k + 3) = (σ 8 k + σ 7 k) / (σ 0 1 + 1) ∧ pf' (6 * k + 4) = 0 ∧ pf' (6 * k + 5) = σ 8 k + σ 7 k) (hh : ∀ k, k < σ 0 0 → hf' (10 * k + σ 0 1) = σ 7 k ∧ ∀ d, d < σ 0 1 → hf' (10 * k + d) = hf (10 * k + d)) (hh3 : ∀ i, hf' i ≤ 512) : MR (enF σ) pf' hf' bf (va_up (va_up gf 5 (σ 0 1 + 1)) 6 0) := by
  refine ⟨fun k hk => ?_, ⟨hh3, fun k hk j hj => ?_⟩, fun b hb => absurd hb (Nat.not_lt_zero b), ⟨fun j hj => ?_, h.g3, h.g4, rfl, rfl, h.g7, h.g8, h.g9⟩, ⟨h.np, Nat.zero_le _, (by show σ 0 1 + 1 ≤ 10; omega), fun b hb => absurd hb (Nat.not_lt_zero b)⟩⟩
  · have hk2 : k < σ 0 0 := hk
    obtain ⟨e0, e1, e2, e3, e4, e5⟩ := hp k hk2
    show pf' (6 * k) = σ 3 k ∧ pf' (6 * k + 1) = σ 4 k ∧ pf' (6 * k + 2) = σ 5 k ∧ pf' (6 * k + 3) = (if k < σ 0 0 then (σ 8 k + σ 7 k) / (σ 0 1 + 1) else σ 6 k) ∧ pf' (6 * k + 4) = (if k < σ 0 0 then 0 else σ 7 k) ∧ pf' (6 * k + 5) = (if k < σ 0 0 then σ 8 k + σ 7 k else σ 8 k)
    rw [if_pos hk2, if_pos hk2, if_pos hk2]
    exact ⟨e0, e1, e2, e3, e4, e5⟩
  · have hk2 : k < σ 0 0 := hk
    obtain ⟨x1, x2⟩ := hh k hk2
    show cntU (enF σ) k (j + 1) = cE hf' k (20 - j) (σ 0 1 + 1)
    rw [cntU_en hk2 (j + 1) (by omega), h.hh hk2 j hj]
    show _ = cE hf' k (20 - j) (σ 0 1) + (if 20 - j ≤ hf' (10 * k + σ 0 1) then 1 else 0)
    rw [cE_congr (hf := hf) _ x2, x1]
    congr 1
    by_cases r : 20 - j ≤ σ 7 k
    · rw [if_pos (by omega), if_pos r]
    · rw [if_neg (by omega), if_neg r]
  · rw [va_ne (by omega), va_ne (by omega)]; exact h.g0 hj
theorem bk_le (h : MR σ pf hf bf gf) (hI : Iv n σ) {j : Nat} (hj : j < 3) : σ 2 j ≤ 190 := by
  rw [hI.bk j hj]
  have h1 := bsum_le (σ := σ) (fun b hb => (hI.bo b hb).2.2.1) j (σ 0 3) (Nat.le_refl _)
  have h2 := h.nb
  omega
theorem den_le (h : MR σ pf hf bf gf) (hI : Iv n σ) {sh : Nat} (hs : sh ≤ 100) : den σ sh 3 ≤ 570 := by
  have key : ∀ j, j < 3 → den1 σ sh j ≤ 190 := by
    intro j hj
    have h1 := bk_le h hI hj
    have h2 : σ 2 j * sh ≤ 190 * 100 := Nat.mul_le_mul h1 hs
    unfold den1
    omega
  have k0 := key 0 (by omega)
  have k1 := key 1 (by omega)
  have k2 := key 2 (by omega)
  show 0 + den1 σ sh 0 + den1 σ sh 1 + den1 σ sh 2 ≤ 570
  omega
theorem EM.ends {er : Int64} {ei : Int32} (he : EM σ er ei) (h : MR σ pf hf bf gf) (hI : Iv n σ) {sh : Nat} (hs : sh ≤ 100) : EM (enF σ) (enE σ er sh) (ei + nI (psum σ (σ 0 3)) - nI (100 * den σ sh 3)) := by
  obtain ⟨e1, e2, e3⟩ := he
  have hd := den_le h hI hs
  have hp := psum_le (σ := σ) (fun b hb => (hI.bo b hb).2.2.2.1) (σ 0 3) (Nat.le_refl _)
  have hb := h.nb
  have hy := h.dy
  have ex : ei + nI (psum σ (σ 0 3)) - nI (100 * den σ sh 3) = ei + (nI (psum σ (σ 0 3)) - nI (100 * den σ sh 3)) := by simp only [Int32.sub_eq_add_neg, Int32.add_assoc]
  have hx : (nI (psum σ (σ 0 3)) - nI (100 * den σ sh 3)).toInt = (psum σ (σ 0 3) : Int) - (100 * den σ sh 3 : Nat) := pk_sub_toInt (by omega) (by omega)
  have hy2 : (ei + (nI (psum σ (σ 0 3)) - nI (100 * den σ sh 3))).toInt = ei.toInt + ((psum σ (σ 0 3) : Int) - (100 * den σ sh 3 : Nat)) := by
    rw [Int32.toInt_add, hx]
    exact Int.bmod_eq_of_le (by omega) (by omega)
  rw [ex]
  refine ⟨?_, ?_, ?_⟩
  · unfold enE
    rw [e1, pk_mul]
    refine Int64.toInt_inj.mp ?_
    rw [Int64.toInt_add, Int32.toInt_toInt64, Int32.toInt_toInt64, Int32.toInt_toInt64, hy2, hx]
    exact Int.bmod_eq_of_le (by omega) (by omega)
  · rw [hy2]
    show -(1000000 * ((σ 0 1 + 1 : Nat) : Int)) ≤ _
    omega
  · rw [hy2]
    show _ ≤ 1000000 * ((σ 0 1 + 1 : Nat) : Int)
    omega
theorem EM_0 : EM σ0 0 0 := ⟨by decide, by decide, by decide⟩
theorem MR_0 : MR σ0 (fun _ => 0) (fun _ => 0) (fun _ => 0) (va_up (fun _ => 0) 3 100) := by
  refine ⟨fun k hk => absurd hk (Nat.not_lt_zero k), ⟨fun i => Nat.zero_le _, fun k hk => absurd hk (Nat.not_lt_zero k)⟩, fun b hb => absurd hb (Nat.not_lt_zero b), ⟨fun j hj => ?_, rfl, rfl, rfl, rfl, rfl, rfl, rfl⟩, ⟨Nat.zero_le _, Nat.zero_le _, Nat.zero_le _, fun b hb => absurd hb (Nat.not_lt_zero b)⟩⟩
  rw [va_ne (by omega)]
  rcases (show j = 0 ∨ j = 1 ∨ j = 2 by omega) with rfl | rfl | rfl <;> rfl
/-! the kinds of the law's comparisons over differences -/
theorem sb_gt0 {a b : Nat} (ha : a < 2 ^ 29) (hb : b < 2 ^ 29) : (0 : Int32) < nI a - nI b ↔ b < a := by
  rw [Int32.lt_iff_toInt_lt, pk_sub_toInt (by omega) (by omega), show (0 : Int32).toInt = 0 from by decide]
  omega
theorem sb_le {a b g : Nat} (ha : a < 2 ^ 29) (hb : b < 2 ^ 29) (hg : g < 2 ^ 29) : nI a - nI b ≤ nI g ↔ a ≤ b + g := by
  rw [Int32.le_iff_toInt_le, pk_sub_toInt (by omega) (by omega), nI_toInt (by omega)]
  omega
theorem sb_lt {a b g : Nat} (ha : a < 2 ^ 29) (hb : b < 2 ^ 29) (hg : g < 2 ^ 29) : nI a - nI b < nI g ↔ a < b + g := by
  rw [Int32.lt_iff_toInt_lt, pk_sub_toInt (by omega) (by omega), nI_toInt (by omega)]
  omega
theorem vK_congr {τ : SF} (h3 : τ 3 = σ 3) (h4 : τ 4 = σ 4) (h5 : τ 5 = σ 5) (h6 : τ 6 = σ 6) (h7 : τ 7 = σ 7) : ∀ k, vK τ k = vK σ k := by
  intro k
  induction k with
  | zero => rfl
  | succ k ih =>
    unfold vK dA
    rw [ih, h3, h4, h5, h6, h7]
theorem bidI_rf {w j : Nat} : bidI (rfF σ w) j = bidI σ j := by
  have e : ∀ x y z, wM (rfF σ w) x y z = wM σ x y z := fun x y z => by
    show vK (rfF σ w) (σ 0 0) _ _ _ = vK σ (σ 0 0) _ _ _
    rw [vK_congr (σ := σ) (τ := rfF σ w) rfl rfl rfl rfl rfl]
    rfl
  unfold bidI
  rw [e, e]
theorem bidsI_rf {w j : Nat} : ∀ m, bidsI (rfF σ w) j m = bidsI σ j m := by
  intro m
  induction m with
  | zero => rfl
  | succ m ih => unfold bidsI; rw [ih, bidI_rf]
end MTR
