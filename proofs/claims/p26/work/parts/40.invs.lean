theorem bsum_lt {σ τ : SF} {leg : Nat} : ∀ n, (∀ b, b < n → τ 14 b = σ 14 b ∧ τ 10 b = σ 10 b ∧ τ 11 b = σ 11 b ∧ τ 12 b = σ 12 b) → bsum τ leg n = bsum σ leg n := by
  intro n
  induction n with
  | zero => intro _; rfl
  | succ n ih =>
    intro h
    obtain ⟨h1, h2, h3, h4⟩ := h n (Nat.lt_succ_self n)
    unfold bsum
    rw [ih (fun b hb => h b (by omega)), h1, h2, h3, h4]
theorem bsum_ca {σ : SF} {b leg : Nat} (hb : σ 14 b = 0) : ∀ n, bsum (caF σ b) leg n + (if b < n then (if σ 10 b ≤ leg ∧ leg ≤ σ 11 b then σ 12 b else 0) else 0) = bsum σ leg n := by
  intro n
  induction n with
  | zero => rw [if_neg (Nat.not_lt_zero b)]; rfl
  | succ n ih =>
    have e14 : caF σ b 14 n = if n = b then 1 else σ 14 n := rfl
    have e10 : caF σ b 10 n = σ 10 n := rfl
    have e11 : caF σ b 11 n = σ 11 n := rfl
    have e12 : caF σ b 12 n = σ 12 n := rfl
    unfold bsum
    rw [← ih, e14, e10, e11, e12]
    by_cases q : n = b
    · subst q
      rw [if_pos rfl, if_neg (fun h => absurd h.1 (by decide)), if_neg (Nat.lt_irrefl n), if_pos (Nat.lt_succ_self n), hb]
      by_cases q2 : σ 10 n ≤ leg ∧ leg ≤ σ 11 n
      · rw [if_pos q2, if_pos ⟨rfl, q2⟩]
      · rw [if_neg q2, if_neg (fun h => q2 h.2)]
    · rw [if_neg q]
      by_cases q2 : b < n
      · rw [if_pos (show b < n + 1 by omega), if_pos q2]
        omega
      · rw [if_neg (show ¬ b < n + 1 by omega), if_neg q2]
        omega
section INV
variable {n : Nat} {σ : SF}
theorem Iv.more (h : Iv n σ) (hn : n < 512) : Iv (n + 1) σ := h.mono (Nat.le_succ n) hn
theorem Iv.seats (h0 : Iv n σ) (hn : n < 512) {a b c : Nat} (ha : a ≤ 10) (hb : b ≤ 10) (hc : c ≤ 10) : Iv (n + 1) (seF σ a b c) := by
  have h := h0.more hn
  refine ⟨hn, h.np, h.dy, h.rt.1, h.rt.2, h.nb, fun j hj => ?_, fun j hj => ?_, h.pr, h.p0, h.tb, h.t0, h.bo, h.rf⟩
  · show va_up (va_up (va_up (σ 1) 0 a) 1 b) 2 c j ≤ 10
    have h9 := h.se j hj
    rw [up_if, up_if, up_if]
    split
    · exact hc
    · split
      · exact hb
      · split
        · exact ha
        · exact h9
  · show σ 2 j = bsum (seF σ a b c) j (σ 0 3)
    rw [bsum_congr (σ := σ) (τ := seF σ a b c) (fun _ => rfl) (fun _ => rfl) (fun _ => rfl) (fun _ => rfl)]
    exact h.bk j hj
theorem Iv.rate (h0 : Iv n σ) (hn : n < 512) {r : Nat} (h1 : 50 ≤ r) (h2 : r ≤ 100) : Iv (n + 1) (raF σ r) := by
  have h := h0.more hn
  refine ⟨hn, h.np, h.dy, h1, h2, h.nb, h.se, fun j hj => ?_, h.pr, h.p0, h.tb, h.t0, h.bo, h.rf⟩
  show σ 2 j = bsum (raF σ r) j (σ 0 3)
  rw [bsum_congr (σ := σ) (τ := raF σ r) (fun _ => rfl) (fun _ => rfl) (fun _ => rfl) (fun _ => rfl)]
  exact h.bk j hj
theorem Iv.exps (h0 : Iv n σ) (hn : n < 512) {k x : Nat} (hk : k < σ 0 0) (hx : x ≤ 20) : Iv (n + 1) (exF σ k x) := by
  have h := h0.more hn
  refine ⟨hn, h.np, h.dy, h.rt.1, h.rt.2, h.nb, h.se, fun j hj => ?_, fun i hi => ?_, fun i hi => ?_, h.tb, h.t0, h.bo, h.rf⟩
  · show σ 2 j = bsum (exF σ k x) j (σ 0 3)
    rw [bsum_congr (σ := σ) (τ := exF σ k x) (fun _ => rfl) (fun _ => rfl) (fun _ => rfl) (fun _ => rfl)]
    exact h.bk j hj
  · have h1 := h.pr i hi
    refine ⟨h1.1, h1.2.1, h1.2.2.1, h1.2.2.2.1, ?_, h1.2.2.2.2.2⟩
    show va_up (σ 6) k x i ≤ 512
    rw [up_if]
    split
    · omega
    · exact h1.2.2.2.2.1
  · have h1 := h.p0 i hi
    refine ⟨?_, h1.2⟩
    show va_up (σ 6) k x i = 0
    have hi2 : σ 0 0 ≤ i := hi
    rw [up_if, if_neg (by omega)]
    exact h1.1
theorem Iv.rfs (h : Iv n σ) {w : Nat} (h15 : ∀ j, σ 15 j < n) : Iv n (rfF σ w) := by
  refine ⟨h.nn, h.np, h.dy, h.rt.1, h.rt.2, h.nb, h.se, fun j hj => ?_, h.pr, h.p0, h.tb, h.t0, h.bo, fun j => ?_⟩
  · show σ 2 j = bsum (rfF σ w) j (σ 0 3)
    rw [bsum_congr (σ := σ) (τ := rfF σ w) (fun _ => rfl) (fun _ => rfl) (fun _ => rfl) (fun _ => rfl)]
    exact h.bk j hj
  · show va_up (σ 15) w (σ 15 w + 1) j ≤ n
    have h1 := h15 j
    have h2 := h15 w
    rw [up_if]
    split <;> omega
theorem Iv.adds (h0 : Iv n σ) (hn : n < 512) {f t c : Nat} (h8 : σ 0 0 < 8) (hf : f ≤ t) (ht : t ≤ 2) (hc : 1 ≤ c) (hc2 : c ≤ 1000) : Iv (n + 1) (adF σ f t c) := by
  have h := h0.more hn
  refine ⟨hn, ?_, h.dy, h.rt.1, h.rt.2, h.nb, h.se, fun j hj => ?_, fun i hi => ?_, fun i hi => ?_, fun j => ?_, fun j hj => ?_, h.bo, h.rf⟩
  · show σ 0 0 + 1 ≤ 8
    omega
  · show σ 2 j = bsum (adF σ f t c) j (σ 0 3)
    rw [bsum_congr (σ := σ) (τ := adF σ f t c) (fun _ => rfl) (fun _ => rfl) (fun _ => rfl) (fun _ => rfl)]
    exact h.bk j hj
  · have hi2 : i < σ 0 0 + 1 := hi
    show va_up (σ 3) (σ 0 0) f i ≤ va_up (σ 4) (σ 0 0) t i ∧ va_up (σ 4) (σ 0 0) t i ≤ 2 ∧ 1 ≤ va_up (σ 5) (σ 0 0) c i ∧ va_up (σ 5) (σ 0 0) c i ≤ 1000 ∧ σ 6 i ≤ 512 ∧ σ 8 i + σ 7 i ≤ n + 1
    have hA := h.pA i
    rw [up_if, up_if, up_if]
    by_cases q : i = σ 0 0
    · rw [if_pos q, if_pos q, if_pos q]
      exact ⟨hf, ht, hc, hc2, hA.1, hA.2.2.2⟩
    · rw [if_neg q, if_neg q, if_neg q]
      exact h.pr i (by omega)
  · have hi2 : σ 0 0 + 1 ≤ i := hi
    exact h.p0 i (by omega)
  · show va_up (σ 9) (21 * σ 0 0) (σ 0 1) j ≤ σ 0 1
    rw [up_if]
    split
    · exact Nat.le_refl _
    · exact h.tb j
  · have hj2 : 21 * (σ 0 0 + 1) ≤ j := hj
    show va_up (σ 9) (21 * σ 0 0) (σ 0 1) j = 0
    rw [up_if, if_neg (by omega)]
    exact h.t0 j (by omega)
theorem Iv.boks (h : Iv n σ) {f t q c : Nat} (hB : σ 0 3 < 60) (hf : f ≤ t) (ht : t ≤ 2) (hq : q ≤ 10) (hc : c ≤ 30000) : Iv n (bookF σ f t q c) := by
  refine ⟨h.nn, h.np, h.dy, h.rt.1, h.rt.2, ?_, h.se, fun j hj => ?_, h.pr, h.p0, h.tb, h.t0, fun b hb => ?_, h.rf⟩
  · show σ 0 3 + 1 ≤ 60
    omega
  · show σ 2 j + (if f ≤ j ∧ j ≤ t then q else 0) = bsum (bookF σ f t q c) j (σ 0 3 + 1)
    have e1 : bsum (bookF σ f t q c) j (σ 0 3) = bsum σ j (σ 0 3) := bsum_lt _ (fun b hb => by
      refine ⟨?_, ?_, ?_, ?_⟩
      · show va_up (σ 14) (σ 0 3) 0 b = σ 14 b
        rw [up_if, if_neg (by omega)]
      · show va_up (σ 10) (σ 0 3) f b = σ 10 b
        rw [up_if, if_neg (by omega)]
      · show va_up (σ 11) (σ 0 3) t b = σ 11 b
        rw [up_if, if_neg (by omega)]
      · show va_up (σ 12) (σ 0 3) q b = σ 12 b
        rw [up_if, if_neg (by omega)])
    unfold bsum
    rw [e1, ← h.bk j hj, show bookF σ f t q c 14 (σ 0 3) = 0 from up_at, show bookF σ f t q c 10 (σ 0 3) = f from up_at, show bookF σ f t q c 11 (σ 0 3) = t from up_at, show bookF σ f t q c 12 (σ 0 3) = q from up_at]
    by_cases q2 : f ≤ j ∧ j ≤ t
    · rw [if_pos q2, if_pos ⟨rfl, q2⟩]
    · rw [if_neg q2, if_neg (fun h => q2 h.2)]
  · have hb2 : b < σ 0 3 + 1 := hb
    show va_up (σ 10) (σ 0 3) f b ≤ va_up (σ 11) (σ 0 3) t b ∧ va_up (σ 11) (σ 0 3) t b ≤ 2 ∧ va_up (σ 12) (σ 0 3) q b ≤ 10 ∧ va_up (σ 13) (σ 0 3) c b ≤ 30000 ∧ va_up (σ 14) (σ 0 3) 0 b ≤ 1
    rw [up_if, up_if, up_if, up_if, up_if]
    by_cases q2 : b = σ 0 3
    · rw [if_pos q2, if_pos q2, if_pos q2, if_pos q2, if_pos q2]
      exact ⟨hf, ht, hq, hc, by omega⟩
    · rw [if_neg q2, if_neg q2, if_neg q2, if_neg q2, if_neg q2]
      exact h.bo b (by omega)
theorem Iv.cans (h0 : Iv n σ) (hn : n < 512) {b : Nat} (hb : b < σ 0 3) (h14 : σ 14 b = 0) : Iv (n + 1) (caF σ b) := by
  have h := h0.more hn
  refine ⟨hn, h.np, h.dy, h.rt.1, h.rt.2, h.nb, h.se, fun j hj => ?_, h.pr, h.p0, h.tb, h.t0, fun i hi => ?_, h.rf⟩
  · show σ 2 j - (if σ 10 b ≤ j ∧ j ≤ σ 11 b then σ 12 b else 0) = bsum (caF σ b) j (σ 0 3)
    have h1 := bsum_ca (leg := j) h14 (σ 0 3)
    rw [if_pos hb] at h1
    rw [h.bk j hj]
    omega
  · have h1 := h.bo i hi
    refine ⟨h1.1, h1.2.1, h1.2.2.1, h1.2.2.2.1, ?_⟩
    show va_up (σ 14) b 1 i ≤ 1
    rw [up_if]
    split
    · omega
    · exact h1.2.2.2.2
theorem Iv.ends (h0 : Iv n σ) (hn : n < 512) : Iv (n + 1) (enF σ) := by
  have h := h0.more hn
  have hdy0 := h0.dy
  refine ⟨hn, h.np, ?_, h.rt.1, h.rt.2, Nat.zero_le _, h.se, fun j hj => ?_, fun k hk => ?_, fun k hk => ?_, fun j => ?_, fun j hj => ?_, fun b hb => absurd hb (Nat.not_lt_zero b), h.rf⟩
  · show σ 0 1 + 1 ≤ n + 1
    omega
  · show (if j < 3 then 0 else σ 2 j) = 0
    rw [if_pos hj]
  · have hk2 : k < σ 0 0 := hk
    have h1 := h.pr k hk2
    have hd : (σ 8 k + σ 7 k) / (σ 0 1 + 1) ≤ σ 8 k + σ 7 k := Nat.div_le_self _ _
    refine ⟨h1.1, h1.2.1, h1.2.2.1, h1.2.2.2.1, ?_, ?_⟩
    · show (if k < σ 0 0 then (σ 8 k + σ 7 k) / (σ 0 1 + 1) else σ 6 k) ≤ 512
      rw [if_pos hk2]
      omega
    · show (if k < σ 0 0 then σ 8 k + σ 7 k else σ 8 k) + (if k < σ 0 0 then 0 else σ 7 k) ≤ n + 1
      rw [if_pos hk2, if_pos hk2]
      omega
  · have hk2 : ¬ k < σ 0 0 := Nat.not_lt.mpr hk
    have h1 := h.p0 k hk
    show (if k < σ 0 0 then (σ 8 k + σ 7 k) / (σ 0 1 + 1) else σ 6 k) = 0 ∧ (if k < σ 0 0 then 0 else σ 7 k) = 0 ∧ (if k < σ 0 0 then σ 8 k + σ 7 k else σ 8 k) = 0
    rw [if_neg hk2, if_neg hk2, if_neg hk2]
    exact h1
  · show (if j / 21 < σ 0 0 ∧ j % 21 = min (σ 7 (j / 21)) 20 then σ 9 j + 1 else σ 9 j) ≤ σ 0 1 + 1
    have h1 := h.tb j
    split <;> omega
  · have hj2 : 21 * σ 0 0 ≤ j := hj
    show (if j / 21 < σ 0 0 ∧ j % 21 = min (σ 7 (j / 21)) 20 then σ 9 j + 1 else σ 9 j) = 0
    rw [if_neg (fun q => by have := q.1; omega)]
    exact h.t0 j hj2
end INV
theorem Iv_0 : Iv 0 σ0 := by
  refine ⟨Nat.zero_le _, Nat.zero_le _, Nat.le_refl _, (by decide : (50 : Nat) ≤ 100), Nat.le_refl 100, Nat.zero_le _, fun _ _ => Nat.zero_le _, fun _ _ => rfl, fun k hk => absurd hk (Nat.not_lt_zero k), fun k _ => ⟨rfl, rfl, rfl⟩, fun j => Nat.le_refl _, fun j _ => rfl, fun b hb => absurd hb (Nat.not_lt_zero b), fun j => Nat.le_refl _⟩
section OBD
variable {ad ad2 : Nat → Nat → Nat} {σ τ : SF} {ofd de bo : Nat → Option Nat} {dl : List Nat}
theorem OF.c (h : OF ad σ ofd) (h1 : ad2 1 = ad 1) (h0 : τ 0 0 = σ 0 0) : OF ad2 τ ofd := fun k => by rw [h k, h0, h1]
theorem OF.adp (h : OF ad σ ofd) {q tb f t c : Nat} : OF (adP ad (σ 0 0) q tb) (adF σ f t c) (va_up ofd (σ 0 0) (some q)) := fun k => by
  show va_up ofd (σ 0 0) (some q) k = if k < σ 0 0 + 1 then some (va_up (ad 1) (σ 0 0) q k) else none
  rw [up_ifo, up_if, h k]
  by_cases q2 : k = σ 0 0
  · rw [if_pos q2, if_pos (by omega), if_pos q2]
  · rw [if_neg q2, if_neg q2]
    by_cases q3 : k < σ 0 0
    · rw [if_pos q3, if_pos (by omega)]
    · rw [if_neg q3, if_neg (by omega)]
theorem BO.c (h : BO ad σ bo) (h1 : ad2 3 = ad 3) (h0 : τ 0 3 ≤ σ 0 3) : BO ad2 τ bo := fun b hb => by rw [h b (by omega), h1]
theorem DL.c (h : DL ad σ de dl) (h1 : ad2 1 = ad 1) (h0 : τ 0 0 = σ 0 0) (h5 : τ 5 = σ 5) : DL ad2 τ de dl := ⟨by rw [h1]; exact h.1, by rw [h0]; exact h.2.1, by rw [h5]; exact h.2.2⟩
end OBD
theorem OF_0 {ad : Nat → Nat → Nat} : OF ad σ0 (fun _ => none) := fun k => by show none = if k < 0 then _ else none; rw [if_neg (Nat.not_lt_zero k)]
theorem BO_0 {ad : Nat → Nat → Nat} : BO ad σ0 (fun _ => none) := fun b hb => absurd hb (Nat.not_lt_zero b)
theorem DL_0 {ad : Nat → Nat → Nat} : DL ad σ0 (fun _ => none) [] := ⟨fun i => rfl, List.Perm.refl _, List.Pairwise.nil⟩
theorem QZ_0 : QZ (fun _ _ => 0) := fun _ _ => rfl
