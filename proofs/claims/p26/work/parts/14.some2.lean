/-! rows that the class's parts lean on, out of the work at the whole claim -/
theorem Iv.ask {n : Nat} {σ : SF} (h : Iv n σ) (hn : n < 512) {k : Nat} (hk : k < σ 0 0) : Iv (n + 1) (asF σ k) := by
  have h0 := h.mono (Nat.le_succ n) hn
  refine ⟨hn, h0.np, h0.dy, h0.rt.1, h0.rt.2, h0.nb, h0.se, fun j hj => ?_, fun i hi => ?_, fun i hi => ?_, h0.tb, h0.t0, h0.bo, h0.rf⟩
  · show σ 2 j = bsum (asF σ k) j (σ 0 3)
    rw [bsum_congr (σ := σ) (τ := asF σ k) (fun _ => rfl) (fun _ => rfl) (fun _ => rfl) (fun _ => rfl)]
    exact h.bk j hj
  · have h1 := h.pr i hi
    refine ⟨h1.1, h1.2.1, h1.2.2.1, h1.2.2.2.1, h1.2.2.2.2.1, ?_⟩
    show σ 8 i + va_up (σ 7) k (σ 7 k + 1) i ≤ n + 1
    rw [up_if]
    split
    · rename_i q; subst q; omega
    · omega
  · have h1 := h.p0 i hi
    refine ⟨h1.1, ?_, h1.2.2⟩
    show va_up (σ 7) k (σ 7 k + 1) i = 0
    have hi2 : σ 0 0 ≤ i := hi
    rw [up_if, if_neg (by omega)]
    exact h1.2.1
