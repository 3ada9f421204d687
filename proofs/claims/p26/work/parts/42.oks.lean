/-! what the law's fixed questions meet: answers that are right, and such as are thrown -/
theorem okR_i {k a b : Nat} (h1 : a ≤ k) (h2 : k ≤ b) (hb : b < 2 ^ 31) : okR (nI k) a b := ⟨nI_le h1 (by omega), nI_le h2 hb⟩
theorem okR_no {k a b : Nat} (h : b < k) (hk : k < 2 ^ 31) : ¬ okR (nI k) a b := fun q => nI_ge h hk q.2
theorem okR_lo {k a b : Nat} (h : k < a) (ha : a < 2 ^ 31) : ¬ okR (nI k) a b := fun q => nI_ge h ha q.1
theorem okR_m1 {b : Nat} : ¬ okR (-1) 0 b := fun q => absurd q.1 (by decide)
theorem okR_iff {k a b : Nat} (hk : k < 2 ^ 31) (ha : a < 2 ^ 31) (hb : b < 2 ^ 31) : okR (nI k) a b ↔ a ≤ k ∧ k ≤ b := ⟨fun q => ⟨(nI_leI ha hk).mp q.1, (nI_leI hk hb).mp q.2⟩, fun q => ⟨(nI_leI ha hk).mpr q.1, (nI_leI hk hb).mpr q.2⟩⟩
theorem isP_i {σ : SF} {k : Nat} (h : k < σ 0 0) : isP σ (nI k) := ⟨k, h, rfl⟩
theorem isP_no {σ : SF} {k : Nat} (h : σ 0 0 ≤ k) (hk : k < 2 ^ 31) : ¬ isP σ (nI k) := fun ⟨j, hj, e⟩ => by
  have := (nI_eq hk (by omega)).mp e
  omega
theorem isP_m1 {σ : SF} (h : σ 0 0 < 100) : ¬ isP σ (-1) := fun ⟨j, hj, e⟩ => by
  have h1 := nI_pos (n := j) (by omega)
  rw [← e] at h1
  exact h1 (by decide)
theorem isB_i {σ : SF} {k : Nat} (h : k < σ 0 3) : isB σ (nI k) := ⟨k, h, rfl⟩
theorem isB_no {σ : SF} {k : Nat} (h : σ 0 3 ≤ k) (hk : k < 2 ^ 31) : ¬ isB σ (nI k) := fun ⟨j, hj, e⟩ => by
  have := (nI_eq hk (by omega)).mp e
  omega
theorem okN_0 : ¬ okN (nI 0) := fun q => absurd q.2 (by decide)
theorem okN_4 : ¬ okN (-4) := fun q => absurd q.1 (by decide)
theorem m1k {k : Nat} (h : k < 3) : okN ((-1) - nI k) ∧ -((-1) - nI k) = nI (k + 1) := by
  rcases (show k = 0 ∨ k = 1 ∨ k = 2 by omega) with rfl | rfl | rfl <;> exact ⟨⟨by decide, by decide⟩, by decide⟩
theorem sb_ge {a b g : Nat} (ha : a < 2 ^ 29) (hb : b < 2 ^ 29) (hg : g < 2 ^ 29) : nI g ≤ nI a - nI b ↔ b + g ≤ a := by
  rw [Int32.le_iff_toInt_le, pk_sub_toInt (by omega) (by omega), nI_toInt (by omega)]
  omega
theorem sb_gt {a b g : Nat} (ha : a < 2 ^ 29) (hb : b < 2 ^ 29) (hg : g < 2 ^ 29) : nI g < nI a - nI b ↔ b + g < a := by
  rw [Int32.lt_iff_toInt_lt, pk_sub_toInt (by omega) (by omega), nI_toInt (by omega)]
  omega
theorem aut_le {n : Nat} {σ : SF} (hI : Iv n σ) {j : Nat} (hj : j < 3) : aut σ j ≤ 20 := by
  have h1 := hI.se j hj
  have h2 := hI.rt
  have h3 : σ 1 j * (100 - σ 0 2) ≤ 10 * 100 := Nat.mul_le_mul h1 (by omega)
  unfold aut
  omega
theorem up_end {pfv : Nat → Nat} {k i5 i3 i4 a b : Nat} (e1 : i5 = 6 * k + 5) (e2 : i3 = 6 * k + 3) (e3 : i4 = 6 * k + 4) : (∀ i, i ≠ k → ∀ j, j < 6 → (va_up (va_up (va_up pfv i5 a) i3 b) i4 0) (6 * i + j) = pfv (6 * i + j)) ∧ (va_up (va_up (va_up pfv i5 a) i3 b) i4 0) (6 * k) = pfv (6 * k) ∧ (va_up (va_up (va_up pfv i5 a) i3 b) i4 0) (6 * k + 1) = pfv (6 * k + 1) ∧ (va_up (va_up (va_up pfv i5 a) i3 b) i4 0) (6 * k + 2) = pfv (6 * k + 2) ∧ (va_up (va_up (va_up pfv i5 a) i3 b) i4 0) (6 * k + 3) = b ∧ (va_up (va_up (va_up pfv i5 a) i3 b) i4 0) (6 * k + 4) = 0 ∧ (va_up (va_up (va_up pfv i5 a) i3 b) i4 0) (6 * k + 5) = a := by
  subst e1 e2 e3
  refine ⟨fun i hi j hj => ?_, ?_, ?_, ?_, ?_, ?_, ?_⟩
  · rw [va_ne (by omega), va_ne (by omega), va_ne (by omega)]
  · rw [va_ne (by omega), va_ne (by omega), va_ne (by omega)]
  · rw [va_ne (by omega), va_ne (by omega), va_ne (by omega)]
  · rw [va_ne (by omega), va_ne (by omega), va_ne (by omega)]
  · rw [va_ne (by omega), up_at]
  · rw [up_at]
  · rw [va_ne (by omega), va_ne (by omega), up_at]
theorem m1_nat {d : Nat} (h : d < 2 ^ 31) (e : (-1 : Int32) = nI d) : False := by
  have h1 := nI_pos (n := d) h
  rw [← e] at h1
  exact h1 (by decide)
section PDS
variable {T : Type} {post : Int32 → T → Prop} {ex : String → Prop} {r : Int32} {u : Option T}
theorem pD_io (h : pD post ex r u) (hp : ∀ r t, ¬ post r t) (hx : ∀ E, ex E → E = eIO) : u = none ∧ r = -30 := by
  rcases h with ⟨t, h1, h2⟩ | ⟨E, h1, h2, h3⟩
  · exact absurd h2 (hp r t)
  · rw [hx E h2, cd_O] at h3; exact ⟨h1, h3⟩
theorem pD_ia (h : pD post ex r u) (hp : ∀ r t, ¬ post r t) (hx : ∀ E, ex E → E = eIA) : u = none ∧ r = -20 := by
  rcases h with ⟨t, h1, h2⟩ | ⟨E, h1, h2, h3⟩
  · exact absurd h2 (hp r t)
  · rw [hx E h2, cd_A] at h3; exact ⟨h1, h3⟩
theorem pD_is (h : pD post ex r u) (hp : ∀ r t, ¬ post r t) (hx : ∀ E, ex E → E = eIS) : u = none ∧ r = -10 := by
  rcases h with ⟨t, h1, h2⟩ | ⟨E, h1, h2, h3⟩
  · exact absurd h2 (hp r t)
  · rw [hx E h2, cd_S] at h3; exact ⟨h1, h3⟩
theorem pD_ok (h : pD post ex r u) (hx : ∀ E, ¬ ex E) : ∃ t, u = some t ∧ post r t := by
  rcases h with h | ⟨E, h1, h2, h3⟩
  · exact h
  · exact absurd h2 (hx E)
end PDS
