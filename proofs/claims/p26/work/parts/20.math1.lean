/-! the worth, found by numbers of passengers of each kind: tables with passengers added commute; a kind's passengers, the dearest first, are the best prefix -/
abbrev TB : Type := Nat → Nat → Nat → Nat
theorem vAdd_comm (T : TB) (a1 b1 c1 f1 a2 b2 c2 f2 : Nat) : vAdd (vAdd T a1 b1 c1 f1) a2 b2 c2 f2 = vAdd (vAdd T a2 b2 c2 f2) a1 b1 c1 f1 := by
  funext a b c
  unfold vAdd
  rw [Nat.sub_right_comm a a2 a1, Nat.sub_right_comm b b2 b1, Nat.sub_right_comm c c2 c1]
  generalize T (a - a1 - a2) (b - b1 - b2) (c - c1 - c2) = w
  generalize T (a - a1) (b - b1) (c - c1) = u
  generalize T (a - a2) (b - b2) (c - c2) = v
  generalize T a b c = t
  by_cases h1 : a1 ≤ a ∧ b1 ≤ b ∧ c1 ≤ c
  · by_cases h2 : a2 ≤ a ∧ b2 ≤ b ∧ c2 ≤ c
    · rw [if_pos h1, if_pos h2, if_pos h2, if_pos h1]
      by_cases h3 : a1 ≤ a - a2 ∧ b1 ≤ b - b2 ∧ c1 ≤ c - c2
      · rw [if_pos h3, if_pos (show a2 ≤ a - a1 ∧ b2 ≤ b - b1 ∧ c2 ≤ c - c1 by omega)]; omega
      · rw [if_neg h3, if_neg (show ¬ (a2 ≤ a - a1 ∧ b2 ≤ b - b1 ∧ c2 ≤ c - c1) by omega)]; omega
    · rw [if_pos h1, if_neg h2, if_neg h2, if_pos h1, if_neg (show ¬ (a2 ≤ a - a1 ∧ b2 ≤ b - b1 ∧ c2 ≤ c - c1) by omega)]; omega
  · by_cases h2 : a2 ≤ a ∧ b2 ≤ b ∧ c2 ≤ c
    · rw [if_neg h1, if_pos h2, if_pos h2, if_neg h1, if_neg (show ¬ (a1 ≤ a - a2 ∧ b1 ≤ b - b2 ∧ c1 ≤ c - c2) by omega)]; omega
    · rw [if_neg h1, if_neg h2, if_neg h2, if_neg h1]
/-- a list of fares over the same legs -/
def gL (T : TB) (da db dc : Nat) : List Nat → TB
  | [] => T
  | f :: F => gL (vAdd T da db dc f) da db dc F
theorem gL_add (da db dc a2 b2 c2 f2 : Nat) : ∀ (F : List Nat) (T : TB), gL (vAdd T a2 b2 c2 f2) da db dc F = vAdd (gL T da db dc F) a2 b2 c2 f2 := by
  intro F
  induction F with
  | nil => intro T; rfl
  | cons f F ih => intro T; show gL (vAdd (vAdd T a2 b2 c2 f2) da db dc f) da db dc F = _; rw [vAdd_comm, ih]; rfl
theorem gL_rep (da db dc a2 b2 c2 f2 : Nat) (F : List Nat) (T : TB) : ∀ m, gL (vRep T a2 b2 c2 f2 m) da db dc F = vRep (gL T da db dc F) a2 b2 c2 f2 m := by
  intro m
  induction m with
  | zero => rfl
  | succ m ih => show gL (vAdd (vRep T a2 b2 c2 f2 m) a2 b2 c2 f2) da db dc F = vAdd (vRep (gL T da db dc F) a2 b2 c2 f2 m) a2 b2 c2 f2; rw [gL_add, ih]
theorem gL_app (da db dc : Nat) : ∀ (F G : List Nat) (T : TB), gL T da db dc (F ++ G) = gL (gL T da db dc F) da db dc G := by
  intro F
  induction F with
  | nil => intro G T; rfl
  | cons f F ih => intro G T; exact ih G _
theorem vRep_add (a1 b1 c1 f1 a2 b2 c2 f2 : Nat) (T : TB) : ∀ m, vRep (vAdd T a2 b2 c2 f2) a1 b1 c1 f1 m = vAdd (vRep T a1 b1 c1 f1 m) a2 b2 c2 f2 := by
  intro m
  induction m with
  | zero => rfl
  | succ m ih => show vAdd (vRep (vAdd T a2 b2 c2 f2) a1 b1 c1 f1 m) a1 b1 c1 f1 = vAdd (vAdd (vRep T a1 b1 c1 f1 m) a1 b1 c1 f1) a2 b2 c2 f2; rw [ih, vAdd_comm]
theorem vRep_comm (a1 b1 c1 f1 a2 b2 c2 f2 m1 : Nat) (T : TB) : ∀ m, vRep (vRep T a2 b2 c2 f2 m) a1 b1 c1 f1 m1 = vRep (vRep T a1 b1 c1 f1 m1) a2 b2 c2 f2 m := by
  intro m
  induction m with
  | zero => rfl
  | succ m ih => show vRep (vAdd (vRep T a2 b2 c2 f2 m) a2 b2 c2 f2) a1 b1 c1 f1 m1 = vAdd (vRep (vRep T a1 b1 c1 f1 m1) a2 b2 c2 f2 m) a2 b2 c2 f2; rw [vRep_add, ih]
theorem gL_same (da db dc f : Nat) (T : TB) : ∀ m, gL T da db dc (List.replicate m f) = vRep T da db dc f m := by
  intro m
  induction m with
  | zero => rfl
  | succ m ih => show gL (vAdd T da db dc f) da db dc (List.replicate m f) = vAdd (vRep T da db dc f m) da db dc f; rw [gL_add, ih]
/-- the first n fares, added up -/
def sF (F : List Nat) (n : Nat) : Nat := (F.take n).sum
theorem sF_0 (F : List Nat) : sF F 0 = 0 := by unfold sF; simp
theorem sF_app_le (F G : List Nat) {n : Nat} (h : n ≤ F.length) : sF (F ++ G) n = sF F n := by unfold sF; rw [List.take_append_of_le_length h]
theorem sF_last (F : List Nat) (f : Nat) : sF (F ++ [f]) (F.length + 1) = sF F F.length + f := by
  unfold sF
  rw [List.take_of_length_le (by simp), List.take_of_length_le (Nat.le_refl _)]
  simp
theorem sF_succ (F : List Nat) {n : Nat} (h : n < F.length) : sF F (n + 1) = sF F n + F[n] := by
  unfold sF
  rw [List.take_succ_eq_append_getElem h, List.sum_append]
  simp
theorem sF_mono (F : List Nat) {n m : Nat} (h : n ≤ m) : sF F n ≤ sF F m := by
  induction m with
  | zero => rw [show n = 0 by omega]; exact Nat.le_refl _
  | succ m ih =>
    rcases Nat.lt_or_eq_of_le h with q | q
    · refine Nat.le_trans (ih (by omega)) ?_
      rcases Nat.lt_or_ge m F.length with r | r
      · rw [sF_succ F r]; omega
      · unfold sF; rw [List.take_of_length_le r, List.take_of_length_le (by omega)]; exact Nat.le_refl _
    · subst q; exact Nat.le_refl _
theorem sF_len (F : List Nat) (n : Nat) : sF F n = sF F (min n F.length) := by
  rcases Nat.le_total n F.length with q | q
  · rw [Nat.min_eq_left q]
  · rw [Nat.min_eq_right q]; unfold sF; rw [List.take_of_length_le q, List.take_of_length_le (Nat.le_refl _)]
/-- the best number up to n of passengers of one kind -/
def gm (T : TB) (da db dc : Nat) (S : Nat → Nat) (a b c : Nat) : Nat → Nat
  | 0 => T a b c
  | n + 1 => max (gm T da db dc S a b c n) (if (n + 1) * da ≤ a ∧ (n + 1) * db ≤ b ∧ (n + 1) * dc ≤ c then T (a - (n + 1) * da) (b - (n + 1) * db) (c - (n + 1) * dc) + S (n + 1) else 0)
theorem gm_mono {T : TB} {da db dc : Nat} {S : Nat → Nat} {a b c n m : Nat} (h : n ≤ m) : gm T da db dc S a b c n ≤ gm T da db dc S a b c m := by
  induction m with
  | zero => rw [show n = 0 by omega]; exact Nat.le_refl _
  | succ m ih =>
    rcases Nat.lt_or_eq_of_le h with q | q
    · exact Nat.le_trans (ih (by omega)) (Nat.le_max_left _ _)
    · subst q; exact Nat.le_refl _
theorem gm_at {T : TB} {da db dc : Nat} {S : Nat → Nat} {a b c : Nat} (hS : S 0 = 0) {n m : Nat} (h : n ≤ m) (h1 : n * da ≤ a) (h2 : n * db ≤ b) (h3 : n * dc ≤ c) : T (a - n * da) (b - n * db) (c - n * dc) + S n ≤ gm T da db dc S a b c m := by
  refine Nat.le_trans ?_ (gm_mono h)
  cases n with
  | zero => rw [hS]; simp [gm]
  | succ n => unfold gm; rw [if_pos ⟨h1, h2, h3⟩]; exact Nat.le_max_right _ _
theorem gm_congr {T : TB} {da db dc : Nat} {S S' : Nat → Nat} {a b c : Nat} {n : Nat} (h : ∀ j, j ≤ n → S j = S' j) : gm T da db dc S a b c n = gm T da db dc S' a b c n := by
  induction n with
  | zero => rfl
  | succ n ih => unfold gm; rw [ih (fun j hj => h j (by omega)), h (n + 1) (Nat.le_refl _)]
theorem gm_step {T : TB} {da db dc : Nat} {S : Nat → Nat} {a b c N f : Nat} (hS : S 0 = 0) (h1 : da ≤ a) (h2 : db ≤ b) (h3 : dc ≤ c) (hs : ∀ n, n < N → S n + f ≤ S (n + 1)) : ∀ n, n ≤ N → gm T da db dc S (a - da) (b - db) (c - dc) n + f ≤ max (gm T da db dc S a b c N) (if (N + 1) * da ≤ a ∧ (N + 1) * db ≤ b ∧ (N + 1) * dc ≤ c then T (a - (N + 1) * da) (b - (N + 1) * db) (c - (N + 1) * dc) + (S N + f) else 0) := by
  have key : ∀ n, n ≤ N → (n * da ≤ a - da) → (n * db ≤ b - db) → (n * dc ≤ c - dc) → T (a - da - n * da) (b - db - n * db) (c - dc - n * dc) + S n + f ≤ max (gm T da db dc S a b c N) (if (N + 1) * da ≤ a ∧ (N + 1) * db ≤ b ∧ (N + 1) * dc ≤ c then T (a - (N + 1) * da) (b - (N + 1) * db) (c - (N + 1) * dc) + (S N + f) else 0) := by
    intro n hn g1 g2 g3
    have e1 : (n + 1) * da = da + n * da := by rw [Nat.succ_mul, Nat.add_comm]
    have e2 : (n + 1) * db = db + n * db := by rw [Nat.succ_mul, Nat.add_comm]
    have e3 : (n + 1) * dc = dc + n * dc := by rw [Nat.succ_mul, Nat.add_comm]
    have k1 : (n + 1) * da ≤ a := by rw [e1]; omega
    have k2 : (n + 1) * db ≤ b := by rw [e2]; omega
    have k3 : (n + 1) * dc ≤ c := by rw [e3]; omega
    rw [Nat.sub_sub, Nat.sub_sub, Nat.sub_sub, ← e1, ← e2, ← e3]
    rcases Nat.lt_or_eq_of_le hn with q | q
    · have h5 := gm_at (T := T) (a := a) (b := b) (c := c) hS (show n + 1 ≤ N by omega) k1 k2 k3
      have h6 := hs n q
      refine Nat.le_trans ?_ (Nat.le_max_left _ _)
      omega
    · subst q
      rw [if_pos ⟨k1, k2, k3⟩]
      refine Nat.le_trans ?_ (Nat.le_max_right _ _)
      omega
  intro n
  induction n with
  | zero =>
    intro h
    have := key 0 h (by simp) (by simp) (by simp)
    simp only [Nat.zero_mul, Nat.sub_zero, hS, Nat.add_zero] at this
    exact this
  | succ n ih =>
    intro h
    have h5 := ih (by omega)
    conv => lhs; unfold gm
    by_cases q : (n + 1) * da ≤ a - da ∧ (n + 1) * db ≤ b - db ∧ (n + 1) * dc ≤ c - dc
    · rw [if_pos q]
      have h6 := key (n + 1) h q.1 q.2.1 q.2.2
      omega
    · rw [if_neg q]
      omega
/-- all of one kind, the dearest first -/
theorem gL_gm {T : TB} {da db dc : Nat} : ∀ (k : Nat) (F : List Nat), F.length = k → F.Pairwise (fun x y => y ≤ x) → ∀ a b c, gL T da db dc F a b c = gm T da db dc (sF F) a b c F.length := by
  intro k
  induction k with
  | zero => intro F hF _ a b c; rw [List.length_eq_zero_iff.mp hF]; rfl
  | succ k ih =>
    intro F hF hp a b c
    obtain ⟨G, f, rfl⟩ : ∃ G f, F = G ++ [f] := by
      rcases List.eq_nil_or_concat F with h | ⟨G, f, h⟩
      · subst h; simp at hF
      · exact ⟨G, f, by simpa using h⟩
    have hG : G.length = k := by simpa using hF
    rw [List.pairwise_append] at hp
    have hlast : ∀ n (h : n < G.length), f ≤ G[n] := fun n h => hp.2.2 _ (List.getElem_mem h) f (by simp)
    rw [gL_app]
    show vAdd (gL T da db dc G) da db dc f a b c = _
    unfold vAdd
    rw [ih G hG hp.1 a b c, ih G hG hp.1, List.length_append]
    show _ = gm T da db dc (sF (G ++ [f])) a b c (G.length + 1)
    conv => rhs; unfold gm
    rw [gm_congr (S := sF (G ++ [f])) (S' := sF G) (fun j hj => sF_app_le G [f] hj), sF_last]
    have hs : ∀ n, n < G.length → sF G n + f ≤ sF G (n + 1) := fun n h => by rw [sF_succ G h]; have := hlast n h; omega
    have e1 : (G.length + 1) * da = G.length * da + da := Nat.succ_mul _ _
    have e2 : (G.length + 1) * db = G.length * db + db := Nat.succ_mul _ _
    have e3 : (G.length + 1) * dc = G.length * dc + dc := Nat.succ_mul _ _
    by_cases q : da ≤ a ∧ db ≤ b ∧ dc ≤ c
    · rw [if_pos q]
      have h5 := gm_step (T := T) (S := sF G) (f := f) (sF_0 G) q.1 q.2.1 q.2.2 hs G.length (Nat.le_refl _)
      have h7 : (if (G.length + 1) * da ≤ a ∧ (G.length + 1) * db ≤ b ∧ (G.length + 1) * dc ≤ c then T (a - (G.length + 1) * da) (b - (G.length + 1) * db) (c - (G.length + 1) * dc) + (sF G G.length + f) else 0) ≤ gm T da db dc (sF G) (a - da) (b - db) (c - dc) G.length + f := by
        split
        · rename_i r
          have h6 := gm_at (T := T) (a := a - da) (b := b - db) (c := c - dc) (sF_0 G) (Nat.le_refl G.length) (da := da) (db := db) (dc := dc) (by rw [e1] at r; omega) (by rw [e2] at r; omega) (by rw [e3] at r; omega)
          rw [Nat.sub_sub, Nat.sub_sub, Nat.sub_sub, Nat.add_comm da, Nat.add_comm db, Nat.add_comm dc, ← e1, ← e2, ← e3] at h6
          omega
        · exact Nat.zero_le _
      omega
    · rw [if_neg q, if_neg]
      rintro ⟨r1, r2, r3⟩
      rw [e1] at r1; rw [e2] at r2; rw [e3] at r3
      exact q ⟨by omega, by omega, by omega⟩
/-- the greatest of P 0 .. P n -/
def mxC (P : Nat → Nat) : Nat → Nat
  | 0 => P 0
  | n + 1 => max (mxC P n) (P (n + 1))
theorem mxC_congr {P P' : Nat → Nat} : ∀ {n : Nat}, (∀ j, j ≤ n → P j = P' j) → mxC P n = mxC P' n := by
  intro n
  induction n with
  | zero => intro h; exact h 0 (Nat.le_refl _)
  | succ n ih => intro h; unfold mxC; rw [ih (fun j hj => h j (by omega)), h (n + 1) (Nat.le_refl _)]
theorem mxC_le {P : Nat → Nat} {B : Nat} : ∀ {n : Nat}, (∀ j, j ≤ n → P j ≤ B) → mxC P n ≤ B := by
  intro n
  induction n with
  | zero => intro h; exact h 0 (Nat.le_refl _)
  | succ n ih => intro h; unfold mxC; have h1 := ih (fun j hj => h j (by omega)); have h2 := h (n + 1) (Nat.le_refl _); omega
theorem mxC_top {P : Nat → Nat} : ∀ {n : Nat}, (∀ j, j < n → P j ≤ P (j + 1)) → mxC P n = P n := by
  intro n
  induction n with
  | zero => intro h; rfl
  | succ n ih => intro h; unfold mxC; rw [ih (fun j hj => h j (by omega))]; have h2 := h n (Nat.lt_succ_self _); omega
theorem gm_mxC {T : TB} {da db dc : Nat} {S : Nat → Nat} {a b c K : Nat} (hS : S 0 = 0) (hin : ∀ n, n ≤ K → n * da ≤ a ∧ n * db ≤ b ∧ n * dc ≤ c) (hout : ¬ ((K + 1) * da ≤ a ∧ (K + 1) * db ≤ b ∧ (K + 1) * dc ≤ c)) : ∀ N, gm T da db dc S a b c N = mxC (fun n => T (a - n * da) (b - n * db) (c - n * dc) + S n) (min N K) := by
  intro N
  induction N with
  | zero => rw [Nat.zero_min]; simp [gm, mxC, hS]
  | succ N ih =>
    unfold gm
    rw [ih]
    rcases Nat.lt_or_ge N K with q | q
    · rw [if_pos (hin (N + 1) (by omega)), Nat.min_eq_left (by omega), Nat.min_eq_left (by omega)]
      rfl
    · rw [if_neg, Nat.min_eq_right (by omega), Nat.min_eq_right (by omega), Nat.max_eq_left (Nat.zero_le _)]
      rintro ⟨r1, r2, r3⟩
      have w1 : (K + 1) * da ≤ (N + 1) * da := Nat.mul_le_mul_right _ (by omega)
      have w2 : (K + 1) * db ≤ (N + 1) * db := Nat.mul_le_mul_right _ (by omega)
      have w3 : (K + 1) * dc ≤ (N + 1) * dc := Nat.mul_le_mul_right _ (by omega)
      exact hout ⟨by omega, by omega, by omega⟩
/-- the four shapes that are needed -/
theorem gL_001 {T : TB} {F : List Nat} (hp : F.Pairwise (fun x y => y ≤ x)) (hT : ∀ a b c, T a b c = T a b 0) (a b c : Nat) : gL T 0 0 1 F a b c = T a b 0 + sF F c := by
  rw [gL_gm _ F rfl hp, gm_mxC (K := c) (sF_0 F) (fun n h => by omega) (by omega), mxC_top]
  · rw [hT, ← Nat.min_comm, ← sF_len]; simp
  · intro j _; rw [hT, hT (a - (j + 1) * 0)]; simp only [Nat.mul_zero, Nat.sub_zero]; have := sF_mono F (show j ≤ j + 1 by omega); omega
theorem gL_010 {T : TB} {F : List Nat} (hp : F.Pairwise (fun x y => y ≤ x)) (hT : ∀ a b c, T a b c = T a 0 c) (a b c : Nat) : gL T 0 1 0 F a b c = T a 0 c + sF F b := by
  rw [gL_gm _ F rfl hp, gm_mxC (K := b) (sF_0 F) (fun n h => by omega) (by omega), mxC_top]
  · rw [hT, ← Nat.min_comm, ← sF_len]; simp
  · intro j _; rw [hT, hT (a - (j + 1) * 0)]; simp only [Nat.mul_zero, Nat.sub_zero]; have := sF_mono F (show j ≤ j + 1 by omega); omega
theorem gL_100 {T : TB} {F : List Nat} (hp : F.Pairwise (fun x y => y ≤ x)) (hT : ∀ a b c, T a b c = T 0 b c) (a b c : Nat) : gL T 1 0 0 F a b c = T 0 b c + sF F a := by
  rw [gL_gm _ F rfl hp, gm_mxC (K := a) (sF_0 F) (fun n h => by omega) (by omega), mxC_top]
  · rw [hT, ← Nat.min_comm, ← sF_len]; simp
  · intro j _; rw [hT, hT (a - (j + 1) * 1)]; simp only [Nat.mul_zero, Nat.sub_zero]; have := sF_mono F (show j ≤ j + 1 by omega); omega
theorem gL_011 {T : TB} {F : List Nat} (hp : F.Pairwise (fun x y => y ≤ x)) (a b c : Nat) : gL T 0 1 1 F a b c = mxC (fun n => T a (b - n) (c - n) + sF F n) (min F.length (min b c)) := by
  rw [gL_gm _ F rfl hp, gm_mxC (K := min b c) (sF_0 F) (fun n h => by omega) (by omega)]
  simp only [Nat.mul_zero, Nat.mul_one, Nat.sub_zero]
theorem gL_110 {T : TB} {F : List Nat} (hp : F.Pairwise (fun x y => y ≤ x)) (a b c : Nat) : gL T 1 1 0 F a b c = mxC (fun n => T (a - n) (b - n) c + sF F n) (min F.length (min a b)) := by
  rw [gL_gm _ F rfl hp, gm_mxC (K := min a b) (sF_0 F) (fun n h => by omega) (by omega)]
  simp only [Nat.mul_zero, Nat.mul_one, Nat.sub_zero]
theorem gL_111 {T : TB} {F : List Nat} (hp : F.Pairwise (fun x y => y ≤ x)) (a b c : Nat) : gL T 1 1 1 F a b c = mxC (fun n => T (a - n) (b - n) (c - n) + sF F n) (min F.length (min a (min b c))) := by
  rw [gL_gm _ F rfl hp, gm_mxC (K := min a (min b c)) (sF_0 F) (fun n h => by omega) (by omega)]
  simp only [Nat.mul_one]
