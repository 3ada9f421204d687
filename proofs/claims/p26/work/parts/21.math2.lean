def cme (σ : SF) (k : Nat) : Nat := min (σ 6 k - σ 7 k) 12
/-- which queue: by the first and the last leg -/
def tyO (f t : Nat) : Nat := if f = 0 then (if t = 0 then 0 else if t = 1 then 3 else 5) else if f = 1 then (if t = 1 then 1 else 4) else 2
def Ft (σ : SF) (t : Nat) (dl : List Nat) : List Nat := dl.flatMap (fun k => if tyO (σ 3 k) (σ 4 k) = t then List.replicate (cme σ k) (σ 5 k) else [])
theorem Ft_cons (σ : SF) (t k : Nat) (dl : List Nat) : Ft σ t (k :: dl) = (if tyO (σ 3 k) (σ 4 k) = t then List.replicate (cme σ k) (σ 5 k) else []) ++ Ft σ t dl := rfl
theorem Ft_snoc (σ : SF) (t k : Nat) (dl : List Nat) : Ft σ t (dl ++ [k]) = Ft σ t dl ++ (if tyO (σ 3 k) (σ 4 k) = t then List.replicate (cme σ k) (σ 5 k) else []) := by
  unfold Ft
  rw [List.flatMap_append]
  simp
def stp (σ : SF) (T : TB) (k : Nat) : TB := vRep T (dA σ k 0) (dA σ k 1) (dA σ k 2) (σ 5 k) (cme σ k)
def vL (σ : SF) (T : TB) (dl : List Nat) : TB := dl.foldl (stp σ) T
theorem vL_perm (σ : SF) {L1 L2 : List Nat} (h : L1.Perm L2) : ∀ T, vL σ T L1 = vL σ T L2 := by
  induction h with
  | nil => intro T; rfl
  | cons x _ ih => intro T; exact ih _
  | swap x y l => intro T; show vL σ (stp σ (stp σ T y) x) l = vL σ (stp σ (stp σ T x) y) l; unfold stp; rw [vRep_comm]
  | trans _ _ ih1 ih2 => intro T; rw [ih1, ih2]
theorem vK_range (σ : SF) : ∀ P, vK σ P = vL σ (fun _ _ _ => 0) (List.range P) := by
  intro P
  induction P with
  | zero => rfl
  | succ P ih =>
    unfold vK
    rw [ih, List.range_succ]
    unfold vL
    rw [List.foldl_append]
    rfl
def NF (σ : SF) (T : TB) (dl : List Nat) : TB := gL (gL (gL (gL (gL (gL T 0 0 1 (Ft σ 2 dl)) 0 1 0 (Ft σ 1 dl)) 0 1 1 (Ft σ 4 dl)) 1 0 0 (Ft σ 0 dl)) 1 1 0 (Ft σ 3 dl)) 1 1 1 (Ft σ 5 dl)
theorem NF_stp (σ : SF) (k : Nat) (dl : List Nat) (h1 : σ 3 k ≤ σ 4 k) (h2 : σ 4 k ≤ 2) (T : TB) : NF σ (stp σ T k) dl = NF σ T (k :: dl) := by
  unfold NF stp dA
  simp only [Ft_cons]
  rcases (show (σ 3 k = 0 ∧ σ 4 k = 0) ∨ (σ 3 k = 0 ∧ σ 4 k = 1) ∨ (σ 3 k = 0 ∧ σ 4 k = 2) ∨ (σ 3 k = 1 ∧ σ 4 k = 1) ∨ (σ 3 k = 1 ∧ σ 4 k = 2) ∨ (σ 3 k = 2 ∧ σ 4 k = 2) by omega) with ⟨e1, e2⟩ | ⟨e1, e2⟩ | ⟨e1, e2⟩ | ⟨e1, e2⟩ | ⟨e1, e2⟩ | ⟨e1, e2⟩ <;>
    simp [e1, e2, tyO, gL_app, gL_same, gL_rep]
theorem vL_NF (σ : SF) : ∀ (dl : List Nat), (∀ k ∈ dl, σ 3 k ≤ σ 4 k ∧ σ 4 k ≤ 2) → ∀ T, vL σ T dl = NF σ T dl := by
  intro dl
  induction dl with
  | nil => intro _ T; rfl
  | cons k dl ih =>
    intro h T
    show vL σ (stp σ T k) dl = _
    rw [ih (fun j hj => h j (List.mem_cons_of_mem _ hj)), NF_stp σ k dl (h k List.mem_cons_self).1 (h k List.mem_cons_self).2]
theorem Ft_sorted (σ : SF) (t : Nat) : ∀ (dl : List Nat), dl.Pairwise (fun i j => σ 5 j ≤ σ 5 i) → (Ft σ t dl).Pairwise (fun x y => y ≤ x) := by
  intro dl
  induction dl with
  | nil => intro _; exact List.Pairwise.nil
  | cons k dl ih =>
    intro h
    rw [List.pairwise_cons] at h
    rw [Ft_cons, List.pairwise_append]
    refine ⟨?_, ih h.2, ?_⟩
    · split
      · rw [List.pairwise_replicate]; exact Or.inr (Nat.le_refl _)
      · exact List.Pairwise.nil
    · intro x hx y hy
      have hx2 : x = σ 5 k := by
        split at hx
        · exact (List.mem_replicate.mp hx).2
        · cases hx
      subst hx2
      unfold Ft at hy
      obtain ⟨j, hj, hy2⟩ := List.mem_flatMap.mp hy
      split at hy2
      · rw [(List.mem_replicate.mp hy2).2]; exact h.1 j hj
      · cases hy2
/-- what the class finds: q t n the best sum of n seats or less for the kind t, ln t how many passengers are queued -/
def mBe (q : Nat → Nat → Nat) (ln : Nat → Nat) (b c : Nat) : Nat := mxC (fun n => q 4 n + q 1 (b - n) + q 2 (c - n)) (min (ln 4) (min b c))
def mSh (q : Nat → Nat → Nat) (ln : Nat → Nat) (a b c : Nat) : Nat := mxC (fun n => q 3 n + q 0 (a - n) + mBe q ln (b - n) c) (min (ln 3) (min a b))
def mFo (q : Nat → Nat → Nat) (ln : Nat → Nat) (a b c : Nat) : Nat := mxC (fun n => q 5 n + mSh q ln (a - n) (b - n) (c - n)) (min (ln 5) (min a (min b c)))
theorem NF_mFo {σ : SF} {dl : List Nat} {q : Nat → Nat → Nat} {ln : Nat → Nat} (hp : dl.Pairwise (fun i j => σ 5 j ≤ σ 5 i)) (hq : ∀ t n, t < 6 → n ≤ 11 → q t n = sF (Ft σ t dl) n) (hl : ∀ t, t < 6 → ln t = min (Ft σ t dl).length 11) {a b c : Nat} (ha : a ≤ 11) (hb : b ≤ 11) (hc : c ≤ 11) : NF σ (fun _ _ _ => 0) dl a b c = mFo q ln a b c := by
  have hs := fun t => Ft_sorted σ t dl hp
  have e2 : ∀ a b c, gL (fun _ _ _ => 0) 0 0 1 (Ft σ 2 dl) a b c = sF (Ft σ 2 dl) c := fun a b c => by rw [gL_001 (hs 2) (fun _ _ _ => rfl)]; exact Nat.zero_add _
  have e1 : ∀ a b c, gL (gL (fun _ _ _ => 0) 0 0 1 (Ft σ 2 dl)) 0 1 0 (Ft σ 1 dl) a b c = sF (Ft σ 2 dl) c + sF (Ft σ 1 dl) b := fun a b c => by rw [gL_010 (hs 1) (fun a b c => by rw [e2, e2]), e2]
  have e4 : ∀ a b c, gL (gL (gL (fun _ _ _ => 0) 0 0 1 (Ft σ 2 dl)) 0 1 0 (Ft σ 1 dl)) 0 1 1 (Ft σ 4 dl) a b c = mxC (fun n => sF (Ft σ 2 dl) (c - n) + sF (Ft σ 1 dl) (b - n) + sF (Ft σ 4 dl) n) (min (Ft σ 4 dl).length (min b c)) := fun a b c => by rw [gL_011 (hs 4)]; exact mxC_congr (fun n _ => by rw [e1])
  have e4' : ∀ a b c, b ≤ 11 → c ≤ 11 → gL (gL (gL (fun _ _ _ => 0) 0 0 1 (Ft σ 2 dl)) 0 1 0 (Ft σ 1 dl)) 0 1 1 (Ft σ 4 dl) a b c = mBe q ln b c := fun a b c hb hc => by
    rw [e4]
    unfold mBe
    rw [hl 4 (by omega), show min (min (Ft σ 4 dl).length 11) (min b c) = min (Ft σ 4 dl).length (min b c) by omega]
    refine mxC_congr (fun n hn => ?_)
    rw [hq 4 n (by omega) (by omega), hq 1 _ (by omega) (by omega), hq 2 _ (by omega) (by omega)]
    omega
  have e0 : ∀ a b c, a ≤ 11 → b ≤ 11 → c ≤ 11 → gL (gL (gL (gL (fun _ _ _ => 0) 0 0 1 (Ft σ 2 dl)) 0 1 0 (Ft σ 1 dl)) 0 1 1 (Ft σ 4 dl)) 1 0 0 (Ft σ 0 dl) a b c = mBe q ln b c + q 0 a := fun a b c ha hb hc => by
    rw [gL_100 (hs 0) (fun a b c => by rw [e4, e4]), e4' _ _ _ hb hc, hq 0 _ (by omega) ha]
  have e3 : ∀ a b c, a ≤ 11 → b ≤ 11 → c ≤ 11 → gL (gL (gL (gL (gL (fun _ _ _ => 0) 0 0 1 (Ft σ 2 dl)) 0 1 0 (Ft σ 1 dl)) 0 1 1 (Ft σ 4 dl)) 1 0 0 (Ft σ 0 dl)) 1 1 0 (Ft σ 3 dl) a b c = mSh q ln a b c := fun a b c ha hb hc => by
    rw [gL_110 (hs 3)]
    unfold mSh
    rw [hl 3 (by omega), show min (min (Ft σ 3 dl).length 11) (min a b) = min (Ft σ 3 dl).length (min a b) by omega]
    refine mxC_congr (fun n hn => ?_)
    rw [e0 _ _ _ (by omega) (by omega) hc, hq 3 _ (by omega) (by omega)]
    omega
  unfold NF
  rw [gL_111 (hs 5)]
  unfold mFo
  rw [hl 5 (by omega), show min (min (Ft σ 5 dl).length 11) (min a (min b c)) = min (Ft σ 5 dl).length (min a (min b c)) by omega]
  refine mxC_congr (fun n hn => ?_)
  rw [e3 _ _ _ (by omega) (by omega) (by omega), hq 5 _ (by omega) (by omega)]
  omega
/-- the class's worth is the reference's -/
theorem wv_mFo {σ : SF} {dl : List Nat} {q : Nat → Nat → Nat} {ln : Nat → Nat} (hd : dl.Perm (List.range (σ 0 0))) (hpr : ∀ k, k < σ 0 0 → σ 3 k ≤ σ 4 k ∧ σ 4 k ≤ 2) (hp : dl.Pairwise (fun i j => σ 5 j ≤ σ 5 i)) (hq : ∀ t n, t < 6 → n ≤ 11 → q t n = sF (Ft σ t dl) n) (hl : ∀ t, t < 6 → ln t = min (Ft σ t dl).length 11) {a b c : Nat} (ha : a ≤ 11) (hb : b ≤ 11) (hc : c ≤ 11) : wv σ a b c = mFo q ln a b c := by
  unfold wv
  rw [vK_range, ← vL_perm σ hd, vL_NF σ dl (fun k hk => hpr k (List.mem_range.mp (hd.mem_iff.mp hk))), NF_mFo hp hq hl ha hb hc]
/-- what a queue holds -/
def QS (F : List Nat) (len : Nat) (sums : Nat → Nat) : Prop := len = min F.length 11 ∧ ∀ j, j ≤ len → sums j = sF F j
theorem QS.nil {sums : Nat → Nat} (h : sums 0 = 0) : QS [] 0 sums := ⟨rfl, fun j hj => by rw [show j = 0 by omega, h]; rfl⟩
theorem QS.app {F : List Nat} {len : Nat} {sums : Nat → Nat} (h : QS F len sums) (hl : 11 ≤ len) (G : List Nat) : QS (F ++ G) len sums := by
  obtain ⟨h1, h2⟩ := h
  refine ⟨by rw [List.length_append]; omega, fun j hj => ?_⟩
  rw [h2 j hj, sF_app_le F G (by omega)]
theorem QS.push {F : List Nat} {len : Nat} {sums : Nat → Nat} (h : QS F len sums) (hl : len < 11) (f : Nat) : QS (F ++ [f]) (len + 1) (va_up sums (len + 1) (sums len + f)) := by
  obtain ⟨h1, h2⟩ := h
  have h3 : F.length = len := by omega
  refine ⟨by rw [List.length_append]; show len + 1 = min (F.length + 1) 11; omega, fun j hj => ?_⟩
  unfold va_up
  by_cases q : j = len + 1
  · rw [if_pos q, q, h2 len (Nat.le_refl _), ← h3, sF_last]
  · rw [if_neg q, h2 j (by omega), sF_app_le F [f] (by omega)]
theorem QS.many {F : List Nat} {len i many f : Nat} {sums : Nat → Nat} (h : QS (F ++ List.replicate i f) len sums) (hi : i ≤ many) (he : i = many ∨ 11 ≤ len) : QS (F ++ List.replicate many f) len sums := by
  rcases he with he | he
  · subst he; exact h
  · have := h.app he (List.replicate (many - i) f)
    rw [List.append_assoc, List.replicate_append_replicate, show i + (many - i) = many by omega] at this
    exact this
theorem QS.cut {F : List Nat} {len many f : Nat} {sums : Nat → Nat} (h : QS (F ++ List.replicate many f) len sums) : QS (F ++ List.replicate (min many 12) f) len sums := by
  rcases Nat.le_total many 12 with q | q
  · rw [Nat.min_eq_left q]; exact h
  · rw [Nat.min_eq_right q]
    obtain ⟨h1, h2⟩ := h
    rw [List.length_append, List.length_replicate] at h1
    refine ⟨by rw [List.length_append, List.length_replicate]; omega, fun j hj => ?_⟩
    rw [h2 j hj]
    conv => lhs; rw [show many = 12 + (many - 12) by omega, ← List.replicate_append_replicate, ← List.append_assoc]
    exact sF_app_le _ _ (by rw [List.length_append, List.length_replicate]; omega)
theorem QS.most {F : List Nat} {len : Nat} {sums : Nat → Nat} (h : QS F len sums) {n : Nat} (hn : n ≤ 11) : sums (min n len) = sF F n := by
  rw [h.2 _ (by omega), sF_len F n]
  congr 1
  have := h.1
  omega
theorem sF_le {F : List Nat} {B : Nat} (h : ∀ x ∈ F, x ≤ B) : ∀ n, sF F n ≤ B * n := by
  intro n
  induction n with
  | zero => rw [sF_0]; exact Nat.zero_le _
  | succ n ih =>
    rcases Nat.lt_or_ge n F.length with r | r
    · rw [sF_succ F r, Nat.mul_succ]; have := h _ (List.getElem_mem r); omega
    · have : sF F (n + 1) = sF F n := by unfold sF; rw [List.take_of_length_le r, List.take_of_length_le (by omega)]
      rw [this, Nat.mul_succ]; omega
theorem Ft_le {σ : SF} {t : Nat} {dl : List Nat} {B : Nat} (h : ∀ k ∈ dl, σ 5 k ≤ B) : ∀ x ∈ Ft σ t dl, x ≤ B := by
  intro x hx
  unfold Ft at hx
  obtain ⟨j, hj, hy2⟩ := List.mem_flatMap.mp hx
  split at hy2
  · rw [(List.mem_replicate.mp hy2).2]; exact h j hj
  · cases hy2
/-! the table of the class: ten passengers of a product are as good as twelve where no more than ten seats are left -/
def vKt (σ : SF) : Nat → TB
  | 0 => fun _ _ _ => 0
  | k + 1 => vRep (vKt σ k) (dA σ k 0) (dA σ k 1) (dA σ k 2) (σ 5 k) (min (σ 6 k - σ 7 k) 10)
theorem vAdd_E {T T' : TB} (h : ∀ a b c, a ≤ 10 → b ≤ 10 → c ≤ 10 → T a b c = T' a b c) (da db dc f : Nat) : ∀ a b c, a ≤ 10 → b ≤ 10 → c ≤ 10 → vAdd T da db dc f a b c = vAdd T' da db dc f a b c := by
  intro a b c ha hb hc
  unfold vAdd
  rw [h a b c ha hb hc, h (a - da) (b - db) (c - dc) (by omega) (by omega) (by omega)]
theorem vRep_E {T T' : TB} (h : ∀ a b c, a ≤ 10 → b ≤ 10 → c ≤ 10 → T a b c = T' a b c) (da db dc f : Nat) : ∀ m a b c, a ≤ 10 → b ≤ 10 → c ≤ 10 → vRep T da db dc f m a b c = vRep T' da db dc f m a b c := by
  intro m
  induction m with
  | zero => exact h
  | succ m ih => exact vAdd_E ih da db dc f
theorem vRep_gm (T : TB) (da db dc f m a b c : Nat) : vRep T da db dc f m a b c = gm T da db dc (sF (List.replicate m f)) a b c m := by
  rw [← gL_same, gL_gm _ _ rfl (by rw [List.pairwise_replicate]; exact Or.inr (Nat.le_refl _)), List.length_replicate]
theorem vRep_10 (T : TB) {da db dc : Nat} (f : Nat) (hd : 1 ≤ da ∨ 1 ≤ db ∨ 1 ≤ dc) {m a b c : Nat} (ha : a ≤ 10) (hb : b ≤ 10) (hc : c ≤ 10) (hm : 10 ≤ m) : vRep T da db dc f m a b c = vRep T da db dc f 10 a b c := by
  obtain ⟨j, rfl⟩ : ∃ j, m = 10 + j := ⟨m - 10, by omega⟩
  rw [vRep_gm, vRep_gm, ← gm_congr (S := sF (List.replicate (10 + j) f)) (S' := sF (List.replicate 10 f)) (n := 10) (fun i hi => by rw [← List.replicate_append_replicate]; exact sF_app_le _ _ (by rw [List.length_replicate]; exact hi))]
  generalize sF (List.replicate (10 + j) f) = S
  clear hm
  induction j with
  | zero => rfl
  | succ j ih =>
    show max (gm T da db dc S a b c (10 + j)) (if (10 + j + 1) * da ≤ a ∧ (10 + j + 1) * db ≤ b ∧ (10 + j + 1) * dc ≤ c then _ else 0) = _
    rw [ih, if_neg, Nat.max_eq_left (Nat.zero_le _)]
    rintro ⟨r1, r2, r3⟩
    rcases hd with h | h | h
    · have := Nat.mul_le_mul_left (10 + j + 1) h; omega
    · have := Nat.mul_le_mul_left (10 + j + 1) h; omega
    · have := Nat.mul_le_mul_left (10 + j + 1) h; omega
theorem vKt_eq {σ : SF} : ∀ P, (∀ k, k < P → σ 3 k ≤ σ 4 k ∧ σ 4 k ≤ 2) → ∀ a b c, a ≤ 10 → b ≤ 10 → c ≤ 10 → vKt σ P a b c = vK σ P a b c := by
  intro P
  induction P with
  | zero => intro _ a b c _ _ _; rfl
  | succ P ih =>
    intro h a b c ha hb hc
    have h0 := ih (fun k hk => h k (by omega))
    have h1 := dA_one (h P (Nat.lt_succ_self _)).1 (h P (Nat.lt_succ_self _)).2
    show vRep (vKt σ P) (dA σ P 0) (dA σ P 1) (dA σ P 2) (σ 5 P) (min (σ 6 P - σ 7 P) 10) a b c = vRep (vK σ P) (dA σ P 0) (dA σ P 1) (dA σ P 2) (σ 5 P) (min (σ 6 P - σ 7 P) 12) a b c
    rw [vRep_E h0 _ _ _ _ _ a b c ha hb hc]
    rcases Nat.le_total (σ 6 P - σ 7 P) 10 with q | q
    · rw [Nat.min_eq_left q, Nat.min_eq_left (by omega)]
    · rw [Nat.min_eq_right q, vRep_10 _ _ (by omega) ha hb hc (show 10 ≤ min (σ 6 P - σ 7 P) 12 by omega)]
