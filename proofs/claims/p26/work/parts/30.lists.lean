theorem WG_len {ad : Nat → Nat → Nat} {cy : Nat → ClassId} {P B : Nat} {σ : SF} {er : Int64} {ofd de bo : Nat → Option Nat} {ql : Nat → Nat} {qs : Nat → Nat → Nat} {tv : Nat → Nat} : (WG ad cy P B σ er ofd de bo ql qs tv).length = P + (P + B) + 20 := by
  show (WV ad cy P B σ).length + 20 = _
  rw [WV_len]
theorem WGx_0 {ad : Nat → Nat → Nat} {cy : Nat → ClassId} {P B : Nat} {σ : SF} {er : Int64} {ofd de bo : Nat → Option Nat} {ql : Nat → Nat} {qs : Nat → Nat → Nat} {tv : Nat → Nat} {x : Nat × va_E} {wx : va_W} : (WG ad cy P B σ er ofd de bo ql qs tv ++ x :: wx)[P + (P + B) + 20]? = some x := by
  rw [List.getElem?_append_right (by rw [WG_len]; omega), WG_len, Nat.sub_self]; rfl
theorem WGx_1 {ad : Nat → Nat → Nat} {cy : Nat → ClassId} {P B : Nat} {σ : SF} {er : Int64} {ofd de bo : Nat → Option Nat} {ql : Nat → Nat} {qs : Nat → Nat → Nat} {tv : Nat → Nat} {x y : Nat × va_E} {wx : va_W} : (WG ad cy P B σ er ofd de bo ql qs tv ++ x :: y :: wx)[P + (P + B) + 20 + 1]? = some y := by
  rw [List.getElem?_append_right (by rw [WG_len]; omega), WG_len, Nat.add_sub_cancel_left]; rfl
theorem WGx_pd {ad : Nat → Nat → Nat} {cy : Nat → ClassId} {P B : Nat} {σ : SF} {er : Int64} {ofd de bo : Nat → Option Nat} {ql : Nat → Nat} {qs : Nat → Nat → Nat} {tv : Nat → Nat} {wx : va_W} {k : Nat} (hk : k < P) : (WG ad cy P B σ er ofd de bo ql qs tv ++ wx)[k + 20]? = some (pdC ad σ k) := by
  rw [List.getElem?_append_left (by rw [WG_len]; omega)]; exact WG_pd hk
theorem va_P.mem {D : va_G} {cl : List vw_C} {ws ws' : va_W} {H : Heap} (h : va_P D cl ws H) (hs : ∀ q ∈ ws', q ∈ ws) : va_P D cl ws' H := fun k q hk => by
  obtain ⟨i, hi⟩ := List.mem_iff_getElem?.mp (hs q (List.mem_of_getElem? hk))
  exact h i q hi
theorem va_D_iff {A : Nat → Prop} {ws : va_W} : va_D A ws ↔ ws.Pairwise (fun p q => p.1 ≠ q.1) ∧ ∀ q ∈ ws, A q.1 := by
  rw [List.pairwise_iff_getElem]
  constructor
  · intro h
    refine ⟨fun i j hi hj hij e => ?_, fun q hq => ?_⟩
    · have := h.1 i j _ _ (List.getElem?_eq_getElem hi) (List.getElem?_eq_getElem hj) e
      omega
    · obtain ⟨i, hi⟩ := List.mem_iff_getElem?.mp hq
      exact h.2 i q hi
  · intro h
    refine ⟨fun i j p q hp hq e => ?_, fun k q hk => h.2 q (List.mem_of_getElem? hk)⟩
    obtain ⟨hi, rfl⟩ := List.getElem?_eq_some_iff.mp hp
    obtain ⟨hj, rfl⟩ := List.getElem?_eq_some_iff.mp hq
    rcases Nat.lt_trichotomy i j with r | r | r
    · exact absurd e (h.1 i j hi hj r)
    · exact r
    · exact absurd e.symm (h.1 j i hj hi r)
theorem va_D.perm {A : Nat → Prop} {ws ws' : va_W} (h : va_D A ws) (hp : ws'.Perm ws) : va_D A ws' := by
  rw [va_D_iff] at h ⊢
  exact ⟨(hp.pairwise_iff (fun h e => h e.symm)).mpr h.1, fun q hq => h.2 q (hp.mem_iff.mp hq)⟩
theorem va_D.subl {A : Nat → Prop} {ws ws' : va_W} (h : va_D A ws) (hp : ws'.Sublist ws) : va_D A ws' := by
  rw [va_D_iff] at h ⊢
  exact ⟨h.1.sublist hp, fun q hq => h.2 q (hp.subset hq)⟩
/-- the addresses with one booking more -/
def adB (ad : Nat → Nat → Nat) (b q : Nat) : Nat → Nat → Nat := va_up ad 3 (va_up (ad 3) b q)
/-- .. with one product more -/
def adP (ad : Nat → Nat → Nat) (k q tb : Nat) : Nat → Nat → Nat := va_up (va_up ad 1 (va_up (ad 1) k q)) 2 (va_up (ad 2) k tb)
theorem enter_eq {ad : Nat → Nat → Nat} {cy : Nat → ClassId} {P : Nat} {σ : SF} {er : Int64} {ofd de bo : Nat → Option Nat} {ql : Nat → Nat} {qs : Nat → Nat → Nat} {tv : Nat → Nat} {q f t n c : Nat} : WG ad cy P (σ 0 3) (va_up σ 0 (va_up (σ 0) 3 (σ 0 3 + 1))) er ofd de bo ql qs tv ++ [(q, .inr (0, [.int (nI f), .int (nI t), .int (nI n), .int (nI c), .int (nI 0)]))] = WG (adB ad (σ 0 3) q) cy P (σ 0 3 + 1) (bookF σ f t n c) er ofd de bo ql qs tv := by
  have hw : WV ad cy P (σ 0 3) (va_up σ 0 (va_up (σ 0) 3 (σ 0 3 + 1))) ++ [(q, .inr (0, [.int (nI f), .int (nI t), .int (nI n), .int (nI c), .int (nI 0)]))] = WV (adB ad (σ 0 3) q) cy P (σ 0 3 + 1) (bookF σ f t n c) := by
    unfold WV
    rw [List.append_assoc, List.append_assoc, List.range_succ, List.map_append]
    congr 1
    congr 1
    congr 1
    · refine List.map_congr_left (fun b hb => ?_)
      have hb2 : b ≠ σ 0 3 := by have := List.mem_range.mp hb; omega
      have e : ∀ (g : Nat → Nat) (x : Nat), va_up g (σ 0 3) x b = g b := fun g x => if_neg hb2
      unfold bkC bkF
      show (ad 3 b, _) = (va_up (ad 3) (σ 0 3) q b, Sum.inr (0, [Value.int (nI (va_up (σ 10) (σ 0 3) f b)), Value.int (nI (va_up (σ 11) (σ 0 3) t b)), Value.int (nI (va_up (σ 12) (σ 0 3) n b)), Value.int (nI (va_up (σ 13) (σ 0 3) c b)), Value.int (nI (va_up (σ 14) (σ 0 3) 0 b))]))
      rw [e, e, e, e, e, e]
      rfl
    · have e : ∀ (g : Nat → Nat) (x : Nat), va_up g (σ 0 3) x (σ 0 3) = x := fun g x => va_up_self _ _ _
      show _ = [(va_up (ad 3) (σ 0 3) q (σ 0 3), Sum.inr (0, [Value.int (nI (va_up (σ 10) (σ 0 3) f (σ 0 3))), Value.int (nI (va_up (σ 11) (σ 0 3) t (σ 0 3))), Value.int (nI (va_up (σ 12) (σ 0 3) n (σ 0 3))), Value.int (nI (va_up (σ 13) (σ 0 3) c (σ 0 3))), Value.int (nI (va_up (σ 14) (σ 0 3) 0 (σ 0 3)))]))]
      rw [e, e, e, e, e, e]
  unfold WG
  rw [← hw]
  rfl
theorem offer_perm {ad : Nat → Nat → Nat} {cy : Nat → ClassId} {B : Nat} {σ : SF} {er : Int64} {ofd de bo : Nat → Option Nat} {ql : Nat → Nat} {qs : Nat → Nat → Nat} {tv : Nat → Nat} {q tb f t c : Nat} : (WG (adP ad (σ 0 0) q tb) cy (σ 0 0 + 1) B (adF σ f t c) er ofd de bo ql qs tv).Perm (WG ad cy (σ 0 0) B (va_up σ 0 (va_up (σ 0) 0 (σ 0 0 + 1))) er ofd de bo ql qs tv ++ [(q, .inr (2, [.int (nI f), .int (nI t), .int (nI c), .ref tb, .int (nI (σ 6 (σ 0 0))), .int (nI (σ 7 (σ 0 0))), .int (nI (σ 8 (σ 0 0)))])), (tb, .inl (cy 0, 21, .inl (fun j => nI (tbR (adF σ f t c) (σ 0 0) j))))]) := by
  have e : ∀ (g : Nat → Nat) (x : Nat), va_up g (σ 0 0) x (σ 0 0) = x := fun g x => va_up_self _ _ _
  have e2 : ∀ (g : Nat → Nat) (x k : Nat), k < σ 0 0 → va_up g (σ 0 0) x k = g k := fun g x k hk => if_neg (by omega)
  have h1 : (List.range (σ 0 0)).map (pdC (adP ad (σ 0 0) q tb) (adF σ f t c)) = (List.range (σ 0 0)).map (pdC ad (va_up σ 0 (va_up (σ 0) 0 (σ 0 0 + 1)))) := List.map_congr_left (fun k hk => by
    have hk2 := List.mem_range.mp hk
    unfold pdC pdF
    show (va_up (ad 1) (σ 0 0) q k, Sum.inr (2, [Value.int (nI (va_up (σ 3) (σ 0 0) f k)), Value.int (nI (va_up (σ 4) (σ 0 0) t k)), Value.int (nI (va_up (σ 5) (σ 0 0) c k)), Value.ref (va_up (ad 2) (σ 0 0) tb k), _, _, _])) = _
    rw [e2 _ _ _ hk2, e2 _ _ _ hk2, e2 _ _ _ hk2, e2 _ _ _ hk2, e2 _ _ _ hk2]
    rfl)
  have h2 : (List.range (σ 0 0)).map (tbC (adP ad (σ 0 0) q tb) cy (adF σ f t c)) = (List.range (σ 0 0)).map (tbC ad cy (va_up σ 0 (va_up (σ 0) 0 (σ 0 0 + 1)))) := List.map_congr_left (fun k hk => by
    have hk2 := List.mem_range.mp hk
    have e3 : tbR (adF σ f t c) k = tbR (va_up σ 0 (va_up (σ 0) 0 (σ 0 0 + 1))) k := by
      funext j
      show (if j < 21 then va_up (σ 9) (21 * σ 0 0) (σ 0 1) (21 * k + j) else 0) = if j < 21 then σ 9 (21 * k + j) else 0
      by_cases hj : j < 21
      · rw [if_pos hj, if_pos hj]; exact if_neg (by omega)
      · rw [if_neg hj, if_neg hj]
    unfold tbC
    rw [e3]
    show (va_up (ad 2) (σ 0 0) tb k, _) = _
    rw [e2 _ _ _ hk2])
  have h3 : pdC (adP ad (σ 0 0) q tb) (adF σ f t c) (σ 0 0) = (q, .inr (2, [.int (nI f), .int (nI t), .int (nI c), .ref tb, .int (nI (σ 6 (σ 0 0))), .int (nI (σ 7 (σ 0 0))), .int (nI (σ 8 (σ 0 0)))])) := by
    unfold pdC pdF
    show (va_up (ad 1) (σ 0 0) q (σ 0 0), Sum.inr (2, [Value.int (nI (va_up (σ 3) (σ 0 0) f (σ 0 0))), Value.int (nI (va_up (σ 4) (σ 0 0) t (σ 0 0))), Value.int (nI (va_up (σ 5) (σ 0 0) c (σ 0 0))), Value.ref (va_up (ad 2) (σ 0 0) tb (σ 0 0)), _, _, _])) = _
    rw [e, e, e, e, e]
    rfl
  have h4 : tbC (adP ad (σ 0 0) q tb) cy (adF σ f t c) (σ 0 0) = (tb, .inl (cy 0, 21, .inl (fun j => nI (tbR (adF σ f t c) (σ 0 0) j)))) := by
    unfold tbC
    show (va_up (ad 2) (σ 0 0) tb (σ 0 0), _) = _
    rw [e]
  have hV : (WV (adP ad (σ 0 0) q tb) cy (σ 0 0 + 1) B (adF σ f t c)).Perm (WV ad cy (σ 0 0) B (va_up σ 0 (va_up (σ 0) 0 (σ 0 0 + 1))) ++ [(q, .inr (2, [.int (nI f), .int (nI t), .int (nI c), .ref tb, .int (nI (σ 6 (σ 0 0))), .int (nI (σ 7 (σ 0 0))), .int (nI (σ 8 (σ 0 0)))])), (tb, .inl (cy 0, 21, .inl (fun j => nI (tbR (adF σ f t c) (σ 0 0) j))))]) := by
    unfold WV
    rw [List.range_succ, List.map_append, List.map_append, h1, h2]
    show (_ ++ [pdC _ _ _] ++ (_ ++ [tbC _ _ _ _] ++ List.map (bkC ad (va_up σ 0 (va_up (σ 0) 0 (σ 0 0 + 1)))) (List.range B))).Perm _
    rw [h3, h4]
    generalize (q, (Sum.inr (2, [Value.int (nI f), Value.int (nI t), Value.int (nI c), Value.ref tb, Value.int (nI (σ 6 (σ 0 0))), Value.int (nI (σ 7 (σ 0 0))), Value.int (nI (σ 8 (σ 0 0)))]) : va_E)) = o
    generalize (tb, (Sum.inl (cy 0, 21, Sum.inl (fun j => nI (tbR (adF σ f t c) (σ 0 0) j))) : va_E)) = tt
    generalize List.map (pdC ad (va_up σ 0 (va_up (σ 0) 0 (σ 0 0 + 1)))) (List.range (σ 0 0)) = O
    generalize List.map (tbC ad cy (va_up σ 0 (va_up (σ 0) 0 (σ 0 0 + 1)))) (List.range (σ 0 0)) = Tb
    generalize List.map (bkC ad (va_up σ 0 (va_up (σ 0) 0 (σ 0 0 + 1)))) (List.range B) = Bk
    have p1 : (Tb ++ [tt] ++ Bk).Perm (Tb ++ Bk ++ [tt]) := by
      rw [List.append_assoc, List.append_assoc]
      exact List.Perm.append_left _ List.perm_append_comm
    have p2 : ([o] ++ (Tb ++ [tt] ++ Bk)).Perm (Tb ++ Bk ++ [o, tt]) := by
      refine (List.Perm.append_left _ p1).trans ?_
      refine List.perm_append_comm.trans ?_
      rw [List.append_assoc]
      exact List.Perm.append_left _ (List.Perm.swap _ _ _)
    simpa only [List.append_assoc] using List.Perm.append_left O p2
  have hX : X5F (adP ad (σ 0 0) q tb) (adF σ f t c) er = X5F ad (va_up σ 0 (va_up (σ 0) 0 (σ 0 0 + 1))) er := rfl
  unfold WG
  rw [hX]
  exact List.Perm.append_left [_, _, _, _, _, _, _, _, _, _, _, _, _, _, _, _, _, _, _, _] hV
theorem DL_ins {ad : Nat → Nat → Nat} {σ : SF} {d : Nat → Option Nat} {dl : List Nat} {q tb f t c j : Nat} (hp : dl.Perm (List.range (σ 0 0))) (hs : dl.Pairwise (fun i j => σ 5 j ≤ σ 5 i)) (hj : j ≤ σ 0 0) (hd : ∀ i, d i = if j < i ∧ i ≤ σ 0 0 then (dl[i - 1]?).map (ad 1) else (dl[i]?).map (ad 1))
    (hlo : ∀ i k, j ≤ i → dl[i]? = some k → σ 5 k < c) (hhi : j = 0 ∨ ∃ k, dl[j - 1]? = some k ∧ c ≤ σ 5 k) : DL (adP ad (σ 0 0) q tb) (adF σ f t c) (va_up d j (some q)) (dl.take j ++ σ 0 0 :: dl.drop j) := by
  have hlen : dl.length = σ 0 0 := by rw [hp.length_eq, List.length_range]
  have hlt : ∀ k ∈ dl, k < σ 0 0 := fun k hk => List.mem_range.mp (hp.mem_iff.mp hk)
  have ea : ∀ k, k < σ 0 0 → adP ad (σ 0 0) q tb 1 k = ad 1 k := fun k hk => if_neg (by omega)
  have ea0 : adP ad (σ 0 0) q tb 1 (σ 0 0) = q := va_up_self _ _ _
  have e5 : ∀ k, k < σ 0 0 → adF σ f t c 5 k = σ 5 k := fun k hk => if_neg (by omega)
  have e50 : adF σ f t c 5 (σ 0 0) = c := va_up_self _ _ _
  have hma : ∀ i : Nat, (dl[i]?).map (ad 1) = (dl[i]?).map (adP ad (σ 0 0) q tb 1) := fun i => by
    cases h : dl[i]? with
    | none => rfl
    | some k => show some _ = some _; rw [ea k (hlt k (List.mem_of_getElem? h))]
  have htl : (dl.take j).length = j := by rw [List.length_take]; omega
  refine ⟨fun i => ?_, ?_, ?_⟩
  · rcases Nat.lt_trichotomy i j with r | r | r
    · rw [List.getElem?_append_left (by rw [htl]; exact r), List.getElem?_take, if_pos r]
      show (if i = j then some q else d i) = _
      rw [if_neg (by omega), hd, if_neg (by omega), hma]
    · subst r
      rw [List.getElem?_append_right (by rw [htl]; exact Nat.le_refl _), htl, Nat.sub_self]
      show (if i = i then some q else d i) = some (adP ad (σ 0 0) q tb 1 (σ 0 0))
      rw [if_pos rfl, ea0]
    · rw [List.getElem?_append_right (by rw [htl]; omega), htl, show i - j = (i - 1 - j) + 1 by omega, List.getElem?_cons_succ, List.getElem?_drop, show j + (i - 1 - j) = i - 1 by omega, ← hma]
      show (if i = j then some q else d i) = _
      rw [if_neg (by omega), hd]
      by_cases h : i ≤ σ 0 0
      · rw [if_pos ⟨r, h⟩]
      · rw [if_neg (by omega), List.getElem?_eq_none (by omega), List.getElem?_eq_none (by omega)]
  · show (dl.take j ++ σ 0 0 :: dl.drop j).Perm (List.range (σ 0 0 + 1))
    rw [List.range_succ]
    refine List.perm_middle.trans ?_
    rw [List.take_append_drop]
    refine List.Perm.trans ?_ List.perm_append_comm
    exact List.Perm.cons _ hp
  · rw [List.pairwise_append]
    have hs1 : (dl.take j ++ dl.drop j).Pairwise (fun i j => σ 5 j ≤ σ 5 i) := by rw [List.take_append_drop]; exact hs
    rw [List.pairwise_append] at hs1
    have ht5 : ∀ k ∈ dl.take j, k < σ 0 0 := fun k hk => hlt k (List.mem_of_mem_take hk)
    have hd5 : ∀ k ∈ dl.drop j, k < σ 0 0 := fun k hk => hlt k (List.mem_of_mem_drop hk)
    have hdc : ∀ k ∈ dl.drop j, σ 5 k < c := fun k hk => by
      obtain ⟨i, hi⟩ := List.mem_iff_getElem?.mp hk
      rw [List.getElem?_drop] at hi
      exact hlo (j + i) k (by omega) hi
    have htc : ∀ k ∈ dl.take j, c ≤ σ 5 k := fun k hk => by
      rcases hhi with h | ⟨k1, h1, h2⟩
      · rw [h, List.take_zero] at hk; cases hk
      · obtain ⟨i, hi⟩ := List.mem_iff_getElem?.mp hk
        rw [List.getElem?_take] at hi
        split at hi
        · rename_i hij
          rcases Nat.lt_or_ge i (j - 1) with r | r
          · obtain ⟨z1, rfl⟩ := List.getElem?_eq_some_iff.mp hi
            obtain ⟨z2, rfl⟩ := List.getElem?_eq_some_iff.mp h1
            have := List.pairwise_iff_getElem.mp hs i (j - 1) z1 z2 r
            omega
          · rw [show i = j - 1 by omega, h1] at hi
            cases hi
            exact h2
        · cases hi
    refine ⟨hs1.1.imp_of_mem (fun {a b} ha hb h => by rw [e5 a (ht5 a ha), e5 b (ht5 b hb)]; exact h), ?_, fun a ha b hb => ?_⟩
    · rw [List.pairwise_cons]
      refine ⟨fun b hb => by rw [e50, e5 b (hd5 b hb)]; exact Nat.le_of_lt (hdc b hb), hs1.2.1.imp_of_mem (fun {a b} ha hb h => by rw [e5 a (hd5 a ha), e5 b (hd5 b hb)]; exact h)⟩
    · rcases List.mem_cons.mp hb with rfl | hb
      · rw [e50, e5 a (ht5 a ha)]; exact htc a ha
      · rw [e5 a (ht5 a ha), e5 b (hd5 b hb)]; exact hs1.2.2 a ha b hb
