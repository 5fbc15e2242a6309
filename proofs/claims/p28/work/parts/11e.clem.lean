/-! a sample more: what it leaves alone -/
theorem sShift_keep : ∀ (n : Nat) {κ : gMem} {r : Nat} {v : Int32} {f i j : Nat}, f ≠ 16 → (sShift n κ r v).1 f i j = κ f i j
  | 0, _, _, _, _, _, _, _ => rfl
  | n + 1, κ, r, v, f, i, j, h => by
    rw [sShift]
    split
    · rfl
    · exact (sShift_keep n h).trans (upd3_f h)
theorem sAdd_keep {κ : gMem} {r s f i j : Nat} {v : Int32} (h2 : f ≠ 2) (h16 : f ≠ 16) : sAdd κ r s v f i j = κ f i j := by
  unfold sAdd
  split
  · exact (upd3_f h2).trans ((upd3_f h2).trans ((upd3_f h16).trans (sShift_keep _ h16)))
  · rfl
theorem sAdd_ch {κ : gMem} {r s i : Nat} {v : Int32} : sAdd κ r s v 2 i 0 = κ 2 i 0 := by
  unfold sAdd
  split
  · exact (upd3_k (by decide)).trans ((upd3_k (by decide)).trans ((upd3_f (by decide)).trans (sShift_keep _ (by decide))))
  · rfl
theorem sAdd_oth {κ : gMem} {r s f i j : Nat} {v : Int32} (h : i ≠ r) (h16 : f ≠ 16) : sAdd κ r s v f i j = κ f i j := by
  unfold sAdd
  split
  · exact (upd3_n (fun z => h z.2.1)).trans ((upd3_n (fun z => h z.2.1)).trans ((upd3_f h16).trans (sShift_keep _ h16)))
  · rfl
theorem sAdd_cnt {κ : gMem} {r s : Nat} {v : Int32} (h : ixL (κ 2 r 2) 5) : ixL (sAdd κ r s v 2 r 2) 5 := by
  unfold sAdd
  split
  · rename_i h4
    have e : upd3 (upd3 (upd3 (sShift (tN (κ 2 r 2)) κ r v).1 16 r (sShift (tN (κ 2 r 2)) κ r v).2 v) 2 r 2 (κ 2 r 2 + 1)) 2 r 3 (κ 2 r 3 ||| (1 <<< (nI s &&& 31))) 2 r 2 = κ 2 r 2 + 1 := (upd3_k (by decide)).trans upd3_s
    rw [e]
    have hl := ixL_lt4 h h4
    rw [h.1, nI_1]
    exact ixL.nI (by omega) (by decide)
  · exact h
theorem sAdd_Rd {ids : gIds} {κ : gMem} {r r' s : Nat} {v : Int32} (h : cRd ids κ r') : cRd ids (sAdd κ r s v) r' := by
  obtain ⟨h1, h2, h3, h4, h5⟩ := h
  refine ⟨(sAdd_keep (by decide) (by decide)).trans h1, h2, h3, by rw [sAdd_keep (by decide) (by decide)]; exact h4, ?_⟩
  rw [sAdd_keep (f := 3) (by decide) (by decide)]
  refine h5.imp id (fun z => ⟨z.1, z.2.1, z.2.2.1, by rw [sAdd_ch]; exact z.2.2.2.1, ?_⟩)
  by_cases e : r' = r
  · subst e; exact sAdd_cnt z.2.2.2.2
  · rw [sAdd_oth e (by decide)]; exact z.2.2.2.2
theorem sAdd_WF {ids : gIds} {κ : gMem} {r s : Nat} {v : Int32} (h : cWF ids κ) : cWF ids (sAdd κ r s v) := by
  obtain ⟨h1, h2, h3, h4, h5, h6, h7⟩ := h
  have k : ∀ f i j, f ≠ 2 → f ≠ 16 → sAdd κ r s v f i j = κ f i j := fun f i j a b => sAdd_keep a b
  refine ⟨by rw [k _ _ _ (by decide) (by decide)]; exact h1, fun q hq => sAdd_Rd (h2 q (by rw [k _ _ _ (by decide) (by decide)] at hq; exact hq)), fun q hq => ?_, ?_, fun q a b => ?_, fun q a => ?_, fun b q a c => ?_⟩
  · rw [k _ _ _ (by decide) (by decide)] at hq ⊢; exact h3 q hq
  · rw [k _ _ _ (by decide) (by decide)]; exact h4
  · rw [k _ _ _ (by decide) (by decide)]; exact h5 q a b
  · rw [k _ _ _ (by decide) (by decide)]; exact h6 q a
  · rw [k _ _ _ (by decide) (by decide)]; exact h7 b q a c
