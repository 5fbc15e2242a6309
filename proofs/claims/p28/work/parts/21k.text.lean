/-! ===== a reading's text ===== -/
theorem sign_eq {x : Int32} (h : ixL x 5) : mSign x = sSign x := by
  have e : ∀ i, i < 5 → mSign (nI i) = sSign (nI i) := by decide +kernel
  rw [h.1]; exact e _ h.2
theorem text_f {κ : gMem} {a b : Int32} (h : sTextT κ a b = 0) : ¬ mIn a 0 (κ 7 0 4 - 1) = 0 ∧ ¬ b < 0 := by
  have t1 : ¬ mIn a 0 (κ 7 0 4 - 1) = 0 := fun z => by rw [sTextT, if_pos z] at h; exact absurd h (by decide)
  rw [sTextT, if_neg t1] at h
  refine ⟨t1, fun z => ?_⟩
  rw [if_neg (Int32.not_le.mpr z)] at h
  exact absurd h (by decide)
theorem textT_eq {κ μ : gMem} {a b : Int32} (h : Rel κ μ) : mTextT μ a b = sTextT κ a b := by
  rw [mTextT, sTextT, ← h.1.2.2.2.1]
  by_cases t : mIn a 0 (κ 7 0 4 - 1) = 0
  · rw [if_pos t, if_pos t]
  · rw [if_neg t, if_neg t]
    by_cases l : b < 0
    · rw [if_pos l, if_neg (Int32.not_le.mpr l)]
    · rw [if_neg l, if_pos (Int32.not_lt.mp l)]
theorem text_eq {κ μ : gMem} {r : Nat} {q : Int32} (h : Rel κ μ) (hr : r < tN (κ 7 0 4)) (hq : ¬ q < 0) : mText μ r q = sText κ r q := by
  have p := (h.rd hr).1
  obtain ⟨j, hj, rfl⟩ := nI_of hq
  obtain ⟨i, hi, ei⟩ := ixL_ex p.2.2.1
  have lt : ∀ a b : Nat, a < 2 ^ 31 → b < 2 ^ 31 → (nI a < nI b ↔ a < b) := fun a b ha hb => nI_ltI ha hb
  have eqq : ∀ a b : Nat, a < 2 ^ 31 → b < 2 ^ 31 → (nI a = nI b ↔ a = b) := fun a b ha hb => ⟨fun z => nI_inj z ha hb, fun z => by rw [z]⟩
  have le : ∀ a b : Nat, a < 2 ^ 31 → b < 2 ^ 31 → (nI a ≤ nI b ↔ a ≤ b) := fun a b ha hb => nI_leI' ha hb
  rw [mText, sText, sTxN, sTxB, ← p.1, ← p.2.1, ← p.2.2.2.2.1, sign_eq p.2.2.2.2.2.1, ei, tN_nI hj]
  have em : nI i - nI i / 10 * 10 = nI (i % 10) := pk_rem (d := 10) (by omega) (by decide) (by decide)
  rw [em]
  by_cases l : i < 10
  · have l1 : nI i < 10 := (lt i 10 (by omega) (by decide)).mpr l
    have l2 : ¬ (10 : Int32) ≤ nI i := Int32.not_le.mpr l1
    rw [if_pos l1, if_neg l2, if_pos l1, Nat.mod_eq_of_lt l]
    by_cases j0 : j = 0
    · subst j0; rw [if_pos (show nI 0 = 0 from rfl), if_pos (show nI 0 < nI 3 by decide), if_pos rfl]
    · rw [if_neg (show ¬ nI j = 0 from fun z => j0 ((eqq j 0 hj (by decide)).mp z)), if_neg j0]
      by_cases j1 : j = 1
      · subst j1; rw [if_neg (show ¬ (1 : Int32) < nI 1 by decide), if_pos (show nI 1 = 1 from rfl), if_pos (show nI 1 < nI 3 by decide), if_pos rfl]
      · rw [if_pos (show (1 : Int32) < nI j from (lt 1 j (by decide) hj).mpr (by omega)), if_neg j1]
        by_cases j2 : j = 2
        · subst j2; rw [if_pos (show nI 2 = 1 + 1 from rfl), if_pos (show nI 2 < nI 3 by decide)]
        · rw [if_neg (show ¬ nI j = 1 + 1 from fun z => j2 ((eqq j 2 hj (by decide)).mp z)), if_neg (show ¬ nI j < nI 3 from fun z => by have := (lt j 3 hj (by decide)).mp z; omega)]
  · have l1 : ¬ nI i < 10 := fun z => l ((lt i 10 (by omega) (by decide)).mp z)
    have l2 : (10 : Int32) ≤ nI i := Int32.not_lt.mp l1
    rw [if_neg l1, if_pos l2, if_neg l1]
    by_cases j0 : j = 0
    · subst j0; rw [if_pos (show nI 0 = 0 from rfl), if_pos (show nI 0 < nI 4 by decide), if_pos rfl]
    · rw [if_neg (show ¬ nI j = 0 from fun z => j0 ((eqq j 0 hj (by decide)).mp z)), if_neg j0]
      by_cases j1 : j = 1
      · subst j1; rw [if_neg (show ¬ (2 : Int32) < nI 1 by decide), if_neg (show ¬ nI 1 = 2 by decide), if_pos (show nI 1 < nI 4 by decide), if_pos rfl]
      · rw [if_neg j1]
        by_cases j2 : j = 2
        · subst j2; rw [if_neg (show ¬ (2 : Int32) < nI 2 by decide), if_pos (show nI 2 = 2 from rfl), if_pos (show nI 2 < nI 4 by decide), if_pos rfl]
        · rw [if_pos (show (2 : Int32) < nI j from (lt 2 j (by decide) hj).mpr (by omega)), if_neg j2]
          by_cases j3 : j = 3
          · subst j3; rw [if_pos (show nI 3 = 2 + 1 from rfl), if_pos (show nI 3 < nI 4 by decide)]
          · rw [if_neg (show ¬ nI j = 2 + 1 from fun z => j3 ((eqq j 3 hj (by decide)).mp z)), if_neg (show ¬ nI j < nI 4 from fun z => by have := (lt j 4 hj (by decide)).mp z; omega)]
