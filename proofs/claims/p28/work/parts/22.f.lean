/-! ===== what a call that goes through tells of its numbers ===== -/
theorem cTouch_lt {f k : Nat} (h : cTouch f k = true) : f ≠ 8 ∧ f < 18 := by
  have h2 : f = 7 ∨ f = 13 ∨ f = 3 ∨ f = 2 ∨ f = 4 ∨ f = 5 ∨ f = 14 := by
    simp [cTouch] at h
    omega
  omega
theorem Rel.n {κ μ : gMem} (h : Rel κ μ) : κ 7 0 4 = nI (tN (κ 7 0 4)) ∧ tN (κ 7 0 4) ≤ 80 ∧ κ 7 0 4 = μ 8 0 16 := ⟨h.1.2.2.2.2.1, by have := h.1.2.2.2.2.2; omega, h.1.2.2.2.1⟩
theorem rd_in {κ μ : gMem} {a : Int32} (h : Rel κ μ) (ht : ¬ mIn a 0 (κ 7 0 4 - 1) = 0) : a = nI (tN a) ∧ tN a < tN (κ 7 0 4) := by
  obtain ⟨n1, n2, -⟩ := h.n
  exact mIn_rd (n := tN (κ 7 0 4)) (by rw [← n1]; exact ht) n2
theorem rdT_0 {κ : gMem} {a : Int32} (ht : sRdT κ a = 0) : ¬ mIn a 0 (κ 7 0 4 - 1) = 0 := fun z => by rw [sRdT, if_pos z] at ht; exact absurd ht (by decide)
theorem oneT_0 {a hi : Int32} (ht : mOneT a hi = 0) : ¬ mIn a 0 hi = 0 := fun z => by rw [mOneT, if_pos z] at ht; exact absurd ht (by decide)
theorem hang_W {ids : gIds} {κ : gMem} {a b : Int32} (hw : cWF ids κ) (ht : sHangT a b = 0) : cWF ids (upd3 κ 4 (tN a) 1 (nI (tN b))) := by
  have t1 : ¬ mIn a 0 5 = 0 := fun z => by rw [sHangT, if_pos z] at ht; exact absurd ht (by decide)
  rw [sHangT, if_neg t1] at ht
  have t2 : ¬ mIn b 0 5 = 0 := fun z => by rw [if_pos z] at ht; exact absurd ht (by decide)
  rw [if_neg t2] at ht
  have t3 : ¬ tN a = 0 := fun z => by rw [if_pos z] at ht; exact absurd ht (by decide)
  rw [if_neg t3] at ht
  have t4 : b < a := Classical.byContradiction fun z => by rw [if_neg z] at ht; exact absurd ht (by decide)
  obtain ⟨ea, la⟩ := mIn_rng (m := 5) t1 (by decide)
  obtain ⟨eb, lb⟩ := mIn_rng (m := 5) t2 (by decide)
  have lt : tN b < tN a := by
    rw [ea, eb] at t4
    exact (nI_ltI (by omega) (by omega)).mp t4
  obtain ⟨h1, h2, h3, h4, h5, h6, h7⟩ := hw
  refine ⟨h1, fun r hr => h2 r hr, h3, ?_, fun k hk h0 => ?_, h6, h7⟩
  · rw [upd3_n (fun z => t3 z.2.1.symm)]; exact h4
  · by_cases e : k = tN a
    · subst e; rw [upd3_s]; exact ixL.nI lt (by omega)
    · rw [upd3_n (fun z => e z.2.1)]; exact h5 k hk h0
theorem attach_W {ids : gIds} {κ : gMem} {a b : Int32} (hw : cWF ids κ) (ht : mAttachT a b = 0) : cWF ids (upd3 κ 5 (tN a) 1 (nI (tN b))) := by
  have t1 : ¬ mIn a 0 11 = 0 := fun z => by rw [mAttachT, if_pos z] at ht; exact absurd ht (by decide)
  have t2 : ¬ mIn b 0 5 = 0 := fun z => by rw [mAttachT, if_neg t1, if_pos z] at ht; exact absurd ht (by decide)
  obtain ⟨eb, lb⟩ := mIn_rng (m := 5) t2 (by decide)
  obtain ⟨h1, h2, h3, h4, h5, h6, h7⟩ := hw
  refine ⟨h1, fun r hr => h2 r hr, h3, h4, h5, fun k hk => ?_, h7⟩
  by_cases e : k = tN a
  · subst e; rw [upd3_s]; exact ixL.nI (by omega) (by decide)
  · rw [upd3_n (fun z => e z.2.1)]; exact h6 k hk
theorem tell_f {κ : gMem} {a v : Int32} (ht : sTellT κ a v = 0) : ixL a 12 ∧ ixL v 100 ∧ κ 7 0 4 < 80 := by
  have t1 : ¬ mIn a 0 11 = 0 := fun z => by rw [sTellT, if_pos z] at ht; exact absurd ht (by decide)
  rw [sTellT, if_neg t1] at ht
  have t2 : ¬ mIn v 0 99 = 0 := fun z => by rw [if_pos z] at ht; exact absurd ht (by decide)
  rw [if_neg t2] at ht
  have t3 : ¬ κ 5 (tN a) 3 < 20 := fun z => by rw [if_pos z] at ht; exact absurd ht (by decide)
  rw [if_neg t3] at ht
  have t4 : ¬ κ 5 (tN a) 6 = κ 7 0 6 := fun z => by rw [if_pos z] at ht; exact absurd ht (by decide)
  rw [if_neg t4] at ht
  have t5 : κ 7 0 4 < 80 := Classical.byContradiction fun z => by rw [if_neg z] at ht; exact absurd ht (by decide)
  obtain ⟨ea, la⟩ := mIn_rng (m := 11) t1 (by decide)
  obtain ⟨ev, lv⟩ := mIn_rng (m := 99) t2 (by decide)
  exact ⟨⟨ea, by omega⟩, ⟨ev, by omega⟩, t5⟩
theorem opn_f {κ : gMem} {b a d : Int32} (ht : sOpenT κ b a d = 0) : ixL b 6 ∧ ixL a 12 ∧ ∃ t, 1 ≤ t ∧ t ≤ 20 ∧ d = nI t := by
  have t1 : ¬ mIn b 0 5 = 0 := fun z => by rw [sOpenT, if_pos z] at ht; exact absurd ht (by decide)
  rw [sOpenT, if_neg t1] at ht
  have t2 : ¬ mIn a 0 11 = 0 := fun z => by rw [if_pos z] at ht; exact absurd ht (by decide)
  rw [if_neg t2] at ht
  have t3 : ¬ mIn d 1 20 = 0 := fun z => by rw [if_pos z] at ht; exact absurd ht (by decide)
  obtain ⟨eb, lb⟩ := mIn_rng (m := 5) t1 (by decide)
  obtain ⟨ea, la⟩ := mIn_rng (m := 11) t2 (by decide)
  obtain ⟨ed, ld, gd⟩ := mIn_rng' (m := 20) t3 (by decide) (by decide)
  refine ⟨⟨eb, by omega⟩, ⟨ea, by omega⟩, tN d, ?_, ld, ed⟩
  rcases Nat.eq_zero_or_pos (tN d) with z | z
  · rw [z] at ed; rw [ed] at gd; exact absurd gd (by decide)
  · exact z
theorem ch_f {κ : gMem} {b x : Int32} (ht : sChallengeT κ b x = 0) : ixL b 6 ∧ ¬ mIn x 0 (κ 7 0 4 - 1) = 0 ∧ κ 3 (tN x) 3 = 0 := by
  have t1 : ¬ mIn b 0 5 = 0 := fun z => by rw [sChallengeT, if_pos z] at ht; exact absurd ht (by decide)
  rw [sChallengeT, if_neg t1] at ht
  have t2 : ¬ mIn x 0 (κ 7 0 4 - 1) = 0 := fun z => by rw [if_pos z] at ht; exact absurd ht (by decide)
  rw [if_neg t2] at ht
  have t3 : κ 3 (tN x) 3 = 0 := Classical.byContradiction fun z => by rw [if_neg z] at ht; exact absurd ht (by decide)
  obtain ⟨eb, lb⟩ := mIn_rng (m := 5) t1 (by decide)
  exact ⟨⟨eb, by omega⟩, t2, t3⟩
theorem smp_f {κ : gMem} {a x v : Int32} (ht : sSampleT κ a x v = 0) : ixL a 12 ∧ ¬ mIn x 0 (κ 7 0 4 - 1) = 0 ∧ ixL v 100 ∧ ¬ κ 3 (tN x) 9 < 0 ∧ κ 3 (tN x) 3 = 1 ∧ sHas κ (tN x) (tN a) = 0 := by
  have t1 : ¬ mIn a 0 11 = 0 := fun z => by rw [sSampleT, if_pos z] at ht; exact absurd ht (by decide)
  rw [sSampleT, if_neg t1] at ht
  have t2 : ¬ mIn x 0 (κ 7 0 4 - 1) = 0 := fun z => by rw [if_pos z] at ht; exact absurd ht (by decide)
  rw [if_neg t2] at ht
  have t3 : ¬ mIn v 0 99 = 0 := fun z => by rw [if_pos z] at ht; exact absurd ht (by decide)
  rw [if_neg t3] at ht
  have t4 : ¬ κ 3 (tN x) 9 < 0 := fun z => by rw [if_pos z] at ht; exact absurd ht (by decide)
  rw [if_neg t4] at ht
  have t5 : κ 3 (tN x) 3 = 1 := Classical.byContradiction fun z => by rw [if_neg z] at ht; exact absurd ht (by decide)
  rw [if_pos t5] at ht
  have t6 : ¬ sNb a (nI (tN (κ 3 (tN x) 0))) = 0 := fun z => by rw [if_pos z] at ht; exact absurd ht (by decide)
  rw [if_neg t6] at ht
  have t7 : sHas κ (tN x) (tN a) = 0 := Classical.byContradiction fun z => by rw [if_neg z] at ht; exact absurd ht (by decide)
  obtain ⟨ea, la⟩ := mIn_rng (m := 11) t1 (by decide)
  obtain ⟨ev, lv⟩ := mIn_rng (m := 99) t3 (by decide)
  exact ⟨⟨ea, by omega⟩, t2, ⟨ev, by omega⟩, t4, t5, t7⟩
theorem smp_0 {κ μ : gMem} {r s : Nat} (h : Rel κ μ) (hr : r < tN (κ 7 0 4)) (hs : s < 12) (h9 : ¬ κ 3 r 9 < 0) (h : sHas κ r s = 0) : μ 45 0 (12 * r + s) = -1 := by
  rename_i hR
  rcases (hR.rd hr).2.2 with w | w
  · rw [w.1] at h9; exact absurd h9 (by decide)
  · refine (w.2.2.2.2.1.2.2.1 s hs).1.mp ?_
    rw [sHas] at h
    exact Classical.byContradiction fun z => by
      have z' : ¬ (κ 2 r 3 >>> (nI s &&& 31)) &&& 1 = 0 := z
      rw [if_neg z'] at h; exact absurd h (by decide)
