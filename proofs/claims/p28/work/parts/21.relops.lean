/-! ===== the small calls keep the ties ===== -/
theorem rel_hang {κ μ : gMem} {a b : Int32} (h : Rel κ μ) (ht : sHangT a b = 0) : μ 21 0 (tN a) = nI (tN (κ 4 (tN a) 1)) ∧ Rel (upd3 κ 4 (tN a) 1 (nI (tN b))) (upd3 (mCan μ 0) 21 0 (tN a) b) := by
  obtain ⟨h1, h2, h3, h4, h5, h6, h7, h8⟩ := h
  have t1 : ¬ mIn a 0 5 = 0 := fun z => by rw [sHangT, if_pos z] at ht; exact absurd ht (by decide)
  rw [sHangT, if_neg t1] at ht
  have t2 : ¬ mIn b 0 5 = 0 := fun z => by rw [if_pos z] at ht; exact absurd ht (by decide)
  rw [if_neg t2] at ht
  have t3 : ¬ tN a = 0 := fun z => by rw [if_pos z] at ht; exact absurd ht (by decide)
  rw [if_neg t3] at ht
  have t4 : b < a := Classical.byContradiction fun z => by rw [if_neg z] at ht; exact absurd ht (by decide)
  obtain ⟨ea, la⟩ := mIn_rng (m := 5) t1 (by decide)
  obtain ⟨eb, lb⟩ := mIn_rng (m := 5) t2 (by decide)
  have lt : tN b < tN a := by
    rw [ea, eb] at t4
    exact (nI_ltI (by omega) (by omega)).mp t4
  have hk := h2 (tN a) (by omega)
  refine ⟨by rw [← (hk.1 t3).1]; exact (hk.1 t3).2.1, h1, fun k hk' => ?_, h3, fun k hk => (h4 k hk).to rfl rfl rfl (fun _ => ⟨rfl, rfl⟩), h5, h6, fun r hr => ?_, fun r a b => (h8 r a b).to rfl rfl (fun _ _ => rfl) (fun _ _ => rfl)⟩
  · by_cases e : k = tN a
    · subst e
      obtain ⟨a1, a2⟩ := hk
      refine ⟨fun _ => ?_, a2⟩
      rw [upd3_s, upd3_s]
      exact ⟨eb.symm, ixL.nI lt (by omega)⟩
    · exact (h2 k hk').to (by simp [upd3, e]) rfl rfl (by simp [upd3, mCan, e]) rfl rfl rfl (Nat.le_refl _)
  · obtain ⟨a1, a2, a3⟩ := h7 r hr
    exact ⟨a1, a2.to rfl rfl rfl rfl (fun _ _ => rfl) (fun _ _ => rfl) rfl rfl rfl (Int32.le_refl _), a3.to rfl rfl (fun _ => rfl) (fun _ => rfl) (fun _ _ => rfl) rfl rfl⟩
theorem rel_attach {κ μ : gMem} {a b : Int32} (h : Rel κ μ) (ht : mAttachT a b = 0) : μ 25 0 (tN a) = nI (tN (κ 5 (tN a) 1)) ∧ Rel (upd3 κ 5 (tN a) 1 (nI (tN b))) (upd3 (mCan μ 0) 25 0 (tN a) b) := by
  obtain ⟨h1, h2, h3, h4, h5, h6, h7, h8⟩ := h
  have t1 : ¬ mIn a 0 11 = 0 := fun z => by rw [mAttachT, if_pos z] at ht; exact absurd ht (by decide)
  rw [mAttachT, if_neg t1] at ht
  have t2 : ¬ mIn b 0 5 = 0 := fun z => by rw [if_pos z] at ht; exact absurd ht (by decide)
  obtain ⟨ea, la⟩ := mIn_rng (m := 11) t1 (by decide)
  obtain ⟨eb, lb⟩ := mIn_rng (m := 5) t2 (by decide)
  have hk := h3 (tN a) (by omega)
  refine ⟨by rw [← hk.1]; exact hk.2.1.1, h1, fun k hk => (h2 k hk).to rfl rfl rfl rfl rfl rfl rfl (Nat.le_refl _), fun k hk' => ?_, fun k hk => (h4 k hk).to rfl rfl rfl (fun _ => ⟨rfl, rfl⟩), h5, h6, fun r hr => ?_, fun r a b => (h8 r a b).to rfl rfl (fun _ _ => rfl) (fun _ _ => rfl)⟩
  · by_cases e : k = tN a
    · subst e
      obtain ⟨a1, a2, a3⟩ := hk
      have e1 : upd3 κ 5 (tN a) 1 (nI (tN b)) 5 (tN a) 1 = nI (tN b) := upd3_s
      refine ⟨?_, ?_, a3⟩
      · rw [e1, upd3_s]; exact eb.symm
      · rw [e1]; exact ixL.nI (by omega) (by decide)
    · refine (h3 k hk').to (fun j _ => by simp [upd3, e]) (fun f f1 f2 => ?_)
      by_cases ef : f = 25
      · subst ef; simp [upd3, mCan, e]
      · rw [upd3_f ef, mCan, upd3_f (by omega)]
  · obtain ⟨a1, a2, a3⟩ := h7 r hr
    exact ⟨a1, a2.to rfl rfl rfl rfl (fun _ _ => rfl) (fun _ _ => rfl) rfl rfl rfl (Int32.le_refl _), a3.to rfl rfl (fun _ => rfl) (fun _ => rfl) (fun _ _ => rfl) rfl rfl⟩
theorem rel_setLoss {κ μ : gMem} {a b : Int32} (h : Rel κ μ) (ht : mSetLossT a b = 0) : μ 24 0 (tN a) = sLost κ (tN a) ∧ Rel (sSetLossK κ (tN a) b) (mSetLossK (mCan μ 0) (tN a) b) := by
  obtain ⟨h1, h2, h3, h4, h5, h6, h7, h8⟩ := h
  have t1 : ¬ mIn a 0 5 = 0 := fun z => by rw [mSetLossT, if_pos z] at ht; exact absurd ht (by decide)
  rw [mSetLossT, if_neg t1] at ht
  obtain ⟨ea, la⟩ := mIn_rng (m := 5) t1 (by decide)
  have t2 : ixL b 10 := by
    by_cases hb : b = 0
    · rw [hb]; exact ixL.nI (j := 0) (by decide) (by decide)
    · rw [if_neg hb] at ht
      have t3 : ¬ mIn b 2 9 = 0 := fun z => by rw [if_pos z] at ht; exact absurd ht (by decide)
      obtain ⟨eb, lb, -⟩ := mIn_rng' (m := 9) t3 (by decide) (by decide)
      exact ⟨eb, by omega⟩
  have hk := h2 (tN a) (by omega)
  refine ⟨hk.2.2.2.2.2, h1, fun k hk' => ?_, h3, fun k hk => (h4 k hk).to rfl rfl rfl (fun _ => ⟨rfl, rfl⟩), h5, h6, fun r hr => ?_, fun r a b => (h8 r a b).to rfl rfl (fun _ _ => rfl) (fun _ _ => rfl)⟩
  · by_cases e : k = tN a
    · subst e
      obtain ⟨a1, a2⟩ := hk
      have e1 : sSetLossK κ (tN a) b 4 (tN a) 1 = κ 4 (tN a) 1 := by simp [mSetLossK, sSetLossK, upd3, mCan]
      have e2 : sSetLossK κ (tN a) b 4 (tN a) 2 = b := by simp [mSetLossK, sSetLossK, upd3, mCan]
      have e3 : sSetLossK κ (tN a) b 4 (tN a) 3 = 0 := by simp [mSetLossK, sSetLossK, upd3, mCan]
      have e4 : mSetLossK (mCan μ 0) (tN a) b 21 0 (tN a) = μ 21 0 (tN a) := by simp [mSetLossK, sSetLossK, upd3, mCan]
      have e5 : mSetLossK (mCan μ 0) (tN a) b 22 0 (tN a) = b := by simp [mSetLossK, sSetLossK, upd3, mCan]
      have e6 : mSetLossK (mCan μ 0) (tN a) b 23 0 (tN a) = 0 := by simp [mSetLossK, sSetLossK, upd3, mCan]
      have e7 : mSetLossK (mCan μ 0) (tN a) b 24 0 (tN a) = 0 := by simp [mSetLossK, sSetLossK, upd3, mCan]
      refine ⟨by rw [e1, e4]; exact a1, by rw [e2, e5], by rw [e3, e6], by rw [e2]; exact t2, by rw [e3]; exact ixL0 (by omega), ?_⟩
      rw [e7, sLost, e2, e3]
      by_cases hb : b ≤ 0
      · rw [if_pos hb]
      · rw [if_neg hb]
        obtain ⟨j, hj, rfl⟩ := ixL_ex t2
        have := nI_pos0 hb
        rw [show (0 : Int32) = nI 0 from rfl, pk_div (by omega) (by omega) (by omega), Nat.zero_div]
    · exact (h2 k hk').to (by simp [mSetLossK, sSetLossK, upd3, mCan, e]) (by simp [mSetLossK, sSetLossK, upd3, mCan, e]) (by simp [mSetLossK, sSetLossK, upd3, mCan, e]) (by simp [mSetLossK, sSetLossK, upd3, mCan, e]) (by simp [mSetLossK, sSetLossK, upd3, mCan, e]) (by simp [mSetLossK, sSetLossK, upd3, mCan, e]) (by simp [mSetLossK, sSetLossK, upd3, mCan, e]) (Nat.le_refl _)
  · obtain ⟨a1, a2, a3⟩ := h7 r hr
    exact ⟨a1, a2.to rfl rfl rfl rfl (fun _ _ => rfl) (fun _ _ => rfl) rfl rfl rfl (Int32.le_refl _), a3.to rfl rfl (fun _ => rfl) (fun _ => rfl) (fun _ _ => rfl) rfl rfl⟩
theorem rel_setPrice {κ μ : gMem} {a b : Int32} (h : Rel κ μ) (ht : mSetPriceT a b = 0) : μ 28 0 (tN a) = κ 5 (tN a) 2 ∧ Rel (upd3 κ 5 (tN a) 2 b) (upd3 (mCan μ 0) 28 0 (tN a) b) := by
  obtain ⟨h1, h2, h3, h4, h5, h6, h7, h8⟩ := h
  have t1 : ¬ mIn a 0 11 = 0 := fun z => by rw [mSetPriceT, if_pos z] at ht; exact absurd ht (by decide)
  rw [mSetPriceT, if_neg t1] at ht
  have t2 : ¬ mIn b 1 20 = 0 := fun z => by rw [if_pos z] at ht; exact absurd ht (by decide)
  obtain ⟨ea, la⟩ := mIn_rng (m := 11) t1 (by decide)
  obtain ⟨eb, lb, lb2⟩ := mIn_rng' (m := 20) t2 (by decide) (by decide)
  have hk := h3 (tN a) (by omega)
  refine ⟨hk.2.2.1.symm, h1, fun k hk => (h2 k hk).to rfl rfl rfl rfl rfl rfl rfl (Nat.le_refl _), fun k hk' => ?_, fun k hk => (h4 k hk).to rfl rfl rfl (fun _ => ⟨rfl, rfl⟩), h5, h6, fun r hr => ?_, fun r a b => (h8 r a b).to rfl rfl (fun _ _ => rfl) (fun _ _ => rfl)⟩
  · by_cases e : k = tN a
    · subst e
      obtain ⟨a1, a2, a3, a4, a5, a6⟩ := hk
      have e1 : upd3 κ 5 (tN a) 2 b 5 (tN a) 2 = b := upd3_s
      refine ⟨a1, a2, ?_, ?_, ?_, a6⟩
      · rw [e1, upd3_s]
      · rw [e1]; exact ⟨eb, by omega⟩
      · rw [e1]; intro z; rw [z] at lb2; exact absurd lb2 (by decide)
    · refine (h3 k hk').to (fun j _ => by simp [upd3, e]) (fun f f1 f2 => ?_)
      by_cases ef : f = 28
      · subst ef; simp [upd3, mCan, e]
      · rw [upd3_f ef, mCan, upd3_f (by omega)]
  · obtain ⟨a1, a2, a3⟩ := h7 r hr
    exact ⟨a1, a2.to rfl rfl rfl rfl (fun _ _ => rfl) (fun _ _ => rfl) rfl rfl rfl (Int32.le_refl _), a3.to rfl rfl (fun _ => rfl) (fun _ => rfl) (fun _ _ => rfl) rfl rfl⟩
theorem sCuts_add {κ κ' : gMem} {s : Nat} {x : Int32} (h5 : κ' 5 s 5 = κ 5 s 5 + x) (hr : ∀ r, κ' 3 r 0 = κ 3 r 0 ∧ κ' 3 r 8 = κ 3 r 8) : ∀ n, sCuts κ' s n = sCuts κ s n + x
  | 0 => by rw [sCuts, sCuts, h5, Int32.add_assoc]
  | n + 1 => by
    rw [sCuts, sCuts, (hr n).1, (hr n).2, sCuts_add h5 hr n]
    split
    · rw [Int32.sub_eq_add_neg, Int32.sub_eq_add_neg, Int32.add_assoc, Int32.add_assoc, Int32.add_comm x]
    · rfl
theorem topUpT_eq {κ μ : gMem} {a n : Int32} (h : Rel κ μ) : sTopUpT κ a n = mTopUpT μ a n := by
  rw [sTopUpT, mTopUpT]
  by_cases t1 : mIn a 0 11 = 0
  · rw [if_pos t1, if_pos t1]
  · obtain ⟨ea, la⟩ := mIn_rng (m := 11) t1 (by decide)
    rw [(h.2.2.1 (tN a) (by omega)).2.2.2.2.2.2.1]
theorem rel_topUp {κ μ : gMem} {a n : Int32} (h : Rel κ μ) (ht : sTopUpT κ a n = 0) : μ 26 0 (tN a) + n = sTopUpK κ (tN a) n 5 (tN a) 3 ∧ Rel (sTopUpK κ (tN a) n) (mTopUpK (mCan μ 0) (tN a) n) := by
  obtain ⟨h1, h2, h3, h4, h5, h6, h7, h8⟩ := h
  have t1 : ¬ mIn a 0 11 = 0 := fun z => by rw [sTopUpT, if_pos z] at ht; exact absurd ht (by decide)
  obtain ⟨ea, la⟩ := mIn_rng (m := 11) t1 (by decide)
  have hk := h3 (tN a) (by omega)
  have e3 : sTopUpK κ (tN a) n 5 (tN a) 3 = κ 5 (tN a) 3 + n := by simp [sTopUpK, upd3]
  refine ⟨by rw [e3, hk.2.2.2.2.2.1], h1, fun k hk => (h2 k hk).to rfl rfl rfl rfl rfl rfl rfl (Nat.le_refl _), fun k hk' => ?_, fun k hk' => ?_, h5, h6, fun r hr => ?_, fun r a b => (h8 r a b).to rfl rfl (fun _ _ => rfl) (fun _ _ => rfl)⟩
  · by_cases e : k = tN a
    · subst e
      obtain ⟨a1, a2, a3, a4, a5, a6, a7, a8⟩ := hk
      have g : ∀ j, j ≠ 3 → j ≠ 4 → j ≠ 5 → sTopUpK κ (tN a) n 5 (tN a) j = κ 5 (tN a) j := fun j i3 i4 i5 => by simp [mTopUpK, sTopUpK, upd3, mCan, i3, i4, i5]
      refine ⟨?_, ?_, ?_, ?_, ?_, ?_, ?_, ?_⟩
      · rw [g 1 (by decide) (by decide) (by decide)]; exact a1
      · rw [g 1 (by decide) (by decide) (by decide)]; exact a2
      · rw [g 2 (by decide) (by decide) (by decide)]; exact a3
      · rw [g 2 (by decide) (by decide) (by decide)]; exact a4
      · rw [g 2 (by decide) (by decide) (by decide)]; exact a5
      · simp [mTopUpK, sTopUpK, upd3, mCan, a6]
      · simp [mTopUpK, sTopUpK, upd3, mCan, a7]
      · rw [g 6 (by decide) (by decide) (by decide)]; exact a8
    · refine (h3 k hk').to (fun j _ => by simp [sTopUpK, upd3, e]) (fun f f1 f2 => by
      show upd3 (upd3 (mCan μ 0) 27 0 (tN a) _) 26 0 (tN a) _ f 0 k = μ f 0 k
      rw [upd3_k e, upd3_k e, mCan, upd3_f (by omega)])
  · by_cases e : k = tN a
    · subst e
      have g := h4 (tN a) hk'
      have e5 : sTopUpK κ (tN a) n 5 (tN a) 5 = κ 5 (tN a) 5 + n := by simp [mTopUpK, sTopUpK, upd3, mCan]
      have e3' : sTopUpK κ (tN a) n 5 (tN a) 3 = κ 5 (tN a) 3 + n := by simp [mTopUpK, sTopUpK, upd3, mCan]
      rw [rC, sCuts_add e5 (fun _ => ⟨rfl, rfl⟩), e3', ← g]
      rfl
    · exact (h4 k hk').to rfl (by simp [mTopUpK, sTopUpK, upd3, mCan, e]) (by simp [mTopUpK, sTopUpK, upd3, mCan, e]) (fun _ => ⟨rfl, rfl⟩)
  · obtain ⟨a1, a2, a3⟩ := h7 r hr
    exact ⟨a1, a2.to rfl rfl rfl rfl (fun _ _ => rfl) (fun _ _ => rfl) rfl rfl rfl (Int32.le_refl _), a3.to rfl rfl (fun _ => rfl) (fun _ => rfl) (fun _ _ => rfl) rfl rfl⟩
