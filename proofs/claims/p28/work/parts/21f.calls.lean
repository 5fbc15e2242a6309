/-! ===== the other calls keep the ties ===== -/
theorem nb_eq0 : ∀ i, i < 12 → ∀ j, j < 12 → mNb (nI i) (nI j) = sNb (nI i) (nI j) := by decide +kernel
theorem nbs_eq0 : ∀ i, i < 12 → mNbs (nI i) 12 = sNbs (nI i) 12 := by decide +kernel
theorem nb_eq {a b : Int32} (ha : ixL a 12) (hb : ixL b 12) : mNb a b = sNb a b := by rw [ha.1, hb.1]; exact nb_eq0 _ ha.2 _ hb.2
theorem nbs_4 : ∀ i, i < 12 → mNbs (nI i) 12 = nI (tN (mNbs (nI i) 12)) ∧ 1 ≤ tN (mNbs (nI i) 12) ∧ tN (mNbs (nI i) 12) ≤ 4 := by decide +kernel
theorem RelX.rel {κ μ : gMem} {r : Nat} (h : RelX r κ μ) (hq : rQ κ μ r) : Rel κ μ := by
  obtain ⟨h1, h2, h3, h4, h5, h6, h7, h8, h9, r1, r2, r3⟩ := h
  refine ⟨h1, h2, h3, h4, h5, h6, fun r' hr => ?_, h8⟩
  by_cases e : r' = r
  · rw [e]; exact ⟨r1, r2, hq⟩
  · exact h7 r' hr e
theorem relx_add {κ μ : gMem} {r s : Nat} {v : Int32} (h : Rel κ μ) (hr : r < tN (κ 7 0 4)) (hs : s < 12) (hv : ixL v 100) (h0 : μ 45 0 (12 * r + s) = -1) (h9 : κ 3 r 9 = nI r) (h3 : κ 3 r 3 ≠ 0) (hc : κ 2 r 0 = μ 42 0 r) (hc6 : ixL (κ 2 r 0) 6) (hq : rSm κ μ r) (h4 : tN (κ 2 r 2) < 4) :
    RelX r (sAdd κ r s v) (upd3 μ 45 0 (12 * r + s) v) ∧ rSm (sAdd κ r s v) (upd3 μ 45 0 (12 * r + s) v) r := by
  obtain ⟨b1, b2, b3, -⟩ := sAdd_at (j := s) (v := v) hq.1.1 h4
  have hS := rSm_add hq hs hv h0 h4
  have c : ∀ f i k, f ≠ 2 → f ≠ 16 → sAdd κ r s v f i k = κ f i k := fun f i k f1 f2 => b3 f i k (by omega) (by omega)
  have m : ∀ f k, f ≠ 45 → upd3 μ 45 0 (12 * r + s) v f 0 k = μ f 0 k := fun f k f1 => upd3_f f1
  have e4 : sAdd κ r s v 7 0 4 = κ 7 0 4 := c _ _ _ (by decide) (by decide)
  have e6 : sAdd κ r s v 7 0 6 = κ 7 0 6 := c _ _ _ (by decide) (by decide)
  have e7 : κ 7 0 7 ≤ sAdd κ r s v 7 0 7 := by rw [c 7 0 7 (by decide) (by decide)]; exact Int32.le_refl _
  have hn := h.1.2.2.2.2.2
  obtain ⟨h1, h2, h3', h4', h5, h6, h7, h8⟩ := h
  obtain ⟨p1, p2, p3⟩ := h7 r hr
  refine ⟨⟨h1.to e6 (c _ _ _ (by decide) (by decide)) e4 rfl rfl rfl, fun k hk => (h2 k hk).to (c _ _ _ (by decide) (by decide)) (c _ _ _ (by decide) (by decide)) (c _ _ _ (by decide) (by decide)) rfl rfl rfl rfl (by rw [e4]; exact Nat.le_refl _), fun k hk => (h3' k hk).to (fun j _ => c _ _ _ (by decide) (by decide)) (fun f f1 f2 => m _ _ (by omega)), fun k hk => (h4' k hk).to e4 (c _ _ _ (by decide) (by decide)) (c _ _ _ (by decide) (by decide)) (fun r => ⟨c _ _ _ (by decide) (by decide), c _ _ _ (by decide) (by decide)⟩), fun b hb => ?_, fun b k hb hk => (h6 b k hb hk).to (c _ _ _ (by decide) (by decide)) (fun j => c _ _ _ (by decide) (by decide)) (fun f f1 f2 => m _ _ (by omega)) e6 e7, fun r' hr' hne => ?_, fun r' a b => ?_, by rw [e4]; exact hr, p1.to (fun j _ _ _ _ => c _ _ _ (by decide) (by decide)) (fun f f1 f2 => m _ _ (by omega)) rfl, p2.to (c _ _ _ (by decide) (by decide)) (c _ _ _ (by decide) (by decide)) (c _ _ _ (by decide) (by decide)) (c _ _ _ (by decide) (by decide)) (fun b _ => c _ _ _ (by decide) (by decide)) (fun b _ => rfl) rfl rfl e6 e7, Or.inr ⟨?_, ?_, ?_, ?_, hS⟩⟩, hS⟩
  · rw [rB, c _ _ _ (by decide) (by decide)]; exact h5 b hb
  · rw [e4] at hr'
    obtain ⟨a1, a2, a3⟩ := h7 r' hr'
    exact ⟨a1.to (fun j _ _ _ _ => c _ _ _ (by decide) (by decide)) (fun f f1 f2 => m _ _ (by omega)) rfl, a2.to (c _ _ _ (by decide) (by decide)) (c _ _ _ (by decide) (by decide)) (c _ _ _ (by decide) (by decide)) (c _ _ _ (by decide) (by decide)) (fun b _ => c _ _ _ (by decide) (by decide)) (fun b _ => rfl) rfl rfl e6 e7, a3.to (c _ _ _ (by decide) (by decide)) (c _ _ _ (by decide) (by decide)) (fun k => b3 _ _ _ (by omega) (by omega)) (fun k => b3 _ _ _ (by omega) (by omega)) (fun k hk => upd3_k (by omega)) rfl rfl⟩
  · rw [e4] at a
    exact (h8 r' a b).to rfl rfl (fun _ _ => rfl) (fun k hk => upd3_k (by omega))
  · rw [c _ _ _ (by decide) (by decide)]; exact h9
  · rw [c _ _ _ (by decide) (by decide)]; exact h3
  · rw [b3 2 r 0 (by omega) (by omega)]; exact hc
  · rw [b3 2 r 0 (by omega) (by omega)]; exact hc6
theorem rel_sample {κ μ : gMem} {r s : Nat} {v : Int32} (h : Rel κ μ) (hr : r < tN (κ 7 0 4)) (hs : s < 12) (hv : ixL v 100) (h0 : μ 45 0 (12 * r + s) = -1) (h9 : ¬ κ 3 r 9 < 0) (h1 : κ 3 r 3 = 1) :
    Rel (sSampleK κ s r v) (mSampleK μ s r v) := by
  obtain ⟨p1, p2, p3⟩ := h.rd hr
  rcases p3 with ⟨q1, -⟩ | ⟨q1, q2, q3, q4, q5, q6⟩
  · exact absurd (show κ 3 r 9 < 0 by rw [q1]; decide) h9
  have hlt := q6 h1
  have h12 := p1.2.2.2.2.2.2.2
  obtain ⟨k1, k2, k3⟩ := nbs_4 _ h12.2
  rw [← h12.1, p1.1] at k1 k2 k3
  obtain ⟨q, hq⟩ : ∃ q, tN (mNbs (μ 37 0 r) 12) = q := ⟨_, rfl⟩
  rw [hq] at k1 k2 k3
  obtain ⟨c, hcd⟩ : ∃ c, tN (κ 2 r 2) = c := ⟨_, rfl⟩
  have hc5 := q5.1.2
  have e2 : κ 2 r 2 = nI c := by rw [← hcd]; exact q5.1.1
  rw [k1, e2] at hlt
  have hlt := (nI_ltI (show c < 2 ^ 31 by omega) (show q < 2 ^ 31 by omega)).mp hlt
  obtain ⟨x1, x2⟩ := relx_add h hr hs hv h0 q1 q2 q3 q4 q5 (by omega)
  obtain ⟨b1, b2, b3, -⟩ := sAdd_at (j := s) (v := v) e2 (by omega)
  have es : sNbs (nI (tN (κ 3 r 0))) 12 = nI q := by rw [← nbs_eq0 _ h12.2, ← h12.1, p1.1, k1]
  have em : mSmp (upd3 μ 45 0 (12 * r + s) v) r 12 = nI (c + 1) := by
    rw [mSmp_at, ← x2.2.1, b1, tN_nI (by omega)]
  have eo : sAdd κ r s v 3 r 3 = 1 := (b3 3 r 3 (by omega) (by omega)).trans h1
  rw [sSampleK, mSampleK, b1, es, em, k1]
  by_cases e : nI (c + 1) = nI q
  · rw [if_pos e, if_pos e]
    refine rel_judge x1 (Or.inr eo) ?_ x2
    rw [b3 2 r 0 (by omega) (by omega)]; exact q3
  · rw [if_neg e, if_neg e]
    refine x1.rel (Or.inr ⟨?_, by rw [eo]; decide, ?_, ?_, x2, fun _ => ?_⟩)
    · rw [b3 3 r 9 (by omega) (by omega)]; exact q1
    · rw [b3 2 r 0 (by omega) (by omega)]; exact q3
    · rw [b3 2 r 0 (by omega) (by omega)]; exact q4
    · show sAdd κ r s v 2 r 2 < mNbs (μ 37 0 r) 12
      rw [b1, k1]
      have : c + 1 ≠ q := fun z => e (by rw [z])
      exact (nI_ltI (by omega) (by omega)).mpr (by omega)
theorem sMax_l {x y : Int32} : x ≤ sMax x y := by
  rw [sMax]; split
  · rename_i h; exact i32_lt_le h
  · exact Int32.le_refl _
theorem sMax_r {x y : Int32} : y ≤ sMax x y := by
  rw [sMax]; split
  · exact Int32.le_refl _
  · rename_i h; exact Int32.not_lt.mp h
theorem sChallengeK_at (κ : gMem) (b r : Nat) :
    (∀ k, sChallengeK κ b r 1 k 0 = if k = b then κ 1 k 0 - 4 else κ 1 k 0) ∧ sChallengeK κ b r 3 r 3 = 1 ∧ sChallengeK κ b r 3 r 4 = κ 7 0 6 + 4 ∧ sChallengeK κ b r 3 r 9 = nI r ∧
    (∀ j, sChallengeK κ b r 2 r j = sNewC b j) ∧ (∀ j, sChallengeK κ b r 16 r j = 0) ∧ sChallengeK κ b r 7 0 7 = sMax (κ 7 0 7) (κ 7 0 6 + 4) ∧
    (∀ f i k, f ≠ 1 → f ≠ 2 ∨ i ≠ r → f ≠ 16 ∨ i ≠ r → f ≠ 3 ∨ i ≠ r ∨ (k ≠ 3 ∧ k ≠ 4 ∧ k ≠ 9) → f ≠ 7 ∨ k ≠ 7 → sChallengeK κ b r f i k = κ f i k) := by
  have e : sChallengeK κ b r = upd3 (upd3 (upd3 (updR (updR (upd3 (upd3 κ 1 b 0 (κ 1 b 0 - 4)) 3 r 3 1) 2 r (sNewC b)) 16 r (fun _ => 0)) 3 r 9 (nI r)) 3 r 4 (κ 7 0 6 + 4)) 7 0 7 (sMax (κ 7 0 7) (κ 7 0 6 + 4)) := by
    rw [sChallengeK, sWait, upd3_f (show 7 ≠ 3 by decide), updR_far (by omega), updR_far (by omega), upd3_f (show 7 ≠ 3 by decide), upd3_f (show 7 ≠ 1 by decide), upd3_f (show 7 ≠ 3 by decide), updR_far (by omega), updR_far (by omega), upd3_f (show 7 ≠ 3 by decide), upd3_f (show 7 ≠ 1 by decide)]
  rw [e]
  refine ⟨fun k => ?_, ?_, ?_, ?_, fun j => ?_, fun j => ?_, upd3_s, fun f i k f1 f2 f3 f4 f5 => ?_⟩
  · rw [upd3_f (by decide), upd3_f (by decide), upd3_f (by decide), updR_far (by omega), updR_far (by omega), upd3_f (by decide)]
    by_cases ek : k = b
    · rw [if_pos ek, ek, upd3_s]
    · rw [if_neg ek, upd3_n (fun z => ek z.2.1)]
  · rw [upd3_f (by decide), upd3_k (by decide), upd3_k (by decide), updR_far (by omega), updR_far (by omega), upd3_s]
  · rw [upd3_f (by decide), upd3_s]
  · rw [upd3_f (by decide), upd3_k (by decide), upd3_s]
  · rw [upd3_f (by decide), upd3_f (by decide), upd3_f (by decide), updR_far (by omega), updR_s]
  · rw [upd3_f (by decide), upd3_f (by decide), upd3_f (by decide), updR_s]
  · rw [upd3_n (by omega), upd3_n (by omega), upd3_n (by omega), updR_far (by omega), updR_far (by omega), upd3_n (by omega), upd3_f f1]
theorem mChallengeK_at (μ : gMem) (b : Int32) (r : Nat) :
    (∀ k, mChallengeK μ b r 30 0 k = if k = tN b then μ 30 0 k - 4 else μ 30 0 k) ∧ mChallengeK μ b r 39 0 r = 1 ∧ mChallengeK μ b r 42 0 r = b ∧ mChallengeK μ b r 41 0 r = μ 8 0 0 ∧
    (∀ f i k, f ≠ 30 → f ≠ 39 ∨ k ≠ r → f ≠ 42 ∨ k ≠ r → f ≠ 41 ∨ k ≠ r → mChallengeK μ b r f i k = μ f i k) := by
  refine ⟨fun k => ?_, ?_, ?_, ?_, fun f i k f1 f2 f3 f4 => ?_⟩
  · rw [mChallengeK, upd3_f (by decide), upd3_f (by decide), upd3_f (by decide)]
    by_cases ek : k = tN b
    · rw [if_pos ek, ek, upd3_s]
    · rw [if_neg ek, upd3_k ek]
  · rw [mChallengeK, upd3_f (by decide), upd3_f (by decide), upd3_s]
  · rw [mChallengeK, upd3_f (by decide), upd3_s]
  · rw [mChallengeK, upd3_s]
  · rw [mChallengeK, upd3_n (by omega), upd3_n (by omega), upd3_n (by omega), upd3_f f1]
theorem time_add {x : Int32} {n : Nat} (h : ixL x 10001) : x + nI n = nI (tN x + n) := by
  obtain ⟨T, h1, rfl⟩ := ixL_ex h
  rw [tN_nI (by omega)]; exact nI_add T n
theorem bit_zero : ∀ k, k < 12 → bitB 0 k = 0 := by decide +kernel
theorem nSm_none {μ : gMem} {r : Nat} : ∀ n, (∀ k, k < n → μ 45 0 (12 * r + k) = -1) → nSm μ r n = 0 ∧ ∀ x, nLe μ r x n = 0
  | 0, _ => ⟨rfl, fun _ => rfl⟩
  | n + 1, h => by
    obtain ⟨a, b⟩ := nSm_none n (fun k hk => h k (by omega))
    exact ⟨by rw [nSm, a, if_pos (h n (by omega))], fun x => by rw [nLe, b x, if_pos (h n (by omega))]⟩
theorem rel_challenge {κ μ : gMem} {r : Nat} {b : Int32} (h : Rel κ μ) (hr : r < tN (κ 7 0 4)) (hb : ixL b 6) (h3 : κ 3 r 3 = 0) : Rel (sChallengeK κ (tN b) r) (mChallengeK μ b r) := by
  obtain ⟨a1, a2, a3, a4, a5, a6, a7, a8⟩ := sChallengeK_at κ (tN b) r
  obtain ⟨b1, b2, b3, b4, b5⟩ := mChallengeK_at μ b r
  have hn := h.1.2.2.2.2.2
  have hT := h.1.2.1
  have c : ∀ f i k, f ≠ 1 → f ≠ 2 → f ≠ 16 → f ≠ 3 → f ≠ 7 → sChallengeK κ (tN b) r f i k = κ f i k := fun f i k f1 f2 f3 f4 f5 => a8 f i k f1 (by omega) (by omega) (by omega) (by omega)
  have c7 : ∀ k, k ≠ 7 → sChallengeK κ (tN b) r 7 0 k = κ 7 0 k := fun k hk => a8 7 0 k (by decide) (by omega) (by omega) (by omega) (by omega)
  have c3 : ∀ i k, i ≠ r ∨ (k ≠ 3 ∧ k ≠ 4 ∧ k ≠ 9) → sChallengeK κ (tN b) r 3 i k = κ 3 i k := fun i k hk => a8 3 i k (by decide) (by omega) (by omega) (by omega) (by omega)
  have m : ∀ f k, f ≠ 30 → f ≠ 39 → f ≠ 42 → f ≠ 41 → mChallengeK μ b r f 0 k = μ f 0 k := fun f k f1 f2 f3 f4 => b5 f 0 k f1 (by omega) (by omega) (by omega)
  have mr : ∀ f k, f ≠ 30 → k ≠ r → mChallengeK μ b r f 0 k = μ f 0 k := fun f k f1 f2 => b5 f 0 k f1 (by omega) (by omega) (by omega)
  have e4 := c7 4 (by decide)
  have e6 := c7 6 (by decide)
  have e7 : κ 7 0 7 ≤ sChallengeK κ (tN b) r 7 0 7 := by rw [a7]; exact sMax_l
  have eT : κ 7 0 6 + 4 = nI (tN (κ 7 0 6) + 4) := time_add (n := 4) hT
  obtain ⟨h1, h2, h3', h4', h5, h6, h7, h8⟩ := h
  obtain ⟨p1, p2, p3⟩ := h7 r hr
  refine ⟨h1.to e6 (c7 5 (by decide)) e4 (m _ _ (by decide) (by decide) (by decide) (by decide)) (m _ _ (by decide) (by decide) (by decide) (by decide)) (m _ _ (by decide) (by decide) (by decide) (by decide)),
    fun k hk => (h2 k hk).to (c _ _ _ (by decide) (by decide) (by decide) (by decide) (by decide)) (c _ _ _ (by decide) (by decide) (by decide) (by decide) (by decide)) (c _ _ _ (by decide) (by decide) (by decide) (by decide) (by decide)) (m _ _ (by decide) (by decide) (by decide) (by decide)) (m _ _ (by decide) (by decide) (by decide) (by decide)) (m _ _ (by decide) (by decide) (by decide) (by decide)) (m _ _ (by decide) (by decide) (by decide) (by decide)) (by rw [e4]; exact Nat.le_refl _),
    fun k hk => (h3' k hk).to (fun j _ => c _ _ _ (by decide) (by decide) (by decide) (by decide) (by decide)) (fun f f1 f2 => m _ _ (by omega) (by omega) (by omega) (by omega)),
    fun k hk => (h4' k hk).to e4 (c _ _ _ (by decide) (by decide) (by decide) (by decide) (by decide)) (c _ _ _ (by decide) (by decide) (by decide) (by decide) (by decide)) (fun r' => ⟨c3 _ _ (by omega), c3 _ _ (by omega)⟩),
    fun k hk => ?_, fun k s hk hs => (h6 k s hk hs).to (c _ _ _ (by decide) (by decide) (by decide) (by decide) (by decide)) (fun j => c _ _ _ (by decide) (by decide) (by decide) (by decide) (by decide)) (fun f f1 f2 => m _ _ (by omega) (by omega) (by omega) (by omega)) e6 e7, fun r' hr' => ?_, fun r' x y => ?_⟩
  · rw [rB, a1, b1]
    have := h5 k hk
    rw [rB] at this
    rw [this]
  · rw [e4] at hr'
    by_cases e : r' = r
    · subst e
      refine ⟨?_, ?_, ?_⟩
      · obtain ⟨z1, z2, z3, z4, z5, z6, z7, z8⟩ := p1
        refine ⟨?_, ?_, ?_, ?_, by rw [a2, b2], by rw [a2]; exact ixL.nI (j := 1) (by decide) (by decide), ?_, ?_⟩
        · rw [c3 _ _ (by omega), m _ _ (by decide) (by decide) (by decide) (by decide)]; exact z1
        · rw [c3 _ _ (by omega), m _ _ (by decide) (by decide) (by decide) (by decide)]; exact z2
        · rw [c3 _ _ (by omega)]; exact z3
        · rw [c3 _ _ (by omega), m _ _ (by decide) (by decide) (by decide) (by decide)]; exact z4
        · rw [c3 _ _ (by omega), m _ _ (by decide) (by decide) (by decide) (by decide)]; exact z7
        · rw [c3 _ _ (by omega)]; exact z8
      · obtain ⟨o1, o2, o3⟩ := p2.opn (Or.inl h3)
        refine Or.inl ⟨Or.inr a2, fun k hk => ?_, ?_, ?_, tN (κ 7 0 6), ?_, by rw [a3]; exact eT, by rw [e6]; omega, by have := hT.2; omega, by rw [a7, ← eT]; exact sMax_r⟩
        · rw [rU, c _ _ _ (by decide) (by decide) (by decide) (by decide) (by decide), m _ _ (by decide) (by decide) (by decide) (by decide), m _ _ (by decide) (by decide) (by decide) (by decide)]; exact o1 k hk
        · rw [c3 _ _ (by omega), mHeld_congr 6 (fun k hk => m _ _ (by decide) (by decide) (by decide) (by decide))]; exact o2
        · rw [c3 _ _ (by omega)]; exact o3
        · rw [b4, ← h1.1]; exact hT.1
      · have hall : ∀ k, k < 12 → μ 45 0 (12 * r' + k) = -1 := by
          rcases p3 with ⟨q1, q2, q3⟩ | ⟨q1, q2, q3⟩
          · exact q3
          · exact absurd h3 q2
        have hall' : ∀ k, k < 12 → mChallengeK μ b r' 45 0 (12 * r' + k) = -1 := fun k hk => (m _ _ (by decide) (by decide) (by decide) (by decide)).trans (hall k hk)
        obtain ⟨n1, n2⟩ := nSm_none 12 hall'
        have e20 : sChallengeK κ (tN b) r' 2 r' 0 = b := by rw [a5]; exact hb.1.symm
        have e22 : sChallengeK κ (tN b) r' 2 r' 2 = 0 := by rw [a5]; rfl
        have e23 : sChallengeK κ (tN b) r' 2 r' 3 = 0 := by rw [a5]; rfl
        have z0 : tN (0 : Int32) = 0 := by decide +kernel
        refine Or.inr ⟨a4, by rw [a2]; decide, by rw [e20, b3], by rw [e20]; exact hb, ⟨by rw [e22]; exact ixL0 (by decide), by rw [e22, n1]; exact z0, fun k hk => ⟨⟨fun _ => hall' k hk, fun _ => by rw [e23]; exact bit_zero k hk⟩, Or.inl (hall' k hk)⟩, fun i j _ hj => ?_, fun x => ?_⟩, fun _ => ?_⟩
        · rw [e22, z0] at hj; omega
        · rw [e22, z0, n2 x]; rfl
        · have h12 := p1.2.2.2.2.2.2.2
          obtain ⟨k1, k2, k3⟩ := nbs_4 _ h12.2
          rw [← h12.1, p1.1] at k1 k2 k3
          rw [e22, m _ _ (by decide) (by decide) (by decide) (by decide), k1]
          exact (nI_ltI (show 0 < 2 ^ 31 by decide) (by omega)).mpr (by omega)
    · obtain ⟨q1, q2, q3⟩ := h7 r' hr'
      have c2 : ∀ k, sChallengeK κ (tN b) r 2 r' k = κ 2 r' k := fun k => a8 2 r' k (by decide) (by omega) (by omega) (by omega) (by omega)
      have c16 : ∀ k, sChallengeK κ (tN b) r 16 r' k = κ 16 r' k := fun k => a8 16 r' k (by decide) (by omega) (by omega) (by omega) (by omega)
      exact ⟨q1.to (fun j _ _ _ _ => c3 _ _ (by omega)) (fun f f1 f2 => mr _ _ (by omega) e) (mr _ _ (by decide) e), q2.to (c3 _ _ (by omega)) (c3 _ _ (by omega)) (c3 _ _ (by omega)) (c3 _ _ (by omega)) (fun b _ => c _ _ _ (by decide) (by decide) (by decide) (by decide) (by decide)) (fun b _ => m _ _ (by decide) (by decide) (by decide) (by decide)) (mr _ _ (by decide) e) (mr _ _ (by decide) e) e6 e7, q3.to (c3 _ _ (by omega)) (c3 _ _ (by omega)) c2 c16 (fun k hk => m _ _ (by decide) (by decide) (by decide) (by decide)) (mr _ _ (by decide) e) (mr _ _ (by decide) e)⟩
  · rw [e4] at x
    have e : r' ≠ r := by omega
    exact (h8 r' x y).to (mr _ _ (by decide) e) (mr _ _ (by decide) e) (fun _ _ => m _ _ (by decide) (by decide) (by decide) (by decide)) (fun _ _ => m _ _ (by decide) (by decide) (by decide) (by decide))
theorem sOpenK_at (κ : gMem) (b s : Nat) (t : Int32) :
    (∀ k, sOpenK κ b s t 1 k 0 = if k = b then κ 1 k 0 - κ 5 s 2 * t else κ 1 k 0) ∧ (∀ j, sOpenK κ b s t 6 (12 * b + s) j = sNewW (κ 5 s 2) (κ 7 0 6 + t - 1) (κ 5 s 2 * t) j) ∧ sOpenK κ b s t 14 b s = nI (12 * b + s) ∧ sOpenK κ b s t 7 0 7 = sMax (κ 7 0 7) (κ 7 0 6 + t - 1) ∧
    (∀ f i k, f ≠ 1 → f ≠ 6 ∨ i ≠ 12 * b + s → f ≠ 14 ∨ i ≠ b ∨ k ≠ s → f ≠ 7 ∨ k ≠ 7 → sOpenK κ b s t f i k = κ f i k) := by
  refine ⟨fun k => ?_, fun j => ?_, ?_, upd3_s, fun f i k f1 f2 f3 f4 => ?_⟩
  · rw [sOpenK, upd3_f (by decide), upd3_f (by decide), updR_far (by omega)]
    by_cases ek : k = b
    · rw [if_pos ek, ek, upd3_s]
    · rw [if_neg ek, upd3_n (fun z => ek z.2.1)]
  · rw [sOpenK, upd3_f (by decide), upd3_f (by decide), updR_s]
  · rw [sOpenK, upd3_f (by decide), upd3_s]
  · rw [sOpenK, upd3_n (by omega), upd3_n (by omega), updR_far (by omega), upd3_f f1]
theorem mOpenK_at (μ : gMem) (b s : Nat) (t : Int32) :
    (∀ k, mOpenK μ b s t 30 0 k = if k = b then μ 30 0 k - t * μ 28 0 s else μ 30 0 k) ∧ mOpenK μ b s t 32 0 (12 * b + s) = 1 ∧ mOpenK μ b s t 33 0 (12 * b + s) = μ 8 0 0 + t - 1 ∧ mOpenK μ b s t 34 0 (12 * b + s) = μ 28 0 s ∧ mOpenK μ b s t 35 0 (12 * b + s) = t * μ 28 0 s ∧
    (∀ f i k, f ≠ 30 → f < 32 ∨ 36 ≤ f ∨ k ≠ 12 * b + s → mOpenK μ b s t f i k = μ f i k) := by
  refine ⟨fun k => ?_, ?_, ?_, ?_, ?_, fun f i k f1 f2 => ?_⟩
  · rw [mOpenK]
    by_cases ek : k = b
    · rw [if_pos ek, ek, upd3_s]
    · rw [if_neg ek, upd3_k ek, upd3_f (by decide), upd3_f (by decide), upd3_f (by decide), upd3_f (by decide)]
  · rw [mOpenK, upd3_f (by decide), upd3_f (by decide), upd3_f (by decide), upd3_f (by decide), upd3_s]
  · rw [mOpenK, upd3_f (by decide), upd3_f (by decide), upd3_f (by decide), upd3_s]
  · rw [mOpenK, upd3_f (by decide), upd3_f (by decide), upd3_s]
  · rw [mOpenK, upd3_f (by decide), upd3_s]
  · rw [mOpenK, upd3_f f1, upd3_n (by omega), upd3_n (by omega), upd3_n (by omega), upd3_n (by omega)]
theorem rel_opn {κ μ : gMem} {b s t : Nat} (h : Rel κ μ) (hb : b < 6) (hs : s < 12) (h1 : 1 ≤ t) (h20 : t ≤ 20) : Rel (sOpenK κ b s (nI t)) (mOpenK μ b s (nI t)) := by
  obtain ⟨a1, a2, a3, a4, a5⟩ := sOpenK_at κ b s (nI t)
  obtain ⟨b1, b2, b3, b4, b5, b6⟩ := mOpenK_at μ b s (nI t)
  have hT := h.1.2.1
  have c : ∀ f i k, f ≠ 1 → f ≠ 6 → f ≠ 14 → f ≠ 7 → sOpenK κ b s (nI t) f i k = κ f i k := fun f i k f1 f2 f3 f4 => a5 f i k f1 (by omega) (by omega) (by omega)
  have c7 : ∀ k, k ≠ 7 → sOpenK κ b s (nI t) 7 0 k = κ 7 0 k := fun k hk => a5 7 0 k (by decide) (by omega) (by omega) (by omega)
  have m : ∀ f k, f ≠ 30 → f < 32 ∨ 36 ≤ f → mOpenK μ b s (nI t) f 0 k = μ f 0 k := fun f k f1 f2 => b6 f 0 k f1 (by omega)
  have e4 := c7 4 (by decide)
  have e6 := c7 6 (by decide)
  have e7 : κ 7 0 7 ≤ sOpenK κ b s (nI t) 7 0 7 := by rw [a4]; exact sMax_l
  have eT : κ 7 0 6 + nI t - 1 = nI (tN (κ 7 0 6) + t - 1) := by
    rw [time_add hT]
    obtain ⟨q, hq⟩ : ∃ q, tN (κ 7 0 6) + t = q + 1 := ⟨tN (κ 7 0 6) + t - 1, by omega⟩
    rw [hq, nI_pred]; rfl
  obtain ⟨h1', h2, h3', h4', h5, h6, h7, h8⟩ := h
  have hS := h3' s hs
  refine ⟨h1'.to e6 (c7 5 (by decide)) e4 (m _ _ (by decide) (by decide)) (m _ _ (by decide) (by decide)) (m _ _ (by decide) (by decide)),
    fun k hk => (h2 k hk).to (c _ _ _ (by decide) (by decide) (by decide) (by decide)) (c _ _ _ (by decide) (by decide) (by decide) (by decide)) (c _ _ _ (by decide) (by decide) (by decide) (by decide)) (m _ _ (by decide) (by decide)) (m _ _ (by decide) (by decide)) (m _ _ (by decide) (by decide)) (m _ _ (by decide) (by decide)) (by rw [e4]; exact Nat.le_refl _),
    fun k hk => (h3' k hk).to (fun j _ => c _ _ _ (by decide) (by decide) (by decide) (by decide)) (fun f f1 f2 => m _ _ (by omega) (by omega)),
    fun k hk => (h4' k hk).to e4 (c _ _ _ (by decide) (by decide) (by decide) (by decide)) (c _ _ _ (by decide) (by decide) (by decide) (by decide)) (fun r' => ⟨c _ _ _ (by decide) (by decide) (by decide) (by decide), c _ _ _ (by decide) (by decide) (by decide) (by decide)⟩),
    fun k hk => ?_, fun k j hk hj => ?_, fun r' hr' => ?_, fun r' x y => ?_⟩
  · rw [rB, a1, b1]
    have := h5 k hk
    rw [rB] at this
    rw [this, hS.2.2.1, Int32.mul_comm]
  · by_cases e : k = b ∧ j = s
    · obtain ⟨rfl, rfl⟩ := e
      right
      refine ⟨a3, b2, by rw [a2, b4, ← hS.2.2.1]; rfl, by rw [a2, b3, ← h1'.1]; rfl, by rw [a2, b5, ← hS.2.2.1, Int32.mul_comm]; rfl, ?_, tN (κ 7 0 6) + t - 1, ?_, by rw [e6]; omega, by have := hT.2; omega, by rw [a4, ← eT]; exact sMax_r⟩
      · rw [a2]
        refine ⟨tN (κ 5 j 2), ?_, by have := hS.2.2.2.1.2; omega, hS.2.2.2.1.1⟩
        rcases Nat.eq_zero_or_pos (tN (κ 5 j 2)) with z | z
        · exact absurd (by rw [hS.2.2.2.1.1, z]; rfl) hS.2.2.2.2.1
        · exact z
      · rw [a2]; exact eT
    · have hne : ¬ (12 * k + j = 12 * b + s) := fun z => e (by omega)
      exact (h6 k j hk hj).to (a5 _ _ _ (by decide) (by omega) (by omega) (by omega)) (fun q => a5 _ _ _ (by decide) (by omega) (by omega) (by omega)) (fun f f1 f2 => b6 _ _ _ (by omega) (by omega)) e6 e7
  · rw [e4] at hr'
    obtain ⟨q1, q2, q3⟩ := h7 r' hr'
    exact ⟨q1.to (fun j _ _ _ _ => c _ _ _ (by decide) (by decide) (by decide) (by decide)) (fun f f1 f2 => m _ _ (by omega) (by omega)) (m _ _ (by decide) (by decide)), q2.to (c _ _ _ (by decide) (by decide) (by decide) (by decide)) (c _ _ _ (by decide) (by decide) (by decide) (by decide)) (c _ _ _ (by decide) (by decide) (by decide) (by decide)) (c _ _ _ (by decide) (by decide) (by decide) (by decide)) (fun b _ => c _ _ _ (by decide) (by decide) (by decide) (by decide)) (fun b _ => m _ _ (by decide) (by decide)) (m _ _ (by decide) (by decide)) (m _ _ (by decide) (by decide)) e6 e7, q3.to (c _ _ _ (by decide) (by decide) (by decide) (by decide)) (c _ _ _ (by decide) (by decide) (by decide) (by decide)) (fun k => c _ _ _ (by decide) (by decide) (by decide) (by decide)) (fun k => c _ _ _ (by decide) (by decide) (by decide) (by decide)) (fun k hk => m _ _ (by decide) (by decide)) (m _ _ (by decide) (by decide)) (m _ _ (by decide) (by decide))⟩
  · rw [e4] at x
    exact (h8 r' x y).to (m _ _ (by decide) (by decide)) (m _ _ (by decide) (by decide)) (fun _ _ => m _ _ (by decide) (by decide)) (fun _ _ => m _ _ (by decide) (by decide))
