/-! ===== class and reference side by side: what the law asks of each call ===== -/
def Inv (ids : gIds) (κ : gMem) : Prop := cV ids ∧ mV ids ∧ (18, 0) ∈ ids ∧ cWF ids κ ∧ cI ids κ ∧ mWF κ ∧ Rel κ κ
theorem Inv.can {ids : gIds} {κ : gMem} (J : Inv ids κ) (t : Int32) : Inv ids (mCan κ t) := by
  obtain ⟨h1, h2, h3, h4, h5, h6, h7⟩ := J
  exact ⟨h1, h2, h3, h4.upd rfl, h5.to rfl (fun _ => rfl), mCan_WF h6, (h7.can t).cong (cEq.upd (Or.inl rfl)) mEq.rf⟩
theorem mWF.eq {κ μ : gMem} (h : mWF κ) (he : mEq κ μ) : mWF μ := h.of (he _ _ _ (Or.inl rfl)) (fun _ => he _ _ _ (Or.inr (by decide))) (fun _ => he _ _ _ (Or.inr (by decide))) (fun _ => he _ _ _ (Or.inr (by decide))) (fun _ => he _ _ _ (Or.inr (by decide)))
theorem cTouch_lt {f k : Nat} (h : cTouch f k = true) : f ≠ 8 ∧ f < 18 := by
  have h2 : f = 7 ∨ f = 13 ∨ f = 3 ∨ f = 2 ∨ f = 4 ∨ f = 5 ∨ f = 14 := by
    simp [cTouch] at h
    omega
  omega
/-- a call that goes through, put together -/
theorem sim_mk {ids ids' : gIds} {κ C : gMem} {x : Int32} (mT mA : gMem → Int32) (mK : gMem → gMem) (J : Inv ids κ) (hCm : mEq κ C) (hr : ∀ μ, Rel κ μ → mT μ = 0 ∧ mA μ = x ∧ Rel C (mK (mCan μ 0)))
    (hk : ∀ μ, mWF μ → Rel κ μ → mWF (mK (mCan μ 0)) ∧ cEq μ (mK (mCan μ 0)) ∧ (mK (mCan μ 0)) 18 0 0 = μ 18 0 0 ∧ (mK (mCan μ 0)) 8 0 26 = 0) (hV : cV ids') (hM : mV ids') (h18 : (18, 0) ∈ ids') (hW : cWF ids' C) (hI : cI ids' C) :
    mWF (upd3 C 18 0 0 x) ∧ mT (upd3 C 18 0 0 x) = 0 ∧ mA (upd3 C 18 0 0 x) = x ∧ mK (mCan (upd3 C 18 0 0 x) 0) 8 0 26 = 0 ∧ mK (mCan (upd3 C 18 0 0 x) 0) 18 0 0 = x ∧ Inv ids' (mK (mCan (upd3 C 18 0 0 x) 0)) := by
  have he : mEq κ (upd3 C 18 0 0 x) := hCm.tr (mEq.upd (by decide) (by decide))
  have hw : mWF (upd3 C 18 0 0 x) := J.2.2.2.2.2.1.eq he
  have hRo : Rel κ (upd3 C 18 0 0 x) := J.2.2.2.2.2.2.cong cEq.rf he
  obtain ⟨r1, r2, r3⟩ := hr _ hRo
  obtain ⟨k1, k2, k3, k4⟩ := hk _ hw hRo
  have hc : cEq C (mK (mCan (upd3 C 18 0 0 x) 0)) := (cEq.upd (f := 18) (i := 0) (k := 0) (x := x) (Or.inr (by decide))).tr k2
  exact ⟨hw, r1, r2, k4, k3.trans upd3_s, hV, hM, h18, hW.of (fun f i k ht => hc f i k (cTouch_lt ht).1 (cTouch_lt ht).2), hI.to (hc _ _ _ (by decide) (by decide)) (fun r => hc _ _ _ (by decide) (by decide)), k1, r3.cong hc mEq.rf⟩
/-- .. one that changes nothing -/
theorem sim_rd {ids : gIds} {κ : gMem} {x : Int32} (mT mA : gMem → Int32) (J : Inv ids κ) (hr : ∀ μ, Rel κ μ → mT μ = 0 ∧ mA μ = x) :
    mWF (upd3 κ 18 0 0 x) ∧ mT (upd3 κ 18 0 0 x) = 0 ∧ mA (upd3 κ 18 0 0 x) = x ∧ (mCan (upd3 κ 18 0 0 x) 0) 8 0 26 = 0 ∧ (mCan (upd3 κ 18 0 0 x) 0) 18 0 0 = x ∧ Inv ids (mCan (upd3 κ 18 0 0 x) 0) :=
  sim_mk mT mA (fun z => z) J mEq.rf (fun μ hμ => ⟨(hr μ hμ).1, (hr μ hμ).2, hμ.can 0⟩) (fun μ hw _ => ⟨mCan_WF hw, cEq.upd (Or.inl rfl), rfl, upd3_s⟩) J.1 J.2.1 J.2.2.1 J.2.2.2.1 J.2.2.2.2.1
theorem Rel.n {κ μ : gMem} (h : Rel κ μ) : κ 7 0 4 = nI (tN (κ 7 0 4)) ∧ tN (κ 7 0 4) ≤ 80 ∧ κ 7 0 4 = μ 8 0 16 := ⟨h.1.2.2.2.2.1, by have := h.1.2.2.2.2.2; omega, h.1.2.2.2.1⟩
theorem rd_in {κ μ : gMem} {a : Int32} (h : Rel κ μ) (ht : ¬ mIn a 0 (κ 7 0 4 - 1) = 0) : a = nI (tN a) ∧ tN a < tN (κ 7 0 4) := by
  obtain ⟨n1, n2, -⟩ := h.n
  exact mIn_rd (n := tN (κ 7 0 4)) (by rw [← n1]; exact ht) n2
theorem rdT_eq {κ μ : gMem} {a : Int32} (h : Rel κ μ) : mAskT μ a = sRdT κ a := by rw [mAskT, sRdT, h.n.2.2]
theorem rdT_0 {κ : gMem} {a : Int32} (ht : sRdT κ a = 0) : ¬ mIn a 0 (κ 7 0 4 - 1) = 0 := fun z => by rw [sRdT, if_pos z] at ht; exact absurd ht (by decide)
theorem oneT_0 {a hi : Int32} (ht : mOneT a hi = 0) : ¬ mIn a 0 hi = 0 := fun z => by rw [mOneT, if_pos z] at ht; exact absurd ht (by decide)
theorem inv_fr {ids : gIds} {κ : gMem} (J : Inv ids κ) {b : Int32} (hb : tN b < tN (κ 7 0 4)) : κ 3 (tN b) 3 = 0 → κ 3 (tN b) 9 < 0 := by
  intro h0
  rcases (J.2.2.2.2.2.2.rd hb).2.2 with h | h
  · rw [h.1]; decide
  · exact absurd h0 h.2.1
theorem inv_tx {ids : gIds} {κ : gMem} (J : Inv ids κ) {a : Int32} (ha : tN a < tN (κ 7 0 4)) : ixL (κ 3 (tN a) 1) 100 := (J.2.2.2.2.2.2.rd ha).1.2.2.1
theorem tellT_eq {κ μ : gMem} {a v : Int32} (h : Rel κ μ) : mTellT μ a v = sTellT κ a v := by
  rw [mTellT, sTellT]
  by_cases t1 : mIn a 0 11 = 0
  · rw [if_pos t1, if_pos t1]
  · obtain ⟨ea, la⟩ := mIn_rng (m := 11) t1 (by decide)
    obtain ⟨s1, s2, s3, s4, s5, s6, s7, s8⟩ := h.2.2.1 (tN a) (by omega)
    rw [if_neg t1, if_neg t1]
    by_cases t2 : mIn v 0 99 = 0
    · rw [if_pos t2, if_pos t2]
    · rw [if_neg t2, if_neg t2, mBad, if_neg t1, ← s6, ← s8, ← h.1.1, ← h.1.2.2.2.1]
      by_cases c1 : κ 5 (tN a) 3 < 20
      · rw [if_pos c1, if_pos c1]; decide
      · rw [if_neg c1, if_neg c1]
        by_cases c2 : κ 5 (tN a) 6 = κ 7 0 6
        · rw [if_pos c2, if_pos c2]; decide
        · rw [if_neg c2, if_neg c2]
          obtain ⟨n1, n2, -⟩ := h.n
          by_cases c3 : κ 7 0 4 = 80
          · rw [if_pos c3, if_neg (show ¬ (1 : Int32) = 0 by decide), if_neg (show ¬ κ 7 0 4 < 80 by rw [c3]; decide)]
          · have : κ 7 0 4 < 80 := by
              rw [n1] at c3 ⊢
              have hne : tN (κ 7 0 4) ≠ 80 := fun z => c3 (by rw [z]; rfl)
              exact (nI_ltI (by omega) (show 80 < 2 ^ 31 by decide)).mpr (by omega)
            rw [if_neg c3, if_pos this]; decide
theorem openT_eq {κ μ : gMem} {b a t : Int32} (h : Rel κ μ) : mOpenT μ b a t = sOpenT κ b a t := by
  rw [mOpenT, sOpenT]
  by_cases t1 : mIn b 0 5 = 0
  · rw [if_pos t1, if_pos t1]
  · rw [if_neg t1, if_neg t1]
    by_cases t2 : mIn a 0 11 = 0
    · rw [if_pos t2, if_pos t2]
    · obtain ⟨eb, lb⟩ := mIn_rng (m := 5) t1 (by decide)
      obtain ⟨ea, la⟩ := mIn_rng (m := 11) t2 (by decide)
      rw [if_neg t2, if_neg t2]
      by_cases t3 : mIn t 1 20 = 0
      · rw [if_pos t3, if_pos t3]
      · rw [if_neg t3, if_neg t3, ← (h.2.2.1 (tN a) (by omega)).2.2.1, ← h.2.2.2.2.1 (tN b) (by omega), Int32.mul_comm t]
        rcases h.2.2.2.2.2.1 (tN b) (tN a) (by omega) (by omega) with w | w
        · rw [if_pos w.2.1, if_pos (show κ 14 (tN b) (tN a) < 0 by rw [w.1]; decide)]
        · rw [if_neg (show ¬ μ 32 0 (12 * tN b + tN a) = 0 by rw [w.2.1]; decide), if_neg (show ¬ κ 14 (tN b) (tN a) < 0 by rw [w.1]; exact nI_pos (by omega))]
theorem challengeT_eq {κ μ : gMem} {b x : Int32} (h : Rel κ μ) : mChallengeT μ b x = cdC (sChallengeT κ b x) := by
  rw [mChallengeT, sChallengeT]
  by_cases t1 : mIn b 0 5 = 0
  · rw [if_pos t1, if_pos t1]; decide
  · rw [if_neg t1, if_neg t1, ← h.n.2.2]
    by_cases t2 : mIn x 0 (κ 7 0 4 - 1) = 0
    · rw [if_pos t2, if_pos t2]; decide
    · obtain ⟨eb, lb⟩ := mIn_rng (m := 5) t1 (by decide)
      obtain ⟨ex, lx⟩ := rd_in h t2
      rw [if_neg t2, if_neg t2, ← (h.rd lx).1.2.2.2.2.1, ← h.2.2.2.2.1 (tN b) (by omega)]
      by_cases c1 : κ 3 (tN x) 3 = 0
      · rw [if_pos c1, if_pos c1]
        by_cases c2 : 4 ≤ κ 1 (tN b) 0
        · rw [if_pos c2, if_pos c2]; decide
        · rw [if_neg c2, if_neg c2]; decide
      · rw [if_neg c1, if_neg c1]; decide
theorem sampleT_eq {κ μ : gMem} {a x v : Int32} (h : Rel κ μ) : mSampleT μ a x v = sSampleT κ a x v := by
  rw [mSampleT, sSampleT]
  by_cases t1 : mIn a 0 11 = 0
  · rw [if_pos t1, if_pos t1]
  · rw [if_neg t1, if_neg t1, ← h.n.2.2]
    by_cases t2 : mIn x 0 (κ 7 0 4 - 1) = 0
    · rw [if_pos t2, if_pos t2]
    · rw [if_neg t2, if_neg t2]
      by_cases t3 : mIn v 0 99 = 0
      · rw [if_pos t3, if_pos t3]
      · obtain ⟨ea, la⟩ := mIn_rng (m := 11) t1 (by decide)
        obtain ⟨ex, lx⟩ := rd_in h t2
        obtain ⟨r1, r2, r3⟩ := h.rd lx
        rw [if_neg t3, if_neg t3, mSampleC, if_neg t1, ← h.n.2.2, if_neg t2, ← r1.2.2.2.2.1, ← r1.1]
        rcases r3 with ⟨q1, q2, q3⟩ | ⟨q1, q2, q3, q4, q5, q6⟩
        · rw [if_neg q2, if_pos rfl, if_pos (by rw [q1]; decide)]
        · rw [if_neg (show ¬ κ 3 (tN x) 9 < 0 by rw [q1]; exact nI_pos (by have := h.n.2.1; omega)), ← r1.2.2.2.2.2.2.2.1]
          by_cases c1 : κ 3 (tN x) 3 = 1
          · rw [if_pos c1, if_pos c1, nb_eq ⟨ea, by omega⟩ r1.2.2.2.2.2.2.2]
            by_cases c2 : sNb a (κ 3 (tN x) 0) = 0
            · rw [if_pos c2, if_pos c2, if_pos rfl]
            · rw [if_neg c2, if_neg c2, sHas]
              have hb : (κ 2 (tN x) 3 >>> (nI (tN a) &&& 31) &&& 1 = 0) ↔ μ 45 0 (12 * tN x + tN a) = -1 := (q5.2.2.1 (tN a) (by omega)).1
              by_cases c3 : μ 45 0 (12 * tN x + tN a) = -1
              · rw [if_pos c3, if_pos (show (if (κ 2 (tN x) 3 >>> (nI (tN a) &&& 31)) &&& 1 = 0 then (0 : Int32) else 1) = 0 from if_pos (hb.mpr c3)), if_neg (by decide)]
              · rw [if_neg c3, if_neg (show ¬ (if (κ 2 (tN x) 3 >>> (nI (tN a) &&& 31)) &&& 1 = 0 then (0 : Int32) else 1) = 0 by rw [if_neg (fun z => c3 (hb.mp z))]; decide), if_pos rfl]
          · rw [if_neg c1, if_neg c1, if_pos rfl]
theorem advT_eq {κ μ : gMem} {t : Int32} (h : Rel κ μ) : mAdvT μ t = (if sAdvT κ t = 0 then 0 else cdA (sAdvT κ t)) := by
  rw [mAdvT, sAdvT, ← h.1.1]
  by_cases t1 : mIn t 1 100 = 0
  · rw [if_pos t1, if_pos t1]; decide
  · rw [if_neg t1, if_neg t1]
    by_cases c1 : κ 7 0 6 + t ≤ 10000
    · rw [if_pos c1, if_pos c1]; decide
    · rw [if_neg c1, if_neg c1]; decide
theorem mMark_eq {κ μ : gMem} {a : Int32} (h : Rel κ μ) (ha : ixL a 12) : ∀ n, n ≤ tN (κ 7 0 4) → mMark μ a n = sMark κ (tN a) n
  | 0, _ => rfl
  | n + 1, hn => by
    have r := (h.rd (show n < tN (κ 7 0 4) by omega)).1
    have hs := r.2.2.2.2.2.2.2
    rw [mMark, sMark, mMark_eq h ha n (by omega), ← r.1, ← r.2.2.2.2.1, sWeight]
    by_cases e : tN (κ 3 n 0) = tN a
    · rw [if_pos e, if_pos (by rw [hs.1, ha.1, e])]
    · rw [if_neg e, if_neg (fun z => e (by rw [z]))]
      exact Int32.add_zero _
theorem hang_k {μ : gMem} {a b : Int32} (hw : mWF μ) (ht : sHangT a b = 0) : mWF (upd3 (mCan μ 0) 21 0 (tN a) b) ∧ cEq μ (upd3 (mCan μ 0) 21 0 (tN a) b) ∧ (upd3 (mCan μ 0) 21 0 (tN a) b) 18 0 0 = μ 18 0 0 ∧ (upd3 (mCan μ 0) 21 0 (tN a) b) 8 0 26 = 0 := by
  have t1 : ¬ mIn a 0 5 = 0 := fun z => by rw [sHangT, if_pos z] at ht; exact absurd ht (by decide)
  rw [sHangT, if_neg t1] at ht
  have t2 : ¬ mIn b 0 5 = 0 := fun z => by rw [if_pos z] at ht; exact absurd ht (by decide)
  rw [if_neg t2] at ht
  have t3 : ¬ tN a = 0 := fun z => by rw [if_pos z] at ht; exact absurd ht (by decide)
  rw [if_neg t3] at ht
  have t4 : b < a := Classical.byContradiction fun z => by rw [if_neg z] at ht; exact absurd ht (by decide)
  obtain ⟨ea, la⟩ := mIn_rng (m := 5) t1 (by decide)
  obtain ⟨eb, lb⟩ := mIn_rng (m := 5) t2 (by decide)
  have lt : tN b < tN a := by
    rw [ea, eb] at t4
    exact (nI_ltI (by omega) (by omega)).mp t4
  obtain ⟨w1, w2, w3, w4, w5⟩ := mCan_WF (t := 0) hw
  refine ⟨⟨w1, w2, w3, w4, fun k hk h0 => ?_⟩, (cEq.upd (Or.inl rfl)).tr (cEq.upd (Or.inr (by decide))), rfl, rfl⟩
  by_cases e : k = tN a
  · subst e; exact ⟨tN b, lt, by rw [upd3_s]; exact eb⟩
  · rw [upd3_k e]; exact w5 k hk h0
theorem hang_W {ids : gIds} {κ : gMem} {a b : Int32} (hw : cWF ids κ) (ht : sHangT a b = 0) : cWF ids (upd3 κ 4 (tN a) 1 (nI (tN b))) := by
  have t1 : ¬ mIn a 0 5 = 0 := fun z => by rw [sHangT, if_pos z] at ht; exact absurd ht (by decide)
  rw [sHangT, if_neg t1] at ht
  have t2 : ¬ mIn b 0 5 = 0 := fun z => by rw [if_pos z] at ht; exact absurd ht (by decide)
  rw [if_neg t2] at ht
  have t3 : ¬ tN a = 0 := fun z => by rw [if_pos z] at ht; exact absurd ht (by decide)
  rw [if_neg t3] at ht
  have t4 : b < a := Classical.byContradiction fun z => by rw [if_neg z] at ht; exact absurd ht (by decide)
  obtain ⟨ea, la⟩ := mIn_rng (m := 5) t1 (by decide)
  obtain ⟨eb, lb⟩ := mIn_rng (m := 5) t2 (by decide)
  have lt : tN b < tN a := by
    rw [ea, eb] at t4
    exact (nI_ltI (by omega) (by omega)).mp t4
  obtain ⟨h1, h2, h3, h4, h5, h6, h7⟩ := hw
  refine ⟨h1, fun r hr => h2 r hr, h3, ?_, fun k hk h0 => ?_, h6, h7⟩
  · rw [upd3_n (fun z => t3 z.2.1.symm)]; exact h4
  · by_cases e : k = tN a
    · subst e; rw [upd3_s]; exact ixL.nI lt (by omega)
    · rw [upd3_n (fun z => e z.2.1)]; exact h5 k hk h0
theorem attach_k {μ : gMem} {a b : Int32} (hw : mWF μ) (ht : mAttachT a b = 0) : mWF (upd3 (mCan μ 0) 25 0 (tN a) b) ∧ cEq μ (upd3 (mCan μ 0) 25 0 (tN a) b) ∧ (upd3 (mCan μ 0) 25 0 (tN a) b) 18 0 0 = μ 18 0 0 ∧ (upd3 (mCan μ 0) 25 0 (tN a) b) 8 0 26 = 0 := by
  have t1 : ¬ mIn a 0 11 = 0 := fun z => by rw [mAttachT, if_pos z] at ht; exact absurd ht (by decide)
  have t2 : ¬ mIn b 0 5 = 0 := fun z => by rw [mAttachT, if_neg t1, if_pos z] at ht; exact absurd ht (by decide)
  obtain ⟨eb, lb⟩ := mIn_rng (m := 5) t2 (by decide)
  obtain ⟨w1, w2, w3, w4, w5⟩ := mCan_WF (t := 0) hw
  refine ⟨⟨w1, w2, w3, fun k hk => ?_, w5⟩, (cEq.upd (Or.inl rfl)).tr (cEq.upd (Or.inr (by decide))), rfl, rfl⟩
  by_cases e : k = tN a
  · subst e; exact ⟨tN b, by omega, by rw [upd3_s]; exact eb⟩
  · rw [upd3_k e]; exact w4 k hk
theorem attach_W {ids : gIds} {κ : gMem} {a b : Int32} (hw : cWF ids κ) (ht : mAttachT a b = 0) : cWF ids (upd3 κ 5 (tN a) 1 (nI (tN b))) := by
  have t1 : ¬ mIn a 0 11 = 0 := fun z => by rw [mAttachT, if_pos z] at ht; exact absurd ht (by decide)
  have t2 : ¬ mIn b 0 5 = 0 := fun z => by rw [mAttachT, if_neg t1, if_pos z] at ht; exact absurd ht (by decide)
  obtain ⟨eb, lb⟩ := mIn_rng (m := 5) t2 (by decide)
  obtain ⟨h1, h2, h3, h4, h5, h6, h7⟩ := hw
  refine ⟨h1, fun r hr => h2 r hr, h3, h4, h5, fun k hk => ?_, h7⟩
  by_cases e : k = tN a
  · subst e; rw [upd3_s]; exact ixL.nI (by omega) (by decide)
  · rw [upd3_n (fun z => e z.2.1)]; exact h6 k hk
theorem tell_f {κ : gMem} {a v : Int32} (ht : sTellT κ a v = 0) : ixL a 12 ∧ ixL v 100 ∧ κ 7 0 4 < 80 := by
  have t1 : ¬ mIn a 0 11 = 0 := fun z => by rw [sTellT, if_pos z] at ht; exact absurd ht (by decide)
  rw [sTellT, if_neg t1] at ht
  have t2 : ¬ mIn v 0 99 = 0 := fun z => by rw [if_pos z] at ht; exact absurd ht (by decide)
  rw [if_neg t2] at ht
  have t3 : ¬ κ 5 (tN a) 3 < 20 := fun z => by rw [if_pos z] at ht; exact absurd ht (by decide)
  rw [if_neg t3] at ht
  have t4 : ¬ κ 5 (tN a) 6 = κ 7 0 6 := fun z => by rw [if_pos z] at ht; exact absurd ht (by decide)
  rw [if_neg t4] at ht
  have t5 : κ 7 0 4 < 80 := Classical.byContradiction fun z => by rw [if_neg z] at ht; exact absurd ht (by decide)
  obtain ⟨ea, la⟩ := mIn_rng (m := 11) t1 (by decide)
  obtain ⟨ev, lv⟩ := mIn_rng (m := 99) t2 (by decide)
  exact ⟨⟨ea, by omega⟩, ⟨ev, by omega⟩, t5⟩
theorem opn_f {κ : gMem} {b a d : Int32} (ht : sOpenT κ b a d = 0) : ixL b 6 ∧ ixL a 12 ∧ ∃ t, 1 ≤ t ∧ t ≤ 20 ∧ d = nI t := by
  have t1 : ¬ mIn b 0 5 = 0 := fun z => by rw [sOpenT, if_pos z] at ht; exact absurd ht (by decide)
  rw [sOpenT, if_neg t1] at ht
  have t2 : ¬ mIn a 0 11 = 0 := fun z => by rw [if_pos z] at ht; exact absurd ht (by decide)
  rw [if_neg t2] at ht
  have t3 : ¬ mIn d 1 20 = 0 := fun z => by rw [if_pos z] at ht; exact absurd ht (by decide)
  obtain ⟨eb, lb⟩ := mIn_rng (m := 5) t1 (by decide)
  obtain ⟨ea, la⟩ := mIn_rng (m := 11) t2 (by decide)
  obtain ⟨ed, ld, gd⟩ := mIn_rng' (m := 20) t3 (by decide) (by decide)
  refine ⟨⟨eb, by omega⟩, ⟨ea, by omega⟩, tN d, ?_, ld, ed⟩
  rcases Nat.eq_zero_or_pos (tN d) with z | z
  · rw [z] at ed; rw [ed] at gd; exact absurd gd (by decide)
  · exact z
theorem ch_f {κ : gMem} {b x : Int32} (ht : sChallengeT κ b x = 0) : ixL b 6 ∧ ¬ mIn x 0 (κ 7 0 4 - 1) = 0 ∧ κ 3 (tN x) 3 = 0 := by
  have t1 : ¬ mIn b 0 5 = 0 := fun z => by rw [sChallengeT, if_pos z] at ht; exact absurd ht (by decide)
  rw [sChallengeT, if_neg t1] at ht
  have t2 : ¬ mIn x 0 (κ 7 0 4 - 1) = 0 := fun z => by rw [if_pos z] at ht; exact absurd ht (by decide)
  rw [if_neg t2] at ht
  have t3 : κ 3 (tN x) 3 = 0 := Classical.byContradiction fun z => by rw [if_neg z] at ht; exact absurd ht (by decide)
  obtain ⟨eb, lb⟩ := mIn_rng (m := 5) t1 (by decide)
  exact ⟨⟨eb, by omega⟩, t2, t3⟩
theorem smp_f {κ : gMem} {a x v : Int32} (ht : sSampleT κ a x v = 0) : ixL a 12 ∧ ¬ mIn x 0 (κ 7 0 4 - 1) = 0 ∧ ixL v 100 ∧ ¬ κ 3 (tN x) 9 < 0 ∧ κ 3 (tN x) 3 = 1 ∧ sHas κ (tN x) (tN a) = 0 := by
  have t1 : ¬ mIn a 0 11 = 0 := fun z => by rw [sSampleT, if_pos z] at ht; exact absurd ht (by decide)
  rw [sSampleT, if_neg t1] at ht
  have t2 : ¬ mIn x 0 (κ 7 0 4 - 1) = 0 := fun z => by rw [if_pos z] at ht; exact absurd ht (by decide)
  rw [if_neg t2] at ht
  have t3 : ¬ mIn v 0 99 = 0 := fun z => by rw [if_pos z] at ht; exact absurd ht (by decide)
  rw [if_neg t3] at ht
  have t4 : ¬ κ 3 (tN x) 9 < 0 := fun z => by rw [if_pos z] at ht; exact absurd ht (by decide)
  rw [if_neg t4] at ht
  have t5 : κ 3 (tN x) 3 = 1 := Classical.byContradiction fun z => by rw [if_neg z] at ht; exact absurd ht (by decide)
  rw [if_pos t5] at ht
  have t6 : ¬ sNb a (nI (tN (κ 3 (tN x) 0))) = 0 := fun z => by rw [if_pos z] at ht; exact absurd ht (by decide)
  rw [if_neg t6] at ht
  have t7 : sHas κ (tN x) (tN a) = 0 := Classical.byContradiction fun z => by rw [if_neg z] at ht; exact absurd ht (by decide)
  obtain ⟨ea, la⟩ := mIn_rng (m := 11) t1 (by decide)
  obtain ⟨ev, lv⟩ := mIn_rng (m := 99) t3 (by decide)
  exact ⟨⟨ea, by omega⟩, t2, ⟨ev, by omega⟩, t4, t5, t7⟩
theorem smp_0 {κ μ : gMem} {r s : Nat} (h : Rel κ μ) (hr : r < tN (κ 7 0 4)) (hs : s < 12) (h9 : ¬ κ 3 r 9 < 0) (h : sHas κ r s = 0) : μ 45 0 (12 * r + s) = -1 := by
  rename_i hR
  rcases (hR.rd hr).2.2 with w | w
  · rw [w.1] at h9; exact absurd h9 (by decide)
  · refine (w.2.2.2.2.1.2.2.1 s hs).1.mp ?_
    rw [sHas] at h
    exact Classical.byContradiction fun z => by
      have z' : ¬ (κ 2 r 3 >>> (nI s &&& 31)) &&& 1 = 0 := z
      rw [if_neg z'] at h; exact absurd h (by decide)
theorem simA_hang {ids : gIds} {κ : gMem} {a b : Int32} (J : Inv ids κ) (hT : sHangT a b = 0) : mWF (upd3 (upd3 κ 4 (tN a) 1 (nI (tN b))) 18 0 0 (nI (tN (κ 4 (tN a) 1)))) ∧ mHangT a b = 0 ∧ (upd3 (upd3 κ 4 (tN a) 1 (nI (tN b))) 18 0 0 (nI (tN (κ 4 (tN a) 1)))) 21 0 (tN a) = nI (tN (κ 4 (tN a) 1)) ∧ (upd3 (mCan (upd3 (upd3 κ 4 (tN a) 1 (nI (tN b))) 18 0 0 (nI (tN (κ 4 (tN a) 1)))) 0) 21 0 (tN a) b) 8 0 26 = 0 ∧ (upd3 (mCan (upd3 (upd3 κ 4 (tN a) 1 (nI (tN b))) 18 0 0 (nI (tN (κ 4 (tN a) 1)))) 0) 21 0 (tN a) b) 18 0 0 = nI (tN (κ 4 (tN a) 1)) ∧ Inv ids (upd3 (mCan (upd3 (upd3 κ 4 (tN a) 1 (nI (tN b))) 18 0 0 (nI (tN (κ 4 (tN a) 1)))) 0) 21 0 (tN a) b) := 
  sim_mk (fun μ => mHangT a b) (fun μ => μ 21 0 (tN a)) (fun μ => upd3 μ 21 0 (tN a) b) J (mEq.upd (by decide) (by decide)) (fun μ h => ⟨hangT_eq.symm.trans hT, (rel_hang h hT).1, (rel_hang h hT).2⟩) (fun μ hw h => hang_k hw hT) J.1 J.2.1 J.2.2.1 (hang_W J.2.2.2.1 hT) (J.2.2.2.2.1.to rfl (fun _ => rfl))
theorem simB_hang {ids : gIds} {κ : gMem} {a b : Int32} (J : Inv ids κ) (hT : ¬ sHangT a b = 0) : mHangT a b = sHangT a b ∧ ¬ mHangT a b = 0 := ⟨hangT_eq.symm, by rw [← hangT_eq]; exact hT⟩
theorem simA_attach {ids : gIds} {κ : gMem} {a b : Int32} (J : Inv ids κ) (hT : mAttachT a b = 0) : mWF (upd3 (upd3 κ 5 (tN a) 1 (nI (tN b))) 18 0 0 (nI (tN (κ 5 (tN a) 1)))) ∧ mAttachT a b = 0 ∧ (upd3 (upd3 κ 5 (tN a) 1 (nI (tN b))) 18 0 0 (nI (tN (κ 5 (tN a) 1)))) 25 0 (tN a) = nI (tN (κ 5 (tN a) 1)) ∧ (upd3 (mCan (upd3 (upd3 κ 5 (tN a) 1 (nI (tN b))) 18 0 0 (nI (tN (κ 5 (tN a) 1)))) 0) 25 0 (tN a) b) 8 0 26 = 0 ∧ (upd3 (mCan (upd3 (upd3 κ 5 (tN a) 1 (nI (tN b))) 18 0 0 (nI (tN (κ 5 (tN a) 1)))) 0) 25 0 (tN a) b) 18 0 0 = nI (tN (κ 5 (tN a) 1)) ∧ Inv ids (upd3 (mCan (upd3 (upd3 κ 5 (tN a) 1 (nI (tN b))) 18 0 0 (nI (tN (κ 5 (tN a) 1)))) 0) 25 0 (tN a) b) := 
  sim_mk (fun μ => mAttachT a b) (fun μ => μ 25 0 (tN a)) (fun μ => upd3 μ 25 0 (tN a) b) J (mEq.upd (by decide) (by decide)) (fun μ h => ⟨hT, (rel_attach h hT).1, (rel_attach h hT).2⟩) (fun μ hw h => attach_k hw hT) J.1 J.2.1 J.2.2.1 (attach_W J.2.2.2.1 hT) (J.2.2.2.2.1.to rfl (fun _ => rfl))
theorem simB_attach {ids : gIds} {κ : gMem} {a b : Int32} (J : Inv ids κ) (hT : ¬ mAttachT a b = 0) : mAttachT a b = mAttachT a b ∧ ¬ mAttachT a b = 0 := ⟨rfl, hT⟩
theorem simA_setLoss {ids : gIds} {κ : gMem} {a b : Int32} (J : Inv ids κ) (hT : mSetLossT a b = 0) : mWF (upd3 (sSetLossK κ (tN a) b) 18 0 0 (sLost κ (tN a))) ∧ mSetLossT a b = 0 ∧ (upd3 (sSetLossK κ (tN a) b) 18 0 0 (sLost κ (tN a))) 24 0 (tN a) = sLost κ (tN a) ∧ (mSetLossK (mCan (upd3 (sSetLossK κ (tN a) b) 18 0 0 (sLost κ (tN a))) 0) (tN a) b) 8 0 26 = 0 ∧ (mSetLossK (mCan (upd3 (sSetLossK κ (tN a) b) 18 0 0 (sLost κ (tN a))) 0) (tN a) b) 18 0 0 = sLost κ (tN a) ∧ Inv ids (mSetLossK (mCan (upd3 (sSetLossK κ (tN a) b) 18 0 0 (sLost κ (tN a))) 0) (tN a) b) := 
  sim_mk (fun μ => mSetLossT a b) (fun μ => μ 24 0 (tN a)) (fun μ => mSetLossK μ (tN a) b) J ((mEq.upd (by decide) (by decide)).tr (mEq.upd (by decide) (by decide))) (fun μ h => ⟨hT, (rel_setLoss h hT).1, (rel_setLoss h hT).2⟩) (fun μ hw h => ⟨(((mCan_WF hw).upd (by decide) (by decide) (by decide) (by decide) (Or.inl (by decide))).upd (by decide) (by decide) (by decide) (by decide) (Or.inl (by decide))).upd (by decide) (by decide) (by decide) (by decide) (Or.inl (by decide)), (cEq.upd (Or.inl rfl)).tr ((cEq.upd (Or.inr (by decide))).tr ((cEq.upd (Or.inr (by decide))).tr (cEq.upd (Or.inr (by decide))))), rfl, rfl⟩) J.1 J.2.1 J.2.2.1 ((J.2.2.2.1.upd rfl).upd rfl) (J.2.2.2.2.1.to rfl (fun _ => rfl))
theorem simB_setLoss {ids : gIds} {κ : gMem} {a b : Int32} (J : Inv ids κ) (hT : ¬ mSetLossT a b = 0) : mSetLossT a b = mSetLossT a b ∧ ¬ mSetLossT a b = 0 := ⟨rfl, hT⟩
theorem simA_setPrice {ids : gIds} {κ : gMem} {a b : Int32} (J : Inv ids κ) (hT : mSetPriceT a b = 0) : mWF (upd3 (upd3 κ 5 (tN a) 2 b) 18 0 0 (κ 5 (tN a) 2)) ∧ mSetPriceT a b = 0 ∧ (upd3 (upd3 κ 5 (tN a) 2 b) 18 0 0 (κ 5 (tN a) 2)) 28 0 (tN a) = κ 5 (tN a) 2 ∧ (upd3 (mCan (upd3 (upd3 κ 5 (tN a) 2 b) 18 0 0 (κ 5 (tN a) 2)) 0) 28 0 (tN a) b) 8 0 26 = 0 ∧ (upd3 (mCan (upd3 (upd3 κ 5 (tN a) 2 b) 18 0 0 (κ 5 (tN a) 2)) 0) 28 0 (tN a) b) 18 0 0 = κ 5 (tN a) 2 ∧ Inv ids (upd3 (mCan (upd3 (upd3 κ 5 (tN a) 2 b) 18 0 0 (κ 5 (tN a) 2)) 0) 28 0 (tN a) b) := 
  sim_mk (fun μ => mSetPriceT a b) (fun μ => μ 28 0 (tN a)) (fun μ => upd3 μ 28 0 (tN a) b) J (mEq.upd (by decide) (by decide)) (fun μ h => ⟨hT, (rel_setPrice h hT).1, (rel_setPrice h hT).2⟩) (fun μ hw h => ⟨(mCan_WF hw).upd (by decide) (by decide) (by decide) (by decide) (Or.inl (by decide)), (cEq.upd (Or.inl rfl)).tr (cEq.upd (Or.inr (by decide))), rfl, rfl⟩) J.1 J.2.1 J.2.2.1 (J.2.2.2.1.upd rfl) (J.2.2.2.2.1.to rfl (fun _ => rfl))
theorem simB_setPrice {ids : gIds} {κ : gMem} {a b : Int32} (J : Inv ids κ) (hT : ¬ mSetPriceT a b = 0) : mSetPriceT a b = mSetPriceT a b ∧ ¬ mSetPriceT a b = 0 := ⟨rfl, hT⟩
theorem simA_topUp {ids : gIds} {κ : gMem} {a b : Int32} (J : Inv ids κ) (hT : sTopUpT κ a b = 0) : mWF (upd3 (sTopUpK κ (tN a) b) 18 0 0 (sTopUpK κ (tN a) b 5 (tN a) 3)) ∧ mTopUpT (upd3 (sTopUpK κ (tN a) b) 18 0 0 (sTopUpK κ (tN a) b 5 (tN a) 3)) a b = 0 ∧ (upd3 (sTopUpK κ (tN a) b) 18 0 0 (sTopUpK κ (tN a) b 5 (tN a) 3)) 26 0 (tN a) + b = sTopUpK κ (tN a) b 5 (tN a) 3 ∧ (mTopUpK (mCan (upd3 (sTopUpK κ (tN a) b) 18 0 0 (sTopUpK κ (tN a) b 5 (tN a) 3)) 0) (tN a) b) 8 0 26 = 0 ∧ (mTopUpK (mCan (upd3 (sTopUpK κ (tN a) b) 18 0 0 (sTopUpK κ (tN a) b 5 (tN a) 3)) 0) (tN a) b) 18 0 0 = sTopUpK κ (tN a) b 5 (tN a) 3 ∧ Inv ids (mTopUpK (mCan (upd3 (sTopUpK κ (tN a) b) 18 0 0 (sTopUpK κ (tN a) b 5 (tN a) 3)) 0) (tN a) b) := 
  sim_mk (fun μ => mTopUpT μ a b) (fun μ => μ 26 0 (tN a) + b) (fun μ => mTopUpK μ (tN a) b) J (((mEq.upd (by decide) (by decide)).tr (mEq.upd (by decide) (by decide))).tr (mEq.upd (by decide) (by decide))) (fun μ h => ⟨(topUpT_eq h).symm.trans hT, (rel_topUp h hT).1, (rel_topUp h hT).2⟩) (fun μ hw h => ⟨((mCan_WF hw).upd (by decide) (by decide) (by decide) (by decide) (Or.inl (by decide))).upd (by decide) (by decide) (by decide) (by decide) (Or.inl (by decide)), (cEq.upd (Or.inl rfl)).tr ((cEq.upd (Or.inr (by decide))).tr (cEq.upd (Or.inr (by decide)))), rfl, rfl⟩) J.1 J.2.1 J.2.2.1 (((J.2.2.2.1.upd rfl).upd rfl).upd rfl) (J.2.2.2.2.1.to rfl (fun _ => rfl))
theorem simB_topUp {ids : gIds} {κ : gMem} {a b : Int32} (J : Inv ids κ) (hT : ¬ sTopUpT κ a b = 0) : mTopUpT κ a b = sTopUpT κ a b ∧ ¬ mTopUpT κ a b = 0 := ⟨(topUpT_eq J.2.2.2.2.2.2).symm, by rw [← topUpT_eq J.2.2.2.2.2.2]; exact hT⟩
theorem simA_tell {ids : gIds} {κ : gMem} {a b : Int32} (J : Inv ids κ) (hT : sTellT κ a b = 0) : mWF (upd3 (sTellK κ (tN a) (tN (κ 7 0 4)) b) 18 0 0 (κ 7 0 4)) ∧ mTellT (upd3 (sTellK κ (tN a) (tN (κ 7 0 4)) b) 18 0 0 (κ 7 0 4)) a b = 0 ∧ (upd3 (sTellK κ (tN a) (tN (κ 7 0 4)) b) 18 0 0 (κ 7 0 4)) 8 0 16 = κ 7 0 4 ∧ (mTellK (mCan (upd3 (sTellK κ (tN a) (tN (κ 7 0 4)) b) 18 0 0 (κ 7 0 4)) 0) a (tN ((upd3 (sTellK κ (tN a) (tN (κ 7 0 4)) b) 18 0 0 (κ 7 0 4)) 8 0 16)) b) 8 0 26 = 0 ∧ (mTellK (mCan (upd3 (sTellK κ (tN a) (tN (κ 7 0 4)) b) 18 0 0 (κ 7 0 4)) 0) a (tN ((upd3 (sTellK κ (tN a) (tN (κ 7 0 4)) b) 18 0 0 (κ 7 0 4)) 8 0 16)) b) 18 0 0 = κ 7 0 4 ∧ Inv ((ids ++ [(3, tN (κ 7 0 4))]) ++ [(15, tN (κ 7 0 4))]) (mTellK (mCan (upd3 (sTellK κ (tN a) (tN (κ 7 0 4)) b) 18 0 0 (κ 7 0 4)) 0) a (tN ((upd3 (sTellK κ (tN a) (tN (κ 7 0 4)) b) 18 0 0 (κ 7 0 4)) 8 0 16)) b) := 
  by
  obtain ⟨fa, fv, f8⟩ := tell_f hT
  obtain ⟨n1, n2, n3⟩ := J.2.2.2.2.2.2.n
  have h80 : tN (κ 7 0 4) < 80 := by
    rw [n1] at f8
    exact (nI_ltI (by omega) (show 80 < 2 ^ 31 by decide)).mp f8
  have e16 : ∀ μ : gMem, mCan μ 0 8 0 16 = μ 8 0 16 := fun μ => upd3_k (by decide)
  have q := sim_mk (x := κ 7 0 4) (fun μ => mTellT μ a b) (fun μ => μ 8 0 16) (fun μ => mTellK μ a (tN (μ 8 0 16)) b) J (eq_tell κ (tN a) (tN (κ 7 0 4)) b) (fun μ h => ⟨(tellT_eq h).trans hT, h.n.2.2.symm, rel_tell (h.can 0) fa fv h80⟩) (fun μ hw h => by
      rw [e16, ← h.n.2.2]
      exact (kK_tell _ _ _ _).fin (mTellK_WF (mCan_WF hw) fa ((e16 μ).trans (h.n.2.2.symm.trans n1)) h80)) ((J.1.app _).app _) ((J.2.1.app _).app _) (List.mem_append_left _ (List.mem_append_left _ J.2.2.1)) (tell_W J.2.2.2.1 n1 h80 fa.2) (tell_I J.2.2.2.2.1 n1 h80)
  rw [e16] at q
  exact q
theorem simB_tell {ids : gIds} {κ : gMem} {a b : Int32} (J : Inv ids κ) (hT : ¬ sTellT κ a b = 0) : mTellT κ a b = sTellT κ a b ∧ ¬ mTellT κ a b = 0 := ⟨tellT_eq J.2.2.2.2.2.2, by rw [tellT_eq J.2.2.2.2.2.2]; exact hT⟩
theorem simA_open {ids : gIds} {κ : gMem} {a b d : Int32} (J : Inv ids κ) (hT : sOpenT κ a b d = 0) : mWF (upd3 (sOpenK κ (tN a) (tN b) d) 18 0 0 (κ 7 0 6 + d - 1)) ∧ mOpenT (upd3 (sOpenK κ (tN a) (tN b) d) 18 0 0 (κ 7 0 6 + d - 1)) a b d = 0 ∧ (upd3 (sOpenK κ (tN a) (tN b) d) 18 0 0 (κ 7 0 6 + d - 1)) 8 0 0 + d - 1 = κ 7 0 6 + d - 1 ∧ (mOpenK (mCan (upd3 (sOpenK κ (tN a) (tN b) d) 18 0 0 (κ 7 0 6 + d - 1)) 0) (tN a) (tN b) d) 8 0 26 = 0 ∧ (mOpenK (mCan (upd3 (sOpenK κ (tN a) (tN b) d) 18 0 0 (κ 7 0 6 + d - 1)) 0) (tN a) (tN b) d) 18 0 0 = κ 7 0 6 + d - 1 ∧ Inv (gDrop ids (6, 12 * tN a + tN b) ++ [(6, 12 * tN a + tN b)]) (mOpenK (mCan (upd3 (sOpenK κ (tN a) (tN b) d) 18 0 0 (κ 7 0 6 + d - 1)) 0) (tN a) (tN b) d) := 
  by
  obtain ⟨fb, fa, t, ft1, ft2, rfl⟩ := opn_f hT
  exact sim_mk (fun μ => mOpenT μ a b (nI t)) (fun μ => μ 8 0 0 + nI t - 1) (fun μ => mOpenK μ (tN a) (tN b) (nI t)) J (eq_opn _ _ _ _) (fun μ h => ⟨(openT_eq h).trans hT, by show μ 8 0 0 + nI t - 1 = κ 7 0 6 + nI t - 1; rw [h.1.1], rel_opn (h.can 0) fb.2 fa.2 ft1 ft2⟩) (fun μ hw h => (kK_opn _ _ _ _).fin (mOpenK_WF (mCan_WF hw))) ((J.1.drop).app _) ((J.2.1.drop).app _) (List.mem_append_left _ (gDrop_m.mpr ⟨J.2.2.1, by simp⟩)) (opn_W J.2.2.2.1 fb.2 fa.2) (opn_I J.2.2.2.2.1)
theorem simB_open {ids : gIds} {κ : gMem} {a b d : Int32} (J : Inv ids κ) (hT : ¬ sOpenT κ a b d = 0) : mOpenT κ a b d = sOpenT κ a b d ∧ ¬ mOpenT κ a b d = 0 := ⟨openT_eq J.2.2.2.2.2.2, by rw [openT_eq J.2.2.2.2.2.2]; exact hT⟩
theorem simA_challenge {ids : gIds} {κ : gMem} {a b : Int32} (J : Inv ids κ) (hT : sChallengeT κ a b = 0) : mWF (upd3 (sChallengeK κ (tN a) (tN b)) 18 0 0 (sNbs (nI (tN (κ 3 (tN b) 0))) 12)) ∧ mChallengeT (upd3 (sChallengeK κ (tN a) (tN b)) 18 0 0 (sNbs (nI (tN (κ 3 (tN b) 0))) 12)) a b = 0 ∧ mNbs ((upd3 (sChallengeK κ (tN a) (tN b)) 18 0 0 (sNbs (nI (tN (κ 3 (tN b) 0))) 12)) 37 0 (tN b)) 12 = sNbs (nI (tN (κ 3 (tN b) 0))) 12 ∧ (mChallengeK (mCan (upd3 (sChallengeK κ (tN a) (tN b)) 18 0 0 (sNbs (nI (tN (κ 3 (tN b) 0))) 12)) 0) a (tN b)) 8 0 26 = 0 ∧ (mChallengeK (mCan (upd3 (sChallengeK κ (tN a) (tN b)) 18 0 0 (sNbs (nI (tN (κ 3 (tN b) 0))) 12)) 0) a (tN b)) 18 0 0 = sNbs (nI (tN (κ 3 (tN b) 0))) 12 ∧ Inv ((ids ++ [(2, tN b)]) ++ [(16, tN b)]) (mChallengeK (mCan (upd3 (sChallengeK κ (tN a) (tN b)) 18 0 0 (sNbs (nI (tN (κ 3 (tN b) 0))) 12)) 0) a (tN b)) := 
  by
  obtain ⟨fa, ft, f3⟩ := ch_f hT
  have hr := (rd_in J.2.2.2.2.2.2 ft).2
  exact sim_mk (fun μ => mChallengeT μ a b) (fun μ => mNbs (μ 37 0 (tN b)) 12) (fun μ => mChallengeK μ a (tN b)) J (eq_challenge _ _ _) (fun μ h => ⟨by show mChallengeT μ a b = 0; rw [challengeT_eq h, hT]; decide, by
      have p1 := (h.rd hr).1
      have h12 := p1.2.2.2.2.2.2.2
      show mNbs (μ 37 0 (tN b)) 12 = sNbs (nI (tN (κ 3 (tN b) 0))) 12
      rw [← nbs_eq0 _ h12.2, ← h12.1, p1.1], rel_challenge (h.can 0) hr fa f3⟩) (fun μ hw h => (kK_challenge _ _ _).fin (mChallengeK_WF (mCan_WF hw) fa)) ((J.1.app _).app _) ((J.2.1.app _).app _) (List.mem_append_left _ (List.mem_append_left _ J.2.2.1)) (challenge_W J.2.2.2.1 fa.2 hr) (challenge_I J.2.2.2.2.1 hr)
theorem simB_challenge {ids : gIds} {κ : gMem} {a b : Int32} (J : Inv ids κ) (hT : ¬ sChallengeT κ a b = 0) : mChallengeT κ a b = cdC (sChallengeT κ a b) ∧ ¬ mChallengeT κ a b = 0 := ⟨challengeT_eq J.2.2.2.2.2.2, by rw [challengeT_eq J.2.2.2.2.2.2, cdC]; split; decide; exact hT⟩
theorem simA_sample {ids : gIds} {κ : gMem} {a b d : Int32} (J : Inv ids κ) (hT : sSampleT κ a b d = 0) : mWF (upd3 (sSampleK κ (tN a) (tN b) d) 18 0 0 (sSampleK κ (tN a) (tN b) d 3 (tN b) 3)) ∧ mSampleT (upd3 (sSampleK κ (tN a) (tN b) d) 18 0 0 (sSampleK κ (tN a) (tN b) d 3 (tN b) 3)) a b d = 0 ∧ mSampleK (mCan (upd3 (sSampleK κ (tN a) (tN b) d) 18 0 0 (sSampleK κ (tN a) (tN b) d 3 (tN b) 3)) 0) (tN a) (tN b) d 39 0 (tN b) = sSampleK κ (tN a) (tN b) d 3 (tN b) 3 ∧ (mSampleK (mCan (upd3 (sSampleK κ (tN a) (tN b) d) 18 0 0 (sSampleK κ (tN a) (tN b) d 3 (tN b) 3)) 0) (tN a) (tN b) d) 8 0 26 = 0 ∧ (mSampleK (mCan (upd3 (sSampleK κ (tN a) (tN b) d) 18 0 0 (sSampleK κ (tN a) (tN b) d 3 (tN b) 3)) 0) (tN a) (tN b) d) 18 0 0 = sSampleK κ (tN a) (tN b) d 3 (tN b) 3 ∧ Inv ids (mSampleK (mCan (upd3 (sSampleK κ (tN a) (tN b) d) 18 0 0 (sSampleK κ (tN a) (tN b) d 3 (tN b) 3)) 0) (tN a) (tN b) d) := 
  by
  obtain ⟨fa, ft, fv, f9, f3, fh⟩ := smp_f hT
  have hr := (rd_in J.2.2.2.2.2.2 ft).2
  have e7 : sSampleK κ (tN a) (tN b) d 7 0 4 = κ 7 0 4 := by
    rw [sSampleK]
    split
    · rw [sJudge_same.cnt, sAdd_keep (by decide) (by decide)]
    · rw [sAdd_keep (by decide) (by decide)]
  have hR : ∀ μ, Rel κ μ → Rel (sSampleK κ (tN a) (tN b) d) (mSampleK (mCan μ 0) (tN a) (tN b) d) := fun μ h => rel_sample (h.can 0) hr fa.2 fv (smp_0 (h.can 0) hr fa.2 f9 fh) f9 f3
  exact sim_mk (fun μ => mSampleT μ a b d) (fun μ => mSampleK (mCan μ 0) (tN a) (tN b) d 39 0 (tN b)) (fun μ => mSampleK μ (tN a) (tN b) d) J (eq_sample _ _ _ _) (fun μ h => ⟨(sampleT_eq h).trans hT, ((hR μ h).rd (by rw [e7]; exact hr)).1.2.2.2.2.1.symm, hR μ h⟩) (fun μ hw h => (kK_sample _ _ _ _).fin (mSampleK_WF (mCan_WF hw))) J.1 J.2.1 J.2.2.1 (sSampleK_WF J.2.2.2.1) (sSampleK_I J.2.2.2.2.1)
theorem simB_sample {ids : gIds} {κ : gMem} {a b d : Int32} (J : Inv ids κ) (hT : ¬ sSampleT κ a b d = 0) : mSampleT κ a b d = sSampleT κ a b d ∧ ¬ mSampleT κ a b d = 0 := ⟨sampleT_eq J.2.2.2.2.2.2, by rw [sampleT_eq J.2.2.2.2.2.2]; exact hT⟩
theorem simA_advance {ids : gIds} {κ : gMem} {a : Int32} (J : Inv ids κ) (hT : sAdvT κ a = 0) : mWF (upd3 (sAdvK κ a) 18 0 0 (sAdvK κ a 7 0 6)) ∧ mAdvT (upd3 (sAdvK κ a) 18 0 0 (sAdvK κ a 7 0 6)) a = 0 ∧ mAdvK (mCan (upd3 (sAdvK κ a) 18 0 0 (sAdvK κ a 7 0 6)) 0) (tN a) 8 0 0 = sAdvK κ a 7 0 6 ∧ (mAdvK (mCan (upd3 (sAdvK κ a) 18 0 0 (sAdvK κ a 7 0 6)) 0) (tN a)) 8 0 26 = 0 ∧ (mAdvK (mCan (upd3 (sAdvK κ a) 18 0 0 (sAdvK κ a 7 0 6)) 0) (tN a)) 18 0 0 = sAdvK κ a 7 0 6 ∧ Inv ids (mAdvK (mCan (upd3 (sAdvK κ a) 18 0 0 (sAdvK κ a 7 0 6)) 0) (tN a)) := 
  by
  have hR : ∀ μ, Rel κ μ → Rel (sAdvK κ a) (mAdvK (mCan μ 0) (tN a)) := fun μ h => rel_advance (h.can 0) hT
  exact sim_mk (fun μ => mAdvT μ a) (fun μ => mAdvK (mCan μ 0) (tN a) 8 0 0) (fun μ => mAdvK μ (tN a)) J (eq_advance _ _) (fun μ h => ⟨(advT_eq h).trans (if_pos hT), (hR μ h).1.1.symm, hR μ h⟩) (fun μ hw h => (kK_advance _ _).fin (mAdv_it_WF (mCan_WF hw))) J.1 J.2.1 J.2.2.1 (sAdvK_WF J.2.2.2.1) (sAdvK_I J.2.2.2.2.1)
theorem simB_advance {ids : gIds} {κ : gMem} {a : Int32} (J : Inv ids κ) (hT : ¬ sAdvT κ a = 0) : mAdvT κ a = cdA (sAdvT κ a) ∧ ¬ mAdvT κ a = 0 := ⟨by rw [advT_eq J.2.2.2.2.2.2, if_neg hT], by rw [advT_eq J.2.2.2.2.2.2, if_neg hT, cdA]; split <;> decide⟩
theorem simA_stateOf {ids : gIds} {κ : gMem} {a : Int32} (J : Inv ids κ) (hT : sRdT κ a = 0) : mWF (upd3 (κ) 18 0 0 (κ 3 (tN a) 3)) ∧ mAskT (upd3 (κ) 18 0 0 (κ 3 (tN a) 3)) a = 0 ∧ (upd3 (κ) 18 0 0 (κ 3 (tN a) 3)) 39 0 (tN a) = κ 3 (tN a) 3 ∧ (mCan (upd3 (κ) 18 0 0 (κ 3 (tN a) 3)) 0) 8 0 26 = 0 ∧ (mCan (upd3 (κ) 18 0 0 (κ 3 (tN a) 3)) 0) 18 0 0 = κ 3 (tN a) 3 ∧ Inv ids (mCan (upd3 (κ) 18 0 0 (κ 3 (tN a) 3)) 0) := 
  sim_rd (fun μ => mAskT μ a) (fun μ => μ 39 0 (tN a)) J (fun μ h => by
  obtain ⟨r, -, -⟩ := h.rd (rd_in h (rdT_0 hT)).2
  exact ⟨(rdT_eq h).trans hT, r.2.2.2.2.1.symm⟩)
theorem simB_stateOf {ids : gIds} {κ : gMem} {a : Int32} (J : Inv ids κ) (hT : ¬ sRdT κ a = 0) : mAskT κ a = sRdT κ a ∧ ¬ mAskT κ a = 0 := ⟨rdT_eq J.2.2.2.2.2.2, by rw [rdT_eq J.2.2.2.2.2.2]; exact hT⟩
theorem simA_parts {ids : gIds} {κ : gMem} {a : Int32} (J : Inv ids κ) (hT : sRdT κ a = 0) : mWF (upd3 (κ) 18 0 0 (κ 3 (tN a) 2)) ∧ mAskT (upd3 (κ) 18 0 0 (κ 3 (tN a) 2)) a = 0 ∧ (upd3 (κ) 18 0 0 (κ 3 (tN a) 2)) 40 0 (tN a) = κ 3 (tN a) 2 ∧ (mCan (upd3 (κ) 18 0 0 (κ 3 (tN a) 2)) 0) 8 0 26 = 0 ∧ (mCan (upd3 (κ) 18 0 0 (κ 3 (tN a) 2)) 0) 18 0 0 = κ 3 (tN a) 2 ∧ Inv ids (mCan (upd3 (κ) 18 0 0 (κ 3 (tN a) 2)) 0) := 
  sim_rd (fun μ => mAskT μ a) (fun μ => μ 40 0 (tN a)) J (fun μ h => by
  obtain ⟨r, -, -⟩ := h.rd (rd_in h (rdT_0 hT)).2
  exact ⟨(rdT_eq h).trans hT, r.2.2.2.1.symm⟩)
theorem simB_parts {ids : gIds} {κ : gMem} {a : Int32} (J : Inv ids κ) (hT : ¬ sRdT κ a = 0) : mAskT κ a = sRdT κ a ∧ ¬ mAskT κ a = 0 := ⟨rdT_eq J.2.2.2.2.2.2, by rw [rdT_eq J.2.2.2.2.2.2]; exact hT⟩
theorem simA_users {ids : gIds} {κ : gMem} {a : Int32} (J : Inv ids κ) (hT : sRdT κ a = 0) : mWF (upd3 (κ) 18 0 0 (κ 3 (tN a) 6)) ∧ mAskT (upd3 (κ) 18 0 0 (κ 3 (tN a) 6)) a = 0 ∧ mSize ((upd3 (κ) 18 0 0 (κ 3 (tN a) 6)) 44 0 (tN a)) 6 = κ 3 (tN a) 6 ∧ (mCan (upd3 (κ) 18 0 0 (κ 3 (tN a) 6)) 0) 8 0 26 = 0 ∧ (mCan (upd3 (κ) 18 0 0 (κ 3 (tN a) 6)) 0) 18 0 0 = κ 3 (tN a) 6 ∧ Inv ids (mCan (upd3 (κ) 18 0 0 (κ 3 (tN a) 6)) 0) := 
  sim_rd (fun μ => mAskT μ a) (fun μ => mSize (μ 44 0 (tN a)) 6) J (fun μ h => by
  obtain ⟨r, -, -⟩ := h.rd (rd_in h (rdT_0 hT)).2
  exact ⟨(rdT_eq h).trans hT, r.2.2.2.2.2.2.1.symm⟩)
theorem simB_users {ids : gIds} {κ : gMem} {a : Int32} (J : Inv ids κ) (hT : ¬ sRdT κ a = 0) : mAskT κ a = sRdT κ a ∧ ¬ mAskT κ a = 0 := ⟨rdT_eq J.2.2.2.2.2.2, by rw [rdT_eq J.2.2.2.2.2.2]; exact hT⟩
theorem simA_held {ids : gIds} {κ : gMem} {a : Int32} (J : Inv ids κ) (hT : sRdT κ a = 0) : mWF (upd3 (κ) 18 0 0 (κ 3 (tN a) 7)) ∧ mAskT (upd3 (κ) 18 0 0 (κ 3 (tN a) 7)) a = 0 ∧ mHeld (upd3 (κ) 18 0 0 (κ 3 (tN a) 7)) (tN a) 6 = κ 3 (tN a) 7 ∧ (mCan (upd3 (κ) 18 0 0 (κ 3 (tN a) 7)) 0) 8 0 26 = 0 ∧ (mCan (upd3 (κ) 18 0 0 (κ 3 (tN a) 7)) 0) 18 0 0 = κ 3 (tN a) 7 ∧ Inv ids (mCan (upd3 (κ) 18 0 0 (κ 3 (tN a) 7)) 0) := 
  sim_rd (fun μ => mAskT μ a) (fun μ => mHeld μ (tN a) 6) J (fun μ h => by
  obtain ⟨-, r, -⟩ := h.rd (rd_in h (rdT_0 hT)).2
  refine ⟨(rdT_eq h).trans hT, ?_⟩
  rcases r with r | r
  · exact r.2.2.1.symm
  · rw [r.2.1]
    simp only [mHeld]
    rw [r.2.2 0 (by decide), r.2.2 1 (by decide), r.2.2 2 (by decide), r.2.2 3 (by decide), r.2.2 4 (by decide), r.2.2 5 (by decide)]
    decide)
theorem simB_held {ids : gIds} {κ : gMem} {a : Int32} (J : Inv ids κ) (hT : ¬ sRdT κ a = 0) : mAskT κ a = sRdT κ a ∧ ¬ mAskT κ a = 0 := ⟨rdT_eq J.2.2.2.2.2.2, by rw [rdT_eq J.2.2.2.2.2.2]; exact hT⟩
theorem simA_middle {ids : gIds} {κ : gMem} {a : Int32} (J : Inv ids κ) (hT : sRdT κ a = 0) : mWF (upd3 (κ) 18 0 0 (sMidA κ (tN a))) ∧ mAskT (upd3 (κ) 18 0 0 (sMidA κ (tN a))) a = 0 ∧ mMiddle (upd3 (κ) 18 0 0 (sMidA κ (tN a))) (tN a) = sMidA κ (tN a) ∧ (mCan (upd3 (κ) 18 0 0 (sMidA κ (tN a))) 0) 8 0 26 = 0 ∧ (mCan (upd3 (κ) 18 0 0 (sMidA κ (tN a))) 0) 18 0 0 = sMidA κ (tN a) ∧ Inv ids (mCan (upd3 (κ) 18 0 0 (sMidA κ (tN a))) 0) := 
  sim_rd (fun μ => mAskT μ a) (fun μ => mMiddle μ (tN a)) J (fun μ h => by
  have hl := (rd_in h (rdT_0 hT)).2
  exact ⟨(rdT_eq h).trans hT, middle_eq h hl⟩)
theorem simB_middle {ids : gIds} {κ : gMem} {a : Int32} (J : Inv ids κ) (hT : ¬ sRdT κ a = 0) : mAskT κ a = sRdT κ a ∧ ¬ mAskT κ a = 0 := ⟨rdT_eq J.2.2.2.2.2.2, by rw [rdT_eq J.2.2.2.2.2.2]; exact hT⟩
theorem simA_textAt {ids : gIds} {κ : gMem} {a b : Int32} (J : Inv ids κ) (hT : sTextT κ a b = 0) : mWF (upd3 (κ) 18 0 0 (sText κ (tN a) b)) ∧ mTextT (upd3 (κ) 18 0 0 (sText κ (tN a) b)) a b = 0 ∧ mText (upd3 (κ) 18 0 0 (sText κ (tN a) b)) (tN a) b = sText κ (tN a) b ∧ (mCan (upd3 (κ) 18 0 0 (sText κ (tN a) b)) 0) 8 0 26 = 0 ∧ (mCan (upd3 (κ) 18 0 0 (sText κ (tN a) b)) 0) 18 0 0 = sText κ (tN a) b ∧ Inv ids (mCan (upd3 (κ) 18 0 0 (sText κ (tN a) b)) 0) := 
  sim_rd (fun μ => mTextT μ a b) (fun μ => mText μ (tN a) b) J (fun μ h => by
  obtain ⟨f1, f2⟩ := text_f hT
  exact ⟨(textT_eq h).trans hT, text_eq h (rd_in h f1).2 f2⟩)
theorem simB_textAt {ids : gIds} {κ : gMem} {a b : Int32} (J : Inv ids κ) (hT : ¬ sTextT κ a b = 0) : mTextT κ a b = sTextT κ a b ∧ ¬ mTextT κ a b = 0 := ⟨textT_eq J.2.2.2.2.2.2, by rw [textT_eq J.2.2.2.2.2.2]; exact hT⟩
theorem simA_bond {ids : gIds} {κ : gMem} {a : Int32} (J : Inv ids κ) (hT : mOneT a 11 = 0) : mWF (upd3 (κ) 18 0 0 (κ 5 (tN a) 3)) ∧ mOneT a 11 = 0 ∧ (upd3 (κ) 18 0 0 (κ 5 (tN a) 3)) 26 0 (tN a) = κ 5 (tN a) 3 ∧ (mCan (upd3 (κ) 18 0 0 (κ 5 (tN a) 3)) 0) 8 0 26 = 0 ∧ (mCan (upd3 (κ) 18 0 0 (κ 5 (tN a) 3)) 0) 18 0 0 = κ 5 (tN a) 3 ∧ Inv ids (mCan (upd3 (κ) 18 0 0 (κ 5 (tN a) 3)) 0) := 
  sim_rd (fun μ => mOneT a 11) (fun μ => μ 26 0 (tN a)) J (fun μ h => by
  obtain ⟨ea, la⟩ := mIn_rng (m := 11) (oneT_0 hT) (by decide)
  exact ⟨hT, (h.2.2.1 (tN a) (by omega)).2.2.2.2.2.1.symm⟩)
theorem simB_bond {ids : gIds} {κ : gMem} {a : Int32} (J : Inv ids κ) (hT : ¬ mOneT a 11 = 0) : mOneT a 11 = mOneT a 11 ∧ ¬ mOneT a 11 = 0 := ⟨rfl, hT⟩
theorem simA_bondByCuts {ids : gIds} {κ : gMem} {a : Int32} (J : Inv ids κ) (hT : mOneT a 11 = 0) : mWF (upd3 (κ) 18 0 0 (sCuts κ (tN a) (tN (κ 7 0 4)))) ∧ mOneT a 11 = 0 ∧ (upd3 (κ) 18 0 0 (sCuts κ (tN a) (tN (κ 7 0 4)))) 26 0 (tN a) = sCuts κ (tN a) (tN (κ 7 0 4)) ∧ (mCan (upd3 (κ) 18 0 0 (sCuts κ (tN a) (tN (κ 7 0 4)))) 0) 8 0 26 = 0 ∧ (mCan (upd3 (κ) 18 0 0 (sCuts κ (tN a) (tN (κ 7 0 4)))) 0) 18 0 0 = sCuts κ (tN a) (tN (κ 7 0 4)) ∧ Inv ids (mCan (upd3 (κ) 18 0 0 (sCuts κ (tN a) (tN (κ 7 0 4)))) 0) := 
  sim_rd (fun μ => mOneT a 11) (fun μ => μ 26 0 (tN a)) J (fun μ h => by
  obtain ⟨ea, la⟩ := mIn_rng (m := 11) (oneT_0 hT) (by decide)
  refine ⟨hT, ?_⟩
  rw [← (h.2.2.1 (tN a) (by omega)).2.2.2.2.2.1]
  exact (h.2.2.2.1 (tN a) (by omega)).symm)
theorem simB_bondByCuts {ids : gIds} {κ : gMem} {a : Int32} (J : Inv ids κ) (hT : ¬ mOneT a 11 = 0) : mOneT a 11 = mOneT a 11 ∧ ¬ mOneT a 11 = 0 := ⟨rfl, hT⟩
theorem simA_earned {ids : gIds} {κ : gMem} {a : Int32} (J : Inv ids κ) (hT : mOneT a 11 = 0) : mWF (upd3 (κ) 18 0 0 (κ 5 (tN a) 4)) ∧ mOneT a 11 = 0 ∧ (upd3 (κ) 18 0 0 (κ 5 (tN a) 4)) 27 0 (tN a) = κ 5 (tN a) 4 ∧ (mCan (upd3 (κ) 18 0 0 (κ 5 (tN a) 4)) 0) 8 0 26 = 0 ∧ (mCan (upd3 (κ) 18 0 0 (κ 5 (tN a) 4)) 0) 18 0 0 = κ 5 (tN a) 4 ∧ Inv ids (mCan (upd3 (κ) 18 0 0 (κ 5 (tN a) 4)) 0) := 
  sim_rd (fun μ => mOneT a 11) (fun μ => μ 27 0 (tN a)) J (fun μ h => by
  obtain ⟨ea, la⟩ := mIn_rng (m := 11) (oneT_0 hT) (by decide)
  exact ⟨hT, (h.2.2.1 (tN a) (by omega)).2.2.2.2.2.2.1.symm⟩)
theorem simB_earned {ids : gIds} {κ : gMem} {a : Int32} (J : Inv ids κ) (hT : ¬ mOneT a 11 = 0) : mOneT a 11 = mOneT a 11 ∧ ¬ mOneT a 11 = 0 := ⟨rfl, hT⟩
theorem simA_mark {ids : gIds} {κ : gMem} {a : Int32} (J : Inv ids κ) (hT : mOneT a 11 = 0) : mWF (upd3 (κ) 18 0 0 (sMark κ (tN a) (tN (κ 7 0 4)))) ∧ mOneT a 11 = 0 ∧ mMark (upd3 (κ) 18 0 0 (sMark κ (tN a) (tN (κ 7 0 4)))) a (tN ((upd3 (κ) 18 0 0 (sMark κ (tN a) (tN (κ 7 0 4)))) 8 0 16)) = sMark κ (tN a) (tN (κ 7 0 4)) ∧ (mCan (upd3 (κ) 18 0 0 (sMark κ (tN a) (tN (κ 7 0 4)))) 0) 8 0 26 = 0 ∧ (mCan (upd3 (κ) 18 0 0 (sMark κ (tN a) (tN (κ 7 0 4)))) 0) 18 0 0 = sMark κ (tN a) (tN (κ 7 0 4)) ∧ Inv ids (mCan (upd3 (κ) 18 0 0 (sMark κ (tN a) (tN (κ 7 0 4)))) 0) := 
  sim_rd (fun μ => mOneT a 11) (fun μ => mMark μ a (tN (μ 8 0 16))) J (fun μ h => by
  obtain ⟨ea, la⟩ := mIn_rng (m := 11) (oneT_0 hT) (by decide)
  refine ⟨hT, ?_⟩
  rw [← h.n.2.2]
  exact mMark_eq h ⟨ea, by omega⟩ _ (Nat.le_refl _))
theorem simB_mark {ids : gIds} {κ : gMem} {a : Int32} (J : Inv ids κ) (hT : ¬ mOneT a 11 = 0) : mOneT a 11 = mOneT a 11 ∧ ¬ mOneT a 11 = 0 := ⟨rfl, hT⟩
theorem simA_purse {ids : gIds} {κ : gMem} {a : Int32} (J : Inv ids κ) (hT : mOneT a 5 = 0) : mWF (upd3 (κ) 18 0 0 (κ 1 (tN a) 0)) ∧ mOneT a 5 = 0 ∧ (upd3 (κ) 18 0 0 (κ 1 (tN a) 0)) 30 0 (tN a) = κ 1 (tN a) 0 ∧ (mCan (upd3 (κ) 18 0 0 (κ 1 (tN a) 0)) 0) 8 0 26 = 0 ∧ (mCan (upd3 (κ) 18 0 0 (κ 1 (tN a) 0)) 0) 18 0 0 = κ 1 (tN a) 0 ∧ Inv ids (mCan (upd3 (κ) 18 0 0 (κ 1 (tN a) 0)) 0) := 
  sim_rd (fun μ => mOneT a 5) (fun μ => μ 30 0 (tN a)) J (fun μ h => by
  obtain ⟨ea, la⟩ := mIn_rng (m := 5) (oneT_0 hT) (by decide)
  exact ⟨hT, (h.2.2.2.2.1 (tN a) (by omega)).symm⟩)
theorem simB_purse {ids : gIds} {κ : gMem} {a : Int32} (J : Inv ids κ) (hT : ¬ mOneT a 5 = 0) : mOneT a 5 = mOneT a 5 ∧ ¬ mOneT a 5 = 0 := ⟨rfl, hT⟩
theorem simA_aside {ids : gIds} {κ : gMem} {a b : Int32} (J : Inv ids κ) (hT : mAsideT a b = 0) : mWF (upd3 (κ) 18 0 0 (sAside κ (tN a) (tN b))) ∧ mAsideT a b = 0 ∧ (upd3 (κ) 18 0 0 (sAside κ (tN a) (tN b))) 35 0 (12 * tN a + tN b) = sAside κ (tN a) (tN b) ∧ (mCan (upd3 (κ) 18 0 0 (sAside κ (tN a) (tN b))) 0) 8 0 26 = 0 ∧ (mCan (upd3 (κ) 18 0 0 (sAside κ (tN a) (tN b))) 0) 18 0 0 = sAside κ (tN a) (tN b) ∧ Inv ids (mCan (upd3 (κ) 18 0 0 (sAside κ (tN a) (tN b))) 0) := 
  sim_rd (fun μ => mAsideT a b) (fun μ => μ 35 0 (12 * tN a + tN b)) J (fun μ h => by
  have t1 : ¬ mIn a 0 5 = 0 := fun z => by rw [mAsideT, if_pos z] at hT; exact absurd hT (by decide)
  have t2 : ¬ mIn b 0 11 = 0 := fun z => by rw [mAsideT, if_neg t1, if_pos z] at hT; exact absurd hT (by decide)
  obtain ⟨ea, la⟩ := mIn_rng (m := 5) t1 (by decide)
  obtain ⟨eb, lb⟩ := mIn_rng (m := 11) t2 (by decide)
  refine ⟨hT, ?_⟩
  rw [sAside]
  rcases h.2.2.2.2.2.1 (tN a) (tN b) (by omega) (by omega) with w | w
  · rw [if_pos (by rw [w.1]; decide)]; exact w.2.2
  · rw [if_neg (by rw [w.1]; exact nI_pos (by omega))]; exact w.2.2.2.2.1.symm)
theorem simB_aside {ids : gIds} {κ : gMem} {a b : Int32} (J : Inv ids κ) (hT : ¬ mAsideT a b = 0) : mAsideT a b = mAsideT a b ∧ ¬ mAsideT a b = 0 := ⟨rfl, hT⟩
