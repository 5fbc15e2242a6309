/-! ===== what the calls leave alone ===== -/
def kK (μ μ' : gMem) : Prop := ∀ f i k, f < 20 → f ≠ 8 ∨ k = 26 → μ' f i k = μ f i k
theorem kK.fin {μ μ' : gMem} (h : kK (mCan μ 0) μ') (hw : mWF μ') : mWF μ' ∧ cEq μ μ' ∧ μ' 18 0 0 = μ 18 0 0 ∧ μ' 8 0 26 = 0 :=
  ⟨hw, fun f i k f8 f18 => (h f i k (by omega) (by omega)).trans (upd3_f f8), (h 18 0 0 (by decide) (by omega)).trans (upd3_f (by decide)), (h 8 0 26 (by decide) (by omega)).trans upd3_s⟩
theorem kK_challenge (μ : gMem) (b : Int32) (r : Nat) : kK μ (mChallengeK μ b r) := fun f i k h1 h2 => (mChallengeK_at μ b r).2.2.2.2 f i k (by omega) (by omega) (by omega) (by omega)
theorem kK_opn (μ : gMem) (b s : Nat) (t : Int32) : kK μ (mOpenK μ b s t) := fun f i k h1 h2 => (mOpenK_at μ b s t).2.2.2.2.2 f i k (by omega) (by omega)
theorem kK_sample (μ : gMem) (s r : Nat) (v : Int32) : kK μ (mSampleK μ s r v) := fun f i k h1 h2 => by
  rw [mSampleK]
  split
  · rw [mJudges_keep (by omega) (by omega) (by omega) (by omega) (by omega) (by omega), upd3_f (by omega)]
  · rw [upd3_f (by omega)]
theorem kK_tell (μ : gMem) (a : Int32) (r : Nat) (v : Int32) : kK μ (mTellK μ a r v) := fun f i k h1 h2 => by
  have e1 : mTell1 μ a r v f i k = μ f i k := by rw [mTell1, upd3_f (by omega), upd3_f (by omega), upd3_f (by omega), upd3_f (by omega), upd3_n (by omega)]
  have e2 : mTell2 (mTell1 μ a r v) (tN a) r f i k = μ f i k := by
    rw [mTell2, gIt_keep (fun _ _ => mPart_keep (by omega) (by omega) (by omega))]; exact e1
  rw [mTellK, mTell4]
  split
  · rw [gIt_keep (fun _ _ => mUse_keep (by omega) (by omega) (by omega)), mTell3, upd3_f (by omega)]; exact e2
  · rw [mTell3, upd3_f (by omega)]; exact e2
theorem kK_advance (μ : gMem) (t : Nat) : kK μ (mAdvK μ t) := fun f i k h1 h2 => by
  refine gIt_keep (fun _ μ => ?_) _ _
  rw [mEnds, upd3_n (by omega), gIt_keep (fun _ _ => mEnd2_keep (by omega) (by omega) (by omega)), gIt_keep (fun _ _ => mEnd1_keep (by omega) (by omega) (by omega) (by omega) (by omega) (by omega))]
theorem mChallengeK_WF {μ : gMem} {b : Int32} {r : Nat} (h : mWF μ) (hb : ixL b 6) : mWF (mChallengeK μ b r) := by
  obtain ⟨b1, b2, b3, b4, b5⟩ := mChallengeK_at μ b r
  obtain ⟨a1, a2, a3, a4, a5⟩ := h
  refine ⟨by rw [b5 8 0 16 (by omega) (by omega) (by omega) (by omega)]; exact a1, fun q hq => by rw [b5 37 0 q (by omega) (by omega) (by omega) (by omega)]; exact a2 q hq, fun q hq => ?_, fun q hq => by rw [b5 25 0 q (by omega) (by omega) (by omega) (by omega)]; exact a4 q hq, fun q hq h0 => by rw [b5 21 0 q (by omega) (by omega) (by omega) (by omega)]; exact a5 q hq h0⟩
  by_cases e : q = r
  · rw [e, b3]; exact ⟨tN b, hb.2, hb.1⟩
  · rw [b5 42 0 q (by omega) (by omega) (by omega) (by omega)]; exact a3 q hq
theorem mOpenK_WF {μ : gMem} {b s : Nat} {t : Int32} (h : mWF μ) : mWF (mOpenK μ b s t) := by
  have b6 := (mOpenK_at μ b s t).2.2.2.2.2
  exact h.of (b6 _ _ _ (by omega) (by omega)) (fun _ => b6 _ _ _ (by omega) (by omega)) (fun _ => b6 _ _ _ (by omega) (by omega)) (fun _ => b6 _ _ _ (by omega) (by omega)) (fun _ => b6 _ _ _ (by omega) (by omega))
theorem mSampleK_WF {μ : gMem} {s r : Nat} {v : Int32} (h : mWF μ) : mWF (mSampleK μ s r v) := by
  have h1 : mWF (upd3 μ 45 0 (12 * r + s) v) := h.upd (by decide) (by decide) (by decide) (by decide) (Or.inl (by decide))
  rw [mSampleK]
  split
  · exact mJudges_WF h1
  · exact h1
theorem mTellK_WF {μ : gMem} {a v : Int32} {r : Nat} (h : mWF μ) (ha : ixL a 12) (hr : μ 8 0 16 = nI r) (h80 : r < 80) : mWF (mTellK μ a r v) := by
  have h1 : mWF (mTell3 (mTell2 (mTell1 μ a r v) (tN a) r) r) := (mPart_it_WF (mTell1_WF h ha.1 ha.2 hr h80)).upd (by decide) (by decide) (by decide) (by decide) (Or.inl (by decide))
  rw [mTellK, mTell4]
  split
  · refine gIt_inv (I := mWF) (N := 6) (fun k κ _ hk => hk.of (mUse_keep (by decide) (by decide) (by decide)) (fun _ => mUse_keep (by decide) (by decide) (by decide)) (fun _ => mUse_keep (by decide) (by decide) (by decide)) (fun _ => mUse_keep (by decide) (by decide) (by decide)) (fun _ => mUse_keep (by decide) (by decide) (by decide))) 6 (Nat.le_refl _) _ h1
  · exact h1
/-! the class leaves the reference alone -/
theorem sJudge_keep {κ : gMem} {r f i k : Nat} (h : f = 8 ∨ 20 ≤ f) : sJudge κ r f i k = κ f i k := by
  rw [sJudge]
  split
  · rw [(sStand_at _ r).2.2.2 f i k (by omega) (by omega), upd3_f (by omega)]
  · exact (sLie_at κ r).2.2.2.2.2.2 f i k (by omega) (by omega) (by omega) (by omega)
theorem sSettle_keep {κ : gMem} {r f i k : Nat} (h : f = 8 ∨ 20 ≤ f) : sSettle κ r f i k = κ f i k := by
  rw [sSettle]
  split
  · exact (sStand_at _ r).2.2.2 f i k (by omega) (by omega)
  · exact sJudge_keep h
theorem sClose_keep {κ : gMem} {b : Nat} {e : Int32} {f i j : Nat} (h1 : f ≠ 1) (h2 : f ≠ 14) : sClose b e κ f i j = κ f i j := gIt_keep (fun _ _ => (sClose1_dn _ _ _ _).2.2 _ _ _ h1 h2) _ _
theorem sEnd_keep {κ : gMem} {e : Int32} {f i k : Nat} (h : f = 8 ∨ 20 ≤ f) : sEnd κ e f i k = κ f i k := by
  rw [sEnd, gIt_keep (fun _ _ => sClose_keep (by omega) (by omega))]
  refine gIt_keep (fun q κ => ?_) _ _
  rw [sEnd1]
  split
  · rfl
  · split
    · exact sSettle_keep h
    · rfl
theorem sAdvI_keep {f i k : Nat} (h : f = 8 ∨ 20 ≤ f) : ∀ (n : Nat) (κ : gMem) (e t : Int32), sAdvI n κ e t f i k = κ f i k
  | 0, _, _, _ => rfl
  | n + 1, κ, e, t => by
    rw [sAdvI]
    split
    · rfl
    · split
      · rfl
      · rw [sAdvI_keep h n, sEnd_keep h]
theorem eq_advance (κ : gMem) (t : Int32) : mEq κ (sAdvK κ t) := fun f i k h => by rw [sAdvK, upd3_f (by omega), sAdvI_keep h]
theorem eq_sample (κ : gMem) (s r : Nat) (v : Int32) : mEq κ (sSampleK κ s r v) := fun f i k h => by
  rw [sSampleK]
  split
  · rw [sJudge_keep h, sAdd_keep (by omega) (by omega)]
  · rw [sAdd_keep (by omega) (by omega)]
theorem eq_challenge (κ : gMem) (b r : Nat) : mEq κ (sChallengeK κ b r) := fun f i k h => (sChallengeK_at κ b r).2.2.2.2.2.2.2 f i k (by omega) (by omega) (by omega) (by omega) (by omega)
theorem eq_opn (κ : gMem) (b s : Nat) (t : Int32) : mEq κ (sOpenK κ b s t) := fun f i k h => (sOpenK_at κ b s t).2.2.2.2 f i k (by omega) (by omega) (by omega) (by omega)
theorem eq_tell (κ : gMem) (s r : Nat) (v : Int32) : mEq κ (sTellK κ s r v) := by
  have e1 : mEq κ (sTell1 κ s) := fun f i k h => by rw [sTell1_keep (by omega) (by omega)]
  have e2 : ∀ p, mEq κ (sTell2 (sTell1 κ s) s r v p) := fun p f i k h => by
    rw [sTell2, upd3_f (by omega), upd3_f (by omega), updR_far (by omega), updR_far (by omega)]; exact e1 f i k h
  rw [sTellK]
  split
  · exact e2 _
  · exact ((e2 _).tr ((mEq.upd (by decide) (by decide)).tr (mEq.upd (by decide) (by decide)))).tr (mEq.it (fun _ _ f i k h => sUse_keep (by omega) (by omega) (by omega)) _ _)
/-! the cells -/
theorem mV.app {ids : gIds} (h : mV ids) (l : gIds) : mV (ids ++ l) := fun f i hi => List.mem_append_left _ (h f i hi)
theorem mV.drop {ids : gIds} (h : mV ids) {w : Nat} : mV (gDrop ids (6, w)) := fun f i hi => gDrop_m.mpr ⟨h f i hi, fun z => by
  cases z
  exact absurd hi (Nat.not_lt_zero _)⟩
theorem cWF.mk' {ids ids' : gIds} {κ κ' : gMem} (h : cWF ids κ) (e7 : κ' 7 0 4 = κ 7 0 4) (hR : ∀ r, r < tN (κ 7 0 4) → cRd ids' κ' r) (e13 : ∀ r, κ' 13 0 r = κ 13 0 r) (e4 : ∀ k, κ' 4 k 1 = κ 4 k 1) (e5 : ∀ k, κ' 5 k 1 = κ 5 k 1) (h14 : ∀ b k, b < 6 → k < 12 → κ' 14 b k = -1 ∨ (κ' 14 b k = nI (12 * b + k) ∧ (6, 12 * b + k) ∈ ids')) : cWF ids' κ' := by
  obtain ⟨a1, a2, a3, a4, a5, a6, a7⟩ := h
  exact ⟨by rw [e7]; exact a1, fun r hr => hR r (by rw [e7] at hr; exact hr), fun r hr => by rw [e13]; exact a3 r (by rw [e7] at hr; exact hr), by rw [e4]; exact a4, fun k hk h0 => by rw [e4]; exact a5 k hk h0, fun k hk => by rw [e5]; exact a6 k hk, h14⟩
theorem opn_W {ids : gIds} {κ : gMem} {b s : Nat} {t : Int32} (h : cWF ids κ) (hb : b < 6) (hs : s < 12) : cWF (gDrop ids (6, 12 * b + s) ++ [(6, 12 * b + s)]) (sOpenK κ b s t) := by
  obtain ⟨a1, a2, a3, a4, a5⟩ := sOpenK_at κ b s t
  have hm : ∀ f i, f ≠ 6 → (f, i) ∈ ids → (f, i) ∈ gDrop ids (6, 12 * b + s) ++ [(6, 12 * b + s)] := fun f i hf hi => List.mem_append_left _ (gDrop_m.mpr ⟨hi, fun z => hf (congrArg Prod.fst z)⟩)
  have c : ∀ f i k, f ≠ 1 → f ≠ 6 → f ≠ 14 → f ≠ 7 ∨ k ≠ 7 → sOpenK κ b s t f i k = κ f i k := fun f i k f1 f2 f3 f4 => a5 f i k f1 (by omega) (by omega) f4
  refine h.mk' (c _ _ _ (by decide) (by decide) (by decide) (by omega)) (fun r hr => ?_) (fun r => c _ _ _ (by decide) (by decide) (by decide) (by omega)) (fun r => c _ _ _ (by decide) (by decide) (by decide) (by omega)) (fun r => c _ _ _ (by decide) (by decide) (by decide) (by omega)) (fun b' k hb' hk => ?_)
  · obtain ⟨r1, r2, r3, r4, r5⟩ := h.2.1 r hr
    refine ⟨by rw [c _ _ _ (by decide) (by decide) (by decide) (by omega)]; exact r1, hm _ _ (by decide) r2, hm _ _ (by decide) r3, by rw [c _ _ _ (by decide) (by decide) (by decide) (by omega)]; exact r4, ?_⟩
    rw [c _ _ _ (by decide) (by decide) (by decide) (by omega)]
    rcases r5 with r5 | ⟨r5, q1, q2, q3, q4⟩
    · exact Or.inl r5
    · exact Or.inr ⟨r5, hm _ _ (by decide) q1, hm _ _ (by decide) q2, by rw [c _ _ _ (by decide) (by decide) (by decide) (by omega)]; exact q3, by rw [c _ _ _ (by decide) (by decide) (by decide) (by omega)]; exact q4⟩
  · by_cases e : b' = b ∧ k = s
    · obtain ⟨rfl, rfl⟩ := e
      exact Or.inr ⟨a3, List.mem_append_right _ List.mem_cons_self⟩
    · rw [a5 14 b' k (by decide) (by omega) (by omega) (by omega)]
      rcases h.2.2.2.2.2.2 b' k hb' hk with w | ⟨w1, w2⟩
      · exact Or.inl w
      · exact Or.inr ⟨w1, List.mem_append_left _ (gDrop_m.mpr ⟨w2, fun z => by
          have := congrArg Prod.snd z
          have : 12 * b' + k = 12 * b + s := this
          omega⟩)⟩
theorem opn_I {ids : gIds} {κ : gMem} {b s : Nat} {t : Int32} (h : cI ids κ) : cI (gDrop ids (6, 12 * b + s) ++ [(6, 12 * b + s)]) (sOpenK κ b s t) := by
  obtain ⟨a1, a2, a3, a4, a5⟩ := sOpenK_at κ b s t
  have h' : cI ids (sOpenK κ b s t) := h.to (a5 _ _ _ (by decide) (by omega) (by omega) (by omega)) (fun r => a5 _ _ _ (by decide) (by omega) (by omega) (by omega))
  have hm : ∀ f i, f ≠ 6 → (f, i) ∈ gDrop ids (6, 12 * b + s) ++ [(6, 12 * b + s)] → (f, i) ∈ ids := fun f i hf hi => by
    rcases List.mem_append.mp hi with q | q
    · exact (gDrop_m.mp q).1
    · exact absurd (congrArg Prod.fst (List.mem_singleton.mp q)) hf
  obtain ⟨b1, b2, b3, b4, b5, b6, b7, b8⟩ := h'
  exact ⟨fun r hr => b1 r (hm _ _ (by decide) hr), fun r hr => b2 r (hm _ _ (by decide) hr), fun r hr => b3 r (hm _ _ (by decide) hr), fun r hr => b4 r (hm _ _ (by decide) hr), fun r hr => b5 r (hm _ _ (by decide) hr), fun r hr => b6 r (hm _ _ (by decide) hr), fun r hr => b7 r (hm _ _ (by decide) hr), fun r hr => b8 r (hm _ _ (by decide) hr)⟩
theorem challenge_W {ids : gIds} {κ : gMem} {b r : Nat} (h : cWF ids κ) (hb : b < 6) (hr : r < tN (κ 7 0 4)) : cWF ((ids ++ [(2, r)]) ++ [(16, r)]) (sChallengeK κ b r) := by
  obtain ⟨a1, a2, a3, a4, a5, a6, a7, a8⟩ := sChallengeK_at κ b r
  have hm : ∀ x, x ∈ ids → x ∈ (ids ++ [(2, r)]) ++ [(16, r)] := fun x hx => List.mem_append_left _ (List.mem_append_left _ hx)
  refine h.mk' (a8 _ _ _ (by decide) (by omega) (by omega) (by omega) (by omega)) (fun q hq => ?_) (fun _ => a8 _ _ _ (by decide) (by omega) (by omega) (by omega) (by omega)) (fun _ => a8 _ _ _ (by decide) (by omega) (by omega) (by omega) (by omega)) (fun _ => a8 _ _ _ (by decide) (by omega) (by omega) (by omega) (by omega)) (fun b' k hb' hk => ?_)
  · obtain ⟨r1, r2, r3, r4, r5⟩ := h.2.1 q hq
    refine ⟨by rw [a8 _ _ _ (by decide) (by omega) (by omega) (by omega) (by omega)]; exact r1, hm _ r2, hm _ r3, by rw [a8 _ _ _ (by decide) (by omega) (by omega) (by omega) (by omega)]; exact r4, ?_⟩
    by_cases e : q = r
    · subst e
      refine Or.inr ⟨a4, List.mem_append_left _ (List.mem_append_right _ List.mem_cons_self), List.mem_append_right _ List.mem_cons_self, ?_, ?_⟩
      · rw [a5]; exact ixL.nI hb (by decide)
      · rw [a5]; exact ixL0 (by decide)
    · rw [a8 _ _ _ (by decide) (by omega) (by omega) (by omega) (by omega)]
      rcases r5 with r5 | ⟨r5, q1, q2, q3, q4⟩
      · exact Or.inl r5
      · exact Or.inr ⟨r5, hm _ q1, hm _ q2, by rw [a8 _ _ _ (by decide) (by omega) (by omega) (by omega) (by omega)]; exact q3, by rw [a8 _ _ _ (by decide) (by omega) (by omega) (by omega) (by omega)]; exact q4⟩
  · rw [a8 _ _ _ (by decide) (by omega) (by omega) (by omega) (by omega)]
    rcases h.2.2.2.2.2.2 b' k hb' hk with w | ⟨w1, w2⟩
    · exact Or.inl w
    · exact Or.inr ⟨w1, hm _ w2⟩
theorem challenge_I {ids : gIds} {κ : gMem} {b r : Nat} (h : cI ids κ) (hr : r < tN (κ 7 0 4)) : cI ((ids ++ [(2, r)]) ++ [(16, r)]) (sChallengeK κ b r) := by
  obtain ⟨a1, a2, a3, a4, a5, a6, a7, a8⟩ := sChallengeK_at κ b r
  have e7 : sChallengeK κ b r 7 0 4 = κ 7 0 4 := a8 _ _ _ (by decide) (by omega) (by omega) (by omega) (by omega)
  have e9 : ∀ q, q ≠ r → sChallengeK κ b r 3 q 9 = κ 3 q 9 := fun q e => a8 _ _ _ (by decide) (by omega) (by omega) (by omega) (by omega)
  obtain ⟨b1, b2, b3, b4, b5, b6, b7, b8⟩ := h
  have hm : ∀ f i, (f, i) ∈ (ids ++ [(2, r)]) ++ [(16, r)] → (f, i) ∈ ids ∨ ((f = 2 ∨ f = 16) ∧ i = r) := fun f i hx => by
    rcases List.mem_append.mp hx with hx | hx
    · rcases List.mem_append.mp hx with hx | hx
      · exact Or.inl hx
      · cases List.mem_singleton.mp hx; exact Or.inr ⟨Or.inl rfl, rfl⟩
    · cases List.mem_singleton.mp hx; exact Or.inr ⟨Or.inr rfl, rfl⟩
  have nine : ∀ q, q < tN (κ 7 0 4) ∧ κ 3 q 9 = nI q → q < tN (sChallengeK κ b r 7 0 4) ∧ sChallengeK κ b r 3 q 9 = nI q := fun q hq => by
    rw [e7]
    refine ⟨hq.1, ?_⟩
    by_cases e : q = r
    · rw [e]; exact a4
    · rw [e9 q e]; exact hq.2
  refine ⟨fun q hq => ?_, fun q hq => ?_, fun q hq => ?_, fun q hq => ?_, fun q hq => ?_, fun q hq => ?_, fun q hq => ?_, fun q hq => ?_⟩
  · rcases hm _ _ hq with z | z
    · exact b1 q z
    · omega
  · rcases hm _ _ hq with z | z
    · exact b2 q z
    · omega
  · rw [e7]
    rcases hm _ _ hq with z | z
    · exact b3 q z
    · omega
  · rw [e7]
    rcases hm _ _ hq with z | z
    · exact b4 q z
    · omega
  · rcases hm _ _ hq with z | z
    · exact nine q (b5 q z)
    · rw [z.2, e7]; exact ⟨hr, a4⟩
  · rcases hm _ _ hq with z | z
    · exact nine q (b6 q z)
    · rw [z.2, e7]; exact ⟨hr, a4⟩
  · rcases hm _ _ hq with z | z
    · exact b7 q z
    · omega
  · rcases hm _ _ hq with z | z
    · exact b8 q z
    · omega
theorem tell_W {ids : gIds} {κ : gMem} {s r : Nat} {v : Int32} (h : cWF ids κ) (hr : κ 7 0 4 = nI r) (h80 : r < 80) (hs : s < 12) : cWF ((ids ++ [(3, r)]) ++ [(15, r)]) (sTellK κ s r v) := by
  have e7 : sTell1 κ s 7 0 4 = nI r := (sTell1_keep (by decide) (by decide)).trans hr
  rw [sTellK]
  split
  · exact sTell2_WF (sTell1_WF h) e7 h80 hs
  · exact sUse_it_WF (sWait_WF (sTell2_WF (sTell1_WF h) e7 h80 hs))
theorem tell_I {ids : gIds} {κ : gMem} {s r : Nat} {v : Int32} (h : cI ids κ) (hr : κ 7 0 4 = nI r) (h80 : r < 80) : cI ((ids ++ [(3, r)]) ++ [(15, r)]) (sTellK κ s r v) := by
  have e7 : sTell1 κ s 7 0 4 = nI r := (sTell1_keep (by decide) (by decide)).trans hr
  have h1 : cI ids (sTell1 κ s) := h.to (sTell1_keep (by decide) (by decide)) (fun _ => sTell1_keep (by decide) (by decide))
  rw [sTellK]
  split
  · exact sTell2_I h1 e7 h80
  · exact ((sTell2_I h1 e7 h80).same sWait_same).same sUses_same
theorem sSampleK_WF {ids : gIds} {κ : gMem} {s r : Nat} {v : Int32} (h : cWF ids κ) : cWF ids (sSampleK κ s r v) := by
  rw [sSampleK]
  split
  · exact sJudge_WF (sAdd_WF h)
  · exact sAdd_WF h
theorem sSampleK_I {ids : gIds} {κ : gMem} {s r : Nat} {v : Int32} (h : cI ids κ) : cI ids (sSampleK κ s r v) := by
  have h1 : cI ids (sAdd κ r s v) := h.to (sAdd_keep (by decide) (by decide)) (fun _ => sAdd_keep (by decide) (by decide))
  rw [sSampleK]
  split
  · exact h1.same sJudge_same
  · exact h1
theorem sEnd_39 {κ : gMem} {e : Int32} {q : Nat} : sEnd κ e 3 q 9 = κ 3 q 9 := by
  rw [sEnd, gIt_keep (fun _ _ => sClose_keep (by decide) (by decide))]
  exact sEnd1_it_same 3 q 9 rfl
theorem sAdvI_I {ids : gIds} : ∀ (n : Nat) {κ : gMem} {e t : Int32}, cI ids κ → cI ids (sAdvI n κ e t)
  | 0, _, _, _, h => h
  | n + 1, κ, e, t, h => by
    rw [sAdvI]
    split
    · exact h
    · split
      · exact h
      · exact sAdvI_I n (h.to sEnd_cnt (fun _ => sEnd_39))
theorem sAdvK_I {ids : gIds} {κ : gMem} {t : Int32} (h : cI ids κ) : cI ids (sAdvK κ t) := (sAdvI_I 101 h).to rfl (fun _ => rfl)
