theorem sPart_keep {s f i k : Nat} {κ : gMem} (h : f ≠ 4 ∨ k ≠ 3) : sPart s κ f i k = κ f i k := sGoes_keep _ _ _ _ _ _ h
theorem i32_le2 {p : Nat} (h : p ≤ 4) : (nI p < 3 ↔ p < 3) ∧ (nI p ≤ 2 ↔ p < 3) := by
  have : ∀ p, p ≤ 4 → (nI p < 3 ↔ p < 3) ∧ (nI p ≤ 2 ↔ p < 3) := by decide +kernel
  exact this p h
theorem rel_tell {κ μ : gMem} {a v : Int32} (h : Rel κ μ) (ha : ixL a 12) (hv : ixL v 100) (h80 : tN (κ 7 0 4) < 80) : Rel (sTellK κ (tN a) (tN (κ 7 0 4)) v) (mTellK μ a (tN (μ 8 0 16)) v) := by
  have n1 : κ 7 0 4 = nI (tN (κ 7 0 4)) := h.1.2.2.2.2.1
  have n3 : κ 7 0 4 = μ 8 0 16 := h.1.2.2.2.1
  rw [← n3]
  obtain ⟨r, hr⟩ : ∃ r, tN (κ 7 0 4) = r := ⟨_, rfl⟩
  rw [hr] at n1 h80 ⊢
  obtain ⟨s, hs⟩ : ∃ s, tN a = s := ⟨_, rfl⟩
  have hs12 : s < 12 := by rw [← hs]; exact ha.2
  have ea : a = nI s := by rw [← hs]; exact ha.1
  have hT := h.1.2.1
  have hS := h.2.2.1 s hs12
  have hN := h.2.2.2.2.2.2.2 r (by rw [hr]; exact Nat.le_refl _) h80
  obtain ⟨κ0, hκ0⟩ : ∃ κ0, upd3 κ 5 s 6 (κ 7 0 6) = κ0 := ⟨_, rfl⟩
  obtain ⟨μ0, hμ0⟩ : ∃ μ0, mTell1 μ a r v = μ0 := ⟨_, rfl⟩
  have k0 : ∀ f i k, f ≠ 5 ∨ i ≠ s ∨ k ≠ 6 → κ0 f i k = κ f i k := fun f i k hf => by rw [← hκ0, upd3_n (by omega)]
  have m0 : ∀ f k, f ≠ 8 ∨ k ≠ 16 → (f ≠ 37 ∧ f ≠ 38 ∧ f ≠ 41) ∨ k ≠ r → f ≠ 29 ∨ k ≠ s → μ0 f 0 k = μ f 0 k := fun f k f1 f2 f3 => by
    rw [← hμ0, mTell1, hs, upd3_n (by omega), upd3_n (by omega), upd3_n (by omega), upd3_n (by omega), upd3_n (by omega)]
  have t16 : μ0 8 0 16 = nI (r + 1) := by
    rw [← hμ0, mTell1, upd3_f (by decide), upd3_f (by decide), upd3_f (by decide), upd3_f (by decide), upd3_s, ← n3, n1]; exact nI_1 r
  have t37 : μ0 37 0 r = nI s := by rw [← hμ0, mTell1, upd3_f (by decide), upd3_f (by decide), upd3_f (by decide), upd3_s, ea]
  have t38 : μ0 38 0 r = v := by rw [← hμ0, mTell1, upd3_f (by decide), upd3_f (by decide), upd3_s]
  have t8 : upd3 (upd3 (upd3 μ 8 0 16 (μ 8 0 16 + 1)) 37 0 r a) 38 0 r v 8 0 0 = μ 8 0 0 := by rw [upd3_f (by decide), upd3_f (by decide), upd3_k (by decide)]
  have t41 : μ0 41 0 r = μ 8 0 0 := by rw [← hμ0, mTell1, upd3_f (by decide), upd3_s]
  have t29 : μ0 29 0 s = μ 8 0 0 := by rw [← hμ0, mTell1, hs, upd3_s]
  obtain ⟨g1, g2, p, g3, g4⟩ := rel_parts (κ := κ0) (μ := μ0) (s := s) (r := r) (N := 4 * r + 1) (by omega)
    (by rw [k0 _ _ _ (by omega), m0 _ _ (by omega) (by omega) (by omega)]; exact hS.1)
    (by rw [k0 _ _ _ (by omega)]; exact hS.2.1.2)
    (fun k hk => by
      have hp : rPb (4 * r + 1) κ μ k := by
        have := h.2.1 k hk
        rw [rP, hr] at this; exact this
      exact hp.to (k0 _ _ _ (by omega)) (k0 _ _ _ (by omega)) (k0 _ _ _ (by omega)) (m0 _ _ (by omega) (by omega) (by omega)) (m0 _ _ (by omega) (by omega) (by omega)) (m0 _ _ (by omega) (by omega) (by omega)) (m0 _ _ (by omega) (by omega) (by omega))) 4 (Nat.le_refl _)
  have z40 : μ0 40 0 r = 0 := (m0 _ _ (by omega) (by omega) (by omega)).trans hN.1
  rw [z40, Int32.zero_add, g4] at g2
  obtain ⟨κ1, hκ1⟩ : ∃ κ1, gIt (fun _ => sPart s) 4 κ0 = κ1 := ⟨_, rfl⟩
  obtain ⟨μ1, hμ1⟩ : ∃ μ1, gIt (fun _ => mPart s r) 4 μ0 = μ1 := ⟨_, rfl⟩
  have k1 : ∀ f i k, f ≠ 5 ∨ i ≠ s ∨ k ≠ 6 → f ≠ 4 ∨ k ≠ 3 → κ1 f i k = κ f i k := fun f i k f1 f2 => by
    rw [← hκ1, gIt_keep (fun _ _ => sPart_keep f2)]; exact k0 f i k f1
  have k1s : κ1 5 s 6 = κ 7 0 6 := by
    rw [← hκ1, gIt_keep (f := 5) (i := s) (j := 6) (fun _ _ => sPart_keep (by omega)), ← hκ0, upd3_s]
  have m1 : ∀ f k, f ≠ 23 → f ≠ 24 → f ≠ 40 ∨ k ≠ r → μ1 f 0 k = μ0 f 0 k := fun f k f1 f2 f3 => by
    rw [← hμ1]; exact gIt_keep (fun _ _ => mPart_keep f1 f2 f3) _ _
  rw [hκ1, hμ1] at g1
  rw [hμ1] at g2
  obtain ⟨κ2, hκ2⟩ : ∃ κ2, sTell2 κ1 s r v (nI p) = κ2 := ⟨_, rfl⟩
  have k2 : ∀ f i k, f ≠ 3 ∨ i ≠ r → f ≠ 15 ∨ i ≠ r → f ≠ 13 → f ≠ 7 ∨ k ≠ 4 → κ2 f i k = κ1 f i k := fun f i k f1 f2 f3 f4 => by
    rw [← hκ2, sTell2, upd3_n (by omega), upd3_f f3, updR_far (by omega), updR_far (by omega)]
  have k23 : ∀ j, κ2 3 r j = sNewR s v (nI p) j := fun j => by
    rw [← hκ2, sTell2, upd3_f (by decide), upd3_f (by decide), updR_far (by omega), updR_s]
  have k215 : ∀ j, κ2 15 r j = 0 := fun j => by
    rw [← hκ2, sTell2, upd3_f (by decide), upd3_f (by decide), updR_s]
  have k24 : κ2 7 0 4 = nI (r + 1) := by
    rw [← hκ2, sTell2, upd3_s, k1 _ _ _ (by omega) (by omega), n1]; exact nI_1 r
  have e3 : mTell3 (mTell2 (mTell1 μ a r v) s r) r = upd3 μ1 39 0 r (if nI p ≤ 2 then 4 else 0) := by
    rw [mTell3, mTell2, hμ0, hμ1, g2]
  have eK : sTellK κ s r v = if nI p < 3 then κ2 else sUses (sWait κ2 r) r := by
    rw [sTellK, hκ0, g4, sTell1, hκ0, sSend, hκ1, hκ2]
  rw [hs, eK, mTellK, hs, e3]
  obtain ⟨l1, l2⟩ := i32_le2 g3
  obtain ⟨st, hst⟩ : ∃ st : Int32, (if nI p ≤ 2 then (4 : Int32) else 0) = st := ⟨_, rfl⟩
  have hst' : (if nI p < 3 then (4 : Int32) else 0) = st := by
    rw [← hst]
    by_cases q : p < 3
    · rw [if_pos (l1.mpr q), if_pos (l2.mpr q)]
    · rw [if_neg (fun z => q (l1.mp z)), if_neg (fun z => q (l2.mp z))]
  rw [hst]
  obtain ⟨μ3, hμ3⟩ : ∃ μ3, upd3 μ1 39 0 r st = μ3 := ⟨_, rfl⟩
  rw [hμ3]
  have m3 : ∀ f k, f ≠ 8 ∨ k ≠ 16 → (f ≠ 37 ∧ f ≠ 38 ∧ f ≠ 39 ∧ f ≠ 40 ∧ f ≠ 41) ∨ k ≠ r → f ≠ 29 ∨ k ≠ s → f ≠ 23 → f ≠ 24 → μ3 f 0 k = μ f 0 k := fun f k f1 f2 f3 f4 f5 => by
    rw [← hμ3, upd3_n (by omega), m1 _ _ f4 f5 (by omega), m0 _ _ f1 (by omega) f3]
  have m3r : ∀ f k, f ≠ 39 → f ≠ 40 → f ≠ 23 → f ≠ 24 → μ3 f 0 k = μ0 f 0 k := fun f k f1 f2 f3 f4 => by
    rw [← hμ3, upd3_f f1, m1 _ _ f3 f4 (by omega)]
  have m339 : μ3 39 0 r = st := by rw [← hμ3, upd3_s]
  have m340 : μ3 40 0 r = nI p := by rw [← hμ3, upd3_f (by decide)]; exact g2
  have z44 : μ3 44 0 r = 0 := (m3 _ _ (by omega) (by omega) (by omega) (by omega) (by omega)).trans hN.2.1
  have z43 : ∀ b, b < 6 → μ3 43 0 (6 * r + b) = 0 := fun b hb => (m3 _ _ (by omega) (by omega) (by omega) (by omega) (by omega)).trans (hN.2.2.1 b hb)
  have hP3 : ∀ κ' : gMem, (∀ k j, κ' 4 k j = κ1 4 k j) → ∀ k, k < 6 → rPb (4 * r + 5) κ' μ3 k := fun κ' hk4 k hk => by
    have q : rPb (4 * r + 1 + 4) κ' μ3 k := (g1 k hk).to (hk4 _ _) (hk4 _ _) (hk4 _ _) (by rw [← hμ3, upd3_f (by decide)]) (by rw [← hμ3, upd3_f (by decide)]) (by rw [← hμ3, upd3_f (by decide)]) (by rw [← hμ3, upd3_f (by decide)])
    exact q
  have hR3 : ∀ κ' : gMem, (∀ j, j ≠ 4 → κ' 3 r j = κ2 3 r j) → rR κ' μ3 r := fun κ' hk => by
    have z0 : mSize 0 6 = 0 := by decide +kernel
    refine ⟨?_, ?_, ?_, ?_, ?_, ?_, ?_, ?_⟩
    · rw [hk 0 (by decide), k23, m3r _ _ (by decide) (by decide) (by decide) (by decide), t37]; rfl
    · rw [hk 1 (by decide), k23, m3r _ _ (by decide) (by decide) (by decide) (by decide), t38]; rfl
    · rw [hk 1 (by decide), k23]; exact hv
    · rw [hk 2 (by decide), k23, m340]; rfl
    · rw [hk 3 (by decide), k23, m339]; exact hst'
    · rw [hk 3 (by decide), k23]
      have q : ixL (if nI p < 3 then (4 : Int32) else 0) 5 := by
        split
        · exact ixL.nI (j := 4) (by decide) (by decide)
        · exact ixL0 (by decide)
      exact q
    · rw [hk 6 (by decide), k23, z44, z0]; rfl
    · rw [hk 0 (by decide), k23]; exact ixL.nI hs12 (by decide)
  by_cases q : p < 3
  · have est : st = 4 := by rw [← hst', if_pos (l1.mpr q)]
    rw [if_pos (l1.mpr q), mTell4, m339, est, if_neg (by decide)]
    have e33 : κ2 3 r 3 = 4 := by rw [k23, ← est, ← hst']; rfl
    refine rel_new h n1 h80 (fun f i k f1 f2 f3 f4 f5 f6 => (k2 f i k f1 f2 f3 (by omega)).trans (k1 f i k f5 f6)) k24 ?_ ?_ (hP3 κ2 (fun k j => k2 _ _ _ (by omega) (by omega) (by omega) (by omega))) m3 ?_ ?_ (hR3 κ2 (fun _ _ => rfl)) (Or.inr ⟨?_, ?_, z43⟩) ?_ ?_ ?_
    · rw [k2 _ _ _ (by omega) (by omega) (by omega) (by omega), k1 _ _ _ (by omega) (by omega)]; exact Int32.le_refl _
    · rw [k2 _ _ _ (by omega) (by omega) (by omega) (by omega)]; exact k1s
    · rw [m3r _ _ (by decide) (by decide) (by decide) (by decide)]; exact t16
    · rw [m3r _ _ (by decide) (by decide) (by decide) (by decide)]; exact t29
    · rw [e33]; decide
    · rw [k23]; rfl
    · rw [k23]; rfl
    · rw [e33]; decide
    · rw [k23]; rfl
  · have est : st = 0 := by rw [← hst', if_neg (fun z => q (l1.mp z))]
    rw [if_neg (fun z => q (l1.mp z)), mTell4, m339, if_pos est]
    obtain ⟨κ3, hκ3⟩ : ∃ κ3, sWait κ2 r = κ3 := ⟨_, rfl⟩
    rw [hκ3]
    have e26 : κ2 7 0 6 = κ 7 0 6 := (k2 _ _ _ (by omega) (by omega) (by omega) (by omega)).trans (k1 _ _ _ (by omega) (by omega))
    have e27 : κ2 7 0 7 = κ 7 0 7 := (k2 _ _ _ (by omega) (by omega) (by omega) (by omega)).trans (k1 _ _ _ (by omega) (by omega))
    have hw : κ3 = upd3 (upd3 κ2 3 r 4 (κ 7 0 6 + 4)) 7 0 7 (sMax (κ 7 0 7) (κ 7 0 6 + 4)) := by
      rw [← hκ3, sWait, e26, e27]
    have k3 : ∀ f i k, f ≠ 3 ∨ i ≠ r ∨ k ≠ 4 → f ≠ 7 ∨ k ≠ 7 → κ3 f i k = κ2 f i k := fun f i k f1 f2 => by rw [hw, upd3_n (by omega), upd3_n (by omega)]
    have k34 : κ3 3 r 4 = κ 7 0 6 + 4 := by rw [hw, upd3_f (by decide), upd3_s]
    have k37 : κ3 7 0 7 = sMax (κ 7 0 7) (κ 7 0 6 + 4) := by rw [hw, upd3_s]
    have k3r : ∀ j, j ≠ 4 → κ3 3 r j = κ2 3 r j := fun j hj => k3 3 r j (by omega) (by omega)
    have e33 : κ3 3 r 3 = 0 := by rw [k3r 3 (by decide), k23, ← est, ← hst']; rfl
    have eT : κ 7 0 6 + 4 = nI (tN (κ 7 0 6) + 4) := time_add (n := 4) hT
    have hRel : Rel κ3 μ3 := by
      refine rel_new h n1 h80 (fun f i k f1 f2 f3 f4 f5 f6 => (k3 f i k (by omega) (by omega)).trans ((k2 f i k f1 f2 f3 (by omega)).trans (k1 f i k f5 f6))) ?_ ?_ ?_ (hP3 κ3 (fun k j => (k3 _ _ _ (by omega) (by omega)).trans (k2 _ _ _ (by omega) (by omega) (by omega) (by omega)))) m3 ?_ ?_ (hR3 κ3 k3r) (Or.inl ⟨Or.inl e33, fun b hb => ?_, ?_, ?_, tN (κ 7 0 6), ?_, by rw [k34]; exact eT, ?_, by have := hT.2; omega, by rw [k37, ← eT]; exact sMax_r⟩) ?_ ?_ ?_
      · rw [k3 _ _ _ (by omega) (by omega)]; exact k24
      · rw [k37]; exact sMax_l
      · rw [k3 _ _ _ (by omega) (by omega), k2 _ _ _ (by omega) (by omega) (by omega) (by omega)]; exact k1s
      · rw [m3r _ _ (by decide) (by decide) (by decide) (by decide)]; exact t16
      · rw [m3r _ _ (by decide) (by decide) (by decide) (by decide)]; exact t29
      · rw [rU, k3 _ _ _ (by omega) (by omega), k215, z43 b hb, z44]
        exact ⟨rfl, Or.inr ⟨bit_zero b (by omega), rfl⟩⟩
      · rw [k3r 7 (by decide), k23, mHeld_0 6 z43]; rfl
      · rw [k3r 8 (by decide), k23]; rfl
      · rw [m3r _ _ (by decide) (by decide) (by decide) (by decide), t41, ← h.1.1]; exact hT.1
      · rw [k3 _ _ _ (by omega) (by omega), e26]; omega
      · rw [k3r 9 (by decide), k23]; rfl
      · rw [e33]; decide
      · rw [k3r 8 (by decide), k23]; rfl
    have e34 : κ3 7 0 4 = nI (r + 1) := (k3 _ _ _ (by omega) (by omega)).trans k24
    have e30 : tN (κ3 3 r 0) = s := by
      rw [k3r 0 (by decide), k23]
      show tN (nI s) = s
      exact tN_nI (by omega)
    exact (rel_uses hRel (by rw [e34, tN_nI (by omega)]; omega) e33 e30 hs12 (fun k hk => by rw [z44]; exact bit_zero k (by omega)) 6 (Nat.le_refl _)).1
