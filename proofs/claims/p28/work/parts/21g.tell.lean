/-! ===== a value told ===== -/
def rPb (N : Nat) (κ μ : gMem) (k : Nat) : Prop := (k ≠ 0 → κ 4 k 1 = μ 21 0 k ∧ ixL (κ 4 k 1) k) ∧ κ 4 k 2 = μ 22 0 k ∧ κ 4 k 3 = μ 23 0 k ∧ ixL (κ 4 k 2) 10 ∧ ixL (κ 4 k 3) N ∧ μ 24 0 k = sLost κ k
theorem rPb.up {N M : Nat} {κ μ : gMem} {k : Nat} (h : rPb N κ μ k) (hM : N ≤ M) : rPb M κ μ k := by
  obtain ⟨a1, a2, a3, a4, a5, a6⟩ := h
  exact ⟨a1, a2, a3, a4, ⟨a5.1, by have := a5.2; omega⟩, a6⟩
theorem rPb.to {N : Nat} {κ κ' μ μ' : gMem} {k : Nat} (h : rPb N κ μ k) (h1 : κ' 4 k 1 = κ 4 k 1) (h2 : κ' 4 k 2 = κ 4 k 2) (h3 : κ' 4 k 3 = κ 4 k 3) (h4 : μ' 21 0 k = μ 21 0 k) (h5 : μ' 22 0 k = μ 22 0 k) (h6 : μ' 23 0 k = μ 23 0 k) (h7 : μ' 24 0 k = μ 24 0 k) : rPb N κ' μ' k := by
  obtain ⟨a1, a2, a3, a4, a5, a6⟩ := h
  exact ⟨by rw [h1, h4]; exact a1, by rw [h2, h5]; exact a2, by rw [h3, h6]; exact a3, by rw [h2]; exact a4, by rw [h3]; exact a5, by rw [h7, sLost, h2, h3]; exact a6⟩
theorem sLost_at {κ : gMem} {k l c : Nat} (h2 : κ 4 k 2 = nI l) (h3 : κ 4 k 3 = nI c) (hl : l < 10) (hc : c < 2 ^ 31) : sLost κ k = nI (c / l) := by
  rw [sLost, h2, h3]
  by_cases h : l = 0
  · subst h; rw [if_pos (by decide), Nat.div_zero]; rfl
  · rw [if_neg (fun z => h (nI_le0 z (by omega))), pk_div hc (by omega) (by omega)]
theorem rel_goes {N : Nat} (hN : N ≤ 1000) : ∀ (n j : Nat) (κ μ : gMem), j < 6 → j < n → (∀ k, k ≤ j → rPb N κ μ k) → (∀ k, k < 6 → j < k → rPb (N + 1) κ μ k) →
    (sGoes n κ j).1 = (mGoes n μ j).1 ∧ ∀ k, k < 6 → rPb (N + 1) (sGoes n κ j).2 (mGoes n μ j).2 k
  | 0, j, _, _, _, hj, _, _ => absurd hj (by omega)
  | n + 1, j, κ, μ, hj6, hj, hlo, hhi => by
    obtain ⟨a1, a2, a3, a4, a5, a6⟩ := hlo j (Nat.le_refl _)
    obtain ⟨l, hl, el⟩ := ixL_ex a4
    obtain ⟨c, hc, ec⟩ := ixL_ex a5
    have c1 : sCome κ j 4 j 1 = κ 4 j 1 := upd3_k (by decide)
    have c2 : sCome κ j 4 j 2 = nI l := (upd3_k (by decide)).trans el
    have c3 : sCome κ j 4 j 3 = nI (c + 1) := by rw [sCome, upd3_s, ec]; exact nI_1 c
    have m1 : mPass μ j 21 0 j = μ 21 0 j := upd3_f (by decide)
    have m2 : mPass μ j 22 0 j = nI l := by rw [mPass, upd3_f (by decide), ← a2, el]
    have m3 : mPass μ j 23 0 j = nI (c + 1) := by rw [mPass, upd3_s, ← a3, ec]; exact nI_1 c
    have m4 : mPass μ j 24 0 j = nI (c / l) := by rw [mPass, upd3_f (by decide), a6, sLost_at el ec hl (by omega)]
    have oth : ∀ k, k ≠ j → ∀ M, rPb M κ μ k → rPb M (sCome κ j) (mPass μ j) k := fun k hk M h => h.to (upd3_n (by omega)) (upd3_n (by omega)) (upd3_n (by omega)) (upd3_n (by omega)) (upd3_n (by omega)) (upd3_k hk) (upd3_n (by omega))
    have lo' : ∀ k, k < j → rPb N (sCome κ j) (mPass μ j) k := fun k hk => oth k (by omega) N (hlo k (by omega))
    have hi' : ∀ k, k < 6 → j < k → rPb (N + 1) (sCome κ j) (mPass μ j) k := fun k h6 hk => oth k (by omega) (N + 1) (hhi k h6 hk)
    have base : ∀ μ1 : gMem, (∀ f, f ≠ 24 → μ1 f 0 j = mPass μ j f 0 j) → μ1 24 0 j = nI ((c + 1) / l) → rPb (N + 1) (sCome κ j) μ1 j := by
      intro μ1 g g24
      refine ⟨fun h0 => ?_, ?_, ?_, ?_, ?_, ?_⟩
      · rw [c1, g 21 (by decide), m1]; exact a1 h0
      · rw [c2, g 22 (by decide), m2]
      · rw [c3, g 23 (by decide), m3]
      · rw [c2]; exact ixL.nI hl (by omega)
      · rw [c3]; exact ixL.nI (by omega) (by omega)
      · rw [g24, sLost_at c2 c3 hl (by omega)]
    have pass : ((c + 1) / l = c / l) → (if j = 0 then ((1 : Int32), sCome κ j) else sGoes n (sCome κ j) (tN (sCome κ j 4 j 1))).1 = (if nI j = 0 then ((1 : Int32), mPass μ j) else mGoes n (mPass μ j) (tN (mPass μ j 21 0 j))).1 ∧ ∀ k, k < 6 → rPb (N + 1) (if j = 0 then ((1 : Int32), sCome κ j) else sGoes n (sCome κ j) (tN (sCome κ j 4 j 1))).2 (if nI j = 0 then ((1 : Int32), mPass μ j) else mGoes n (mPass μ j) (tN (mPass μ j 21 0 j))).2 k := by
      intro hq
      have b := base (mPass μ j) (fun _ _ => rfl) (by rw [hq]; exact m4)
      by_cases h0 : j = 0
      · subst h0
        rw [if_pos rfl, if_pos (show nI 0 = 0 from rfl)]
        refine ⟨rfl, fun k hk => ?_⟩
        by_cases e : k = 0
        · rw [e]; exact b
        · exact hi' k hk (by omega)
      · have hn : ¬ nI j = 0 := fun z => h0 (nI_inj (b := 0) z (by omega) (by decide))
        rw [if_neg h0, if_neg hn, c1, m1, ← (a1 h0).1]
        have ht := (a1 h0).2.2
        refine rel_goes hN n _ _ _ (by omega) (by omega) (fun k hk => lo' k (by omega)) (fun k h6 hk => ?_)
        rcases Nat.lt_trichotomy k j with z | z | z
        · exact (lo' k z).up (by omega)
        · rw [z]; exact b
        · exact hi' k h6 z
    rw [sGoes, mGoes, m2, m3]
    by_cases hz : l = 0
    · have hle : nI l ≤ 0 := by rw [hz]; decide
      rw [if_pos (show sLs (sCome κ j) j = 0 by rw [sLs, c2, if_pos hle]), if_pos hle]
      exact pass (by rw [hz, Nat.div_zero, Nat.div_zero])
    · have hle : ¬ nI l ≤ 0 := fun z => hz (nI_le0 z (by omega))
      have hr : nI (c + 1) - nI (c + 1) / nI l * nI l = nI ((c + 1) % l) := pk_rem (by omega) (by omega) (by omega)
      rw [if_neg hle, hr]
      have hm : (c + 1) % l < l := Nat.mod_lt _ (by omega)
      by_cases hq : (c + 1) % l = 0
      · have e0 : nI ((c + 1) % l) = 0 := by rw [hq]; rfl
        rw [if_neg (show ¬ sLs (sCome κ j) j = 0 by rw [sLs, c2, if_neg hle, c3, hr, if_pos e0]; decide), if_pos e0]
        refine ⟨rfl, fun k hk => ?_⟩
        by_cases e : k = j
        · subst e
          refine base (upd3 (mPass μ k) 24 0 k (mPass μ k 24 0 k + 1)) (fun f hf => upd3_f hf) ?_
          rw [upd3_s, m4]
          have : (c + 1) / l = c / l + 1 := by
            rw [Nat.succ_div, if_pos (Nat.dvd_of_mod_eq_zero hq)]
          rw [this]; exact nI_1 _
        · have h := (show rPb (N + 1) (sCome κ j) (mPass μ j) k by
            rcases Nat.lt_trichotomy k j with z | z | z
            · exact (lo' k z).up (by omega)
            · exact absurd z e
            · exact hi' k hk z)
          have h2 : rPb (N + 1) (sCome κ j) (upd3 (mPass μ j) 24 0 j (mPass μ j 24 0 j + 1)) k := h.to rfl rfl rfl (upd3_f (by decide)) (upd3_f (by decide)) (upd3_f (by decide)) (upd3_k e)
          exact h2
      · have e0 : ¬ nI ((c + 1) % l) = 0 := fun z => hq (nI_inj (b := 0) z (by omega) (by decide))
        rw [if_pos (show sLs (sCome κ j) j = 0 by rw [sLs, c2, if_neg hle, c3, hr, if_neg e0]), if_neg e0]
        refine pass ?_
        rw [Nat.succ_div, if_neg (fun z => hq (Nat.mod_eq_zero_of_dvd z)), Nat.add_zero]
theorem mPart_keep {s r f i k : Nat} {μ : gMem} (h1 : f ≠ 23) (h2 : f ≠ 24) (h3 : f ≠ 40 ∨ k ≠ r) : mPart s r μ f i k = μ f i k := by
  rw [mPart, upd3_n (by omega), mGoes_keep _ _ _ _ _ _ h1 h2]
/-- four parts -/
theorem rel_parts {κ μ : gMem} {s r N : Nat} (hN : N + 4 ≤ 1000) (hs : κ 5 s 1 = μ 25 0 s) (h6 : tN (κ 5 s 1) < 6) (hP : ∀ k, k < 6 → rPb N κ μ k) : ∀ i, i ≤ 4 →
    (∀ k, k < 6 → rPb (N + i) (gIt (fun _ => sPart s) i κ) (gIt (fun _ => mPart s r) i μ) k) ∧ gIt (fun _ => mPart s r) i μ 40 0 r = μ 40 0 r + sSent κ s i ∧
    ∃ p, p ≤ i ∧ sSent κ s i = nI p
  | 0, _ => ⟨hP, by rw [sSent, Int32.add_zero]; rfl, 0, Nat.le_refl _, rfl⟩
  | i + 1, hi => by
    obtain ⟨h1, h2, p, h3, h4⟩ := rel_parts hN hs h6 hP i (by omega)
    have e5 : gIt (fun _ => sPart s) i κ 5 s 1 = κ 5 s 1 := sPart_it_keep (by decide)
    have e25 : gIt (fun _ => mPart s r) i μ 25 0 s = μ 25 0 s := gIt_keep (fun _ _ => mPart_keep (by decide) (by decide) (by omega)) _ _
    obtain ⟨g1, g2⟩ := rel_goes (N := N + i) (by omega) 6 (tN (κ 5 s 1)) _ _ h6 (by omega) (fun k hk => h1 k (by omega)) (fun k hk _ => (h1 k hk).up (by omega))
    have es : gIt (fun _ => sPart s) (i + 1) κ = (sGoes 6 (gIt (fun _ => sPart s) i κ) (tN (κ 5 s 1))).2 := by
      show sPart s (gIt (fun _ => sPart s) i κ) = _
      rw [sPart, e5]
    have em : gIt (fun _ => mPart s r) (i + 1) μ = upd3 (mGoes 6 (gIt (fun _ => mPart s r) i μ) (tN (κ 5 s 1))).2 40 0 r (gIt (fun _ => mPart s r) i μ 40 0 r + (if (mGoes 6 (gIt (fun _ => mPart s r) i μ) (tN (κ 5 s 1))).1 = 0 then 0 else 1)) := by
      show mPart s r (gIt (fun _ => mPart s r) i μ) = _
      rw [mPart, e25, ← hs]
    rw [es, em, sSent, e5, g1]
    refine ⟨fun k hk => (g2 k hk).to rfl rfl rfl rfl rfl rfl rfl, ?_, ?_⟩
    · rw [upd3_s, h2]
      split
      · rw [Int32.add_zero]
      · rw [Int32.add_assoc]
    · split
      · exact ⟨p, by omega, h4⟩
      · exact ⟨p + 1, by omega, by rw [h4]; exact nI_1 p⟩
/-- a new reading, put together -/
theorem rel_new {κ μ κ' μ' : gMem} {s r : Nat} (h : Rel κ μ) (hn : κ 7 0 4 = nI r) (hr : r < 80)
    (c : ∀ f i k, f ≠ 3 ∨ i ≠ r → f ≠ 15 ∨ i ≠ r → f ≠ 13 → f ≠ 7 ∨ (k ≠ 4 ∧ k ≠ 7) → f ≠ 5 ∨ i ≠ s ∨ k ≠ 6 → f ≠ 4 ∨ k ≠ 3 → κ' f i k = κ f i k)
    (e4 : κ' 7 0 4 = nI (r + 1)) (e7 : κ 7 0 7 ≤ κ' 7 0 7) (e56 : κ' 5 s 6 = κ 7 0 6) (hP : ∀ k, k < 6 → rPb (4 * r + 5) κ' μ' k)
    (m : ∀ f k, f ≠ 8 ∨ k ≠ 16 → (f ≠ 37 ∧ f ≠ 38 ∧ f ≠ 39 ∧ f ≠ 40 ∧ f ≠ 41) ∨ k ≠ r → f ≠ 29 ∨ k ≠ s → f ≠ 23 → f ≠ 24 → μ' f 0 k = μ f 0 k)
    (m16 : μ' 8 0 16 = nI (r + 1)) (m29 : μ' 29 0 s = μ 8 0 0) (hR : rR κ' μ' r) (hH : rH κ' μ' r) (h9 : κ' 3 r 9 = -1) (h31 : κ' 3 r 3 ≠ 1) (h8 : κ' 3 r 8 = 0) : Rel κ' μ' := by
  have hr' : tN (κ 7 0 4) = r := by rw [hn, tN_nI (by omega)]
  have hr1 : tN (κ' 7 0 4) = r + 1 := by rw [e4, tN_nI (by omega)]
  have e6 : κ' 7 0 6 = κ 7 0 6 := c _ _ _ (by omega) (by omega) (by omega) (by omega) (by omega) (by omega)
  obtain ⟨h1, h2, h3, h4, h5, h6, h7, h8'⟩ := h
  rw [hr'] at h7 h8'
  have c0 : ∀ f i k, f ≠ 3 → f ≠ 15 → f ≠ 13 → f ≠ 7 → f ≠ 5 → f ≠ 4 → κ' f i k = κ f i k := fun f i k f1 f2 f3 f4 f5 f6 => c f i k (by omega) (by omega) f3 (by omega) (by omega) (by omega)
  have mn : ∀ f k, 42 ≤ f → μ' f 0 k = μ f 0 k := fun f k hf => m f k (by omega) (by omega) (by omega) (by omega) (by omega)
  refine ⟨⟨?_, ?_, ?_, ?_, ?_⟩, fun k hk => ?_, fun k hk => ?_, fun k hk => ?_, fun b hb => ?_, fun b k hb hk => ?_, fun q hq => ?_, fun q a b => ?_⟩
  · rw [e6, m 8 0 (by omega) (by omega) (by omega) (by omega) (by omega)]; exact h1.1
  · rw [e6]; exact h1.2.1
  · rw [c 7 0 5 (by omega) (by omega) (by omega) (by omega) (by omega) (by omega), m 8 11 (by omega) (by omega) (by omega) (by omega) (by omega)]; exact h1.2.2.1
  · rw [e4, m16]
  · rw [e4]; exact ixL.nI (by omega) (by decide)
  · have := hP k hk
    rw [rP, hr1]; exact this
  · obtain ⟨a1, a2, a3, a4, a5, a6, a7, a8⟩ := h3 k hk
    have cs : ∀ j, j ≠ 6 → κ' 5 k j = κ 5 k j := fun j hj => c 5 k j (by omega) (by omega) (by omega) (by omega) (by omega) (by omega)
    have ms : ∀ f, 25 ≤ f → f ≤ 28 → μ' f 0 k = μ f 0 k := fun f f1 f2 => m f k (by omega) (by omega) (by omega) (by omega) (by omega)
    refine ⟨by rw [cs 1 (by decide), ms 25 (by decide) (by decide)]; exact a1, by rw [cs 1 (by decide)]; exact a2, by rw [cs 2 (by decide), ms 28 (by decide) (by decide)]; exact a3, by rw [cs 2 (by decide)]; exact a4, by rw [cs 2 (by decide)]; exact a5, by rw [cs 3 (by decide), ms 26 (by decide) (by decide)]; exact a6, by rw [cs 4 (by decide), ms 27 (by decide) (by decide)]; exact a7, ?_⟩
    by_cases e : k = s
    · rw [e, e56, m29]; exact h1.1
    · rw [c 5 k 6 (by omega) (by omega) (by omega) (by omega) (by omega) (by omega), m 29 k (by omega) (by omega) (by omega) (by omega) (by omega)]; exact a8
  · have g := h4 k hk
    rw [rC, hr'] at g
    have cc := sCuts_congr (κ := κ) (κ' := κ') (s := k) (c 5 k 5 (by omega) (by omega) (by omega) (by omega) (by omega) (by omega)) r (fun q hq => ⟨c 3 q 0 (by omega) (by omega) (by omega) (by omega) (by omega) (by omega), c 3 q 8 (by omega) (by omega) (by omega) (by omega) (by omega) (by omega)⟩)
    rw [rC, hr1, sCuts, h8, cc, g, c 5 k 3 (by omega) (by omega) (by omega) (by omega) (by omega) (by omega)]
    split
    · exact Int32.sub_zero _
    · rfl
  · rw [rB, c0 1 b 0 (by omega) (by omega) (by omega) (by omega) (by omega) (by omega), m 30 b (by omega) (by omega) (by omega) (by omega) (by omega)]; exact h5 b hb
  · exact (h6 b k hb hk).to (c0 _ _ _ (by omega) (by omega) (by omega) (by omega) (by omega) (by omega)) (fun j => c0 _ _ _ (by omega) (by omega) (by omega) (by omega) (by omega) (by omega)) (fun f f1 f2 => m f _ (by omega) (by omega) (by omega) (by omega) (by omega)) e6 e7
  · rw [hr1] at hq
    by_cases e : q = r
    · subst e
      exact ⟨hR, hH, Or.inl ⟨h9, h31, fun k hk => (mn 45 _ (by decide)).trans ((h8' q (Nat.le_refl _) hr).2.2.2 k hk)⟩⟩
    · obtain ⟨q1, q2, q3⟩ := h7 q (by omega)
      have c3 : ∀ j, κ' 3 q j = κ 3 q j := fun j => c 3 q j (by omega) (by omega) (by omega) (by omega) (by omega) (by omega)
      have m3 : ∀ f, 37 ≤ f → μ' f 0 q = μ f 0 q := fun f hf => m f q (by omega) (by omega) (by omega) (by omega) (by omega)
      exact ⟨q1.to (fun j _ _ _ _ => c3 j) (fun f f1 f2 => m3 f f1) (m3 44 (by decide)), q2.to (c3 3) (c3 4) (c3 7) (c3 8) (fun b _ => c 15 q b (by omega) (by omega) (by omega) (by omega) (by omega) (by omega)) (fun b _ => mn 43 _ (by decide)) (m3 44 (by decide)) (m3 41 (by decide)) e6 e7, q3.to (c3 3) (c3 9) (fun k => c0 2 q k (by omega) (by omega) (by omega) (by omega) (by omega) (by omega)) (fun k => c0 16 q k (by omega) (by omega) (by omega) (by omega) (by omega) (by omega)) (fun k _ => mn 45 _ (by decide)) (m3 42 (by decide)) (m3 37 (by decide))⟩
  · rw [hr1] at a
    exact (h8' q (by omega) b).to (m 40 q (by omega) (by omega) (by omega) (by omega) (by omega)) (mn 44 _ (by decide)) (fun b _ => mn 43 _ (by decide)) (fun k _ => mn 45 _ (by decide))
theorem mHeld_0 {μ : gMem} {r : Nat} : ∀ n, (∀ b, b < n → μ 43 0 (6 * r + b) = 0) → mHeld μ r n = 0
  | 0, _ => rfl
  | n + 1, h => by rw [mHeld, mHeld_0 n (fun b hb => h b (by omega)), h n (by omega)]; rfl
theorem mHeld_put {μ : gMem} {r k : Nat} {x : Int32} (h0 : μ 43 0 (6 * r + k) = 0) : ∀ n, mHeld (upd3 μ 43 0 (6 * r + k) x) r n = mHeld μ r n + (if k < n then x else 0)
  | 0 => rfl
  | n + 1 => by
    rw [mHeld, mHeld, mHeld_put h0 n]
    by_cases e : n = k
    · subst e
      rw [upd3_s, h0, if_neg (show ¬ n < n by omega), if_pos (show n < n + 1 by omega), Int32.add_zero]
    · rw [upd3_k (by omega)]
      by_cases l : k < n
      · rw [if_pos l, if_pos (show k < n + 1 by omega)]; grind
      · rw [if_neg l, if_neg (show ¬ k < n + 1 by omega), Int32.add_zero, Int32.add_zero]
/-- a window uses the reading -/
theorem rel_use {κ μ : gMem} {s r k : Nat} (h : Rel κ μ) (hr : r < tN (κ 7 0 4)) (hk : k < 6) (h0 : κ 3 r 3 = 0) (hs : tN (κ 3 r 0) = s) (hs12 : s < 12) (hb : bitB (μ 44 0 r) k = 0) : Rel (sUse r k κ) (mUse s r k μ) := by
  have hW := h.2.2.2.2.2.1 k s hk hs12
  rw [sUse, mUse, hs]
  rcases hW with ⟨w1, w2, w3⟩ | ⟨w1, w2, w3, w4, w5, w6, t, w7, w8, w9, w10⟩
  · rw [if_pos (show κ 14 k s < 0 by rw [w1]; decide), if_pos w2]; exact h
  · rw [if_neg (show ¬ κ 14 k s < 0 by rw [w1]; exact nI_pos (by omega)), if_neg (show ¬ μ 32 0 (12 * k + s) = 0 by rw [w2]; decide)]
    obtain ⟨x, hx⟩ : ∃ x, κ 6 (12 * k + s) 0 = x := ⟨_, rfl⟩
    rw [hx] at w3 w6
    rw [hx, ← w3]
    have hn := h.1.2.2.2.2.2
    obtain ⟨h1, h2, h3, h4, h5, h6, h7, h8⟩ := h
    obtain ⟨p1, p2, p3⟩ := h7 r hr
    obtain ⟨o1, o2, o3⟩ := p2.opn (Or.inl h0)
    obtain ⟨κ', hκ⟩ : ∃ κ', upd3 (upd3 (upd3 (upd3 κ 6 (12 * k + s) 2 (κ 6 (12 * k + s) 2 - x)) 15 r k x) 3 r 7 (κ 3 r 7 + x)) 3 r 6 (κ 3 r 6 + 1) = κ' := ⟨_, rfl⟩
    obtain ⟨μ', hμ⟩ : ∃ μ', upd3 (upd3 (upd3 μ 35 0 (12 * k + s) (μ 35 0 (12 * k + s) - x)) 43 0 (6 * r + k) x) 44 0 r (μ 44 0 r ||| (1 <<< (nI k &&& 31))) = μ' := ⟨_, rfl⟩
    rw [hκ, hμ]
    have c : ∀ f i j, f ≠ 6 ∨ i ≠ 12 * k + s ∨ j ≠ 2 → f ≠ 15 ∨ i ≠ r ∨ j ≠ k → f ≠ 3 ∨ i ≠ r ∨ (j ≠ 7 ∧ j ≠ 6) → κ' f i j = κ f i j := fun f i j f1 f2 f3 => by
      rw [← hκ, upd3_n (by omega), upd3_n (by omega), upd3_n (by omega), upd3_n (by omega)]
    have m : ∀ f j, f ≠ 35 ∨ j ≠ 12 * k + s → f ≠ 43 ∨ j ≠ 6 * r + k → f ≠ 44 ∨ j ≠ r → μ' f 0 j = μ f 0 j := fun f j f1 f2 f3 => by
      rw [← hμ, upd3_n (by omega), upd3_n (by omega), upd3_n (by omega)]
    have k2 : κ' 6 (12 * k + s) 2 = κ 6 (12 * k + s) 2 - x := by rw [← hκ, upd3_f (by decide), upd3_f (by decide), upd3_f (by decide), upd3_s]
    have k15 : κ' 15 r k = x := by rw [← hκ, upd3_f (by decide), upd3_f (by decide), upd3_s]
    have k7 : κ' 3 r 7 = κ 3 r 7 + x := by rw [← hκ, upd3_k (by decide), upd3_s]
    have k6 : κ' 3 r 6 = κ 3 r 6 + 1 := by rw [← hκ, upd3_s]
    have m35 : μ' 35 0 (12 * k + s) = μ 35 0 (12 * k + s) - x := by rw [← hμ, upd3_f (by decide), upd3_f (by decide), upd3_s]
    have m43 : μ' 43 0 (6 * r + k) = x := by rw [← hμ, upd3_f (by decide), upd3_s]
    have m44 : μ' 44 0 r = (μ 44 0 r ||| (1 <<< (nI k &&& 31))) := by rw [← hμ, upd3_s]
    have e4 : κ' 7 0 4 = κ 7 0 4 := c _ _ _ (by omega) (by omega) (by omega)
    have e6 : κ' 7 0 6 = κ 7 0 6 := c _ _ _ (by omega) (by omega) (by omega)
    have e7 : κ 7 0 7 ≤ κ' 7 0 7 := by rw [c 7 0 7 (by omega) (by omega) (by omega)]; exact Int32.le_refl _
    have z43 : μ 43 0 (6 * r + k) = 0 := by
      rw [← (o1 k hk).1]
      rcases (o1 k hk).2 with u | u
      · rw [u.1] at hb; exact absurd hb (by decide)
      · exact u.2
    refine ⟨h1.to e6 (c _ _ _ (by omega) (by omega) (by omega)) e4 (m _ _ (by omega) (by omega) (by omega)) (m _ _ (by omega) (by omega) (by omega)) (m _ _ (by omega) (by omega) (by omega)),
      fun j hj => (h2 j hj).to (c _ _ _ (by omega) (by omega) (by omega)) (c _ _ _ (by omega) (by omega) (by omega)) (c _ _ _ (by omega) (by omega) (by omega)) (m _ _ (by omega) (by omega) (by omega)) (m _ _ (by omega) (by omega) (by omega)) (m _ _ (by omega) (by omega) (by omega)) (m _ _ (by omega) (by omega) (by omega)) (by rw [e4]; exact Nat.le_refl _),
      fun j hj => (h3 j hj).to (fun j _ => c _ _ _ (by omega) (by omega) (by omega)) (fun f f1 f2 => m _ _ (by omega) (by omega) (by omega)),
      fun j hj => (h4 j hj).to e4 (c _ _ _ (by omega) (by omega) (by omega)) (c _ _ _ (by omega) (by omega) (by omega)) (fun r' => ⟨c _ _ _ (by omega) (by omega) (by omega), c _ _ _ (by omega) (by omega) (by omega)⟩),
      fun b hb' => ?_, fun b j hb' hj => ?_, fun q hq => ?_, fun q a b => ?_⟩
    · rw [rB, c _ _ _ (by omega) (by omega) (by omega), m _ _ (by omega) (by omega) (by omega)]; exact h5 b hb'
    · by_cases e : b = k ∧ j = s
      · obtain ⟨rfl, rfl⟩ := e
        right
        refine ⟨?_, ?_, ?_, ?_, ?_, ?_, t, ?_, by rw [e6]; exact w8, w9, Int32.le_trans w10 e7⟩
        · rw [c _ _ _ (by omega) (by omega) (by omega)]; exact w1
        · rw [m _ _ (by omega) (by omega) (by omega)]; exact w2
        · rw [c _ _ _ (by omega) (by omega) (by omega), m _ _ (by omega) (by omega) (by omega), hx]; exact w3
        · rw [c _ _ _ (by omega) (by omega) (by omega), m _ _ (by omega) (by omega) (by omega)]; exact w4
        · rw [k2, m35, w5]
        · rw [c _ _ _ (by omega) (by omega) (by omega), hx]; exact w6
        · rw [c _ _ _ (by omega) (by omega) (by omega)]; exact w7
      · exact (h6 b j hb' hj).to (c _ _ _ (by omega) (by omega) (by omega)) (fun q => c _ _ _ (by omega) (by omega) (by omega)) (fun f f1 f2 => m _ _ (by omega) (by omega) (by omega)) e6 e7
    · rw [e4] at hq
      by_cases e : q = r
      · subst e
        refine ⟨?_, ?_, ?_⟩
        · obtain ⟨z1, z2, z3, z4, z5, z6, z7, z8⟩ := p1
          refine ⟨?_, ?_, ?_, ?_, ?_, ?_, ?_, ?_⟩
          · rw [c _ _ _ (by omega) (by omega) (by omega), m _ _ (by omega) (by omega) (by omega)]; exact z1
          · rw [c _ _ _ (by omega) (by omega) (by omega), m _ _ (by omega) (by omega) (by omega)]; exact z2
          · rw [c _ _ _ (by omega) (by omega) (by omega)]; exact z3
          · rw [c _ _ _ (by omega) (by omega) (by omega), m _ _ (by omega) (by omega) (by omega)]; exact z4
          · rw [c _ _ _ (by omega) (by omega) (by omega), m _ _ (by omega) (by omega) (by omega)]; exact z5
          · rw [c _ _ _ (by omega) (by omega) (by omega)]; exact z6
          · rw [k6, m44, mSize_or hk hb 6 (by omega), if_pos hk, z7]
          · rw [c _ _ _ (by omega) (by omega) (by omega)]; exact z8
        · rcases p2 with ⟨y1, y2, y3, y4, T, y5, y6, y7, y8, y9⟩ | y
          · left
            refine ⟨?_, fun b hb' => ?_, ?_, ?_, T, ?_, ?_, by rw [e6]; exact y7, y8, Int32.le_trans y9 e7⟩
            · rw [c _ _ _ (by omega) (by omega) (by omega)]; exact y1
            · rw [rU, m44, bit_or (by omega) (by omega)]
              by_cases eb : b = k
              · subst eb
                rw [k15, m43, if_pos rfl]; exact ⟨rfl, Or.inl ⟨rfl, w6⟩⟩
              · rw [c _ _ _ (by omega) (by omega) (by omega), m _ _ (by omega) (by omega) (by omega), if_neg eb]; exact y2 b hb'
            · have hh : mHeld μ' q 6 = mHeld (upd3 μ 43 0 (6 * q + k) x) q 6 := mHeld_congr 6 (fun b hb' => by
                by_cases eb : b = k
                · subst eb; rw [m43, upd3_s]
                · rw [m _ _ (by omega) (by omega) (by omega), upd3_k (by omega)])
              rw [k7, hh, mHeld_put z43, if_pos hk, o2]
            · rw [c _ _ _ (by omega) (by omega) (by omega)]; exact y4
            · rw [m _ _ (by omega) (by omega) (by omega)]; exact y5
            · rw [c _ _ _ (by omega) (by omega) (by omega)]; exact y6
          · exact absurd (Or.inl h0) y.1
        · exact p3.to (c _ _ _ (by omega) (by omega) (by omega)) (c _ _ _ (by omega) (by omega) (by omega)) (fun j => c _ _ _ (by omega) (by omega) (by omega)) (fun j => c _ _ _ (by omega) (by omega) (by omega)) (fun j hj => m _ _ (by omega) (by omega) (by omega)) (m _ _ (by omega) (by omega) (by omega)) (m _ _ (by omega) (by omega) (by omega))
      · obtain ⟨q1, q2, q3⟩ := h7 q hq
        exact ⟨q1.to (fun j _ _ _ _ => c _ _ _ (by omega) (by omega) (by omega)) (fun f f1 f2 => m _ _ (by omega) (by omega) (by omega)) (m _ _ (by omega) (by omega) (by omega)), q2.to (c _ _ _ (by omega) (by omega) (by omega)) (c _ _ _ (by omega) (by omega) (by omega)) (c _ _ _ (by omega) (by omega) (by omega)) (c _ _ _ (by omega) (by omega) (by omega)) (fun b _ => c _ _ _ (by omega) (by omega) (by omega)) (fun b hb' => m _ _ (by omega) (by omega) (by omega)) (m _ _ (by omega) (by omega) (by omega)) (m _ _ (by omega) (by omega) (by omega)) e6 e7, q3.to (c _ _ _ (by omega) (by omega) (by omega)) (c _ _ _ (by omega) (by omega) (by omega)) (fun j => c _ _ _ (by omega) (by omega) (by omega)) (fun j => c _ _ _ (by omega) (by omega) (by omega)) (fun j hj => m _ _ (by omega) (by omega) (by omega)) (m _ _ (by omega) (by omega) (by omega)) (m _ _ (by omega) (by omega) (by omega))⟩
    · rw [e4] at a
      exact (h8 q a b).to (m _ _ (by omega) (by omega) (by omega)) (m _ _ (by omega) (by omega) (by omega)) (fun b' hb' => m _ _ (by omega) (by omega) (by omega)) (fun j hj => m _ _ (by omega) (by omega) (by omega))
theorem mUse_44 {s r k j : Nat} {μ : gMem} (hk : k < 6) (hj : j < 6) (h : j ≠ k) : bitB (mUse s r k μ 44 0 r) j = bitB (μ 44 0 r) j := by
  rw [mUse]
  split
  · rfl
  · rw [upd3_s, bit_or (by omega) (by omega), if_neg h]
theorem sUse_keep {r k f i j : Nat} {κ : gMem} (h1 : f ≠ 6) (h2 : f ≠ 15) (h3 : f ≠ 3 ∨ (j ≠ 7 ∧ j ≠ 6)) : sUse r k κ f i j = κ f i j := by
  rw [sUse]
  split
  · rfl
  · rw [upd3_n (by omega), upd3_n (by omega), upd3_n (by omega), upd3_n (by omega)]
theorem rel_uses {κ μ : gMem} {s r : Nat} (h : Rel κ μ) (hr : r < tN (κ 7 0 4)) (h0 : κ 3 r 3 = 0) (hs : tN (κ 3 r 0) = s) (hs12 : s < 12) (hb : ∀ k, k < 6 → bitB (μ 44 0 r) k = 0) : ∀ i, i ≤ 6 →
    Rel (gIt (sUse r) i κ) (gIt (mUse s r) i μ) ∧ (∀ k, i ≤ k → k < 6 → bitB (gIt (mUse s r) i μ 44 0 r) k = 0)
  | 0, _ => ⟨h, fun k _ hk => hb k hk⟩
  | i + 1, hi => by
    obtain ⟨g1, g2⟩ := rel_uses h hr h0 hs hs12 hb i (by omega)
    have e4 : gIt (sUse r) i κ 7 0 4 = κ 7 0 4 := gIt_keep (fun _ _ => sUse_keep (by decide) (by decide) (by omega)) _ _
    have e3 : gIt (sUse r) i κ 3 r 3 = κ 3 r 3 := gIt_keep (fun _ _ => sUse_keep (by decide) (by decide) (by omega)) _ _
    have e0 : gIt (sUse r) i κ 3 r 0 = κ 3 r 0 := gIt_keep (fun _ _ => sUse_keep (by decide) (by decide) (by omega)) _ _
    refine ⟨rel_use g1 (by rw [e4]; exact hr) (by omega) (by rw [e3]; exact h0) (by rw [e0]; exact hs) hs12 (g2 i (Nat.le_refl _) (by omega)), fun k a b => ?_⟩
    show bitB (mUse s r i (gIt (mUse s r) i μ) 44 0 r) k = 0
    rw [mUse_44 (by omega) b (by omega)]
    exact g2 k (by omega) b
