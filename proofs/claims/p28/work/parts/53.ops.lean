/-! ===== the class as a whole, and its calls ===== -/
def CI (ids : gIds) (κ : gMem) : Prop := cV ids ∧ cWF ids κ ∧ cI ids κ ∧ (∃ μ, Rel κ μ) ∧ gN κ
theorem CI.n {ids : gIds} {κ : gMem} (J : CI ids κ) : ixL (κ 7 0 4) 81 := by
  obtain ⟨h1, h2, h3, ⟨μ, h4⟩, h5⟩ := J
  exact h4.1.2.2.2.2
theorem CI.T {ids : gIds} {κ : gMem} (J : CI ids κ) : ixL (κ 7 0 6) 10001 := by
  obtain ⟨h1, h2, h3, ⟨μ, h4⟩, h5⟩ := J
  exact h4.1.2.1
theorem op_advance {ids : gIds} {κ : gMem} {a : Int32} (J : CI ids κ) (ht : sAdvT κ a = 0) : CI ids (sAdvK κ a) ∧ Ev κ (sAdvK κ a) ∧ sAdvK κ a 7 0 6 = κ 7 0 6 + a := by
  obtain ⟨h1, h2, h3, ⟨μ, h4⟩, h5⟩ := J
  exact ⟨⟨h1, sAdvK_WF h2, sAdvK_I h3, ⟨_, rel_advance h4 ht⟩, n_advance h4 h5 ht⟩, ev_adv, by rw [sAdvK, upd3_s]⟩
theorem op_setPrice {ids : gIds} {κ : gMem} {a b : Int32} (J : CI ids κ) (ht : mSetPriceT a b = 0) : CI ids (upd3 κ 5 (tN a) 2 b) ∧ Ev κ (upd3 κ 5 (tN a) 2 b) := by
  obtain ⟨h1, h2, h3, ⟨μ, h4⟩, h5⟩ := J
  exact ⟨⟨h1, h2.upd rfl, h3.to rfl (fun _ => rfl), ⟨_, (rel_setPrice h4 ht).2⟩, h5.cong (fun f i k hf => upd3_n (by omega))⟩, Ev.same rfl (fun s => upd3_k (by decide)) (fun r k _ => rfl)⟩
theorem op_setLoss {ids : gIds} {κ : gMem} {a b : Int32} (J : CI ids κ) (ht : mSetLossT a b = 0) : CI ids (sSetLossK κ (tN a) b) ∧ Ev κ (sSetLossK κ (tN a) b) := by
  obtain ⟨h1, h2, h3, ⟨μ, h4⟩, h5⟩ := J
  exact ⟨⟨h1, (h2.upd rfl).upd rfl, h3.to rfl (fun _ => rfl), ⟨_, (rel_setLoss h4 ht).2⟩, h5.cong (fun f i k hf => (upd3_n (by omega)).trans (upd3_n (by omega)))⟩, Ev.same rfl (fun s => rfl) (fun r k _ => rfl)⟩
theorem op_attach {ids : gIds} {κ : gMem} {a b : Int32} (J : CI ids κ) (ht : mAttachT a b = 0) : CI ids (upd3 κ 5 (tN a) 1 (nI (tN b))) ∧ Ev κ (upd3 κ 5 (tN a) 1 (nI (tN b))) := by
  obtain ⟨h1, h2, h3, ⟨μ, h4⟩, h5⟩ := J
  exact ⟨⟨h1, attach_W h2 ht, h3.to rfl (fun _ => rfl), ⟨_, (rel_attach h4 ht).2⟩, h5.cong (fun f i k hf => upd3_n (by omega))⟩, Ev.same rfl (fun s => upd3_k (by decide)) (fun r k _ => rfl)⟩
theorem op_hang {ids : gIds} {κ : gMem} {a b : Int32} (J : CI ids κ) (ht : sHangT a b = 0) : CI ids (upd3 κ 4 (tN a) 1 (nI (tN b))) ∧ Ev κ (upd3 κ 4 (tN a) 1 (nI (tN b))) := by
  obtain ⟨h1, h2, h3, ⟨μ, h4⟩, h5⟩ := J
  exact ⟨⟨h1, hang_W h2 ht, h3.to rfl (fun _ => rfl), ⟨_, (rel_hang h4 ht).2⟩, h5.cong (fun f i k hf => upd3_n (by omega))⟩, Ev.same rfl (fun s => rfl) (fun r k _ => rfl)⟩
theorem top_f {κ : gMem} {a n : Int32} (ht : sTopUpT κ a n = 0) : ixL a 12 ∧ 1 ≤ n ∧ n ≤ κ 5 (tN a) 4 := by
  have t1 : ¬ mIn a 0 11 = 0 := fun z => by rw [sTopUpT, if_pos z] at ht; exact absurd ht (by decide)
  rw [sTopUpT, if_neg t1] at ht
  have t2 : 1 ≤ n := Classical.byContradiction fun z => by rw [if_neg z] at ht; exact absurd ht (by decide)
  rw [if_pos t2] at ht
  have t3 : n ≤ κ 5 (tN a) 4 := Classical.byContradiction fun z => by rw [if_neg z] at ht; exact absurd ht (by decide)
  obtain ⟨ea, la⟩ := mIn_rng (m := 11) t1 (by decide)
  exact ⟨⟨ea, by omega⟩, t2, t3⟩
theorem ix_of {x y : Int32} {n : Nat} (h1 : 1 ≤ x) (h2 : x ≤ y) (hy : ixL y n) (hn : n < 2 ^ 31) : ixL x n := by
  have e1 : (1 : Int32).toInt = 1 := by decide +kernel
  rw [Int32.le_iff_toInt_le, e1] at h1
  rw [Int32.le_iff_toInt_le, hy.1, nI_toInt (by have := hy.2; omega)] at h2
  have h3 := hy.2
  refine (ix_mk (n := x.toInt.toNat) ?_ (by omega) hn).1
  rw [← Int32.toInt_inj, nI_toInt (by omega)]
  omega
theorem op_topUp {ids : gIds} {κ : gMem} {a n : Int32} (J : CI ids κ) (ht : sTopUpT κ a n = 0) : CI ids (sTopUpK κ (tN a) n) ∧ Ev κ (sTopUpK κ (tN a) n) ∧ sTopUpK κ (tN a) n 5 (tN a) 4 = κ 5 (tN a) 4 - n ∧ sTopUpK κ (tN a) n 5 (tN a) 3 = κ 5 (tN a) 3 + n := by
  obtain ⟨h1, h2, h3, ⟨μ, h4⟩, h5⟩ := J
  obtain ⟨f1, f2, f3⟩ := top_f ht
  have hp := (h5.1.2.1 _ f1.2).2
  have hn := ix_of f2 f3 hp (by decide)
  have e4 : sTopUpK κ (tN a) n 5 (tN a) 4 = κ 5 (tN a) 4 - n := by rw [sTopUpK, upd3_k (by decide), upd3_k (by decide), upd3_s]
  have e3 : sTopUpK κ (tN a) n 5 (tN a) 3 = κ 5 (tN a) 3 + n := by rw [sTopUpK, upd3_k (by decide), upd3_s]
  have c : ∀ f i k, f ≠ 5 ∨ i ≠ tN a ∨ (k ≠ 3 ∧ k ≠ 4 ∧ k ≠ 5) → sTopUpK κ (tN a) n f i k = κ f i k := fun f i k hf => by rw [sTopUpK, upd3_n (by omega), upd3_n (by omega), upd3_n (by omega)]
  refine ⟨⟨h1, ((h2.upd rfl).upd rfl).upd rfl, h3.to rfl (fun _ => rfl), ⟨_, (rel_topUp h4 ht).2⟩, ?_⟩, Ev.same (c _ _ _ (by omega)) (fun s => c _ _ _ (by omega)) (fun r k _ => c _ _ _ (by omega)), e4, e3⟩
  refine ⟨gM_top h5.1 f1.2 hn ((ix_le hn hp (by decide) (by decide)).mp f3) e4 e3 (fun f i k _ hf => c f i k (by omega)), h5.2.1.cong (fun b s => c _ _ _ (by omega)) (fun j k => c _ _ _ (by omega)) (fun s => c _ _ _ (by omega)) (c _ _ _ (by omega)), h5.2.2.1.cong (fun s => c _ _ _ (by omega)) (c _ _ _ (by omega)), fun q hq => ?_⟩
  rw [c 7 0 4 (by omega)] at hq
  exact (h5.2.2.2 q hq).to (c _ _ _ (by omega)) (c _ _ _ (by omega)) (c _ _ _ (by omega)) (c _ _ _ (by omega)) (c _ _ _ (by omega)) (c _ _ _ (by omega)) (fun k => c _ _ _ (by omega))
/-! a window -/
theorem aside_closed {κ : gMem} {b s : Nat} (h : κ 14 b s < 0) : sAside κ b s = 0 := by rw [sAside, if_pos h]
theorem op_open {ids : gIds} {κ : gMem} {a b d : Int32} (J : CI ids κ) (ht : sOpenT κ a b d = 0) :
    CI (gDrop ids (6, 12 * tN a + tN b) ++ [(6, 12 * tN a + tN b)]) (sOpenK κ (tN a) (tN b) d) ∧ Ev κ (sOpenK κ (tN a) (tN b) d) ∧ sOpenK κ (tN a) (tN b) d 7 0 6 = κ 7 0 6 ∧
    sAside κ (tN a) (tN b) = 0 ∧ ∃ P D : Nat, 1 ≤ P ∧ P ≤ 20 ∧ d = nI D ∧ 1 ≤ D ∧ D ≤ 20 ∧ κ 1 (tN a) 0 - sOpenK κ (tN a) (tN b) d 1 (tN a) 0 = nI (P * D) ∧ sAside (sOpenK κ (tN a) (tN b) d) (tN a) (tN b) = nI (P * D) := by
  obtain ⟨h1, h2, h3, ⟨μ, h4⟩, h5⟩ := J
  obtain ⟨f1, f2, D, d1, d2, rfl⟩ := opn_f ht
  have t4 : κ 14 (tN a) (tN b) < 0 ∧ κ 5 (tN b) 2 * nI D ≤ κ 1 (tN a) 0 := by
    have t1 : ¬ mIn a 0 5 = 0 := fun z => by rw [sOpenT, if_pos z] at ht; exact absurd ht (by decide)
    rw [sOpenT, if_neg t1] at ht
    have t2 : ¬ mIn b 0 11 = 0 := fun z => by rw [if_pos z] at ht; exact absurd ht (by decide)
    rw [if_neg t2] at ht
    have t3 : ¬ mIn (nI D) 1 20 = 0 := fun z => by rw [if_pos z] at ht; exact absurd ht (by decide)
    rw [if_neg t3] at ht
    have t5 : κ 14 (tN a) (tN b) < 0 := Classical.byContradiction fun z => by rw [if_neg z] at ht; exact absurd ht (by decide)
    rw [if_pos t5] at ht
    exact ⟨t5, Classical.byContradiction fun z => by rw [if_neg z] at ht; exact absurd ht (by decide)⟩
  obtain ⟨x, ex⟩ : ∃ x, tN a = x := ⟨_, rfl⟩
  obtain ⟨y, ey⟩ : ∃ y, tN b = y := ⟨_, rfl⟩
  have hx : x < 6 := by rw [← ex]; exact f1.2
  have hy : y < 12 := by rw [← ey]; exact f2.2
  have hRel := rel_opn h4 hx hy d1 d2
  rw [ex, ey] at t4 ⊢
  obtain ⟨a1, a2, a3, a4, a5⟩ := sOpenK_at κ x y (nI D)
  have hS := h4.2.2.1 y hy
  have hp := hS.2.2.2.1
  obtain ⟨P, eP⟩ : ∃ P, tN (κ 5 y 2) = P := ⟨_, rfl⟩
  have hP : 1 ≤ P ∧ P ≤ 20 := by
    have := hp.2
    rw [eP] at this
    refine ⟨?_, by omega⟩
    rcases Nat.eq_zero_or_pos P with z | z
    · exact absurd (by rw [hp.1, eP, z]; rfl) hS.2.2.2.2.1
    · exact z
  have e5 : κ 5 y 2 = nI P := by rw [← eP]; exact hp.1
  have em : κ 5 y 2 * nI D = nI (P * D) := by rw [e5, pk_mul]
  have hPD : P * D ≤ 400 := Nat.le_trans (Nat.mul_le_mul hP.2 d2) (by decide)
  have hT := h4.1.2.1
  have hT2 := hT.2
  have eL : κ 7 0 6 + nI D - 1 = nI (tN (κ 7 0 6) + (D - 1)) := by
    rw [time_add hT, show tN (κ 7 0 6) + D = tN (κ 7 0 6) + (D - 1) + 1 by omega]; exact nI_pred _
  rw [em] at a1 a2 t4
  have w0 : sOpenK κ x y (nI D) 6 (12 * x + y) 0 = nI P := by rw [a2, ← e5]; rfl
  have w1 : sOpenK κ x y (nI D) 6 (12 * x + y) 1 = nI (tN (κ 7 0 6) + (D - 1)) := by rw [a2, ← eL]; rfl
  have w2 : sOpenK κ x y (nI D) 6 (12 * x + y) 2 = nI (P * D) := by rw [a2]; rfl
  have hn14 : ¬ sOpenK κ x y (nI D) 14 x y < 0 := by rw [a3]; exact nI_pos (by omega)
  have i2401 : ixL (nI (P * D)) 2401 := ixL.nI (by omega) (by decide)
  have hle : tN (nI (P * D)) ≤ tN (κ 1 x 0) := (ix_le i2401 (h5.1.2.2.1 x hx) (by decide) (by decide)).mp t4.2
  have c : ∀ f i k, f ≠ 1 ∨ i ≠ x ∨ k ≠ 0 → f ≠ 14 ∨ i ≠ x ∨ k ≠ y → f ≠ 6 ∨ i ≠ 12 * x + y → f ≠ 7 ∨ k ≠ 7 → sOpenK κ x y (nI D) f i k = κ f i k := fun f i k g1 g2 g3 g4 => by
    by_cases e : f = 1
    · subst e
      by_cases k0 : k = 0
      · subst k0
        have := a1 i
        rw [if_neg (by omega)] at this; exact this
      · rw [sOpenK, upd3_f (by decide), upd3_f (by decide), updR_far (by omega), upd3_n (by omega)]
    · exact a5 f i k e g3 g2 g4
  refine ⟨⟨(h1.drop).app _, opn_W h2 hx hy, opn_I h3, ⟨_, hRel⟩, ?_⟩, Ev.same (c _ _ _ (by omega) (by omega) (by omega) (by omega)) (fun s => c _ _ _ (by omega) (by omega) (by omega) (by omega)) (fun r k _ => c _ _ _ (by omega) (by omega) (by omega) (by omega)), c _ _ _ (by omega) (by omega) (by omega) (by omega), aside_closed t4.1, P, D, hP.1, hP.2, rfl, d1, d2, ?_, ?_⟩
  · refine ⟨gM_open h5.1 hx hy t4.1 i2401 hle (by rw [a1, if_pos rfl]) hn14 w2 c, fun b' s hb' hs => ?_, h5.2.2.1.cong (fun s => c _ _ _ (by omega) (by omega) (by omega) (by omega)) (c _ _ _ (by omega) (by omega) (by omega) (by omega)), fun q hq => ?_⟩
    · by_cases e : b' = x ∧ s = y
      · right
        rw [e.1, e.2, w0, w1, w2, c 7 0 6 (by omega) (by omega) (by omega) (by omega), tN_nI (by omega), tN_nI (by omega), tN_nI (by omega)]
        refine ⟨hPD, ?_⟩
        have e2 : tN (κ 7 0 6) + (D - 1) - tN (κ 7 0 6) = D - 1 := by omega
        have e3 : P * D = P * (D - 1) + P := by
          obtain ⟨D', rfl⟩ : ∃ D', D = D' + 1 := ⟨D - 1, by omega⟩
          rw [Nat.mul_add, Nat.mul_one]; rfl
        rw [e2]
        split <;> omega
      · rw [c 14 b' s (by omega) (by omega) (by omega) (by omega), c 6 _ 0 (by omega) (by omega) (by omega) (by omega), c 6 _ 1 (by omega) (by omega) (by omega) (by omega), c 6 _ 2 (by omega) (by omega) (by omega) (by omega), c 5 s 6 (by omega) (by omega) (by omega) (by omega), c 7 0 6 (by omega) (by omega) (by omega) (by omega)]
        exact h5.2.1 b' s hb' hs
    · rw [c 7 0 4 (by omega) (by omega) (by omega) (by omega)] at hq
      exact (h5.2.2.2 q hq).to (c _ _ _ (by omega) (by omega) (by omega) (by omega)) (c _ _ _ (by omega) (by omega) (by omega) (by omega)) (c _ _ _ (by omega) (by omega) (by omega) (by omega)) (c _ _ _ (by omega) (by omega) (by omega) (by omega)) (c _ _ _ (by omega) (by omega) (by omega) (by omega)) (c _ _ _ (by omega) (by omega) (by omega) (by omega)) (fun k => c _ _ _ (by omega) (by omega) (by omega) (by omega))
  · rw [a1, if_pos rfl]; grind
  · rw [sAside, if_neg hn14, w2]
/-! a challenge -/
theorem op_challenge {ids : gIds} {κ : gMem} {a x : Int32} (J : CI ids κ) (ht : sChallengeT κ a x = 0) :
    CI ((ids ++ [(2, tN x)]) ++ [(16, tN x)]) (sChallengeK κ (tN a) (tN x)) ∧ tN x < tN (κ 7 0 4) ∧ sChallengeK κ (tN a) (tN x) 7 0 4 = κ 7 0 4 ∧ sChallengeK κ (tN a) (tN x) 7 0 6 = κ 7 0 6 ∧ (∀ s, sChallengeK κ (tN a) (tN x) 5 s 6 = κ 5 s 6) ∧
    sChallengeK κ (tN a) (tN x) 1 (tN a) 0 = κ 1 (tN a) 0 - 4 ∧ sChallengeK κ (tN a) (tN x) 3 (tN x) 3 = 1 ∧ sChallengeK κ (tN a) (tN x) 3 (tN x) 4 = κ 7 0 6 + 4 ∧ sMidA (sChallengeK κ (tN a) (tN x)) (tN x) = -1 ∧
    (∀ q k, q ≠ tN x ∨ k = 0 ∨ k = 1 → sChallengeK κ (tN a) (tN x) 3 q k = κ 3 q k) := by
  obtain ⟨h1, h2, h3, ⟨μ, h4⟩, h5⟩ := J
  obtain ⟨f1, f2, f3⟩ := ch_f ht
  obtain ⟨g1, g2⟩ := rd_in h4 f2
  have t4 : 4 ≤ κ 1 (tN a) 0 := by
    have t1 : ¬ mIn a 0 5 = 0 := fun z => by rw [sChallengeT, if_pos z] at ht; exact absurd ht (by decide)
    rw [sChallengeT, if_neg t1, if_neg f2, if_pos f3] at ht
    exact Classical.byContradiction fun z => by rw [if_neg z] at ht; exact absurd ht (by decide)
  have hRel := rel_challenge h4 g2 f1 f3
  obtain ⟨b, eb⟩ : ∃ b, tN a = b := ⟨_, rfl⟩
  obtain ⟨r, er⟩ : ∃ r, tN x = r := ⟨_, rfl⟩
  have hb : b < 6 := by rw [← eb]; exact f1.2
  rw [er] at g2 f3 hRel
  rw [eb] at t4 hRel
  rw [eb, er]
  obtain ⟨a1, a2, a3, a4, a5, a6, a7, a8⟩ := sChallengeK_at κ b r
  have hp := h5.1.2.2.1 b hb
  have ht4 : 4 ≤ tN (κ 1 b 0) := by
    have := (ix_le (x := 4) (ix_c 4 (n := 5) (by decide) (by decide)).1 hp (by decide) (by decide)).mp t4
    rw [show tN (4 : Int32) = 4 by decide +kernel] at this; exact this
  have c : ∀ f i k, f ≠ 1 ∨ i ≠ b ∨ k ≠ 0 → f ≠ 2 ∨ i ≠ r → f ≠ 16 ∨ i ≠ r → f ≠ 3 ∨ i ≠ r ∨ (k ≠ 3 ∧ k ≠ 4 ∧ k ≠ 9) → f ≠ 7 ∨ k ≠ 7 → (f = 1 → k = 0) → sChallengeK κ b r f i k = κ f i k := fun f i k e1 e2 e3 e4 e5 e6 => by
    by_cases e : f = 1
    · have k0 := e6 e
      subst e; subst k0
      rw [a1, if_neg (by omega)]
    · exact a8 f i k e e2 e3 e4 e5
  refine ⟨⟨(h1.app _).app _, challenge_W h2 hb g2, challenge_I h3 g2, ⟨_, hRel⟩, ?_⟩, g2, a8 _ _ _ (by omega) (by omega) (by omega) (by omega) (by omega), a8 _ _ _ (by omega) (by omega) (by omega) (by omega) (by omega), fun s => a8 _ _ _ (by omega) (by omega) (by omega) (by omega) (by omega), by rw [a1, if_pos rfl], a2, a3, ?_, fun q k hq => a8 _ _ _ (by omega) (by omega) (by omega) (by omega) (by omega)⟩
  · refine ⟨gM_chal h5.1 hb g2 f3 ht4 (by rw [a1, if_pos rfl]) a2 (fun f i k hg e1 e3 => c f i k (by omega) (by rw [gMt] at hg; omega) (by rw [gMt] at hg; omega) (by rw [gMt] at hg; omega) (by rw [gMt] at hg; omega) (by rw [gMt] at hg; omega)), h5.2.1.cong (fun b s => a8 _ _ _ (by omega) (by omega) (by omega) (by omega) (by omega)) (fun j k => a8 _ _ _ (by omega) (by omega) (by omega) (by omega) (by omega)) (fun s => a8 _ _ _ (by omega) (by omega) (by omega) (by omega) (by omega)) (a8 _ _ _ (by omega) (by omega) (by omega) (by omega) (by omega)), h5.2.2.1.cong (fun s => a8 _ _ _ (by omega) (by omega) (by omega) (by omega) (by omega)) (a8 _ _ _ (by omega) (by omega) (by omega) (by omega) (by omega)), fun q hq => ?_⟩
    rw [a8 7 0 4 (by omega) (by omega) (by omega) (by omega) (by omega)] at hq
    by_cases e : q = r
    · subst e
      obtain ⟨n1, n2, n3, n4, n5⟩ := h5.2.2.2 q hq
      rw [RN, a8 3 q 2 (by omega) (by omega) (by omega) (by omega) (by omega), a2]
      exact ⟨n1, ⟨fun z => absurd z (by decide), fun z => absurd ((n2.mpr z).symm.trans f3) (by decide)⟩, fun z => absurd z (by decide), fun z => absurd z (by decide), fun z => absurd z (by decide)⟩
    · exact (h5.2.2.2 q hq).to (a8 _ _ _ (by omega) (by omega) (by omega) (by omega) (by omega)) (a8 _ _ _ (by omega) (by omega) (by omega) (by omega) (by omega)) (a8 _ _ _ (by omega) (by omega) (by omega) (by omega) (by omega)) (a8 _ _ _ (by omega) (by omega) (by omega) (by omega) (by omega)) (a8 _ _ _ (by omega) (by omega) (by omega) (by omega) (by omega)) (a8 _ _ _ (by omega) (by omega) (by omega) (by omega) (by omega)) (fun k => a8 _ _ _ (by omega) (by omega) (by omega) (by omega) (by omega))
  · rw [sMidA, a4, sMiddle, a5]
    have hn := h4.1.2.2.2.2.2
    rw [if_neg (nI_pos (by omega))]
    rfl
/-! a sample -/
theorem op_sample {ids : gIds} {κ : gMem} {a x v : Int32} (J : CI ids κ) (ht : sSampleT κ a x v = 0) :
    CI ids (sSampleK κ (tN a) (tN x) v) ∧ Ev κ (sSampleK κ (tN a) (tN x) v) ∧ tN x < tN (κ 7 0 4) ∧ κ 3 (tN x) 3 = 1 ∧ ixL (κ 3 (tN x) 0) 12 ∧ sSampleK κ (tN a) (tN x) v 7 0 6 = κ 7 0 6 ∧
    ((sSampleK κ (tN a) (tN x) v 3 (tN x) 3 = 1 ∧ sSampleK κ (tN a) (tN x) v 3 (tN x) 7 = κ 3 (tN x) 7 ∧ ∀ s, sSampleK κ (tN a) (tN x) v 5 s 4 = κ 5 s 4 ∧ sSampleK κ (tN a) (tN x) v 5 s 3 = κ 5 s 3) ∨
     (sSampleK κ (tN a) (tN x) v 3 (tN x) 3 = 2 ∧ sSampleK κ (tN a) (tN x) v 5 (tN (κ 3 (tN x) 0)) 4 = κ 5 (tN (κ 3 (tN x) 0)) 4 + κ 3 (tN x) 7 + 4 ∧ sSampleK κ (tN a) (tN x) v 5 (tN (κ 3 (tN x) 0)) 3 = κ 5 (tN (κ 3 (tN x) 0)) 3) ∨
     (sSampleK κ (tN a) (tN x) v 3 (tN x) 3 = 3 ∧ sSampleK κ (tN a) (tN x) v 5 (tN (κ 3 (tN x) 0)) 4 = κ 5 (tN (κ 3 (tN x) 0)) 4 ∧ (0 < tN (κ 5 (tN (κ 3 (tN x) 0)) 3) → tN (sSampleK κ (tN a) (tN x) v 5 (tN (κ 3 (tN x) 0)) 3) < tN (κ 5 (tN (κ 3 (tN x) 0)) 3)) ∧ tN (sSampleK κ (tN a) (tN x) v 5 (tN (κ 3 (tN x) 0)) 3) ≤ tN (κ 5 (tN (κ 3 (tN x) 0)) 3) ∧ tN (κ 7 0 5) ≤ tN (sSampleK κ (tN a) (tN x) v 7 0 5))) := by
  obtain ⟨h1, h2, h3, ⟨μ, h4⟩, h5⟩ := J
  obtain ⟨f1, f2, f3, f4, f5, f6⟩ := smp_f ht
  obtain ⟨g1, g2⟩ := rd_in h4 f2
  obtain ⟨s, es⟩ : ∃ s, tN a = s := ⟨_, rfl⟩
  obtain ⟨r, er⟩ : ∃ r, tN x = r := ⟨_, rfl⟩
  have hs : s < 12 := by rw [← es]; exact f1.2
  rw [er] at g2 f4 f5 f6
  rw [es] at f6
  rw [es, er]
  have h0 := smp_0 h4 g2 hs f4 f6
  have hRel := rel_sample h4 g2 hs f3 h0 f4 f5
  obtain ⟨p1, p2, p3⟩ := h4.rd g2
  rcases p3 with ⟨q1, -⟩ | ⟨q1, q2, q3, q4, q5, q6⟩
  · exact absurd (show κ 3 r 9 < 0 by rw [q1]; decide) f4
  have hlt := q6 f5
  have h12 := p1.2.2.2.2.2.2.2
  obtain ⟨k1, k2, k3⟩ := nbs_4 _ h12.2
  rw [← h12.1, p1.1] at k1 k2 k3
  obtain ⟨c, hcd⟩ : ∃ c, tN (κ 2 r 2) = c := ⟨_, rfl⟩
  have hc5 := q5.1.2
  have e2 : κ 2 r 2 = nI c := by rw [← hcd]; exact q5.1.1
  rw [k1, e2] at hlt
  have hlt := (nI_ltI (show c < 2 ^ 31 by omega) (by omega)).mp hlt
  obtain ⟨x1, x2⟩ := relx_add h4 g2 hs f3 h0 q1 q2 q3 q4 q5 (by omega)
  obtain ⟨b1, b2, b3, -⟩ := sAdd_at (j := s) (v := v) e2 (by omega)
  have k : ∀ f i j, f ≠ 2 → f ≠ 16 → sAdd κ r s v f i j = κ f i j := fun f i j u w => b3 f i j (by omega) (by omega)
  have eA : Ev κ (sAdd κ r s v) := Ev.same (k _ _ _ (by decide) (by decide)) (fun s => k _ _ _ (by decide) (by decide)) (fun r j _ => k _ _ _ (by decide) (by decide))
  have nA : gN (sAdd κ r s v) := by
    refine ⟨h5.1.cong (fun f i j hg => k f i j (by rw [gMt] at hg; omega) (by rw [gMt] at hg; omega)), h5.2.1.cong (fun b s => k _ _ _ (by decide) (by decide)) (fun j i => k _ _ _ (by decide) (by decide)) (fun s => k _ _ _ (by decide) (by decide)) (k _ _ _ (by decide) (by decide)), h5.2.2.1.cong (fun s => k _ _ _ (by decide) (by decide)) (k _ _ _ (by decide) (by decide)), fun q hq => ?_⟩
    rw [k 7 0 4 (by decide) (by decide)] at hq
    by_cases e : q = r
    · subst e
      obtain ⟨n1, n2, n3, n4, n5⟩ := h5.2.2.2 q hq
      rw [RN, k 3 q 2 (by decide) (by decide), k 3 q 3 (by decide) (by decide), f5]
      exact ⟨n1, ⟨fun z => absurd z (by decide), fun z => absurd ((n2.mpr z).symm.trans f5) (by decide)⟩, fun z => absurd z (by decide), fun z => absurd z (by decide), fun z => absurd z (by decide)⟩
    · exact (h5.2.2.2 q hq).to (k _ _ _ (by decide) (by decide)) (k _ _ _ (by decide) (by decide)) (k _ _ _ (by decide) (by decide)) (k _ _ _ (by decide) (by decide)) (k _ _ _ (by decide) (by decide)) (b3 _ _ _ (by omega) (by omega)) (fun j => b3 _ _ _ (by omega) (by omega))
  have eo : sAdd κ r s v 3 r 3 = 1 := (k 3 r 3 (by decide) (by decide)).trans f5
  have e9 : ¬ sAdd κ r s v 3 r 9 < 0 := by rw [k 3 r 9 (by decide) (by decide)]; exact f4
  have e0 : sAdd κ r s v 3 r 0 = κ 3 r 0 := k _ _ _ (by decide) (by decide)
  have hW := sSampleK_WF (s := s) (r := r) (v := v) h2
  have hI := sSampleK_I (s := s) (r := r) (v := v) h3
  by_cases e : sAdd κ r s v 2 r 2 = sNbs (nI (tN (κ 3 r 0))) 12
  · have eK : sSampleK κ s r v = sJudge (sAdd κ r s v) r := by rw [sSampleK, if_pos e]
    rw [eK] at hRel hW hI ⊢
    obtain ⟨j1, j2⟩ := n_judge x1 nA eo e9
    have e6 : sJudge (sAdd κ r s v) r 7 0 6 = κ 7 0 6 := by
      have := hRel.1.1
      have e8 := rel_judge x1 (Or.inr eo) (by rw [b3 2 r 0 (by omega) (by omega)]; exact q3) x2
      have e9 := e8.1.1
      rw [mJudges_keep (by decide) (by decide) (by decide) (by decide) (by decide) (by omega)] at e9
      rw [e9]
      exact h4.1.1.symm
    refine ⟨⟨h1, hW, hI, ⟨_, hRel⟩, j1⟩, eA.tr (ev_judge (Or.inr eo)), g2, f5, h12, e6, Or.inr ?_⟩
    rw [e0, k 5 _ 4 (by decide) (by decide), k 5 _ 3 (by decide) (by decide), k 3 r 7 (by decide) (by decide), k 7 0 5 (by decide) (by decide)] at j2
    exact j2
  · have eK : sSampleK κ s r v = sAdd κ r s v := by rw [sSampleK, if_neg e]
    rw [eK] at hRel hW hI ⊢
    exact ⟨⟨h1, hW, hI, ⟨_, hRel⟩, nA⟩, eA, g2, f5, h12, k _ _ _ (by decide) (by decide), Or.inl ⟨eo, k _ _ _ (by decide) (by decide), fun t => ⟨k _ _ _ (by decide) (by decide), k _ _ _ (by decide) (by decide)⟩⟩⟩
