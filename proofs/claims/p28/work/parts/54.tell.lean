/-! ===== a reading is told ===== -/
def asd (κ : gMem) (s : Nat) : Nat → Int32
  | 0 => 0
  | k + 1 => asd κ s k + sAside κ k s
theorem asd_congr {κ κ' : gMem} {s : Nat} : ∀ n, (∀ b, b < n → sAside κ' b s = sAside κ b s) → asd κ' s n = asd κ s n
  | 0, _ => rfl
  | n + 1, h => by rw [asd, asd, asd_congr n (fun b hb => h b (by omega)), h n (by omega)]
theorem asd_one {κ κ' : gMem} {s k : Nat} : ∀ n, (∀ b, b < n → b ≠ k → sAside κ' b s = sAside κ b s) → asd κ' s n = asd κ s n + (if k < n then sAside κ' k s - sAside κ k s else 0)
  | 0, _ => by rw [if_neg (by omega)]; rfl
  | n + 1, h => by
    rw [asd, asd]
    by_cases e : k = n
    · subst e
      rw [asd_congr k (fun b hb => h b (by omega) (by omega)), if_pos (by omega)]
      grind
    · rw [asd_one n (fun b hb => h b (by omega)), h n (by omega) (by omega)]
      by_cases l : k < n
      · rw [if_pos l, if_pos (by omega)]; grind
      · rw [if_neg l, if_neg (by omega)]; grind
theorem sUse_at {κ : gMem} {r k s : Nat} (hs : tN (κ 3 r 0) = s) (ho : ¬ κ 14 k s < 0) :
    sUse r k κ 6 (12 * k + s) 2 = κ 6 (12 * k + s) 2 - κ 6 (12 * k + s) 0 ∧ sUse r k κ 3 r 7 = κ 3 r 7 + κ 6 (12 * k + s) 0 ∧ sUse r k κ 3 r 6 = κ 3 r 6 + 1 ∧
    (∀ f i j, f ≠ 6 ∨ i ≠ 12 * k + s ∨ j ≠ 2 → f ≠ 3 ∨ i ≠ r ∨ (j ≠ 6 ∧ j ≠ 7) → f ≠ 15 → sUse r k κ f i j = κ f i j) := by
  have e : sUse r k κ = upd3 (upd3 (upd3 (upd3 κ 6 (12 * k + s) 2 (κ 6 (12 * k + s) 2 - κ 6 (12 * k + s) 0)) 15 r k (κ 6 (12 * k + s) 0)) 3 r 7 (κ 3 r 7 + κ 6 (12 * k + s) 0)) 3 r 6 (κ 3 r 6 + 1) := by
    rw [sUse, hs, if_neg ho]
  rw [e]
  refine ⟨?_, ?_, upd3_s, fun f i j f1 f2 f3 => ?_⟩
  · rw [upd3_f (by decide), upd3_f (by decide), upd3_f (by decide), upd3_s]
  · rw [upd3_k (by decide), upd3_s]
  · rw [upd3_n (by omega), upd3_n (by omega), upd3_f f3, upd3_n (by omega)]
theorem tell_uses {κ0 : gMem} {r s : Nat} (hr : r < tN (κ0 7 0 4)) (hs : tN (κ0 3 r 0) = s) (hs12 : s < 12) (hM : gM κ0) (hW : gWn κ0) (hT : κ0 5 s 6 = κ0 7 0 6) (h6 : κ0 3 r 6 = 0)
    (hw : ∀ b, b < 6 → κ0 14 b s < 0 ∨ (ixL (κ0 6 (12 * b + s) 0) 21 ∧ tN (κ0 6 (12 * b + s) 0) * (tN (κ0 6 (12 * b + s) 1) - tN (κ0 7 0 6)) + tN (κ0 6 (12 * b + s) 0) ≤ tN (κ0 6 (12 * b + s) 2))) :
    ∀ i, i ≤ 6 → gM (gIt (sUse r) i κ0) ∧ gWn (gIt (sUse r) i κ0) ∧ asd (gIt (sUse r) i κ0) s 6 + gIt (sUse r) i κ0 3 r 7 = asd κ0 s 6 + κ0 3 r 7 ∧ gIt (sUse r) i κ0 3 r 6 = nI (nsum (fun b => if κ0 14 b s < 0 then 0 else 1) i) ∧
      (∀ b k, i ≤ b → gIt (sUse r) i κ0 6 (12 * b + s) k = κ0 6 (12 * b + s) k) ∧ (∀ f j k, f ≠ 6 → f ≠ 3 ∨ j ≠ r ∨ (k ≠ 6 ∧ k ≠ 7) → f ≠ 15 → gIt (sUse r) i κ0 f j k = κ0 f j k)
  | 0, _ => ⟨hM, hW, rfl, h6, fun _ _ _ => rfl, fun _ _ _ _ _ _ => rfl⟩
  | i + 1, hi => by
    obtain ⟨g1, g2, g3, g4, g5, g6⟩ := tell_uses hr hs hs12 hM hW hT h6 hw i (by omega)
    obtain ⟨κ1, ek⟩ : ∃ κ1, gIt (sUse r) i κ0 = κ1 := ⟨_, rfl⟩
    have es : gIt (sUse r) (i + 1) κ0 = sUse r i κ1 := by rw [gIt_s, ek]
    rw [es, nsum]
    rw [ek] at g1 g2 g3 g4 g5 g6
    have e0 : tN (κ1 3 r 0) = s := by rw [g6 3 r 0 (by omega) (by omega) (by omega)]; exact hs
    have e14 : ∀ b t, κ1 14 b t = κ0 14 b t := fun b t => g6 _ _ _ (by omega) (by omega) (by omega)
    have e4 : κ1 7 0 4 = κ0 7 0 4 := g6 _ _ _ (by omega) (by omega) (by omega)
    have e76 : κ1 7 0 6 = κ0 7 0 6 := g6 _ _ _ (by omega) (by omega) (by omega)
    have e56 : κ1 5 s 6 = κ1 7 0 6 := by rw [e76, g6 5 s 6 (by omega) (by omega) (by omega)]; exact hT
    by_cases ho : κ0 14 i s < 0
    · have eu : sUse r i κ1 = κ1 := by rw [sUse, e0, e14, if_pos ho]
      rw [eu, if_pos ho]
      exact ⟨g1, g2, g3, g4, fun b k hb => g5 b k (by omega), g6⟩
    · have ho1 : ¬ κ1 14 i s < 0 := by rw [e14]; exact ho
      obtain ⟨u1, u2, u3, u4⟩ := sUse_at e0 ho1
      obtain ⟨w1, w2⟩ := (hw i (by omega)).resolve_left ho
      have p0 := g5 i 0 (Nat.le_refl _)
      have p1 := g5 i 1 (Nat.le_refl _)
      have p2 := g5 i 2 (Nat.le_refl _)
      have hx : ixL (κ1 6 (12 * i + s) 0) 21 := by rw [p0]; exact w1
      have hle : tN (κ1 6 (12 * i + s) 0) ≤ tN (κ1 6 (12 * i + s) 2) := by rw [p0, p2]; omega
      have hl := (g1.2.2.2.1 i s (by omega) hs12).resolve_left ho1
      obtain ⟨d1, d2⟩ := ix_sub hl hx hle (by decide)
      have c14 : ∀ b t, sUse r i κ1 14 b t = κ1 14 b t := fun b t => u4 _ _ _ (by omega) (by omega) (by omega)
      rw [if_neg ho]
      refine ⟨gM_use g1 (show i < 6 by omega) hs12 (by rw [e4]; exact hr) ho1 (ix_up hx (by decide)) hle u1 u2 u4, fun b t hb ht => ?_, ?_, ?_, fun b k hb => ?_, fun f j k f1 f2 f3 => (u4 f j k (by omega) f2 f3).trans (g6 f j k f1 f2 f3)⟩
      · rw [c14, u4 7 0 6 (by omega) (by omega) (by omega), u4 5 t 6 (by omega) (by omega) (by omega), u4 6 _ 0 (by omega) (by omega) (by omega), u4 6 _ 1 (by omega) (by omega) (by omega)]
        by_cases e : b = i ∧ t = s
        · right
          obtain ⟨rfl, rfl⟩ := e
          rw [u1, d2, if_pos e56, p0, p1, p2, e76]
          have hh := (hW b t hb ht).resolve_left ho
          exact ⟨by omega, by omega⟩
        · rw [u4 6 (12 * b + t) 2 (by omega) (by omega) (by omega)]
          exact g2 b t hb ht
      · have a1 : ∀ b, b < 6 → b ≠ i → sAside (sUse r i κ1) b s = sAside κ1 b s := fun b _ hb => by
          rw [sAside, sAside, c14, u4 6 (12 * b + s) 2 (by omega) (by omega) (by omega)]
        have a2 : sAside (sUse r i κ1) i s = κ1 6 (12 * i + s) 2 - κ1 6 (12 * i + s) 0 := by rw [sAside, c14, if_neg ho1, u1]
        have a3 : sAside κ1 i s = κ1 6 (12 * i + s) 2 := by rw [sAside, if_neg ho1]
        rw [asd_one 6 a1, if_pos (by omega), a2, a3, u2, ← g3]
        grind
      · rw [u3, g4]; exact nI_1 _
      · rw [u4 6 (12 * b + s) k (by omega) (by omega) (by omega)]
        exact g5 b k (by omega)
theorem sSent_le (κ : gMem) (s : Nat) : ∀ k, ∃ q, q ≤ k ∧ sSent κ s k = nI q
  | 0 => ⟨0, Nat.le_refl _, rfl⟩
  | k + 1 => by
    obtain ⟨q, h1, h2⟩ := sSent_le κ s k
    rw [sSent]
    split
    · exact ⟨q, by omega, h2⟩
    · exact ⟨q + 1, by omega, by rw [h2]; exact nI_1 q⟩
theorem sTell2_at (κ : gMem) (s r : Nat) (v p : Int32) :
    (∀ f i k, f ≠ 3 ∨ i ≠ r → f ≠ 15 ∨ i ≠ r → f ≠ 13 → f ≠ 7 ∨ k ≠ 4 → f ≠ 5 ∨ i ≠ s ∨ k ≠ 6 → f ≠ 4 → sTell2 (sTell1 κ s) s r v p f i k = κ f i k) ∧ (∀ j, sTell2 (sTell1 κ s) s r v p 3 r j = sNewR s v p j) ∧
    sTell2 (sTell1 κ s) s r v p 7 0 4 = κ 7 0 4 + 1 ∧ sTell2 (sTell1 κ s) s r v p 5 s 6 = κ 7 0 6 := by
  have k1 : ∀ f i k, f ≠ 5 ∨ i ≠ s ∨ k ≠ 6 → f ≠ 4 → sTell1 κ s f i k = κ f i k := fun f i k f1 f2 => by
    rw [sTell1, sSend, sPart_it_keep f2, upd3_n (by omega)]
  refine ⟨fun f i k f1 f2 f3 f4 f5 f6 => ?_, fun j => ?_, ?_, ?_⟩
  · rw [sTell2, upd3_n (by omega), upd3_f f3, updR_far (by omega), updR_far (by omega), k1 f i k f5 f6]
  · rw [sTell2, upd3_f (by decide), upd3_f (by decide), updR_far (by omega), updR_s]
  · rw [sTell2, upd3_s, k1 7 0 4 (by omega) (by omega)]
  · rw [sTell2, upd3_f (by decide), upd3_f (by decide), updR_far (by omega), updR_far (by omega), sTell1, sSend, sPart_it_keep (by decide), upd3_s]
theorem tell_T {κ : gMem} {a v : Int32} (ht : sTellT κ a v = 0) : ¬ κ 5 (tN a) 6 = κ 7 0 6 := by
  intro z
  have t1 : ¬ mIn a 0 11 = 0 := fun z => by rw [sTellT, if_pos z] at ht; exact absurd ht (by decide)
  rw [sTellT, if_neg t1] at ht
  have t2 : ¬ mIn v 0 99 = 0 := fun z => by rw [if_pos z] at ht; exact absurd ht (by decide)
  rw [if_neg t2] at ht
  have t3 : ¬ κ 5 (tN a) 3 < 20 := fun z => by rw [if_pos z] at ht; exact absurd ht (by decide)
  rw [if_neg t3, if_pos z] at ht
  exact absurd ht (by decide)
/-- a window of a sensor that hasn't told in this tick has something left -/
theorem aside_pos {ids : gIds} {κ : gMem} {b s : Nat} (J : CI ids κ) (hs : s < 12) (hb : b < 6) (ht : ¬ κ 5 s 6 = κ 7 0 6) : κ 14 b s < 0 ∨ (¬ κ 14 b s < 0 ∧ ¬ sAside κ b s ≤ 0) := by
  obtain ⟨h1, h2, h3, ⟨μ, h4⟩, h5⟩ := J
  by_cases ho : κ 14 b s < 0
  · exact Or.inl ho
  · right
    refine ⟨ho, ?_⟩
    obtain ⟨w1, w2⟩ := (h5.2.1 b s hb hs).resolve_left ho
    rw [if_neg ht] at w2
    rcases h4.2.2.2.2.2.1 b s hb hs with ⟨v1, -⟩ | ⟨v1, v2, v3, v4, v5, ⟨q, q1, q2, q3⟩, -⟩
    · rw [v1] at ho; exact absurd (by decide) ho
    · rw [q3, tN_nI (by omega)] at w2
      have hl := (h5.1.2.2.2.1 b s hb hs).resolve_left ho
      rw [sAside, if_neg ho]
      intro z
      have := (ix_le hl (ix_0 (n := 1) (by decide)).1 (by decide) (by decide)).mp z
      rw [(ix_0 (n := 1) (by decide)).2] at this
      omega
set_option maxHeartbeats 1000000 in
theorem op_tell {ids : gIds} {κ : gMem} {a v : Int32} {r s : Nat} (J : CI ids κ) (ht : sTellT κ a v = 0) (er : tN (κ 7 0 4) = r) (es : tN a = s) :
    CI ((ids ++ [(3, r)]) ++ [(15, r)]) (sTellK κ s r v) ∧ sTellK κ s r v 7 0 4 = nI (r + 1) ∧ sTellK κ s r v 7 0 6 = κ 7 0 6 ∧ sTellK κ s r v 5 s 6 = κ 7 0 6 ∧ (∀ t, t ≠ s → sTellK κ s r v 5 t 6 = κ 5 t 6) ∧ (∀ q k, q ≠ r → sTellK κ s r v 3 q k = κ 3 q k) ∧
    sTellK κ s r v 3 r 0 = nI s ∧ sTellK κ s r v 3 r 1 = v ∧
    ((sTellK κ s r v 3 r 3 = 0 ∧ sTellK κ s r v 3 r 4 = κ 7 0 6 + 4 ∧ sTellK κ s r v 3 r 6 = nI (nsum (fun b => if κ 14 b s < 0 then 0 else 1) 6) ∧ asd (sTellK κ s r v) s 6 + sTellK κ s r v 3 r 7 = asd κ s 6) ∨
     (sTellK κ s r v 3 r 3 = 4 ∧ sTellK κ s r v 3 r 6 = 0 ∧ sTellK κ s r v 3 r 7 = 0 ∧ asd (sTellK κ s r v) s 6 = asd κ s 6)) := by
  obtain ⟨f1, f2, f3⟩ := tell_f ht
  have hT := tell_T ht
  have J' := J
  obtain ⟨h1, h2, h3, ⟨μ, h4⟩, h5⟩ := J
  rw [es] at hT
  have hs12 : s < 12 := by rw [← es]; exact f1.2
  have n1 : κ 7 0 4 = nI r := by rw [← er]; exact h4.1.2.2.2.2.1
  have hr80 : r < 80 := by
    have := (ix_lt (x := κ 7 0 4) (y := 80) h4.1.2.2.2.2 (ix_c 80 (n := 81) (by decide) (by decide)).1 (by decide) (by decide)).mp f3
    rw [er, show tN (80 : Int32) = 80 by decide +kernel] at this; exact this
  have hRel := rel_tell h4 f1 f2 (by rw [er]; exact hr80)
  rw [er, es] at hRel
  have hW := tell_W (v := v) h2 n1 hr80 hs12
  have hI := tell_I (s := s) (v := v) h3 n1 hr80
  have hV : cV ((ids ++ [(3, r)]) ++ [(15, r)]) := (h1.app _).app _
  obtain ⟨p, hp4, ep⟩ := sSent_le (upd3 κ 5 s 6 (κ 7 0 6)) s 4
  obtain ⟨κ2, ek2⟩ : ∃ κ2, sTell2 (sTell1 κ s) s r v (nI p) = κ2 := ⟨_, rfl⟩
  obtain ⟨c, cR, c74, c56⟩ := sTell2_at κ s r v (nI p)
  rw [ek2] at c cR c74 c56
  have c74 : κ2 7 0 4 = nI (r + 1) := by rw [c74, n1]; exact nI_1 r
  have eK : sTellK κ s r v = if nI p < 3 then κ2 else sUses (sWait κ2 r) r := by rw [sTellK, ep, ek2]
  obtain ⟨l1, l2⟩ := i32_le2 hp4
  have t4 : tN (κ2 7 0 4) = r + 1 := by rw [c74, tN_nI (by omega)]
  have c76 : κ2 7 0 6 = κ 7 0 6 := c _ _ _ (by omega) (by omega) (by omega) (by omega) (by omega) (by omega)
  have r0 : κ2 3 r 0 = nI s := by rw [cR]; rfl
  have r1 : κ2 3 r 1 = v := by rw [cR]; rfl
  have r2 : κ2 3 r 2 = nI p := by rw [cR]; rfl
  have r3 : κ2 3 r 3 = if nI p < 3 then 4 else 0 := by rw [cR]; rfl
  have r6 : κ2 3 r 6 = 0 := by rw [cR]; rfl
  have r7 : κ2 3 r 7 = 0 := by rw [cR]; rfl
  have as2 : ∀ b, sAside κ2 b s = sAside κ b s := fun b => by
    rw [sAside, sAside, c 14 b s (by omega) (by omega) (by omega) (by omega) (by omega) (by omega), c 6 _ 2 (by omega) (by omega) (by omega) (by omega) (by omega) (by omega)]
  have m2 : gM κ2 := gM_new h5.1 n1 hr80 c74 r7 (by rw [r3]; split <;> decide) (fun f i k hg f1 f2 => by rw [gMt] at hg; exact c f i k (by omega) (by omega) (by omega) (by omega) (by omega) (by omega))
  have w2 : gWn κ2 := fun b t hb ht => by
    rw [c 14 b t (by omega) (by omega) (by omega) (by omega) (by omega) (by omega), c 6 _ 0 (by omega) (by omega) (by omega) (by omega) (by omega) (by omega), c 6 _ 1 (by omega) (by omega) (by omega) (by omega) (by omega) (by omega), c 6 _ 2 (by omega) (by omega) (by omega) (by omega) (by omega) (by omega), c76]
    rcases h5.2.1 b t hb ht with z | ⟨z1, z2⟩
    · exact Or.inl z
    · right
      refine ⟨z1, ?_⟩
      by_cases e : t = s
      · rw [e, c56, if_pos rfl]
        rw [e] at z2
        omega
      · rw [c 5 t 6 (by omega) (by omega) (by omega) (by omega) (by omega) (by omega)]; exact z2
  have d2 : gTd κ2 := fun t ht => by
    rw [c76]
    by_cases e : t = s
    · right
      rw [e, c56]; exact ⟨h4.1.2.1, Nat.le_refl _⟩
    · rw [c 5 t 6 (by omega) (by omega) (by omega) (by omega) (by omega) (by omega)]; exact h5.2.2.1 t ht
  have q2 : ∀ q, q ≠ r → ∀ k, κ2 3 q k = κ 3 q k := fun q hq k => c _ _ _ (by omega) (by omega) (by omega) (by omega) (by omega) (by omega)
  have n2 : ∀ q, q < r → RN κ2 q := fun q hq => (h5.2.2.2 q (by omega)).to (q2 q (by omega) _) (q2 q (by omega) _) (q2 q (by omega) _) (q2 q (by omega) _) (q2 q (by omega) _) (c _ _ _ (by omega) (by omega) (by omega) (by omega) (by omega) (by omega)) (fun k => c _ _ _ (by omega) (by omega) (by omega) (by omega) (by omega) (by omega))
  have ip : ixL (nI p) 5 ∧ tN (nI p) = p := ix_c p (by omega) (by decide)
  by_cases hp : nI p < 3
  · have hp3 := l1.mp hp
    rw [if_pos hp] at eK r3
    rw [eK] at hRel hW hI ⊢
    refine ⟨⟨hV, hW, hI, ⟨_, hRel⟩, m2, w2, d2, fun q hq => ?_⟩, c74, c76, c56, fun t ht => c _ _ _ (by omega) (by omega) (by omega) (by omega) (by omega) (by omega), fun q k hq => q2 q hq k, r0, r1, Or.inr ⟨r3, r6, r7, asd_congr 6 (fun b _ => as2 b)⟩⟩
    rw [t4] at hq
    by_cases e : q = r
    · subst e
      rw [RN, r2, r3, r6, ip.2]
      exact ⟨ip.1, ⟨fun _ => hp3, fun _ => rfl⟩, fun _ => ⟨rfl, by rw [cR]; show (-1 : Int32) < 0; decide⟩, fun z => absurd z (by decide), fun z => absurd z (by decide)⟩
    · exact n2 q (by omega)
  · rw [if_neg hp] at eK r3
    obtain ⟨κ3, ek3⟩ : ∃ κ3, sWait κ2 r = κ3 := ⟨_, rfl⟩
    have c3 : ∀ f i k, f ≠ 3 ∨ i ≠ r ∨ k ≠ 4 → f ≠ 7 ∨ k ≠ 7 → κ3 f i k = κ2 f i k := fun f i k f1 f2 => by rw [← ek3, sWait, upd3_n (by omega), upd3_n (by omega)]
    have e34 : κ3 3 r 4 = κ 7 0 6 + 4 := by rw [← ek3, sWait, upd3_f (by decide), upd3_s, c76]
    have m3 : gM κ3 := m2.cong (fun f i k hg => by rw [gMt] at hg; exact c3 f i k (by omega) (by omega))
    have w3 : gWn κ3 := w2.cong (fun b s => c3 _ _ _ (by omega) (by omega)) (fun j k => c3 _ _ _ (by omega) (by omega)) (fun s => c3 _ _ _ (by omega) (by omega)) (c3 _ _ _ (by omega) (by omega))
    have hw3 : ∀ b, b < 6 → κ3 14 b s < 0 ∨ (ixL (κ3 6 (12 * b + s) 0) 21 ∧ tN (κ3 6 (12 * b + s) 0) * (tN (κ3 6 (12 * b + s) 1) - tN (κ3 7 0 6)) + tN (κ3 6 (12 * b + s) 0) ≤ tN (κ3 6 (12 * b + s) 2)) := fun b hb => by
      have k6 : ∀ j k, κ3 6 j k = κ 6 j k := fun j k => (c3 _ _ _ (by omega) (by omega)).trans (c _ _ _ (by omega) (by omega) (by omega) (by omega) (by omega) (by omega))
      rw [c3 14 b s (by omega) (by omega), c 14 b s (by omega) (by omega) (by omega) (by omega) (by omega) (by omega), k6, k6, k6, c3 7 0 6 (by omega) (by omega), c76]
      rcases h5.2.1 b s hb hs12 with z | ⟨z1, z2⟩
      · exact Or.inl z
      · rw [if_neg hT] at z2
        rcases h4.2.2.2.2.2.1 b s hb hs12 with ⟨v1, -⟩ | ⟨v1, v2, v3, v4, v5, ⟨q, q1, q2, q3⟩, -⟩
        · left; rw [v1]; decide
        · right
          exact ⟨by rw [q3]; exact ixL.nI (by omega) (by decide), z2⟩
    obtain ⟨u1, u2, u3, u4, u5, u6⟩ := tell_uses (r := r) (s := s) (κ0 := κ3) (by rw [c3 7 0 4 (by omega) (by omega), t4]; omega) (by rw [c3 3 r 0 (by omega) (by omega), r0, tN_nI (by omega)]) hs12 m3 w3 (by rw [c3 5 s 6 (by omega) (by omega), c3 7 0 6 (by omega) (by omega), c56, c76]) (by rw [c3 3 r 6 (by omega) (by omega), r6]) hw3 6 (Nat.le_refl _)
    have eU : sTellK κ s r v = gIt (sUse r) 6 κ3 := by rw [eK, ek3]; rfl
    rw [eU] at hRel hW hI ⊢
    have cU : ∀ f i k, f ≠ 6 → f ≠ 3 ∨ i ≠ r ∨ (k ≠ 4 ∧ k ≠ 6 ∧ k ≠ 7) → f ≠ 15 → f ≠ 7 ∨ k ≠ 7 → gIt (sUse r) 6 κ3 f i k = κ2 f i k := fun f i k f1 f2 f3 f4 => (u6 f i k f1 (by omega) f3).trans (c3 f i k (by omega) f4)
    have d3 : gTd (gIt (sUse r) 6 κ3) := d2.cong (fun s => cU _ _ _ (by omega) (by omega) (by omega) (by omega)) (cU _ _ _ (by omega) (by omega) (by omega) (by omega))
    refine ⟨⟨hV, hW, hI, ⟨_, hRel⟩, u1, u2, d3, fun q hq => ?_⟩, (cU _ _ _ (by omega) (by omega) (by omega) (by omega)).trans c74, (cU _ _ _ (by omega) (by omega) (by omega) (by omega)).trans c76, (cU _ _ _ (by omega) (by omega) (by omega) (by omega)).trans c56, fun t ht => (cU _ _ _ (by omega) (by omega) (by omega) (by omega)).trans (c _ _ _ (by omega) (by omega) (by omega) (by omega) (by omega) (by omega)), fun q k hq => (cU _ _ _ (by omega) (by omega) (by omega) (by omega)).trans (q2 q hq k), (cU _ _ _ (by omega) (by omega) (by omega) (by omega)).trans r0, (cU _ _ _ (by omega) (by omega) (by omega) (by omega)).trans r1, Or.inl ⟨(cU _ _ _ (by omega) (by omega) (by omega) (by omega)).trans r3, (u6 3 r 4 (by omega) (by omega) (by omega)).trans e34, ?_, ?_⟩⟩
    · rw [cU 7 0 4 (by omega) (by omega) (by omega) (by omega), t4] at hq
      by_cases e : q = r
      · subst e
        rw [RN, cU 3 q 2 (by omega) (by omega) (by omega) (by omega), cU 3 q 3 (by omega) (by omega) (by omega) (by omega), r2, r3, ip.2]
        exact ⟨ip.1, ⟨fun z => absurd z (by decide), fun z => absurd (l1.mpr z) hp⟩, fun z => absurd z (by decide), fun z => absurd z (by decide), fun z => absurd z (by decide)⟩
      · exact (n2 q (by omega)).to (cU _ _ _ (by omega) (by omega) (by omega) (by omega)) (cU _ _ _ (by omega) (by omega) (by omega) (by omega)) (cU _ _ _ (by omega) (by omega) (by omega) (by omega)) (cU _ _ _ (by omega) (by omega) (by omega) (by omega)) (cU _ _ _ (by omega) (by omega) (by omega) (by omega)) (cU _ _ _ (by omega) (by omega) (by omega) (by omega)) (fun k => cU _ _ _ (by omega) (by omega) (by omega) (by omega))
    · rw [u4]
      exact congrArg nI (nsum_congr 6 (fun b _ => by rw [c3 14 b s (by omega) (by omega), c 14 b s (by omega) (by omega) (by omega) (by omega) (by omega) (by omega)]))
    · rw [u3, c3 3 r 7 (by omega) (by omega), r7, Int32.add_zero]
      refine asd_congr 6 (fun b _ => ?_)
      rw [← as2 b, sAside, sAside, c3 14 b s (by omega) (by omega), c3 6 _ 2 (by omega) (by omega)]
