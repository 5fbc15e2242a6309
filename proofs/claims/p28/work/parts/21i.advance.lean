/-! ===== ticks: the class's clock stands till the end ===== -/
def AE (κ κ' : gMem) : Prop := ∀ f i k, f ≠ 7 ∨ i ≠ 0 ∨ k ≠ 6 → κ' f i k = κ f i k
theorem AE.upd {κ κ' : gMem} (h : AE κ κ') {f i k : Nat} {x : Int32} : AE (upd3 κ f i k x) (upd3 κ' f i k x) := fun g j l hg => by
  by_cases e : g = f ∧ j = i ∧ l = k
  · obtain ⟨rfl, rfl, rfl⟩ := e
    rw [upd3_s, upd3_s]
  · rw [upd3_n e, upd3_n e]; exact h g j l hg
theorem AE.it {F : Nat → gMem → gMem} (hF : ∀ k κ κ', AE κ κ' → AE (F k κ) (F k κ')) {κ κ' : gMem} (h : AE κ κ') : ∀ n, AE (gIt F n κ) (gIt F n κ')
  | 0 => h
  | n + 1 => hF n _ _ (AE.it hF h n)
theorem AE.stand {κ κ' : gMem} (h : AE κ κ') (r : Nat) : AE (sStand κ r) (sStand κ' r) := by
  rw [sStand, sStand, h 3 r 0 (by omega), h 3 r 7 (by omega), h 5 _ 4 (by omega)]
  exact h.upd.upd.upd
theorem AE.back {κ κ' : gMem} (h : AE κ κ') (r : Nat) : AE (sBack κ r) (sBack κ' r) := by
  have hi : AE (gIt (sBack1 r) 6 κ) (gIt (sBack1 r) 6 κ') := AE.it (fun k a b hab => by
    rw [sBack1, sBack1, hab 1 k 0 (by omega), hab 15 r k (by omega)]; exact hab.upd) h 6
  rw [sBack, sBack, hi 1 _ 0 (by omega), h 2 r 0 (by omega)]
  exact hi.upd.upd
theorem AE.cut {κ κ' : gMem} (h : AE κ κ') (r : Nat) : sCut κ' r = sCut κ r := by
  rw [sCut, sCut, h 3 r 0 (by omega), h 3 r 6 (by omega), h 5 _ 3 (by omega), h 5 _ 2 (by omega)]
theorem AE.share {κ κ' : gMem} (h : AE κ κ') (r : Nat) : AE (sShare κ r) (sShare κ' r) := by
  have h1 : AE (sShare1 κ r) (sShare1 κ' r) := by
    rw [sShare1, sShare1, h.cut, h 3 r 0 (by omega), h 5 _ 3 (by omega), h 2 r 0 (by omega), h 1 _ 0 (by omega)]
    exact h.upd.upd.upd
  have h2 : ∀ x, AE (sPayK (sShare1 κ r) r x) (sPayK (sShare1 κ' r) r x) := fun x => by
    rw [sPayK, sPayK, h1 3 r 6 (by omega)]
    split
    · exact h1
    · exact AE.it (fun k a b hab => by
        rw [sPay1, sPay1, hab 15 r k (by omega), hab 1 k 0 (by omega)]
        split
        · exact hab
        · exact hab.upd) h1 6
  rw [sShare, sShare, h.cut, h 7 0 5 (by omega), sPayA, sPayA, h1 3 r 6 (by omega)]
  exact (h2 _).upd
theorem AE.judge {κ κ' : gMem} (h : AE κ κ') (r : Nat) : AE (sJudge κ r) (sJudge κ' r) := by
  have e : sRefutes κ' r (κ' 3 r 1) = sRefutes κ r (κ 3 r 1) := by
    rw [sRefutes, sRefutes, sMiddle, sMiddle, h 2 r 2 (by omega), h 3 r 1 (by omega), h 16 r _ (by omega)]
  rw [sJudge, sJudge, e, h 3 r 0 (by omega), h 5 _ 4 (by omega)]
  split
  · exact h.upd.stand r
  · exact (h.upd.back r).share r
theorem AE.settle {κ κ' : gMem} (h : AE κ κ') (r : Nat) : AE (sSettle κ r) (sSettle κ' r) := by
  rw [sSettle, sSettle, h 3 r 9 (by omega)]
  split
  · exact h.stand r
  · exact h.judge r
theorem AE.fin {κ κ' : gMem} (h : AE κ κ') (e : Int32) : AE (sEnd κ e) (sEnd κ' e) := by
  rw [sEnd, sEnd, h 7 0 4 (by omega)]
  refine AE.it (fun b a a' hab => ?_) (AE.it (fun k a a' hab => ?_) h _) 6
  · refine AE.it (fun k a a' hab => ?_) hab 12
    rw [sClose1, sClose1, hab 14 b k (by omega), hab 6 _ 1 (by omega), hab 1 b 0 (by omega), hab 6 _ 2 (by omega)]
    split
    · exact hab
    · split
      · exact hab.upd.upd
      · exact hab
  · have eo : sOpen a' k = sOpen a k := by rw [sOpen, sOpen, hab 3 k 3 (by omega)]
    rw [sEnd1, sEnd1, eo, hab 3 k 4 (by omega)]
    split
    · exact hab
    · split
      · exact hab.settle k
      · exact hab
/-! one reading, one window at the end of a tick -/
theorem sSettle_at (κ : gMem) (r : Nat) : (sSettle κ r 3 r 3 = 2 ∨ sSettle κ r 3 r 3 = 3) ∧ (∀ q k, q ≠ r → sSettle κ r 3 q k = κ 3 q k) := by
  rw [sSettle]
  split
  · obtain ⟨a1, a2, a3, a4⟩ := sStand_at κ r
    exact ⟨Or.inl a2, fun q k hq => a4 _ _ _ (by omega) (by omega)⟩
  · rw [sJudge]
    split
    · obtain ⟨a1, a2, a3, a4⟩ := sStand_at (upd3 κ 5 (tN (κ 3 r 0)) 4 (κ 5 (tN (κ 3 r 0)) 4 + 4)) r
      exact ⟨Or.inl a2, fun q k hq => (a4 _ _ _ (by omega) (by omega)).trans (upd3_f (by decide))⟩
    · obtain ⟨a1, a2, a3, a4, a5, a6, a7⟩ := sLie_at κ r
      exact ⟨Or.inr a3, fun q k hq => a7 _ _ _ (by omega) (by omega) (by omega) (by omega)⟩
theorem sub4 {T t : Nat} (hT : T ≤ 10100) (ht : t ≤ 10100) : (nI T - nI t = 4 ↔ T = t + 4) := by
  have e := pk_sub_toInt (a := T) (b := t) (by omega) (by omega)
  have e4 : (4 : Int32).toInt = 4 := by decide +kernel
  rw [← Int32.toInt_inj, e, e4]
  omega
theorem rel_end1 {κ μ : gMem} {r : Nat} (h : Rel κ μ) (hr : r < tN (κ 7 0 4)) : Rel (sEnd1 (κ 7 0 6) r κ) (mEnd1 r μ) := by
  obtain ⟨p1, p2, p3⟩ := h.rd hr
  have hT := h.1.2.1
  rw [sEnd1, mEnd1, sOpen, ← h.1.1, ← p1.2.2.2.2.1]
  have hn := h.1.2.2.2.2.2
  rcases p2 with ⟨y1, y2, y3, y4, t, y5, y6, y7, y8, y9⟩ | ⟨y1, y2⟩
  · have hT2 := hT.2
    rw [if_neg (show ¬ (if κ 3 r 3 = 0 then (1 : Int32) else if κ 3 r 3 = 1 then 1 else 0) = 0 by rcases y1 with z | z <;> rw [z] <;> decide), y5, y6, hT.1]
    have l1 : nI (t + 4) ≤ nI (tN (κ 7 0 6)) ↔ tN (κ 7 0 6) = t + 4 := by
      rw [Int32.le_iff_toInt_le, nI_toInt (by omega), nI_toInt (by omega)]; omega
    have l2 := sub4 (T := tN (κ 7 0 6)) (t := t) (by omega) (by omega)
    by_cases q : tN (κ 7 0 6) = t + 4
    · rw [if_pos (l1.mpr q), if_pos (l2.mpr q), sSettle]
      rcases y1 with z | z
      · have h9 : κ 3 r 9 = -1 := by
          rcases p3 with w | w
          · exact w.1
          · exact absurd z w.2.1
        rw [if_pos (show κ 3 r 9 < 0 by rw [h9]; decide), z, if_neg (by decide), if_pos rfl]
        exact rel_stand (h.x hr) (Or.inl z)
      · rcases p3 with w | w
        · exact absurd z w.2.1
        · rw [if_neg (show ¬ κ 3 r 9 < 0 by rw [w.1]; exact nI_pos (by omega)), z, if_pos rfl]
          exact rel_judge (h.x hr) (Or.inr z) w.2.2.1 w.2.2.2.2.1
    · rw [if_neg (fun z => q (l1.mp z)), if_neg (fun z => q (l2.mp z))]; exact h
  · rw [if_pos (show (if κ 3 r 3 = 0 then (1 : Int32) else if κ 3 r 3 = 1 then 1 else 0) = 0 by rw [if_neg (fun z => y1 (Or.inl z)), if_neg (fun z => y1 (Or.inr z))]), if_neg (fun z => y1 (Or.inr z)), if_neg (fun z => y1 (Or.inl z))]
    split <;> exact h
def dn1 (κ : gMem) (e : Int32) (r : Nat) : Prop := κ 3 r 3 = 0 ∨ κ 3 r 3 = 1 → ¬ κ 3 r 4 ≤ e
def dn2 (κ : gMem) (e : Int32) (b k : Nat) : Prop := κ 14 b k < 0 ∨ ¬ κ 6 (12 * b + k) 1 ≤ e
theorem sEnd1_dn (κ : gMem) (e : Int32) (r : Nat) : dn1 (sEnd1 e r κ) e r ∧ ∀ q k, q ≠ r → sEnd1 e r κ 3 q k = κ 3 q k := by
  rw [sEnd1]
  by_cases h : sOpen κ r = 0
  · rw [if_pos h]
    refine ⟨fun z => ?_, fun _ _ _ => rfl⟩
    rw [sOpen] at h
    rcases z with z | z
    · rw [if_pos z] at h; exact absurd h (by decide)
    · rw [z] at h; exact absurd h (by decide)
  · rw [if_neg h]
    by_cases h2 : κ 3 r 4 ≤ e
    · rw [if_pos h2]
      obtain ⟨a, b⟩ := sSettle_at κ r
      refine ⟨fun z => ?_, b⟩
      rcases a with a | a <;> rw [a] at z <;> exact absurd z (by decide)
    · rw [if_neg h2]; exact ⟨fun _ => h2, fun _ _ _ => rfl⟩
theorem rel_end1_it {κ μ : gMem} (h : Rel κ μ) : ∀ i, i ≤ tN (κ 7 0 4) → Rel (gIt (sEnd1 (κ 7 0 6)) i κ) (gIt mEnd1 i μ) ∧ ∀ r, r < i → dn1 (gIt (sEnd1 (κ 7 0 6)) i κ) (κ 7 0 6) r
  | 0, _ => ⟨h, fun r hr => absurd hr (by omega)⟩
  | i + 1, hi => by
    obtain ⟨g1, g2⟩ := rel_end1_it h i (by omega)
    have m0 : gIt mEnd1 i μ 8 0 0 = μ 8 0 0 := gIt_keep (fun _ _ => mEnd1_keep (by decide) (by decide) (by decide) (by decide) (by decide) (by omega)) _ _
    have m16 : gIt mEnd1 i μ 8 0 16 = μ 8 0 16 := gIt_keep (fun _ _ => mEnd1_keep (by decide) (by decide) (by decide) (by decide) (by decide) (by omega)) _ _
    have e6 : gIt (sEnd1 (κ 7 0 6)) i κ 7 0 6 = κ 7 0 6 := by rw [g1.1.1, m0, ← h.1.1]
    have e4 : gIt (sEnd1 (κ 7 0 6)) i κ 7 0 4 = κ 7 0 4 := by rw [g1.1.2.2.2.1, m16, ← h.1.2.2.2.1]
    have s := rel_end1 g1 (r := i) (by rw [e4]; omega)
    rw [e6] at s
    obtain ⟨d1, d2⟩ := sEnd1_dn (gIt (sEnd1 (κ 7 0 6)) i κ) (κ 7 0 6) i
    refine ⟨s, fun r hr => ?_⟩
    by_cases e : r = i
    · rw [e]; exact d1
    · have := g2 r (by omega)
      show dn1 (sEnd1 (κ 7 0 6) i (gIt (sEnd1 (κ 7 0 6)) i κ)) (κ 7 0 6) r
      rw [dn1, d2 r 3 e, d2 r 4 e]; exact this
theorem rel_close1 {κ μ : gMem} {b k : Nat} (h : Rel κ μ) (hb : b < 6) (hk : k < 12) : Rel (sClose1 b (κ 7 0 6) k κ) (mEnd2 (12 * b + k) μ) := by
  have hT := h.1.2.1
  have hT2 := hT.2
  rw [sClose1, mEnd2, ← h.1.1]
  rcases h.2.2.2.2.2.1 b k hb hk with ⟨w1, w2, w3⟩ | ⟨w1, w2, w3, w4, w5, w6, t, w7, w8, w9, w10⟩
  · rw [if_pos (show κ 14 b k < 0 by rw [w1]; decide), if_pos w2]; exact h
  · rw [if_neg (show ¬ κ 14 b k < 0 by rw [w1]; exact nI_pos (by omega)), if_neg (show ¬ μ 32 0 (12 * b + k) = 0 by rw [w2]; decide), ← w4, w7]
    have l1 : nI t ≤ κ 7 0 6 ↔ t = tN (κ 7 0 6) := by
      rw [hT.1, Int32.le_iff_toInt_le, nI_toInt (by omega), nI_toInt (by omega), tN_nI (by omega)]; omega
    have l2 : nI t = κ 7 0 6 ↔ t = tN (κ 7 0 6) := by
      constructor
      · intro z; rw [← z, tN_nI (by omega)]
      · intro z; rw [z]; exact hT.1.symm
    by_cases q : t = tN (κ 7 0 6)
    · rw [if_pos (l1.mpr q), if_pos (l2.mpr q)]
      have ed : (12 * b + k) / 12 = b := by omega
      rw [ed, ← w5]
      obtain ⟨h1, h2, h3, h4, h5, h6, h7, h8⟩ := h
      refine ⟨h1, fun j hj => (h2 j hj).to rfl rfl rfl rfl rfl rfl rfl (Nat.le_refl _), fun j hj => (h3 j hj).to (fun _ _ => rfl) (fun f f1 f2 => ?_), fun j hj => (h4 j hj).to rfl rfl rfl (fun _ => ⟨rfl, rfl⟩), fun j hj => ?_, fun b' k' hb' hk' => ?_, fun r hr => ?_, fun r x y => (h8 r x y).to rfl rfl (fun _ _ => rfl) (fun _ _ => rfl)⟩
      · rw [upd3_f (by omega), upd3_f (by omega), upd3_f (by omega)]
      · rw [rB, upd3_f (show 1 ≠ 14 by decide), upd3_f (show 30 ≠ 35 by decide)]
        have h5b := h5 b hb
        rw [rB] at h5b
        by_cases e : j = b
        · subst e; rw [upd3_s, upd3_s, h5b]
        · rw [upd3_n (fun z => e z.2.1), upd3_k e, upd3_f (show 30 ≠ 32 by decide)]; exact h5 j hj
      · by_cases e : b' = b ∧ k' = k
        · obtain ⟨rfl, rfl⟩ := e
          left
          exact ⟨upd3_s, by rw [upd3_f (by decide), upd3_f (by decide), upd3_s], upd3_s⟩
        · refine (h6 b' k' hb' hk').to ?_ (fun j => ?_) (fun f f1 f2 => ?_) rfl (Int32.le_refl _)
          · rw [upd3_n (by omega), upd3_f (by decide)]
          · rw [upd3_f (by decide), upd3_f (by decide)]
          · rw [upd3_n (by omega), upd3_f (by omega), upd3_n (by omega)]
      · obtain ⟨a1, a2, a3⟩ := h7 r hr
        refine ⟨a1.to (fun _ _ _ _ _ => rfl) (fun f f1 f2 => ?_) rfl, a2.to rfl rfl rfl rfl (fun _ _ => rfl) (fun _ _ => rfl) rfl rfl rfl (Int32.le_refl _), a3.to rfl rfl (fun _ => rfl) (fun _ => rfl) (fun _ _ => rfl) rfl rfl⟩
        rw [upd3_f (by omega), upd3_f (by omega), upd3_f (by omega)]
    · rw [if_neg (fun z => q (l1.mp z)), if_neg (fun z => q (l2.mp z))]; exact h
theorem sClose1_dn (κ : gMem) (e : Int32) (b k : Nat) : dn2 (sClose1 b e k κ) e b k ∧ (∀ b' k', ¬ (b' = b ∧ k' = k) → sClose1 b e k κ 14 b' k' = κ 14 b' k') ∧ (∀ f i j, f ≠ 1 → f ≠ 14 → sClose1 b e k κ f i j = κ f i j) := by
  rw [sClose1]
  split
  · rename_i h; exact ⟨Or.inl h, fun _ _ _ => rfl, fun _ _ _ _ _ => rfl⟩
  · split
    · refine ⟨Or.inl (by rw [upd3_s]; decide), fun b' k' h => ?_, fun f i j f1 f2 => ?_⟩
      · rw [upd3_n (by omega), upd3_f (by decide)]
      · rw [upd3_f f2, upd3_f f1]
    · rename_i h; exact ⟨Or.inr h, fun _ _ _ => rfl, fun _ _ _ _ _ => rfl⟩
theorem rel_close {κ μ : gMem} {b : Nat} (hb : b < 6) (h : Rel κ (gIt mEnd2 (12 * b) μ)) : ∀ i, i ≤ 12 → Rel (gIt (sClose1 b (κ 7 0 6)) i κ) (gIt mEnd2 (12 * b + i) μ) ∧ (∀ k, k < i → dn2 (gIt (sClose1 b (κ 7 0 6)) i κ) (κ 7 0 6) b k) ∧ (∀ b' k', b' ≠ b → gIt (sClose1 b (κ 7 0 6)) i κ 14 b' k' = κ 14 b' k') ∧ (∀ f i' j, f ≠ 1 → f ≠ 14 → gIt (sClose1 b (κ 7 0 6)) i κ f i' j = κ f i' j)
  | 0, _ => ⟨h, fun k hk => absurd hk (by omega), fun _ _ _ => rfl, fun _ _ _ _ _ => rfl⟩
  | i + 1, hi => by
    obtain ⟨g1, g2, g3, g4⟩ := rel_close hb h i (by omega)
    have e6 : gIt (sClose1 b (κ 7 0 6)) i κ 7 0 6 = κ 7 0 6 := g4 _ _ _ (by decide) (by decide)
    have s := rel_close1 g1 hb (show i < 12 by omega)
    rw [e6] at s
    obtain ⟨d1, d2, d3⟩ := sClose1_dn (gIt (sClose1 b (κ 7 0 6)) i κ) (κ 7 0 6) b i
    refine ⟨s, fun k hk => ?_, fun b' k' hb' => (d2 b' k' (by omega)).trans (g3 b' k' hb'), fun f i' j f1 f2 => (d3 f i' j f1 f2).trans (g4 f i' j f1 f2)⟩
    by_cases e : k = i
    · rw [e]; exact d1
    · have := g2 k (by omega)
      show dn2 (sClose1 b (κ 7 0 6) i (gIt (sClose1 b (κ 7 0 6)) i κ)) (κ 7 0 6) b k
      rw [dn2, d2 b k (by omega), d3 6 _ 1 (by decide) (by decide)]; exact this
theorem gIt_s (F : Nat → gMem → gMem) (n : Nat) (κ : gMem) : gIt F (n + 1) κ = F n (gIt F n κ) := rfl
theorem rel_closes {κ μ : gMem} (h : Rel κ μ) : ∀ b, b ≤ 6 → Rel (gIt (fun b => sClose b (κ 7 0 6)) b κ) (gIt mEnd2 (12 * b) μ) ∧ (∀ b' k, b' < b → k < 12 → dn2 (gIt (fun b => sClose b (κ 7 0 6)) b κ) (κ 7 0 6) b' k) ∧ (∀ f i' j, f ≠ 1 → f ≠ 14 → gIt (fun b => sClose b (κ 7 0 6)) b κ f i' j = κ f i' j)
  | 0, _ => ⟨h, fun b' k hb' => absurd hb' (by omega), fun _ _ _ _ _ => rfl⟩
  | b + 1, hb => by
    obtain ⟨g1, g2, g3⟩ := rel_closes h b (by omega)
    have e6 : gIt (fun b => sClose b (κ 7 0 6)) b κ 7 0 6 = κ 7 0 6 := g3 _ _ _ (by decide) (by decide)
    have s := rel_close (show b < 6 by omega) g1 12 (Nat.le_refl _)
    rw [e6] at s
    obtain ⟨s1, s2, s3, s4⟩ := s
    have e12 : 12 * (b + 1) = 12 * b + 12 := by omega
    have es : gIt (fun b => sClose b (κ 7 0 6)) (b + 1) κ = gIt (sClose1 b (κ 7 0 6)) 12 (gIt (fun b => sClose b (κ 7 0 6)) b κ) := gIt_s _ _ _
    rw [es, e12]
    refine ⟨s1, fun b' k hb' hk => ?_, fun f i' j f1 f2 => (s4 f i' j f1 f2).trans (g3 f i' j f1 f2)⟩
    by_cases e : b' = b
    · rw [e]; exact s2 k hk
    · have := g2 b' k (by omega) hk
      show dn2 (gIt (sClose1 b (κ 7 0 6)) 12 (gIt (fun b => sClose b (κ 7 0 6)) b κ)) (κ 7 0 6) b' k
      rw [dn2, s3 b' k e, s4 6 _ 1 (by decide) (by decide)]; exact this
/-- time goes on -/
theorem rel_tick {κ μ : gMem} {T : Nat} (h : Rel κ μ) (hT : κ 7 0 6 = nI T) (hT2 : T + 1 ≤ 10000) (d1 : ∀ r, r < tN (κ 7 0 4) → dn1 κ (nI T) r) (d2 : ∀ b k, b < 6 → k < 12 → dn2 κ (nI T) b k) : Rel (upd3 κ 7 0 6 (nI (T + 1))) (upd3 μ 8 0 0 (nI (T + 1))) := by
  have eT : tN (κ 7 0 6) = T := by rw [hT, tN_nI (by omega)]
  obtain ⟨h1, h2, h3, h4, h5, h6, h7, h8⟩ := h
  have t6 : upd3 κ 7 0 6 (nI (T + 1)) 7 0 6 = nI (T + 1) := upd3_s
  have t6' : tN (upd3 κ 7 0 6 (nI (T + 1)) 7 0 6) = T + 1 := by rw [t6, tN_nI (by omega)]
  refine ⟨⟨?_, ?_, h1.2.2.1, h1.2.2.2⟩, fun j hj => (h2 j hj).to rfl rfl rfl rfl rfl rfl rfl (Nat.le_refl _), h3, fun j hj => (h4 j hj).to rfl rfl rfl (fun _ => ⟨rfl, rfl⟩), h5, fun b k hb hk => ?_, fun r hr => ?_, fun r x y => (h8 r x y).to rfl rfl (fun _ _ => rfl) (fun _ _ => rfl)⟩
  · rw [t6, upd3_s]
  · rw [t6]; exact ixL.nI (by omega) (by decide)
  · rcases h6 b k hb hk with w | ⟨w1, w2, w3, w4, w5, w6, t, w7, w8, w9, w10⟩
    · exact Or.inl w
    · refine Or.inr ⟨w1, w2, w3, w4, w5, w6, t, w7, ?_, w9, w10⟩
      rw [t6']
      rw [eT] at w8
      rcases d2 b k hb hk with d | d
      · rw [w1] at d; exact absurd d (nI_pos (by omega))
      · have : t ≠ T := fun z => d (by rw [w7, z]; exact Int32.le_refl _)
        omega
  · obtain ⟨a1, a2, a3⟩ := h7 r hr
    refine ⟨a1, ?_, a3.to rfl rfl (fun _ => rfl) (fun _ => rfl) (fun _ _ => rfl) rfl rfl⟩
    rcases a2 with ⟨y1, y2, y3, y4, t, y5, y6, y7, y8, y9⟩ | y
    · refine Or.inl ⟨y1, y2, y3, y4, t, y5, y6, ?_, y8, y9⟩
      rw [t6']
      rw [eT] at y7
      have : t + 4 ≠ T := fun z => d1 r hr y1 (by rw [y6, z]; exact Int32.le_refl _)
      omega
    · exact Or.inr y
theorem rel_fin {κ μ : gMem} {T : Nat} (h : Rel κ μ) (hT : κ 7 0 6 = nI T) (hT2 : T + 1 ≤ 10000) : Rel (upd3 (sEnd κ (nI T)) 7 0 6 (nI (T + 1))) (mEnds (tN (μ 8 0 16)) μ) := by
  obtain ⟨g1, g2⟩ := rel_end1_it h _ (Nat.le_refl _)
  have m0 : gIt mEnd1 (tN (κ 7 0 4)) μ 8 0 0 = μ 8 0 0 := gIt_keep (fun _ _ => mEnd1_keep (by decide) (by decide) (by decide) (by decide) (by decide) (by omega)) _ _
  have m16 : gIt mEnd1 (tN (κ 7 0 4)) μ 8 0 16 = μ 8 0 16 := gIt_keep (fun _ _ => mEnd1_keep (by decide) (by decide) (by decide) (by decide) (by decide) (by omega)) _ _
  have e6 : gIt (sEnd1 (κ 7 0 6)) (tN (κ 7 0 4)) κ 7 0 6 = κ 7 0 6 := by rw [g1.1.1, m0, ← h.1.1]
  have e4 : gIt (sEnd1 (κ 7 0 6)) (tN (κ 7 0 4)) κ 7 0 4 = κ 7 0 4 := by rw [g1.1.2.2.2.1, m16, ← h.1.2.2.2.1]
  obtain ⟨s1, s2, s3⟩ := rel_closes g1 6 (Nat.le_refl _)
  rw [e6] at s1 s2 s3
  have n0 : gIt mEnd2 72 (gIt mEnd1 (tN (κ 7 0 4)) μ) 8 0 0 = μ 8 0 0 := (gIt_keep (fun _ _ => mEnd2_keep (by decide) (by decide) (by decide)) _ _).trans m0
  have eE : sEnd κ (nI T) = gIt (fun b => sClose b (κ 7 0 6)) 6 (gIt (sEnd1 (κ 7 0 6)) (tN (κ 7 0 4)) κ) := by rw [sEnd, hT]
  have eM : mEnds (tN (μ 8 0 16)) μ = upd3 (gIt mEnd2 72 (gIt mEnd1 (tN (κ 7 0 4)) μ)) 8 0 0 (nI (T + 1)) := by
    rw [mEnds, ← h.1.2.2.2.1, n0, ← h.1.1, hT]; exact congrArg _ (nI_1 T)
  rw [eE, eM]
  have s4 := s3 7 0 4 (by decide) (by decide)
  have s6 := s3 7 0 6 (by decide) (by decide)
  refine rel_tick s1 (by rw [s6, e6]; exact hT) hT2 (fun r hr => ?_) (fun b k hb hk => by rw [← hT]; exact s2 b k hb hk)
  rw [s4, e4] at hr
  have := g2 r hr
  rw [dn1, s3 3 r 3 (by decide) (by decide), s3 3 r 4 (by decide) (by decide), ← hT]; exact this
theorem gIt_id {F : Nat → gMem → gMem} {κ : gMem} : ∀ n, (∀ k, k < n → F k κ = κ) → gIt F n κ = κ
  | 0, _ => rfl
  | n + 1, h => by
    show F n (gIt F n κ) = κ
    rw [gIt_id n (fun k hk => h k (by omega))]; exact h n (by omega)
/-- nothing waits: nothing ends -/
theorem sEnd_idle {κ μ : gMem} {T : Nat} (h : Rel κ μ) (hT : κ 7 0 6 = nI T) (hT2 : T ≤ 10000) (hb : κ 7 0 7 < nI T) : sEnd κ (nI T) = κ := by
  have eT : tN (κ 7 0 6) = T := by rw [hT, tN_nI (by omega)]
  have e1 : gIt (sEnd1 (nI T)) (tN (κ 7 0 4)) κ = κ := gIt_id _ (fun r hr => by
    rw [sEnd1, sOpen]
    rcases (h.rd hr).2.1 with ⟨y1, y2, y3, y4, t, y5, y6, y7, y8, y9⟩ | y
    · rw [eT] at y7
      have := i32_le_lt y9 hb
      have := (nI_ltI (show t + 4 < 2 ^ 31 by omega) (show T < 2 ^ 31 by omega)).mp this
      omega
    · rw [if_neg (fun z => y.1 (Or.inl z)), if_neg (fun z => y.1 (Or.inr z)), if_pos rfl])
  rw [sEnd, e1]
  refine gIt_id _ (fun b hb' => gIt_id _ (fun k hk => ?_))
  rw [sClose1]
  rcases h.2.2.2.2.2.1 b k hb' hk with ⟨w1, w2, w3⟩ | ⟨w1, w2, w3, w4, w5, w6, t, w7, w8, w9, w10⟩
  · rw [if_pos (show κ 14 b k < 0 by rw [w1]; decide)]
  · rw [eT] at w8
    have := i32_le_lt w10 hb
    have := (nI_ltI (show t < 2 ^ 31 by omega) (show T < 2 ^ 31 by omega)).mp this
    omega
theorem gIt_front {F : gMem → gMem} : ∀ n κ, gIt (fun _ => F) (n + 1) κ = gIt (fun _ => F) n (F κ)
  | 0, _ => rfl
  | n + 1, κ => by
    show F (gIt (fun _ => F) (n + 1) κ) = F (gIt (fun _ => F) n (F κ))
    rw [gIt_front n κ]
/-- one tick, the clock told apart -/
theorem rel_step {κ μ : gMem} {T : Nat} (h : Rel (upd3 κ 7 0 6 (nI T)) μ) (hT2 : T + 1 ≤ 10000) : Rel (upd3 (sEnd κ (nI T)) 7 0 6 (nI (T + 1))) (mEnds (tN (μ 8 0 16)) μ) := by
  have r := rel_fin h upd3_s hT2
  have ha : AE (sEnd κ (nI T)) (sEnd (upd3 κ 7 0 6 (nI T)) (nI T)) := AE.fin (fun f i k hf => upd3_n (by omega)) _
  refine r.cong (fun f i k _ _ => ?_) mEq.rf
  by_cases e : f = 7 ∧ i = 0 ∧ k = 6
  · obtain ⟨rfl, rfl, rfl⟩ := e; rw [upd3_s, upd3_s]
  · rw [upd3_n e, upd3_n e, ha f i k (by omega)]
theorem upd3_u {κ : gMem} {f i k : Nat} {x y : Int32} : upd3 (upd3 κ f i k x) f i k y = upd3 κ f i k y := by
  funext g j l
  by_cases e : g = f ∧ j = i ∧ l = k
  · obtain ⟨rfl, rfl, rfl⟩ := e; rw [upd3_s, upd3_s]
  · rw [upd3_n e, upd3_n e, upd3_n e]
theorem rel_idle {κ : gMem} : ∀ (D T : Nat) (μ : gMem), Rel (upd3 κ 7 0 6 (nI T)) μ → T + D ≤ 10000 → κ 7 0 7 < nI T → Rel (upd3 κ 7 0 6 (nI (T + D))) (gIt (fun _ κ => mEnds (tN (κ 8 0 16)) κ) D μ)
  | 0, T, μ, h, _, _ => h
  | D + 1, T, μ, h, hT, hb => by
    rw [gIt_front]
    have r := rel_fin h upd3_s (by omega)
    rw [sEnd_idle h upd3_s (by omega) (by rw [upd3_k (by decide)]; exact hb), upd3_u] at r
    have q := rel_idle D (T + 1) _ r (by omega) (Int32.lt_trans hb ((nI_ltI (by omega) (by omega)).mpr (by omega)))
    rw [show T + (D + 1) = T + 1 + D by omega]
    exact q
theorem rel_advI : ∀ (n D T : Nat) (κ μ : gMem), Rel (upd3 κ 7 0 6 (nI T)) μ → T + D ≤ 10000 → D < n → Rel (upd3 (sAdvI n κ (nI T) (nI (T + D))) 7 0 6 (nI (T + D))) (gIt (fun _ κ => mEnds (tN (κ 8 0 16)) κ) D μ)
  | 0, D, _, _, _, _, _, hD => absurd hD (by omega)
  | n + 1, D, T, κ, μ, h, hT, hD => by
    rw [sAdvI]
    by_cases h0 : D = 0
    · subst h0
      rw [if_pos (show nI (T + 0) ≤ nI T from Int32.le_refl _)]; exact h
    · obtain ⟨D', rfl⟩ : ∃ D', D = D' + 1 := ⟨D - 1, by omega⟩
      have hl : ¬ nI (T + (D' + 1)) ≤ nI T := by
        rw [Int32.not_le]
        exact (nI_ltI (by omega) (by omega)).mpr (by omega)
      rw [if_neg hl]
      by_cases hb : κ 7 0 7 < nI T
      · rw [if_pos hb]
        exact rel_idle (D' + 1) T μ h hT hb
      · rw [if_neg hb, gIt_front]
        have r := rel_step h (by omega)
        have q := rel_advI n D' (T + 1) _ _ r (by omega) (by omega)
        have e1 : nI T + 1 = nI (T + 1) := nI_1 T
        rw [e1, show T + (D' + 1) = T + 1 + D' by omega]
        exact q
theorem nI_leI' {a b : Nat} (ha : a < 2 ^ 31) (hb : b < 2 ^ 31) : nI a ≤ nI b ↔ a ≤ b := by
  rw [Int32.le_iff_toInt_le, nI_toInt ha, nI_toInt hb]; omega
theorem rel_advance {κ μ : gMem} {a : Int32} (h : Rel κ μ) (ht : sAdvT κ a = 0) : Rel (sAdvK κ a) (mAdvK μ (tN a)) := by
  have t1 : ¬ mIn a 1 100 = 0 := fun z => by rw [sAdvT, if_pos z] at ht; exact absurd ht (by decide)
  rw [sAdvT, if_neg t1] at ht
  have t2 : κ 7 0 6 + a ≤ 10000 := Classical.byContradiction fun z => by rw [if_neg z] at ht; exact absurd ht (by decide)
  obtain ⟨ea, la, -⟩ := mIn_rng' (m := 100) t1 (by decide) (by decide)
  have hT := h.1.2.1
  have hT2 := hT.2
  have eT : κ 7 0 6 + a = nI (tN (κ 7 0 6) + tN a) := by
    have := time_add (n := tN a) hT
    rw [← ea] at this; exact this
  have hle : tN (κ 7 0 6) + tN a ≤ 10000 := by
    rw [eT] at t2
    have := (nI_leI' (by omega) (show 10000 < 2 ^ 31 by decide)).mp t2
    exact this
  have h0 : Rel (upd3 κ 7 0 6 (nI (tN (κ 7 0 6)))) μ := h.cong (fun f i k _ _ => by
    by_cases e : f = 7 ∧ i = 0 ∧ k = 6
    · obtain ⟨rfl, rfl, rfl⟩ := e; rw [upd3_s]; exact hT.1.symm
    · rw [upd3_n e]) mEq.rf
  have q := rel_advI 101 (tN a) (tN (κ 7 0 6)) κ μ h0 hle (by omega)
  rw [sAdvK, mAdvK, eT]
  have e6 : sAdvI 101 κ (κ 7 0 6) (nI (tN (κ 7 0 6) + tN a)) = sAdvI 101 κ (nI (tN (κ 7 0 6))) (nI (tN (κ 7 0 6) + tN a)) := by rw [← hT.1]
  rw [e6]; exact q
