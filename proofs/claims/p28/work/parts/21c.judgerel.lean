/-! ===== judging keeps the ties ===== -/
def rQ0 (κ μ : gMem) (r : Nat) : Prop := (κ 3 r 9 = -1 ∧ ∀ k, k < 12 → μ 45 0 (12 * r + k) = -1) ∨
  (κ 3 r 9 = nI r ∧ κ 3 r 3 ≠ 0 ∧ κ 2 r 0 = μ 42 0 r ∧ ixL (κ 2 r 0) 6 ∧ rSm κ μ r)
/-- all ties, and at r those that judging asks -/
def RelX (r : Nat) (κ μ : gMem) : Prop := rT κ μ ∧ (∀ k, k < 6 → rP κ μ k) ∧ (∀ k, k < 12 → rS κ μ k) ∧ (∀ k, k < 12 → rC κ k) ∧ (∀ b, b < 6 → rB κ μ b) ∧ (∀ b k, b < 6 → k < 12 → rW κ μ b k) ∧ (∀ r', r' < tN (κ 7 0 4) → r' ≠ r → rR κ μ r' ∧ rH κ μ r' ∧ rQ κ μ r') ∧ (∀ r', tN (κ 7 0 4) ≤ r' → r' < 80 → rN μ r') ∧ r < tN (κ 7 0 4) ∧ rR κ μ r ∧ rH κ μ r ∧ rQ0 κ μ r
theorem rQ.q0 {κ μ : gMem} {r : Nat} (h : rQ κ μ r) : rQ0 κ μ r := by
  rcases h with ⟨a1, a2, a3⟩ | ⟨a1, a2, a3, a4, a5, a6⟩
  · exact Or.inl ⟨a1, a3⟩
  · exact Or.inr ⟨a1, a2, a3, a4, a5⟩
theorem Rel.x {κ μ : gMem} (h : Rel κ μ) {r : Nat} (hr : r < tN (κ 7 0 4)) : RelX r κ μ := by
  obtain ⟨h1, h2, h3, h4, h5, h6, h7, h8⟩ := h
  exact ⟨h1, h2, h3, h4, h5, h6, fun r' a _ => h7 r' a, h8, hr, (h7 r hr).1, (h7 r hr).2.1, (h7 r hr).2.2.q0⟩
theorem RelX.out {κ μ κ' μ' : gMem} {r : Nat} {st : Int32} (h : RelX r κ μ) (hst : st = 2 ∨ st = 3)
    (s1 : κ' 3 r 3 = st) (s2 : μ' 39 0 r = st) (s3 : κ' 3 r 7 = 0) (s4 : ∀ b, b < 6 → μ' 43 0 (6 * r + b) = 0)
    (c1 : ∀ k, κ' 5 k 3 = μ' 26 0 k ∨ (κ' 5 k 3 = κ 5 k 3 ∧ μ' 26 0 k = μ 26 0 k)) (c2 : ∀ k, k < 12 → κ' 5 k 4 = μ' 27 0 k) (c3 : ∀ b, b < 6 → κ' 1 b 0 = μ' 30 0 b) (c4 : κ' 7 0 5 = μ' 8 0 11)
    (c5 : ∀ k, k < 12 → rC κ' k)
    (k1 : ∀ f i k, f ≠ 1 → f ≠ 5 ∨ (k ≠ 3 ∧ k ≠ 4) → f ≠ 7 ∨ k ≠ 5 → f ≠ 3 ∨ i ≠ r ∨ (k ≠ 3 ∧ k ≠ 7 ∧ k ≠ 8) → κ' f i k = κ f i k)
    (k2 : ∀ f k, f ≠ 26 → f ≠ 27 → f ≠ 30 → f ≠ 39 → f ≠ 43 → f ≠ 8 ∨ k ≠ 11 → μ' f 0 k = μ f 0 k)
    (k3 : ∀ k, k ≠ r → μ' 39 0 k = μ 39 0 k) (k4 : ∀ j, j < 6 * r ∨ 6 * r + 6 ≤ j → μ' 43 0 j = μ 43 0 j) : Rel κ' μ' := by
  obtain ⟨h1, h2, h3, h4, h5, h6, h7, h8, h9, r1, r2, r3⟩ := h
  have e4 : κ' 7 0 4 = κ 7 0 4 := k1 _ _ _ (by decide) (by omega) (by omega) (by omega)
  have e6 : κ' 7 0 6 = κ 7 0 6 := k1 _ _ _ (by decide) (by omega) (by omega) (by omega)
  have e7 : κ 7 0 7 ≤ κ' 7 0 7 := by rw [k1 7 0 7 (by decide) (by omega) (by omega) (by omega)]; exact Int32.le_refl _
  refine ⟨⟨?_, ?_, c4, ?_, ?_⟩, fun k hk => ?_, fun k hk => ?_, c5, c3, fun b k hb hk => ?_, fun r' hr' => ?_, fun r' a b => ?_⟩
  · rw [e6, k2 8 0 (by decide) (by decide) (by decide) (by decide) (by decide) (by omega)]; exact h1.1
  · rw [e6]; exact h1.2.1
  · rw [e4, k2 8 16 (by decide) (by decide) (by decide) (by decide) (by decide) (by omega)]; exact h1.2.2.2.1
  · rw [e4]; exact h1.2.2.2.2
  · have k' : ∀ j, κ' 4 k j = κ 4 k j := fun j => k1 4 k j (by decide) (by omega) (by omega) (by omega)
    have m' : ∀ f, 20 ≤ f → f < 26 → μ' f 0 k = μ f 0 k := fun f a b => k2 f k (by omega) (by omega) (by omega) (by omega) (by omega) (by omega)
    exact (h2 k hk).to (k' 1) (k' 2) (k' 3) (m' 21 (by decide) (by decide)) (m' 22 (by decide) (by decide)) (m' 23 (by decide) (by decide)) (m' 24 (by decide) (by decide)) (by rw [e4]; exact Nat.le_refl _)
  · obtain ⟨a1, a2, a3, a4, a5, a6, a7, a8⟩ := h3 k hk
    have k' : ∀ j, j ≠ 3 → j ≠ 4 → κ' 5 k j = κ 5 k j := fun j i3 i4 => k1 5 k j (by decide) (by omega) (by omega) (by omega)
    have m' : ∀ f, f = 25 ∨ f = 28 ∨ f = 29 → μ' f 0 k = μ f 0 k := fun f a => k2 f k (by omega) (by omega) (by omega) (by omega) (by omega) (by omega)
    refine ⟨by rw [k' 1 (by decide) (by decide), m' 25 (by omega)]; exact a1, by rw [k' 1 (by decide) (by decide)]; exact a2, by rw [k' 2 (by decide) (by decide), m' 28 (by omega)]; exact a3, by rw [k' 2 (by decide) (by decide)]; exact a4, by rw [k' 2 (by decide) (by decide)]; exact a5, ?_, c2 k hk, by rw [k' 6 (by decide) (by decide), m' 29 (by omega)]; exact a8⟩
    rcases c1 k with c | ⟨ca, cb⟩
    · exact c
    · rw [ca, cb]; exact a6
  · exact (h6 b k hb hk).to (k1 _ _ _ (by decide) (by omega) (by omega) (by omega)) (fun j => k1 _ _ _ (by decide) (by omega) (by omega) (by omega)) (fun f f1 f2 => k2 _ _ (by omega) (by omega) (by omega) (by omega) (by omega) (by omega)) e6 e7
  · rw [e4] at hr'
    have q45 : ∀ k, k < 12 → μ' 45 0 (12 * r' + k) = μ 45 0 (12 * r' + k) := fun k _ => k2 _ _ (by decide) (by decide) (by decide) (by decide) (by decide) (by omega)
    have m' : ∀ f, f = 37 ∨ f = 38 ∨ f = 40 ∨ f = 41 ∨ f = 42 ∨ f = 44 → μ' f 0 r' = μ f 0 r' := fun f a => k2 f r' (by omega) (by omega) (by omega) (by omega) (by omega) (by omega)
    have k2' : ∀ j, κ' 2 r' j = κ 2 r' j := fun j => k1 2 r' j (by decide) (by omega) (by omega) (by omega)
    have k16 : ∀ j, κ' 16 r' j = κ 16 r' j := fun j => k1 16 r' j (by decide) (by omega) (by omega) (by omega)
    by_cases e : r' = r
    · subst e
      have k' : ∀ j, j ≠ 3 → j ≠ 7 → j ≠ 8 → κ' 3 r' j = κ 3 r' j := fun j i1 i2 i3 => k1 3 r' j (by decide) (by omega) (by omega) (by omega)
      obtain ⟨a1, a2, a3, a4, a5, a6, a7, a8⟩ := r1
      refine ⟨⟨?_, ?_, ?_, ?_, ?_, ?_, ?_, ?_⟩, Or.inr ⟨?_, s3, s4⟩, ?_⟩
      · rw [k' 0 (by decide) (by decide) (by decide), m' 37 (by omega)]; exact a1
      · rw [k' 1 (by decide) (by decide) (by decide), m' 38 (by omega)]; exact a2
      · rw [k' 1 (by decide) (by decide) (by decide)]; exact a3
      · rw [k' 2 (by decide) (by decide) (by decide), m' 40 (by omega)]; exact a4
      · rw [s1, s2]
      · rw [s1]; rcases hst with rfl | rfl <;> exact ixL.nI (j := _) (by decide) (by decide)
      · rw [k' 6 (by decide) (by decide) (by decide), m' 44 (by omega)]; exact a7
      · rw [k' 0 (by decide) (by decide) (by decide)]; exact a8
      · rw [s1]; rcases hst with rfl | rfl <;> decide
      · rcases r3 with ⟨b1, b2⟩ | ⟨b1, b2, b3, b4, b5⟩
        · left
          refine ⟨by rw [k' 9 (by decide) (by decide) (by decide)]; exact b1, ?_, fun k hk => by rw [q45 k hk]; exact b2 k hk⟩
          rw [s1]; rcases hst with rfl | rfl <;> decide
        · right
          refine ⟨by rw [k' 9 (by decide) (by decide) (by decide)]; exact b1, ?_, by rw [k2' 0, m' 42 (by omega)]; exact b3, by rw [k2' 0]; exact b4, b5.to (k2' 2) (k2' 3) k16 q45, fun z => ?_⟩
          · rw [s1]; rcases hst with rfl | rfl <;> decide
          · rw [s1] at z; rcases hst with rfl | rfl <;> exact absurd z (by decide)
    · obtain ⟨a1, a2, a3⟩ := h7 r' hr' e
      have k' : ∀ j, κ' 3 r' j = κ 3 r' j := fun j => k1 3 r' j (by decide) (by omega) (by omega) (by omega)
      refine ⟨a1.to (fun j _ _ _ _ => k' j) (fun f f1 f2 => ?_) (m' 44 (by omega)), a2.to (k' 3) (k' 4) (k' 7) (k' 8) (fun b _ => k1 15 r' b (by decide) (by omega) (by omega) (by omega)) (fun b hb => k4 _ (by omega)) (m' 44 (by omega)) (m' 41 (by omega)) e6 e7, a3.to (k' 3) (k' 9) k2' k16 q45 (m' 42 (by omega)) (m' 37 (by omega))⟩
      by_cases e39 : f = 39
      · subst e39; exact k3 r' e
      · exact m' f (by omega)
  · rw [e4] at a
    have m' : ∀ f, f = 40 ∨ f = 44 → μ' f 0 r' = μ f 0 r' := fun f a => k2 f r' (by omega) (by omega) (by omega) (by omega) (by omega) (by omega)
    exact (h8 r' a b).to (m' 40 (by omega)) (m' 44 (by omega)) (fun b' hb => k4 _ (by omega)) (fun k _ => k2 _ _ (by decide) (by decide) (by decide) (by decide) (by decide) (by omega))
/-- what still waits holds what its users paid -/
theorem rH.opn {κ μ : gMem} {r : Nat} (h : rH κ μ r) (ho : κ 3 r 3 = 0 ∨ κ 3 r 3 = 1) : (∀ b, b < 6 → κ 15 r b = μ 43 0 (6 * r + b) ∧ rU κ μ r b) ∧ κ 3 r 7 = mHeld μ r 6 ∧ κ 3 r 8 = 0 := by
  rcases h with h | h
  · exact ⟨h.2.1, h.2.2.1, h.2.2.2.1⟩
  · exact absurd ho h.1
theorem rel_stand {κ μ : gMem} {r : Nat} (h : RelX r κ μ) (ho : κ 3 r 3 = 0 ∨ κ 3 r 3 = 1) : Rel (sStand κ r) (mStands μ r) := by
  obtain ⟨a1, a2, a3, a4⟩ := sStand_at κ r
  obtain ⟨b1, b2, b3, b4, b5, b6⟩ := mStands_at μ r
  have h' := h
  obtain ⟨h1, h2, h3, h4, h5, h6, h7, h8, h9, r1, r2, r3⟩ := h'
  obtain ⟨o1, o2, o3⟩ := r2.opn ho
  refine h.out (st := 2) (Or.inl rfl) a2 b4 a3 b2 (fun k => Or.inr ⟨a4 _ _ _ (by omega) (by omega), b6 _ _ _ (by decide) (by decide) (by decide)⟩) (fun k hk => ?_) (fun b hb => ?_) ?_ (fun k hk => ?_) (fun f i k f1 f2 f3 f4 => a4 _ _ _ (by omega) (by omega)) (fun f k f1 f2 f3 f4 f5 f6 => b6 _ _ _ f2 f5 f4) b5 b3
  · rw [a1, b1, r1.1, o2, (h3 k hk).2.2.2.2.2.2.1]
  · rw [a4 _ _ _ (by omega) (by omega), b6 _ _ _ (by decide) (by decide) (by decide)]; exact h5 b hb
  · rw [a4 _ _ _ (by omega) (by omega), b6 _ _ _ (by decide) (by decide) (by decide)]; exact h1.2.2.1
  · exact (h4 k hk).to (a4 _ _ _ (by omega) (by omega)) (a4 _ _ _ (by omega) (by omega)) (a4 _ _ _ (by omega) (by omega)) (fun r' => ⟨a4 _ _ _ (by omega) (by omega), a4 _ _ _ (by omega) (by omega)⟩)
theorem rel_stand4 {κ μ : gMem} {r : Nat} (h : RelX r κ μ) (ho : κ 3 r 3 = 0 ∨ κ 3 r 3 = 1) : Rel (sStand (upd3 κ 5 (tN (κ 3 r 0)) 4 (κ 5 (tN (κ 3 r 0)) 4 + 4)) r) (upd3 (mStands μ r) 27 0 (tN (mStands μ r 37 0 r)) (mStands μ r 27 0 (tN (mStands μ r 37 0 r)) + 4)) := by
  obtain ⟨a1, a2, a3, a4⟩ := sStand_at (upd3 κ 5 (tN (κ 3 r 0)) 4 (κ 5 (tN (κ 3 r 0)) 4 + 4)) r
  obtain ⟨b1, b2, b3, b4, b5, b6⟩ := mStands_at μ r
  have h' := h
  obtain ⟨h1, h2, h3, h4, h5, h6, h7, h8, h9, r1, r2, r3⟩ := h'
  obtain ⟨o1, o2, o3⟩ := r2.opn ho
  have e37 : mStands μ r 37 0 r = μ 37 0 r := b6 _ _ _ (by decide) (by decide) (by decide)
  have a4 : ∀ f i k, f ≠ 5 ∨ k ≠ 4 → f ≠ 3 ∨ i ≠ r ∨ (k ≠ 3 ∧ k ≠ 7) → sStand (upd3 κ 5 (tN (κ 3 r 0)) 4 (κ 5 (tN (κ 3 r 0)) 4 + 4)) r f i k = κ f i k := fun f i k f1 f2 => (a4 f i k f1 f2).trans (upd3_n (by omega))
  have b6 : ∀ f i k, f ≠ 27 → f ≠ 43 → f ≠ 39 → upd3 (mStands μ r) 27 0 (tN (mStands μ r 37 0 r)) (mStands μ r 27 0 (tN (mStands μ r 37 0 r)) + 4) f i k = μ f i k := fun f i k f1 f2 f3 => (upd3_f f1).trans (b6 f i k f1 f2 f3)
  refine h.out (st := 2) (Or.inl rfl) a2 (by rw [upd3_f (by decide)]; exact b4) a3 (fun b hb => by rw [upd3_f (by decide)]; exact b2 b hb) (fun k => Or.inr ⟨a4 _ _ _ (by omega) (by omega), b6 _ _ _ (by decide) (by decide) (by decide)⟩) (fun k hk => ?_) (fun b hb => ?_) ?_ (fun k hk => ?_) (fun f i k f1 f2 f3 f4 => a4 _ _ _ (by omega) (by omega)) (fun f k f1 f2 f3 f4 f5 f6 => b6 _ _ _ f2 f5 f4) (fun k hk => by rw [upd3_f (by decide)]; exact b5 k hk) (fun k hk => by rw [upd3_f (by decide)]; exact b3 k hk)
  · rw [a1, e37, upd3_f (show 3 ≠ 5 by decide), upd3_f (show 3 ≠ 5 by decide), r1.1]
    by_cases e : k = tN (μ 37 0 r)
    · rw [if_pos e, ← e, upd3_s, upd3_s, b1, if_pos e, o2, ← (h3 k hk).2.2.2.2.2.2.1]
      grind
    · rw [if_neg e, upd3_n (fun z => e z.2.1), upd3_k e, b1, if_neg e]; exact (h3 k hk).2.2.2.2.2.2.1
  · rw [a4 _ _ _ (by omega) (by omega), b6 _ _ _ (by decide) (by decide) (by decide)]; exact h5 b hb
  · rw [a4 _ _ _ (by omega) (by omega), b6 _ _ _ (by decide) (by decide) (by decide)]; exact h1.2.2.1
  · exact (h4 k hk).to (a4 _ _ _ (by omega) (by omega)) (a4 _ _ _ (by omega) (by omega)) (a4 _ _ _ (by omega) (by omega)) (fun r' => ⟨a4 _ _ _ (by omega) (by omega), a4 _ _ _ (by omega) (by omega)⟩)
theorem sCuts_one {κ κ' : gMem} {s r : Nat} {x : Int32} (h5 : κ' 5 s 5 = κ 5 s 5) (h0 : ∀ r, κ' 3 r 0 = κ 3 r 0) (h8 : ∀ r', r' ≠ r → κ' 3 r' 8 = κ 3 r' 8) (hz : κ 3 r 8 = 0) (hx : κ' 3 r 8 = x) : ∀ n, sCuts κ' s n = if r < n ∧ tN (κ 3 r 0) = s then sCuts κ s n - x else sCuts κ s n
  | 0 => by rw [if_neg (by omega), sCuts, sCuts, h5]
  | n + 1 => by
    rw [sCuts, sCuts, h0, sCuts_one h5 h0 h8 hz hx n]
    by_cases e : n = r
    · subst e
      rw [if_neg (show ¬ (n < n ∧ tN (κ 3 n 0) = s) by omega), hx, hz]
      by_cases es : tN (κ 3 n 0) = s
      · rw [if_pos es, if_pos es, if_pos ⟨by omega, es⟩, Int32.sub_zero]
      · rw [if_neg es, if_neg es, if_neg (fun z => es z.2)]
    · rw [h8 n e]
      have hq : (r < n + 1 ∧ tN (κ 3 r 0) = s) ↔ (r < n ∧ tN (κ 3 r 0) = s) := ⟨fun z => ⟨by omega, z.2⟩, fun z => ⟨by omega, z.2⟩⟩
      simp only [hq]
      by_cases es : tN (κ 3 n 0) = s
      · rw [if_pos es, if_pos es]
        split
        · grind
        · rfl
      · rw [if_neg es, if_neg es]
theorem rel_lie {κ μ : gMem} {r : Nat} (h : RelX r κ μ) (ho : κ 3 r 3 = 0 ∨ κ 3 r 3 = 1) (hc : κ 2 r 0 = μ 42 0 r) : Rel (sLie κ r) (mLies μ r) := by
  obtain ⟨a1, a2, a3, a4, a5, a6, a7⟩ := sLie_at κ r
  obtain ⟨b1, b2, b3, b4, b5, b6, b7, b8⟩ := mLies_at μ r
  have h' := h
  obtain ⟨h1, h2, h3, h4, h5, h6, h7, h8, h9, r1, r2, r3⟩ := h'
  obtain ⟨o1, o2, o3⟩ := r2.opn ho
  have hs := r1.2.2.2.2.2.2.2
  have hS := h3 (tN (κ 3 r 0)) hs.2
  have hu := r1.2.2.2.2.2.2.1
  have ec : mCut μ r = sCut κ r := by
    rw [mCut, sCut, ← r1.1, ← hS.2.2.2.2.2.1, ← hS.2.2.1, ← hu, sMin]
    generalize κ 5 (tN (κ 3 r 0)) 3 = x
    generalize 4 * κ 5 (tN (κ 3 r 0)) 2 * (κ 3 r 6 + 1) = y
    by_cases l : x ≤ y
    · rw [if_pos l, if_neg (Int32.not_lt.mpr l)]
    · rw [if_neg l, if_pos (Int32.not_le.mp l)]
  rw [ec] at b1 b2 b7
  refine h.out (st := 3) (Or.inr rfl) a3 b5 a4 (fun b hb => ?_) (fun k => ?_) (fun k hk => ?_) (fun b hb => ?_) ?_ (fun k hk => ?_) (fun f i k f1 f2 f3 f4 => a7 _ _ _ f1 (by omega) (by omega) (by omega)) (fun f k f1 f2 f3 f4 f5 f6 => b8 _ _ _ f1 f3 f5 f4 f6) b6 b4
  · rw [b3 b hb]
    rcases (o1 b hb).2 with ⟨u1, u2⟩ | ⟨u1, u2⟩
    · rw [if_pos u1]
    · rw [if_neg (by rw [u1]; decide), ← (o1 b hb).1]; exact u2
  · rw [a1, b1, r1.1]
    by_cases e : k = tN (μ 37 0 r)
    · left
      rw [if_pos e, if_pos e, (h3 k (by rw [e, ← r1.1]; exact hs.2)).2.2.2.2.2.1]
    · rw [if_neg e, if_neg e]; exact Or.inr ⟨rfl, rfl⟩
  · rw [a7 _ _ _ (by decide) (by omega) (by omega) (by omega), b8 _ _ _ (by decide) (by decide) (by decide) (by decide) (by omega)]; exact (h3 k hk).2.2.2.2.2.2.1
  · rw [a2 b hb, b2 b hb, hc, h5 b hb, ← (o1 b hb).1]
    rcases (o1 b hb).2 with ⟨u1, u2⟩ | ⟨u1, u2⟩
    · have hz : ¬ κ 3 r 6 = 0 := by rw [hu]; exact mSize_ne hb u1
      have hp : ¬ κ 15 r b ≤ 0 := by
        obtain ⟨q, q1, q2, q3⟩ := u2
        rw [q3]
        intro z
        have := nI_le0 z (by omega)
        omega
      rw [if_pos u1, if_neg (show ¬ (κ 3 r 6 = 0 ∨ κ 15 r b ≤ 0) from fun z => z.elim hz hp), ← hu]
      generalize sCut κ r / 2 / κ 3 r 6 = w
      generalize (if b = tN (μ 42 0 r) then 4 + sCut κ r / 4 else 0) = w2
      grind
    · rw [if_neg (show ¬ bitB (μ 44 0 r) b = 1 by rw [u1]; decide), u2, if_pos (Or.inr (by decide))]
      generalize (if b = tN (μ 42 0 r) then 4 + sCut κ r / 4 else 0) = w2
      grind
  · rw [a6, b7, ← hu, h1.2.2.1]
    by_cases hz : κ 3 r 6 = 0
    · rw [if_pos hz, hz, Int32.mul_zero]
    · rw [if_neg hz]
  · have g := h4 k hk
    rw [rC] at g
    have e4 : sLie κ r 7 0 4 = κ 7 0 4 := a7 _ _ _ (by decide) (by omega) (by omega) (by omega)
    rw [rC, e4, a1, sCuts_one (κ := κ) (r := r) (x := sCut κ r) (a7 _ _ _ (by decide) (by omega) (by omega) (by omega)) (fun r' => a7 _ _ _ (by decide) (by omega) (by omega) (by omega)) (fun r' hr' => a7 _ _ _ (by decide) (by omega) (by omega) (by omega)) o3 a5, g]
    by_cases e : k = tN (κ 3 r 0)
    · rw [if_pos ⟨h9, e.symm⟩, if_pos e]
    · rw [if_neg (fun z => e z.2.symm), if_neg e]
