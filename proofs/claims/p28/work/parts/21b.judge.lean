/-! ===== judging: both sides in closed form ===== -/
theorem mStB_it (r : Nat) (μ : gMem) : ∀ n,
    (∀ k, gIt (mStB r) n μ 27 0 k = if k = tN (μ 37 0 r) then μ 27 0 k + mHeld μ r n else μ 27 0 k) ∧
    (∀ b, gIt (mStB r) n μ 43 0 (6 * r + b) = if b < n then 0 else μ 43 0 (6 * r + b)) ∧
    (∀ j, j < 6 * r ∨ 6 * r + n ≤ j → gIt (mStB r) n μ 43 0 j = μ 43 0 j) ∧
    (∀ f i k, f ≠ 27 → f ≠ 43 → gIt (mStB r) n μ f i k = μ f i k)
  | 0 => by
    refine ⟨fun k => ?_, fun b => ?_, fun j _ => rfl, fun f i k _ _ => rfl⟩
    · split
      · rw [mHeld, Int32.add_zero]; rfl
      · rfl
    · rw [if_neg (by omega)]; rfl
  | n + 1 => by
    obtain ⟨h1, h2, h3, h4⟩ := mStB_it r μ n
    have e37 : gIt (mStB r) n μ 37 0 r = μ 37 0 r := h4 _ _ _ (by decide) (by decide)
    have e43 : gIt (mStB r) n μ 43 0 (6 * r + n) = μ 43 0 (6 * r + n) := by rw [h2 n, if_neg (by omega)]
    have es : gIt (mStB r) (n + 1) μ = upd3 (upd3 (gIt (mStB r) n μ) 27 0 (tN (gIt (mStB r) n μ 37 0 r)) (gIt (mStB r) n μ 27 0 (tN (gIt (mStB r) n μ 37 0 r)) + gIt (mStB r) n μ 43 0 (6 * r + n))) 43 0 (6 * r + n) 0 := rfl
    rw [e37, e43] at es
    rw [es]
    refine ⟨fun k => ?_, fun b => ?_, fun j hj => ?_, fun f i k f1 f2 => ?_⟩
    · rw [upd3_f (by decide)]
      by_cases e : k = tN (μ 37 0 r)
      · subst e
        rw [upd3_s, if_pos rfl, h1, if_pos rfl, mHeld, Int32.add_assoc]
      · rw [upd3_k e, if_neg e, h1, if_neg e]
    · by_cases e : b = n
      · subst e
        rw [upd3_s, if_pos (by omega)]
      · rw [upd3_k (by omega), upd3_f (by decide), h2]
        by_cases l : b < n
        · rw [if_pos l, if_pos (by omega)]
        · rw [if_neg l, if_neg (by omega)]
    · rw [upd3_k (by omega), upd3_f (by decide)]
      exact h3 j (by omega)
    · rw [upd3_f f2, upd3_f f1]
      exact h4 f i k f1 f2
theorem mStands_at (μ : gMem) (r : Nat) :
    (∀ k, mStands μ r 27 0 k = if k = tN (μ 37 0 r) then μ 27 0 k + mHeld μ r 6 else μ 27 0 k) ∧
    (∀ b, b < 6 → mStands μ r 43 0 (6 * r + b) = 0) ∧
    (∀ j, j < 6 * r ∨ 6 * r + 6 ≤ j → mStands μ r 43 0 j = μ 43 0 j) ∧
    (mStands μ r 39 0 r = 2) ∧ (∀ k, k ≠ r → mStands μ r 39 0 k = μ 39 0 k) ∧
    (∀ f i k, f ≠ 27 → f ≠ 43 → f ≠ 39 → mStands μ r f i k = μ f i k) := by
  obtain ⟨h1, h2, h3, h4⟩ := mStB_it r (upd3 μ 39 0 r 2) 6
  refine ⟨fun k => ?_, fun b hb => ?_, fun j hj => ?_, ?_, fun k hk => ?_, fun f i k f1 f2 f3 => ?_⟩
  · rw [mStands, h1, upd3_f (by decide), upd3_f (by decide), mHeld_congr 6 (fun b _ => upd3_f (by decide))]
  · rw [mStands, h2, if_pos hb]
  · rw [mStands, h3 j hj, upd3_f (by decide)]
  · rw [mStands, h4 _ _ _ (by decide) (by decide), upd3_s]
  · rw [mStands, h4 _ _ _ (by decide) (by decide), upd3_k hk]
  · rw [mStands, h4 _ _ _ f1 f2, upd3_f f3]
theorem mPay_it (r : Nat) (u cut : Int32) (μ : gMem) : ∀ n,
    (∀ k, gIt (mPay r u cut) n μ 30 0 k = if k < n ∧ bitB u k = 1 then μ 30 0 k + (μ 43 0 (6 * r + k) + cut / 2 / mSize u 6) else μ 30 0 k) ∧
    (∀ b, gIt (mPay r u cut) n μ 43 0 (6 * r + b) = if b < n ∧ bitB u b = 1 then 0 else μ 43 0 (6 * r + b)) ∧
    (∀ j, j < 6 * r ∨ 6 * r + n ≤ j → gIt (mPay r u cut) n μ 43 0 j = μ 43 0 j) ∧
    (∀ f i k, f ≠ 30 → f ≠ 43 → gIt (mPay r u cut) n μ f i k = μ f i k)
  | 0 => ⟨fun k => by rw [if_neg (by omega)]; rfl, fun b => by rw [if_neg (by omega)]; rfl, fun j _ => rfl, fun f i k _ _ => rfl⟩
  | n + 1 => by
    obtain ⟨h1, h2, h3, h4⟩ := mPay_it r u cut μ n
    have e43 : gIt (mPay r u cut) n μ 43 0 (6 * r + n) = μ 43 0 (6 * r + n) := by rw [h2 n, if_neg (by omega)]
    have e30 : gIt (mPay r u cut) n μ 30 0 n = μ 30 0 n := by rw [h1 n, if_neg (by omega)]
    by_cases hb : bitB u n = 1
    · have e : gIt (mPay r u cut) (n + 1) μ = upd3 (upd3 (gIt (mPay r u cut) n μ) 30 0 n (gIt (mPay r u cut) n μ 30 0 n + (gIt (mPay r u cut) n μ 43 0 (6 * r + n) + cut / 2 / mSize u 6))) 43 0 (6 * r + n) 0 := by
        show mPay r u cut n _ = _
        rw [mPay]; exact if_pos hb
      rw [e, e43, e30]
      refine ⟨fun k => ?_, fun b => ?_, fun j hj => ?_, fun f i k f1 f2 => ?_⟩
      · rw [upd3_f (by decide)]
        by_cases ek : k = n
        · subst ek; rw [upd3_s, if_pos ⟨by omega, hb⟩]
        · rw [upd3_k ek, h1]
          by_cases l : k < n ∧ bitB u k = 1
          · rw [if_pos l, if_pos ⟨by omega, l.2⟩]
          · rw [if_neg l, if_neg (fun z => l ⟨by omega, z.2⟩)]
      · by_cases ek : b = n
        · subst ek; rw [upd3_s, if_pos ⟨by omega, hb⟩]
        · rw [upd3_k (by omega), upd3_f (by decide), h2]
          by_cases l : b < n ∧ bitB u b = 1
          · rw [if_pos l, if_pos ⟨by omega, l.2⟩]
          · rw [if_neg l, if_neg (fun z => l ⟨by omega, z.2⟩)]
      · rw [upd3_k (by omega), upd3_f (by decide)]; exact h3 j (by omega)
      · rw [upd3_f f2, upd3_f f1]; exact h4 f i k f1 f2
    · have e : gIt (mPay r u cut) (n + 1) μ = gIt (mPay r u cut) n μ := by
        show mPay r u cut n _ = _
        rw [mPay]; exact if_neg hb
      rw [e]
      have hq : ∀ k, (k < n + 1 ∧ bitB u k = 1) ↔ (k < n ∧ bitB u k = 1) := fun k => ⟨fun z => ⟨by
        have : k ≠ n := fun e => hb (by rw [← e]; exact z.2)
        omega, z.2⟩, fun z => ⟨by omega, z.2⟩⟩
      refine ⟨fun k => by rw [h1]; simp only [hq], fun b => by rw [h2]; simp only [hq], fun j hj => h3 j (by omega), h4⟩
theorem bit_01 (u : Int32) (b : Nat) : bitB u b = 0 ∨ bitB u b = 1 := i32_and1 _
theorem mLeft_at (u cut : Int32) : ∀ n, mLeft u cut n = cut - cut / 4 - cut / 2 / mSize u 6 * mSize u n
  | 0 => by
    have e : mSize u 0 = 0 := rfl
    rw [mLeft, e]
    generalize cut / 2 / mSize u 6 = q
    generalize cut / 4 = q4
    grind
  | n + 1 => by
    have e : mSize u (n + 1) = mSize u n + (u >>> (nI n &&& 31) &&& 1) := rfl
    rw [mLeft, e, mLeft_at u cut n]
    have hb := bit_01 u n
    rw [bitB] at hb
    generalize cut / 2 / mSize u 6 = q
    generalize cut / 4 = q4
    generalize mSize u n = z
    rcases hb with h | h
    · rw [h, if_neg (by decide)]; grind
    · rw [h, if_pos rfl]; grind
/-- the reference's judging, when the reading lies -/
theorem mLies_at (μ : gMem) (r : Nat) :
    (∀ k, mLies μ r 26 0 k = if k = tN (μ 37 0 r) then μ 26 0 k - mCut μ r else μ 26 0 k) ∧
    (∀ k, k < 6 → mLies μ r 30 0 k = (μ 30 0 k + (if k = tN (μ 42 0 r) then 4 + mCut μ r / 4 else 0)) + (if bitB (μ 44 0 r) k = 1 then μ 43 0 (6 * r + k) + mCut μ r / 2 / mSize (μ 44 0 r) 6 else 0)) ∧
    (∀ b, b < 6 → mLies μ r 43 0 (6 * r + b) = if bitB (μ 44 0 r) b = 1 then 0 else μ 43 0 (6 * r + b)) ∧
    (∀ j, j < 6 * r ∨ 6 * r + 6 ≤ j → mLies μ r 43 0 j = μ 43 0 j) ∧
    (mLies μ r 39 0 r = 3) ∧ (∀ k, k ≠ r → mLies μ r 39 0 k = μ 39 0 k) ∧
    (mLies μ r 8 0 11 = μ 8 0 11 + (mCut μ r - mCut μ r / 4 - mCut μ r / 2 / mSize (μ 44 0 r) 6 * mSize (μ 44 0 r) 6)) ∧
    (∀ f i k, f ≠ 26 → f ≠ 30 → f ≠ 43 → f ≠ 39 → f ≠ 8 ∨ k ≠ 11 → mLies μ r f i k = μ f i k) := by
  obtain ⟨h1, h2, h3, h4⟩ := mPay_it r (μ 44 0 r) (mCut μ r) (mLies1 μ r) 6
  refine ⟨fun k => ?_, fun k hk => ?_, fun b hb => ?_, fun j hj => ?_, ?_, fun k hk => ?_, ?_, fun f i k f1 f2 f3 f4 f5 => ?_⟩
  · rw [mLies, upd3_f (by decide), mLies2, h4 _ _ _ (by decide) (by decide), mLies1, upd3_f (by decide)]
    by_cases e : k = tN (μ 37 0 r)
    · rw [if_pos e, e, upd3_s]
    · rw [if_neg e, upd3_k e, upd3_f (by decide)]
  · rw [mLies, upd3_f (by decide), mLies2, h1, mLies1, upd3_f (show 43 ≠ 30 by decide), upd3_f (show 43 ≠ 26 by decide), upd3_f (show 43 ≠ 39 by decide)]
    have e0 : upd3 (upd3 (upd3 μ 39 0 r 3) 26 0 (tN (μ 37 0 r)) (μ 26 0 (tN (μ 37 0 r)) - mCut μ r)) 30 0 (tN (μ 42 0 r)) (μ 30 0 (tN (μ 42 0 r)) + (4 + mCut μ r / 4)) 30 0 k = μ 30 0 k + (if k = tN (μ 42 0 r) then 4 + mCut μ r / 4 else 0) := by
      by_cases e : k = tN (μ 42 0 r)
      · rw [if_pos e, e, upd3_s]
      · rw [if_neg e, upd3_k e, upd3_f (by decide), upd3_f (by decide), Int32.add_zero]
    rw [e0]
    by_cases e : bitB (μ 44 0 r) k = 1
    · rw [if_pos ⟨hk, e⟩, if_pos e]
    · rw [if_neg (fun z => e z.2), if_neg e, Int32.add_zero]
  · rw [mLies, upd3_f (by decide), mLies2, h2, mLies1, upd3_f (by decide), upd3_f (by decide), upd3_f (by decide)]
    simp only [hb, true_and]
  · rw [mLies, upd3_f (by decide), mLies2, h3 j hj, mLies1, upd3_f (by decide), upd3_f (by decide), upd3_f (by decide)]
  · rw [mLies, upd3_f (by decide), mLies2, h4 _ _ _ (by decide) (by decide), mLies1, upd3_f (by decide), upd3_f (by decide), upd3_s]
  · rw [mLies, upd3_f (by decide), mLies2, h4 _ _ _ (by decide) (by decide), mLies1, upd3_f (by decide), upd3_f (by decide), upd3_k hk]
  · rw [mLies, upd3_s, mLies2, h4 _ _ _ (by decide) (by decide), mLies1, upd3_f (by decide), upd3_f (by decide), upd3_f (by decide), mLeft_at]
  · rw [mLies, upd3_n (by omega), mLies2, h4 _ _ _ f2 f3, mLies1, upd3_f f2, upd3_f f1, upd3_f f4]
/-! the class's -/
theorem sBack1_it (r : Nat) (κ : gMem) : ∀ n k, gIt (sBack1 r) n κ 1 k 0 = if k < n then κ 1 k 0 + κ 15 r k else κ 1 k 0
  | 0, k => by rw [if_neg (by omega)]; rfl
  | n + 1, k => by
    show upd3 _ 1 n 0 _ 1 k 0 = _
    rw [sBack1_it_keep (f := 15) (by decide), sBack1_it r κ n n, if_neg (by omega)]
    by_cases e : k = n
    · subst e; rw [upd3_s, if_pos (by omega)]
    · rw [upd3_n (fun z => e z.2.1), sBack1_it r κ n k]
      by_cases l : k < n
      · rw [if_pos l, if_pos (by omega)]
      · rw [if_neg l, if_neg (by omega)]
theorem sPay1_it (r : Nat) (sh : Int32) (κ : gMem) : ∀ n k, gIt (sPay1 r sh) n κ 1 k 0 = if k < n ∧ ¬ κ 15 r k ≤ 0 then κ 1 k 0 + sh else κ 1 k 0
  | 0, k => by rw [if_neg (by omega)]; rfl
  | n + 1, k => by
    show sPay1 r sh n _ 1 k 0 = _
    rw [sPay1, sPay1_it_keep (f := 15) (by decide)]
    by_cases hp : κ 15 r n ≤ 0
    · rw [if_pos hp, sPay1_it r sh κ n k]
      have hq : (k < n + 1 ∧ ¬ κ 15 r k ≤ 0) ↔ (k < n ∧ ¬ κ 15 r k ≤ 0) := ⟨fun z => ⟨by
        have : k ≠ n := fun e => z.2 (by rw [e]; exact hp)
        omega, z.2⟩, fun z => ⟨by omega, z.2⟩⟩
      simp only [hq]
    · rw [if_neg hp, sPay1_it r sh κ n n, if_neg (by omega)]
      by_cases e : k = n
      · subst e; rw [upd3_s, if_pos ⟨by omega, hp⟩]
      · rw [upd3_n (fun z => e z.2.1), sPay1_it r sh κ n k]
        by_cases l : k < n ∧ ¬ κ 15 r k ≤ 0
        · rw [if_pos l, if_pos ⟨by omega, l.2⟩]
        · rw [if_neg l, if_neg (fun z => l ⟨by omega, z.2⟩)]
theorem sStand_at (κ : gMem) (r : Nat) :
    (∀ k, sStand κ r 5 k 4 = if k = tN (κ 3 r 0) then κ 5 k 4 + κ 3 r 7 else κ 5 k 4) ∧ sStand κ r 3 r 3 = 2 ∧ sStand κ r 3 r 7 = 0 ∧
    (∀ f i k, f ≠ 5 ∨ k ≠ 4 → f ≠ 3 ∨ i ≠ r ∨ (k ≠ 3 ∧ k ≠ 7) → sStand κ r f i k = κ f i k) := by
  refine ⟨fun k => ?_, ?_, ?_, fun f i k f1 f2 => ?_⟩
  · rw [sStand, upd3_f (by decide)]
    by_cases e : k = tN (κ 3 r 0)
    · rw [if_pos e, e, upd3_s]
    · rw [if_neg e, upd3_n (fun z => e z.2.1), upd3_f (by decide)]
  · rw [sStand, upd3_k (by decide), upd3_f (by decide), upd3_s]
  · rw [sStand, upd3_s]
  · rw [sStand, upd3_n (by omega), upd3_n (by omega), upd3_n (by omega)]
def sLie (κ : gMem) (r : Nat) : gMem := sShare (sBack (upd3 κ 3 r 3 3) r) r
def sBk (κ : gMem) (r : Nat) : gMem := sBack (upd3 κ 3 r 3 3) r
theorem sBk_at (κ : gMem) (r : Nat) :
    (∀ k, k < 6 → sBk κ r 1 k 0 = κ 1 k 0 + κ 15 r k + (if k = tN (κ 2 r 0) then 4 else 0)) ∧ sBk κ r 3 r 3 = 3 ∧ sBk κ r 3 r 7 = 0 ∧
    (∀ f i k, f ≠ 1 → f ≠ 3 ∨ i ≠ r ∨ (k ≠ 3 ∧ k ≠ 7) → sBk κ r f i k = κ f i k) := by
  have e1 : ∀ k, k < 6 → gIt (sBack1 r) 6 (upd3 κ 3 r 3 3) 1 k 0 = κ 1 k 0 + κ 15 r k := fun k hk => by
    rw [sBack1_it, if_pos hk, upd3_f (by decide), upd3_f (by decide)]
  refine ⟨fun k hk => ?_, ?_, ?_, fun f i k f1 f2 => ?_⟩
  · rw [sBk, sBack, upd3_f (show 2 ≠ 3 by decide)]
    by_cases e : k = tN (κ 2 r 0)
    · rw [if_pos e, ← e, upd3_s, e1 k hk]
    · rw [if_neg e, upd3_n (fun z => e z.2.1), upd3_f (by decide), e1 k hk, Int32.add_zero]
  · rw [sBk, sBack, upd3_f (by decide), upd3_k (by decide), sBack1_it_keep (by decide), upd3_s]
  · rw [sBk, sBack, upd3_f (by decide), upd3_s]
  · rw [sBk, sBack, upd3_f f1, upd3_n (by omega), sBack1_it_keep f1, upd3_n (by omega)]
theorem sPayK_at (κ : gMem) (r : Nat) (h : Int32) :
    (∀ k, k < 6 → sPayK κ r h 1 k 0 = κ 1 k 0 + (if κ 3 r 6 = 0 ∨ κ 15 r k ≤ 0 then 0 else h / κ 3 r 6)) ∧ (∀ f i k, f ≠ 1 → sPayK κ r h f i k = κ f i k) := by
  refine ⟨fun k hk => ?_, fun f i k f1 => ?_⟩
  · rw [sPayK]
    by_cases e : κ 3 r 6 = 0
    · rw [if_pos e, if_pos (Or.inl e), Int32.add_zero]
    · rw [if_neg e, sPay1_it]
      by_cases l : κ 15 r k ≤ 0
      · rw [if_neg (fun z => z.2 l), if_pos (Or.inr l), Int32.add_zero]
      · rw [if_pos ⟨hk, l⟩, if_neg (fun z => z.elim e l)]
  · rw [sPayK]
    split
    · rfl
    · exact sPay1_it_keep f1
/-- what the class takes from the bond -/
theorem sLie_at (κ : gMem) (r : Nat) :
    (∀ k, sLie κ r 5 k 3 = if k = tN (κ 3 r 0) then κ 5 k 3 - sCut κ r else κ 5 k 3) ∧
    (∀ k, k < 6 → sLie κ r 1 k 0 = κ 1 k 0 + κ 15 r k + (if k = tN (κ 2 r 0) then 4 + sCut κ r / 4 else 0) + (if κ 3 r 6 = 0 ∨ κ 15 r k ≤ 0 then 0 else sCut κ r / 2 / κ 3 r 6)) ∧
    sLie κ r 3 r 3 = 3 ∧ sLie κ r 3 r 7 = 0 ∧ sLie κ r 3 r 8 = sCut κ r ∧
    sLie κ r 7 0 5 = κ 7 0 5 + (sCut κ r - sCut κ r / 4 - (if κ 3 r 6 = 0 then 0 else sCut κ r / 2 / κ 3 r 6 * κ 3 r 6)) ∧
    (∀ f i k, f ≠ 1 → f ≠ 5 ∨ k ≠ 3 → f ≠ 7 ∨ k ≠ 5 → f ≠ 3 ∨ i ≠ r ∨ (k ≠ 3 ∧ k ≠ 7 ∧ k ≠ 8) → sLie κ r f i k = κ f i k) := by
  obtain ⟨b1, b2, b3, b4⟩ := sBk_at κ r
  have ec : sCut (sBk κ r) r = sCut κ r := by
    rw [sCut, sCut, b4 3 r 0 (by decide) (by omega), b4 3 r 6 (by decide) (by omega), b4 5 _ 3 (by decide) (by omega), b4 5 _ 2 (by decide) (by omega)]
  have e0 : sBk κ r 3 r 0 = κ 3 r 0 := b4 3 r 0 (by decide) (by omega)
  have e2 : sBk κ r 2 r 0 = κ 2 r 0 := b4 2 r 0 (by decide) (by omega)
  have eS : sShare1 (sBk κ r) r = upd3 (upd3 (upd3 (sBk κ r) 5 (tN (κ 3 r 0)) 3 (sBk κ r 5 (tN (κ 3 r 0)) 3 - sCut κ r)) 3 r 8 (sCut κ r)) 1 (tN (κ 2 r 0)) 0 (sBk κ r 1 (tN (κ 2 r 0)) 0 + sCut κ r / 4) := by
    rw [sShare1, ec, e0, e2]
  have s6 : sShare1 (sBk κ r) r 3 r 6 = κ 3 r 6 := by
    rw [eS, upd3_f (by decide), upd3_k (by decide), upd3_f (by decide)]; exact b4 3 r 6 (by decide) (by omega)
  have s15 : ∀ k, sShare1 (sBk κ r) r 15 r k = κ 15 r k := fun k => by
    rw [eS, upd3_f (by decide), upd3_f (by decide), upd3_f (by decide)]; exact b4 15 r k (by decide) (by omega)
  obtain ⟨p1, p2⟩ := sPayK_at (sShare1 (sBk κ r) r) r (sCut κ r / 2)
  have eL : sLie κ r = upd3 (sPayK (sShare1 (sBk κ r) r) r (sCut κ r / 2)) 7 0 5 (κ 7 0 5 + (sCut κ r - sCut κ r / 4 - (if κ 3 r 6 = 0 then 0 else sCut κ r / 2 / κ 3 r 6 * κ 3 r 6))) := by
    show sShare (sBk κ r) r = _
    rw [sShare, ec, b4 7 0 5 (by decide) (by omega), sPayA, s6]
  rw [eL]
  refine ⟨fun k => ?_, fun k hk => ?_, ?_, ?_, ?_, upd3_s, fun f i k f1 f2 f3 f4 => ?_⟩
  · rw [upd3_f (by decide), p2 _ _ _ (by decide), eS, upd3_f (by decide), upd3_f (by decide)]
    by_cases e : k = tN (κ 3 r 0)
    · rw [if_pos e, ← e, upd3_s, b4 5 k 3 (by decide) (by omega)]
    · rw [if_neg e, upd3_n (fun z => e z.2.1), b4 5 k 3 (by decide) (by omega)]
  · rw [upd3_f (by decide), p1 k hk, s6, s15, eS]
    by_cases e : k = tN (κ 2 r 0)
    · rw [if_pos e, ← e, upd3_s, b1 k hk, if_pos e]; grind
    · rw [if_neg e, upd3_n (fun z => e z.2.1), upd3_f (by decide), upd3_f (by decide), b1 k hk, if_neg e]
  · rw [upd3_f (by decide), p2 _ _ _ (by decide), eS, upd3_f (by decide), upd3_k (by decide), upd3_f (by decide), b2]
  · rw [upd3_f (by decide), p2 _ _ _ (by decide), eS, upd3_f (by decide), upd3_k (by decide), upd3_f (by decide), b3]
  · rw [upd3_f (by decide), p2 _ _ _ (by decide), eS, upd3_f (by decide), upd3_s]
  · rw [upd3_n (by omega), p2 _ _ _ f1, eS, upd3_f f1, upd3_n (by omega), upd3_n (by omega)]
    exact b4 f i k f1 (by omega)
