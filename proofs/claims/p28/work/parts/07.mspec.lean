/-! ===== loops over the memory ===== -/
abbrev tN (x : Int32) : Nat := x.toNatClampNeg
def gIt (f : Nat → gMem → gMem) : Nat → gMem → gMem
  | 0, a => a
  | n + 1, a => f n (gIt f n a)
theorem gIt_keep {F : Nat → gMem → gMem} {f i j : Nat} (h : ∀ k κ, F k κ f i j = κ f i j) (n : Nat) (κ : gMem) : gIt F n κ f i j = κ f i j := by
  induction n with
  | zero => rfl
  | succ n ih => exact (h n _).trans ih
theorem gIt_inv {F : Nat → gMem → gMem} {I : gMem → Prop} {N : Nat} (h : ∀ k κ, k < N → I κ → I (F k κ)) (n : Nat) (hn : n ≤ N) (κ : gMem) (h0 : I κ) : I (gIt F n κ) := by
  induction n with
  | zero => exact h0
  | succ n ih => exact h n _ (by omega) (ih (by omega))
theorem g_exit {k N : Nat} (h : nI N ≤ nI k) (hk : k ≤ N) (hN : N < 2 ^ 31) : k = N := by
  have := (nI_leI hN (by omega)).mp h
  omega
theorem g_stay {k N : Nat} (h : ¬ nI N ≤ nI k) (hk : k ≤ N) (hN : N < 2 ^ 31) : k < N := by
  have : ¬ N ≤ k := fun z => h ((nI_leI hN (by omega)).mpr z)
  omega
theorem tN_nI {k : Nat} (h : k < 2 ^ 31) : tN (nI k) = k := nI_clamp h
theorem nI_tN {k : Nat} (h : k < 2 ^ 31) : nI k = nI (tN (nI k)) := by rw [tN_nI h]
section GL
variable {p : Program} {l : Launch} {e : Env} {R : Room} {s : State} {m : MethodId} {args : Array Value} {below : List Frame} {meth : Method} {c : Code} {cells slots : Nat} {Q : State → Prop}
variable {pc nL : Nat} {D : va_G} {aC : Nat → ClassId} {A : Nat → Prop} {ids : gIds} {ad : gAd} {κ : gMem} {H : Heap} {locs : List Loc}
theorem g_for (F : Nat → gMem → gMem) (N : Nat) (lv : Nat → List (Nat × Value))
    (body : ∀ (k : Nat) (H : Heap) (locs : List Loc) (ls : Array Slot), k ≤ N → gS D aC A s ids ad (gk (gIt F k κ)) H locs → lv_has ls nL (lv k) →
      (k < N → ∀ (H1 : Heap) (locs1 : List Loc) (ls1 : Array Slot), gS D aC A s ids ad (gk (gIt F (k + 1) κ)) H1 locs1 → lv_has ls1 nL (lv (k + 1)) → W p l e R s m args below meth c H1 locs1 cells slots Q (F0 m pc ls1 [])) →
      W p l e R s m args below meth c H locs cells slots Q (F0 m pc ls []))
    {H : Heap} {locs : List Loc} {ls : Array Slot} (G : gS D aC A s ids ad (gk κ) H locs) (hl : lv_has ls nL (lv 0)) : W p l e R s m args below meth c H locs cells slots Q (F0 m pc ls []) := by
  have key : ∀ (d k : Nat) (H : Heap) (locs : List Loc) (ls : Array Slot), k + d = N → gS D aC A s ids ad (gk (gIt F k κ)) H locs → lv_has ls nL (lv k) → W p l e R s m args below meth c H locs cells slots Q (F0 m pc ls []) := by
    intro d
    induction d with
    | zero => intro k H locs ls hk G hl; exact body k H locs ls (by omega) G hl (fun h => absurd h (by omega))
    | succ d ih => intro k H locs ls hk G hl; exact body k H locs ls (by omega) G hl (fun _ H1 locs1 ls1 G1 hl1 => ih (k + 1) H1 locs1 ls1 (by omega) G1 hl1)
  exact key N 0 H locs ls (by omega) G hl
theorem g_forg (N : Nat) (lv : Nat → List (Nat × Value))
    (body : ∀ (k : Nat) (H : Heap) (locs : List Loc) (ls : Array Slot), k ≤ N → gS D aC A s ids ad (gk κ) H locs → lv_has ls nL (lv k) →
      (k < N → ∀ (H1 : Heap) (locs1 : List Loc) (ls1 : Array Slot), gS D aC A s ids ad (gk κ) H1 locs1 → lv_has ls1 nL (lv (k + 1)) → W p l e R s m args below meth c H1 locs1 cells slots Q (F0 m pc ls1 [])) →
      W p l e R s m args below meth c H locs cells slots Q (F0 m pc ls []))
    {H : Heap} {locs : List Loc} {ls : Array Slot} (G : gS D aC A s ids ad (gk κ) H locs) (hl : lv_has ls nL (lv 0)) : W p l e R s m args below meth c H locs cells slots Q (F0 m pc ls []) := by
  have key : ∀ (d k : Nat) (H : Heap) (locs : List Loc) (ls : Array Slot), k + d = N → gS D aC A s ids ad (gk κ) H locs → lv_has ls nL (lv k) → W p l e R s m args below meth c H locs cells slots Q (F0 m pc ls []) := by
    intro d
    induction d with
    | zero => intro k H locs ls hk G hl; exact body k H locs ls (by omega) G hl (fun h => absurd h (by omega))
    | succ d ih => intro k H locs ls hk G hl; exact body k H locs ls (by omega) G hl (fun _ H1 locs1 ls1 G1 hl1 => ih (k + 1) H1 locs1 ls1 (by omega) G1 hl1)
  exact key N 0 H locs ls (by omega) G hl
/-- the memory and the heap stay -/
theorem g_forc (N : Nat) (lv : Nat → List (Nat × Value))
    (body : ∀ (k : Nat) (ls : Array Slot), k ≤ N → lv_has ls nL (lv k) →
      (k < N → ∀ (ls1 : Array Slot), lv_has ls1 nL (lv (k + 1)) → W p l e R s m args below meth c H locs cells slots Q (F0 m pc ls1 [])) →
      W p l e R s m args below meth c H locs cells slots Q (F0 m pc ls []))
    {ls : Array Slot} (hl : lv_has ls nL (lv 0)) : W p l e R s m args below meth c H locs cells slots Q (F0 m pc ls []) := by
  have key : ∀ (d k : Nat) (ls : Array Slot), k + d = N → lv_has ls nL (lv k) → W p l e R s m args below meth c H locs cells slots Q (F0 m pc ls []) := by
    intro d
    induction d with
    | zero => intro k ls hk hl; exact body k ls (by omega) hl (fun h => absurd h (by omega))
    | succ d ih => intro k ls hk hl; exact body k ls (by omega) hl (fun _ ls1 hl1 => ih (k + 1) ls1 (by omega) hl1)
  exact key N 0 ls (by omega) hl
theorem g_while {σ : Type} (I : σ → Prop) (μ : σ → Nat) (St : σ → gMem) (lv : σ → List (Nat × Value))
    (body : ∀ (x : σ) (H : Heap) (locs : List Loc) (ls : Array Slot), I x → gS D aC A s ids ad (gk (St x)) H locs → lv_has ls nL (lv x) →
      (∀ (y : σ) (H1 : Heap) (locs1 : List Loc) (ls1 : Array Slot), I y → μ y < μ x → gS D aC A s ids ad (gk (St y)) H1 locs1 → lv_has ls1 nL (lv y) → W p l e R s m args below meth c H1 locs1 cells slots Q (F0 m pc ls1 [])) →
      W p l e R s m args below meth c H locs cells slots Q (F0 m pc ls []))
    (x : σ) {H : Heap} {locs : List Loc} {ls : Array Slot} (hI : I x) (G : gS D aC A s ids ad (gk (St x)) H locs) (hl : lv_has ls nL (lv x)) : W p l e R s m args below meth c H locs cells slots Q (F0 m pc ls []) := by
  have key : ∀ (n : Nat) (x : σ) (H : Heap) (locs : List Loc) (ls : Array Slot), μ x < n → I x → gS D aC A s ids ad (gk (St x)) H locs → lv_has ls nL (lv x) → W p l e R s m args below meth c H locs cells slots Q (F0 m pc ls []) := by
    intro n
    induction n with
    | zero => intro x H locs ls hn; exact absurd hn (by omega)
    | succ n ih => intro x H locs ls hn hI G hl; exact body x H locs ls hI G hl (fun y H1 locs1 ls1 hy hm G1 hl1 => ih y H1 locs1 ls1 (by omega) hy G1 hl1)
  exact key (μ x + 1) x H locs ls (by omega) hI G hl
end GL
/-! ===== what the reference's methods do, in numbers: family 8 the object, 20 + k its rows ===== -/
def fixM (f : Nat) : Nat := if f = 8 then 1 else if f < 21 then 0 else if f = 31 then 0 else if f = 36 then 0 else if f < 46 then 1 else 0
def mV (ids : gIds) : Prop := ∀ f i, i < fixM f → (f, i) ∈ ids
/-- what holds of the reference's numbers always -/
def mWF (κ : gMem) : Prop :=
  (∃ n, n ≤ 80 ∧ κ 8 0 16 = nI n) ∧ (∀ r, r < 80 → ∃ j, j < 12 ∧ κ 37 0 r = nI j) ∧ (∀ r, r < 80 → ∃ j, j < 6 ∧ κ 42 0 r = nI j) ∧ (∀ k, k < 12 → ∃ j, j < 6 ∧ κ 25 0 k = nI j) ∧ (∀ k, k < 6 → k ≠ 0 → ∃ j, j < k ∧ κ 21 0 k = nI j)
theorem mWF.of {κ κ' : gMem} (h : mWF κ) (h1 : κ' 8 0 16 = κ 8 0 16) (h2 : ∀ r, κ' 37 0 r = κ 37 0 r) (h3 : ∀ r, κ' 42 0 r = κ 42 0 r) (h4 : ∀ r, κ' 25 0 r = κ 25 0 r) (h5 : ∀ r, κ' 21 0 r = κ 21 0 r) : mWF κ' := by
  obtain ⟨a1, a2, a3, a4, a5⟩ := h
  refine ⟨?_, fun r hr => ?_, fun r hr => ?_, fun r hr => ?_, fun r hr h0 => ?_⟩
  · rw [h1]; exact a1
  · rw [h2]; exact a2 r hr
  · rw [h3]; exact a3 r hr
  · rw [h4]; exact a4 r hr
  · rw [h5]; exact a5 r hr h0
def mCan (κ : gMem) (t : Int32) : gMem := upd3 κ 8 0 26 t
def mIn (n a b : Int32) : Int32 := if n < a then 0 else if b < n then 0 else 1
theorem mIn_01 (n a b : Int32) : mIn n a b = 0 ∨ mIn n a b = 1 := by
  simp only [mIn]
  split
  · exact Or.inl rfl
  · split
    · exact Or.inl rfl
    · exact Or.inr rfl
theorem g_rng {x : Int32} {m : Nat} (h0 : ¬ x < 0) (h1 : ¬ nI m < x) (hm : m < 2 ^ 31) : x = nI (tN x) ∧ tN x ≤ m := by
  obtain ⟨j, hj, rfl⟩ := nI_of h0
  rw [tN_nI hj]
  refine ⟨rfl, ?_⟩
  have : ¬ m < j := fun z => h1 ((nI_ltI hm hj).mpr z)
  omega
theorem mIn_rng {x : Int32} {m : Nat} (h : ¬ mIn x 0 (nI m) = 0) (hm : m < 2 ^ 31) : x = nI (tN x) ∧ tN x ≤ m := by
  simp only [mIn] at h
  split at h
  · exact absurd rfl h
  · rename_i h0
    split at h
    · exact absurd rfl h
    · rename_i h1
      exact g_rng h0 h1 hm
/-- of a range that begins above 0 -/
theorem mIn_rng' {x a : Int32} {m : Nat} (h : ¬ mIn x a (nI m) = 0) (ha : 0 ≤ a) (hm : m < 2 ^ 31) : x = nI (tN x) ∧ tN x ≤ m ∧ a ≤ x := by
  simp only [mIn] at h
  split at h
  · exact absurd rfl h
  · rename_i h0
    split at h
    · exact absurd rfl h
    · rename_i h1
      have h2 : a ≤ x := Int32.not_lt.mp h0
      have h3 : ¬ x < 0 := fun z => by
        have := Int32.lt_of_lt_of_le z ha
        exact h0 this
      obtain ⟨g1, g2⟩ := g_rng h3 h1 hm
      exact ⟨g1, g2, h2⟩
theorem mIn_rd {x : Int32} {n : Nat} (h : ¬ mIn x 0 (nI n - 1) = 0) (hn : n ≤ 80) : x = nI (tN x) ∧ tN x < n := by
  cases n with
  | zero =>
    exfalso
    apply h
    simp only [mIn]
    split
    · rfl
    · rename_i h0
      have : nI 0 - 1 < x := by
        rw [Int32.lt_iff_toInt_lt]
        rw [Int32.lt_iff_toInt_lt, Int32.toInt_zero] at h0
        have e : (nI 0 - 1).toInt = -1 := by decide +kernel
        omega
      rw [if_pos this]
  | succ n =>
    rw [nI_pred] at h
    obtain ⟨g1, g2⟩ := mIn_rng h (by omega)
    exact ⟨g1, by omega⟩
def mApart (a b : Int32) : Int32 := if b ≤ a then a - b else b - a
def mNb (a b : Int32) : Int32 := if mApart (a / 4) (b / 4) + mApart (a - a / 4 * 4) (b - b / 4 * 4) = 1 then 1 else 0
def mNbs (a : Int32) : Nat → Int32
  | 0 => 0
  | k + 1 => mNbs a k + (if mNb a (nI k) = 0 then 0 else 1)
def mHangT (a b : Int32) : Int32 := if mIn a 1 5 = 0 then 1 else if mIn b 0 (a - 1) = 0 then 1 else 0
def mAttachT (a b : Int32) : Int32 := if mIn a 0 11 = 0 then 1 else if mIn b 0 5 = 0 then 1 else 0
def mSetLossT (a n : Int32) : Int32 := if mIn a 0 5 = 0 then 1 else if n = 0 then 0 else if mIn n 2 9 = 0 then 2 else 0
def mSetLossK (κ : gMem) (j : Nat) (n : Int32) : gMem := upd3 (upd3 (upd3 κ 22 0 j n) 23 0 j 0) 24 0 j 0
def mSetPriceT (a n : Int32) : Int32 := if mIn a 0 11 = 0 then 1 else if mIn n 1 20 = 0 then 2 else 0
def mTopUpT (κ : gMem) (a n : Int32) : Int32 := if mIn a 0 11 = 0 then 1 else if 1 ≤ n then (if n ≤ κ 27 0 (tN a) then 0 else 3) else 2
def mTopUpK (κ : gMem) (j : Nat) (n : Int32) : gMem := upd3 (upd3 κ 27 0 j (κ 27 0 j - n)) 26 0 j (κ 26 0 j + n)
/-- a part goes by the repeater j, and on -/
def mPass (κ : gMem) (j : Nat) : gMem := upd3 κ 23 0 j (κ 23 0 j + 1)
def mLoses (κ : gMem) (j : Nat) : Prop := ¬ κ 22 0 j ≤ 0 ∧ κ 23 0 j - κ 23 0 j / κ 22 0 j * κ 22 0 j = 0
def mGoes : Nat → gMem → Nat → Int32 × gMem
  | 0, κ, _ => (1, κ)
  | n + 1, κ, j =>
    if mPass κ j 22 0 j ≤ 0 then (if (nI j) = 0 then (1, mPass κ j) else mGoes n (mPass κ j) (tN (mPass κ j 21 0 j)))
    else if mPass κ j 23 0 j - mPass κ j 23 0 j / mPass κ j 22 0 j * mPass κ j 22 0 j = 0 then (0, upd3 (mPass κ j) 24 0 j (mPass κ j 24 0 j + 1))
    else (if (nI j) = 0 then (1, mPass κ j) else mGoes n (mPass κ j) (tN (mPass κ j 21 0 j)))
theorem mGoes_keep (n : Nat) : ∀ (κ : gMem) (j : Nat) (f i k : Nat), f ≠ 23 → f ≠ 24 → (mGoes n κ j).2 f i k = κ f i k := by
  induction n with
  | zero => intro κ j f i k h1 h2; rfl
  | succ n ih =>
    intro κ j f i k h1 h2
    have e : mPass κ j f i k = κ f i k := upd3_n (fun z => h1 z.1)
    have e2 : upd3 (mPass κ j) 24 0 j (mPass κ j 24 0 j + 1) f i k = mPass κ j f i k := upd3_n (fun z => h2 z.1)
    simp only [mGoes]
    split
    · split
      · exact e
      · rw [ih _ _ f i k h1 h2, e]
    · split
      · exact e2.trans e
      · split
        · exact e
        · rw [ih _ _ f i k h1 h2, e]
theorem mGoes_WF {n j : Nat} {κ : gMem} (h : mWF κ) : mWF (mGoes n κ j).2 :=
  h.of (mGoes_keep n κ j _ _ _ (by decide) (by decide)) (fun r => mGoes_keep n κ j _ _ _ (by decide) (by decide)) (fun r => mGoes_keep n κ j _ _ _ (by decide) (by decide)) (fun r => mGoes_keep n κ j _ _ _ (by decide) (by decide)) (fun r => mGoes_keep n κ j _ _ _ (by decide) (by decide))
/-! tell -/
def mBad (κ : gMem) (s : Int32) : Int32 := if mIn s 0 11 = 0 then 0 else if κ 26 0 (tN s) < 20 then 1 else if κ 29 0 (tN s) = κ 8 0 0 then 1 else if κ 8 0 16 = 80 then 1 else 0
def mTellT (κ : gMem) (s v : Int32) : Int32 := if mIn s 0 11 = 0 then 1 else if mIn v 0 99 = 0 then 2 else if mBad κ s = 0 then 0 else 3
def mTell1 (κ : gMem) (a : Int32) (r : Nat) (v : Int32) : gMem := upd3 (upd3 (upd3 (upd3 (upd3 κ 8 0 16 (κ 8 0 16 + 1)) 37 0 r a) 38 0 r v) 41 0 r (κ 8 0 0)) 29 0 (tN a) (κ 8 0 0)
def mPart (s r : Nat) (κ : gMem) : gMem := upd3 (mGoes 6 κ (tN (κ 25 0 s))).2 40 0 r (κ 40 0 r + (if (mGoes 6 κ (tN (κ 25 0 s))).1 = 0 then 0 else 1))
def mTell2 (κ : gMem) (s r : Nat) : gMem := gIt (fun _ => mPart s r) 4 κ
def mTell3 (κ : gMem) (r : Nat) : gMem := upd3 κ 39 0 r (if κ 40 0 r ≤ 2 then 4 else 0)
def mUse (s r k : Nat) (κ : gMem) : gMem :=
  if κ 32 0 (12 * k + s) = 0 then κ else upd3 (upd3 (upd3 κ 35 0 (12 * k + s) (κ 35 0 (12 * k + s) - κ 34 0 (12 * k + s))) 43 0 (6 * r + k) (κ 34 0 (12 * k + s))) 44 0 r (κ 44 0 r ||| (1 <<< (nI k &&& 31)))
def mTell4 (κ : gMem) (s r : Nat) : gMem := if κ 39 0 r = 0 then gIt (mUse s r) 6 κ else κ
def mTellK (κ : gMem) (a : Int32) (r : Nat) (v : Int32) : gMem := mTell4 (mTell3 (mTell2 (mTell1 κ a r v) (tN a) r) r) (tN a) r
/-! open -/
def mOpenT (κ : gMem) (b s t : Int32) : Int32 :=
  if mIn b 0 5 = 0 then 1 else if mIn s 0 11 = 0 then 1 else if mIn t 1 20 = 0 then 2 else if κ 32 0 (12 * tN b + tN s) = 0 then (if t * κ 28 0 (tN s) ≤ κ 30 0 (tN b) then 0 else 3) else 3
def mOpenK (κ : gMem) (b s : Nat) (t : Int32) : gMem :=
  upd3 (upd3 (upd3 (upd3 (upd3 κ 32 0 (12 * b + s) 1) 33 0 (12 * b + s) (κ 8 0 0 + t - 1)) 34 0 (12 * b + s) (κ 28 0 s)) 35 0 (12 * b + s) (t * κ 28 0 s)) 30 0 b (κ 30 0 b - t * κ 28 0 s)
/-! challenge, samples, judging -/
def mChallengeT (κ : gMem) (b r : Int32) : Int32 :=
  if mIn b 0 5 = 0 then 1 else if mIn r 0 (κ 8 0 16 - 1) = 0 then 1 else if κ 39 0 (tN r) = 0 then (if 4 ≤ κ 30 0 (tN b) then 0 else 2) else 2
def mChallengeK (κ : gMem) (b : Int32) (r : Nat) : gMem := upd3 (upd3 (upd3 (upd3 κ 30 0 (tN b) (κ 30 0 (tN b) - 4)) 39 0 r 1) 42 0 r b) 41 0 r (κ 8 0 0)
def mSmp (κ : gMem) (r : Nat) : Nat → Int32
  | 0 => 0
  | k + 1 => mSmp κ r k + (if κ 45 0 (12 * r + k) = -1 then 0 else 1)
/-- how many stand ahead of the one at k -/
def mAhead (κ : gMem) (r k : Nat) : Nat → Int32
  | 0 => 0
  | j + 1 => mAhead κ r k j + (if κ 45 0 (12 * r + j) = -1 then 0 else if κ 45 0 (12 * r + j) < κ 45 0 (12 * r + k) then 1 else if κ 45 0 (12 * r + j) = κ 45 0 (12 * r + k) then (if nI k ≤ nI j then 0 else 1) else 0)
def mFound (κ : gMem) (r : Nat) : Nat → Int32
  | 0 => -1
  | k + 1 => if κ 45 0 (12 * r + k) = -1 then mFound κ r k else if mAhead κ r k 12 = (mSmp κ r 12 - 1) / 2 then κ 45 0 (12 * r + k) else mFound κ r k
def mMiddle (κ : gMem) (r : Nat) : Int32 := mFound κ r 12
def mSize (u : Int32) : Nat → Int32
  | 0 => 0
  | k + 1 => mSize u k + (u >>> (nI k &&& 31) &&& 1)
def mStB (r k : Nat) (κ : gMem) : gMem := upd3 (upd3 κ 27 0 (tN (κ 37 0 r)) (κ 27 0 (tN (κ 37 0 r)) + κ 43 0 (6 * r + k))) 43 0 (6 * r + k) 0
def mStands (κ : gMem) (r : Nat) : gMem := gIt (mStB r) 6 (upd3 κ 39 0 r 2)
def mCut (κ : gMem) (r : Nat) : Int32 :=
  if κ 26 0 (tN (κ 37 0 r)) ≤ 4 * κ 28 0 (tN (κ 37 0 r)) * (mSize (κ 44 0 r) 6 + 1) then κ 26 0 (tN (κ 37 0 r)) else 4 * κ 28 0 (tN (κ 37 0 r)) * (mSize (κ 44 0 r) 6 + 1)
def mLies1 (κ : gMem) (r : Nat) : gMem :=
  upd3 (upd3 (upd3 κ 39 0 r 3) 26 0 (tN (κ 37 0 r)) (κ 26 0 (tN (κ 37 0 r)) - mCut κ r)) 30 0 (tN (κ 42 0 r)) (κ 30 0 (tN (κ 42 0 r)) + (4 + mCut κ r / 4))
def mBit (u : Int32) (k : Nat) : Prop := u >>> (nI k &&& 31) &&& 1 = 1
def mPay (r : Nat) (u cut : Int32) (k : Nat) (κ : gMem) : gMem :=
  if u >>> (nI k &&& 31) &&& 1 = 1 then upd3 (upd3 κ 30 0 k (κ 30 0 k + (κ 43 0 (6 * r + k) + cut / 2 / mSize u 6))) 43 0 (6 * r + k) 0 else κ
def mLeft (u cut : Int32) : Nat → Int32
  | 0 => cut - cut / 4
  | k + 1 => if u >>> (nI k &&& 31) &&& 1 = 1 then mLeft u cut k - cut / 2 / mSize u 6 else mLeft u cut k
def mLies2 (κ : gMem) (r : Nat) (u cut : Int32) : gMem := gIt (mPay r u cut) 6 κ
def mLies (κ : gMem) (r : Nat) : gMem :=
  upd3 (mLies2 (mLies1 κ r) r (κ 44 0 r) (mCut κ r)) 8 0 11 (mLies2 (mLies1 κ r) r (κ 44 0 r) (mCut κ r) 8 0 11 + mLeft (κ 44 0 r) (mCut κ r) 6)
def mJudges (κ : gMem) (r : Nat) : gMem :=
  if mMiddle κ r = -1 then upd3 (mStands κ r) 27 0 (tN (mStands κ r 37 0 r)) (mStands κ r 27 0 (tN (mStands κ r 37 0 r)) + 4)
  else if mApart (κ 38 0 r) (mMiddle κ r) ≤ 5 then upd3 (mStands κ r) 27 0 (tN (mStands κ r 37 0 r)) (mStands κ r 27 0 (tN (mStands κ r 37 0 r)) + 4)
  else mLies κ r
def mSampleC (κ : gMem) (s r : Int32) : Int32 :=
  if mIn s 0 11 = 0 then 0 else if mIn r 0 (κ 8 0 16 - 1) = 0 then 0 else if κ 39 0 (tN r) = 1 then (if mNb s (κ 37 0 (tN r)) = 0 then 0 else if κ 45 0 (12 * tN r + tN s) = -1 then 1 else 0) else 0
def mSampleT (κ : gMem) (s r v : Int32) : Int32 :=
  if mIn s 0 11 = 0 then 1 else if mIn r 0 (κ 8 0 16 - 1) = 0 then 1 else if mIn v 0 99 = 0 then 2 else if mSampleC κ s r = 0 then 3 else 0
def mSampleK (κ : gMem) (s r : Nat) (v : Int32) : gMem :=
  if mSmp (upd3 κ 45 0 (12 * r + s) v) r 12 = mNbs (κ 37 0 r) 12 then mJudges (upd3 κ 45 0 (12 * r + s) v) r else upd3 κ 45 0 (12 * r + s) v
/-! ticks -/
def mEnd1 (k : Nat) (κ : gMem) : gMem :=
  if κ 8 0 0 - κ 41 0 k = 4 then (if κ 39 0 k = 1 then mJudges κ k else if κ 39 0 k = 0 then mStands κ k else κ) else κ
def mEnd2 (k : Nat) (κ : gMem) : gMem :=
  if κ 32 0 k = 0 then κ else if κ 33 0 k = κ 8 0 0 then upd3 (upd3 (upd3 κ 32 0 k 0) 30 0 (k / 12) (κ 30 0 (k / 12) + κ 35 0 k)) 35 0 k 0 else κ
def mEnds (n : Nat) (κ : gMem) : gMem :=
  upd3 (gIt mEnd2 72 (gIt mEnd1 n κ)) 8 0 0 (gIt mEnd2 72 (gIt mEnd1 n κ) 8 0 0 + 1)
def mAdvT (κ : gMem) (t : Int32) : Int32 := if mIn t 1 100 = 0 then 1 else if κ 8 0 0 + t ≤ 10000 then 0 else 2
def mAdvK (κ : gMem) (t : Nat) : gMem := gIt (fun _ κ => mEnds (tN (κ 8 0 16)) κ) t κ
/-! reads -/
def mAskT (κ : gMem) (r : Int32) : Int32 := if mIn r 0 (κ 8 0 16 - 1) = 0 then 1 else 0
def mHeld (κ : gMem) (r : Nat) : Nat → Int32
  | 0 => 0
  | k + 1 => mHeld κ r k + κ 43 0 (6 * r + k)
def mSign (s : Int32) : Int32 := if s = 0 then 46 else if s = 1 then 63 else if s = 2 then 43 else if s = 3 then 45 else 120
def mTextT (κ : gMem) (r q : Int32) : Int32 := if mIn r 0 (κ 8 0 16 - 1) = 0 then 1 else if q < 0 then 1 else 0
def mText (κ : gMem) (r : Nat) (q : Int32) : Int32 :=
  if q = 0 then 97 + κ 37 0 r
  else if (if 10 ≤ κ 38 0 r then 2 else 1) < q then (if q = (if 10 ≤ κ 38 0 r then (2 : Int32) else 1) + 1 then mSign (κ 39 0 r) else -1)
  else if q = (if 10 ≤ κ 38 0 r then (2 : Int32) else 1) then 48 + (κ 38 0 r - κ 38 0 r / 10 * 10) else 48 + κ 38 0 r / 10
def mMark (κ : gMem) (s : Int32) : Nat → Int32
  | 0 => 0
  | k + 1 => mMark κ s k + (if κ 37 0 k = s then (if κ 39 0 k = 2 then 1 else if κ 39 0 k = 3 then -3 else 0) else 0)
def mAsideT (b s : Int32) : Int32 := if mIn b 0 5 = 0 then 1 else if mIn s 0 11 = 0 then 1 else 0
