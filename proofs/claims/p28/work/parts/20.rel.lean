/-! ===== the class's numbers (in κ) and the reference's (in μ): what ties them ===== -/
def cEq (κ κ' : gMem) : Prop := ∀ f i k, f ≠ 8 → f < 18 → κ' f i k = κ f i k
def mEq (κ κ' : gMem) : Prop := ∀ f i k, f = 8 ∨ 20 ≤ f → κ' f i k = κ f i k
theorem cEq.rf {κ : gMem} : cEq κ κ := fun _ _ _ _ _ => rfl
theorem mEq.rf {κ : gMem} : mEq κ κ := fun _ _ _ _ => rfl
theorem cEq.tr {κ κ1 κ2 : gMem} (h1 : cEq κ κ1) (h2 : cEq κ1 κ2) : cEq κ κ2 := fun f i k h h' => (h2 f i k h h').trans (h1 f i k h h')
theorem mEq.tr {κ κ1 κ2 : gMem} (h1 : mEq κ κ1) (h2 : mEq κ1 κ2) : mEq κ κ2 := fun f i k h => (h2 f i k h).trans (h1 f i k h)
theorem cEq.upd {κ : gMem} {f i k : Nat} {x : Int32} (h : f = 8 ∨ 18 ≤ f) : cEq κ (upd3 κ f i k x) := fun g j l hg hl => upd3_n (fun z => by omega)
theorem mEq.upd {κ : gMem} {f i k : Nat} {x : Int32} (h : f ≠ 8) (h2 : f < 20) : mEq κ (upd3 κ f i k x) := fun g j l hg => upd3_n (fun z => by omega)
theorem mEq.updR {κ : gMem} {f i : Nat} {r : Nat → Int32} (h : f ≠ 8) (h2 : f < 20) : mEq κ (updR κ f i r) := fun g j l hg => by rw [updR_far (fun z => by omega)]
theorem cEq.it {F : Nat → gMem → gMem} (h : ∀ k κ, cEq κ (F k κ)) (n : Nat) (κ : gMem) : cEq κ (gIt F n κ) := by
  induction n with
  | zero => exact cEq.rf
  | succ n ih => exact ih.tr (h n _)
theorem mEq.it {F : Nat → gMem → gMem} (h : ∀ k κ, mEq κ (F k κ)) (n : Nat) (κ : gMem) : mEq κ (gIt F n κ) := by
  induction n with
  | zero => exact mEq.rf
  | succ n ih => exact ih.tr (h n _)
/-- no change of the reference's cells but its own: 18 stays too -/
def oEq (κ κ' : gMem) : Prop := κ' 18 0 0 = κ 18 0 0 ∧ κ' 8 0 26 = κ 8 0 26
def rT (κ μ : gMem) : Prop := κ 7 0 6 = μ 8 0 0 ∧ ixL (κ 7 0 6) 10001 ∧ κ 7 0 5 = μ 8 0 11 ∧ κ 7 0 4 = μ 8 0 16 ∧ ixL (κ 7 0 4) 81
def rP (κ μ : gMem) (k : Nat) : Prop := (k ≠ 0 → κ 4 k 1 = μ 21 0 k ∧ ixL (κ 4 k 1) k) ∧ κ 4 k 2 = μ 22 0 k ∧ κ 4 k 3 = μ 23 0 k ∧ ixL (κ 4 k 2) 10 ∧ ixL (κ 4 k 3) (4 * tN (κ 7 0 4) + 1) ∧ μ 24 0 k = sLost κ k
def rS (κ μ : gMem) (k : Nat) : Prop := κ 5 k 1 = μ 25 0 k ∧ ixL (κ 5 k 1) 6 ∧ κ 5 k 2 = μ 28 0 k ∧ ixL (κ 5 k 2) 21 ∧ κ 5 k 2 ≠ 0 ∧ κ 5 k 3 = μ 26 0 k ∧ κ 5 k 4 = μ 27 0 k ∧ κ 5 k 6 = μ 29 0 k
def rC (κ : gMem) (k : Nat) : Prop := sCuts κ k (tN (κ 7 0 4)) = κ 5 k 3
def rB (κ μ : gMem) (b : Nat) : Prop := κ 1 b 0 = μ 30 0 b
/-- a price that was paid -/
def pr20 (x : Int32) : Prop := ∃ q, 1 ≤ q ∧ q ≤ 20 ∧ x = nI q
def rW (κ μ : gMem) (b k : Nat) : Prop := (κ 14 b k = -1 ∧ μ 32 0 (12 * b + k) = 0 ∧ μ 35 0 (12 * b + k) = 0) ∨
  (κ 14 b k = nI (12 * b + k) ∧ μ 32 0 (12 * b + k) = 1 ∧ κ 6 (12 * b + k) 0 = μ 34 0 (12 * b + k) ∧ κ 6 (12 * b + k) 1 = μ 33 0 (12 * b + k) ∧ κ 6 (12 * b + k) 2 = μ 35 0 (12 * b + k) ∧ pr20 (κ 6 (12 * b + k) 0) ∧ ∃ t, κ 6 (12 * b + k) 1 = nI t ∧ tN (κ 7 0 6) ≤ t ∧ t ≤ 10100 ∧ nI t ≤ κ 7 0 7)
def rR (κ μ : gMem) (r : Nat) : Prop := κ 3 r 0 = μ 37 0 r ∧ κ 3 r 1 = μ 38 0 r ∧ ixL (κ 3 r 1) 100 ∧ κ 3 r 2 = μ 40 0 r ∧ κ 3 r 3 = μ 39 0 r ∧ ixL (κ 3 r 3) 5 ∧ κ 3 r 6 = mSize (μ 44 0 r) 6 ∧ ixL (κ 3 r 0) 12
def bitB (u : Int32) (b : Nat) : Int32 := u >>> (nI b &&& 31) &&& 1
def rU (κ μ : gMem) (r b : Nat) : Prop := (bitB (μ 44 0 r) b = 1 ∧ pr20 (κ 15 r b)) ∨ (bitB (μ 44 0 r) b = 0 ∧ κ 15 r b = 0)
def rH (κ μ : gMem) (r : Nat) : Prop :=
  ((κ 3 r 3 = 0 ∨ κ 3 r 3 = 1) ∧ (∀ b, b < 6 → κ 15 r b = μ 43 0 (6 * r + b) ∧ rU κ μ r b) ∧ κ 3 r 7 = mHeld μ r 6 ∧ κ 3 r 8 = 0 ∧ ∃ t, μ 41 0 r = nI t ∧ κ 3 r 4 = nI (t + 4) ∧ tN (κ 7 0 6) ≤ t + 4 ∧ t ≤ 10000 ∧ nI (t + 4) ≤ κ 7 0 7) ∨
  (¬ (κ 3 r 3 = 0 ∨ κ 3 r 3 = 1) ∧ κ 3 r 7 = 0 ∧ ∀ b, b < 6 → μ 43 0 (6 * r + b) = 0)
/-- the samples: how many there are, how many are at most x; the class's stand in order -/
def nSm (μ : gMem) (r : Nat) : Nat → Nat
  | 0 => 0
  | k + 1 => nSm μ r k + (if μ 45 0 (12 * r + k) = -1 then 0 else 1)
def nLe (μ : gMem) (r : Nat) (x : Int32) : Nat → Nat
  | 0 => 0
  | k + 1 => nLe μ r x k + (if μ 45 0 (12 * r + k) = -1 then 0 else if μ 45 0 (12 * r + k) ≤ x then 1 else 0)
def cLe (κ : gMem) (r : Nat) (x : Int32) : Nat → Nat
  | 0 => 0
  | k + 1 => cLe κ r x k + (if κ 16 r k ≤ x then 1 else 0)
def rSm (κ μ : gMem) (r : Nat) : Prop :=
  ixL (κ 2 r 2) 5 ∧ tN (κ 2 r 2) = nSm μ r 12 ∧ (∀ k, k < 12 → (bitB (κ 2 r 3) k = 0 ↔ μ 45 0 (12 * r + k) = -1) ∧ (μ 45 0 (12 * r + k) = -1 ∨ ixL (μ 45 0 (12 * r + k)) 100)) ∧
  (∀ i j, i < j → j < tN (κ 2 r 2) → κ 16 r i ≤ κ 16 r j) ∧ ∀ x : Int32, cLe κ r x (tN (κ 2 r 2)) = nLe μ r x 12
def rQ (κ μ : gMem) (r : Nat) : Prop := (κ 3 r 9 = -1 ∧ κ 3 r 3 ≠ 1 ∧ ∀ k, k < 12 → μ 45 0 (12 * r + k) = -1) ∨
  (κ 3 r 9 = nI r ∧ κ 3 r 3 ≠ 0 ∧ κ 2 r 0 = μ 42 0 r ∧ ixL (κ 2 r 0) 6 ∧ rSm κ μ r ∧ (κ 3 r 3 = 1 → κ 2 r 2 < mNbs (μ 37 0 r) 12))
def rN (μ : gMem) (r : Nat) : Prop := μ 40 0 r = 0 ∧ μ 44 0 r = 0 ∧ (∀ b, b < 6 → μ 43 0 (6 * r + b) = 0) ∧ ∀ k, k < 12 → μ 45 0 (12 * r + k) = -1
def Rel (κ μ : gMem) : Prop := rT κ μ ∧ (∀ k, k < 6 → rP κ μ k) ∧ (∀ k, k < 12 → rS κ μ k) ∧ (∀ k, k < 12 → rC κ k) ∧ (∀ b, b < 6 → rB κ μ b) ∧ (∀ b k, b < 6 → k < 12 → rW κ μ b k) ∧ (∀ r, r < tN (κ 7 0 4) → rR κ μ r ∧ rH κ μ r ∧ rQ κ μ r) ∧ (∀ r, tN (κ 7 0 4) ≤ r → r < 80 → rN μ r)
/-! what walks along other slots doesn't see -/
theorem sCuts_congr {κ κ' : gMem} {s : Nat} (h5 : κ' 5 s 5 = κ 5 s 5) : ∀ n, (∀ k, k < n → κ' 3 k 0 = κ 3 k 0 ∧ κ' 3 k 8 = κ 3 k 8) → sCuts κ' s n = sCuts κ s n
  | 0, _ => by rw [sCuts, sCuts, h5]
  | n + 1, h => by rw [sCuts, sCuts, (h n (by omega)).1, (h n (by omega)).2, sCuts_congr h5 n (fun k hk => h k (by omega))]
theorem mHeld_congr {μ μ' : gMem} {r : Nat} : ∀ n, (∀ b, b < n → μ' 43 0 (6 * r + b) = μ 43 0 (6 * r + b)) → mHeld μ' r n = mHeld μ r n
  | 0, _ => rfl
  | n + 1, h => by rw [mHeld, mHeld, h n (by omega), mHeld_congr n (fun b hb => h b (by omega))]
theorem nSm_congr {μ μ' : gMem} {r : Nat} : ∀ n, (∀ b, b < n → μ' 45 0 (12 * r + b) = μ 45 0 (12 * r + b)) → nSm μ' r n = nSm μ r n
  | 0, _ => rfl
  | n + 1, h => by rw [nSm, nSm, h n (by omega), nSm_congr n (fun b hb => h b (by omega))]
theorem nLe_congr {μ μ' : gMem} {r : Nat} {x : Int32} : ∀ n, (∀ b, b < n → μ' 45 0 (12 * r + b) = μ 45 0 (12 * r + b)) → nLe μ' r x n = nLe μ r x n
  | 0, _ => rfl
  | n + 1, h => by rw [nLe, nLe, h n (by omega), nLe_congr n (fun b hb => h b (by omega))]
theorem cLe_congr {κ κ' : gMem} {r : Nat} {x : Int32} : ∀ n, (∀ b, b < n → κ' 16 r b = κ 16 r b) → cLe κ' r x n = cLe κ r x n
  | 0, _ => rfl
  | n + 1, h => by rw [cLe, cLe, h n (by omega), cLe_congr n (fun b hb => h b (by omega))]
/-! the same slots: the same ties -/
theorem rP.to {κ κ' μ μ' : gMem} {k : Nat} (h : rP κ μ k) (h1 : κ' 4 k 1 = κ 4 k 1) (h2 : κ' 4 k 2 = κ 4 k 2) (h3 : κ' 4 k 3 = κ 4 k 3) (h4 : μ' 21 0 k = μ 21 0 k) (h5 : μ' 22 0 k = μ 22 0 k) (h6 : μ' 23 0 k = μ 23 0 k) (h7 : μ' 24 0 k = μ 24 0 k) (hn : tN (κ 7 0 4) ≤ tN (κ' 7 0 4)) : rP κ' μ' k := by
  obtain ⟨a1, a2, a3, a4, a5, a6⟩ := h
  refine ⟨by rw [h1, h4]; exact a1, by rw [h2, h5]; exact a2, by rw [h3, h6]; exact a3, by rw [h2]; exact a4, ?_, by rw [h7, sLost, h2, h3]; exact a6⟩
  rw [h3]
  exact ⟨a5.1, by have := a5.2; omega⟩
theorem rS.to {κ κ' μ μ' : gMem} {k : Nat} (h : rS κ μ k) (h1 : ∀ j, j ≠ 5 → κ' 5 k j = κ 5 k j) (h2 : ∀ f, 25 ≤ f → f ≤ 29 → μ' f 0 k = μ f 0 k) : rS κ' μ' k := by
  obtain ⟨a1, a2, a3, a4, a5, a6, a7, a8⟩ := h
  refine ⟨?_, ?_, ?_, ?_, ?_, ?_, ?_, ?_⟩
  · rw [h1 1 (by decide), h2 25 (by decide) (by decide)]; exact a1
  · rw [h1 1 (by decide)]; exact a2
  · rw [h1 2 (by decide), h2 28 (by decide) (by decide)]; exact a3
  · rw [h1 2 (by decide)]; exact a4
  · rw [h1 2 (by decide)]; exact a5
  · rw [h1 3 (by decide), h2 26 (by decide) (by decide)]; exact a6
  · rw [h1 4 (by decide), h2 27 (by decide) (by decide)]; exact a7
  · rw [h1 6 (by decide), h2 29 (by decide) (by decide)]; exact a8
theorem rW.to {κ κ' μ μ' : gMem} {b k : Nat} (h : rW κ μ b k) (h1 : κ' 14 b k = κ 14 b k) (h2 : ∀ j, κ' 6 (12 * b + k) j = κ 6 (12 * b + k) j) (h3 : ∀ f, 32 ≤ f → f ≤ 35 → μ' f 0 (12 * b + k) = μ f 0 (12 * b + k)) (h4 : κ' 7 0 6 = κ 7 0 6) (h5 : κ 7 0 7 ≤ κ' 7 0 7) : rW κ' μ' b k := by
  rcases h with ⟨a1, a2, a3⟩ | ⟨a1, a2, a3, a4, a5, a6, t, t1, t2, t3, t4⟩
  · left
    exact ⟨by rw [h1]; exact a1, by rw [h3 32 (by decide) (by decide)]; exact a2, by rw [h3 35 (by decide) (by decide)]; exact a3⟩
  · right
    exact ⟨by rw [h1]; exact a1, by rw [h3 32 (by decide) (by decide)]; exact a2, by rw [h2, h3 34 (by decide) (by decide)]; exact a3, by rw [h2, h3 33 (by decide) (by decide)]; exact a4, by rw [h2, h3 35 (by decide) (by decide)]; exact a5, by rw [h2]; exact a6, t, by rw [h2]; exact t1, by rw [h4]; exact t2, t3, Int32.le_trans t4 h5⟩
theorem rR.to {κ κ' μ μ' : gMem} {r : Nat} (h : rR κ μ r) (h1 : ∀ j, j ≠ 4 → j ≠ 7 → j ≠ 8 → j ≠ 9 → κ' 3 r j = κ 3 r j) (h2 : ∀ f, 37 ≤ f → f ≤ 40 → μ' f 0 r = μ f 0 r) (h3 : μ' 44 0 r = μ 44 0 r) : rR κ' μ' r := by
  obtain ⟨a1, a2, a3, a4, a5, a6, a7, a8⟩ := h
  refine ⟨?_, ?_, ?_, ?_, ?_, ?_, ?_, ?_⟩
  · rw [h1 0 (by decide) (by decide) (by decide) (by decide), h2 37 (by decide) (by decide)]; exact a1
  · rw [h1 1 (by decide) (by decide) (by decide) (by decide), h2 38 (by decide) (by decide)]; exact a2
  · rw [h1 1 (by decide) (by decide) (by decide) (by decide)]; exact a3
  · rw [h1 2 (by decide) (by decide) (by decide) (by decide), h2 40 (by decide) (by decide)]; exact a4
  · rw [h1 3 (by decide) (by decide) (by decide) (by decide), h2 39 (by decide) (by decide)]; exact a5
  · rw [h1 3 (by decide) (by decide) (by decide) (by decide)]; exact a6
  · rw [h1 6 (by decide) (by decide) (by decide) (by decide), h3]; exact a7
  · rw [h1 0 (by decide) (by decide) (by decide) (by decide)]; exact a8
theorem rH.to {κ κ' μ μ' : gMem} {r : Nat} (h : rH κ μ r) (h1 : κ' 3 r 3 = κ 3 r 3) (h2 : κ' 3 r 4 = κ 3 r 4) (h3 : κ' 3 r 7 = κ 3 r 7) (h38 : κ' 3 r 8 = κ 3 r 8) (h4 : ∀ b, b < 6 → κ' 15 r b = κ 15 r b) (h5 : ∀ b, b < 6 → μ' 43 0 (6 * r + b) = μ 43 0 (6 * r + b)) (h6 : μ' 44 0 r = μ 44 0 r) (h7 : μ' 41 0 r = μ 41 0 r) (h8 : κ' 7 0 6 = κ 7 0 6) (h9 : κ 7 0 7 ≤ κ' 7 0 7) : rH κ' μ' r := by
  rcases h with ⟨a1, a2, a3, a8, t, t1, t2, t3, t4, t5⟩ | ⟨a1, a2, a3⟩
  · left
    refine ⟨by rw [h1]; exact a1, fun b hb => ?_, by rw [h3, mHeld_congr 6 h5]; exact a3, by rw [h38]; exact a8, t, by rw [h7]; exact t1, by rw [h2]; exact t2, by rw [h8]; exact t3, t4, Int32.le_trans t5 h9⟩
    rw [rU, h4 b hb, h5 b hb, h6]
    exact a2 b hb
  · right
    exact ⟨by rw [h1]; exact a1, by rw [h3]; exact a2, fun b hb => by rw [h5 b hb]; exact a3 b hb⟩
theorem rSm.to {κ κ' μ μ' : gMem} {r : Nat} (h : rSm κ μ r) (h1 : κ' 2 r 2 = κ 2 r 2) (h2 : κ' 2 r 3 = κ 2 r 3) (h3 : ∀ k, κ' 16 r k = κ 16 r k) (h4 : ∀ k, k < 12 → μ' 45 0 (12 * r + k) = μ 45 0 (12 * r + k)) : rSm κ' μ' r := by
  obtain ⟨a1, a2, a3, a4, a5⟩ := h
  refine ⟨by rw [h1]; exact a1, by rw [h1, nSm_congr 12 h4]; exact a2, fun k hk => by rw [h2, h4 k hk]; exact a3 k hk, fun i j hij hj => by rw [h3, h3]; rw [h1] at hj; exact a4 i j hij hj, fun x => ?_⟩
  rw [h1, nLe_congr 12 h4, cLe_congr _ (fun b _ => h3 b)]
  exact a5 x
theorem rQ.to {κ κ' μ μ' : gMem} {r : Nat} (h : rQ κ μ r) (h1 : κ' 3 r 3 = κ 3 r 3) (h2 : κ' 3 r 9 = κ 3 r 9) (h3 : ∀ k, κ' 2 r k = κ 2 r k) (h4 : ∀ k, κ' 16 r k = κ 16 r k) (h5 : ∀ k, k < 12 → μ' 45 0 (12 * r + k) = μ 45 0 (12 * r + k)) (h6 : μ' 42 0 r = μ 42 0 r) (h7 : μ' 37 0 r = μ 37 0 r) : rQ κ' μ' r := by
  rcases h with ⟨a1, a2, a3⟩ | ⟨a1, a2, a3, a4, a5, a6⟩
  · left
    exact ⟨by rw [h2]; exact a1, by rw [h1]; exact a2, fun k hk => by rw [h5 k hk]; exact a3 k hk⟩
  · right
    exact ⟨by rw [h2]; exact a1, by rw [h1]; exact a2, by rw [h3, h6]; exact a3, by rw [h3]; exact a4, a5.to (h3 2) (h3 3) h4 h5, by rw [h1, h3, h7]; exact a6⟩
theorem rN.to {μ μ' : gMem} {r : Nat} (h : rN μ r) (h1 : μ' 40 0 r = μ 40 0 r) (h2 : μ' 44 0 r = μ 44 0 r) (h3 : ∀ b, b < 6 → μ' 43 0 (6 * r + b) = μ 43 0 (6 * r + b)) (h4 : ∀ k, k < 12 → μ' 45 0 (12 * r + k) = μ 45 0 (12 * r + k)) : rN μ' r :=
  ⟨by rw [h1]; exact h.1, by rw [h2]; exact h.2.1, fun b hb => by rw [h3 b hb]; exact h.2.2.1 b hb, fun k hk => by rw [h4 k hk]; exact h.2.2.2 k hk⟩
theorem rC.to {κ κ' : gMem} {k : Nat} (h : rC κ k) (hn : κ' 7 0 4 = κ 7 0 4) (h5 : κ' 5 k 5 = κ 5 k 5) (h3 : κ' 5 k 3 = κ 5 k 3) (hr : ∀ r, κ' 3 r 0 = κ 3 r 0 ∧ κ' 3 r 8 = κ 3 r 8) : rC κ' k := by
  rw [rC, hn, h3, sCuts_congr h5 _ (fun r _ => hr r)]
  exact h
theorem rT.to {κ κ' μ μ' : gMem} (h : rT κ μ) (h1 : κ' 7 0 6 = κ 7 0 6) (h2 : κ' 7 0 5 = κ 7 0 5) (h3 : κ' 7 0 4 = κ 7 0 4) (h4 : μ' 8 0 0 = μ 8 0 0) (h5 : μ' 8 0 11 = μ 8 0 11) (h6 : μ' 8 0 16 = μ 8 0 16) : rT κ' μ' := by
  rw [rT, h1, h2, h3, h4, h5, h6]; exact h
theorem Rel.cong {κ κ' μ μ' : gMem} (h : Rel κ μ) (hc : cEq κ κ') (hm : mEq μ μ') : Rel κ' μ' := by
  obtain ⟨h1, h2, h3, h4, h5, h6, h7, h8⟩ := h
  have c : ∀ f i k, f ≠ 8 → f < 18 → κ' f i k = κ f i k := hc
  have m : ∀ f k, 20 ≤ f → μ' f 0 k = μ f 0 k := fun f k hf => hm f 0 k (Or.inr hf)
  have e4 : κ' 7 0 4 = κ 7 0 4 := c _ _ _ (by decide) (by decide)
  have e6 : κ' 7 0 6 = κ 7 0 6 := c _ _ _ (by decide) (by decide)
  have e7 : κ 7 0 7 ≤ κ' 7 0 7 := by rw [c 7 0 7 (by decide) (by decide)]; exact Int32.le_refl _
  refine ⟨h1.to e6 (c _ _ _ (by decide) (by decide)) e4 (hm _ _ _ (Or.inl rfl)) (hm _ _ _ (Or.inl rfl)) (hm _ _ _ (Or.inl rfl)), fun k hk => (h2 k hk).to (c _ _ _ (by decide) (by decide)) (c _ _ _ (by decide) (by decide)) (c _ _ _ (by decide) (by decide)) (m _ _ (by decide)) (m _ _ (by decide)) (m _ _ (by decide)) (m _ _ (by decide)) (by rw [e4]; exact Nat.le_refl _), fun k hk => (h3 k hk).to (fun j _ => c _ _ _ (by decide) (by decide)) (fun f f1 _ => m _ _ (by omega)), fun k hk => (h4 k hk).to e4 (c _ _ _ (by decide) (by decide)) (c _ _ _ (by decide) (by decide)) (fun r => ⟨c _ _ _ (by decide) (by decide), c _ _ _ (by decide) (by decide)⟩), fun b hb => ?_, fun b k hb hk => (h6 b k hb hk).to (c _ _ _ (by decide) (by decide)) (fun j => c _ _ _ (by decide) (by decide)) (fun f f1 _ => m _ _ (by omega)) e6 e7, fun r hr => ?_, fun r a b => ?_⟩
  · rw [rB, c _ _ _ (by decide) (by decide), m _ _ (by decide)]; exact h5 b hb
  · rw [e4] at hr
    obtain ⟨a1, a2, a3⟩ := h7 r hr
    exact ⟨a1.to (fun j _ _ _ _ => c _ _ _ (by decide) (by decide)) (fun f f1 _ => m _ _ (by omega)) (m _ _ (by decide)), a2.to (c _ _ _ (by decide) (by decide)) (c _ _ _ (by decide) (by decide)) (c _ _ _ (by decide) (by decide)) (c _ _ _ (by decide) (by decide)) (fun b _ => c _ _ _ (by decide) (by decide)) (fun b _ => m _ _ (by decide)) (m _ _ (by decide)) (m _ _ (by decide)) e6 e7, a3.to (c _ _ _ (by decide) (by decide)) (c _ _ _ (by decide) (by decide)) (fun k => c _ _ _ (by decide) (by decide)) (fun k => c _ _ _ (by decide) (by decide)) (fun k _ => m _ _ (by decide)) (m _ _ (by decide)) (m _ _ (by decide))⟩
  · rw [e4] at a
    exact (h8 r a b).to (m _ _ (by decide)) (m _ _ (by decide)) (fun b _ => m _ _ (by decide)) (fun k _ => m _ _ (by decide))
theorem Rel.rd {κ μ : gMem} (h : Rel κ μ) {r : Nat} (hr : r < tN (κ 7 0 4)) : rR κ μ r ∧ rH κ μ r ∧ rQ κ μ r := h.2.2.2.2.2.2.1 r hr
theorem Rel.can {κ μ : gMem} (h : Rel κ μ) (t : Int32) : Rel κ (mCan μ t) := by
  obtain ⟨h1, h2, h3, h4, h5, h6, h7, h8⟩ := h
  refine ⟨h1, fun k hk => (h2 k hk).to rfl rfl rfl rfl rfl rfl rfl (Nat.le_refl _), h3, h4, h5, h6, fun r hr => ?_, fun r a b => (h8 r a b).to rfl rfl (fun _ _ => rfl) (fun _ _ => rfl)⟩
  obtain ⟨a1, a2, a3⟩ := h7 r hr
  exact ⟨a1, a2.to rfl rfl rfl rfl (fun _ _ => rfl) (fun _ _ => rfl) rfl rfl rfl (Int32.le_refl _), a3.to rfl rfl (fun _ => rfl) (fun _ => rfl) (fun _ _ => rfl) rfl rfl⟩
/-! numbers -/
theorem ixL0 {n : Nat} (h : 0 < n) : ixL 0 n := by
  have e : tN (0 : Int32) = 0 := by decide +kernel
  exact ⟨by rw [e]; rfl, by rw [e]; exact h⟩
theorem mIn_z {n a b : Int32} : mIn n a b = 0 ↔ n < a ∨ b < n := by
  constructor
  · intro h
    by_cases h1 : n < a
    · exact Or.inl h1
    · by_cases h2 : b < n
      · exact Or.inr h2
      · exact absurd h (mIn_ok h1 h2)
  · rintro (h | h)
    · exact mIn_lo h
    · exact mIn_hi h
theorem i32n (x : Int32) : tN x = x.toInt.toNat := rfl
theorem hangT_eq {a b : Int32} : sHangT a b = mHangT a b := by
  have z0 : (0 : Int32).toInt = 0 := by decide +kernel
  have z1 : (1 : Int32).toInt = 1 := by decide +kernel
  have z5 : (5 : Int32).toInt = 5 := by decide +kernel
  by_cases h1 : mIn a 1 5 = 0
  · have e : mHangT a b = 1 := by rw [mHangT, if_pos h1]
    rw [e, sHangT]
    by_cases h2 : mIn a 0 5 = 0
    · rw [if_pos h2]
    · rw [if_neg h2]
      by_cases h3 : mIn b 0 5 = 0
      · rw [if_pos h3]
      · rw [if_neg h3, if_pos]
        rw [mIn_z, Int32.lt_iff_toInt_lt, Int32.lt_iff_toInt_lt, z1, z5] at h1
        rw [mIn_z, Int32.lt_iff_toInt_lt, Int32.lt_iff_toInt_lt, z0, z5] at h2
        rw [i32n]
        omega
  · have h1' := h1
    rw [mIn_z, Int32.lt_iff_toInt_lt, Int32.lt_iff_toInt_lt, z1, z5] at h1
    have ea : (a - 1).toInt = a.toInt - 1 := by
      obtain ⟨ha, hb, hc⟩ := mIn_rng' (m := 5) h1' (by decide) (by decide)
      rw [ha, show nI (tN a) - 1 = nI (tN a - 1) by
        obtain ⟨q, hq⟩ : ∃ q, tN a = q + 1 := ⟨tN a - 1, by rw [i32n] at hb ⊢; omega⟩
        rw [hq, nI_pred]; rfl, nI_toInt (by omega), nI_toInt (by omega)]
      rw [i32n] at hb ⊢
      omega
    have h2 : ¬ mIn a 0 5 = 0 := by
      rw [mIn_z, Int32.lt_iff_toInt_lt, Int32.lt_iff_toInt_lt, z0, z5]; omega
    have h3 : ¬ tN a = 0 := by rw [i32n]; omega
    rw [mHangT, if_neg h1', sHangT, if_neg h2]
    by_cases h4 : mIn b 0 (a - 1) = 0
    · rw [if_pos h4]
      by_cases h5 : mIn b 0 5 = 0
      · rw [if_pos h5]
      · rw [if_neg h5, if_neg h3, if_neg]
        rw [mIn_z, Int32.lt_iff_toInt_lt, Int32.lt_iff_toInt_lt, z0, ea] at h4
        rw [mIn_z, Int32.lt_iff_toInt_lt, Int32.lt_iff_toInt_lt, z0, z5] at h5
        rw [Int32.lt_iff_toInt_lt]
        omega
    · rw [if_neg h4]
      rw [mIn_z, Int32.lt_iff_toInt_lt, Int32.lt_iff_toInt_lt, z0, ea] at h4
      rw [if_neg (by rw [mIn_z, Int32.lt_iff_toInt_lt, Int32.lt_iff_toInt_lt, z0, z5]; omega), if_neg h3, if_pos (by rw [Int32.lt_iff_toInt_lt]; omega)]
