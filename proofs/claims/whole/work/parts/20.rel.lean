/-! ===== the class's numbers and the reference's, in one memory: what ties them ===== -/
def cKeep (κ κ' : gMem) : Prop := ∀ f i k, f = 8 ∨ 20 ≤ f → κ' f i k = κ f i k
def mKeep (κ κ' : gMem) : Prop := ∀ f i k, f ≠ 8 → f < 20 → κ' f i k = κ f i k
theorem cKeep.rf {κ : gMem} : cKeep κ κ := fun _ _ _ _ => rfl
theorem mKeep.rf {κ : gMem} : mKeep κ κ := fun _ _ _ _ _ => rfl
theorem cKeep.tr {κ κ1 κ2 : gMem} (h1 : cKeep κ κ1) (h2 : cKeep κ1 κ2) : cKeep κ κ2 := fun f i k h => (h2 f i k h).trans (h1 f i k h)
theorem mKeep.tr {κ κ1 κ2 : gMem} (h1 : mKeep κ κ1) (h2 : mKeep κ1 κ2) : mKeep κ κ2 := fun f i k h h' => (h2 f i k h h').trans (h1 f i k h h')
theorem cKeep.upd {κ : gMem} {f i k : Nat} {x : Int32} (h : f ≠ 8) (h2 : f < 20) : cKeep κ (upd3 κ f i k x) := fun g j l hg => upd3_n (fun z => by omega)
theorem cKeep.updR {κ : gMem} {f i : Nat} {r : Nat → Int32} (h : f ≠ 8) (h2 : f < 20) : cKeep κ (updR κ f i r) := fun g j l hg => by rw [updR_far (fun z => by omega)]
theorem mKeep.upd {κ : gMem} {f i k : Nat} {x : Int32} (h : f = 8 ∨ 20 ≤ f) : mKeep κ (upd3 κ f i k x) := fun g j l hg hl => upd3_n (fun z => by omega)
theorem cKeep.it {F : Nat → gMem → gMem} (h : ∀ k κ, cKeep κ (F k κ)) (n : Nat) (κ : gMem) : cKeep κ (gIt F n κ) := by
  induction n with
  | zero => exact cKeep.rf
  | succ n ih => exact ih.tr (h n _)
theorem mKeep.it {F : Nat → gMem → gMem} (h : ∀ k κ, mKeep κ (F k κ)) (n : Nat) (κ : gMem) : mKeep κ (gIt F n κ) := by
  induction n with
  | zero => exact mKeep.rf
  | succ n ih => exact ih.tr (h n _)
def rT (κ : gMem) : Prop := κ 7 0 6 = κ 8 0 0 ∧ ixL (κ 7 0 6) 10001 ∧ κ 7 0 5 = κ 8 0 11 ∧ κ 7 0 4 = κ 8 0 16 ∧ ixL (κ 7 0 4) 81
def rP (κ : gMem) (k : Nat) : Prop := (k ≠ 0 → κ 4 k 1 = κ 21 0 k ∧ ixL (κ 4 k 1) k) ∧ κ 4 k 2 = κ 22 0 k ∧ κ 4 k 3 = κ 23 0 k ∧ ixL (κ 4 k 2) 10 ∧ ixL (κ 4 k 3) (4 * tN (κ 7 0 4) + 1) ∧ κ 24 0 k = sLost κ k
def rS (κ : gMem) (k : Nat) : Prop := κ 5 k 1 = κ 25 0 k ∧ ixL (κ 5 k 1) 6 ∧ κ 5 k 2 = κ 28 0 k ∧ ixL (κ 5 k 2) 21 ∧ κ 5 k 2 ≠ 0 ∧ κ 5 k 3 = κ 26 0 k ∧ κ 5 k 4 = κ 27 0 k ∧ κ 5 k 6 = κ 29 0 k
def rC (κ : gMem) (k : Nat) : Prop := sCuts κ k (tN (κ 7 0 4)) = κ 5 k 3
def rB (κ : gMem) (b : Nat) : Prop := κ 1 b 0 = κ 30 0 b
/-- a price that was paid -/
def pr20 (x : Int32) : Prop := ∃ q, 1 ≤ q ∧ q ≤ 20 ∧ x = nI q
def rW (κ : gMem) (b k : Nat) : Prop := (κ 14 b k = -1 ∧ κ 32 0 (12 * b + k) = 0 ∧ κ 35 0 (12 * b + k) = 0) ∨
  (κ 14 b k = nI (12 * b + k) ∧ κ 32 0 (12 * b + k) = 1 ∧ κ 6 (12 * b + k) 0 = κ 34 0 (12 * b + k) ∧ κ 6 (12 * b + k) 1 = κ 33 0 (12 * b + k) ∧ κ 6 (12 * b + k) 2 = κ 35 0 (12 * b + k) ∧ pr20 (κ 6 (12 * b + k) 0) ∧ ∃ t, κ 6 (12 * b + k) 1 = nI t ∧ tN (κ 7 0 6) ≤ t ∧ t ≤ 10100 ∧ nI t ≤ κ 7 0 7)
def rR (κ : gMem) (r : Nat) : Prop := κ 3 r 0 = κ 37 0 r ∧ κ 3 r 1 = κ 38 0 r ∧ ixL (κ 3 r 1) 100 ∧ κ 3 r 2 = κ 40 0 r ∧ κ 3 r 3 = κ 39 0 r ∧ ixL (κ 3 r 3) 5 ∧ κ 3 r 6 = mSize (κ 44 0 r) 6 ∧ ixL (κ 3 r 0) 12
def bitB (u : Int32) (b : Nat) : Int32 := u >>> (nI b &&& 31) &&& 1
def rU (κ : gMem) (r b : Nat) : Prop := (bitB (κ 44 0 r) b = 1 ∧ pr20 (κ 15 r b)) ∨ (bitB (κ 44 0 r) b = 0 ∧ κ 15 r b = 0)
def rH (κ : gMem) (r : Nat) : Prop :=
  ((κ 3 r 3 = 0 ∨ κ 3 r 3 = 1) ∧ (∀ b, b < 6 → κ 15 r b = κ 43 0 (6 * r + b) ∧ rU κ r b) ∧ κ 3 r 7 = mHeld κ r 6 ∧ ∃ t, κ 41 0 r = nI t ∧ κ 3 r 4 = nI (t + 4) ∧ tN (κ 7 0 6) ≤ t + 4 ∧ t ≤ 10000 ∧ nI (t + 4) ≤ κ 7 0 7) ∨
  (¬ (κ 3 r 3 = 0 ∨ κ 3 r 3 = 1) ∧ κ 3 r 7 = 0 ∧ ∀ b, b < 6 → κ 43 0 (6 * r + b) = 0)
/-- the samples: how many are at most x; the class's stand in order -/
def nSm (κ : gMem) (r : Nat) : Nat → Nat
  | 0 => 0
  | k + 1 => nSm κ r k + (if κ 45 0 (12 * r + k) = -1 then 0 else 1)
def nLe (κ : gMem) (r : Nat) (x : Int32) : Nat → Nat
  | 0 => 0
  | k + 1 => nLe κ r x k + (if κ 45 0 (12 * r + k) = -1 then 0 else if κ 45 0 (12 * r + k) ≤ x then 1 else 0)
def cLe (κ : gMem) (r : Nat) (x : Int32) : Nat → Nat
  | 0 => 0
  | k + 1 => cLe κ r x k + (if κ 16 r k ≤ x then 1 else 0)
def rSm (κ : gMem) (r : Nat) : Prop :=
  ixL (κ 2 r 2) 5 ∧ tN (κ 2 r 2) = nSm κ r 12 ∧ (∀ k, k < 12 → (bitB (κ 2 r 3) k = 0 ↔ κ 45 0 (12 * r + k) = -1) ∧ (κ 45 0 (12 * r + k) = -1 ∨ ixL (κ 45 0 (12 * r + k)) 100)) ∧
  (∀ i j, i < j → j < tN (κ 2 r 2) → κ 16 r i ≤ κ 16 r j) ∧ ∀ x : Int32, cLe κ r x (tN (κ 2 r 2)) = nLe κ r x 12
def rQ (κ : gMem) (r : Nat) : Prop := (κ 3 r 9 = -1 ∧ κ 3 r 3 ≠ 1 ∧ ∀ k, k < 12 → κ 45 0 (12 * r + k) = -1) ∨
  (κ 3 r 9 = nI r ∧ κ 3 r 3 ≠ 0 ∧ κ 2 r 0 = κ 42 0 r ∧ ixL (κ 2 r 0) 6 ∧ rSm κ r ∧ (κ 3 r 3 = 1 → κ 2 r 2 < mNbs (κ 37 0 r) 12))
def rN (κ : gMem) (r : Nat) : Prop := κ 40 0 r = 0 ∧ κ 44 0 r = 0 ∧ (∀ b, b < 6 → κ 43 0 (6 * r + b) = 0) ∧ ∀ k, k < 12 → κ 45 0 (12 * r + k) = -1
def Rel (κ : gMem) : Prop := rT κ ∧ (∀ k, k < 6 → rP κ k) ∧ (∀ k, k < 12 → rS κ k) ∧ (∀ k, k < 12 → rC κ k) ∧ (∀ b, b < 6 → rB κ b) ∧ (∀ b k, b < 6 → k < 12 → rW κ b k) ∧ (∀ r, r < tN (κ 7 0 4) → rR κ r ∧ rH κ r ∧ rQ κ r) ∧ (∀ r, tN (κ 7 0 4) ≤ r → r < 80 → rN κ r)
/-! what walks along other slots doesn't see -/
theorem sCuts_congr {κ κ' : gMem} {s : Nat} (h5 : κ' 5 s 5 = κ 5 s 5) : ∀ n, (∀ k, k < n → κ' 3 k 0 = κ 3 k 0 ∧ κ' 3 k 8 = κ 3 k 8) → sCuts κ' s n = sCuts κ s n
  | 0, _ => by rw [sCuts, sCuts, h5]
  | n + 1, h => by rw [sCuts, sCuts, (h n (by omega)).1, (h n (by omega)).2, sCuts_congr h5 n (fun k hk => h k (by omega))]
theorem mHeld_congr {κ κ' : gMem} {r : Nat} : ∀ n, (∀ b, b < n → κ' 43 0 (6 * r + b) = κ 43 0 (6 * r + b)) → mHeld κ' r n = mHeld κ r n
  | 0, _ => rfl
  | n + 1, h => by rw [mHeld, mHeld, h n (by omega), mHeld_congr n (fun b hb => h b (by omega))]
theorem nSm_congr {κ κ' : gMem} {r : Nat} : ∀ n, (∀ b, b < n → κ' 45 0 (12 * r + b) = κ 45 0 (12 * r + b)) → nSm κ' r n = nSm κ r n
  | 0, _ => rfl
  | n + 1, h => by rw [nSm, nSm, h n (by omega), nSm_congr n (fun b hb => h b (by omega))]
theorem nLe_congr {κ κ' : gMem} {r : Nat} {x : Int32} : ∀ n, (∀ b, b < n → κ' 45 0 (12 * r + b) = κ 45 0 (12 * r + b)) → nLe κ' r x n = nLe κ r x n
  | 0, _ => rfl
  | n + 1, h => by rw [nLe, nLe, h n (by omega), nLe_congr n (fun b hb => h b (by omega))]
theorem cLe_congr {κ κ' : gMem} {r : Nat} {x : Int32} : ∀ n, (∀ b, b < n → κ' 16 r b = κ 16 r b) → cLe κ' r x n = cLe κ r x n
  | 0, _ => rfl
  | n + 1, h => by rw [cLe, cLe, h n (by omega), cLe_congr n (fun b hb => h b (by omega))]
/-! the same slots: the same ties -/
theorem rP.to {κ κ' : gMem} {k : Nat} (h : rP κ k) (h1 : κ' 4 k 1 = κ 4 k 1) (h2 : κ' 4 k 2 = κ 4 k 2) (h3 : κ' 4 k 3 = κ 4 k 3) (h4 : κ' 21 0 k = κ 21 0 k) (h5 : κ' 22 0 k = κ 22 0 k) (h6 : κ' 23 0 k = κ 23 0 k) (h7 : κ' 24 0 k = κ 24 0 k) (hn : tN (κ 7 0 4) ≤ tN (κ' 7 0 4)) : rP κ' k := by
  obtain ⟨a1, a2, a3, a4, a5, a6⟩ := h
  refine ⟨by rw [h1, h4]; exact a1, by rw [h2, h5]; exact a2, by rw [h3, h6]; exact a3, by rw [h2]; exact a4, ?_, by rw [h7, sLost, h2, h3]; exact a6⟩
  rw [h3]
  exact ⟨a5.1, by have := a5.2; omega⟩
theorem rS.to {κ κ' : gMem} {k : Nat} (h : rS κ k) (h1 : ∀ j, j ≠ 5 → κ' 5 k j = κ 5 k j) (h2 : ∀ f, 25 ≤ f → f ≤ 29 → κ' f 0 k = κ f 0 k) : rS κ' k := by
  obtain ⟨a1, a2, a3, a4, a5, a6, a7, a8⟩ := h
  refine ⟨?_, ?_, ?_, ?_, ?_, ?_, ?_, ?_⟩
  · rw [h1 1 (by decide), h2 25 (by decide) (by decide)]; exact a1
  · rw [h1 1 (by decide)]; exact a2
  · rw [h1 2 (by decide), h2 28 (by decide) (by decide)]; exact a3
  · rw [h1 2 (by decide)]; exact a4
  · rw [h1 2 (by decide)]; exact a5
  · rw [h1 3 (by decide), h2 26 (by decide) (by decide)]; exact a6
  · rw [h1 4 (by decide), h2 27 (by decide) (by decide)]; exact a7
  · rw [h1 6 (by decide), h2 29 (by decide) (by decide)]; exact a8
theorem rW.to {κ κ' : gMem} {b k : Nat} (h : rW κ b k) (h1 : κ' 14 b k = κ 14 b k) (h2 : ∀ j, κ' 6 (12 * b + k) j = κ 6 (12 * b + k) j) (h3 : ∀ f, 32 ≤ f → f ≤ 35 → κ' f 0 (12 * b + k) = κ f 0 (12 * b + k)) (h4 : κ' 7 0 6 = κ 7 0 6) (h5 : κ 7 0 7 ≤ κ' 7 0 7) : rW κ' b k := by
  rcases h with ⟨a1, a2, a3⟩ | ⟨a1, a2, a3, a4, a5, a6, t, t1, t2, t3, t4⟩
  · left
    exact ⟨by rw [h1]; exact a1, by rw [h3 32 (by decide) (by decide)]; exact a2, by rw [h3 35 (by decide) (by decide)]; exact a3⟩
  · right
    exact ⟨by rw [h1]; exact a1, by rw [h3 32 (by decide) (by decide)]; exact a2, by rw [h2, h3 34 (by decide) (by decide)]; exact a3, by rw [h2, h3 33 (by decide) (by decide)]; exact a4, by rw [h2, h3 35 (by decide) (by decide)]; exact a5, by rw [h2]; exact a6, t, by rw [h2]; exact t1, by rw [h4]; exact t2, t3, Int32.le_trans t4 h5⟩
theorem rR.to {κ κ' : gMem} {r : Nat} (h : rR κ r) (h1 : ∀ j, j ≠ 4 → j ≠ 7 → j ≠ 8 → j ≠ 9 → κ' 3 r j = κ 3 r j) (h2 : ∀ f, 37 ≤ f → f ≤ 40 → κ' f 0 r = κ f 0 r) (h3 : κ' 44 0 r = κ 44 0 r) : rR κ' r := by
  obtain ⟨a1, a2, a3, a4, a5, a6, a7, a8⟩ := h
  refine ⟨?_, ?_, ?_, ?_, ?_, ?_, ?_, ?_⟩
  · rw [h1 0 (by decide) (by decide) (by decide) (by decide), h2 37 (by decide) (by decide)]; exact a1
  · rw [h1 1 (by decide) (by decide) (by decide) (by decide), h2 38 (by decide) (by decide)]; exact a2
  · rw [h1 1 (by decide) (by decide) (by decide) (by decide)]; exact a3
  · rw [h1 2 (by decide) (by decide) (by decide) (by decide), h2 40 (by decide) (by decide)]; exact a4
  · rw [h1 3 (by decide) (by decide) (by decide) (by decide), h2 39 (by decide) (by decide)]; exact a5
  · rw [h1 3 (by decide) (by decide) (by decide) (by decide)]; exact a6
  · rw [h1 6 (by decide) (by decide) (by decide) (by decide), h3]; exact a7
  · rw [h1 0 (by decide) (by decide) (by decide) (by decide)]; exact a8
theorem rH.to {κ κ' : gMem} {r : Nat} (h : rH κ r) (h1 : κ' 3 r 3 = κ 3 r 3) (h2 : κ' 3 r 4 = κ 3 r 4) (h3 : κ' 3 r 7 = κ 3 r 7) (h4 : ∀ b, b < 6 → κ' 15 r b = κ 15 r b) (h5 : ∀ b, b < 6 → κ' 43 0 (6 * r + b) = κ 43 0 (6 * r + b)) (h6 : κ' 44 0 r = κ 44 0 r) (h7 : κ' 41 0 r = κ 41 0 r) (h8 : κ' 7 0 6 = κ 7 0 6) (h9 : κ 7 0 7 ≤ κ' 7 0 7) : rH κ' r := by
  rcases h with ⟨a1, a2, a3, t, t1, t2, t3, t4, t5⟩ | ⟨a1, a2, a3⟩
  · left
    refine ⟨by rw [h1]; exact a1, fun b hb => ?_, by rw [h3, mHeld_congr 6 h5]; exact a3, t, by rw [h7]; exact t1, by rw [h2]; exact t2, by rw [h8]; exact t3, t4, Int32.le_trans t5 h9⟩
    rw [rU, h4 b hb, h5 b hb, h6]
    exact a2 b hb
  · right
    exact ⟨by rw [h1]; exact a1, by rw [h3]; exact a2, fun b hb => by rw [h5 b hb]; exact a3 b hb⟩
theorem rSm.to {κ κ' : gMem} {r : Nat} (h : rSm κ r) (h1 : κ' 2 r 2 = κ 2 r 2) (h2 : κ' 2 r 3 = κ 2 r 3) (h3 : ∀ k, κ' 16 r k = κ 16 r k) (h4 : ∀ k, k < 12 → κ' 45 0 (12 * r + k) = κ 45 0 (12 * r + k)) : rSm κ' r := by
  obtain ⟨a1, a2, a3, a4, a5⟩ := h
  refine ⟨by rw [h1]; exact a1, by rw [h1, nSm_congr 12 h4]; exact a2, fun k hk => by rw [h2, h4 k hk]; exact a3 k hk, fun i j hij hj => by rw [h3, h3]; rw [h1] at hj; exact a4 i j hij hj, fun x => ?_⟩
  rw [h1, nLe_congr 12 h4, cLe_congr _ (fun b _ => h3 b)]
  exact a5 x
theorem rQ.to {κ κ' : gMem} {r : Nat} (h : rQ κ r) (h1 : κ' 3 r 3 = κ 3 r 3) (h2 : κ' 3 r 9 = κ 3 r 9) (h3 : ∀ k, κ' 2 r k = κ 2 r k) (h4 : ∀ k, κ' 16 r k = κ 16 r k) (h5 : ∀ k, k < 12 → κ' 45 0 (12 * r + k) = κ 45 0 (12 * r + k)) (h6 : κ' 42 0 r = κ 42 0 r) (h7 : κ' 37 0 r = κ 37 0 r) : rQ κ' r := by
  rcases h with ⟨a1, a2, a3⟩ | ⟨a1, a2, a3, a4, a5, a6⟩
  · left
    exact ⟨by rw [h2]; exact a1, by rw [h1]; exact a2, fun k hk => by rw [h5 k hk]; exact a3 k hk⟩
  · right
    exact ⟨by rw [h2]; exact a1, by rw [h1]; exact a2, by rw [h3, h6]; exact a3, by rw [h3]; exact a4, a5.to (h3 2) (h3 3) h4 h5, by rw [h1, h3, h7]; exact a6⟩
theorem rN.to {κ κ' : gMem} {r : Nat} (h : rN κ r) (h1 : κ' 40 0 r = κ 40 0 r) (h2 : κ' 44 0 r = κ 44 0 r) (h3 : ∀ b, b < 6 → κ' 43 0 (6 * r + b) = κ 43 0 (6 * r + b)) (h4 : ∀ k, k < 12 → κ' 45 0 (12 * r + k) = κ 45 0 (12 * r + k)) : rN κ' r :=
  ⟨by rw [h1]; exact h.1, by rw [h2]; exact h.2.1, fun b hb => by rw [h3 b hb]; exact h.2.2.1 b hb, fun k hk => by rw [h4 k hk]; exact h.2.2.2 k hk⟩
theorem rC.to {κ κ' : gMem} {k : Nat} (h : rC κ k) (hn : κ' 7 0 4 = κ 7 0 4) (h5 : κ' 5 k 5 = κ 5 k 5) (h3 : κ' 5 k 3 = κ 5 k 3) (hr : ∀ r, κ' 3 r 0 = κ 3 r 0 ∧ κ' 3 r 8 = κ 3 r 8) : rC κ' k := by
  rw [rC, hn, h3, sCuts_congr h5 _ (fun r _ => hr r)]
  exact h
/-- the relation, when only a few slots changed: by its members -/
theorem Rel.rd {κ : gMem} (h : Rel κ) {r : Nat} (hr : r < tN (κ 7 0 4)) : rR κ r ∧ rH κ r ∧ rQ κ r := h.2.2.2.2.2.2.1 r hr
theorem Rel.can {κ : gMem} (h : Rel κ) (t : Int32) : Rel (mCan κ t) := by
  obtain ⟨h1, h2, h3, h4, h5, h6, h7, h8⟩ := h
  refine ⟨h1, fun k hk => (h2 k hk).to rfl rfl rfl rfl rfl rfl rfl (Nat.le_refl _), h3, fun k hk => (h4 k hk).to rfl rfl rfl (fun _ => ⟨rfl, rfl⟩), h5, h6, fun r hr => ?_, fun r a b => (h8 r a b).to rfl rfl (fun _ _ => rfl) (fun _ _ => rfl)⟩
  obtain ⟨a1, a2, a3⟩ := h7 r hr
  exact ⟨a1, a2.to rfl rfl rfl (fun _ _ => rfl) (fun _ _ => rfl) rfl rfl rfl (Int32.le_refl _), a3.to rfl rfl (fun _ => rfl) (fun _ => rfl) (fun _ _ => rfl) rfl rfl⟩
/-! numbers -/
theorem ixL0 {n : Nat} (h : 0 < n) : ixL 0 n := by
  have e : tN (0 : Int32) = 0 := by decide +kernel
  exact ⟨by rw [e]; rfl, by rw [e]; exact h⟩
theorem mIn_z {n a b : Int32} : mIn n a b = 0 ↔ n < a ∨ b < n := by
  constructor
  · intro h
    by_cases h1 : n < a
    · exact Or.inl h1
    · by_cases h2 : b < n
      · exact Or.inr h2
      · exact absurd h (mIn_ok h1 h2)
  · rintro (h | h)
    · exact mIn_lo h
    · exact mIn_hi h
theorem i32n (x : Int32) : tN x = x.toInt.toNat := rfl
theorem hangT_eq {a b : Int32} : sHangT a b = mHangT a b := by
  have z0 : (0 : Int32).toInt = 0 := by decide +kernel
  have z1 : (1 : Int32).toInt = 1 := by decide +kernel
  have z5 : (5 : Int32).toInt = 5 := by decide +kernel
  by_cases h1 : mIn a 1 5 = 0
  · have e : mHangT a b = 1 := by rw [mHangT, if_pos h1]
    rw [e, sHangT]
    by_cases h2 : mIn a 0 5 = 0
    · rw [if_pos h2]
    · rw [if_neg h2]
      by_cases h3 : mIn b 0 5 = 0
      · rw [if_pos h3]
      · rw [if_neg h3, if_pos]
        rw [mIn_z, Int32.lt_iff_toInt_lt, Int32.lt_iff_toInt_lt, z1, z5] at h1
        rw [mIn_z, Int32.lt_iff_toInt_lt, Int32.lt_iff_toInt_lt, z0, z5] at h2
        rw [i32n]
        omega
  · have h1' := h1
    rw [mIn_z, Int32.lt_iff_toInt_lt, Int32.lt_iff_toInt_lt, z1, z5] at h1
    have ea : (a - 1).toInt = a.toInt - 1 := by
      obtain ⟨ha, hb, hc⟩ := mIn_rng' (m := 5) h1' (by decide) (by decide)
      rw [ha, show nI (tN a) - 1 = nI (tN a - 1) by
        obtain ⟨q, hq⟩ : ∃ q, tN a = q + 1 := ⟨tN a - 1, by rw [i32n] at hb ⊢; omega⟩
        rw [hq, nI_pred]; rfl, nI_toInt (by omega), nI_toInt (by omega)]
      rw [i32n] at hb ⊢
      omega
    have h2 : ¬ mIn a 0 5 = 0 := by
      rw [mIn_z, Int32.lt_iff_toInt_lt, Int32.lt_iff_toInt_lt, z0, z5]; omega
    have h3 : ¬ tN a = 0 := by rw [i32n]; omega
    rw [mHangT, if_neg h1', sHangT, if_neg h2]
    by_cases h4 : mIn b 0 (a - 1) = 0
    · rw [if_pos h4]
      by_cases h5 : mIn b 0 5 = 0
      · rw [if_pos h5]
      · rw [if_neg h5, if_neg h3, if_neg]
        rw [mIn_z, Int32.lt_iff_toInt_lt, Int32.lt_iff_toInt_lt, z0, ea] at h4
        rw [mIn_z, Int32.lt_iff_toInt_lt, Int32.lt_iff_toInt_lt, z0, z5] at h5
        rw [Int32.lt_iff_toInt_lt]
        omega
    · rw [if_neg h4]
      rw [mIn_z, Int32.lt_iff_toInt_lt, Int32.lt_iff_toInt_lt, z0, ea] at h4
      rw [if_neg (by rw [mIn_z, Int32.lt_iff_toInt_lt, Int32.lt_iff_toInt_lt, z0, z5]; omega), if_neg h3, if_pos (by rw [Int32.lt_iff_toInt_lt]; omega)]
