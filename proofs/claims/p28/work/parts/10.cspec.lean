/-! ===== what the class's methods do, in numbers =====
families: 1 Buyer, 2 Challenge, 3 Reading, 4 Repeater, 5 Sensor, 6 Window, 7 the network; rows: 13 readings, 14 windows of a buyer, 15 paid of a reading, 16 samples of a challenge -/
def fixC (f : Nat) : Nat := if f = 7 then 1 else if f = 4 then 6 else if f = 5 then 12 else if f = 1 then 6 else if f = 10 then 1 else if f = 11 then 1 else if f = 12 then 1 else if f = 13 then 1 else if f = 14 then 6 else 0
def cV (ids : gIds) : Prop := ∀ f i, i < fixC f → (f, i) ∈ ids
/-- an index below n -/
def ixL (x : Int32) (n : Nat) : Prop := x = nI (tN x) ∧ tN x < n
theorem ixL.nI {j n : Nat} (h : j < n) (hn : n < 2 ^ 31) : ixL (nI j) n := by
  refine ⟨nI_tN (by omega), ?_⟩
  rw [tN_nI (by omega)]; exact h
/-- a challenge that there is -/
def cCh (ids : gIds) (κ : gMem) (r : Nat) : Prop := (2, r) ∈ ids ∧ (16, r) ∈ ids ∧ ixL (κ 2 r 0) 6 ∧ ixL (κ 2 r 2) 5
/-- a reading that there is -/
def cRd (ids : gIds) (κ : gMem) (r : Nat) : Prop := κ 13 0 r = nI r ∧ (3, r) ∈ ids ∧ (15, r) ∈ ids ∧ ixL (κ 3 r 0) 12 ∧ (κ 3 r 9 = -1 ∨ (κ 3 r 9 = nI r ∧ cCh ids κ r))
def cWF (ids : gIds) (κ : gMem) : Prop :=
  ixL (κ 7 0 4) 81 ∧ (∀ r, r < tN (κ 7 0 4) → cRd ids κ r) ∧ (∀ r, tN (κ 7 0 4) ≤ r → κ 13 0 r = -1) ∧ κ 4 0 1 = -1 ∧ (∀ k, k < 6 → k ≠ 0 → ixL (κ 4 k 1) k) ∧ (∀ k, k < 12 → ixL (κ 5 k 1) 6) ∧
  (∀ b k, b < 6 → k < 12 → κ 14 b k = -1 ∨ (κ 14 b k = nI (12 * b + k) ∧ (6, 12 * b + k) ∈ ids))
/-- the slots of which cWF speaks -/
def cTouch (f k : Nat) : Bool := (f == 7 && k == 4) || f == 13 || (f == 3 && (k == 0 || k == 9)) || (f == 2 && (k == 0 || k == 2)) || (f == 4 && k == 1) || (f == 5 && k == 1) || f == 14
theorem cWF.of {ids : gIds} {κ κ' : gMem} (h : cWF ids κ) (he : ∀ f i k, cTouch f k = true → κ' f i k = κ f i k) : cWF ids κ' := by
  obtain ⟨h1, h2, h3, h4, h5, h6, h7⟩ := h
  have e1 : κ' 7 0 4 = κ 7 0 4 := he _ _ _ rfl
  refine ⟨by rw [e1]; exact h1, fun r hr => ?_, fun r hr => ?_, ?_, fun k hk h0 => ?_, fun k hk => ?_, fun b k hb hk => ?_⟩
  · rw [e1] at hr
    obtain ⟨a1, a2, a3, a4, a5⟩ := h2 r hr
    refine ⟨by rw [he 13 0 r rfl]; exact a1, a2, a3, by rw [he 3 r 0 rfl]; exact a4, ?_⟩
    rw [he 3 r 9 rfl]
    rcases a5 with a5 | ⟨a5, b1, b2, b3, b4⟩
    · exact Or.inl a5
    · exact Or.inr ⟨a5, b1, b2, by rw [he 2 r 0 rfl]; exact b3, by rw [he 2 r 2 rfl]; exact b4⟩
  · rw [e1] at hr
    rw [he 13 0 r rfl]; exact h3 r hr
  · rw [he 4 0 1 rfl]; exact h4
  · rw [he 4 k 1 rfl]; exact h5 k hk h0
  · rw [he 5 k 1 rfl]; exact h6 k hk
  · rw [he 14 b k rfl]; exact h7 b k hb hk
theorem cWF.upd {ids : gIds} {κ : gMem} (h : cWF ids κ) {f i k : Nat} {x : Int32} (ht : cTouch f k = false) : cWF ids (upd3 κ f i k x) :=
  h.of (fun g j l hg => upd3_n (fun z => by rw [z.1, z.2.2, ht] at hg; cases hg))
theorem cWF.it {ids : gIds} {F : Nat → gMem → gMem} {N : Nat} (hF : ∀ k κ, k < N → cWF ids κ → cWF ids (F k κ)) {k : Nat} (hk : k ≤ N) {κ : gMem} (h : cWF ids κ) : cWF ids (gIt F k κ) := gIt_inv (I := cWF ids) hF k hk κ h
theorem i32_nlt {x y : Int32} (h : ¬ x < y) : y ≤ x := Int32.not_lt.mp h
theorem i32_nle {x y : Int32} (h : ¬ x ≤ y) : y < x := Int32.not_le.mp h
theorem mIn_lo {x a b : Int32} (h : x < a) : mIn x a b = 0 := by rw [mIn, if_pos h]
theorem mIn_hi {x a b : Int32} (h : b < x) : mIn x a b = 0 := by
  by_cases h0 : x < a
  · exact mIn_lo h0
  · rw [mIn, if_neg h0, if_pos h]
theorem mIn_ok {x a b : Int32} (h : ¬ x < a) (h2 : ¬ b < x) : ¬ mIn x a b = 0 := by
  rw [mIn, if_neg h, if_neg h2]; decide
theorem i32_gt5 {x : Int32} (h : ¬ x < 6) : 5 < x := by
  rw [Int32.lt_iff_toInt_lt] at h ⊢
  have e1 : (6 : Int32).toInt = 6 := by decide +kernel
  have e2 : (5 : Int32).toInt = 5 := by decide +kernel
  omega
theorem i32_le5 {x : Int32} (h : x < 6) : ¬ 5 < x := by
  rw [Int32.lt_iff_toInt_lt] at h ⊢
  have e1 : (6 : Int32).toInt = 6 := by decide +kernel
  have e2 : (5 : Int32).toInt = 5 := by decide +kernel
  omega
theorem i32_gt11 {x : Int32} (h : ¬ x < 12) : 11 < x := by
  rw [Int32.lt_iff_toInt_lt] at h ⊢
  have e1 : (12 : Int32).toInt = 12 := by decide +kernel
  have e2 : (11 : Int32).toInt = 11 := by decide +kernel
  omega
theorem i32_le11 {x : Int32} (h : x < 12) : ¬ 11 < x := by
  rw [Int32.lt_iff_toInt_lt] at h ⊢
  have e1 : (12 : Int32).toInt = 12 := by decide +kernel
  have e2 : (11 : Int32).toInt = 11 := by decide +kernel
  omega
theorem pk_subT {n : Nat} (h : n < 2 ^ 31) : (nI n - 1).toInt = (n : Int) - 1 := by
  cases n with
  | zero => decide +kernel
  | succ n => rw [nI_pred, nI_toInt (by omega)]; omega
theorem rd_lt {x : Int32} {n : Nat} (hn : n ≤ 80) (h : x < nI n) : ¬ nI n - 1 < x := by
  rw [Int32.lt_iff_toInt_lt, nI_toInt (by omega)] at h
  rw [Int32.lt_iff_toInt_lt, pk_subT (by omega)]
  omega
theorem rd_ge {x : Int32} {n : Nat} (hn : n ≤ 80) (h : ¬ x < nI n) : nI n - 1 < x := by
  rw [Int32.lt_iff_toInt_lt, nI_toInt (by omega)] at h
  rw [Int32.lt_iff_toInt_lt, pk_subT (by omega)]
  omega
/-! what is thrown, by a number: 1 an index, 2 an argument, 3 a state -/
def xE (t : Int32) (E : String) : Prop := (E = "java/lang/IndexOutOfBoundsException" ∧ t = 1) ∨ (E = "java/lang/IllegalArgumentException" ∧ t = 2) ∨ (E = "java/lang/IllegalStateException" ∧ t = 3)
theorem xE1 {t : Int32} (h : t = 1) : xE t "java/lang/IndexOutOfBoundsException" := Or.inl ⟨rfl, h⟩
theorem xE2 {t : Int32} (h : t = 2) : xE t "java/lang/IllegalArgumentException" := Or.inr (Or.inl ⟨rfl, h⟩)
theorem xE3 {t : Int32} (h : t = 3) : xE t "java/lang/IllegalStateException" := Or.inr (Or.inr ⟨rfl, h⟩)
def sHangT (a b : Int32) : Int32 := if mIn a 0 5 = 0 then 1 else if mIn b 0 5 = 0 then 1 else if tN a = 0 then 1 else if b < a then 0 else 1
def sTopUpT (κ : gMem) (a n : Int32) : Int32 := if mIn a 0 11 = 0 then 1 else if 1 ≤ n then (if n ≤ κ 5 (tN a) 4 then 0 else 3) else 2
def sTopUpK (κ : gMem) (j : Nat) (n : Int32) : gMem := upd3 (upd3 (upd3 κ 5 j 4 (κ 5 j 4 - n)) 5 j 3 (κ 5 j 3 + n)) 5 j 5 (κ 5 j 5 + n)
def sLost (κ : gMem) (j : Nat) : Int32 := if κ 4 j 2 ≤ 0 then 0 else κ 4 j 3 / κ 4 j 2
def sSetLossK (κ : gMem) (j : Nat) (n : Int32) : gMem := upd3 (upd3 κ 4 j 2 n) 4 j 3 0
/-- a part comes to the repeater j -/
def sCome (κ : gMem) (j : Nat) : gMem := upd3 κ 4 j 3 (κ 4 j 3 + 1)
def sLs (κ : gMem) (j : Nat) : Int32 := if κ 4 j 2 ≤ 0 then 0 else if κ 4 j 3 - κ 4 j 3 / κ 4 j 2 * κ 4 j 2 = 0 then 1 else 0
def sGoes : Nat → gMem → Nat → Int32 × gMem
  | 0, κ, _ => (1, κ)
  | n + 1, κ, j => if sLs (sCome κ j) j = 0 then (if j = 0 then (1, sCome κ j) else sGoes n (sCome κ j) (tN (sCome κ j 4 j 1))) else (0, sCome κ j)
theorem sGoes_keep (n : Nat) : ∀ (κ : gMem) (j f i k : Nat), f ≠ 4 ∨ k ≠ 3 → (sGoes n κ j).2 f i k = κ f i k := by
  induction n with
  | zero => intro κ j f i k h; rfl
  | succ n ih =>
    intro κ j f i k h
    have e : sCome κ j f i k = κ f i k := upd3_n (fun z => h.elim (fun q => q z.1) (fun q => q z.2.2))
    simp only [sGoes]
    split
    · split
      · exact e
      · rw [ih _ _ f i k h, e]
    · exact e
def sPart (s : Nat) (κ : gMem) : gMem := (sGoes 6 κ (tN (κ 5 s 1))).2
def sSent (κ : gMem) (s : Nat) : Nat → Int32
  | 0 => 0
  | k + 1 => if (sGoes 6 (gIt (fun _ => sPart s) k κ) (tN ((gIt (fun _ => sPart s) k κ) 5 s 1))).1 = 0 then sSent κ s k else sSent κ s k + 1
def sSend (κ : gMem) (s : Nat) : gMem := gIt (fun _ => sPart s) 4 κ
/-- a window uses the reading r -/
def sUse (r k : Nat) (κ : gMem) : gMem :=
  if κ 14 k (tN (κ 3 r 0)) < 0 then κ
  else upd3 (upd3 (upd3 (upd3 κ 6 (12 * k + tN (κ 3 r 0)) 2 (κ 6 (12 * k + tN (κ 3 r 0)) 2 - κ 6 (12 * k + tN (κ 3 r 0)) 0)) 15 r k (κ 6 (12 * k + tN (κ 3 r 0)) 0)) 3 r 7 (κ 3 r 7 + κ 6 (12 * k + tN (κ 3 r 0)) 0)) 3 r 6 (κ 3 r 6 + 1)
def sUses (κ : gMem) (r : Nat) : gMem := gIt (sUse r) 6 κ
def sMax (x y : Int32) : Int32 := if x < y then y else x
def sWait (κ : gMem) (r : Nat) : gMem := upd3 (upd3 κ 3 r 4 (κ 7 0 6 + 4)) 7 0 7 (sMax (κ 7 0 7) (κ 7 0 6 + 4))
/-! judging -/
def sMiddle (κ : gMem) (r : Nat) : Int32 := if κ 2 r 2 = 0 then -1 else κ 16 r (tN ((κ 2 r 2 - 1) / 2))
def sAbs (x : Int32) : Int32 := if 0 ≤ x then x else 0 - x
def sRefutes (κ : gMem) (r : Nat) (v : Int32) : Int32 := if κ 2 r 2 ≤ 0 then 0 else if sAbs (v - sMiddle κ r) ≤ 5 then 0 else 1
def sHas (κ : gMem) (r j : Nat) : Int32 := if (κ 2 r 3 >>> (nI j &&& 31)) &&& 1 = 0 then 0 else 1
def sNb (a b : Int32) : Int32 := if sAbs (a / 4 - b / 4) + sAbs (a - a / 4 * 4 - (b - b / 4 * 4)) = 1 then 1 else 0
def sNbs (a : Int32) : Nat → Int32
  | 0 => 0
  | k + 1 => if sNb a (nI k) = 0 then sNbs a k else sNbs a k + 1
/-- the samples from the place k on make room for v -/
def sShift : Nat → gMem → Nat → Int32 → gMem × Nat
  | 0, κ, _, _ => (κ, 0)
  | k + 1, κ, r, v => if κ 16 r k ≤ v then (κ, k + 1) else sShift k (upd3 κ 16 r (k + 1) (κ 16 r k)) r v
def sAdd (κ : gMem) (r j : Nat) (v : Int32) : gMem :=
  if κ 2 r 2 < 4 then
    upd3 (upd3 (upd3 (sShift (tN (κ 2 r 2)) κ r v).1 16 r (sShift (tN (κ 2 r 2)) κ r v).2 v) 2 r 2 (κ 2 r 2 + 1)) 2 r 3 (κ 2 r 3 ||| (1 <<< (nI j &&& 31)))
  else κ
def sStand (κ : gMem) (r : Nat) : gMem := upd3 (upd3 (upd3 κ 3 r 3 2) 5 (tN (κ 3 r 0)) 4 (κ 5 (tN (κ 3 r 0)) 4 + κ 3 r 7)) 3 r 7 0
def sBack1 (r k : Nat) (κ : gMem) : gMem := upd3 κ 1 k 0 (κ 1 k 0 + κ 15 r k)
def sBack (κ : gMem) (r : Nat) : gMem :=
  upd3 (upd3 (gIt (sBack1 r) 6 κ) 3 r 7 0) 1 (tN (κ 2 r 0)) 0 (gIt (sBack1 r) 6 κ 1 (tN (κ 2 r 0)) 0 + 4)
def sPay1 (r : Nat) (sh : Int32) (k : Nat) (κ : gMem) : gMem := if κ 15 r k ≤ 0 then κ else upd3 κ 1 k 0 (κ 1 k 0 + sh)
def sPayK (κ : gMem) (r : Nat) (h : Int32) : gMem := if κ 3 r 6 = 0 then κ else gIt (sPay1 r (h / κ 3 r 6)) 6 κ
def sPayA (κ : gMem) (r : Nat) (h : Int32) : Int32 := if κ 3 r 6 = 0 then 0 else h / κ 3 r 6 * κ 3 r 6
def sMin (x y : Int32) : Int32 := if y < x then y else x
def sCut (κ : gMem) (r : Nat) : Int32 := sMin (κ 5 (tN (κ 3 r 0)) 3) (4 * κ 5 (tN (κ 3 r 0)) 2 * (κ 3 r 6 + 1))
def sShare1 (κ : gMem) (r : Nat) : gMem :=
  upd3 (upd3 (upd3 κ 5 (tN (κ 3 r 0)) 3 (κ 5 (tN (κ 3 r 0)) 3 - sCut κ r)) 3 r 8 (sCut κ r)) 1 (tN (κ 2 r 0)) 0 (κ 1 (tN (κ 2 r 0)) 0 + sCut κ r / 4)
def sShare (κ : gMem) (r : Nat) : gMem :=
  upd3 (sPayK (sShare1 κ r) r (sCut κ r / 2)) 7 0 5 (κ 7 0 5 + (sCut κ r - sCut κ r / 4 - sPayA (sShare1 κ r) r (sCut κ r / 2)))
def sJudge (κ : gMem) (r : Nat) : gMem :=
  if sRefutes κ r (κ 3 r 1) = 0 then sStand (upd3 κ 5 (tN (κ 3 r 0)) 4 (κ 5 (tN (κ 3 r 0)) 4 + 4)) r else sShare (sBack (upd3 κ 3 r 3 3) r) r
def sSettle (κ : gMem) (r : Nat) : gMem := if κ 3 r 9 < 0 then sStand κ r else sJudge κ r
def sOpen (κ : gMem) (r : Nat) : Int32 := if κ 3 r 3 = 0 then 1 else if κ 3 r 3 = 1 then 1 else 0
def sEnd1 (e : Int32) (k : Nat) (κ : gMem) : gMem := if sOpen κ k = 0 then κ else if κ 3 k 4 ≤ e then sSettle κ k else κ
def sClose1 (b : Nat) (e : Int32) (k : Nat) (κ : gMem) : gMem :=
  if κ 14 b k < 0 then κ else if κ 6 (12 * b + k) 1 ≤ e then upd3 (upd3 κ 1 b 0 (κ 1 b 0 + κ 6 (12 * b + k) 2)) 14 b k (-1) else κ
def sClose (b : Nat) (e : Int32) (κ : gMem) : gMem := gIt (sClose1 b e) 12 κ
def sEnd (κ : gMem) (e : Int32) : gMem := gIt (fun b => sClose b e) 6 (gIt (sEnd1 e) (tN (κ 7 0 4)) κ)
/-! the calls -/
def sTellT (κ : gMem) (a v : Int32) : Int32 :=
  if mIn a 0 11 = 0 then 1 else if mIn v 0 99 = 0 then 2 else if κ 5 (tN a) 3 < 20 then 3 else if κ 5 (tN a) 6 = κ 7 0 6 then 3 else if κ 7 0 4 < 80 then 0 else 3
/-- a new reading's numbers -/
def sNewR (s : Nat) (v p : Int32) : Nat → Int32 := fun k => if k = 0 then nI s else if k = 1 then v else if k = 2 then p else if k = 3 then (if p < 3 then 4 else 0) else if k = 4 then -1 else if k = 9 then -1 else 0
def sTell1 (κ : gMem) (s : Nat) : gMem := sSend (upd3 κ 5 s 6 (κ 7 0 6)) s
def sTell2 (κ : gMem) (s r : Nat) (v p : Int32) : gMem := upd3 (upd3 (updR (updR κ 3 r (sNewR s v p)) 15 r (fun _ => 0)) 13 0 r (nI r)) 7 0 4 (κ 7 0 4 + 1)
def sTellK (κ : gMem) (s r : Nat) (v : Int32) : gMem :=
  if sSent (upd3 κ 5 s 6 (κ 7 0 6)) s 4 < 3 then sTell2 (sTell1 κ s) s r v (sSent (upd3 κ 5 s 6 (κ 7 0 6)) s 4)
  else sUses (sWait (sTell2 (sTell1 κ s) s r v (sSent (upd3 κ 5 s 6 (κ 7 0 6)) s 4)) r) r
def sOpenT (κ : gMem) (b a t : Int32) : Int32 :=
  if mIn b 0 5 = 0 then 1 else if mIn a 0 11 = 0 then 1 else if mIn t 1 20 = 0 then 2 else if κ 14 (tN b) (tN a) < 0 then (if κ 5 (tN a) 2 * t ≤ κ 1 (tN b) 0 then 0 else 3) else 3
def sNewW (p l q : Int32) : Nat → Int32 := fun k => if k = 0 then p else if k = 1 then l else q
def sOpenK (κ : gMem) (b s : Nat) (t : Int32) : gMem :=
  upd3 (upd3 (updR (upd3 κ 1 b 0 (κ 1 b 0 - κ 5 s 2 * t)) 6 (12 * b + s) (sNewW (κ 5 s 2) (κ 7 0 6 + t - 1) (κ 5 s 2 * t))) 14 b s (nI (12 * b + s))) 7 0 7 (sMax (κ 7 0 7) (κ 7 0 6 + t - 1))
def sChallengeT (κ : gMem) (b x : Int32) : Int32 :=
  if mIn b 0 5 = 0 then 1 else if mIn x 0 (κ 7 0 4 - 1) = 0 then 1 else if κ 3 (tN x) 3 = 0 then (if 4 ≤ κ 1 (tN b) 0 then 0 else 3) else 3
def sNewC (b : Nat) : Nat → Int32 := fun k => if k = 0 then nI b else 0
def sChallengeK (κ : gMem) (b r : Nat) : gMem :=
  sWait (upd3 (updR (updR (upd3 (upd3 κ 1 b 0 (κ 1 b 0 - 4)) 3 r 3 1) 2 r (sNewC b)) 16 r (fun _ => 0)) 3 r 9 (nI r)) r
def sSampleT (κ : gMem) (a x v : Int32) : Int32 :=
  if mIn a 0 11 = 0 then 1 else if mIn x 0 (κ 7 0 4 - 1) = 0 then 1 else if mIn v 0 99 = 0 then 2 else if κ 3 (tN x) 9 < 0 then 3 else if κ 3 (tN x) 3 = 1 then (if sNb a (nI (tN (κ 3 (tN x) 0))) = 0 then 3 else if sHas κ (tN x) (tN a) = 0 then 0 else 3) else 3
def sSampleK (κ : gMem) (s r : Nat) (v : Int32) : gMem :=
  if sAdd κ r s v 2 r 2 = sNbs (nI (tN (κ 3 r 0))) 12 then sJudge (sAdd κ r s v) r else sAdd κ r s v
def sAdvT (κ : gMem) (t : Int32) : Int32 := if mIn t 1 100 = 0 then 2 else if κ 7 0 6 + t ≤ 10000 then 0 else 3
/-- ticks end one by one, while something waits -/
def sAdvI : Nat → gMem → Int32 → Int32 → gMem
  | 0, κ, _, _ => κ
  | n + 1, κ, e, t => if t ≤ e then κ else if κ 7 0 7 < e then κ else sAdvI n (sEnd κ e) (e + 1) t
def sAdvK (κ : gMem) (t : Int32) : gMem := upd3 (sAdvI 101 κ (κ 7 0 6) (κ 7 0 6 + t)) 7 0 6 (κ 7 0 6 + t)
def sCuts (κ : gMem) (s : Nat) : Nat → Int32
  | 0 => 100 + κ 5 s 5
  | k + 1 => if tN (κ 3 k 0) = s then sCuts κ s k - κ 3 k 8 else sCuts κ s k
def sWeight (x : Int32) : Int32 := if x = 2 then 1 else if x = 3 then -3 else 0
def sMark (κ : gMem) (s : Nat) : Nat → Int32
  | 0 => 0
  | k + 1 => if tN (κ 3 k 0) = s then sMark κ s k + sWeight (κ 3 k 3) else sMark κ s k
def sRdT (κ : gMem) (x : Int32) : Int32 := if mIn x 0 (κ 7 0 4 - 1) = 0 then 1 else 0
def sMidA (κ : gMem) (r : Nat) : Int32 := if κ 3 r 9 < 0 then -1 else sMiddle κ r
def sTextT (κ : gMem) (x q : Int32) : Int32 := if mIn x 0 (κ 7 0 4 - 1) = 0 then 1 else if 0 ≤ q then 0 else 1
def sAside (κ : gMem) (b s : Nat) : Int32 := if κ 14 b s < 0 then 0 else κ 6 (12 * b + s) 2
/-! what stays well formed -/
theorem sCome_WF {ids : gIds} {κ : gMem} {j : Nat} (h : cWF ids κ) : cWF ids (sCome κ j) := h.upd rfl
theorem sGoes_WF {ids : gIds} {κ : gMem} {n j : Nat} (h : cWF ids κ) : cWF ids (sGoes n κ j).2 := h.of (fun f i k ht => sGoes_keep n κ j f i k (by
  by_cases h4 : f = 4
  · right; intro h3; subst h4; subst h3; cases ht
  · exact Or.inl h4))
theorem sPart_WF {ids : gIds} {κ : gMem} {s : Nat} (h : cWF ids κ) : cWF ids (sPart s κ) := sGoes_WF h
theorem sPart_it_WF {ids : gIds} {κ : gMem} {s k : Nat} (h : cWF ids κ) : cWF ids (gIt (fun _ => sPart s) k κ) := cWF.it (N := k) (fun _ _ _ h => sPart_WF h) (Nat.le_refl k) h
theorem sUse_WF {ids : gIds} {κ : gMem} {r k : Nat} (h : cWF ids κ) : cWF ids (sUse r k κ) := by
  unfold sUse
  split
  · exact h
  · exact (((h.upd rfl).upd rfl).upd rfl).upd rfl
theorem sUse_it_WF {ids : gIds} {κ : gMem} {r k : Nat} (h : cWF ids κ) : cWF ids (gIt (sUse r) k κ) := cWF.it (N := k) (fun _ _ _ h => sUse_WF h) (Nat.le_refl k) h
theorem sWait_WF {ids : gIds} {κ : gMem} {r : Nat} (h : cWF ids κ) : cWF ids (sWait κ r) := (h.upd rfl).upd rfl
theorem sStand_WF {ids : gIds} {κ : gMem} {r : Nat} (h : cWF ids κ) : cWF ids (sStand κ r) := ((h.upd rfl).upd rfl).upd rfl
theorem sBack1_it_WF {ids : gIds} {κ : gMem} {r k : Nat} (h : cWF ids κ) : cWF ids (gIt (sBack1 r) k κ) := cWF.it (N := k) (fun _ _ _ h => h.upd rfl) (Nat.le_refl k) h
theorem sBack_WF {ids : gIds} {κ : gMem} {r : Nat} (h : cWF ids κ) : cWF ids (sBack κ r) := ((sBack1_it_WF h).upd rfl).upd rfl
theorem sPay1_WF {ids : gIds} {κ : gMem} {r k : Nat} {sh : Int32} (h : cWF ids κ) : cWF ids (sPay1 r sh k κ) := by
  unfold sPay1
  split
  · exact h
  · exact h.upd rfl
theorem sPay1_it_WF {ids : gIds} {κ : gMem} {r k : Nat} {sh : Int32} (h : cWF ids κ) : cWF ids (gIt (sPay1 r sh) k κ) := cWF.it (N := k) (fun _ _ _ h => sPay1_WF h) (Nat.le_refl k) h
theorem sPayK_WF {ids : gIds} {κ : gMem} {r : Nat} {h' : Int32} (h : cWF ids κ) : cWF ids (sPayK κ r h') := by
  unfold sPayK
  split
  · exact h
  · exact sPay1_it_WF h
theorem sShare1_WF {ids : gIds} {κ : gMem} {r : Nat} (h : cWF ids κ) : cWF ids (sShare1 κ r) := ((h.upd rfl).upd rfl).upd rfl
theorem sShare_WF {ids : gIds} {κ : gMem} {r : Nat} (h : cWF ids κ) : cWF ids (sShare κ r) := (sPayK_WF (sShare1_WF h)).upd rfl
theorem sJudge_WF {ids : gIds} {κ : gMem} {r : Nat} (h : cWF ids κ) : cWF ids (sJudge κ r) := by
  unfold sJudge
  split
  · exact sStand_WF (h.upd rfl)
  · exact sShare_WF (sBack_WF (h.upd rfl))
theorem sSettle_WF {ids : gIds} {κ : gMem} {r : Nat} (h : cWF ids κ) : cWF ids (sSettle κ r) := by
  unfold sSettle
  split
  · exact sStand_WF h
  · exact sJudge_WF h
theorem sEnd1_WF {ids : gIds} {κ : gMem} {k : Nat} {e : Int32} (h : cWF ids κ) : cWF ids (sEnd1 e k κ) := by
  unfold sEnd1
  split
  · exact h
  · split
    · exact sSettle_WF h
    · exact h
theorem sEnd1_it_WF {ids : gIds} {κ : gMem} {k : Nat} {e : Int32} (h : cWF ids κ) : cWF ids (gIt (sEnd1 e) k κ) := cWF.it (N := k) (fun _ _ _ h => sEnd1_WF h) (Nat.le_refl k) h
theorem cWF.close {ids : gIds} {κ : gMem} (h : cWF ids κ) {b k : Nat} : cWF ids (upd3 κ 14 b k (-1)) := by
  obtain ⟨h1, h2, h3, h4, h5, h6, h7⟩ := h
  refine ⟨h1, h2, h3, h4, h5, h6, fun b' k' hb hk => ?_⟩
  by_cases hc : b' = b ∧ k' = k
  · left; rw [hc.1, hc.2, upd3_s]
  · rw [upd3_n (fun z => hc ⟨z.2.1, z.2.2⟩)]; exact h7 b' k' hb hk
theorem sClose1_WF {ids : gIds} {κ : gMem} {b k : Nat} {e : Int32} (h : cWF ids κ) : cWF ids (sClose1 b e k κ) := by
  unfold sClose1
  split
  · exact h
  · split
    · exact (h.upd rfl).close
    · exact h
theorem sClose1_it_WF {ids : gIds} {κ : gMem} {b k : Nat} {e : Int32} (h : cWF ids κ) : cWF ids (gIt (sClose1 b e) k κ) := cWF.it (N := k) (fun _ _ _ h => sClose1_WF h) (Nat.le_refl k) h
theorem sClose_it_WF {ids : gIds} {κ : gMem} {k : Nat} {e : Int32} (h : cWF ids κ) : cWF ids (gIt (fun b => sClose b e) k κ) := cWF.it (N := k) (fun _ _ _ h => sClose1_it_WF h) (Nat.le_refl k) h
theorem sEnd_WF {ids : gIds} {κ : gMem} {e : Int32} (h : cWF ids κ) : cWF ids (sEnd κ e) := sClose_it_WF (sEnd1_it_WF h)
theorem sAdvI_WF {ids : gIds} (n : Nat) : ∀ {κ : gMem} {e t : Int32}, cWF ids κ → cWF ids (sAdvI n κ e t) := by
  induction n with
  | zero => intro κ e t h; exact h
  | succ n ih =>
    intro κ e t h
    simp only [sAdvI]
    split
    · exact h
    · split
      · exact h
      · exact ih (sEnd_WF h)
theorem sAdvK_WF {ids : gIds} {κ : gMem} {t : Int32} (h : cWF ids κ) : cWF ids (sAdvK κ t) := (sAdvI_WF 101 h).upd rfl
