/-! ===== sums of numbers ===== -/
def nsum (f : Nat → Nat) : Nat → Nat
  | 0 => 0
  | k + 1 => nsum f k + f k
theorem nsum_congr {f g : Nat → Nat} : ∀ n, (∀ k, k < n → f k = g k) → nsum f n = nsum g n
  | 0, _ => rfl
  | n + 1, h => by rw [nsum, nsum, nsum_congr n (fun k hk => h k (by omega)), h n (by omega)]
theorem nsum_one {f g : Nat → Nat} {j : Nat} : ∀ n, j < n → (∀ k, k < n → k ≠ j → f k = g k) → nsum f n + g j = nsum g n + f j
  | 0, h, _ => absurd h (by omega)
  | n + 1, hj, h => by
    rw [nsum, nsum]
    by_cases e : n = j
    · subst e
      rw [nsum_congr n (fun k hk => h k (by omega) (by omega))]
      omega
    · have := nsum_one n (by omega) (fun k hk hne => h k (by omega) hne)
      rw [h n (by omega) e]
      omega
theorem nsum_le {f : Nat → Nat} {j : Nat} : ∀ n, j < n → f j ≤ nsum f n
  | 0, h => absurd h (by omega)
  | n + 1, h => by
    rw [nsum]
    by_cases e : j = n
    · rw [e]; omega
    · have := nsum_le (f := f) n (show j < n by omega)
      omega
theorem nsum_add {f g h : Nat → Nat} : ∀ n, (∀ k, k < n → h k = f k + g k) → nsum h n = nsum f n + nsum g n
  | 0, _ => rfl
  | n + 1, e => by
    rw [nsum, nsum, nsum, nsum_add n (fun k hk => e k (by omega)), e n (by omega)]
    omega
theorem nsum_bd {f g : Nat → Nat} : ∀ n, (∀ k, k < n → f k ≤ g k) → nsum f n ≤ nsum g n
  | 0, _ => Nat.le_refl _
  | n + 1, e => by
    rw [nsum, nsum]
    have := nsum_bd n (fun k hk => e k (by omega))
    have := e n (by omega)
    omega
theorem nsum_c {c : Nat} : ∀ n, nsum (fun _ => c) n = n * c
  | 0 => by rw [nsum, Nat.zero_mul]
  | n + 1 => by rw [nsum, nsum_c n, Nat.succ_mul]
theorem nsum_mul {f : Nat → Nat} {c : Nat} : ∀ n, nsum (fun k => f k * c) n = nsum f n * c
  | 0 => by rw [nsum, nsum, Nat.zero_mul]
  | n + 1 => by rw [nsum, nsum, nsum_mul n, Nat.add_mul]
/-! money: at most 2400 -/
theorem ix_mk {x : Int32} {n m : Nat} (h : x = nI n) (hn : n < m) (hm : m < 2 ^ 31) : ixL x m ∧ tN x = n := by
  subst h
  exact ⟨ixL.nI hn hm, tN_nI (by omega)⟩
theorem ix_up {x : Int32} {n m : Nat} (h : ixL x n) (hm : n ≤ m) : ixL x m := ⟨h.1, by have := h.2; omega⟩
theorem ix_add {x y : Int32} {n m k : Nat} (hx : ixL x n) (hy : ixL y m) (hk : tN x + tN y < k) (hb : k < 2 ^ 31) : ixL (x + y) k ∧ tN (x + y) = tN x + tN y := by
  have e : x + y = nI (tN x + tN y) := by
    have := nI_add (tN x) (tN y)
    rw [← hx.1, ← hy.1] at this; exact this
  exact ix_mk e hk hb
theorem ix_sub {x y : Int32} {n m : Nat} (hx : ixL x n) (hy : ixL y m) (h : tN y ≤ tN x) (hb : n < 2 ^ 31) : ixL (x - y) n ∧ tN (x - y) = tN x - tN y := by
  have e : x - y = nI (tN x - tN y) := by
    have := pk_sub h
    rw [← hx.1, ← hy.1] at this; exact this
  exact ix_mk e (by have := hx.2; omega) hb
theorem ix_mul {x y : Int32} {n m k : Nat} (hx : ixL x n) (hy : ixL y m) (hk : tN x * tN y < k) (hb : k < 2 ^ 31) : ixL (x * y) k ∧ tN (x * y) = tN x * tN y := by
  have e : x * y = nI (tN x * tN y) := by
    have := pk_mul (tN x) (tN y)
    rw [← hx.1, ← hy.1] at this; exact this
  exact ix_mk e hk hb
theorem ix_div {x : Int32} {n d : Nat} (hx : ixL x n) (h0 : 0 < d) (hd : d < 2 ^ 31) (hb : n < 2 ^ 31) : ixL (x / nI d) n ∧ tN (x / nI d) = tN x / d := by
  have e : x / nI d = nI (tN x / d) := by
    have := pk_div (a := tN x) (d := d) (by have := hx.2; omega) h0 hd
    rw [← hx.1] at this; exact this
  exact ix_mk e (Nat.lt_of_le_of_lt (Nat.div_le_self _ _) hx.2) hb
theorem ix_0 {n : Nat} (h : 0 < n) : ixL 0 n ∧ tN (0 : Int32) = 0 := ⟨ixL0 h, by decide +kernel⟩
theorem ix_le {x y : Int32} {n m : Nat} (hx : ixL x n) (hy : ixL y m) (hn : n < 2 ^ 31) (hm : m < 2 ^ 31) : x ≤ y ↔ tN x ≤ tN y := by
  have := nI_leI (a := tN x) (b := tN y) (by have := hx.2; omega) (by have := hy.2; omega)
  rw [← hx.1, ← hy.1] at this; exact this
theorem ix_lt {x y : Int32} {n m : Nat} (hx : ixL x n) (hy : ixL y m) (hn : n < 2 ^ 31) (hm : m < 2 ^ 31) : x < y ↔ tN x < tN y := by
  have := nI_ltI (a := tN x) (b := tN y) (by have := hx.2; omega) (by have := hy.2; omega)
  rw [← hx.1, ← hy.1] at this; exact this
theorem ix_c (c : Nat) {n : Nat} (h : c < n) (hn : n < 2 ^ 31) : ixL (nI c) n ∧ tN (nI c) = c := ix_mk rfl h hn
theorem ix_eq {x y : Int32} {n m : Nat} (hx : ixL x n) (hy : ixL y m) : x = y ↔ tN x = tN y := ⟨fun h => by rw [h], fun h => by rw [hx.1, hy.1, h]⟩
theorem ix_pos {x : Int32} {n : Nat} (hx : ixL x n) (hn : n < 2 ^ 31) : ¬ x < 0 := by
  rw [hx.1]; exact nI_pos (by have := hx.2; omega)
theorem ix_ge {x : Int32} {n : Nat} (hx : ixL x n) (hn : n < 2 ^ 31) : (0 : Int32) ≤ x := by
  rw [hx.1]; exact nI_pos' (by have := hx.2; omega)
/-! what there is -/
def wv (κ : gMem) (b s : Nat) : Nat := if κ 14 b s < 0 then 0 else tN (κ 6 (12 * b + s) 2)
def sv (κ : gMem) (s : Nat) : Nat := tN (κ 5 s 3) + tN (κ 5 s 4) + nsum (fun b => wv κ b s) 6
def bv (κ : gMem) (b : Nat) : Nat := tN (κ 1 b 0)
def rv (κ : gMem) (r : Nat) : Nat := tN (κ 3 r 7) + (if κ 3 r 3 = 1 then 4 else 0)
def tot (κ : gMem) : Nat := tN (κ 7 0 5) + nsum (sv κ) 12 + nsum (bv κ) 6 + nsum (rv κ) (tN (κ 7 0 4))
def gM (κ : gMem) : Prop := ixL (κ 7 0 5) 2401 ∧ (∀ s, s < 12 → ixL (κ 5 s 3) 2401 ∧ ixL (κ 5 s 4) 2401) ∧ (∀ b, b < 6 → ixL (κ 1 b 0) 2401) ∧
  (∀ b s, b < 6 → s < 12 → κ 14 b s < 0 ∨ ixL (κ 6 (12 * b + s) 2) 2401) ∧ (∀ r, r < tN (κ 7 0 4) → ixL (κ 3 r 7) 2401) ∧ tot κ = 2400
theorem gM.bd {κ : gMem} (h : gM κ) : tN (κ 7 0 5) + nsum (sv κ) 12 + nsum (bv κ) 6 + nsum (rv κ) (tN (κ 7 0 4)) = 2400 := h.2.2.2.2.2
/-- the slots that it reads -/
def gMt (f k : Nat) : Prop := (f = 7 ∧ (k = 4 ∨ k = 5)) ∨ (f = 5 ∧ (k = 3 ∨ k = 4)) ∨ (f = 1 ∧ k = 0) ∨ f = 14 ∨ (f = 6 ∧ k = 2) ∨ (f = 3 ∧ (k = 3 ∨ k = 7))
theorem wv_to {κ κ' : gMem} {b s : Nat} (h1 : κ' 14 b s = κ 14 b s) (h2 : κ' 6 (12 * b + s) 2 = κ 6 (12 * b + s) 2) : wv κ' b s = wv κ b s := by rw [wv, wv, h1, h2]
theorem sv_to {κ κ' : gMem} {s : Nat} (h3 : κ' 5 s 3 = κ 5 s 3) (h4 : κ' 5 s 4 = κ 5 s 4) (hw : ∀ b, b < 6 → wv κ' b s = wv κ b s) : sv κ' s = sv κ s := by
  rw [sv, sv, h3, h4, nsum_congr 6 hw]
theorem rv_to {κ κ' : gMem} {r : Nat} (h3 : κ' 3 r 3 = κ 3 r 3) (h7 : κ' 3 r 7 = κ 3 r 7) : rv κ' r = rv κ r := by rw [rv, rv, h3, h7]
theorem gM.cong {κ κ' : gMem} (h : gM κ) (c : ∀ f i k, gMt f k → κ' f i k = κ f i k) : gM κ' := by
  obtain ⟨h1, h2, h3, h4, h5, h6⟩ := h
  have e4 : κ' 7 0 4 = κ 7 0 4 := c _ _ _ (by simp [gMt])
  have e5 : κ' 7 0 5 = κ 7 0 5 := c _ _ _ (by simp [gMt])
  have c53 : ∀ s, κ' 5 s 3 = κ 5 s 3 := fun s => c _ _ _ (by simp [gMt])
  have c54 : ∀ s, κ' 5 s 4 = κ 5 s 4 := fun s => c _ _ _ (by simp [gMt])
  have c1 : ∀ s, κ' 1 s 0 = κ 1 s 0 := fun s => c _ _ _ (by simp [gMt])
  have c14 : ∀ b s, κ' 14 b s = κ 14 b s := fun b s => c _ _ _ (by simp [gMt])
  have c6 : ∀ b, κ' 6 b 2 = κ 6 b 2 := fun b => c _ _ _ (by simp [gMt])
  have c33 : ∀ b, κ' 3 b 3 = κ 3 b 3 := fun b => c _ _ _ (by simp [gMt])
  have c37 : ∀ b, κ' 3 b 7 = κ 3 b 7 := fun b => c _ _ _ (by simp [gMt])
  refine ⟨by rw [e5]; exact h1, fun s hs => by rw [c53, c54]; exact h2 s hs, fun b hb => by rw [c1]; exact h3 b hb, fun b s hb hs => by rw [c14, c6]; exact h4 b s hb hs, fun r hr => by rw [c37]; rw [e4] at hr; exact h5 r hr, ?_⟩
  rw [tot, e5, e4, nsum_congr (f := sv κ') (g := sv κ) 12 (fun s _ => sv_to (c53 s) (c54 s) (fun b _ => wv_to (c14 b s) (c6 _))), nsum_congr (f := bv κ') (g := bv κ) 6 (fun b _ => by rw [bv, bv, c1]), nsum_congr (f := rv κ') (g := rv κ) _ (fun r _ => rv_to (c33 r) (c37 r))]
  exact h6
/-- a reading's money goes to its sensor -/
theorem gM_stand {κ κ' : gMem} {r s : Nat} {x : Int32} (h : gM κ) (hr : r < tN (κ 7 0 4)) (hs : s < 12) (hx : ixL x 2401) (hv : tN x = rv κ r) (e4 : κ' 5 s 4 = κ 5 s 4 + x) (e7 : κ' 3 r 7 = 0) (e3 : κ' 3 r 3 ≠ 1)
    (c : ∀ f i k, f ≠ 5 ∨ i ≠ s ∨ k ≠ 4 → f ≠ 3 ∨ i ≠ r ∨ (k ≠ 3 ∧ k ≠ 7) → κ' f i k = κ f i k) : gM κ' := by
  have hb := h.bd
  obtain ⟨h1, h2, h3, h4, h5, h6⟩ := h
  have en : κ' 7 0 4 = κ 7 0 4 := c _ _ _ (by omega) (by omega)
  have hS := nsum_le (f := sv κ) 12 hs
  have hR := nsum_le (f := rv κ) _ hr
  have hsv : sv κ s = tN (κ 5 s 3) + tN (κ 5 s 4) + nsum (fun b => wv κ b s) 6 := rfl
  obtain ⟨a1, a2⟩ := ix_add (k := 2401) (h2 s hs).2 hx (by omega) (by decide)
  have wE : ∀ b t, wv κ' b t = wv κ b t := fun b t => wv_to (c _ _ _ (by omega) (by omega)) (c _ _ _ (by omega) (by omega))
  have sE : ∀ t, t < 12 → t ≠ s → sv κ' t = sv κ t := fun t _ ht => sv_to (c _ _ _ (by omega) (by omega)) (c _ _ _ (by omega) (by omega)) (fun b _ => wE b t)
  have sS : sv κ' s = sv κ s + tN x := by
    rw [sv, sv, e4, a2, c 5 s 3 (by omega) (by omega), nsum_congr 6 (fun b _ => wE b s)]; omega
  have rE : ∀ q, q < tN (κ 7 0 4) → q ≠ r → rv κ' q = rv κ q := fun q _ hq => rv_to (c _ _ _ (by omega) (by omega)) (c _ _ _ (by omega) (by omega))
  have rS' : rv κ' r = 0 := by rw [rv, e7, if_neg e3]; decide
  have t1 := nsum_one 12 hs sE
  have t2 := nsum_one _ hr rE
  refine ⟨by rw [c 7 0 5 (by omega) (by omega)]; exact h1, fun t ht => ⟨by rw [c 5 t 3 (by omega) (by omega)]; exact (h2 t ht).1, ?_⟩, fun b hb => by rw [c 1 b 0 (by omega) (by omega)]; exact h3 b hb, fun b t hb ht => by rw [c 14 b t (by omega) (by omega), c 6 _ 2 (by omega) (by omega)]; exact h4 b t hb ht, fun q hq => ?_, ?_⟩
  · by_cases e : t = s
    · rw [e, e4]; exact a1
    · rw [c 5 t 4 (by omega) (by omega)]; exact (h2 t ht).2
  · rw [en] at hq
    by_cases e : q = r
    · rw [e, e7]; exact ixL0 (by decide)
    · rw [c 3 q 7 (by omega) (by omega)]; exact h5 q hq
  · rw [tot, en, c 7 0 5 (by omega) (by omega), nsum_congr (f := bv κ') (g := bv κ) 6 (fun b _ => by rw [bv, bv, c 1 b 0 (by omega) (by omega)])]
    omega
/-- a window that closes gives back what is left -/
theorem gM_close {κ κ' : gMem} {b s : Nat} (h : gM κ) (hb : b < 6) (hs : s < 12) (ho : ¬ κ 14 b s < 0) (e1 : κ' 1 b 0 = κ 1 b 0 + κ 6 (12 * b + s) 2) (e14 : κ' 14 b s < 0)
    (c : ∀ f i k, f ≠ 1 ∨ i ≠ b ∨ k ≠ 0 → f ≠ 14 ∨ i ≠ b ∨ k ≠ s → κ' f i k = κ f i k) : gM κ' := by
  have hbd := h.bd
  obtain ⟨h1, h2, h3, h4, h5, h6⟩ := h
  have en : κ' 7 0 4 = κ 7 0 4 := c _ _ _ (by omega) (by omega)
  have hS := nsum_le (f := sv κ) 12 hs
  have hB := nsum_le (f := bv κ) 6 hb
  have hsv : sv κ s = tN (κ 5 s 3) + tN (κ 5 s 4) + nsum (fun b => wv κ b s) 6 := rfl
  have hw := nsum_le (f := fun b => wv κ b s) 6 hb
  have ew : wv κ b s = tN (κ 6 (12 * b + s) 2) := if_neg ho
  have ebv : bv κ b = tN (κ 1 b 0) := rfl
  have hl : ixL (κ 6 (12 * b + s) 2) 2401 := (h4 b s hb hs).resolve_left ho
  obtain ⟨a1, a2⟩ := ix_add (k := 2401) (h3 b hb) hl (by omega) (by decide)
  have wE : ∀ b' t, b' ≠ b ∨ t ≠ s → wv κ' b' t = wv κ b' t := fun b' t ht => wv_to (c _ _ _ (by omega) (by omega)) (c _ _ _ (by omega) (by omega))
  have wS : wv κ' b s = 0 := if_pos e14
  have sE : ∀ t, t < 12 → t ≠ s → sv κ' t = sv κ t := fun t _ ht => sv_to (c _ _ _ (by omega) (by omega)) (c _ _ _ (by omega) (by omega)) (fun b' _ => wE b' t (Or.inr ht))
  have t0 := nsum_one (f := fun b => wv κ' b s) (g := fun b => wv κ b s) 6 hb (fun k _ hk => wE k s (Or.inl hk))
  have sS : sv κ' s + tN (κ 6 (12 * b + s) 2) = sv κ s := by
    rw [sv, sv, c 5 s 3 (by omega) (by omega), c 5 s 4 (by omega) (by omega)]
    try dsimp only at t0
    omega
  have t1 := nsum_one 12 hs sE
  have bS : bv κ' b = bv κ b + tN (κ 6 (12 * b + s) 2) := by rw [bv, bv, e1, a2]
  have t2 := nsum_one (f := bv κ') (g := bv κ) 6 hb (fun k _ hk => by rw [bv, bv, c 1 k 0 (by omega) (by omega)])
  refine ⟨by rw [c 7 0 5 (by omega) (by omega)]; exact h1, fun t ht => ⟨by rw [c 5 t 3 (by omega) (by omega)]; exact (h2 t ht).1, by rw [c 5 t 4 (by omega) (by omega)]; exact (h2 t ht).2⟩, fun b' hb' => ?_, fun b' t hb' ht => ?_, fun q hq => by rw [en] at hq; rw [c 3 q 7 (by omega) (by omega)]; exact h5 q hq, ?_⟩
  · by_cases e : b' = b
    · rw [e, e1]; exact a1
    · rw [c 1 b' 0 (by omega) (by omega)]; exact h3 b' hb'
  · by_cases e : b' = b ∧ t = s
    · left; rw [e.1, e.2]; exact e14
    · rw [c 14 b' t (by omega) (by omega), c 6 _ 2 (by omega) (by omega)]; exact h4 b' t hb' ht
  · rw [tot, en, c 7 0 5 (by omega) (by omega), nsum_congr (f := rv κ') (g := rv κ) _ (fun r _ => rv_to (c _ _ _ (by omega) (by omega)) (c _ _ _ (by omega) (by omega)))]
    omega
/-- a window opens: its price is set aside -/
theorem gM_open {κ κ' : gMem} {b s : Nat} {x : Int32} (h : gM κ) (hb : b < 6) (hs : s < 12) (ho : κ 14 b s < 0) (hx : ixL x 2401) (hle : tN x ≤ tN (κ 1 b 0)) (e1 : κ' 1 b 0 = κ 1 b 0 - x) (e14 : ¬ κ' 14 b s < 0) (e6 : κ' 6 (12 * b + s) 2 = x)
    (c : ∀ f i k, f ≠ 1 ∨ i ≠ b ∨ k ≠ 0 → f ≠ 14 ∨ i ≠ b ∨ k ≠ s → f ≠ 6 ∨ i ≠ 12 * b + s → f ≠ 7 ∨ k ≠ 7 → κ' f i k = κ f i k) : gM κ' := by
  have hbd := h.bd
  obtain ⟨h1, h2, h3, h4, h5, h6⟩ := h
  have en : κ' 7 0 4 = κ 7 0 4 := c _ _ _ (by omega) (by omega) (by omega) (by omega)
  have hB := nsum_le (f := bv κ) 6 hb
  have ebv : bv κ b = tN (κ 1 b 0) := rfl
  obtain ⟨a1, a2⟩ := ix_sub (h3 b hb) hx hle (by decide)
  have wE : ∀ b' t, b' < 6 → t < 12 → b' ≠ b ∨ t ≠ s → wv κ' b' t = wv κ b' t := fun b' t _ _ ht => wv_to (c _ _ _ (by omega) (by omega) (by omega) (by omega)) (c _ _ _ (by omega) (by omega) (by omega) (by omega))
  have wS : wv κ' b s = tN x := by rw [wv, if_neg e14, e6]
  have w0 : wv κ b s = 0 := if_pos ho
  have sE : ∀ t, t < 12 → t ≠ s → sv κ' t = sv κ t := fun t h12 ht => sv_to (c _ _ _ (by omega) (by omega) (by omega) (by omega)) (c _ _ _ (by omega) (by omega) (by omega) (by omega)) (fun b' h6 => wE b' t h6 h12 (Or.inr ht))
  have t0 := nsum_one (f := fun b => wv κ' b s) (g := fun b => wv κ b s) 6 hb (fun k h6 hk => wE k s h6 hs (Or.inl hk))
  have sS : sv κ' s = sv κ s + tN x := by
    rw [sv, sv, c 5 s 3 (by omega) (by omega) (by omega) (by omega), c 5 s 4 (by omega) (by omega) (by omega) (by omega)]
    try dsimp only at t0
    omega
  have t1 := nsum_one 12 hs sE
  have bS : bv κ' b + tN x = bv κ b := by rw [bv, bv, e1, a2]; omega
  have t2 := nsum_one (f := bv κ') (g := bv κ) 6 hb (fun k _ hk => by rw [bv, bv, c 1 k 0 (by omega) (by omega) (by omega) (by omega)])
  refine ⟨by rw [c 7 0 5 (by omega) (by omega) (by omega) (by omega)]; exact h1, fun t ht => ⟨by rw [c 5 t 3 (by omega) (by omega) (by omega) (by omega)]; exact (h2 t ht).1, by rw [c 5 t 4 (by omega) (by omega) (by omega) (by omega)]; exact (h2 t ht).2⟩, fun b' hb' => ?_, fun b' t hb' ht => ?_, fun q hq => by rw [en] at hq; rw [c 3 q 7 (by omega) (by omega) (by omega) (by omega)]; exact h5 q hq, ?_⟩
  · by_cases e : b' = b
    · rw [e, e1]; exact a1
    · rw [c 1 b' 0 (by omega) (by omega) (by omega) (by omega)]; exact h3 b' hb'
  · by_cases e : b' = b ∧ t = s
    · right; rw [e.1, e.2, e6]; exact hx
    · rw [c 14 b' t (by omega) (by omega) (by omega) (by omega), c 6 _ 2 (by omega) (by omega) (by omega) (by omega)]; exact h4 b' t hb' ht
  · rw [tot, en, c 7 0 5 (by omega) (by omega) (by omega) (by omega), nsum_congr (f := rv κ') (g := rv κ) _ (fun r _ => rv_to (c _ _ _ (by omega) (by omega) (by omega) (by omega)) (c _ _ _ (by omega) (by omega) (by omega) (by omega)))]
    omega
/-- a window uses a reading -/
theorem gM_use {κ κ' : gMem} {b s r : Nat} {x : Int32} (h : gM κ) (hb : b < 6) (hs : s < 12) (hr : r < tN (κ 7 0 4)) (ho : ¬ κ 14 b s < 0) (hx : ixL x 2401) (hle : tN x ≤ tN (κ 6 (12 * b + s) 2)) (e6 : κ' 6 (12 * b + s) 2 = κ 6 (12 * b + s) 2 - x) (e7 : κ' 3 r 7 = κ 3 r 7 + x)
    (c : ∀ f i k, f ≠ 6 ∨ i ≠ 12 * b + s ∨ k ≠ 2 → f ≠ 3 ∨ i ≠ r ∨ (k ≠ 6 ∧ k ≠ 7) → f ≠ 15 → κ' f i k = κ f i k) : gM κ' := by
  have hbd := h.bd
  obtain ⟨h1, h2, h3, h4, h5, h6⟩ := h
  have en : κ' 7 0 4 = κ 7 0 4 := c _ _ _ (by omega) (by omega) (by omega)
  have hS := nsum_le (f := sv κ) 12 hs
  have hR := nsum_le (f := rv κ) _ hr
  have hsv : sv κ s = tN (κ 5 s 3) + tN (κ 5 s 4) + nsum (fun b => wv κ b s) 6 := rfl
  have hw := nsum_le (f := fun b => wv κ b s) 6 hb
  have ew : wv κ b s = tN (κ 6 (12 * b + s) 2) := if_neg ho
  have erv : rv κ r = tN (κ 3 r 7) + (if κ 3 r 3 = 1 then 4 else 0) := rfl
  have hl : ixL (κ 6 (12 * b + s) 2) 2401 := (h4 b s hb hs).resolve_left ho
  obtain ⟨a1, a2⟩ := ix_sub hl hx hle (by decide)
  obtain ⟨d1, d2⟩ := ix_add (k := 2401) (h5 r hr) hx (by omega) (by decide)
  have wE : ∀ b' t, b' < 6 → t < 12 → b' ≠ b ∨ t ≠ s → wv κ' b' t = wv κ b' t := fun b' t _ _ ht => wv_to (c _ _ _ (by omega) (by omega) (by omega)) (c _ _ _ (by omega) (by omega) (by omega))
  have wS : wv κ' b s + tN x = wv κ b s := by rw [wv, if_neg (by rw [c 14 b s (by omega) (by omega) (by omega)]; exact ho), e6, a2, ew]; omega
  have sE : ∀ t, t < 12 → t ≠ s → sv κ' t = sv κ t := fun t h12 ht => sv_to (c _ _ _ (by omega) (by omega) (by omega)) (c _ _ _ (by omega) (by omega) (by omega)) (fun b' h6 => wE b' t h6 h12 (Or.inr ht))
  have t0 := nsum_one (f := fun b => wv κ' b s) (g := fun b => wv κ b s) 6 hb (fun k h6 hk => wE k s h6 hs (Or.inl hk))
  have sS : sv κ' s + tN x = sv κ s := by
    rw [sv, sv, c 5 s 3 (by omega) (by omega) (by omega), c 5 s 4 (by omega) (by omega) (by omega)]
    try dsimp only at t0
    omega
  have t1 := nsum_one 12 hs sE
  have rS' : rv κ' r = rv κ r + tN x := by rw [rv, rv, e7, d2, c 3 r 3 (by omega) (by omega) (by omega)]; omega
  have t2 := nsum_one (f := rv κ') (g := rv κ) _ hr (fun q _ hq => rv_to (c _ _ _ (by omega) (by omega) (by omega)) (c _ _ _ (by omega) (by omega) (by omega)))
  refine ⟨by rw [c 7 0 5 (by omega) (by omega) (by omega)]; exact h1, fun t ht => ⟨by rw [c 5 t 3 (by omega) (by omega) (by omega)]; exact (h2 t ht).1, by rw [c 5 t 4 (by omega) (by omega) (by omega)]; exact (h2 t ht).2⟩, fun b' hb' => by rw [c 1 b' 0 (by omega) (by omega) (by omega)]; exact h3 b' hb', fun b' t hb' ht => ?_, fun q hq => ?_, ?_⟩
  · by_cases e : b' = b ∧ t = s
    · right; rw [e.1, e.2, e6]; exact a1
    · rw [c 14 b' t (by omega) (by omega) (by omega), c 6 _ 2 (by omega) (by omega) (by omega)]; exact h4 b' t hb' ht
  · rw [en] at hq
    by_cases e : q = r
    · rw [e, e7]; exact d1
    · rw [c 3 q 7 (by omega) (by omega) (by omega)]; exact h5 q hq
  · rw [tot, en, c 7 0 5 (by omega) (by omega) (by omega), nsum_congr (f := bv κ') (g := bv κ) 6 (fun b _ => by rw [bv, bv, c 1 b 0 (by omega) (by omega) (by omega)])]
    omega
/-- a reading more, that holds nothing yet -/
theorem gM_new {κ κ' : gMem} {n : Nat} (h : gM κ) (en : κ 7 0 4 = nI n) (hn : n < 80) (en' : κ' 7 0 4 = nI (n + 1)) (e7 : κ' 3 n 7 = 0) (e3 : κ' 3 n 3 ≠ 1)
    (c : ∀ f i k, gMt f k → f ≠ 7 ∨ k ≠ 4 → f ≠ 3 ∨ i ≠ n → κ' f i k = κ f i k) : gM κ' := by
  obtain ⟨h1, h2, h3, h4, h5, h6⟩ := h
  have tn : tN (κ 7 0 4) = n := by rw [en, tN_nI (by omega)]
  have tn' : tN (κ' 7 0 4) = n + 1 := by rw [en', tN_nI (by omega)]
  have c53 : ∀ s, κ' 5 s 3 = κ 5 s 3 := fun s => c _ _ _ (by simp [gMt]) (by omega) (by omega)
  have c54 : ∀ s, κ' 5 s 4 = κ 5 s 4 := fun s => c _ _ _ (by simp [gMt]) (by omega) (by omega)
  have c1 : ∀ s, κ' 1 s 0 = κ 1 s 0 := fun s => c _ _ _ (by simp [gMt]) (by omega) (by omega)
  have c14 : ∀ b s, κ' 14 b s = κ 14 b s := fun b s => c _ _ _ (by simp [gMt]) (by omega) (by omega)
  have c6 : ∀ b, κ' 6 b 2 = κ 6 b 2 := fun b => c _ _ _ (by simp [gMt]) (by omega) (by omega)
  have c33 : ∀ b, b ≠ n → κ' 3 b 3 = κ 3 b 3 := fun b hb => c _ _ _ (by simp [gMt]) (by omega) (by omega)
  have c37 : ∀ b, b ≠ n → κ' 3 b 7 = κ 3 b 7 := fun b hb => c _ _ _ (by simp [gMt]) (by omega) (by omega)
  have e5 : κ' 7 0 5 = κ 7 0 5 := c _ _ _ (by simp [gMt]) (by omega) (by omega)
  refine ⟨by rw [e5]; exact h1, fun s hs => by rw [c53, c54]; exact h2 s hs, fun b hb => by rw [c1]; exact h3 b hb, fun b s hb hs => by rw [c14, c6]; exact h4 b s hb hs, fun r hr => ?_, ?_⟩
  · rw [tn'] at hr
    by_cases e : r = n
    · rw [e, e7]; exact ixL0 (by decide)
    · rw [c37 r e]; exact h5 r (by omega)
  · have r0 : rv κ' n = 0 := by rw [rv, e7, if_neg e3]; decide
    have es : nsum (rv κ') (n + 1) = nsum (rv κ') n + rv κ' n := rfl
    rw [tot, e5, tn', es, r0, nsum_congr (f := sv κ') (g := sv κ) 12 (fun s _ => sv_to (c53 s) (c54 s) (fun b _ => wv_to (c14 b s) (c6 _))), nsum_congr (f := bv κ') (g := bv κ) 6 (fun b _ => by rw [bv, bv, c1]), nsum_congr (f := rv κ') (g := rv κ) n (fun r hr => rv_to (c33 r (by omega)) (c37 r (by omega)))]
    rw [tot, tn] at h6
    exact h6
/-- a challenge takes four -/
theorem gM_chal {κ κ' : gMem} {b r : Nat} (h : gM κ) (hb : b < 6) (hr : r < tN (κ 7 0 4)) (h0 : κ 3 r 3 = 0) (h4 : 4 ≤ tN (κ 1 b 0)) (e1 : κ' 1 b 0 = κ 1 b 0 - 4) (e3 : κ' 3 r 3 = 1)
    (c : ∀ f i k, gMt f k → f ≠ 1 ∨ i ≠ b → f ≠ 3 ∨ i ≠ r ∨ k ≠ 3 → κ' f i k = κ f i k) : gM κ' := by
  have hbd := h.bd
  obtain ⟨h1, h2, h3, h4', h5, h6⟩ := h
  have en : κ' 7 0 4 = κ 7 0 4 := c _ _ _ (by simp [gMt]) (by omega) (by omega)
  have e5 : κ' 7 0 5 = κ 7 0 5 := c _ _ _ (by simp [gMt]) (by omega) (by omega)
  have c53 : ∀ s, κ' 5 s 3 = κ 5 s 3 := fun s => c _ _ _ (by simp [gMt]) (by omega) (by omega)
  have c54 : ∀ s, κ' 5 s 4 = κ 5 s 4 := fun s => c _ _ _ (by simp [gMt]) (by omega) (by omega)
  have c1 : ∀ s, s ≠ b → κ' 1 s 0 = κ 1 s 0 := fun s hs => c _ _ _ (by simp [gMt]) (by omega) (by omega)
  have c14 : ∀ b s, κ' 14 b s = κ 14 b s := fun b s => c _ _ _ (by simp [gMt]) (by omega) (by omega)
  have c6 : ∀ b, κ' 6 b 2 = κ 6 b 2 := fun b => c _ _ _ (by simp [gMt]) (by omega) (by omega)
  have c33 : ∀ q, q ≠ r → κ' 3 q 3 = κ 3 q 3 := fun q hq => c _ _ _ (by simp [gMt]) (by omega) (by omega)
  have c37 : ∀ q, κ' 3 q 7 = κ 3 q 7 := fun q => c _ _ _ (by simp [gMt]) (by omega) (by omega)
  obtain ⟨a1, a2⟩ := ix_sub (y := 4) (h3 b hb) (ix_c 4 (n := 5) (by decide) (by decide)).1 h4 (by decide)
  have t4 : tN (4 : Int32) = 4 := by decide +kernel
  have ebv : bv κ b = tN (κ 1 b 0) := rfl
  have bS : bv κ' b + 4 = bv κ b := by rw [bv, bv, e1, a2, t4]; omega
  have t2 := nsum_one (f := bv κ') (g := bv κ) 6 hb (fun k _ hk => by rw [bv, bv, c1 k hk])
  have rS' : rv κ' r = rv κ r + 4 := by rw [rv, rv, e3, h0, c37, if_pos rfl, if_neg (by decide)]
  have t3 := nsum_one (f := rv κ') (g := rv κ) _ hr (fun q _ hq => rv_to (c33 q hq) (c37 q))
  refine ⟨by rw [e5]; exact h1, fun s hs => by rw [c53, c54]; exact h2 s hs, fun b' hb' => ?_, fun b s hb hs => by rw [c14, c6]; exact h4' b s hb hs, fun q hq => by rw [en] at hq; rw [c37]; exact h5 q hq, ?_⟩
  · by_cases e : b' = b
    · rw [e, e1]; exact a1
    · rw [c1 b' e]; exact h3 b' hb'
  · rw [tot, e5, en, nsum_congr (f := sv κ') (g := sv κ) 12 (fun s _ => sv_to (c53 s) (c54 s) (fun b _ => wv_to (c14 b s) (c6 _)))]
    omega
/-- a purse's money goes to the bond -/
theorem gM_top {κ κ' : gMem} {s : Nat} {x : Int32} (h : gM κ) (hs : s < 12) (hx : ixL x 2401) (hle : tN x ≤ tN (κ 5 s 4)) (e4 : κ' 5 s 4 = κ 5 s 4 - x) (e3 : κ' 5 s 3 = κ 5 s 3 + x)
    (c : ∀ f i k, gMt f k → f ≠ 5 ∨ i ≠ s → κ' f i k = κ f i k) : gM κ' := by
  have hbd := h.bd
  obtain ⟨h1, h2, h3, h4', h5, h6⟩ := h
  have en : κ' 7 0 4 = κ 7 0 4 := c _ _ _ (by simp [gMt]) (by omega)
  have e5 : κ' 7 0 5 = κ 7 0 5 := c _ _ _ (by simp [gMt]) (by omega)
  have c1 : ∀ s, κ' 1 s 0 = κ 1 s 0 := fun s => c _ _ _ (by simp [gMt]) (by omega)
  have c14 : ∀ b s, κ' 14 b s = κ 14 b s := fun b s => c _ _ _ (by simp [gMt]) (by omega)
  have c6 : ∀ b, κ' 6 b 2 = κ 6 b 2 := fun b => c _ _ _ (by simp [gMt]) (by omega)
  have c33 : ∀ q, κ' 3 q 3 = κ 3 q 3 := fun q => c _ _ _ (by simp [gMt]) (by omega)
  have c37 : ∀ q, κ' 3 q 7 = κ 3 q 7 := fun q => c _ _ _ (by simp [gMt]) (by omega)
  have hS := nsum_le (f := sv κ) 12 hs
  have hsv : sv κ s = tN (κ 5 s 3) + tN (κ 5 s 4) + nsum (fun b => wv κ b s) 6 := rfl
  obtain ⟨a1, a2⟩ := ix_sub (h2 s hs).2 hx hle (by decide)
  obtain ⟨d1, d2⟩ := ix_add (k := 2401) (h2 s hs).1 hx (by omega) (by decide)
  have wE : ∀ b t, wv κ' b t = wv κ b t := fun b t => wv_to (c14 b t) (c6 _)
  have sE : ∀ t, t < 12 → sv κ' t = sv κ t := fun t ht => by
    by_cases e : t = s
    · rw [e, sv, sv, e3, e4, a2, d2, nsum_congr 6 (fun b _ => wE b s)]; omega
    · exact sv_to (c _ _ _ (by simp [gMt]) (by omega)) (c _ _ _ (by simp [gMt]) (by omega)) (fun b _ => wE b t)
  refine ⟨by rw [e5]; exact h1, fun t ht => ?_, fun b' hb' => by rw [c1]; exact h3 b' hb', fun b s hb hs => by rw [c14, c6]; exact h4' b s hb hs, fun q hq => by rw [en] at hq; rw [c37]; exact h5 q hq, ?_⟩
  · by_cases e : t = s
    · rw [e, e3, e4]; exact ⟨d1, a1⟩
    · rw [c 5 t 3 (by simp [gMt]) (by omega), c 5 t 4 (by simp [gMt]) (by omega)]; exact h2 t ht
  · rw [tot, e5, en, nsum_congr (f := sv κ') (g := sv κ) 12 sE, nsum_congr (f := bv κ') (g := bv κ) 6 (fun b _ => by rw [bv, bv, c1]), nsum_congr (f := rv κ') (g := rv κ) _ (fun r _ => rv_to (c33 r) (c37 r))]
    exact h6
/-- a lie: what was held goes back, the bond's cut is shared -/
theorem gM_lie {κ κ' : gMem} {r s ch u : Nat} {cut : Int32} {p : Nat → Nat} (h : gM κ) (hr : r < tN (κ 7 0 4)) (hs : s < 12) (hch : ch < 6) (h1' : κ 3 r 3 = 1)
    (hp : ∀ b, b < 6 → ixL (κ 15 r b) 21 ∧ tN (κ 15 r b) = p b) (hheld : tN (κ 3 r 7) = nsum p 6) (hu : κ 3 r 6 = nI u) (hu2 : u = nsum (fun b => if p b = 0 then 0 else 1) 6)
    (hcut : ixL cut 2401) (hcl : tN cut ≤ tN (κ 5 s 3))
    (e53 : κ' 5 s 3 = κ 5 s 3 - cut) (e1 : ∀ b, b < 6 → κ' 1 b 0 = κ 1 b 0 + κ 15 r b + (if b = ch then 4 + cut / 4 else 0) + (if κ 3 r 6 = 0 ∨ κ 15 r b ≤ 0 then 0 else cut / 2 / κ 3 r 6))
    (e33 : κ' 3 r 3 ≠ 1) (e37 : κ' 3 r 7 = 0) (e75 : κ' 7 0 5 = κ 7 0 5 + (cut - cut / 4 - (if κ 3 r 6 = 0 then 0 else cut / 2 / κ 3 r 6 * κ 3 r 6)))
    (c : ∀ f i k, gMt f k → f ≠ 1 → f ≠ 5 ∨ i ≠ s ∨ k ≠ 3 → f ≠ 7 ∨ k ≠ 5 → f ≠ 3 ∨ i ≠ r → κ' f i k = κ f i k) : gM κ' ∧ tN (κ 7 0 5) ≤ tN (κ' 7 0 5) := by
  have hbd := h.bd
  obtain ⟨h1, h2, h3, h4, h5, h6⟩ := h
  have en : κ' 7 0 4 = κ 7 0 4 := c _ _ _ (by simp [gMt]) (by omega) (by omega) (by omega) (by omega)
  have c14 : ∀ b s, κ' 14 b s = κ 14 b s := fun b s => c _ _ _ (by simp [gMt]) (by omega) (by omega) (by omega) (by omega)
  have c6 : ∀ b, κ' 6 b 2 = κ 6 b 2 := fun b => c _ _ _ (by simp [gMt]) (by omega) (by omega) (by omega) (by omega)
  have c54 : ∀ t, κ' 5 t 4 = κ 5 t 4 := fun t => c _ _ _ (by simp [gMt]) (by omega) (by omega) (by omega) (by omega)
  have hS := nsum_le (f := sv κ) 12 hs
  have hR := nsum_le (f := rv κ) _ hr
  have hsv : sv κ s = tN (κ 5 s 3) + tN (κ 5 s 4) + nsum (fun b => wv κ b s) 6 := rfl
  have erv : rv κ r = nsum p 6 + 4 := by rw [rv, hheld, h1', if_pos rfl]
  have u6 : u ≤ 6 := by
    rw [hu2]
    have := nsum_bd (f := fun b => if p b = 0 then 0 else 1) (g := fun _ => 1) 6 (fun k _ => by split <;> omega)
    rw [nsum_c] at this; exact this
  -- the share
  obtain ⟨q4, q4'⟩ := ix_div (d := 4) hcut (by decide) (by decide) (by decide)
  obtain ⟨q2, q2'⟩ := ix_div (d := 2) hcut (by decide) (by decide) (by decide)
  have q4 : ixL (cut / 4) 2401 := q4
  have q4' : tN (cut / 4) = tN cut / 4 := q4'
  have q2 : ixL (cut / 2) 2401 := q2
  have q2' : tN (cut / 2) = tN cut / 2 := q2'
  obtain ⟨sh, hsh, esh⟩ : ∃ sh : Nat, (u ≠ 0 → cut / 2 / κ 3 r 6 = nI sh) ∧ sh * u ≤ tN cut / 2 := by
    by_cases e : u = 0
    · exact ⟨0, fun z => absurd e z, by omega⟩
    · obtain ⟨w1, w2⟩ := ix_div (d := u) q2 (by omega) (by omega) (by decide)
      refine ⟨tN cut / 2 / u, fun _ => ?_, Nat.div_mul_le_self _ _⟩
      rw [hu, w1.1, w2, q2']
  have hu0 : κ 3 r 6 = 0 ↔ u = 0 := by
    rw [hu]
    constructor
    · intro z
      have z2 := congrArg tN z
      rw [tN_nI (by omega)] at z2
      rw [z2]; decide +kernel
    · intro z; rw [z]; rfl
  have hp0 : ∀ b, b < 6 → (κ 15 r b ≤ 0 ↔ p b = 0) := fun b hb => by
    have := ix_le (hp b hb).1 (ix_0 (n := 1) (by decide)).1 (by decide) (by decide)
    rw [(ix_0 (n := 1) (by decide)).2, (hp b hb).2] at this
    rw [this]; omega
  have hpu : u = 0 → ∀ b, b < 6 → p b = 0 := fun z b hb => by
    have := nsum_le (f := fun b => if p b = 0 then 0 else 1) 6 hb
    rw [← hu2, z] at this
    try dsimp only at this
    by_cases e : p b = 0
    · exact e
    · rw [if_neg e] at this; omega
  have e1n : ∀ b, b < 6 → κ' 1 b 0 = nI (bv κ b + p b + (if b = ch then 4 + tN cut / 4 else 0) + (if p b = 0 then 0 else sh)) := fun b hb => by
    rw [e1 b hb, (h3 b hb).1, (hp b hb).1.1, (hp b hb).2, ← nI_add, ← nI_add, ← nI_add]
    have x1 : (if b = ch then 4 + cut / 4 else 0) = nI (if b = ch then 4 + tN cut / 4 else 0) := by
      by_cases e : b = ch
      · rw [if_pos e, if_pos e, q4.1, q4']; exact nI_add 4 _
      · rw [if_neg e, if_neg e]; rfl
    have x2 : (if κ 3 r 6 = 0 ∨ nI (p b) ≤ 0 then 0 else cut / 2 / κ 3 r 6) = nI (if p b = 0 then 0 else sh) := by
      have y1 := hp0 b hb
      rw [(hp b hb).1.1, (hp b hb).2] at y1
      by_cases e : p b = 0
      · rw [if_pos (Or.inr (y1.mpr e)), if_pos e]; rfl
      · have : u ≠ 0 := fun z => e (hpu z b hb)
        rw [if_neg (fun z => z.elim (fun z => this (hu0.mp z)) (fun z => e (y1.mp z))), if_neg e, hsh this]
    rw [x1, x2]; rfl
  have s1 : nsum (fun b => bv κ b + p b + (if b = ch then 4 + tN cut / 4 else 0) + (if p b = 0 then 0 else sh)) 6 = nsum (bv κ) 6 + nsum p 6 + (4 + tN cut / 4) + sh * u := by
    rw [nsum_add (f := fun b => bv κ b + p b + (if b = ch then 4 + tN cut / 4 else 0)) (g := fun b => if p b = 0 then 0 else sh) 6 (fun _ _ => rfl), nsum_add (f := fun b => bv κ b + p b) (g := fun b => if b = ch then 4 + tN cut / 4 else 0) 6 (fun _ _ => rfl), nsum_add (f := bv κ) (g := p) 6 (fun _ _ => rfl)]
    have y1 := nsum_one (f := fun b => if b = ch then 4 + tN cut / 4 else 0) (g := fun _ => 0) 6 hch (fun k _ hk => if_neg hk)
    rw [nsum_c] at y1
    try dsimp only at y1
    rw [if_pos rfl] at y1
    have y2 : nsum (fun b => if p b = 0 then 0 else sh) 6 = sh * u := by
      rw [hu2, Nat.mul_comm, ← nsum_mul]
      exact nsum_congr 6 (fun k _ => by split <;> omega)
    rw [y2]; omega
  have hB : ∀ b, b < 6 → bv κ b + p b + (if b = ch then 4 + tN cut / 4 else 0) + (if p b = 0 then 0 else sh) ≤ 2400 := fun b hb => by
    have := nsum_le (f := fun b => bv κ b + p b + (if b = ch then 4 + tN cut / 4 else 0) + (if p b = 0 then 0 else sh)) 6 hb
    rw [s1] at this
    try dsimp only at this
    omega
  have bE : ∀ b, b < 6 → ixL (κ' 1 b 0) 2401 ∧ bv κ' b = bv κ b + p b + (if b = ch then 4 + tN cut / 4 else 0) + (if p b = 0 then 0 else sh) := fun b hb => by
    have := hB b hb
    exact ix_mk (e1n b hb) (by omega) (by decide)
  have hH : κ' 7 0 5 = nI (tN (κ 7 0 5) + (tN cut - tN cut / 4 - sh * u)) := by
    have x3 : (if κ 3 r 6 = 0 then 0 else cut / 2 / κ 3 r 6 * κ 3 r 6) = nI (sh * u) := by
      by_cases e : u = 0
      · rw [if_pos (hu0.mpr e), e]; rfl
      · rw [if_neg (fun z => e (hu0.mp z)), hsh e, hu, pk_mul]
    have x4 : cut - cut / 4 = nI (tN cut - tN cut / 4) := by
      rw [q4.1, q4', hcut.1, tN_nI (by have := hcut.2; omega)]; exact pk_sub (Nat.div_le_self _ _)
    rw [e75, x3, x4, pk_sub (by omega), ← nI_add, ← h1.1]
  have wE : ∀ b t, wv κ' b t = wv κ b t := fun b t => wv_to (c14 b t) (c6 _)
  obtain ⟨d1, d2⟩ := ix_sub (h2 s hs).1 hcut hcl (by decide)
  have sE : ∀ t, t < 12 → t ≠ s → sv κ' t = sv κ t := fun t _ ht => sv_to (c _ _ _ (by simp [gMt]) (by omega) (by omega) (by omega) (by omega)) (c54 t) (fun b _ => wE b t)
  have sS : sv κ' s + tN cut = sv κ s := by rw [sv, sv, e53, d2, c54, nsum_congr 6 (fun b _ => wE b s)]; omega
  have t1 := nsum_one 12 hs sE
  have rS' : rv κ' r = 0 := by rw [rv, e37, if_neg e33]; decide
  have t2 := nsum_one (f := rv κ') (g := rv κ) _ hr (fun q _ hq => rv_to (c _ _ _ (by simp [gMt]) (by omega) (by omega) (by omega) (by omega)) (c _ _ _ (by simp [gMt]) (by omega) (by omega) (by omega) (by omega)))
  obtain ⟨g1, g2⟩ := ix_mk (m := 2401) hH (by omega) (by decide)
  refine ⟨⟨g1, fun t ht => ⟨?_, by rw [c54]; exact (h2 t ht).2⟩, fun b hb => (bE b hb).1, fun b t hb ht => by rw [c14, c6]; exact h4 b t hb ht, fun q hq => ?_, ?_⟩, by omega⟩
  · by_cases e : t = s
    · rw [e, e53]; exact d1
    · rw [c 5 t 3 (by simp [gMt]) (by omega) (by omega) (by omega) (by omega)]; exact (h2 t ht).1
  · rw [en] at hq
    by_cases e : q = r
    · rw [e, e37]; exact ixL0 (by decide)
    · rw [c 3 q 7 (by simp [gMt]) (by omega) (by omega) (by omega) (by omega)]; exact h5 q hq
  · rw [tot, en, g2, nsum_congr (f := bv κ') (g := fun b => bv κ b + p b + (if b = ch then 4 + tN cut / 4 else 0) + (if p b = 0 then 0 else sh)) 6 (fun b hb => (bE b hb).2), s1]
    omega
