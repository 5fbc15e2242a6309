/-! ===== plain facts for the class's walks ===== -/
theorem nI_dec (n : Nat) : nI (n + 1) + Int32.ofInt (-1) = nI n := by
  rw [show (Int32.ofInt (-1)) = -1 from rfl, ← Int32.sub_eq_add_neg, nI_pred]
theorem nI_pos0 {q : Nat} (h : ¬ nI q ≤ 0) : q ≠ 0 := fun z => h (by rw [z]; decide)
theorem nI_le0 {q : Nat} (h : nI q ≤ 0) (hq : q < 2 ^ 31) : q = 0 := by
  have := (nI_leI (show q < 2 ^ 31 from hq) (show 0 < 2 ^ 31 by decide)).mp h
  omega
theorem ixL_ex {x : Int32} {n : Nat} (h : ixL x n) : ∃ j, j < n ∧ x = nI j := ⟨tN x, h.2, h.1⟩
theorem ixL_half {x : Int32} (h : ixL x 5) (h0 : ¬ x = 0) : (x - 1) / 2 = nI (tN ((x - 1) / 2)) ∧ tN ((x - 1) / 2) < 4 := by
  obtain ⟨j, hj, rfl⟩ := ixL_ex h
  match j, hj with
  | 0, _ => exact absurd rfl h0
  | 1, _ => decide +kernel
  | 2, _ => decide +kernel
  | 3, _ => decide +kernel
  | 4, _ => decide +kernel
theorem ixL_lt4 {x : Int32} (h : ixL x 5) (h4 : x < 4) : tN x < 4 := by
  obtain ⟨j, hj, rfl⟩ := ixL_ex h
  rw [tN_nI (by omega)]
  match j, hj with
  | 0, _ => decide
  | 1, _ => decide
  | 2, _ => decide
  | 3, _ => decide
  | 4, _ => exact absurd h4 (by decide)
/-! the class's numbers -/
theorem cWF.cnt {ids : gIds} {κ : gMem} (h : cWF ids κ) : κ 7 0 4 = nI (tN (κ 7 0 4)) ∧ tN (κ 7 0 4) ≤ 80 := ⟨h.1.1, by have := h.1.2; omega⟩
theorem cWF.win {ids : gIds} {κ : gMem} (h : cWF ids κ) {b k : Nat} (hb : b < 6) (hk : k < 12) (hn : ¬ κ 14 b k < 0) : κ 14 b k = nI (12 * b + k) ∧ (6, 12 * b + k) ∈ ids := by
  rcases h.2.2.2.2.2.2 b k hb hk with e | e
  · exact absurd (by rw [e]; decide) hn
  · exact e
theorem cRd.ch {ids : gIds} {κ : gMem} {r : Nat} (h : cRd ids κ r) (hn : ¬ κ 3 r 9 < 0) : κ 3 r 9 = nI r ∧ cCh ids κ r := by
  rcases h.2.2.2.2 with e | e
  · exact absurd (by rw [e]; decide) hn
  · exact e
theorem cWF.rp {ids : gIds} {κ : gMem} (h : cWF ids κ) {k : Nat} (hk : k < 12) : ixL (κ 5 k 1) 6 := h.2.2.2.2.2.1 k hk
theorem cWF.on {ids : gIds} {κ : gMem} (h : cWF ids κ) {k : Nat} (hk : k < 6) (h0 : k ≠ 0) : ixL (κ 4 k 1) k := h.2.2.2.2.1 k hk h0
theorem cWF.hub {ids : gIds} {κ : gMem} (h : cWF ids κ) : κ 4 0 1 < 0 := by rw [h.2.2.2.1]; decide
