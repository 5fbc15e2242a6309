/-! ===== the middle of the samples ===== -/
def cB (p : Nat → Prop) [DecidablePred p] : Nat → Nat
  | 0 => 0
  | k + 1 => cB p k + (if p k then 1 else 0)
theorem cB_le (p : Nat → Prop) [DecidablePred p] : ∀ n, cB p n ≤ n
  | 0 => Nat.le_refl _
  | n + 1 => by have := cB_le p n; rw [cB]; split <;> omega
theorem cB_mono {p q : Nat → Prop} [DecidablePred p] [DecidablePred q] : ∀ n, (∀ k, k < n → p k → q k) → cB p n ≤ cB q n
  | 0, _ => Nat.le_refl _
  | n + 1, h => by
    have := cB_mono n (fun k hk => h k (by omega))
    have hn := h n (by omega)
    rw [cB, cB]
    by_cases e : p n
    · rw [if_pos e, if_pos (hn e)]; omega
    · rw [if_neg e]; omega
theorem cB_congr {p q : Nat → Prop} [DecidablePred p] [DecidablePred q] {n : Nat} (h : ∀ k, k < n → (p k ↔ q k)) : cB p n = cB q n :=
  Nat.le_antisymm (cB_mono n (fun k hk => (h k hk).mp)) (cB_mono n (fun k hk => (h k hk).mpr))
theorem cB_lt {p q : Nat → Prop} [DecidablePred p] [DecidablePred q] {j : Nat} (hq : q j) (hp : ¬ p j) : ∀ n, j < n → (∀ k, k < n → p k → q k) → cB p n < cB q n
  | 0, hj, _ => absurd hj (by omega)
  | n + 1, hj, h => by
    rw [cB, cB]
    by_cases e : j = n
    · subst e
      have := cB_mono j (fun k hk => h k (by omega))
      rw [if_neg hp, if_pos hq]; omega
    · have := cB_lt hq hp n (by omega) (fun k hk => h k (by omega))
      have hn := h n (by omega)
      by_cases e2 : p n
      · rw [if_pos e2, if_pos (hn e2)]; omega
      · rw [if_neg e2]; omega
theorem cB_add {p q s : Nat → Prop} [DecidablePred p] [DecidablePred q] [DecidablePred s] : ∀ n, (∀ k, k < n → (s k ↔ p k ∨ q k)) → (∀ k, k < n → ¬ (p k ∧ q k)) → cB s n = cB p n + cB q n
  | 0, _, _ => rfl
  | n + 1, h, h2 => by
    rw [cB, cB, cB, cB_add n (fun k hk => h k (by omega)) (fun k hk => h2 k (by omega))]
    have a := h n (by omega)
    have b := h2 n (by omega)
    by_cases e : p n
    · rw [if_pos e, if_pos (a.mpr (Or.inl e)), if_neg (fun z => b ⟨e, z⟩)]; omega
    · by_cases e2 : q n
      · rw [if_neg e, if_pos e2, if_pos (a.mpr (Or.inr e2))]; omega
      · rw [if_neg e, if_neg e2, if_neg (fun z => (a.mp z).elim e e2)]; omega
theorem cB_cut {p : Nat → Prop} [DecidablePred p] {q : Nat → Prop} [DecidablePred q] {k : Nat} (h : ∀ j, q j ↔ p j ∧ j < k) : ∀ n, k ≤ n → cB q n = cB p k
  | 0, hk => by
    have : k = 0 := by omega
    subst this; rfl
  | n + 1, hk => by
    by_cases e : k = n + 1
    · subst e; exact cB_congr (fun j hj => ⟨fun z => ((h j).mp z).1, fun z => (h j).mpr ⟨z, hj⟩⟩)
    · rw [cB, if_neg (fun z => by have := ((h n).mp z).2; omega), Nat.add_zero]
      exact cB_cut h n (by omega)
theorem cB_find {p : Nat → Prop} [DecidablePred p] {t : Nat} : ∀ n, t < cB p n → ∃ k, k < n ∧ p k ∧ cB p k = t
  | 0, h => absurd h (by rw [cB]; omega)
  | n + 1, h => by
    by_cases l : t < cB p n
    · obtain ⟨k, a, b⟩ := cB_find n l
      exact ⟨k, by omega, b⟩
    · rw [cB] at h
      by_cases e : p n
      · rw [if_pos e] at h; exact ⟨n, by omega, e, by omega⟩
      · rw [if_neg e] at h; omega
theorem cB_all {p : Nat → Prop} [DecidablePred p] : ∀ n, (∀ k, k < n → p k) → cB p n = n
  | 0, _ => rfl
  | n + 1, h => by rw [cB, if_pos (h n (by omega)), cB_all n (fun k hk => h k (by omega))]
theorem cB_ge {p : Nat → Prop} [DecidablePred p] {m : Nat} : ∀ n, m ≤ n → (∀ k, m ≤ k → k < n → ¬ p k) → cB p n ≤ m
  | 0, hm, _ => by rw [cB]; omega
  | n + 1, hm, h => by
    by_cases e : m = n + 1
    · rw [e]; exact cB_le p (n + 1)
    · rw [cB, if_neg (h n (by omega) (by omega))]
      exact cB_ge n (by omega) (fun k a b => h k a (by omega))
theorem cB_up {p : Nat → Prop} [DecidablePred p] {m : Nat} : ∀ n, m ≤ n → cB p m ≤ cB p n
  | 0, hm => by
    have : m = 0 := by omega
    subst this; exact Nat.le_refl _
  | n + 1, hm => by
    by_cases e : m = n + 1
    · rw [e]; exact Nat.le_refl _
    · have := cB_up (p := p) n (show m ≤ n by omega)
      rw [cB]; omega
abbrev sS (μ : gMem) (r k : Nat) : Int32 := μ 45 0 (12 * r + k)
theorem nSm_cB (μ : gMem) (r : Nat) : ∀ n, nSm μ r n = cB (fun k => ¬ sS μ r k = -1) n
  | 0 => rfl
  | n + 1 => by
    rw [nSm, cB, nSm_cB μ r n]
    by_cases e : sS μ r n = -1
    · rw [if_pos e, if_neg (fun z => z e)]
    · rw [if_neg e, if_pos e]
theorem nLe_cB (μ : gMem) (r : Nat) (x : Int32) : ∀ n, nLe μ r x n = cB (fun k => ¬ sS μ r k = -1 ∧ sS μ r k ≤ x) n
  | 0 => rfl
  | n + 1 => by
    rw [nLe, cB, nLe_cB μ r x n]
    by_cases e : sS μ r n = -1
    · rw [if_pos e, if_neg (fun z => z.1 e)]
    · rw [if_neg e]
      by_cases l : sS μ r n ≤ x
      · rw [if_pos l, if_pos ⟨e, l⟩]
      · rw [if_neg l, if_neg (fun z => l z.2)]
theorem cLe_cB (κ : gMem) (r : Nat) (x : Int32) : ∀ n, cLe κ r x n = cB (fun k => κ 16 r k ≤ x) n
  | 0 => rfl
  | n + 1 => by rw [cLe, cB, cLe_cB κ r x n]
theorem mSmp_at (μ : gMem) (r : Nat) : ∀ n, mSmp μ r n = nI (nSm μ r n)
  | 0 => rfl
  | n + 1 => by
    rw [mSmp, nSm, mSmp_at μ r n]
    split
    · exact Int32.add_zero _
    · exact nI_1 _
abbrev aH (μ : gMem) (r k j : Nat) : Prop := ¬ sS μ r j = -1 ∧ (sS μ r j < sS μ r k ∨ (sS μ r j = sS μ r k ∧ j < k))
theorem mAhead_at (μ : gMem) (r k : Nat) (hk : k < 12) : ∀ n, n ≤ 12 → mAhead μ r k n = nI (cB (fun j => aH μ r k j) n)
  | 0, _ => rfl
  | n + 1, hn => by
    rw [mAhead, cB, mAhead_at μ r k hk n (by omega)]
    by_cases e : sS μ r n = -1
    · rw [if_pos e, if_neg (fun z => z.1 e)]; exact Int32.add_zero _
    · rw [if_neg e]
      by_cases l : sS μ r n < sS μ r k
      · rw [if_pos l, if_pos ⟨e, Or.inl l⟩]; exact nI_1 _
      · rw [if_neg l]
        by_cases q : sS μ r n = sS μ r k
        · rw [if_pos q]
          by_cases z : k ≤ n
          · rw [if_pos (show nI k ≤ nI n from Int32.not_lt.mp (fun y => by have := (nI_ltI (show n < 2 ^ 31 by omega) (show k < 2 ^ 31 by omega)).mp y; omega)), if_neg (fun y => y.2.elim l (fun y => by omega))]; exact Int32.add_zero _
          · rw [if_neg (show ¬ nI k ≤ nI n from fun y => Int32.not_lt.mpr y ((nI_ltI (show n < 2 ^ 31 by omega) (show k < 2 ^ 31 by omega)).mpr (by omega))), if_pos ⟨e, Or.inr ⟨q, by omega⟩⟩]; exact nI_1 _
        · rw [if_neg q, if_neg (fun y => y.2.elim l (fun y => q y.1))]; exact Int32.add_zero _
def fnd (μ : gMem) (r m k : Nat) : Prop := ¬ sS μ r k = -1 ∧ cB (fun j => aH μ r k j) 12 = m
theorem nI_inj {a b : Nat} (h : nI a = nI b) (ha : a < 2 ^ 31) (hb : b < 2 ^ 31) : a = b := by rw [← tN_nI ha, h, tN_nI hb]
theorem half_nI {c : Nat} (h : 0 < c) (hc : c < 13) : (nI c - 1) / 2 = nI ((c - 1) / 2) := by
  obtain ⟨q, rfl⟩ : ∃ q, c = q + 1 := ⟨c - 1, by omega⟩
  rw [nI_pred, Nat.add_sub_cancel]
  exact pk_div (a := q) (d := 2) (by omega) (by decide) (by decide)
theorem mFound_at (μ : gMem) (r m : Nat) (hm : (mSmp μ r 12 - 1) / 2 = nI m) (hm2 : m < 2 ^ 31) : ∀ n, n ≤ 12 → (mFound μ r n = -1 ∧ ∀ k, k < n → ¬ fnd μ r m k) ∨ (∃ k, k < n ∧ fnd μ r m k ∧ mFound μ r n = sS μ r k)
  | 0, _ => Or.inl ⟨rfl, fun k hk => by omega⟩
  | n + 1, hn => by
    have ih := mFound_at μ r m hm hm2 n (by omega)
    have step : ¬ fnd μ r m n → mFound μ r (n + 1) = mFound μ r n → (mFound μ r (n + 1) = -1 ∧ ∀ k, k < n + 1 → ¬ fnd μ r m k) ∨ (∃ k, k < n + 1 ∧ fnd μ r m k ∧ mFound μ r (n + 1) = sS μ r k) := by
      intro hf he
      rw [he]
      rcases ih with ⟨a, b⟩ | ⟨k, a, b, c⟩
      · left
        refine ⟨a, fun k hk => ?_⟩
        by_cases e : k = n
        · rw [e]; exact hf
        · exact b k (by omega)
      · exact Or.inr ⟨k, by omega, b, c⟩
    by_cases e : sS μ r n = -1
    · exact step (fun z => z.1 e) (by rw [mFound, if_pos e])
    · have hx : mAhead μ r n 12 = nI (cB (fun j => aH μ r n j) 12) := mAhead_at μ r n (by omega) 12 (Nat.le_refl _)
      have hc := cB_le (fun j => aH μ r n j) 12
      by_cases q : cB (fun j => aH μ r n j) 12 = m
      · right
        refine ⟨n, by omega, ⟨e, q⟩, ?_⟩
        rw [mFound, if_neg e, if_pos (by rw [hx, hm, q])]
      · refine step (fun z => q z.2) ?_
        rw [mFound, if_neg e, if_neg (by rw [hx, hm]; exact fun z => q (nI_inj z (by omega) hm2))]
theorem i32_irr (x : Int32) : ¬ x < x := by rw [Int32.lt_iff_toInt_lt]; omega
theorem i32_lt_le {x y : Int32} (h : x < y) : x ≤ y := by rw [Int32.lt_iff_toInt_lt] at h; rw [Int32.le_iff_toInt_le]; omega
theorem i32_le_lt {x y z : Int32} (h : x ≤ y) (h2 : y < z) : x < z := by rw [Int32.le_iff_toInt_le] at h; rw [Int32.lt_iff_toInt_lt] at h2 ⊢; omega
theorem i32_tri (x y : Int32) : x < y ∨ x = y ∨ y < x := by
  rcases Int.lt_trichotomy x.toInt y.toInt with h | h | h
  · exact Or.inl (by rw [Int32.lt_iff_toInt_lt]; exact h)
  · exact Or.inr (Or.inl (Int32.toInt_inj.mp h))
  · exact Or.inr (Or.inr (by rw [Int32.lt_iff_toInt_lt]; exact h))
/-- the greatest below v -/
theorem below (s : Nat → Int32) (v : Int32) (P : Nat → Prop) : ∀ n, (∀ j, j < n → P j → ¬ s j < v) ∨ ∃ x, x < v ∧ ∀ j, j < n → P j → s j < v → s j ≤ x
  | 0 => Or.inl (fun j hj => by omega)
  | n + 1 => by
    have ext : ∀ x, x < v → (∀ j, j < n → P j → s j < v → s j ≤ x) → ∃ x, x < v ∧ ∀ j, j < n + 1 → P j → s j < v → s j ≤ x := by
      intro x hx h
      by_cases e : s n < v
      · rcases i32_tri x (s n) with q | q | q
        · refine ⟨s n, e, fun j hj hp hl => ?_⟩
          by_cases ej : j = n
          · rw [ej]; exact Int32.le_refl _
          · exact Int32.le_trans (h j (by omega) hp hl) (i32_lt_le q)
        · refine ⟨x, hx, fun j hj hp hl => ?_⟩
          by_cases ej : j = n
          · rw [ej, q]; exact Int32.le_refl _
          · exact h j (by omega) hp hl
        · refine ⟨x, hx, fun j hj hp hl => ?_⟩
          by_cases ej : j = n
          · rw [ej]; exact i32_lt_le q
          · exact h j (by omega) hp hl
      · refine ⟨x, hx, fun j hj hp hl => ?_⟩
        by_cases ej : j = n
        · rw [ej] at hl; exact absurd hl e
        · exact h j (by omega) hp hl
    rcases below s v P n with h | ⟨x, hx, h⟩
    · by_cases e : s n < v
      · right
        refine ⟨s n, e, fun j hj hp hl => ?_⟩
        by_cases ej : j = n
        · rw [ej]; exact Int32.le_refl _
        · exact absurd hl (h j (by omega) hp)
      · left
        intro j hj hp
        by_cases ej : j = n
        · rw [ej]; exact e
        · exact h j (by omega) hp
    · exact Or.inr (ext x hx h)
theorem mid_eq {κ μ : gMem} {r : Nat} (h : rSm κ μ r) : mMiddle μ r = sMiddle κ r ∧ (κ 2 r 2 ≠ 0 → ixL (mMiddle μ r) 100) := by
  obtain ⟨h1, h2, h3, h4, h5⟩ := h
  rw [sMiddle, mMiddle]
  have hc5 := h1.2
  by_cases hz : κ 2 r 2 = 0
  · rw [if_pos hz]
    refine ⟨?_, fun z => absurd hz z⟩
    have z0 : nSm μ r 12 = 0 := by rw [← h2, hz]; decide
    have hall : ∀ k, k < 12 → sS μ r k = -1 := by
      intro k hk
      refine Classical.byContradiction fun e => ?_
      rw [nSm_cB] at z0
      have := cB_lt (p := fun _ => False) (q := fun k => ¬ sS μ r k = -1) (j := k) e (fun z => z) 12 hk (fun _ _ z => z.elim)
      omega
    have key : ∀ n, n ≤ 12 → mFound μ r n = -1 := by
      intro n
      induction n with
      | zero => intro _; rfl
      | succ n ih => intro hn; rw [mFound, if_pos (hall n (by omega))]; exact ih (by omega)
    exact key 12 (Nat.le_refl _)
  · rw [if_neg hz]
    obtain ⟨c, hcd⟩ : ∃ c, tN (κ 2 r 2) = c := ⟨_, rfl⟩
    rw [hcd] at h2 h4 h5 hc5
    have e2 : κ 2 r 2 = nI c := by rw [← hcd]; exact h1.1
    have c0 : 0 < c := by
      rcases Nat.eq_zero_or_pos c with z | z
      · exact absurd (by rw [e2, z]; rfl) hz
      · exact z
    have hm : (mSmp μ r 12 - 1) / 2 = nI ((c - 1) / 2) := by rw [mSmp_at, ← h2, half_nI c0 (by omega)]
    rw [e2, half_nI c0 (by omega), tN_nI (by omega)]
    obtain ⟨m, hmd⟩ : ∃ m, (c - 1) / 2 = m := ⟨_, rfl⟩
    rw [hmd] at hm ⊢
    have mc : m < c := by omega
    obtain ⟨v, hv⟩ : ∃ v, κ 16 r m = v := ⟨_, rfl⟩
    rw [hv]
    have L1 : ∀ x, cB (fun k => κ 16 r k ≤ x) c = cB (fun k => ¬ sS μ r k = -1 ∧ sS μ r k ≤ x) 12 := fun x => by rw [← cLe_cB, ← nLe_cB]; exact h5 x
    have up : m + 1 ≤ cB (fun k => κ 16 r k ≤ v) c := by
      have a := cB_up (p := fun k => κ 16 r k ≤ v) (m := m + 1) c (by omega)
      have b : cB (fun k => κ 16 r k ≤ v) (m + 1) = m + 1 := cB_all _ (fun k hk => by
        by_cases e : k = m
        · rw [e, hv]; exact Int32.le_refl _
        · rw [← hv]; exact h4 k m (by omega) mc)
      omega
    have dn : ∀ x, x < v → cB (fun k => κ 16 r k ≤ x) c ≤ m := fun x hx => cB_ge c (by omega) (fun k a b z => by
      have : v ≤ κ 16 r k := by
        by_cases e : k = m
        · rw [e, hv]; exact Int32.le_refl _
        · rw [← hv]; exact h4 m k (by omega) b
      exact i32_irr x (Int32.lt_of_lt_of_le hx (Int32.le_trans this z)))
    have Lv : cB (fun k => ¬ sS μ r k = -1 ∧ sS μ r k < v) 12 ≤ m := by
      rcases below (sS μ r) v (fun k => ¬ sS μ r k = -1) 12 with hb | ⟨x, hx, hb⟩
      · have := cB_ge (p := fun k => ¬ sS μ r k = -1 ∧ sS μ r k < v) (m := 0) 12 (by omega) (fun k _ hk z => hb k hk z.1 z.2)
        omega
      · have a := dn x hx
        rw [L1 x] at a
        have := cB_mono (p := fun k => ¬ sS μ r k = -1 ∧ sS μ r k < v) (q := fun k => ¬ sS μ r k = -1 ∧ sS μ r k ≤ x) 12 (fun k hk z => ⟨z.1, hb k hk z.1 z.2⟩)
        omega
    have add := cB_add (p := fun k => ¬ sS μ r k = -1 ∧ sS μ r k < v) (q := fun k => ¬ sS μ r k = -1 ∧ sS μ r k = v) (s := fun k => ¬ sS μ r k = -1 ∧ sS μ r k ≤ v) 12
      (fun k _ => ⟨fun z => by
        rcases i32_tri (sS μ r k) v with q | q | q
        · exact Or.inl ⟨z.1, q⟩
        · exact Or.inr ⟨z.1, q⟩
        · exact absurd (Int32.lt_of_le_of_lt z.2 q) (i32_irr _), fun z => by
        rcases z with z | z
        · exact ⟨z.1, i32_lt_le z.2⟩
        · exact ⟨z.1, by rw [z.2]; exact Int32.le_refl _⟩⟩)
      (fun k _ z => by
        have := z.1.2
        rw [z.2.2] at this
        exact i32_irr _ this)
    rw [L1 v] at up
    obtain ⟨k0, hk0, hp0, hc0⟩ := cB_find (p := fun k => ¬ sS μ r k = -1 ∧ sS μ r k = v) (t := m - cB (fun k => ¬ sS μ r k = -1 ∧ sS μ r k < v) 12) 12 (by omega)
    have ex : fnd μ r m k0 := by
      refine ⟨hp0.1, ?_⟩
      have a := cB_add (p := fun k => ¬ sS μ r k = -1 ∧ sS μ r k < v) (q := fun k => (¬ sS μ r k = -1 ∧ sS μ r k = v) ∧ k < k0) (s := fun j => aH μ r k0 j) 12
        (fun k _ => by
          unfold aH
          rw [hp0.2]
          constructor
          · rintro ⟨a, b | b⟩
            · exact Or.inl ⟨a, b⟩
            · exact Or.inr ⟨⟨a, b.1⟩, b.2⟩
          · rintro (⟨a, b⟩ | ⟨⟨a, b⟩, d⟩)
            · exact ⟨a, Or.inl b⟩
            · exact ⟨a, Or.inr ⟨b, d⟩⟩)
        (fun k _ z => by
          have := z.1.2
          rw [z.2.1.2] at this
          exact i32_irr _ this)
      have b := cB_cut (p := fun k => ¬ sS μ r k = -1 ∧ sS μ r k = v) (q := fun k => (¬ sS μ r k = -1 ∧ sS μ r k = v) ∧ k < k0) (k := k0) (fun j => Iff.rfl) 12 (by omega)
      omega
    rcases mFound_at μ r m hm (by omega) 12 (Nat.le_refl _) with ⟨-, hno⟩ | ⟨k, hk, hf, he⟩
    · exact absurd ex (hno k0 hk0)
    · refine ⟨?_, fun _ => by rw [he]; exact (h3 k hk).2.resolve_left hf.1⟩
      rw [he]
      have le1 := cB_lt (p := fun j => aH μ r k j) (q := fun j => ¬ sS μ r j = -1 ∧ sS μ r j ≤ sS μ r k) (j := k) ⟨hf.1, Int32.le_refl _⟩ (fun z => z.2.elim (i32_irr _) (fun z => by omega)) 12 hk
        (fun j _ z => ⟨z.1, z.2.elim i32_lt_le (fun y => by rw [y.1]; exact Int32.le_refl _)⟩)
      have lt1 := cB_mono (p := fun j => ¬ sS μ r j = -1 ∧ sS μ r j < sS μ r k) (q := fun j => aH μ r k j) 12 (fun j _ z => ⟨z.1, Or.inl z.2⟩)
      rw [hf.2] at le1 lt1
      rcases i32_tri (sS μ r k) v with q | q | q
      · have := dn _ q
        rw [L1] at this
        omega
      · exact q
      · have := cB_mono (p := fun j => ¬ sS μ r j = -1 ∧ sS μ r j ≤ v) (q := fun j => ¬ sS μ r j = -1 ∧ sS μ r j < sS μ r k) 12 (fun j _ z => ⟨z.1, i32_le_lt z.2 q⟩)
        omega
theorem mid_none {μ : gMem} {r : Nat} (h : ∀ k, k < 12 → μ 45 0 (12 * r + k) = -1) : mMiddle μ r = -1 := by
  have key : ∀ n, n ≤ 12 → mFound μ r n = -1 := by
    intro n
    induction n with
    | zero => intro _; rfl
    | succ n ih => intro hn; rw [mFound, if_pos (h n (by omega))]; exact ih (by omega)
  exact key 12 (Nat.le_refl _)
theorem middle_eq {κ μ : gMem} {r : Nat} (h : Rel κ μ) (hr : r < tN (κ 7 0 4)) : mMiddle μ r = sMidA κ r := by
  rw [sMidA]
  rcases (h.rd hr).2.2 with ⟨a1, a2, a3⟩ | ⟨a1, a2, a3, a4, a5, a6⟩
  · rw [if_pos (show κ 3 r 9 < 0 by rw [a1]; decide)]; exact mid_none a3
  · rw [if_neg (show ¬ κ 3 r 9 < 0 by rw [a1]; have := h.1.2.2.2.2.2; exact nI_pos (by omega))]; exact (mid_eq a5).1
