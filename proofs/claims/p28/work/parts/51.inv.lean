/-! ===== what else stays: windows, ticks of telling, readings ===== -/
def gWn (κ : gMem) : Prop := ∀ b s, b < 6 → s < 12 → κ 14 b s < 0 ∨ (tN (κ 6 (12 * b + s) 2) ≤ 400 ∧ tN (κ 6 (12 * b + s) 0) * (tN (κ 6 (12 * b + s) 1) - tN (κ 7 0 6)) + (if κ 5 s 6 = κ 7 0 6 then 0 else tN (κ 6 (12 * b + s) 0)) ≤ tN (κ 6 (12 * b + s) 2))
def gTd (κ : gMem) : Prop := ∀ s, s < 12 → κ 5 s 6 = -1 ∨ (ixL (κ 5 s 6) 10001 ∧ tN (κ 5 s 6) ≤ tN (κ 7 0 6))
def RN (κ : gMem) (r : Nat) : Prop := ixL (κ 3 r 2) 5 ∧ (κ 3 r 3 = 4 ↔ tN (κ 3 r 2) < 3) ∧ (κ 3 r 3 = 4 → κ 3 r 6 = 0 ∧ κ 3 r 9 < 0) ∧ (κ 3 r 3 = 2 → sMidA κ r = -1 ∨ sAbs (κ 3 r 1 - sMidA κ r) ≤ 5) ∧ (κ 3 r 3 = 3 → ¬ κ 3 r 9 < 0 ∧ κ 2 r 2 ≠ 0 ∧ ¬ sAbs (κ 3 r 1 - sMiddle κ r) ≤ 5)
def gN (κ : gMem) : Prop := gM κ ∧ gWn κ ∧ gTd κ ∧ ∀ r, r < tN (κ 7 0 4) → RN κ r
theorem mid_to {κ κ' : gMem} {r : Nat} (h2 : κ' 2 r 2 = κ 2 r 2) (h16 : ∀ k, κ' 16 r k = κ 16 r k) : sMiddle κ' r = sMiddle κ r := by rw [sMiddle, sMiddle, h2, h16]
theorem midA_to {κ κ' : gMem} {r : Nat} (h9 : κ' 3 r 9 = κ 3 r 9) (h2 : κ' 2 r 2 = κ 2 r 2) (h16 : ∀ k, κ' 16 r k = κ 16 r k) : sMidA κ' r = sMidA κ r := by rw [sMidA, sMidA, h9, mid_to h2 h16]
theorem RN.to {κ κ' : gMem} {r : Nat} (h : RN κ r) (h1 : κ' 3 r 1 = κ 3 r 1) (h2 : κ' 3 r 2 = κ 3 r 2) (h3 : κ' 3 r 3 = κ 3 r 3) (h6 : κ' 3 r 6 = κ 3 r 6) (h9 : κ' 3 r 9 = κ 3 r 9) (hc : κ' 2 r 2 = κ 2 r 2) (hs : ∀ k, κ' 16 r k = κ 16 r k) : RN κ' r := by
  rw [RN, h1, h2, h3, h6, h9, hc, mid_to hc hs, midA_to h9 hc hs]
  exact h
theorem gWn.cong {κ κ' : gMem} (h : gWn κ) (c14 : ∀ b s, κ' 14 b s = κ 14 b s) (c6 : ∀ j k, κ' 6 j k = κ 6 j k) (c5 : ∀ s, κ' 5 s 6 = κ 5 s 6) (c7 : κ' 7 0 6 = κ 7 0 6) : gWn κ' := fun b s hb hs => by
  rw [c14, c6, c6, c6, c5, c7]; exact h b s hb hs
theorem gTd.cong {κ κ' : gMem} (h : gTd κ) (c5 : ∀ s, κ' 5 s 6 = κ 5 s 6) (c7 : κ' 7 0 6 = κ 7 0 6) : gTd κ' := fun s hs => by
  rw [c5, c7]; exact h s hs
theorem gN.cong {κ κ' : gMem} (h : gN κ) (c : ∀ f i k, (f = 7 ∧ (k = 4 ∨ k = 5 ∨ k = 6)) ∨ (f = 5 ∧ (k = 3 ∨ k = 4 ∨ k = 6)) ∨ f = 1 ∨ f = 14 ∨ f = 6 ∨ f = 3 ∨ f = 2 ∨ f = 16 → κ' f i k = κ f i k) : gN κ' := by
  obtain ⟨h1, h2, h3, h4⟩ := h
  have e4 : κ' 7 0 4 = κ 7 0 4 := c _ _ _ (by omega)
  refine ⟨h1.cong (fun f i k hg => c f i k (by rw [gMt] at hg; omega)), h2.cong (fun b s => c _ _ _ (by omega)) (fun j k => c _ _ _ (by omega)) (fun s => c _ _ _ (by omega)) (c _ _ _ (by omega)), h3.cong (fun s => c _ _ _ (by omega)) (c _ _ _ (by omega)), fun r hr => ?_⟩
  rw [e4] at hr
  exact (h4 r hr).to (c _ _ _ (by omega)) (c _ _ _ (by omega)) (c _ _ _ (by omega)) (c _ _ _ (by omega)) (c _ _ _ (by omega)) (c _ _ _ (by omega)) (fun k => c _ _ _ (by omega))
/-! how readings go on -/
def Ev (κ κ' : gMem) : Prop := κ' 7 0 4 = κ 7 0 4 ∧ (∀ s, κ' 5 s 6 = κ 5 s 6) ∧ ∀ r, κ' 3 r 0 = κ 3 r 0 ∧ κ' 3 r 1 = κ 3 r 1 ∧ κ' 3 r 4 = κ 3 r 4 ∧ (κ' 3 r 3 = κ 3 r 3 ∨ ((κ 3 r 3 = 0 ∨ κ 3 r 3 = 1) ∧ (κ' 3 r 3 = 2 ∨ κ' 3 r 3 = 3)))
theorem Ev.rf {κ : gMem} : Ev κ κ := ⟨rfl, fun _ => rfl, fun _ => ⟨rfl, rfl, rfl, Or.inl rfl⟩⟩
theorem Ev.tr {κ κ1 κ2 : gMem} (h : Ev κ κ1) (g : Ev κ1 κ2) : Ev κ κ2 := by
  refine ⟨g.1.trans h.1, fun s => (g.2.1 s).trans (h.2.1 s), fun r => ?_⟩
  obtain ⟨a0, a1, a4, a3⟩ := h.2.2 r
  obtain ⟨b0, b1, b4, b3⟩ := g.2.2 r
  refine ⟨b0.trans a0, b1.trans a1, b4.trans a4, ?_⟩
  rcases b3 with b3 | ⟨b3, b3'⟩
  · rw [b3]; exact a3
  · rcases a3 with a3 | ⟨a3, a3'⟩
    · rw [a3] at b3; exact Or.inr ⟨b3, b3'⟩
    · exact Or.inr ⟨a3, b3'⟩
theorem Ev.same {κ κ' : gMem} (h4 : κ' 7 0 4 = κ 7 0 4) (h5 : ∀ s, κ' 5 s 6 = κ 5 s 6) (h3 : ∀ r k, k = 0 ∨ k = 1 ∨ k = 3 ∨ k = 4 → κ' 3 r k = κ 3 r k) : Ev κ κ' := ⟨h4, h5, fun r => ⟨h3 r 0 (by omega), h3 r 1 (by omega), h3 r 4 (by omega), Or.inl (h3 r 3 (by omega))⟩⟩
theorem Ev.it {F : Nat → gMem → gMem} (hF : ∀ k κ, Ev κ (F k κ)) (n : Nat) (κ : gMem) : Ev κ (gIt F n κ) := by
  induction n with
  | zero => exact Ev.rf
  | succ n ih => exact ih.tr (hF n _)
theorem Ev.of {κ κ' : gMem} {r : Nat} (h4 : κ' 7 0 4 = κ 7 0 4) (h5 : ∀ s, κ' 5 s 6 = κ 5 s 6) (h3 : ∀ q k, k = 0 ∨ k = 1 ∨ k = 4 ∨ (k = 3 ∧ q ≠ r) → κ' 3 q k = κ 3 q k) (ho : κ 3 r 3 = 0 ∨ κ 3 r 3 = 1) (hd : κ' 3 r 3 = 2 ∨ κ' 3 r 3 = 3) : Ev κ κ' := by
  refine ⟨h4, h5, fun q => ⟨h3 q 0 (by omega), h3 q 1 (by omega), h3 q 4 (by omega), ?_⟩⟩
  by_cases e : q = r
  · rw [e]; exact Or.inr ⟨ho, hd⟩
  · exact Or.inl (h3 q 3 (by omega))
theorem ev_stand {κ : gMem} {r : Nat} (ho : κ 3 r 3 = 0 ∨ κ 3 r 3 = 1) : Ev κ (sStand κ r) := by
  obtain ⟨a1, a2, a3, a4⟩ := sStand_at κ r
  exact Ev.of (a4 _ _ _ (by omega) (by omega)) (fun s => a4 _ _ _ (by omega) (by omega)) (fun q k hk => a4 _ _ _ (by omega) (by omega)) ho (Or.inl a2)
theorem ev_judge {κ : gMem} {r : Nat} (ho : κ 3 r 3 = 0 ∨ κ 3 r 3 = 1) : Ev κ (sJudge κ r) := by
  rw [sJudge]
  split
  · obtain ⟨a1, a2, a3, a4⟩ := sStand_at (upd3 κ 5 (tN (κ 3 r 0)) 4 (κ 5 (tN (κ 3 r 0)) 4 + 4)) r
    exact Ev.of ((a4 _ _ _ (by omega) (by omega)).trans (upd3_n (by omega))) (fun s => (a4 _ _ _ (by omega) (by omega)).trans (upd3_n (by omega))) (fun q k hk => (a4 _ _ _ (by omega) (by omega)).trans (upd3_n (by omega))) ho (Or.inl a2)
  · obtain ⟨a1, a2, a3, a4, a5, a6, a7⟩ := sLie_at κ r
    exact Ev.of (a7 _ _ _ (by omega) (by omega) (by omega) (by omega)) (fun s => a7 _ _ _ (by omega) (by omega) (by omega) (by omega)) (fun q k hk => a7 _ _ _ (by omega) (by omega) (by omega) (by omega)) ho (Or.inr a3)
theorem ev_end1 {κ : gMem} {r : Nat} {e : Int32} : Ev κ (sEnd1 e r κ) := by
  rw [sEnd1]
  split
  · exact Ev.rf
  · rename_i h
    have ho : κ 3 r 3 = 0 ∨ κ 3 r 3 = 1 := by
      rw [sOpen] at h
      by_cases h0 : κ 3 r 3 = 0
      · exact Or.inl h0
      · by_cases h1 : κ 3 r 3 = 1
        · exact Or.inr h1
        · rw [if_neg h0, if_neg h1] at h; exact absurd rfl h
    split
    · rw [sSettle]
      split
      · exact ev_stand ho
      · exact ev_judge ho
    · exact Ev.rf
theorem ev_close1 {κ : gMem} {b k : Nat} {e : Int32} : Ev κ (sClose1 b e k κ) := by
  have h := (sClose1_dn κ e b k).2.2
  exact Ev.same (h _ _ _ (by decide) (by decide)) (fun s => h _ _ _ (by decide) (by decide)) (fun r k _ => h _ _ _ (by decide) (by decide))
theorem ev_end {κ : gMem} {e : Int32} : Ev κ (sEnd κ e) := (Ev.it (fun _ _ => ev_end1) _ _).tr (Ev.it (fun _ _ => Ev.it (fun _ _ => ev_close1) _ _) _ _)
theorem ev_advI : ∀ (n : Nat) {κ : gMem} {e t : Int32}, Ev κ (sAdvI n κ e t)
  | 0, _, _, _ => Ev.rf
  | n + 1, κ, e, t => by
    rw [sAdvI]
    split
    · exact Ev.rf
    · split
      · exact Ev.rf
      · exact ev_end.tr (ev_advI n)
theorem ev_adv {κ : gMem} {t : Int32} : Ev κ (sAdvK κ t) := (ev_advI 101).tr (Ev.same (upd3_k (by decide)) (fun s => upd3_f (by decide)) (fun r k _ => upd3_f (by decide)))
/-! what a reading's users have paid, while it waits -/
theorem paid_at {κ μ : gMem} {r : Nat} (hH : rH κ μ r) (hR : rR κ μ r) (ho : κ 3 r 3 = 0 ∨ κ 3 r 3 = 1) :
    (∀ b, b < 6 → ixL (κ 15 r b) 21) ∧ κ 3 r 7 = nI (nsum (fun b => tN (κ 15 r b)) 6) ∧ κ 3 r 6 = nI (nsum (fun b => if tN (κ 15 r b) = 0 then 0 else 1) 6) := by
  obtain ⟨o1, o2, o3⟩ := hH.opn ho
  have p1 : ∀ b, b < 6 → ixL (κ 15 r b) 21 ∧ bitB (μ 44 0 r) b = nI (if tN (κ 15 r b) = 0 then 0 else 1) := fun b hb => by
    rcases (o1 b hb).2 with ⟨b1, q, q1, q2, q3⟩ | ⟨b1, b2⟩
    · rw [b1, q3]
      refine ⟨ixL.nI (by omega) (by decide), ?_⟩
      rw [tN_nI (by omega), if_neg (by omega)]; rfl
    · rw [b1, b2]
      refine ⟨ixL0 (by decide), ?_⟩
      rw [if_pos (by decide +kernel)]; rfl
  have q1 : ∀ n, n ≤ 6 → mHeld μ r n = nI (nsum (fun b => tN (κ 15 r b)) n) := by
    intro n
    induction n with
    | zero => intro _; rfl
    | succ n ih =>
      intro hn
      have e := (p1 n (by omega)).1.1
      rw [mHeld, ih (by omega), nsum, ← nI_add, ← (o1 n (by omega)).1, ← e]
  have q2 : ∀ n, n ≤ 6 → mSize (μ 44 0 r) n = nI (nsum (fun b => if tN (κ 15 r b) = 0 then 0 else 1) n) := by
    intro n
    induction n with
    | zero => intro _; rfl
    | succ n ih =>
      intro hn
      have e : μ 44 0 r >>> (nI n &&& 31) &&& 1 = nI (if tN (κ 15 r n) = 0 then 0 else 1) := (p1 n (by omega)).2
      rw [mSize, ih (by omega), nsum, ← nI_add, e]
  exact ⟨fun b hb => (p1 b hb).1, o2.trans (q1 6 (Nat.le_refl _)), hR.2.2.2.2.2.2.1.trans (q2 6 (Nat.le_refl _))⟩
theorem users_6 {κ μ : gMem} {r : Nat} (hR : rR κ μ r) : ixL (κ 3 r 6) 7 := by
  obtain ⟨q, h1, h2, -⟩ := mSize_nat (μ 44 0 r) 6 (Nat.le_refl _)
  rw [hR.2.2.2.2.2.2.1, h2]
  exact ixL.nI (by omega) (by decide)
/-! judging -/
theorem n_stand {κ κ' : gMem} {r s : Nat} {x : Int32} (hN : gN κ) (hr : r < tN (κ 7 0 4)) (hs : s < 12) (hx : ixL x 2401) (hv : tN x = rv κ r) (ho : κ 3 r 3 ≠ 4)
    (e4 : κ' 5 s 4 = κ 5 s 4 + x) (e7 : κ' 3 r 7 = 0) (e3 : κ' 3 r 3 = 2) (hm : sMidA κ r = -1 ∨ sAbs (κ 3 r 1 - sMidA κ r) ≤ 5)
    (c : ∀ f i k, f ≠ 5 ∨ i ≠ s ∨ k ≠ 4 → f ≠ 3 ∨ i ≠ r ∨ (k ≠ 3 ∧ k ≠ 7) → κ' f i k = κ f i k) : gN κ' := by
  obtain ⟨h1, h2, h3, h4⟩ := hN
  refine ⟨gM_stand h1 hr hs hx hv e4 e7 (by rw [e3]; decide) c, h2.cong (fun b s => c _ _ _ (by omega) (by omega)) (fun j k => c _ _ _ (by omega) (by omega)) (fun s => c _ _ _ (by omega) (by omega)) (c _ _ _ (by omega) (by omega)), h3.cong (fun s => c _ _ _ (by omega) (by omega)) (c _ _ _ (by omega) (by omega)), fun q hq => ?_⟩
  rw [c 7 0 4 (by omega) (by omega)] at hq
  by_cases e : q = r
  · subst e
    obtain ⟨n1, n2, n3, n4, n5⟩ := h4 q hq
    rw [RN, c 3 q 2 (by omega) (by omega), c 3 q 6 (by omega) (by omega), c 3 q 1 (by omega) (by omega), e3, midA_to (c 3 q 9 (by omega) (by omega)) (c 2 q 2 (by omega) (by omega)) (fun k => c 16 q k (by omega) (by omega))]
    exact ⟨n1, ⟨fun z => absurd z (by decide), fun z => absurd (n2.mpr z) ho⟩, fun z => absurd z (by decide), fun _ => hm, fun z => absurd z (by decide)⟩
  · exact (h4 q hq).to (c _ _ _ (by omega) (by omega)) (c _ _ _ (by omega) (by omega)) (c _ _ _ (by omega) (by omega)) (c _ _ _ (by omega) (by omega)) (c _ _ _ (by omega) (by omega)) (c _ _ _ (by omega) (by omega)) (fun k => c _ _ _ (by omega) (by omega))
theorem n_stand0 {κ μ : gMem} {r : Nat} (h : Rel κ μ) (hN : gN κ) (hr : r < tN (κ 7 0 4)) (h0 : κ 3 r 3 = 0) (h9 : κ 3 r 9 < 0) : gN (sStand κ r) := by
  obtain ⟨a1, a2, a3, a4⟩ := sStand_at κ r
  have hs := (h.rd hr).1.2.2.2.2.2.2.2.2
  refine n_stand (s := tN (κ 3 r 0)) (x := κ 3 r 7) hN hr hs (hN.1.2.2.2.2.1 r hr) (by rw [rv, h0, if_neg (by decide)]; rfl) (by rw [h0]; decide) (by rw [a1, if_pos rfl]) a3 a2 (Or.inl (by rw [sMidA, if_pos h9])) (fun f i k f1 f2 => ?_)
  by_cases e : f = 5 ∧ k = 4
  · obtain ⟨rfl, rfl⟩ := e
    rw [a1, if_neg (by omega)]
  · exact a4 f i k (by omega) f2
/-- a cut: not more than the bond, and something where there is a bond -/
theorem cut_at {κ μ : gMem} {r : Nat} (hX : RelX r κ μ) (hN : gN κ) : ixL (sCut κ r) 2401 ∧ tN (sCut κ r) ≤ tN (κ 5 (tN (κ 3 r 0)) 3) ∧ (0 < tN (κ 5 (tN (κ 3 r 0)) 3) → 0 < tN (sCut κ r)) := by
  obtain ⟨x1, x2, x3, x4, x5, x6, x7, x8, x9, y1, y2, y3⟩ := hX
  have hs := y1.2.2.2.2.2.2.2.2
  have hb := (hN.1.2.1 _ hs).1
  have hp := (x3 _ hs).2.2.2.1
  have hp0 := (x3 _ hs).2.2.2.2.1
  have hu := users_6 y1
  obtain ⟨m1, m2⟩ := ix_mul (k := 81) (ix_c 4 (n := 5) (by decide) (by decide)).1 hp (by rw [(ix_c 4 (n := 5) (by decide) (by decide)).2]; have := hp.2; omega) (by decide)
  rw [(ix_c 4 (n := 5) (by decide) (by decide)).2] at m2
  obtain ⟨u1, u2⟩ := ix_add (k := 8) hu (ix_c 1 (n := 2) (by decide) (by decide)).1 (by rw [(ix_c 1 (n := 2) (by decide) (by decide)).2]; have := hu.2; omega) (by decide)
  rw [(ix_c 1 (n := 2) (by decide) (by decide)).2] at u2
  have hle : tN (nI 4 * κ 5 (tN (κ 3 r 0)) 2) * tN (κ 3 r 6 + nI 1) < 2401 := by
    have a1 := m1.2
    have a2 := u1.2
    have := Nat.mul_le_mul (show tN (nI 4 * κ 5 (tN (κ 3 r 0)) 2) ≤ 80 by omega) (show tN (κ 3 r 6 + nI 1) ≤ 7 by omega)
    omega
  obtain ⟨c1, c2⟩ := ix_mul (k := 2401) m1 u1 hle (by decide)
  have e : sCut κ r = if nI 4 * κ 5 (tN (κ 3 r 0)) 2 * (κ 3 r 6 + nI 1) < κ 5 (tN (κ 3 r 0)) 3 then nI 4 * κ 5 (tN (κ 3 r 0)) 2 * (κ 3 r 6 + nI 1) else κ 5 (tN (κ 3 r 0)) 3 := rfl
  rw [e]
  have hpp : 0 < tN (κ 5 (tN (κ 3 r 0)) 2) := by
    rcases Nat.eq_zero_or_pos (tN (κ 5 (tN (κ 3 r 0)) 2)) with z | z
    · exact absurd (by rw [hp.1, z]; rfl) hp0
    · exact z
  split
  · rename_i hl
    have := (ix_lt c1 hb (by decide) (by decide)).mp hl
    refine ⟨c1, by omega, fun _ => ?_⟩
    rw [c2, m2, u2]
    exact Nat.mul_pos (by omega) (by omega)
  · exact ⟨hb, Nat.le_refl _, fun z => z⟩
theorem n_judge {κ μ : gMem} {r : Nat} (hX : RelX r κ μ) (hN : gN κ) (h1 : κ 3 r 3 = 1) (h9 : ¬ κ 3 r 9 < 0) : gN (sJudge κ r) ∧
    ((sJudge κ r 3 r 3 = 2 ∧ sJudge κ r 5 (tN (κ 3 r 0)) 4 = κ 5 (tN (κ 3 r 0)) 4 + κ 3 r 7 + 4 ∧ sJudge κ r 5 (tN (κ 3 r 0)) 3 = κ 5 (tN (κ 3 r 0)) 3) ∨
     (sJudge κ r 3 r 3 = 3 ∧ sJudge κ r 5 (tN (κ 3 r 0)) 4 = κ 5 (tN (κ 3 r 0)) 4 ∧ (0 < tN (κ 5 (tN (κ 3 r 0)) 3) → tN (sJudge κ r 5 (tN (κ 3 r 0)) 3) < tN (κ 5 (tN (κ 3 r 0)) 3)) ∧ tN (sJudge κ r 5 (tN (κ 3 r 0)) 3) ≤ tN (κ 5 (tN (κ 3 r 0)) 3) ∧ tN (κ 7 0 5) ≤ tN (sJudge κ r 7 0 5))) := by
  obtain ⟨k1, k2, k3⟩ := cut_at hX hN
  have hX' := hX
  obtain ⟨x1, x2, x3, x4, x5, x6, x7, x8, hr, y1, y2, y3⟩ := hX'
  have hs := y1.2.2.2.2.2.2.2.2
  have hq : ixL (κ 2 r 2) 5 ∧ ixL (κ 2 r 0) 6 := by
    rcases y3 with w | w
    · rw [w.1] at h9; exact absurd (by decide) h9
    · exact ⟨w.2.2.2.2.1, w.2.2.2.1⟩
  obtain ⟨s, es⟩ : ∃ s, tN (κ 3 r 0) = s := ⟨_, rfl⟩
  rw [es] at hs k2 k3 ⊢
  obtain ⟨p1, p2, p3⟩ := paid_at y2 y1 (Or.inr h1)
  have hm : sMidA κ r = sMiddle κ r := by rw [sMidA, if_neg h9]
  have hbd := hN.1.bd
  have hS := nsum_le (f := sv κ) 12 hs
  have hsv : sv κ s = tN (κ 5 s 3) + tN (κ 5 s 4) + nsum (fun b => wv κ b s) 6 := rfl
  have hR := nsum_le (f := rv κ) _ hr
  have erv : rv κ r = tN (κ 3 r 7) + 4 := by rw [rv, h1, if_pos rfl]
  have h7 := hN.1.2.2.2.2.1 r hr
  rw [sJudge, es]
  by_cases hz : sRefutes κ r (κ 3 r 1) = 0
  · rw [if_pos hz]
    obtain ⟨a1, a2, a3, a4⟩ := sStand_at (upd3 κ 5 s 4 (κ 5 s 4 + 4)) r
    have e0 : upd3 κ 5 s 4 (κ 5 s 4 + 4) 3 r 0 = κ 3 r 0 := upd3_f (by decide)
    have e7 : upd3 κ 5 s 4 (κ 5 s 4 + 4) 3 r 7 = κ 3 r 7 := upd3_f (by decide)
    rw [e0, e7, es] at a1
    have a4s : sStand (upd3 κ 5 s 4 (κ 5 s 4 + 4)) r 5 s 4 = κ 5 s 4 + κ 3 r 7 + 4 := by
      rw [a1, if_pos rfl, upd3_s]; grind
    refine ⟨?_, Or.inl ⟨a2, a4s, (a4 _ _ _ (by omega) (by omega)).trans (upd3_n (by omega))⟩⟩
    obtain ⟨q1, q2⟩ := ix_add (k := 2401) h7 (ix_c 4 (n := 5) (by decide) (by decide)).1 (by rw [(ix_c 4 (n := 5) (by decide) (by decide)).2]; omega) (by decide)
    rw [(ix_c 4 (n := 5) (by decide) (by decide)).2] at q2
    refine n_stand (s := s) (x := κ 3 r 7 + 4) hN hr hs q1 (by rw [erv]; exact q2) (by rw [h1]; decide) (by rw [a4s]; grind) a3 a2 ?_ (fun f i k f1 f2 => ?_)
    · rw [hm]
      by_cases c0 : κ 2 r 2 = 0
      · left; rw [sMiddle, if_pos c0]
      · right
        rw [sRefutes] at hz
        have hp : ¬ κ 2 r 2 ≤ 0 := fun z => by
          have := (ix_le hq.1 (ix_0 (n := 1) (by decide)).1 (by decide) (by decide)).mp z
          rw [(ix_0 (n := 1) (by decide)).2] at this
          exact c0 (by rw [hq.1.1, show tN (κ 2 r 2) = 0 by omega]; rfl)
        rw [if_neg hp] at hz
        by_cases l : sAbs (κ 3 r 1 - sMiddle κ r) ≤ 5
        · exact l
        · rw [if_neg l] at hz; exact absurd hz (by decide)
    · by_cases e : f = 5 ∧ k = 4
      · obtain ⟨rfl, rfl⟩ := e
        rw [a1, if_neg (by omega), upd3_n (by omega)]
      · rw [a4 f i k (by omega) f2, upd3_n (by omega)]
  · rw [if_neg hz]
    have eL : sShare (sBack (upd3 κ 3 r 3 3) r) r = sLie κ r := rfl
    rw [eL]
    obtain ⟨a1, a2, a3, a4, a5, a6, a7⟩ := sLie_at κ r
    rw [es] at a1
    have hp : ¬ κ 2 r 2 ≤ 0 ∧ ¬ sAbs (κ 3 r 1 - sMiddle κ r) ≤ 5 := by
      rw [sRefutes] at hz
      by_cases c0 : κ 2 r 2 ≤ 0
      · rw [if_pos c0] at hz; exact absurd rfl hz
      · rw [if_neg c0] at hz
        by_cases l : sAbs (κ 3 r 1 - sMiddle κ r) ≤ 5
        · rw [if_pos l] at hz; exact absurd rfl hz
        · exact ⟨c0, l⟩
    have e53 : sLie κ r 5 s 3 = κ 5 s 3 - sCut κ r := by rw [a1, if_pos rfl]
    obtain ⟨g1, g2⟩ := gM_lie (p := fun b => tN (κ 15 r b)) hN.1 hr hs hq.2.2 h1 (fun b hb => ⟨p1 b hb, rfl⟩) (by
        have hle := nsum_bd (f := fun b => tN (κ 15 r b)) (g := fun _ => 20) 6 (fun k hk => by have := (p1 k hk).2; omega)
        rw [nsum_c] at hle
        rw [p2, tN_nI (by omega)]) p3 rfl k1 k2 e53 a2 (by rw [a3]; decide) a4 a6 (fun f i k hg f1 f2 f3 f4 => by
        by_cases e : f = 5 ∧ k = 3
        · obtain ⟨rfl, rfl⟩ := e
          rw [a1, if_neg (by omega)]
        · exact a7 f i k f1 (by omega) f3 (by omega))
    have d := ix_sub (hN.1.2.1 s hs).1 k1 k2 (by decide)
    refine ⟨⟨g1, hN.2.1.cong (fun b s => a7 _ _ _ (by omega) (by omega) (by omega) (by omega)) (fun j k => a7 _ _ _ (by omega) (by omega) (by omega) (by omega)) (fun s => a7 _ _ _ (by omega) (by omega) (by omega) (by omega)) (a7 _ _ _ (by omega) (by omega) (by omega) (by omega)), hN.2.2.1.cong (fun s => a7 _ _ _ (by omega) (by omega) (by omega) (by omega)) (a7 _ _ _ (by omega) (by omega) (by omega) (by omega)), fun q hq' => ?_⟩, Or.inr ⟨a3, a7 _ _ _ (by omega) (by omega) (by omega) (by omega), fun z => ?_, ?_, g2⟩⟩
    · have c : ∀ f i k, f ≠ 1 → f ≠ 5 ∨ k ≠ 3 → f ≠ 7 ∨ k ≠ 5 → f ≠ 3 ∨ i ≠ r ∨ (k ≠ 3 ∧ k ≠ 7 ∧ k ≠ 8) → sLie κ r f i k = κ f i k := a7
      rw [c 7 0 4 (by omega) (by omega) (by omega) (by omega)] at hq'
      by_cases e : q = r
      · subst e
        obtain ⟨n1, n2, n3, n4, n5⟩ := hN.2.2.2 q hq'
        rw [RN, c 3 q 2 (by omega) (by omega) (by omega) (by omega), c 3 q 6 (by omega) (by omega) (by omega) (by omega), c 3 q 1 (by omega) (by omega) (by omega) (by omega), c 3 q 9 (by omega) (by omega) (by omega) (by omega), c 2 q 2 (by omega) (by omega) (by omega) (by omega), a3, mid_to (c 2 q 2 (by omega) (by omega) (by omega) (by omega)) (fun k => c 16 q k (by omega) (by omega) (by omega) (by omega))]
        exact ⟨n1, ⟨fun z => absurd z (by decide), fun z => absurd ((n2.mpr z).symm.trans h1) (by decide)⟩, fun z => absurd z (by decide), fun z => absurd z (by decide), fun _ => ⟨h9, fun z => hp.1 (by rw [z]; decide), hp.2⟩⟩
      · exact (hN.2.2.2 q hq').to (c _ _ _ (by omega) (by omega) (by omega) (by omega)) (c _ _ _ (by omega) (by omega) (by omega) (by omega)) (c _ _ _ (by omega) (by omega) (by omega) (by omega)) (c _ _ _ (by omega) (by omega) (by omega) (by omega)) (c _ _ _ (by omega) (by omega) (by omega) (by omega)) (c _ _ _ (by omega) (by omega) (by omega) (by omega)) (fun k => c _ _ _ (by omega) (by omega) (by omega) (by omega))
    · have := k3 z
      rw [e53, d.2]; omega
    · rw [e53, d.2]; omega
