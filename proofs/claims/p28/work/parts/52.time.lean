/-! ===== time goes on: all stays ===== -/
theorem n_end1 {κ μ : gMem} {r : Nat} {e : Int32} (h : Rel κ μ) (hN : gN κ) (hr : r < tN (κ 7 0 4)) : gN (sEnd1 e r κ) := by
  rw [sEnd1]
  split
  · exact hN
  · rename_i ho
    split
    · rw [sSettle]
      rcases (h.rd hr).2.2 with ⟨w1, w2, -⟩ | ⟨w1, w2, -⟩
      · have h9 : κ 3 r 9 < 0 := by rw [w1]; decide
        rw [if_pos h9]
        refine n_stand0 h hN hr ?_ h9
        rw [sOpen] at ho
        by_cases h0 : κ 3 r 3 = 0
        · exact h0
        · rw [if_neg h0, if_neg w2] at ho; exact absurd rfl ho
      · have hn := h.1.2.2.2.2.2
        have h9 : ¬ κ 3 r 9 < 0 := by rw [w1]; exact nI_pos (by omega)
        rw [if_neg h9]
        refine (n_judge (h.x hr) hN ?_ h9).1
        rw [sOpen, if_neg w2] at ho
        by_cases h1 : κ 3 r 3 = 1
        · exact h1
        · rw [if_neg h1] at ho; exact absurd rfl ho
    · exact hN
theorem n_end1_it {κ μ : gMem} (h : Rel κ μ) (hN : gN κ) : ∀ i, i ≤ tN (κ 7 0 4) → gN (gIt (sEnd1 (κ 7 0 6)) i κ)
  | 0, _ => hN
  | i + 1, hi => by
    have g1 := (rel_end1_it h i (by omega)).1
    have e4 : gIt (sEnd1 (κ 7 0 6)) i κ 7 0 4 = κ 7 0 4 := (Ev.it (fun _ _ => ev_end1) i κ).1
    exact n_end1 g1 (n_end1_it h hN i (by omega)) (by rw [e4]; omega)
theorem n_close1 {κ : gMem} {b k : Nat} {e : Int32} (hN : gN κ) (hb : b < 6) (hk : k < 12) : gN (sClose1 b e k κ) := by
  rw [sClose1]
  split
  · exact hN
  · rename_i ho
    split
    · obtain ⟨h1, h2, h3, h4⟩ := hN
      refine ⟨gM_close h1 hb hk ho (by rw [upd3_f (by decide), upd3_s]) (by rw [upd3_s]; decide) (fun f i j f1 f2 => by rw [upd3_n (by omega), upd3_n (by omega)]), fun b' s hb' hs => ?_, h3.cong (fun s => by rw [upd3_f (by decide), upd3_f (by decide)]) (by rw [upd3_f (by decide), upd3_f (by decide)]), fun q hq => ?_⟩
      · by_cases ec : b' = b ∧ s = k
        · left; rw [ec.1, ec.2, upd3_s]; decide
        · have c : ∀ f i j, f ≠ 1 → f ≠ 14 → upd3 (upd3 κ 1 b 0 (κ 1 b 0 + κ 6 (12 * b + k) 2)) 14 b k (-1) f i j = κ f i j := fun f i j f1 f2 => by rw [upd3_f f2, upd3_f f1]
          rw [upd3_n (by omega), upd3_f (show 14 ≠ 1 by decide), c _ _ _ (by decide) (by decide), c _ _ _ (by decide) (by decide), c _ _ _ (by decide) (by decide), c _ _ _ (by decide) (by decide), c _ _ _ (by decide) (by decide)]
          exact h2 b' s hb' hs
      · rw [upd3_f (by decide), upd3_f (by decide)] at hq
        exact (h4 q hq).to (by rw [upd3_f (by decide), upd3_f (by decide)]) (by rw [upd3_f (by decide), upd3_f (by decide)]) (by rw [upd3_f (by decide), upd3_f (by decide)]) (by rw [upd3_f (by decide), upd3_f (by decide)]) (by rw [upd3_f (by decide), upd3_f (by decide)]) (by rw [upd3_f (by decide), upd3_f (by decide)]) (fun k => by rw [upd3_f (by decide), upd3_f (by decide)])
    · exact hN
theorem n_closes {κ : gMem} {e : Int32} (hN : gN κ) : gN (gIt (fun b => sClose b e) 6 κ) :=
  gIt_inv (I := gN) (N := 6) (fun b κ hb h => gIt_inv (I := gN) (N := 12) (fun k κ hk h => n_close1 h hb hk) 12 (Nat.le_refl _) κ h) 6 (Nat.le_refl _) κ hN
theorem n_tick {κ μ : gMem} {T : Nat} (h : Rel κ μ) (hN : gN κ) (hT : κ 7 0 6 = nI T) (hT2 : T + 1 ≤ 10000) (d2 : ∀ b k, b < 6 → k < 12 → dn2 κ (nI T) b k) : gN (upd3 κ 7 0 6 (nI (T + 1))) := by
  have eT : tN (κ 7 0 6) = T := by rw [hT, tN_nI (by omega)]
  have eT' : tN (nI (T + 1)) = T + 1 := tN_nI (by omega)
  obtain ⟨h1, h2, h3, h4⟩ := hN
  refine ⟨h1.cong (fun f i k hg => upd3_n (by rw [gMt] at hg; omega)), fun b s hb hs => ?_, fun s hs => ?_, fun q hq => ?_⟩
  · rw [upd3_f (show 14 ≠ 7 by decide), upd3_f (show 6 ≠ 7 by decide), upd3_f (show 6 ≠ 7 by decide), upd3_f (show 6 ≠ 7 by decide), upd3_f (show 5 ≠ 7 by decide), upd3_s, eT']
    rcases h2 b s hb hs with w | ⟨w1, w2⟩
    · exact Or.inl w
    · rcases h.2.2.2.2.2.1 b s hb hs with ⟨v1, -⟩ | ⟨v1, v2, v3, v4, v5, v6, t, v7, v8, v9, v10⟩
      · left; rw [v1]; decide
      · right
        refine ⟨w1, ?_⟩
        rw [eT] at w2 v8
        have ht : T + 1 ≤ t := by
          rcases d2 b s hb hs with d | d
          · rw [v1] at d; exact absurd d (nI_pos (by omega))
          · have : t ≠ T := fun z => d (by rw [v7, z]; exact Int32.le_refl _)
            omega
        rw [v7, tN_nI (by omega)] at w2 ⊢
        have hn : ¬ κ 5 s 6 = nI (T + 1) := fun z => by
          rcases h3 s hs with u | u
          · rw [u] at z; exact g_nm1 (by omega) z.symm
          · have u2 := u.2
            rw [z, eT', eT] at u2; omega
        rw [if_neg hn]
        have em : t - T = (t - (T + 1)) + 1 := by omega
        rw [em, Nat.mul_add, Nat.mul_one] at w2
        omega
  · rw [upd3_f (by decide), upd3_s, eT']
    rcases h3 s hs with u | u
    · exact Or.inl u
    · exact Or.inr ⟨u.1, by have := u.2; omega⟩
  · exact (h4 q (by rw [upd3_k (by decide)] at hq; exact hq)).to (upd3_f (by decide)) (upd3_f (by decide)) (upd3_f (by decide)) (upd3_f (by decide)) (upd3_f (by decide)) (upd3_f (by decide)) (fun k => upd3_f (by decide))
theorem n_fin {κ μ : gMem} {T : Nat} (h : Rel κ μ) (hN : gN κ) (hT : κ 7 0 6 = nI T) (hT2 : T + 1 ≤ 10000) : gN (upd3 (sEnd κ (nI T)) 7 0 6 (nI (T + 1))) := by
  obtain ⟨g1, g2⟩ := rel_end1_it h _ (Nat.le_refl _)
  have gn := n_end1_it h hN _ (Nat.le_refl _)
  have m0 : gIt mEnd1 (tN (κ 7 0 4)) μ 8 0 0 = μ 8 0 0 := gIt_keep (fun _ _ => mEnd1_keep (by decide) (by decide) (by decide) (by decide) (by decide) (by omega)) _ _
  have e6 : gIt (sEnd1 (κ 7 0 6)) (tN (κ 7 0 4)) κ 7 0 6 = κ 7 0 6 := by rw [g1.1.1, m0, ← h.1.1]
  obtain ⟨s1, s2, s3⟩ := rel_closes g1 6 (Nat.le_refl _)
  have sn := n_closes (e := gIt (sEnd1 (κ 7 0 6)) (tN (κ 7 0 4)) κ 7 0 6) gn
  rw [e6] at s1 s2 s3 sn
  have eE : sEnd κ (nI T) = gIt (fun b => sClose b (κ 7 0 6)) 6 (gIt (sEnd1 (κ 7 0 6)) (tN (κ 7 0 4)) κ) := by rw [sEnd, hT]
  rw [eE]
  have s6 := s3 7 0 6 (by decide) (by decide)
  exact n_tick s1 sn (by rw [s6, e6]; exact hT) hT2 (fun b k hb hk => by rw [← hT]; exact s2 b k hb hk)
theorem n_step {κ μ : gMem} {T : Nat} (h : Rel (upd3 κ 7 0 6 (nI T)) μ) (hN : gN (upd3 κ 7 0 6 (nI T))) (hT2 : T + 1 ≤ 10000) : gN (upd3 (sEnd κ (nI T)) 7 0 6 (nI (T + 1))) := by
  have r := n_fin h hN upd3_s hT2
  have ha : AE (sEnd κ (nI T)) (sEnd (upd3 κ 7 0 6 (nI T)) (nI T)) := AE.fin (fun f i k hf => upd3_n (by omega)) _
  have hall : ∀ f i k, upd3 (sEnd κ (nI T)) 7 0 6 (nI (T + 1)) f i k = upd3 (sEnd (upd3 κ 7 0 6 (nI T)) (nI T)) 7 0 6 (nI (T + 1)) f i k := fun f i k => by
    by_cases e : f = 7 ∧ i = 0 ∧ k = 6
    · obtain ⟨rfl, rfl, rfl⟩ := e; rw [upd3_s, upd3_s]
    · rw [upd3_n e, upd3_n e, ha f i k (by omega)]
  exact r.cong (fun f i k _ => hall f i k)
theorem n_idle {κ : gMem} : ∀ (D T : Nat) (μ : gMem), Rel (upd3 κ 7 0 6 (nI T)) μ → gN (upd3 κ 7 0 6 (nI T)) → T + D ≤ 10000 → κ 7 0 7 < nI T → gN (upd3 κ 7 0 6 (nI (T + D)))
  | 0, T, μ, _, hN, _, _ => hN
  | D + 1, T, μ, h, hN, hT, hb => by
    have r := rel_fin h upd3_s (by omega)
    have n := n_fin h hN upd3_s (by omega)
    rw [sEnd_idle h upd3_s (by omega) (by rw [upd3_k (by decide)]; exact hb), upd3_u] at r n
    have q := n_idle D (T + 1) _ r n (by omega) (Int32.lt_trans hb ((nI_ltI (by omega) (by omega)).mpr (by omega)))
    rw [show T + (D + 1) = T + 1 + D by omega]
    exact q
theorem n_advI : ∀ (n D T : Nat) (κ μ : gMem), Rel (upd3 κ 7 0 6 (nI T)) μ → gN (upd3 κ 7 0 6 (nI T)) → T + D ≤ 10000 → D < n → gN (upd3 (sAdvI n κ (nI T) (nI (T + D))) 7 0 6 (nI (T + D)))
  | 0, D, _, _, _, _, _, _, hD => absurd hD (by omega)
  | n + 1, D, T, κ, μ, h, hN, hT, hD => by
    rw [sAdvI]
    by_cases h0 : D = 0
    · subst h0
      rw [if_pos (show nI (T + 0) ≤ nI T from Int32.le_refl _)]; exact hN
    · obtain ⟨D', rfl⟩ : ∃ D', D = D' + 1 := ⟨D - 1, by omega⟩
      have hl : ¬ nI (T + (D' + 1)) ≤ nI T := by
        rw [Int32.not_le]
        exact (nI_ltI (by omega) (by omega)).mpr (by omega)
      rw [if_neg hl]
      by_cases hb : κ 7 0 7 < nI T
      · rw [if_pos hb]
        exact n_idle (D' + 1) T μ h hN hT hb
      · rw [if_neg hb]
        have r := rel_step h (by omega)
        have m := n_step h hN (by omega)
        have q := n_advI n D' (T + 1) _ _ r m (by omega) (by omega)
        have e1 : nI T + 1 = nI (T + 1) := nI_1 T
        rw [e1, show T + (D' + 1) = T + 1 + D' by omega]
        exact q
theorem n_advance {κ μ : gMem} {a : Int32} (h : Rel κ μ) (hN : gN κ) (ht : sAdvT κ a = 0) : gN (sAdvK κ a) := by
  have t1 : ¬ mIn a 1 100 = 0 := fun z => by rw [sAdvT, if_pos z] at ht; exact absurd ht (by decide)
  rw [sAdvT, if_neg t1] at ht
  have t2 : κ 7 0 6 + a ≤ 10000 := Classical.byContradiction fun z => by rw [if_neg z] at ht; exact absurd ht (by decide)
  obtain ⟨ea, la, -⟩ := mIn_rng' (m := 100) t1 (by decide) (by decide)
  have hT := h.1.2.1
  have hT2 := hT.2
  have eT : κ 7 0 6 + a = nI (tN (κ 7 0 6) + tN a) := by
    have := time_add (n := tN a) hT
    rw [← ea] at this; exact this
  have hle : tN (κ 7 0 6) + tN a ≤ 10000 := by
    rw [eT] at t2
    have := (nI_leI' (by omega) (show 10000 < 2 ^ 31 by decide)).mp t2
    exact this
  have hall : ∀ f i k, upd3 κ 7 0 6 (nI (tN (κ 7 0 6))) f i k = κ f i k := fun f i k => by
    by_cases e : f = 7 ∧ i = 0 ∧ k = 6
    · obtain ⟨rfl, rfl, rfl⟩ := e; rw [upd3_s]; exact hT.1.symm
    · rw [upd3_n e]
  have h0 : Rel (upd3 κ 7 0 6 (nI (tN (κ 7 0 6)))) μ := h.cong (fun f i k _ _ => hall f i k) mEq.rf
  have q := n_advI 101 (tN a) (tN (κ 7 0 6)) κ μ h0 (hN.cong (fun f i k _ => hall f i k)) hle (by omega)
  rw [sAdvK, eT]
  have e6 : sAdvI 101 κ (κ 7 0 6) (nI (tN (κ 7 0 6) + tN a)) = sAdvI 101 κ (nI (tN (κ 7 0 6))) (nI (tN (κ 7 0 6) + tN a)) := by rw [← hT.1]
  rw [e6]; exact q
