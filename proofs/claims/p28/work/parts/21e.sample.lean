/-! ===== bits ===== -/
theorem bit_get {u : Int32} {k : Nat} (hk : k < 32) : bitB u k = if u.toBitVec.getLsbD k then 1 else 0 := by
  have e : ∀ k, k < 32 → ((nI k &&& 31).toBitVec.smod 32).toNat = k := by decide +kernel
  apply Int32.toBitVec_inj.mp
  rw [bitB, Int32.toBitVec_and, Int32.toBitVec_shiftRight]
  apply BitVec.eq_of_getLsbD_eq
  intro i hi
  rw [BitVec.getLsbD_and, BitVec.sshiftRight', e k hk]
  by_cases h0 : i = 0
  · subst h0
    rw [BitVec.getLsbD_sshiftRight]
    by_cases h : u.toBitVec.getLsbD k = true
    · rw [if_pos h]
      simp [hk, h]
    · rw [if_neg h]
      have h' : u.toBitVec.getLsbD k = false := Bool.eq_false_iff.mpr h
      have h2 : u.toBitVec[k] = false := by rw [← BitVec.getLsbD_eq_getElem hk]; exact h'
      simp [hk, h2]
  · have e1 : (Int32.toBitVec 1).getLsbD i = false := by
      have : (Int32.toBitVec 1) = 1#32 := rfl
      rw [this, BitVec.getLsbD_one]
      simp [h0]
    rw [e1, Bool.and_false]
    by_cases h : u.toBitVec.getLsbD k = true
    · rw [if_pos h, e1]
    · rw [if_neg h]
      have : (Int32.toBitVec 0) = 0#32 := rfl
      rw [this]; simp
theorem bit_or {u : Int32} {j k : Nat} (hj : j < 32) (hk : k < 32) : bitB (u ||| (1 <<< (nI j &&& 31))) k = if k = j then 1 else bitB u k := by
  have e : ∀ k, k < 32 → ((nI k &&& 31).toBitVec.smod 32).toNat = k := by decide +kernel
  have e1 : (Int32.toBitVec 1) = 1#32 := rfl
  rw [bit_get hk, bit_get hk, Int32.toBitVec_or, Int32.toBitVec_shiftLeft, BitVec.getLsbD_or]
  have e2 : ((Int32.toBitVec 1) <<< ((nI j &&& 31).toBitVec.smod 32)).getLsbD k = decide (k = j) := by
    rw [BitVec.shiftLeft_eq', BitVec.getLsbD_shiftLeft, e j hj, e1, BitVec.getLsbD_one]
    by_cases h : k = j
    · subst h; simp [hk]
    · by_cases l : k < j
      · simp [l, h]
      · have : ¬ k - j = 0 := by omega
        simp [h, this]
  rw [e2]
  by_cases h : k = j
  · rw [if_pos h]; simp [h]
  · rw [if_neg h]; simp [h]
theorem mSize_or {u : Int32} {j : Nat} (hj : j < 6) (h0 : bitB u j = 0) : ∀ n, n ≤ 6 → mSize (u ||| (1 <<< (nI j &&& 31))) n = mSize u n + (if j < n then 1 else 0)
  | 0, _ => rfl
  | n + 1, hn => by
    have hb : (u ||| (1 <<< (nI j &&& 31))) >>> (nI n &&& 31) &&& 1 = if n = j then 1 else bitB u n := bit_or (by omega) (by omega)
    rw [mSize, mSize, hb, mSize_or hj h0 n (by omega)]
    by_cases e : n = j
    · subst e
      have h0' : u >>> (nI n &&& 31) &&& 1 = 0 := h0
      rw [if_pos rfl, if_neg (by omega), if_pos (by omega), h0']
    · rw [if_neg e, bitB]
      by_cases l : j < n
      · rw [if_pos l, if_pos (by omega)]; grind
      · rw [if_neg l, if_neg (by omega)]; grind
/-! ===== judging ===== -/
theorem apart_eq {i j : Nat} (hi : i < 100) (hj : j < 100) : mApart (nI i) (nI j) = sAbs (nI i - nI j) := by
  have e := pk_sub_toInt (a := i) (b := j) (by omega) (by omega)
  have e1 := nI_toInt (n := i) (by omega)
  have e2 := nI_toInt (n := j) (by omega)
  have z0 : (0 : Int32).toInt = 0 := by decide +kernel
  rw [mApart, sAbs]
  by_cases h : nI j ≤ nI i
  · rw [if_pos h, if_pos]
    rw [Int32.le_iff_toInt_le] at h ⊢
    omega
  · rw [if_neg h, if_neg]
    · grind
    · rw [Int32.le_iff_toInt_le] at h ⊢
      omega
theorem rel_judge {κ μ : gMem} {r : Nat} (h : RelX r κ μ) (ho : κ 3 r 3 = 0 ∨ κ 3 r 3 = 1) (hc : κ 2 r 0 = μ 42 0 r) (hs : rSm κ μ r) : Rel (sJudge κ r) (mJudges μ r) := by
  obtain ⟨m1, m2⟩ := mid_eq hs
  have hr1 := h.2.2.2.2.2.2.2.2.2.1
  rw [sJudge, mJudges, sRefutes]
  by_cases hz : κ 2 r 2 = 0
  · have e : mMiddle μ r = -1 := by rw [m1, sMiddle, if_pos hz]
    rw [if_pos e, if_pos (show (if κ 2 r 2 ≤ 0 then (0 : Int32) else if sAbs (κ 3 r 1 - sMiddle κ r) ≤ 5 then 0 else 1) = 0 by rw [hz]; rfl)]
    exact rel_stand4 h ho
  · have hm := m2 hz
    obtain ⟨j, hj, ej⟩ := ixL_ex hm
    obtain ⟨i, hi, ei⟩ := ixL_ex hr1.2.2.1
    have hp : ¬ κ 2 r 2 ≤ 0 := by
      intro z
      rw [hs.1.1] at z
      have := nI_le0 z (by have := hs.1.2; omega)
      rw [hs.1.1, this] at hz
      exact hz rfl
    have hne : ¬ mMiddle μ r = -1 := by rw [ej]; exact g_nm1 (by omega)
    rw [if_neg hne, if_neg hp, ← hr1.2.1, ← m1, ej, ei, apart_eq hi hj]
    by_cases l : sAbs (nI i - nI j) ≤ 5
    · rw [if_pos l, if_pos l, if_pos rfl]; exact rel_stand4 h ho
    · rw [if_neg l, if_neg l, if_neg (by decide)]; exact rel_lie h ho hc
/-! ===== a sample ===== -/
theorem sShift_at (r : Nat) (v : Int32) : ∀ n κ, (sShift n κ r v).2 ≤ n ∧ (∀ i, i < (sShift n κ r v).2 → (sShift n κ r v).1 16 r i = κ 16 r i) ∧
    (∀ i, (sShift n κ r v).2 ≤ i → i < n → (sShift n κ r v).1 16 r (i + 1) = κ 16 r i) ∧ (∀ i, n < i → (sShift n κ r v).1 16 r i = κ 16 r i) ∧
    ((sShift n κ r v).2 = 0 ∨ κ 16 r ((sShift n κ r v).2 - 1) ≤ v) ∧ (∀ i, (sShift n κ r v).2 ≤ i → i < n → v < κ 16 r i) ∧
    (∀ f i k, f ≠ 16 ∨ i ≠ r → (sShift n κ r v).1 f i k = κ f i k)
  | 0, κ => ⟨Nat.le_refl _, fun i _ => rfl, fun i _ hi => absurd hi (by omega), fun i _ => rfl, Or.inl rfl, fun i _ hi => absurd hi (by omega), fun f i k _ => rfl⟩
  | n + 1, κ => by
    by_cases hv : κ 16 r n ≤ v
    · have e : sShift (n + 1) κ r v = (κ, n + 1) := by rw [sShift, if_pos hv]
      rw [e]
      exact ⟨Nat.le_refl _, fun i _ => rfl, fun i h hi => absurd hi (by show ¬ i < n + 1; have : n + 1 ≤ i := h; omega), fun i _ => rfl, Or.inr hv, fun i h hi => absurd hi (by have : n + 1 ≤ i := h; omega), fun f i k _ => rfl⟩
    · have e : sShift (n + 1) κ r v = sShift n (upd3 κ 16 r (n + 1) (κ 16 r n)) r v := by rw [sShift, if_neg hv]
      rw [e]
      obtain ⟨h1, h2, h3, h4, h5, h6, h7⟩ := sShift_at r v n (upd3 κ 16 r (n + 1) (κ 16 r n))
      have g : ∀ i, i ≤ n → upd3 κ 16 r (n + 1) (κ 16 r n) 16 r i = κ 16 r i := fun i hi => upd3_k (by omega)
      refine ⟨by omega, fun i hi => (h2 i hi).trans (g i (by omega)), fun i a b => ?_, fun i hi => (h4 i (by omega)).trans (upd3_k (by omega)), ?_, fun i a b => ?_, fun f i k hf => (h7 f i k hf).trans (upd3_n (by omega))⟩
      · by_cases ei : i = n
        · rw [ei, h4 _ (by omega), upd3_s]
        · rw [h3 i a (by omega), g i (by omega)]
      · rcases h5 with h5 | h5
        · exact Or.inl h5
        · by_cases z : (sShift n (upd3 κ 16 r (n + 1) (κ 16 r n)) r v).2 = 0
          · exact Or.inl z
          · rw [g _ (by omega)] at h5; exact Or.inr h5
      · by_cases ei : i = n
        · rw [ei]; exact Int32.not_le.mp hv
        · have := h6 i a (by omega)
          rw [g i (by omega)] at this; exact this
theorem sAdd_at {κ : gMem} {r j c : Nat} {v : Int32} (hc : κ 2 r 2 = nI c) (hc4 : c < 4) :
    sAdd κ r j v 2 r 2 = nI (c + 1) ∧ sAdd κ r j v 2 r 3 = (κ 2 r 3 ||| (1 <<< (nI j &&& 31))) ∧
    (∀ f i k, f ≠ 16 ∨ i ≠ r → f ≠ 2 ∨ i ≠ r ∨ (k ≠ 2 ∧ k ≠ 3) → sAdd κ r j v f i k = κ f i k) ∧
    ∃ p, p ≤ c ∧ (∀ i, i < p → sAdd κ r j v 16 r i = κ 16 r i) ∧ sAdd κ r j v 16 r p = v ∧ (∀ i, p ≤ i → i < c → sAdd κ r j v 16 r (i + 1) = κ 16 r i) ∧ (p = 0 ∨ κ 16 r (p - 1) ≤ v) ∧ (∀ i, p ≤ i → i < c → v < κ 16 r i) := by
  have h4 : κ 2 r 2 < 4 := by rw [hc]; exact (nI_ltI (by omega) (show 4 < 2 ^ 31 by decide)).mpr hc4
  have et : tN (κ 2 r 2) = c := by rw [hc, tN_nI (by omega)]
  have e : sAdd κ r j v = upd3 (upd3 (upd3 (sShift c κ r v).1 16 r (sShift c κ r v).2 v) 2 r 2 (κ 2 r 2 + 1)) 2 r 3 (κ 2 r 3 ||| (1 <<< (nI j &&& 31))) := by
    rw [sAdd, if_pos h4, et]
  obtain ⟨h1, h2, h3, h4, h5, h6, h7⟩ := sShift_at r v c κ
  rw [e]
  refine ⟨?_, upd3_s, fun f i k f1 f2 => ?_, (sShift c κ r v).2, h1, fun i hi => ?_, ?_, fun i a b => ?_, h5, h6⟩
  · rw [upd3_k (by decide), upd3_s, hc]; exact nI_1 c
  · rw [upd3_n (by omega), upd3_n (by omega), upd3_n (by omega), h7 f i k f1]
  · rw [upd3_f (by decide), upd3_f (by decide), upd3_k (by omega), h2 i hi]
  · rw [upd3_f (by decide), upd3_f (by decide), upd3_s]
  · rw [upd3_f (by decide), upd3_f (by decide), upd3_k (by omega), h3 i a b]
theorem nSm_put {μ : gMem} {r j : Nat} {v : Int32} (h0 : μ 45 0 (12 * r + j) = -1) (hv : ¬ v = -1) : ∀ n, nSm (upd3 μ 45 0 (12 * r + j) v) r n = nSm μ r n + (if j < n then 1 else 0)
  | 0 => rfl
  | n + 1 => by
    rw [nSm, nSm, nSm_put h0 hv n]
    by_cases e : n = j
    · subst e
      rw [upd3_s, if_neg hv, h0, if_pos rfl, if_neg (by omega), if_pos (by omega)]
    · rw [upd3_k (by omega)]
      by_cases l : j < n
      · rw [if_pos l, if_pos (show j < n + 1 by omega)]; omega
      · rw [if_neg l, if_neg (show ¬ j < n + 1 by omega), Nat.add_zero, Nat.add_zero]
theorem nLe_put {μ : gMem} {r j : Nat} {v x : Int32} (h0 : μ 45 0 (12 * r + j) = -1) (hv : ¬ v = -1) : ∀ n, nLe (upd3 μ 45 0 (12 * r + j) v) r x n = nLe μ r x n + (if j < n then (if v ≤ x then 1 else 0) else 0)
  | 0 => rfl
  | n + 1 => by
    rw [nLe, nLe, nLe_put h0 hv n]
    by_cases e : n = j
    · subst e
      rw [upd3_s, if_neg hv, h0, if_pos rfl, if_neg (show ¬ n < n by omega), if_pos (show n < n + 1 by omega), Nat.add_zero]
    · rw [upd3_k (by omega)]
      by_cases l : j < n
      · rw [if_pos l, if_pos (show j < n + 1 by omega)]; omega
      · rw [if_neg l, if_neg (show ¬ j < n + 1 by omega), Nat.add_zero, Nat.add_zero]
theorem cLe_ins {κ κ' : gMem} {r p c : Nat} {v x : Int32} (h1 : ∀ i, i < p → κ' 16 r i = κ 16 r i) (h2 : κ' 16 r p = v) (h3 : ∀ i, p ≤ i → i < c → κ' 16 r (i + 1) = κ 16 r i) : ∀ n, n ≤ c →
    (n ≤ p → cLe κ' r x n = cLe κ r x n) ∧ (p ≤ n → cLe κ' r x (n + 1) = cLe κ r x n + (if v ≤ x then 1 else 0))
  | 0, _ => by
    refine ⟨fun _ => rfl, fun hp => ?_⟩
    have : p = 0 := by omega
    subst this
    rw [cLe, cLe, cLe, h2]
  | n + 1, hn => by
    obtain ⟨g1, g2⟩ := cLe_ins h1 h2 h3 n (by omega)
    have a1 : n + 1 ≤ p → cLe κ' r x (n + 1) = cLe κ r x (n + 1) := fun hp => by rw [cLe, cLe, g1 (by omega), h1 n (by omega)]
    refine ⟨a1, fun hp => ?_⟩
    by_cases e : p = n + 1
    · have q := a1 (by omega)
      have s1 : cLe κ' r x (n + 1 + 1) = cLe κ' r x (n + 1) + (if κ' 16 r (n + 1) ≤ x then 1 else 0) := rfl
      rw [s1, q, ← e, h2]
    · have q := g2 (by omega)
      have s1 : cLe κ' r x (n + 1 + 1) = cLe κ' r x (n + 1) + (if κ' 16 r (n + 1) ≤ x then 1 else 0) := rfl
      rw [s1, q, h3 n (by omega) (by omega)]
      rw [cLe]; omega
theorem rSm_add {κ μ : gMem} {r j : Nat} {v : Int32} (h : rSm κ μ r) (hj : j < 12) (hv : ixL v 100) (h0 : μ 45 0 (12 * r + j) = -1) (h4 : tN (κ 2 r 2) < 4) : rSm (sAdd κ r j v) (upd3 μ 45 0 (12 * r + j) v) r := by
  obtain ⟨a1, a2, a3, a4, a5⟩ := h
  obtain ⟨b1, b2, b3, p, p1, p2, p3, p4, p5, p6⟩ := sAdd_at (j := j) (v := v) a1.1 h4
  obtain ⟨c, hcd⟩ : ∃ c, tN (κ 2 r 2) = c := ⟨_, rfl⟩
  rw [hcd] at a2 a4 a5 b1 h4 p1 p4 p6
  have hvn : ¬ v = -1 := by obtain ⟨q, q1, q2⟩ := ixL_ex hv; rw [q2]; exact g_nm1 (by omega)
  have et : tN (sAdd κ r j v 2 r 2) = c + 1 := by rw [b1, tN_nI (by omega)]
  refine ⟨by rw [b1]; exact ixL.nI (by omega) (by decide), by rw [et, nSm_put h0 hvn, if_pos hj, a2], fun k hk => ?_, fun i l hil hl => ?_, fun x => ?_⟩
  · rw [b2, bit_or (by omega) (by omega)]
    by_cases e : k = j
    · subst e
      rw [if_pos rfl, upd3_s]
      exact ⟨⟨fun z => absurd z (by decide), fun z => absurd z hvn⟩, Or.inr hv⟩
    · rw [if_neg e, upd3_k (by omega)]; exact a3 k hk
  · rw [et] at hl
    have lo : ∀ i, i < p → κ 16 r i ≤ v := fun i hi => by
      rcases p5 with z | z
      · omega
      · by_cases e : i = p - 1
        · rw [e]; exact z
        · exact Int32.le_trans (a4 i (p - 1) (by omega) (by omega)) z
    rcases Nat.lt_trichotomy i p with ip | ip | ip
    · rw [p2 i ip]
      rcases Nat.lt_trichotomy l p with lp | lp | lp
      · rw [p2 l lp]; exact a4 i l hil (by omega)
      · rw [lp, p3]; exact lo i ip
      · obtain ⟨l', rfl⟩ : ∃ l', l = l' + 1 := ⟨l - 1, by omega⟩
        rw [p4 l' (by omega) (by omega)]
        exact Int32.le_trans (lo i ip) (i32_lt_le (p6 l' (by omega) (by omega)))
    · obtain ⟨l', rfl⟩ : ∃ l', l = l' + 1 := ⟨l - 1, by omega⟩
      rw [ip, p3, p4 l' (by omega) (by omega)]
      exact i32_lt_le (p6 l' (by omega) (by omega))
    · obtain ⟨l', rfl⟩ : ∃ l', l = l' + 1 := ⟨l - 1, by omega⟩
      obtain ⟨i', rfl⟩ : ∃ i', i = i' + 1 := ⟨i - 1, by omega⟩
      rw [p4 l' (by omega) (by omega), p4 i' (by omega) (by omega)]
      exact a4 i' l' (by omega) (by omega)
  · rw [et, (cLe_ins p2 p3 p4 c (Nat.le_refl _)).2 p1, nLe_put h0 hvn, if_pos hj, a5]
