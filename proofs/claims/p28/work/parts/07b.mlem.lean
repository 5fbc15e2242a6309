/-! ===== plain facts for the walks ===== -/
theorem g_lin {a i j : Nat} {x y : Int32} (hx : x = nI i) (hy : y = nI j) : nI a * x + y = nI (a * i + j) := by rw [hx, hy, pk_mul, nI_add]
theorem g_mul {a i : Nat} {x : Int32} (hx : x = nI i) : nI a * x = nI (a * i) := by rw [hx, pk_mul]
theorem g_inc (k : Nat) : nI k + Int32.ofInt 1 = nI (k + 1) := nI_1 k
theorem g_nm1 {j : Nat} (h : j < 2 ^ 31) : ¬ nI j = -1 := by
  intro z
  have h1 := congrArg Int32.toInt z
  rw [nI_toInt h] at h1
  have h2 : (-1 : Int32).toInt = -1 := by decide +kernel
  omega
section GT
variable {p : Program} {l : Launch} {e : Env} {R : Room} {s : State} {m : MethodId} {args : Array Value} {below : List Frame} {meth : Method} {c : Code} {H : Heap} {locs : List Loc} {cells slots : Nat} {Q : State → Prop} {pc : Nat} {ls : Array Slot} {rest : List Value}
theorem g_top {x y : Int32} (h : x = y) (kk : W p l e R s m args below meth c H locs cells slots Q (F0 m pc ls (.int y :: rest))) : W p l e R s m args below meth c H locs cells slots Q (F0 m pc ls (.int x :: rest)) := by rw [h]; exact kk
end GT
theorem upd3_f {π : gMem} {f i k g j l : Nat} {x : Int32} (h : g ≠ f) : upd3 π f i k x g j l = π g j l := upd3_n (fun z => h z.1)
theorem upd3_k {π : gMem} {f i k g j l : Nat} {x : Int32} (h : l ≠ k) : upd3 π f i k x g j l = π g j l := upd3_n (fun z => h z.2.2)
/-! the reference's numbers: what is kept -/
theorem mWF.rd {κ : gMem} (h : mWF κ) : κ 8 0 16 = nI (tN (κ 8 0 16)) ∧ tN (κ 8 0 16) ≤ 80 := by
  obtain ⟨n, hn, e⟩ := h.1
  rw [e, tN_nI (by omega)]
  exact ⟨rfl, hn⟩
theorem mWF.by' {κ : gMem} (h : mWF κ) {r : Nat} (hr : r < 80) : κ 37 0 r = nI (tN (κ 37 0 r)) ∧ tN (κ 37 0 r) < 12 := by
  obtain ⟨n, hn, e⟩ := h.2.1 r hr
  rw [e, tN_nI (by omega)]
  exact ⟨rfl, hn⟩
theorem mWF.ch {κ : gMem} (h : mWF κ) {r : Nat} (hr : r < 80) : κ 42 0 r = nI (tN (κ 42 0 r)) ∧ tN (κ 42 0 r) < 6 := by
  obtain ⟨n, hn, e⟩ := h.2.2.1 r hr
  rw [e, tN_nI (by omega)]
  exact ⟨rfl, hn⟩
theorem mWF.at' {κ : gMem} (h : mWF κ) {k : Nat} (hk : k < 12) : κ 25 0 k = nI (tN (κ 25 0 k)) ∧ tN (κ 25 0 k) < 6 := by
  obtain ⟨n, hn, e⟩ := h.2.2.2.1 k hk
  rw [e, tN_nI (by omega)]
  exact ⟨rfl, hn⟩
theorem mWF.on {κ : gMem} (h : mWF κ) {k : Nat} (hk : k < 6) (h0 : k ≠ 0) : κ 21 0 k = nI (tN (κ 21 0 k)) ∧ tN (κ 21 0 k) < k := by
  obtain ⟨n, hn, e⟩ := h.2.2.2.2 k hk h0
  rw [e, tN_nI (by omega)]
  exact ⟨rfl, hn⟩
/-- a change elsewhere -/
theorem mWF.upd {κ : gMem} (h : mWF κ) {f i k : Nat} {x : Int32} (h1 : f ≠ 37) (h2 : f ≠ 42) (h3 : f ≠ 25) (h4 : f ≠ 21) (h5 : f ≠ 8 ∨ k ≠ 16) : mWF (upd3 κ f i k x) :=
  h.of (upd3_n (fun z => h5.elim (fun q => q z.1.symm) (fun q => q z.2.2.symm))) (fun _ => upd3_f (Ne.symm h1)) (fun _ => upd3_f (Ne.symm h2)) (fun _ => upd3_f (Ne.symm h3)) (fun _ => upd3_f (Ne.symm h4))
theorem mCan_WF {κ : gMem} {t : Int32} (h : mWF κ) : mWF (mCan κ t) := h.upd (by decide) (by decide) (by decide) (by decide) (Or.inr (by decide))
theorem mPart_WF {s r : Nat} {κ : gMem} (h : mWF κ) : mWF (mPart s r κ) := (mGoes_WF h).upd (by decide) (by decide) (by decide) (by decide) (Or.inl (by decide))
theorem mPart_it_WF {s r k : Nat} {κ : gMem} (h : mWF κ) : mWF (gIt (fun _ => mPart s r) k κ) := gIt_inv (I := mWF) (N := k) (fun _ _ _ h => mPart_WF h) k (Nat.le_refl k) κ h
theorem mTell1_WF {κ : gMem} (h : mWF κ) {a : Int32} {r : Nat} {v : Int32} (ha : a = nI (tN a)) (ha2 : tN a < 12) (hr : κ 8 0 16 = nI r) (hr2 : r < 80) : mWF (mTell1 κ a r v) := by
  obtain ⟨a1, a2, a3, a4, a5⟩ := h
  refine ⟨⟨r + 1, by omega, ?_⟩, fun q hq => ?_, a3, a4, a5⟩
  · show upd3 κ 8 0 16 (κ 8 0 16 + 1) 8 0 16 = nI (r + 1)
    rw [upd3_s, hr, nI_1]
  · by_cases hqr : q = r
    · subst hqr
      exact ⟨tN a, ha2, (upd3_s : upd3 (upd3 κ 8 0 16 (κ 8 0 16 + 1)) 37 0 q a 37 0 q = a).trans ha⟩
    · obtain ⟨j, hj, e⟩ := a2 q hq
      exact ⟨j, hj, (upd3_n (fun z => hqr z.2.2) : upd3 (upd3 κ 8 0 16 (κ 8 0 16 + 1)) 37 0 r a 37 0 q = κ 37 0 q).trans e⟩
theorem mStB_WF {r k : Nat} {κ : gMem} (h : mWF κ) : mWF (mStB r k κ) := (h.upd (by decide) (by decide) (by decide) (by decide) (Or.inl (by decide))).upd (by decide) (by decide) (by decide) (by decide) (Or.inl (by decide))
theorem mStB_it_WF {r k : Nat} {κ : gMem} (h : mWF κ) : mWF (gIt (mStB r) k κ) := gIt_inv (I := mWF) (N := k) (fun _ _ _ h => mStB_WF h) k (Nat.le_refl k) κ h
theorem mStands_WF {κ : gMem} {r : Nat} (h : mWF κ) : mWF (mStands κ r) := mStB_it_WF (h.upd (by decide) (by decide) (by decide) (by decide) (Or.inl (by decide)))
theorem mLies1_WF {κ : gMem} {r : Nat} (h : mWF κ) : mWF (mLies1 κ r) := ((h.upd (by decide) (by decide) (by decide) (by decide) (Or.inl (by decide))).upd (by decide) (by decide) (by decide) (by decide) (Or.inl (by decide))).upd (by decide) (by decide) (by decide) (by decide) (Or.inl (by decide))
theorem mPay_WF {r k : Nat} {u cut : Int32} {κ : gMem} (h : mWF κ) : mWF (mPay r u cut k κ) := by
  unfold mPay
  split
  · exact (h.upd (by decide) (by decide) (by decide) (by decide) (Or.inl (by decide))).upd (by decide) (by decide) (by decide) (by decide) (Or.inl (by decide))
  · exact h
theorem mPay_it_WF {r k : Nat} {u cut : Int32} {κ : gMem} (h : mWF κ) : mWF (gIt (mPay r u cut) k κ) := gIt_inv (I := mWF) (N := k) (fun _ _ _ h => mPay_WF h) k (Nat.le_refl k) κ h
theorem mLies_WF {κ : gMem} {r : Nat} (h : mWF κ) : mWF (mLies κ r) := (mPay_it_WF (mLies1_WF h)).upd (by decide) (by decide) (by decide) (by decide) (Or.inr (by decide))
theorem mJudges_WF {κ : gMem} {r : Nat} (h : mWF κ) : mWF (mJudges κ r) := by
  unfold mJudges
  split
  · exact (mStands_WF h).upd (by decide) (by decide) (by decide) (by decide) (Or.inl (by decide))
  · split
    · exact (mStands_WF h).upd (by decide) (by decide) (by decide) (by decide) (Or.inl (by decide))
    · exact mLies_WF h
theorem mEnd1_WF {k : Nat} {κ : gMem} (h : mWF κ) : mWF (mEnd1 k κ) := by
  unfold mEnd1
  split
  · split
    · exact mJudges_WF h
    · split
      · exact mStands_WF h
      · exact h
  · exact h
theorem mEnd1_it_WF {k : Nat} {κ : gMem} (h : mWF κ) : mWF (gIt mEnd1 k κ) := gIt_inv (I := mWF) (N := k) (fun _ _ _ h => mEnd1_WF h) k (Nat.le_refl k) κ h
theorem mEnd2_WF {k : Nat} {κ : gMem} (h : mWF κ) : mWF (mEnd2 k κ) := by
  unfold mEnd2
  split
  · exact h
  · split
    · exact ((h.upd (by decide) (by decide) (by decide) (by decide) (Or.inl (by decide))).upd (by decide) (by decide) (by decide) (by decide) (Or.inl (by decide))).upd (by decide) (by decide) (by decide) (by decide) (Or.inl (by decide))
    · exact h
theorem mEnd2_it_WF {k : Nat} {κ : gMem} (h : mWF κ) : mWF (gIt mEnd2 k κ) := gIt_inv (I := mWF) (N := k) (fun _ _ _ h => mEnd2_WF h) k (Nat.le_refl k) κ h
theorem mEnds_WF {n : Nat} {κ : gMem} (h : mWF κ) : mWF (mEnds n κ) := (mEnd2_it_WF (mEnd1_it_WF h)).upd (by decide) (by decide) (by decide) (by decide) (Or.inr (by decide))
theorem mAdv_it_WF {k : Nat} {κ : gMem} (h : mWF κ) : mWF (gIt (fun _ κ => mEnds (tN (κ 8 0 16)) κ) k κ) := gIt_inv (I := mWF) (N := k) (fun _ _ _ h => mEnds_WF h) k (Nat.le_refl k) κ h
/-! .. slots that judging leaves alone -/
theorem mStands_keep {κ : gMem} {r f i j : Nat} (h1 : f ≠ 27) (h2 : f ≠ 43) (h3 : f ≠ 39) : mStands κ r f i j = κ f i j :=
  (gIt_keep (fun _ _ => (upd3_f h2).trans (upd3_f h1)) 6 _).trans (upd3_f h3)
theorem mPay_keep {r k f i j : Nat} {u cut : Int32} {κ : gMem} (h1 : f ≠ 30) (h2 : f ≠ 43) : mPay r u cut k κ f i j = κ f i j := by
  unfold mPay
  split
  · exact (upd3_f h2).trans (upd3_f h1)
  · rfl
theorem mLies_keep {κ : gMem} {r f i j : Nat} (h1 : f ≠ 30) (h2 : f ≠ 43) (h3 : f ≠ 39) (h4 : f ≠ 26) (h5 : f ≠ 8 ∨ j ≠ 11) : mLies κ r f i j = κ f i j :=
  (upd3_n (fun z => h5.elim (fun q => q z.1) (fun q => q z.2.2))).trans ((gIt_keep (fun _ _ => mPay_keep h1 h2) 6 _).trans ((upd3_f h1).trans ((upd3_f h4).trans (upd3_f h3))))
theorem mJudges_keep {κ : gMem} {r f i j : Nat} (h0 : f ≠ 27) (h1 : f ≠ 30) (h2 : f ≠ 43) (h3 : f ≠ 39) (h4 : f ≠ 26) (h5 : f ≠ 8 ∨ j ≠ 11) : mJudges κ r f i j = κ f i j := by
  unfold mJudges
  split
  · exact (upd3_f h0).trans (mStands_keep h0 h2 h3)
  · split
    · exact (upd3_f h0).trans (mStands_keep h0 h2 h3)
    · exact mLies_keep h1 h2 h3 h4 h5
theorem mEnd1_keep {κ : gMem} {k f i j : Nat} (h0 : f ≠ 27) (h1 : f ≠ 30) (h2 : f ≠ 43) (h3 : f ≠ 39) (h4 : f ≠ 26) (h5 : f ≠ 8 ∨ j ≠ 11) : mEnd1 k κ f i j = κ f i j := by
  unfold mEnd1
  split
  · split
    · exact mJudges_keep h0 h1 h2 h3 h4 h5
    · split
      · exact mStands_keep h0 h2 h3
      · rfl
  · rfl
theorem mEnd2_keep {κ : gMem} {k f i j : Nat} (h0 : f ≠ 32) (h1 : f ≠ 30) (h2 : f ≠ 35) : mEnd2 k κ f i j = κ f i j := by
  unfold mEnd2
  split
  · rfl
  · split
    · exact (upd3_f h2).trans ((upd3_f h1).trans (upd3_f h0))
    · rfl
theorem mUse_keep {s r k f i j : Nat} {κ : gMem} (h0 : f ≠ 35) (h1 : f ≠ 43) (h2 : f ≠ 44) : mUse s r k κ f i j = κ f i j := by
  unfold mUse
  split
  · rfl
  · exact (upd3_f h2).trans ((upd3_f h1).trans (upd3_f h0))
/-- a set with the buyer k in it isn't empty -/
theorem i32_and1 (x : Int32) : x &&& 1 = 0 ∨ x &&& 1 = 1 := by
  have h : (x &&& 1).toBitVec = x.toBitVec &&& 1#32 := rfl
  have h2 : (x.toBitVec &&& 1#32).toNat = x.toBitVec.toNat % 2 := by
    rw [BitVec.toNat_and]
    exact Nat.and_one_is_mod _
  rcases Nat.mod_two_eq_zero_or_one x.toBitVec.toNat with h3 | h3
  · left
    apply Int32.toBitVec_inj.mp
    rw [h]
    apply BitVec.eq_of_toNat_eq
    rw [h2, h3]
    rfl
  · right
    apply Int32.toBitVec_inj.mp
    rw [h]
    apply BitVec.eq_of_toNat_eq
    rw [h2, h3]
    rfl
theorem mSize_nat (u : Int32) : ∀ n, n ≤ 6 → ∃ q, q ≤ n ∧ mSize u n = nI q ∧ ∀ k, k < n → u >>> (nI k &&& 31) &&& 1 = 1 → 1 ≤ q := by
  intro n
  induction n with
  | zero => intro _; exact ⟨0, Nat.le_refl _, rfl, fun k hk => absurd hk (by omega)⟩
  | succ n ih =>
    intro hn
    obtain ⟨q, h1, h2, h3⟩ := ih (by omega)
    rcases i32_and1 (u >>> (nI n &&& 31)) with h | h
    · refine ⟨q, by omega, ?_, fun k hk hb => ?_⟩
      · rw [mSize, h2, h]; exact nI_add q 0
      · by_cases hkn : k = n
        · subst hkn; rw [h] at hb; exact absurd hb (by decide)
        · exact h3 k (by omega) hb
    · refine ⟨q + 1, by omega, ?_, fun k hk hb => by omega⟩
      rw [mSize, h2, h]; exact nI_add q 1
theorem mSize_ne {u : Int32} {k : Nat} (hk : k < 6) (hb : u >>> (nI k &&& 31) &&& 1 = 1) : ¬ mSize u 6 = 0 := by
  obtain ⟨q, h1, h2, h3⟩ := mSize_nat u 6 (Nat.le_refl _)
  have := h3 k hk hb
  rw [h2]
  exact nI_ne0 (by omega) (by omega)
theorem ask_f {t : Int32} (h : ¬ (if t = 0 then (1 : Int32) else 0) = 0) : t = 0 := by
  by_cases h0 : t = 0
  · exact h0
  · rw [if_neg h0] at h; exact absurd rfl h
theorem ask_t {t : Int32} (h : (if t = 0 then (1 : Int32) else 0) = 0) : ¬ t = 0 := by
  intro h0
  rw [if_pos h0] at h
  exact absurd h (by decide)
theorem mAsk_in {κ : gMem} {x : Int32} (h : mAskT κ x = 0) : ¬ mIn x 0 (κ 8 0 16 - 1) = 0 := by
  intro h0
  rw [mAskT, if_pos h0] at h
  exact absurd h (by decide)
def mOneT (a hi : Int32) : Int32 := if mIn a 0 hi = 0 then 1 else 0
theorem mSmp_congr {κ κ' : gMem} {r : Nat} (h : ∀ j, κ' 45 0 j = κ 45 0 j) : ∀ k, mSmp κ' r k = mSmp κ r k
  | 0 => rfl
  | k + 1 => by rw [mSmp, mSmp, mSmp_congr h k, h]
theorem mAhead_congr {κ κ' : gMem} {r k : Nat} (h : ∀ j, κ' 45 0 j = κ 45 0 j) : ∀ j, mAhead κ' r k j = mAhead κ r k j
  | 0 => rfl
  | j + 1 => by rw [mAhead, mAhead, mAhead_congr h j, h, h]
theorem mFound_congr {κ κ' : gMem} {r : Nat} (h : ∀ j, κ' 45 0 j = κ 45 0 j) : ∀ k, mFound κ' r k = mFound κ r k
  | 0 => rfl
  | k + 1 => by rw [mFound, mFound, mFound_congr h k, h, mAhead_congr h, mSmp_congr h]
theorem mMiddle_congr {κ κ' : gMem} {r : Nat} (h : ∀ j, κ' 45 0 j = κ 45 0 j) : mMiddle κ' r = mMiddle κ r := mFound_congr h 12
