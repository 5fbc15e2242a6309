/-! ===== what the law keeps of its own: v (20), c (21), t (22) ===== -/
theorem fa_and (a b : Nat) : nI a &&& nI b = nI (a &&& b) := by
  apply Int32.toBitVec_inj.mp
  apply BitVec.eq_of_toNat_eq
  show (BitVec.ofNat 32 a &&& BitVec.ofNat 32 b).toNat = (BitVec.ofNat 32 (a &&& b)).toNat
  rw [BitVec.toNat_and, BitVec.toNat_ofNat, BitVec.toNat_ofNat, BitVec.toNat_ofNat, Nat.and_mod_two_pow]
theorem fa_or (a b : Nat) : nI a ||| nI b = nI (a ||| b) := by
  apply Int32.toBitVec_inj.mp
  apply BitVec.eq_of_toNat_eq
  show (BitVec.ofNat 32 a ||| BitVec.ofNat 32 b).toNat = (BitVec.ofNat 32 (a ||| b)).toNat
  rw [BitVec.toNat_or, BitVec.toNat_ofNat, BitVec.toNat_ofNat, BitVec.toNat_ofNat, Nat.or_mod_two_pow]
theorem ix_bd {x : Int32} {n : Nat} (h : ixL x n) (hn : n < 2 ^ 31) : x < nI n := by
  rw [h.1]; exact (nI_ltI (by have := h.2; omega) hn).mpr h.2
theorem xE_0 {t : Int32} {E : String} (h : xE t E) (ht : t = 0) : False := by
  rw [ht] at h
  rcases h with ⟨-, z⟩ | ⟨-, z⟩ | ⟨-, z⟩ <;> exact absurd z (by decide)
def enc (τ st v s : Nat) : Nat := 16384 * τ + (2048 * st + (16 * v + s))
theorem enc_lt {τ st v s : Nat} (h1 : τ ≤ 10000) (h2 : st < 8) (h3 : v < 128) (h4 : s < 16) : enc τ st v s < 2 ^ 31 := by
  show 16384 * τ + (2048 * st + (16 * v + s)) < 2 ^ 31
  omega
theorem enc_s {τ st v s : Nat} (h1 : τ ≤ 10000) (h2 : st < 8) (h3 : v < 128) (h4 : s < 16) : nI (enc τ st v s) &&& 15 = nI s := by
  have hl := enc_lt h1 h2 h3 h4
  rw [pk_andN (m := 15) (by omega) 4 (by decide)]
  refine congrArg nI ?_
  show (16384 * τ + (2048 * st + (16 * v + s))) % 16 = s
  omega
theorem enc_v {τ st v s : Nat} (h1 : τ ≤ 10000) (h2 : st < 8) (h3 : v < 128) (h4 : s < 16) : nI (enc τ st v s) >>> ((4 : Int32) &&& 31) &&& 127 = nI v := by
  have hl := enc_lt h1 h2 h3 h4
  rw [pk_shrN hl _ 4 (by decide), pk_andN (m := 127) (by have := Nat.div_le_self (enc τ st v s) (2 ^ 4); omega) 7 (by decide)]
  refine congrArg nI ?_
  show (16384 * τ + (2048 * st + (16 * v + s))) / 16 % 128 = v
  omega
theorem enc_st {τ st v s : Nat} (h1 : τ ≤ 10000) (h2 : st < 8) (h3 : v < 128) (h4 : s < 16) : nI (enc τ st v s) >>> ((11 : Int32) &&& 31) &&& 7 = nI st := by
  have hl := enc_lt h1 h2 h3 h4
  rw [pk_shrN hl _ 11 (by decide), pk_andN (m := 7) (by have := Nat.div_le_self (enc τ st v s) (2 ^ 11); omega) 3 (by decide)]
  refine congrArg nI ?_
  show (16384 * τ + (2048 * st + (16 * v + s))) / 2048 % 8 = st
  omega
theorem enc_t {τ st v s : Nat} (h1 : τ ≤ 10000) (h2 : st < 8) (h3 : v < 128) (h4 : s < 16) : nI (enc τ st v s) >>> ((14 : Int32) &&& 31) = nI τ := by
  have hl := enc_lt h1 h2 h3 h4
  rw [pk_shrN hl _ 14 (by decide)]
  refine congrArg nI ?_
  show (16384 * τ + (2048 * st + (16 * v + s))) / 16384 = τ
  omega
theorem or_up {k a b : Nat} (h : a < 2 ^ k) : a ||| b * 2 ^ k = 2 ^ k * b + a := by
  rw [Nat.or_comm, Nat.mul_comm, ← Nat.two_pow_add_eq_or_of_lt h]
theorem enc_tell {τ st v s : Nat} (h1 : τ ≤ 10000) (h2 : st < 8) (h3 : v < 128) (h4 : s < 16) : ((nI s ||| nI v <<< ((4 : Int32) &&& 31)) ||| nI st <<< ((11 : Int32) &&& 31)) ||| nI τ <<< ((14 : Int32) &&& 31) = nI (enc τ st v s) := by
  rw [pk_shlN _ 4 (by decide) (by omega), pk_shlN _ 11 (by decide) (by omega), pk_shlN _ 14 (by decide) (by omega), fa_or, or_up (k := 4) (by omega), fa_or, or_up (k := 11) (by omega), fa_or, or_up (k := 14) (by omega)]
  refine congrArg nI ?_
  show 2 ^ 14 * τ + (2 ^ 11 * st + (2 ^ 4 * v + s)) = 16384 * τ + (2048 * st + (16 * v + s))
  omega
theorem nat_clear {τ st lo : Nat} (h1 : lo < 2 ^ 11) (h2 : st < 8) (h3 : τ < 2 ^ 18) : (2 ^ 14 * τ + (2 ^ 11 * st + lo)) &&& 4294952959 = 2 ^ 14 * τ + lo := by
  have hc : 4294952959 = 2 ^ 14 * (2 ^ 18 - 1) + (2 ^ 11 - 1) := by decide
  rw [hc]
  apply Nat.eq_of_testBit_eq
  intro i
  rw [Nat.testBit_and, Nat.testBit_two_pow_mul_add _ (show 2 ^ 11 * st + lo < 2 ^ 14 by omega), Nat.testBit_two_pow_mul_add _ (show 2 ^ 11 - 1 < 2 ^ 14 by decide), Nat.testBit_two_pow_mul_add _ (show lo < 2 ^ 14 by omega)]
  by_cases hi : i < 14
  · rw [if_pos hi, if_pos hi, if_pos hi, Nat.testBit_two_pow_mul_add _ h1, Nat.testBit_two_pow_sub_one]
    by_cases h11 : i < 11
    · rw [if_pos h11]; simp [h11]
    · rw [if_neg h11]
      have : lo.testBit i = false := Nat.testBit_lt_two_pow (Nat.lt_of_lt_of_le h1 (Nat.pow_le_pow_right (by decide) (by omega)))
      rw [this]; simp [h11]
  · rw [if_neg hi, if_neg hi, if_neg hi, Nat.testBit_two_pow_sub_one]
    by_cases h18 : i - 14 < 18
    · simp [h18]
    · have : τ.testBit (i - 14) = false := Nat.testBit_lt_two_pow (Nat.lt_of_lt_of_le h3 (Nat.pow_le_pow_right (by decide) (by omega)))
      rw [this]; simp
theorem nat_set {τ st lo : Nat} (h1 : lo < 2 ^ 11) (h2 : st < 8) : (2 ^ 14 * τ + lo) ||| st * 2 ^ 11 = 2 ^ 14 * τ + (2 ^ 11 * st + lo) := by
  have e1 : 2 ^ 11 * st + lo = lo ||| st * 2 ^ 11 := (or_up h1).symm
  rw [Nat.two_pow_add_eq_or_of_lt (show lo < 2 ^ 14 by omega), Nat.two_pow_add_eq_or_of_lt (show 2 ^ 11 * st + lo < 2 ^ 14 by omega), e1, Nat.or_assoc]
theorem enc_set {τ st v s S : Nat} (h1 : τ ≤ 10000) (h2 : st < 8) (h3 : v < 128) (h4 : s < 16) (h5 : S < 8) : (nI (enc τ st v s) &&& (-14337)) ||| nI S <<< ((11 : Int32) &&& 31) = nI (enc τ S v s) := by
  have ec : (-14337 : Int32) = nI 4294952959 := by decide
  have e1 : enc τ st v s = 2 ^ 14 * τ + (2 ^ 11 * st + (16 * v + s)) := rfl
  rw [ec, pk_shlN _ 11 (by decide) (by omega), fa_and, e1, nat_clear (by omega) h2 (by omega), fa_or, nat_set (by omega) h5]
  rfl
theorem enc_chal {τ st v s T : Nat} (h1 : τ ≤ 10000) (h2 : st < 8) (h3 : v < 128) (h4 : s < 16) (h5 : T ≤ 10000) : (((nI (enc τ st v s) &&& 16383) &&& (-14337)) ||| 2048) ||| nI T <<< ((14 : Int32) &&& 31) = nI (enc T 1 v s) := by
  have hl := enc_lt h1 h2 h3 h4
  have ec : (-14337 : Int32) = nI 4294952959 := by decide
  have e2 : (2048 : Int32) = nI (1 * 2 ^ 11) := by decide
  have e1 : enc τ st v s % 2 ^ 14 = 2 ^ 14 * 0 + (2 ^ 11 * st + (16 * v + s)) := by
    show (16384 * τ + (2048 * st + (16 * v + s))) % 16384 = _
    omega
  rw [pk_andN (m := 16383) (by omega) 14 (by decide), e1, ec, e2, fa_and, nat_clear (by omega) h2 (by decide), fa_or, nat_set (by omega) (by decide), pk_shlN _ 14 (by decide) (by omega), fa_or, or_up (k := 14) (by omega)]
  refine congrArg nI ?_
  show 2 ^ 14 * T + (2 ^ 14 * 0 + (2 ^ 11 * 1 + (16 * v + s))) = 16384 * T + (2048 * 1 + (16 * v + s))
  omega
/-! the law's own invariant -/
def LR (κ : gMem) (r : Nat) : Prop := ∃ st τ : Nat, st ≤ 4 ∧ τ ≤ tN (κ 7 0 6) ∧ κ 20 0 r = nI (enc τ st (tN (κ 3 r 1)) (tN (κ 3 r 0))) ∧ ((st < 2 ∧ st ≤ tN (κ 3 r 3) ∧ tN (κ 3 r 3) < 4) ∨ (2 ≤ st ∧ tN (κ 3 r 3) = st)) ∧ (tN (κ 3 r 3) < 2 → κ 3 r 4 = nI (τ + 4))
def LV (κ : gMem) : Prop := κ 21 0 0 = κ 7 0 6 ∧ κ 21 0 1 = κ 7 0 4 ∧ (∀ s, s < 12 → κ 22 0 s = κ 5 s 6 + 1) ∧ ∀ r, r < tN (κ 7 0 4) → LR κ r
def lV (ids : gIds) : Prop := (20, 0) ∈ ids ∧ (21, 0) ∈ ids ∧ (22, 0) ∈ ids
def PL (N B : Nat) (ids : gIds) (κ : gMem) : Prop := CI ids κ ∧ LV κ ∧ lV ids ∧ tN (κ 7 0 4) ≤ N ∧ tN (κ 7 0 6) ≤ B
theorem PL.up {N B N' B' : Nat} {ids : gIds} {κ : gMem} (h : PL N B ids κ) (h1 : N ≤ N') (h2 : B ≤ B') : PL N' B' ids κ := ⟨h.1, h.2.1, h.2.2.1, by have := h.2.2.2.1; omega, by have := h.2.2.2.2; omega⟩
theorem LR.to {κ κ' : gMem} {r : Nat} (h : LR κ r) (hT : tN (κ 7 0 6) ≤ tN (κ' 7 0 6)) (h20 : κ' 20 0 r = κ 20 0 r) (h0 : κ' 3 r 0 = κ 3 r 0) (h1 : κ' 3 r 1 = κ 3 r 1) (h3 : κ' 3 r 3 = κ 3 r 3) (h4 : κ' 3 r 4 = κ 3 r 4) : LR κ' r := by
  obtain ⟨st, τ, a1, a2, a3, a4, a5⟩ := h
  exact ⟨st, τ, a1, by omega, by rw [h20, h0, h1]; exact a3, by rw [h3]; exact a4, by rw [h3, h4]; exact a5⟩
theorem LR.ev {κ κ' : gMem} {r : Nat} (h : LR κ r) (e : Ev κ κ') (hT : tN (κ 7 0 6) ≤ tN (κ' 7 0 6)) (h20 : κ' 20 0 r = κ 20 0 r) : LR κ' r := by
  obtain ⟨h0, h1, h4, h3⟩ := e.2.2 r
  rcases h3 with h3 | ⟨h3, h3'⟩
  · exact h.to hT h20 h0 h1 h3 h4
  · obtain ⟨st, τ, a1, a2, a3, a4, a5⟩ := h
    have b2 : tN (κ 3 r 3) < 2 := by
      rcases h3 with z | z <;> rw [z] <;> decide +kernel
    have b3 : 2 ≤ tN (κ' 3 r 3) ∧ tN (κ' 3 r 3) < 4 := by
      rcases h3' with z | z <;> rw [z] <;> decide +kernel
    exact ⟨st, τ, a1, by omega, by rw [h20, h0, h1]; exact a3, Or.inl (by omega), fun z => absurd z (by omega)⟩
theorem LV.ev {κ κ' : gMem} (h : LV κ) (e : Ev κ κ') (hT : tN (κ 7 0 6) ≤ tN (κ' 7 0 6)) (h20 : ∀ r, κ' 20 0 r = κ 20 0 r) (h21 : κ' 21 0 0 = κ' 7 0 6) (h211 : κ' 21 0 1 = κ 21 0 1) (h22 : ∀ s, κ' 22 0 s = κ 22 0 s) : LV κ' := by
  refine ⟨h21, by rw [h211, e.1]; exact h.2.1, fun s hs => by rw [h22, e.2.1]; exact h.2.2.1 s hs, fun r hr => ?_⟩
  rw [e.1] at hr
  exact (h.2.2.2 r hr).ev e hT (h20 r)
theorem CI.w {ids : gIds} {κ : gMem} {f i k : Nat} {x : Int32} (J : CI ids κ) (hf : f = 20 ∨ f = 21 ∨ f = 22) : CI ids (upd3 κ f i k x) := by
  obtain ⟨h1, h2, h3, ⟨μ, h4⟩, h5⟩ := J
  have c : ∀ g j l, g < 20 → upd3 κ f i k x g j l = κ g j l := fun g j l hg => upd3_n (by omega)
  refine ⟨h1, h2.of (fun g j l hg => c g j l (by have := cTouch_lt hg; omega)), h3.to (c _ _ _ (by omega)) (fun r => c _ _ _ (by omega)), ⟨μ, h4.cong (fun g j l _ hl => c g j l (by omega)) mEq.rf⟩, h5.cong (fun g j l hg => c g j l (by omega))⟩
/-- what the law reads of a reading -/
theorem PL.rd {N B : Nat} {ids : gIds} {κ : gMem} {r : Nat} (J : PL N B ids κ) (hr : r < tN (κ 7 0 4)) : ∃ s v S P U st τ : Nat, s < 12 ∧ v < 100 ∧ S < 5 ∧ P < 5 ∧ U < 7 ∧ st ≤ 4 ∧ τ ≤ tN (κ 7 0 6) ∧ tN (κ 7 0 6) ≤ 10000 ∧
    κ 3 r 0 = nI s ∧ κ 3 r 1 = nI v ∧ κ 3 r 3 = nI S ∧ κ 3 r 2 = nI P ∧ κ 3 r 6 = nI U ∧ κ 20 0 r = nI (enc τ st v s) ∧ ((st < 2 ∧ st ≤ S ∧ S < 4) ∨ (2 ≤ st ∧ S = st)) ∧ (S < 2 → κ 3 r 4 = nI (τ + 4) ∧ tN (κ 7 0 6) ≤ τ + 4) ∧ (S = 4 ↔ P < 3) ∧ (S = 4 → U = 0 ∧ κ 3 r 9 < 0) ∧
    (∃ Hd : Nat, κ 3 r 7 = nI Hd ∧ Hd ≤ 2400 ∧ Hd ≤ 20 * U ∧ (S < 2 → U ≤ Hd) ∧ (2 ≤ S → Hd = 0)) ∧ (∃ M : Nat, M < 100 ∧ (sMidA κ r = -1 ∨ sMidA κ r = nI M) ∧ (S = 2 → sMidA κ r = -1 ∨ (v ≤ M + 5 ∧ M ≤ v + 5)) ∧ (S = 3 → sMidA κ r = nI M ∧ ¬ (v ≤ M + 5 ∧ M ≤ v + 5)) ∧ (S = 4 → sMidA κ r = -1)) := by
  obtain ⟨⟨h1, h2, h3, ⟨μ, h4⟩, h5⟩, hL, -, -, -⟩ := J
  obtain ⟨p1, p2, p3⟩ := h4.rd hr
  obtain ⟨n1, n2, n3, n4, n5⟩ := h5.2.2.2 r hr
  obtain ⟨st, τ, l1, l2, l3, l4, l5⟩ := hL.2.2.2 r hr
  have hs := p1.2.2.2.2.2.2.2
  have hv := p1.2.2.1
  have hS := p1.2.2.2.2.2.1
  have hU := users_6 p1
  have hT := h4.1.2.1.2
  have eS : ∀ k, k < 5 → (κ 3 r 3 = nI k ↔ tN (κ 3 r 3) = k) := fun k hk => by
    constructor
    · intro z; rw [z, tN_nI (by omega)]
    · intro z; rw [← z]; exact hS.1
  have e0 := eS 0 (by decide)
  have e1 := eS 1 (by decide)
  have e2 := eS 2 (by decide)
  have e3 := eS 3 (by decide)
  have e4 := eS 4 (by decide)
  have hop : κ 3 r 3 = 0 ∨ κ 3 r 3 = 1 ↔ tN (κ 3 r 3) < 2 := by
    have e0 : κ 3 r 3 = 0 ↔ tN (κ 3 r 3) = 0 := e0
    have e1 : κ 3 r 3 = 1 ↔ tN (κ 3 r 3) = 1 := e1
    rw [e0, e1]; omega
  refine ⟨tN (κ 3 r 0), tN (κ 3 r 1), tN (κ 3 r 3), tN (κ 3 r 2), tN (κ 3 r 6), st, τ, hs.2, hv.2, hS.2, n1.2, hU.2, l1, l2, by omega, hs.1, hv.1, hS.1, n1.1, hU.1, l3, l4, fun z => ⟨l5 z, ?_⟩, ?_, fun z => ?_, ?_, ?_⟩
  · rcases p2 with ⟨y1, y2, y3, y4, t, y5, y6, y7, y8, y9⟩ | ⟨y1, -⟩
    · have := l5 z
      rw [y6] at this
      have := nI_inj this (by omega) (by omega)
      omega
    · exact absurd (hop.mpr z) y1
  · rw [← n2]; exact e4.symm
  · obtain ⟨z1, z2⟩ := n3 (e4.mpr z)
    exact ⟨by rw [z1]; decide +kernel, z2⟩
  · have h7 := h5.1.2.2.2.2.1 r hr
    refine ⟨tN (κ 3 r 7), h7.1, by have := h7.2; omega, ?_⟩
    by_cases ho : tN (κ 3 r 3) < 2
    · obtain ⟨q1, q2, q3⟩ := paid_at p2 p1 (hop.mpr ho)
      have b1 := nsum_bd (f := fun b => tN (κ 15 r b)) (g := fun b => (if tN (κ 15 r b) = 0 then 0 else 1) * 20) 6 (fun k hk => by
        have := (q1 k hk).2
        split <;> omega)
      have b2 := nsum_bd (f := fun b => if tN (κ 15 r b) = 0 then 0 else 1) (g := fun b => tN (κ 15 r b)) 6 (fun k hk => by
        split <;> omega)
      have b3 := nsum_bd (f := fun b => if tN (κ 15 r b) = 0 then 0 else 1) (g := fun _ => 1) 6 (fun k hk => by
        split <;> omega)
      rw [nsum_mul] at b1
      rw [nsum_c] at b3
      rw [q2, q3, tN_nI (by omega), tN_nI (by omega)]
      exact ⟨by omega, fun _ => b2, fun z => absurd z (by omega)⟩
    · rcases p2 with ⟨y1, -⟩ | ⟨y1, y2, -⟩
      · exact absurd (hop.mp y1) ho
      · have t0 : tN (κ 3 r 7) = 0 := by rw [y2]; decide +kernel
        rw [t0]
        exact ⟨by omega, fun z => absurd z ho, fun _ => rfl⟩
  · have hab : ∀ M, M < 100 → (sAbs (κ 3 r 1 - nI M) ≤ 5 ↔ tN (κ 3 r 1) ≤ M + 5 ∧ M ≤ tN (κ 3 r 1) + 5) := fun M hM => by
      have e := pk_sub_toInt (a := tN (κ 3 r 1)) (b := M) (by have := hv.2; omega) (by omega)
      rw [← hv.1] at e
      have z0 : (0 : Int32).toInt = 0 := by decide +kernel
      have z5 : (5 : Int32).toInt = 5 := by decide +kernel
      rw [sAbs]
      split
      · rename_i h
        rw [Int32.le_iff_toInt_le, z0, e] at h
        rw [Int32.le_iff_toInt_le, z5, e]; omega
      · rename_i h
        rw [Int32.le_iff_toInt_le, z0, e] at h
        have e' := pk_sub_toInt (a := M) (b := tN (κ 3 r 1)) (by omega) (by have := hv.2; omega)
        rw [← hv.1] at e'
        have es : (0 : Int32) - (κ 3 r 1 - nI M) = nI M - κ 3 r 1 := by grind
        rw [es, Int32.le_iff_toInt_le, z5, e']; omega
    by_cases hm : sMidA κ r = -1
    · refine ⟨0, by decide, Or.inl hm, fun _ => Or.inl hm, fun z => ?_, fun _ => hm⟩
      obtain ⟨z1, z2, z3⟩ := n5 (e3.mpr z)
      rcases p3 with ⟨w1, -⟩ | ⟨w1, w2, w3, w4, w5, w6⟩
      · rw [w1] at z1; exact absurd (by decide) z1
      · obtain ⟨m1, m2⟩ := mid_eq w5
        have m3 := m2 z2
        rw [m1] at m3
        rw [sMidA, if_neg z1] at hm
        rw [hm] at m3
        exact absurd m3.1 (fun h => g_nm1 (by have := m3.2; omega) h.symm)
    · have hmx : ixL (sMidA κ r) 100 := by
        rcases p3 with ⟨w1, -⟩ | ⟨w1, w2, w3, w4, w5, w6⟩
        · exact absurd (by rw [sMidA, if_pos (by rw [w1]; decide)]) hm
        · have h80 := h4.1.2.2.2.2.2
          have e9 : sMidA κ r = sMiddle κ r := by rw [sMidA, if_neg (by rw [w1]; exact nI_pos (by omega))]
          obtain ⟨m1, m2⟩ := mid_eq w5
          rw [e9, ← m1]
          refine m2 (fun z => hm ?_)
          rw [e9, sMiddle, if_pos z]
      refine ⟨tN (sMidA κ r), hmx.2, Or.inr hmx.1, fun z => ?_, fun z => ⟨hmx.1, fun y => ?_⟩, fun z => ?_⟩
      · rcases n4 (e2.mpr z) with w | w
        · exact Or.inl w
        · right
          rw [hmx.1] at w
          exact (hab _ hmx.2).mp w
      · obtain ⟨z1, z2, z3⟩ := n5 (e3.mpr z)
        have e9 : sMidA κ r = sMiddle κ r := by rw [sMidA, if_neg z1]
        rw [← e9, hmx.1] at z3
        exact z3 ((hab _ hmx.2).mpr y)
      · obtain ⟨z1, z2⟩ := n3 (e4.mpr z)
        exact absurd (by rw [sMidA, if_pos z2]) hm
/-- a text's letters -/
theorem tx_at {N B : Nat} {ids : gIds} {κ : gMem} {r s v : Nat} (J : PL N B ids κ) (hr : r < tN (κ 7 0 4)) (es : κ 3 r 0 = nI s) (ev : κ 3 r 1 = nI v) (hv : v < 100) :
    sText κ r 0 = 97 + nI s ∧ (v < 10 → sText κ r 1 = 48 + nI v ∧ sText κ r 2 = mSign (κ 3 r 3) ∧ sText κ r 3 = -1) ∧
    (¬ v < 10 → sText κ r 1 = 48 + nI v / 10 ∧ sText κ r 2 = 48 + (nI v - nI v / 10 * 10) ∧ sText κ r 3 = mSign (κ 3 r 3) ∧ sText κ r 4 = -1) := by
  obtain ⟨⟨h1, h2, h3, ⟨μ, h4⟩, h5⟩, -⟩ := J
  obtain ⟨p1, -⟩ := h4.rd hr
  have m0 : μ 37 0 r = nI s := p1.1.symm.trans es
  have m1 : μ 38 0 r = nI v := p1.2.1.symm.trans ev
  have m3 : μ 39 0 r = κ 3 r 3 := p1.2.2.2.2.1.symm
  have q : ∀ v, v < 100 → (10 ≤ nI v ↔ ¬ v < 10) ∧ (v < 10 → nI v - nI v / 10 * 10 = nI v) := by decide +kernel
  obtain ⟨q1, q2⟩ := q v hv
  have tx : ∀ x : Int32, ¬ x < 0 → sText κ r x = mText μ r x := fun x hx => (text_eq h4 hr hx).symm
  refine ⟨?_, fun hl => ⟨?_, ?_, ?_⟩, fun hl => ⟨?_, ?_, ?_, ?_⟩⟩
  · rw [tx 0 (by decide), mText, if_pos rfl, m0]
  · rw [tx 1 (by decide), mText, m1, if_neg (show ¬ 10 ≤ nI v from fun z => q1.mp z hl), if_neg (by decide), if_neg (by decide), if_pos rfl, q2 hl]
  · rw [tx 2 (by decide), mText, m1, if_neg (show ¬ 10 ≤ nI v from fun z => q1.mp z hl), if_neg (by decide), if_pos (by decide), if_pos (by decide), m3]
  · rw [tx 3 (by decide), mText, m1, if_neg (show ¬ 10 ≤ nI v from fun z => q1.mp z hl), if_neg (by decide), if_pos (by decide), if_neg (by decide)]
  · rw [tx 1 (by decide), mText, m1, if_pos (q1.mpr hl), if_neg (by decide), if_neg (by decide), if_neg (by decide)]
  · rw [tx 2 (by decide), mText, m1, if_pos (q1.mpr hl), if_neg (by decide), if_neg (by decide), if_pos rfl]
  · rw [tx 3 (by decide), mText, m1, if_pos (q1.mpr hl), if_neg (by decide), if_pos (by decide), if_pos (by decide), m3]
  · rw [tx 4 (by decide), mText, m1, if_pos (q1.mpr hl), if_neg (by decide), if_pos (by decide), if_neg (by decide)]
theorem txT_0 {κ : gMem} {k : Nat} {b : Int32} (hr : k < tN (κ 7 0 4)) (hn : κ 7 0 4 = nI (tN (κ 7 0 4))) (h80 : tN (κ 7 0 4) ≤ 80) (hb : 0 ≤ b) : sTextT κ (nI k) b = 0 := by
  rw [sTextT, if_neg ?_, if_pos hb]
  refine mIn_ok (nI_pos (by omega)) ?_
  rw [hn]
  exact rd_lt h80 ((nI_ltI (by omega) (by omega)).mpr hr)
/-! the whole sum -/
def lwT (κ : gMem) (s : Nat) (z : Int32) : Nat → Int32
  | 0 => z + (κ 5 s 3 + κ 5 s 4)
  | b + 1 => lwT κ s z b + sAside κ b s
def lwS (κ : gMem) : Nat → Int32
  | 0 => κ 7 0 5
  | s + 1 => lwT κ s (lwS κ s) 6
def lwB (κ : gMem) (z : Int32) : Nat → Int32
  | 0 => z
  | b + 1 => lwB κ z b + κ 1 b 0
def lwR (κ : gMem) (z : Int32) : Nat → Int32
  | 0 => z
  | r + 1 => lwR κ z r + (κ 3 r 7 + (if κ 3 r 3 = 1 then 4 else 0))
theorem aside_ix {κ : gMem} {b s : Nat} (h : gM κ) (hb : b < 6) (hs : s < 12) : sAside κ b s = nI (wv κ b s) := by
  rw [sAside, wv]
  by_cases ho : κ 14 b s < 0
  · rw [if_pos ho, if_pos ho]; rfl
  · rw [if_neg ho, if_neg ho]; exact ((h.2.2.2.1 b s hb hs).resolve_left ho).1
theorem lwT_at {κ : gMem} {s a : Nat} (h : gM κ) (hs : s < 12) : ∀ b, b ≤ 6 → lwT κ s (nI a) b = nI (a + (tN (κ 5 s 3) + tN (κ 5 s 4)) + nsum (fun b => wv κ b s) b)
  | 0, _ => by
    obtain ⟨e3, e4⟩ := h.2.1 s hs
    show nI a + (κ 5 s 3 + κ 5 s 4) = nI (a + (tN (κ 5 s 3) + tN (κ 5 s 4)) + 0)
    rw [e3.1, e4.1, nI_add, nI_add, tN_nI (by have := e3.2; omega), tN_nI (by have := e4.2; omega)]; rfl
  | b + 1, hb => by rw [lwT, lwT_at h hs b (by omega), aside_ix h (show b < 6 by omega) hs, nI_add]; exact congrArg nI (Nat.add_assoc _ _ _)
theorem lwS_at {κ : gMem} (h : gM κ) : ∀ s, s ≤ 12 → lwS κ s = nI (tN (κ 7 0 5) + nsum (sv κ) s)
  | 0, _ => h.1.1
  | s + 1, hs => by
    have es : nsum (sv κ) (s + 1) = nsum (sv κ) s + (tN (κ 5 s 3) + tN (κ 5 s 4) + nsum (fun b => wv κ b s) 6) := rfl
    rw [lwS, lwS_at h s (by omega), lwT_at h (show s < 12 by omega) 6 (Nat.le_refl _), es]; exact congrArg nI (by omega)
theorem lwB_at {κ : gMem} {a : Nat} (h : gM κ) : ∀ b, b ≤ 6 → lwB κ (nI a) b = nI (a + nsum (bv κ) b)
  | 0, _ => rfl
  | b + 1, hb => by
    rw [lwB, lwB_at h b (by omega), (h.2.2.1 b (by omega)).1, nI_add, nsum]; exact congrArg nI (Nat.add_assoc _ _ _)
theorem lwR_at {κ : gMem} {a : Nat} (h : gM κ) : ∀ r, r ≤ tN (κ 7 0 4) → lwR κ (nI a) r = nI (a + nsum (rv κ) r)
  | 0, _ => rfl
  | r + 1, hr => by
    have e : (if κ 3 r 3 = 1 then (4 : Int32) else 0) = nI (if κ 3 r 3 = 1 then 4 else 0) := by split <;> rfl
    rw [lwR, lwR_at h r (by omega), (h.2.2.2.2.1 r (by omega)).1, e, nI_add, nI_add, nsum]; exact congrArg nI (Nat.add_assoc _ _ _)
theorem sum_2400 {κ : gMem} (h : gM κ) : lwR κ (lwB κ (lwS κ 12) 6) (tN (κ 7 0 4)) = 2400 := by
  rw [lwS_at h 12 (Nat.le_refl _), lwB_at h 6 (Nat.le_refl _), lwR_at h _ (Nat.le_refl _)]
  have := h.2.2.2.2.2
  rw [tot] at this
  rw [this]; rfl
theorem aside_400 {κ : gMem} {b s : Nat} (h : gN κ) (hb : b < 6) (hs : s < 12) : ixL (sAside κ b s) 401 := by
  rw [aside_ix h.1 hb hs]
  refine ixL.nI ?_ (by decide)
  rw [wv]
  split
  · decide
  · rename_i ho
    have := ((h.2.1 b s hb hs).resolve_left ho).1
    omega
