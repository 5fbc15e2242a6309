/-! ===== the law's steps: what a call leaves ===== -/
theorem or3_0 {t : Int32} {P Q R : Prop} (h : (t = 0 ∧ P) ∨ (t = 1 ∧ Q) ∨ (t = 3 ∧ R)) (h0 : t = 0) : P := by
  rcases h with h | h | h
  · exact h.2
  · exact absurd (h0.symm.trans h.1) (by decide)
  · exact absurd (h0.symm.trans h.1) (by decide)
theorem or3_1 {t : Int32} {P Q R : Prop} (h : (t = 0 ∧ P) ∨ (t = 1 ∧ Q) ∨ (t = 3 ∧ R)) (h0 : t = 1) : Q := by
  rcases h with h | h | h
  · exact absurd (h0.symm.trans h.1) (by decide)
  · exact h.2
  · exact absurd (h0.symm.trans h.1) (by decide)
theorem or3_3 {t : Int32} {P Q R : Prop} (h : (t = 0 ∧ P) ∨ (t = 1 ∧ Q) ∨ (t = 3 ∧ R)) (h0 : t = 3) : R := by
  rcases h with h | h | h
  · exact absurd (h0.symm.trans h.1) (by decide)
  · exact absurd (h0.symm.trans h.1) (by decide)
  · exact h.2
theorem mIn_n {x m : Nat} (h : x ≤ m) (hm : m < 1000000) : ¬ mIn (nI x) 0 (nI m) = 0 := mIn_ok (nI_pos (by omega)) (not_gt (n := m) (ixL.nI (by omega) (by omega)) (by omega))
theorem mIn_r {ids : gIds} {κ : gMem} {r : Nat} (J : CI ids κ) (h : r < tN (κ 7 0 4)) : ¬ mIn (nI r) 0 (κ 7 0 4 - 1) = 0 := by
  have hn := J.n
  refine mIn_ok (nI_pos (by have := hn.2; omega)) ?_
  rw [hn.1]
  exact rd_lt (by have := hn.2; omega) ((nI_ltI (by have := hn.2; omega) (by have := hn.2; omega)).mpr h)
/-! a reading -/
theorem tellT_at {κ : gMem} {t y : Nat} (ht : t < 12) (hy : y < 100) : sTellT κ (nI t) (nI y) = if κ 5 t 3 < 20 then 3 else if κ 5 t 6 = κ 7 0 6 then 3 else if κ 7 0 4 < 80 then 0 else 3 := by
  have e1 : ¬ mIn (nI t) 0 11 = 0 := mIn_n (m := 11) (by omega) (by decide)
  have e2 : ¬ mIn (nI y) 0 99 = 0 := mIn_n (m := 99) (by omega) (by decide)
  rw [sTellT, if_neg e1, if_neg e2, tN_nI (by omega)]
/-- how many windows have something left -/
def lwO (κ : gMem) (s : Nat) : Nat → Int32
  | 0 => 0
  | k + 1 => lwO κ s k + (if sAside κ k s ≤ 0 then 0 else 1)
theorem lwO_at {ids : gIds} {κ : gMem} {s : Nat} (J : CI ids κ) (hs : s < 12) (ht : ¬ κ 5 s 6 = κ 7 0 6) : ∀ n, n ≤ 6 → lwO κ s n = nI (nsum (fun b => if κ 14 b s < 0 then 0 else 1) n)
  | 0, _ => rfl
  | n + 1, hn => by
    rw [lwO, lwO_at J hs ht n (by omega), nsum, ← nI_add]
    rcases aside_pos J hs (show n < 6 by omega) ht with h | ⟨h, h2⟩
    · rw [if_pos h, aside_closed h, if_pos (Int32.le_refl _)]; rfl
    · rw [if_neg h, if_neg h2]; rfl
theorem PL.tell {N B : Nat} {ids : gIds} {κ : gMem} {t y r T : Nat} (J : PL N B ids κ) (ht : t < 12) (hy : y < 100) (hT : sTellT κ (nI t) (nI y) = 0) (er : tN (κ 7 0 4) = r) (eT : tN (κ 7 0 6) = T) :
    ∃ S : Nat, (S = 0 ∨ S = 4) ∧ sTellK κ t r (nI y) 3 r 3 = nI S ∧ CI ((ids ++ [(3, r)]) ++ [(15, r)]) (sTellK κ t r (nI y)) ∧ sTellK κ t r (nI y) 7 0 4 = nI (r + 1) ∧ sTellK κ t r (nI y) 21 0 0 = nI T ∧ sTellK κ t r (nI y) 21 0 1 = nI r ∧
      PL (N + 1) B ((ids ++ [(3, r)]) ++ [(15, r)]) (upd3 (upd3 (upd3 (sTellK κ t r (nI y)) 22 0 t (nI T + 1)) 20 0 r (nI (enc T S y t))) 21 0 1 (nI (r + 1))) ∧
      sTellK κ t r (nI y) 3 r 6 = (if S = 0 then lwO κ t 6 else 0) ∧ sTellK κ t r (nI y) 3 r 7 = asd κ t 6 - asd (sTellK κ t r (nI y)) t 6 := by
  obtain ⟨J1, J2, J3, J4, J5⟩ := J
  obtain ⟨o1, o2, o3, o4, o5, o6, o7, o8, o9⟩ := op_tell J1 hT er (tN_nI (show t < 2 ^ 31 by omega))
  have hq : mEq κ (sTellK κ t r (nI y)) := eq_tell κ t r (nI y)
  have hTt := tell_T hT
  rw [tN_nI (by omega)] at hTt
  have hT7 : κ 7 0 6 = nI T := by rw [← eT]; exact J1.T.1
  have hn7 : κ 7 0 4 = nI r := by rw [← er]; exact J1.n.1
  have h81 := J1.n.2
  have h01 := J1.T.2
  obtain ⟨κ2, ek⟩ : ∃ κ2, sTellK κ t r (nI y) = κ2 := ⟨_, rfl⟩
  rw [ek] at o1 o2 o3 o4 o5 o6 o7 o8 o9 hq ⊢
  have q0 : κ2 21 0 0 = nI T := (hq _ _ _ (Or.inr (by decide))).trans (J2.1.trans hT7)
  have q1 : κ2 21 0 1 = nI r := (hq _ _ _ (Or.inr (by decide))).trans (J2.2.1.trans hn7)
  have key : ∀ S : Nat, (S = 0 ∨ S = 4) → κ2 3 r 3 = nI S → (S = 0 → κ2 3 r 4 = κ 7 0 6 + 4) → PL (N + 1) B ((ids ++ [(3, r)]) ++ [(15, r)]) (upd3 (upd3 (upd3 κ2 22 0 t (nI T + 1)) 20 0 r (nI (enc T S y t))) 21 0 1 (nI (r + 1))) := by
    intro S hS e3 e4
    have e74 : upd3 (upd3 (upd3 κ2 22 0 t (nI T + 1)) 20 0 r (nI (enc T S y t))) 21 0 1 (nI (r + 1)) 7 0 4 = nI (r + 1) := o2
    have e76 : upd3 (upd3 (upd3 κ2 22 0 t (nI T + 1)) 20 0 r (nI (enc T S y t))) 21 0 1 (nI (r + 1)) 7 0 6 = nI T := o3.trans hT7
    refine ⟨((o1.w (Or.inr (Or.inr rfl))).w (Or.inl rfl)).w (Or.inr (Or.inl rfl)), ⟨?_, ?_, fun s hs => ?_, fun q hq' => ?_⟩, ⟨List.mem_append_left _ (List.mem_append_left _ J3.1), List.mem_append_left _ (List.mem_append_left _ J3.2.1), List.mem_append_left _ (List.mem_append_left _ J3.2.2)⟩, ?_, ?_⟩
    · rw [e76, upd3_k (by decide), upd3_f (by decide), upd3_f (by decide)]; exact q0
    · rw [e74, upd3_s]
    · have e5 : upd3 (upd3 (upd3 κ2 22 0 t (nI T + 1)) 20 0 r (nI (enc T S y t))) 21 0 1 (nI (r + 1)) 5 s 6 = κ2 5 s 6 := rfl
      rw [e5, upd3_f (by decide), upd3_f (by decide)]
      by_cases e : s = t
      · subst e; rw [upd3_s, o4, hT7]
      · rw [upd3_k e, hq _ _ _ (Or.inr (by decide)), o5 s e]; exact J2.2.2.1 s hs
    · rw [e74, tN_nI (by omega)] at hq'
      by_cases e : q = r
      · subst e
        have e30 : upd3 (upd3 (upd3 κ2 22 0 t (nI T + 1)) 20 0 q (nI (enc T S y t))) 21 0 1 (nI (q + 1)) 3 q 0 = nI t := o7
        have e31 : upd3 (upd3 (upd3 κ2 22 0 t (nI T + 1)) 20 0 q (nI (enc T S y t))) 21 0 1 (nI (q + 1)) 3 q 1 = nI y := o8
        have e33 : upd3 (upd3 (upd3 κ2 22 0 t (nI T + 1)) 20 0 q (nI (enc T S y t))) 21 0 1 (nI (q + 1)) 3 q 3 = nI S := e3
        have e34 : upd3 (upd3 (upd3 κ2 22 0 t (nI T + 1)) 20 0 q (nI (enc T S y t))) 21 0 1 (nI (q + 1)) 3 q 4 = κ2 3 q 4 := rfl
        refine ⟨S, T, by omega, by rw [e76, tN_nI (by omega)]; exact Nat.le_refl _, ?_, ?_, fun z => ?_⟩
        · rw [e30, e31, tN_nI (by omega), tN_nI (by omega), upd3_f (by decide), upd3_s]
        · rw [e33, tN_nI (by omega)]; omega
        · rw [e33, tN_nI (by omega)] at z
          rw [e34, e4 (by omega), hT7]; exact nI_add T 4
      · have hqr : q < tN (κ 7 0 4) := by omega
        refine (J2.2.2.2 q hqr).to ?_ ?_ (o6 q 0 e) (o6 q 1 e) (o6 q 3 e) (o6 q 4 e)
        · rw [e76, tN_nI (by omega), eT]; exact Nat.le_refl _
        · rw [upd3_f (by decide), upd3_k e, upd3_f (by decide)]; exact hq _ _ _ (Or.inr (by decide))
    · rw [e74, tN_nI (by omega)]; omega
    · rw [e76, tN_nI (by omega)]; omega
  rcases o9 with ⟨p1, p2, p3, p4⟩ | ⟨p1, p2, p3, p4⟩
  · refine ⟨0, Or.inl rfl, p1, o1, o2, q0, q1, key 0 (Or.inl rfl) p1 (fun _ => p2), ?_, ?_⟩
    · rw [p3, if_pos rfl]; exact (lwO_at J1 ht hTt 6 (Nat.le_refl _)).symm
    · rw [← p4]; grind
  · refine ⟨4, Or.inr rfl, p1, o1, o2, q0, q1, key 4 (Or.inr rfl) p1 (fun z => absurd z (by decide)), ?_, ?_⟩
    · rw [p2, if_neg (by decide)]
    · rw [p3, p4]; grind
/-! a window -/
theorem openT_at {κ : gMem} {b t D : Nat} (hb : b < 6) (ht : t < 12) (h1 : 1 ≤ D) (h2 : D ≤ 20) : sOpenT κ (nI b) (nI t) (nI D) = if κ 14 b t < 0 then (if κ 5 t 2 * nI D ≤ κ 1 b 0 then 0 else 3) else 3 := by
  have e1 : ¬ mIn (nI b) 0 5 = 0 := mIn_n (m := 5) (by omega) (by decide)
  have e2 : ¬ mIn (nI t) 0 11 = 0 := mIn_n (m := 11) (by omega) (by decide)
  have e3 : ¬ mIn (nI D) 1 20 = 0 := mIn_ok (fun z => by have := (nI_ltI (a := D) (b := 1) (by omega) (by decide)).mp z; omega) (not_gt (n := 20) (ixL.nI (by omega) (by decide)) (by decide))
  rw [sOpenT, if_neg e1, if_neg e2, if_neg e3, tN_nI (by omega), tN_nI (by omega)]
theorem openT_3 {κ : gMem} {b t D : Nat} (hb : b < 6) (ht : t < 12) (h1 : 1 ≤ D) (h2 : D ≤ 20) (h : ¬ sOpenT κ (nI b) (nI t) (nI D) = 0) : sOpenT κ (nI b) (nI t) (nI D) = 3 := by
  rw [openT_at hb ht h1 h2] at h ⊢
  split
  · rename_i ho
    rw [if_pos ho] at h
    split
    · rename_i hq; rw [if_pos hq] at h; exact absurd rfl h
    · rfl
  · rfl
theorem PL.opn {N B : Nat} {ids : gIds} {κ : gMem} {b t D : Nat} (J : PL N B ids κ) (hb : b < 6) (ht : t < 12) (h1 : 1 ≤ D) (h2 : D ≤ 20) (hT : sOpenT κ (nI b) (nI t) (nI D) = 0) :
    PL N B (gDrop ids (6, 12 * b + t) ++ [(6, 12 * b + t)]) (sOpenK κ b t (nI D)) ∧ sOpenK κ b t (nI D) 7 0 6 = κ 7 0 6 ∧ sOpenK κ b t (nI D) 21 0 0 = κ 7 0 6 ∧ sAside κ b t = 0 ∧ ∃ P : Nat, 1 ≤ P ∧ P ≤ 20 ∧ κ 1 b 0 - sOpenK κ b t (nI D) 1 b 0 = nI (P * D) ∧ sAside (sOpenK κ b t (nI D)) b t = nI (P * D) := by
  obtain ⟨J1, J2, J3, J4, J5⟩ := J
  have o := op_open J1 hT
  rw [tN_nI (by omega), tN_nI (by omega)] at o
  obtain ⟨o1, o2, o3, o4, P, D', o5, o6, o7, o8, o9, o10, o11⟩ := o
  obtain rfl : D = D' := nI_inj o7 (by omega) (by omega)
  have hq : mEq κ (sOpenK κ b t (nI D)) := eq_opn κ b t (nI D)
  have q0 : sOpenK κ b t (nI D) 21 0 0 = κ 7 0 6 := (hq _ _ _ (Or.inr (by decide))).trans J2.1
  have m : ∀ f, 20 ≤ f → (f, 0) ∈ ids → (f, 0) ∈ gDrop ids (6, 12 * b + t) ++ [(6, 12 * b + t)] := fun f hf h => List.mem_append_left _ (gDrop_m.mpr ⟨h, fun z => by have := congrArg Prod.fst z; dsimp only at this; omega⟩)
  refine ⟨⟨o1, J2.ev o2 (by rw [o3]; exact Nat.le_refl _) (fun r => hq _ _ _ (Or.inr (by decide))) (by rw [o3]; exact q0) (hq _ _ _ (Or.inr (by decide))) (fun s => hq _ _ _ (Or.inr (by decide))), ⟨m 20 (by decide) J3.1, m 21 (by decide) J3.2.1, m 22 (by decide) J3.2.2⟩, by rw [o2.1]; exact J4, by rw [o3]; exact J5⟩, o3, q0, o4, P, o5, o6, o10, o11⟩
/-! a challenge -/
theorem PL.fr {N B : Nat} {ids : gIds} {κ : gMem} (J : PL N B ids κ) (x : Int32) (hx : tN x < tN (κ 7 0 4)) (h0 : κ 3 (tN x) 3 = 0) : κ 3 (tN x) 9 < 0 := by
  obtain ⟨μ, h⟩ := J.1.2.2.2.1
  rcases (h.rd hx).2.2 with w | w
  · rw [w.1]; decide
  · exact absurd h0 w.2.1
theorem chalT_at {ids : gIds} {κ : gMem} {b r : Nat} (J : CI ids κ) (hb : b < 6) (hr : r < tN (κ 7 0 4)) : sChallengeT κ (nI b) (nI r) = if κ 3 r 3 = 0 then (if 4 ≤ κ 1 b 0 then 0 else 3) else 3 := by
  have hn := J.n
  have e1 : ¬ mIn (nI b) 0 5 = 0 := mIn_n (m := 5) (by omega) (by decide)
  rw [sChallengeT, if_neg e1, if_neg (mIn_r J hr), tN_nI (by have := hn.2; omega), tN_nI (by omega)]
theorem PL.chal {N B : Nat} {ids : gIds} {κ : gMem} {b r s v T : Nat} (J : PL N B ids κ) (hr : r < tN (κ 7 0 4)) (hb : b < 6) (hT : sChallengeT κ (nI b) (nI r) = 0) (e0 : κ 3 r 0 = nI s) (e1 : κ 3 r 1 = nI v) (hs : s < 12) (hv : v < 100) (eT : tN (κ 7 0 6) = T) :
    CI ((ids ++ [(2, r)]) ++ [(16, r)]) (sChallengeK κ b r) ∧ sChallengeK κ b r 20 0 r = κ 20 0 r ∧ sChallengeK κ b r 21 0 0 = nI T ∧ PL N B ((ids ++ [(2, r)]) ++ [(16, r)]) (upd3 (sChallengeK κ b r) 20 0 r (nI (enc T 1 v s))) ∧ sChallengeK κ b r 1 b 0 = κ 1 b 0 - 4 ∧ sChallengeK κ b r 3 r 3 = 1 ∧ sMidA (sChallengeK κ b r) r = -1 := by
  obtain ⟨J1, J2, J3, J4, J5⟩ := J
  have h81 := J1.n.2
  have h01 := J1.T.2
  have o := op_challenge J1 hT
  rw [tN_nI (by omega), tN_nI (by omega)] at o
  obtain ⟨o1, o2, o3, o4, o5, o6, o7, o8, o9, o10⟩ := o
  have hq : mEq κ (sChallengeK κ b r) := eq_challenge κ b r
  have hT7 : κ 7 0 6 = nI T := by rw [← eT]; exact J1.T.1
  obtain ⟨κ2, ek⟩ : ∃ κ2, sChallengeK κ b r = κ2 := ⟨_, rfl⟩
  rw [ek] at o1 o3 o4 o5 o6 o7 o8 o9 o10 hq ⊢
  have q0 : κ2 21 0 0 = nI T := (hq _ _ _ (Or.inr (by decide))).trans (J2.1.trans hT7)
  refine ⟨o1, hq _ _ _ (Or.inr (by decide)), q0, ⟨o1.w (Or.inl rfl), ⟨?_, ?_, fun t ht => ?_, fun q hq' => ?_⟩, ⟨List.mem_append_left _ (List.mem_append_left _ J3.1), List.mem_append_left _ (List.mem_append_left _ J3.2.1), List.mem_append_left _ (List.mem_append_left _ J3.2.2)⟩, ?_, ?_⟩, o6, o7, o9⟩
  · rw [upd3_f (by decide), upd3_f (by decide), o4, hT7]; exact q0
  · rw [upd3_f (by decide), upd3_f (by decide), o3, hq _ _ _ (Or.inr (by decide))]; exact J2.2.1
  · rw [upd3_f (by decide), upd3_f (by decide), o5, hq _ _ _ (Or.inr (by decide))]; exact J2.2.2.1 t ht
  · rw [upd3_f (by decide), o3] at hq'
    by_cases e : q = r
    · subst e
      have e30 : upd3 κ2 20 0 q (nI (enc T 1 v s)) 3 q 0 = nI s := (o10 q 0 (Or.inr (Or.inl rfl))).trans e0
      have e31 : upd3 κ2 20 0 q (nI (enc T 1 v s)) 3 q 1 = nI v := (o10 q 1 (Or.inr (Or.inr rfl))).trans e1
      have e33 : upd3 κ2 20 0 q (nI (enc T 1 v s)) 3 q 3 = nI 1 := o7
      have e34 : upd3 κ2 20 0 q (nI (enc T 1 v s)) 3 q 4 = κ 7 0 6 + 4 := o8
      have e76 : upd3 κ2 20 0 q (nI (enc T 1 v s)) 7 0 6 = nI T := o4.trans hT7
      refine ⟨1, T, by decide, by rw [e76, tN_nI (by omega)]; exact Nat.le_refl _, ?_, ?_, fun z => ?_⟩
      · rw [e30, e31, tN_nI (by omega), tN_nI (by omega), upd3_s]
      · rw [e33, tN_nI (by decide)]; decide
      · rw [e34, hT7]; exact nI_add T 4
    · refine (J2.2.2.2 q hq').to ?_ ?_ (o10 q 0 (Or.inl e)) (o10 q 1 (Or.inl e)) (o10 q 3 (Or.inl e)) (o10 q 4 (Or.inl e))
      · have e76 : upd3 κ2 20 0 r (nI (enc T 1 v s)) 7 0 6 = κ 7 0 6 := o4
        rw [e76]; exact Nat.le_refl _
      · rw [upd3_k e]; exact hq _ _ _ (Or.inr (by decide))
  · rw [upd3_f (by decide), o3]; exact J4
  · rw [upd3_f (by decide), o4]; exact J5
/-! a sample -/
theorem smpT_at {ids : gIds} {κ : gMem} {a r w : Nat} (J : CI ids κ) (ha : a < 12) (hr : r < tN (κ 7 0 4)) (hw : w < 100) (h : ¬ sSampleT κ (nI a) (nI r) (nI w) = 0) : sSampleT κ (nI a) (nI r) (nI w) = 3 := by
  have hn := J.n
  have e1 : ¬ mIn (nI a) 0 11 = 0 := mIn_n (m := 11) (by omega) (by decide)
  have e3 : ¬ mIn (nI w) 0 99 = 0 := mIn_n (m := 99) (by omega) (by decide)
  rw [sSampleT, if_neg e1, if_neg (mIn_r J hr), if_neg e3] at h ⊢
  repeat' split
  all_goals first | rfl | (exfalso; apply h; simp only [*, if_true, if_false, not_true, not_false_iff] <;> rfl)
theorem PL.smp {N B : Nat} {ids : gIds} {κ : gMem} {a r w s : Nat} (J : PL N B ids κ) (hr : r < tN (κ 7 0 4)) (ha : a < 12) (hw : w < 100) (hT : sSampleT κ (nI a) (nI r) (nI w) = 0) (e0 : κ 3 r 0 = nI s) (hs : s < 12) :
    PL N B ids (sSampleK κ a r (nI w)) ∧ κ 3 r 3 = 1 ∧ ¬ sNb (nI a) (nI s) = 0 ∧
    ((sSampleK κ a r (nI w) 3 r 3 = 1 ∧ sSampleK κ a r (nI w) 3 r 7 = κ 3 r 7 ∧ sSampleK κ a r (nI w) 5 s 4 = κ 5 s 4 ∧ sSampleK κ a r (nI w) 5 s 3 = κ 5 s 3) ∨
     (sSampleK κ a r (nI w) 3 r 3 = 2 ∧ sSampleK κ a r (nI w) 5 s 4 = κ 5 s 4 + κ 3 r 7 + 4 ∧ sSampleK κ a r (nI w) 5 s 3 = κ 5 s 3) ∨
     (sSampleK κ a r (nI w) 3 r 3 = 3 ∧ sSampleK κ a r (nI w) 5 s 4 = κ 5 s 4 ∧ ¬ κ 5 s 3 + (if κ 5 s 3 = 0 then 1 else 0) ≤ sSampleK κ a r (nI w) 5 s 3 ∧ ¬ sSampleK κ a r (nI w) 7 0 5 < κ 7 0 5)) := by
  obtain ⟨J1, J2, J3, J4, J5⟩ := J
  have h81 := J1.n.2
  have o := op_sample J1 hT
  have hnb : ¬ sNb (nI a) (nI s) = 0 := by
    have e1 : ¬ mIn (nI a) 0 11 = 0 := mIn_n (m := 11) (by omega) (by decide)
    have e3 : ¬ mIn (nI w) 0 99 = 0 := mIn_n (m := 99) (by omega) (by decide)
    obtain ⟨f1, f2, f3, f4, f5, f6⟩ := smp_f hT
    rw [tN_nI (by omega)] at f4 f5
    intro z
    rw [sSampleT, if_neg e1, if_neg f2, if_neg e3, tN_nI (by omega), if_neg f4, if_pos f5, e0, tN_nI (by omega), if_pos z] at hT
    exact absurd hT (by decide)
  rw [tN_nI (by omega), tN_nI (by omega), e0, tN_nI (by omega)] at o
  obtain ⟨o1, o2, o3, o4, o5, o6, o7⟩ := o
  have hq : mEq κ (sSampleK κ a r (nI w)) := eq_sample κ a r (nI w)
  refine ⟨⟨o1, J2.ev o2 (by rw [o6]; exact Nat.le_refl _) (fun q => hq _ _ _ (Or.inr (by decide))) (by rw [o6, hq _ _ _ (Or.inr (by decide))]; exact J2.1) (hq _ _ _ (Or.inr (by decide))) (fun q => hq _ _ _ (Or.inr (by decide))), J3, by rw [o2.1]; exact J4, by rw [o6]; exact J5⟩, o4, hnb, ?_⟩
  rcases o7 with ⟨p1, p2, p3⟩ | ⟨p1, p2, p3⟩ | ⟨p1, p2, p3, p4, p5⟩
  · exact Or.inl ⟨p1, p2, (p3 s).1, (p3 s).2⟩
  · exact Or.inr (Or.inl ⟨p1, p2, p3⟩)
  · refine Or.inr (Or.inr ⟨p1, p2, ?_, ?_⟩)
    · have b1 := (J1.2.2.2.2.1.2.1 s hs).1
      have b2 := (o1.2.2.2.2.1.2.1 s hs).1
      by_cases z : κ 5 s 3 = 0
      · rw [if_pos z, z]
        have hz : tN (κ 5 s 3) = 0 := by rw [z]; decide +kernel
        intro q
        have := (ix_le (x := 0 + 1) (ix_c 1 (n := 2) (by decide) (by decide)).1 b2 (by decide) (by decide)).mp q
        rw [show tN (0 + 1 : Int32) = 1 by decide +kernel] at this
        omega
      · rw [if_neg z, Int32.add_zero]
        intro q
        have := (ix_le b1 b2 (by decide) (by decide)).mp q
        have hz : 0 < tN (κ 5 s 3) := by
          rcases Nat.eq_zero_or_pos (tN (κ 5 s 3)) with w | w
          · exact absurd (by rw [b1.1, w]; rfl) z
          · exact w
        have := p3 hz
        omega
    · have b1 := J1.2.2.2.2.1.1
      have b2 := o1.2.2.2.2.1.1
      intro q
      have := (ix_lt b2 b1 (by decide) (by decide)).mp q
      omega
