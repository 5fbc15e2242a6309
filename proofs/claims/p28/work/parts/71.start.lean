/-! ===== the start: a new class, new arrays ===== -/
theorem gm_t_8 {f k t : Nat} (h : gm_t f k = t) (ht : 20 ≤ t) : f = 8 := by
  rcases (by omega : f = 0 ∨ f = 1 ∨ f = 2 ∨ f = 3 ∨ f = 4 ∨ f = 5 ∨ f = 6 ∨ f = 7 ∨ f = 8 ∨ f = 9 ∨ f = 10 ∨ f = 11 ∨ f = 12 ∨ f = 13 ∨ f = 14 ∨ 15 ≤ f) with rfl | rfl | rfl | rfl | rfl | rfl | rfl | rfl | rfl | rfl | rfl | rfl | rfl | rfl | rfl | hb
  · have e : gm_t 0 k ≤ 18 := (by show (if k = 0 then 18 else 0) ≤ 18; first | omega | ((repeat' split) <;> omega))
    omega
  · have e : gm_t 1 k ≤ 18 := (by show (if k = 1 then 15 else 0) ≤ 18; first | omega | ((repeat' split) <;> omega))
    omega
  · have e : gm_t 2 k ≤ 18 := (by show (if k = 0 then 2 else if k = 1 then 17 else 0) ≤ 18; first | omega | ((repeat' split) <;> omega))
    omega
  · have e : gm_t 3 k ≤ 18 := (by show (if k = 0 then 6 else if k = 5 then 16 else if k = 9 then 3 else 0) ≤ 18; first | omega | ((repeat' split) <;> omega))
    omega
  · have e : gm_t 4 k ≤ 18 := (by show (if k = 1 then 5 else 0) ≤ 18; first | omega | ((repeat' split) <;> omega))
    omega
  · have e : gm_t 5 k ≤ 18 := (by show (if k = 1 then 5 else 0) ≤ 18; first | omega | ((repeat' split) <;> omega))
    omega
  · have e : gm_t 6 k ≤ 18 := (by show (0) ≤ 18; first | omega | ((repeat' split) <;> omega))
    omega
  · have e : gm_t 7 k ≤ 18 := (by show (if k < 4 then 11 + k else 0) ≤ 18; first | omega | ((repeat' split) <;> omega))
    omega
  · rfl
  · have e : gm_t 9 k ≤ 18 := (by show (0) ≤ 18; first | omega | ((repeat' split) <;> omega))
    omega
  · have e : gm_t 10 k ≤ 18 := (by show (5) ≤ 18; first | omega | ((repeat' split) <;> omega))
    omega
  · have e : gm_t 11 k ≤ 18 := (by show (6) ≤ 18; first | omega | ((repeat' split) <;> omega))
    omega
  · have e : gm_t 12 k ≤ 18 := (by show (2) ≤ 18; first | omega | ((repeat' split) <;> omega))
    omega
  · have e : gm_t 13 k ≤ 18 := (by show (4) ≤ 18; first | omega | ((repeat' split) <;> omega))
    omega
  · have e : gm_t 14 k ≤ 18 := (by show (7) ≤ 18; first | omega | ((repeat' split) <;> omega))
    omega
  · rw [gm_t_big hb] at h; omega
theorem cP_gk : ∀ x ∈ iU 6, ∀ k, k < gm_n x.1 → gk (cP 6 12 6) x.1 x.2 k = cP 6 12 6 x.1 x.2 k := by
  rintro ⟨f, i⟩ hx k hk
  dsimp only at hk ⊢
  have hz := (iU_m 6).mp hx
  rw [iS_m, iR_m, iB_m] at hz
  dsimp only at hz
  rcases (show f = 7 ∨ f = 10 ∨ f = 11 ∨ f = 12 ∨ f = 13 ∨ f = 4 ∨ f = 5 ∨ f = 1 ∨ f = 14 by omega) with rfl | rfl | rfl | rfl | rfl | rfl | rfl | rfl | rfl
  · have hk : k < 8 := hk
    rcases (by omega : k = 0 ∨ k = 1 ∨ k = 2 ∨ k = 3 ∨ k = 4 ∨ k = 5 ∨ k = 6 ∨ k = 7) with rfl | rfl | rfl | rfl | rfl | rfl | rfl | rfl <;> rfl
  · have hk : k < 6 := hk
    show nI k = (if k < 6 then nI k else -1)
    rw [if_pos hk]
  · have hk : k < 12 := hk
    show nI k = (if k < 12 then nI k else -1)
    rw [if_pos hk]
  · have hk : k < 6 := hk
    show nI k = (if k < 6 then nI k else -1)
    rw [if_pos hk]
  · rfl
  · have hk : k < 4 := hk
    rcases (by omega : k = 0 ∨ k = 1 ∨ k = 2 ∨ k = 3) with rfl | rfl | rfl | rfl <;> rfl
  · have hk : k < 7 := hk
    rcases (by omega : k = 0 ∨ k = 1 ∨ k = 2 ∨ k = 3 ∨ k = 4 ∨ k = 5 ∨ k = 6) with rfl | rfl | rfl | rfl | rfl | rfl | rfl <;> rfl
  · have hk : k < 2 := hk
    rcases (by omega : k = 0 ∨ k = 1) with rfl | rfl <;> rfl
  · rfl
theorem iU_C : cV (iU 6) := by
  intro f i hi
  have h : (f, i) ∈ iU 6 := by
    rw [iU_m, iS_m, iR_m, iB_m]
    dsimp only
    by_cases h9 : f = 7 ∨ f = 4 ∨ f = 5 ∨ f = 1 ∨ f = 10 ∨ f = 11 ∨ f = 12 ∨ f = 13 ∨ f = 14
    · rcases h9 with rfl | rfl | rfl | rfl | rfl | rfl | rfl | rfl | rfl
      · have hi : i < 1 := hi
        omega
      · have hi : i < 6 := hi
        omega
      · have hi : i < 12 := hi
        omega
      · have hi : i < 6 := hi
        omega
      · have hi : i < 1 := hi
        omega
      · have hi : i < 1 := hi
        omega
      · have hi : i < 1 := hi
        omega
      · have hi : i < 1 := hi
        omega
      · have hi : i < 6 := hi
        omega
    · have h0 : fixC f = 0 := by
        rw [fixC, if_neg (by omega), if_neg (by omega), if_neg (by omega), if_neg (by omega), if_neg (by omega), if_neg (by omega), if_neg (by omega), if_neg (by omega), if_neg (by omega)]
      rw [h0] at hi
      exact absurd hi (Nat.not_lt_zero _)
  exact h
def kS : gMem := fun f i k => if 20 ≤ f then 0 else cP 6 12 6 f i k
def iA : gIds := ((iU 6 ++ [(20, 0)]) ++ [(21, 0)]) ++ [(22, 0)]
theorem iA_in {x : Nat × Nat} (h : x ∈ iA) : x ∈ iU 6 ∨ x = (20, 0) ∨ x = (21, 0) ∨ x = (22, 0) := by
  rcases List.mem_append.mp h with h | h
  · rcases List.mem_append.mp h with h | h
    · rcases List.mem_append.mp h with h | h
      · exact Or.inl h
      · exact Or.inr (Or.inl (List.mem_singleton.mp h))
    · exact Or.inr (Or.inr (Or.inl (List.mem_singleton.mp h)))
  · exact Or.inr (Or.inr (Or.inr (List.mem_singleton.mp h)))
theorem kS_lo {f i k : Nat} (h : f < 20) : kS f i k = cP 6 12 6 f i k := if_neg (by omega)
theorem kS_conv : ∀ x ∈ iA, ∀ k, k < gm_n x.1 → gk kS x.1 x.2 k = updR (updR (updR (gk (cP 6 12 6)) 20 0 (fun _ => 0)) 21 0 (fun _ => 0)) 22 0 (fun _ => 0) x.1 x.2 k := by
  rintro ⟨f, i⟩ hx k hk
  dsimp only at hk ⊢
  rcases iA_in hx with h | h | h | h
  · have hf := iU_no h
    dsimp only at hf
    have e : gk kS f i k = gk (cP 6 12 6) f i k := by
      cases ho : gOwn f i k with
      | some x => rw [gk_o ho, gk_o ho]
      | none => rw [gk_n ho, gk_n ho, kS_lo (by omega)]
    rw [e, updR_far (by omega), updR_far (by omega), updR_far (by omega)]
  · cases h; rfl
  · cases h; rfl
  · cases h; rfl
def mS : gMem := fun f _ k => if f = 25 then nI (k % 6) else if f = 26 then 100 else if f = 28 then 1 else if f = 29 then -1 else if f = 30 then 200 else if f = 45 then -1 else 0
theorem kS_rel : Rel kS mS := by
  have z0 : ixL 0 81 := ixL0 (by decide)
  have t0 : tN (0 : Int32) = 0 := by decide +kernel
  have c704 : kS 7 0 4 = 0 := rfl
  have n0 : tN (kS 7 0 4) = 0 := by rw [c704]; exact t0
  have c41 : ∀ k, k ≠ 0 → kS 4 k 1 = 0 := fun k hk => by show (if k = 0 then (-1 : Int32) else 0) = 0; rw [if_neg hk]
  refine ⟨⟨rfl, ixL0 (by decide), rfl, rfl, z0⟩, fun k hk => ⟨fun h0 => ?_, rfl, rfl, ixL0 (by omega), ixL0 (by omega), ?_⟩, fun k hk => ⟨rfl, ixL.nI (by omega) (by decide), rfl, ixL.nI (j := 1) (by decide) (by decide), ?_, rfl, rfl, rfl⟩, fun k hk => ?_, fun b hb => rfl, fun b k _ _ => Or.inl ⟨rfl, rfl, rfl⟩, fun r hr => by rw [n0] at hr; omega, fun r _ hr => ⟨rfl, rfl, fun b _ => rfl, fun k _ => rfl⟩⟩
  · rw [c41 k h0]; exact ⟨rfl, ixL0 (by omega)⟩
  · rw [sLost, show kS 4 k 2 = 0 from rfl, if_pos (by decide)]; rfl
  · show ¬ (1 : Int32) = 0; decide
  · rw [rC, n0, sCuts]; rfl
theorem kS_tot : tot kS = 2400 := by decide +kernel
theorem kS_N : gN kS := by
  have t0 : tN (0 : Int32) = 0 := by decide +kernel
  have n0 : tN (kS 7 0 4) = 0 := t0
  exact ⟨⟨ixL0 (by omega), fun s _ => ⟨ixL.nI (j := 100) (by decide) (by decide), ixL0 (by omega)⟩, fun b _ => ixL.nI (j := 200) (by decide) (by decide), fun b s _ _ => Or.inl (by show (-1 : Int32) < 0; decide), fun r hr => by rw [n0] at hr; omega, kS_tot⟩, fun b s _ _ => Or.inl (by show (-1 : Int32) < 0; decide), fun s _ => Or.inl rfl, fun r hr => by rw [n0] at hr; omega⟩
theorem start_PL : PL 62 0 iA kS := by
  have z0 : ixL 0 81 := ixL0 (by decide)
  have t0 : tN (0 : Int32) = 0 := by decide +kernel
  have n0 : tN (kS 7 0 4) = 0 := t0
  have u : ∀ x, x ∈ iU 6 → x ∈ iA := fun x h => List.mem_append_left _ (List.mem_append_left _ (List.mem_append_left _ h))
  have no : ∀ f r, f = 3 ∨ f = 15 ∨ f = 2 ∨ f = 16 ∨ f = 0 ∨ f = 17 → ¬ (f, r) ∈ iA := fun f r hf h => by
    rcases iA_in h with q | q | q | q
    · have := iU_no q
      dsimp only at this
      omega
    · have := congrArg Prod.fst q; dsimp only at this; omega
    · have := congrArg Prod.fst q; dsimp only at this; omega
    · have := congrArg Prod.fst q; dsimp only at this; omega
  have lo : ∀ f r, f < 20 → (f, r) ∈ iA → (f, r) ∈ iU 6 := fun f r hf h => by
    rcases iA_in h with q | q | q | q
    · exact q
    · have := congrArg Prod.fst q; dsimp only at this; omega
    · have := congrArg Prod.fst q; dsimp only at this; omega
    · have := congrArg Prod.fst q; dsimp only at this; omega
  have c41 : ∀ k, k ≠ 0 → kS 4 k 1 = 0 := fun k hk => by show (if k = 0 then (-1 : Int32) else 0) = 0; rw [if_neg hk]
  refine ⟨⟨fun f i hi => u _ (iU_C f i hi), ⟨z0, fun r hr => by rw [n0] at hr; omega, fun r _ => rfl, rfl, fun k hk h0 => by rw [c41 k h0]; exact ixL0 (by omega), fun k hk => (ixL.nI (j := k % 6) (by omega) (by decide) : ixL (nI (k % 6)) 6), fun b k _ _ => Or.inl rfl⟩, ⟨fun b h => ?_, fun r h => ?_, fun r h => absurd h (no _ _ (by omega)), fun r h => absurd h (no _ _ (by omega)), fun r h => absurd h (no _ _ (by omega)), fun r h => absurd h (no _ _ (by omega)), fun r h => no _ _ (by omega) h, fun r h => no _ _ (by omega) h⟩, ⟨mS, kS_rel⟩, kS_N⟩, ⟨rfl, rfl, fun s hs => ?_, fun r hr => by rw [n0] at hr; omega⟩, ⟨?_, ?_, ?_⟩, by rw [n0]; omega, ?_⟩
  · have := iU_no (lo _ _ (by decide) h)
    dsimp only at this
    omega
  · have q := lo _ _ (by decide) h
    rw [iU_m, iS_m, iR_m, iB_m] at q
    dsimp only at q
    omega
  · show (0 : Int32) = -1 + 1; decide
  · exact List.mem_append_left _ (List.mem_append_left _ (List.mem_append_right _ List.mem_cons_self))
  · exact List.mem_append_left _ (List.mem_append_right _ List.mem_cons_self)
  · exact List.mem_append_right _ List.mem_cons_self
  · show tN (0 : Int32) ≤ 0; rw [t0]; exact Nat.le_refl _
