theorem gm_t_i9 {f k : Nat} (h : gm_t f k = 9) : False := by
  rcases (by omega : f = 0 ∨ f = 1 ∨ f = 2 ∨ f = 3 ∨ f = 4 ∨ f = 5 ∨ f = 6 ∨ f = 7 ∨ f = 8 ∨ f = 9 ∨ f = 10 ∨ f = 11 ∨ f = 12 ∨ f = 13 ∨ f = 14 ∨ 15 ≤ f) with rfl | rfl | rfl | rfl | rfl | rfl | rfl | rfl | rfl | rfl | rfl | rfl | rfl | rfl | rfl | hb
  · have e : gm_t 0 k = if k = 0 then 18 else 0 := rfl
    rw [e] at h
    by_cases k0 : k = 0
    · rw [if_pos k0] at h; omega
    · rw [if_neg k0] at h
      omega
  · have e : gm_t 1 k = if k = 1 then 15 else 0 := rfl
    rw [e] at h
    by_cases k0 : k = 1
    · rw [if_pos k0] at h; omega
    · rw [if_neg k0] at h
      omega
  · have e : gm_t 2 k = if k = 0 then 2 else if k = 1 then 17 else 0 := rfl
    rw [e] at h
    by_cases k0 : k = 0
    · rw [if_pos k0] at h; omega
    · rw [if_neg k0] at h
      by_cases k1 : k = 1
      · rw [if_pos k1] at h; omega
      · rw [if_neg k1] at h
        omega
  · have e : gm_t 3 k = if k = 0 then 6 else if k = 5 then 16 else if k = 9 then 3 else 0 := rfl
    rw [e] at h
    by_cases k0 : k = 0
    · rw [if_pos k0] at h; omega
    · rw [if_neg k0] at h
      by_cases k1 : k = 5
      · rw [if_pos k1] at h; omega
      · rw [if_neg k1] at h
        by_cases k2 : k = 9
        · rw [if_pos k2] at h; omega
        · rw [if_neg k2] at h
          omega
  · have e : gm_t 4 k = if k = 1 then 5 else 0 := rfl
    rw [e] at h
    by_cases k0 : k = 1
    · rw [if_pos k0] at h; omega
    · rw [if_neg k0] at h
      omega
  · have e : gm_t 5 k = if k = 1 then 5 else 0 := rfl
    rw [e] at h
    by_cases k0 : k = 1
    · rw [if_pos k0] at h; omega
    · rw [if_neg k0] at h
      omega
  · have e : gm_t 6 k = 0 := rfl
    omega
  · have e : gm_t 7 k = if k < 4 then 11 + k else 0 := rfl
    rw [e] at h
    by_cases k0 : k < 4
    · rw [if_pos k0] at h; omega
    · rw [if_neg k0] at h
      omega
  · have e : gm_t 8 k = if k = 0 then 0 else if k = 11 then 0 else if k = 16 then 0 else if k = 26 then 0 else 21 + k := rfl
    rw [e] at h
    by_cases k0 : k = 0
    · rw [if_pos k0] at h; omega
    · rw [if_neg k0] at h
      by_cases k1 : k = 11
      · rw [if_pos k1] at h; omega
      · rw [if_neg k1] at h
        by_cases k2 : k = 16
        · rw [if_pos k2] at h; omega
        · rw [if_neg k2] at h
          by_cases k3 : k = 26
          · rw [if_pos k3] at h; omega
          · rw [if_neg k3] at h
            omega
  · have e : gm_t 9 k = 0 := rfl
    omega
  · have e : gm_t 10 k = 5 := rfl
    omega
  · have e : gm_t 11 k = 6 := rfl
    omega
  · have e : gm_t 12 k = 2 := rfl
    omega
  · have e : gm_t 13 k = 4 := rfl
    omega
  · have e : gm_t 14 k = 7 := rfl
    omega
  · rw [gm_t_big hb] at h; omega
theorem gm_t_i19 {f k : Nat} (h : gm_t f k = 19) : False := by
  rcases (by omega : f = 0 ∨ f = 1 ∨ f = 2 ∨ f = 3 ∨ f = 4 ∨ f = 5 ∨ f = 6 ∨ f = 7 ∨ f = 8 ∨ f = 9 ∨ f = 10 ∨ f = 11 ∨ f = 12 ∨ f = 13 ∨ f = 14 ∨ 15 ≤ f) with rfl | rfl | rfl | rfl | rfl | rfl | rfl | rfl | rfl | rfl | rfl | rfl | rfl | rfl | rfl | hb
  · have e : gm_t 0 k = if k = 0 then 18 else 0 := rfl
    rw [e] at h
    by_cases k0 : k = 0
    · rw [if_pos k0] at h; omega
    · rw [if_neg k0] at h
      omega
  · have e : gm_t 1 k = if k = 1 then 15 else 0 := rfl
    rw [e] at h
    by_cases k0 : k = 1
    · rw [if_pos k0] at h; omega
    · rw [if_neg k0] at h
      omega
  · have e : gm_t 2 k = if k = 0 then 2 else if k = 1 then 17 else 0 := rfl
    rw [e] at h
    by_cases k0 : k = 0
    · rw [if_pos k0] at h; omega
    · rw [if_neg k0] at h
      by_cases k1 : k = 1
      · rw [if_pos k1] at h; omega
      · rw [if_neg k1] at h
        omega
  · have e : gm_t 3 k = if k = 0 then 6 else if k = 5 then 16 else if k = 9 then 3 else 0 := rfl
    rw [e] at h
    by_cases k0 : k = 0
    · rw [if_pos k0] at h; omega
    · rw [if_neg k0] at h
      by_cases k1 : k = 5
      · rw [if_pos k1] at h; omega
      · rw [if_neg k1] at h
        by_cases k2 : k = 9
        · rw [if_pos k2] at h; omega
        · rw [if_neg k2] at h
          omega
  · have e : gm_t 4 k = if k = 1 then 5 else 0 := rfl
    rw [e] at h
    by_cases k0 : k = 1
    · rw [if_pos k0] at h; omega
    · rw [if_neg k0] at h
      omega
  · have e : gm_t 5 k = if k = 1 then 5 else 0 := rfl
    rw [e] at h
    by_cases k0 : k = 1
    · rw [if_pos k0] at h; omega
    · rw [if_neg k0] at h
      omega
  · have e : gm_t 6 k = 0 := rfl
    omega
  · have e : gm_t 7 k = if k < 4 then 11 + k else 0 := rfl
    rw [e] at h
    by_cases k0 : k < 4
    · rw [if_pos k0] at h; omega
    · rw [if_neg k0] at h
      omega
  · have e : gm_t 8 k = if k = 0 then 0 else if k = 11 then 0 else if k = 16 then 0 else if k = 26 then 0 else 21 + k := rfl
    rw [e] at h
    by_cases k0 : k = 0
    · rw [if_pos k0] at h; omega
    · rw [if_neg k0] at h
      by_cases k1 : k = 11
      · rw [if_pos k1] at h; omega
      · rw [if_neg k1] at h
        by_cases k2 : k = 16
        · rw [if_pos k2] at h; omega
        · rw [if_neg k2] at h
          by_cases k3 : k = 26
          · rw [if_pos k3] at h; omega
          · rw [if_neg k3] at h
            omega
  · have e : gm_t 9 k = 0 := rfl
    omega
  · have e : gm_t 10 k = 5 := rfl
    omega
  · have e : gm_t 11 k = 6 := rfl
    omega
  · have e : gm_t 12 k = 2 := rfl
    omega
  · have e : gm_t 13 k = 4 := rfl
    omega
  · have e : gm_t 14 k = 7 := rfl
    omega
  · rw [gm_t_big hb] at h; omega
theorem cP_gk : ∀ x ∈ iU 6, ∀ k, k < gm_n x.1 → gk (cP 6 12 6) x.1 x.2 k = cP 6 12 6 x.1 x.2 k := by
  rintro ⟨f, i⟩ hx k hk
  dsimp only at hk ⊢
  have hz := (iU_m 6).mp hx
  rw [iS_m, iR_m, iB_m] at hz
  dsimp only at hz
  rcases (show f = 7 ∨ f = 10 ∨ f = 11 ∨ f = 12 ∨ f = 13 ∨ f = 4 ∨ f = 5 ∨ f = 1 ∨ f = 14 by omega) with rfl | rfl | rfl | rfl | rfl | rfl | rfl | rfl | rfl
  · have hk : k < 8 := hk
    rcases (by omega : k = 0 ∨ k = 1 ∨ k = 2 ∨ k = 3 ∨ k = 4 ∨ k = 5 ∨ k = 6 ∨ k = 7) with rfl | rfl | rfl | rfl | rfl | rfl | rfl | rfl <;> rfl
  · have hk : k < 6 := hk
    show nI k = (if k < 6 then nI k else -1)
    rw [if_pos hk]
  · have hk : k < 12 := hk
    show nI k = (if k < 12 then nI k else -1)
    rw [if_pos hk]
  · have hk : k < 6 := hk
    show nI k = (if k < 6 then nI k else -1)
    rw [if_pos hk]
  · rfl
  · have hk : k < 4 := hk
    rcases (by omega : k = 0 ∨ k = 1 ∨ k = 2 ∨ k = 3) with rfl | rfl | rfl | rfl <;> rfl
  · have hk : k < 7 := hk
    rcases (by omega : k = 0 ∨ k = 1 ∨ k = 2 ∨ k = 3 ∨ k = 4 ∨ k = 5 ∨ k = 6) with rfl | rfl | rfl | rfl | rfl | rfl | rfl <;> rfl
  · have hk : k < 2 := hk
    rcases (by omega : k = 0 ∨ k = 1) with rfl | rfl <;> rfl
  · rfl
theorem iU_only : cOnly (iU 6) := fun x hx => by have := iU_no hx; omega
theorem iM_of {ids : gIds} {x : Nat × Nat} (h : x ∈ ids) : x ∈ iM ids := by
  unfold iM
  repeat (refine List.mem_append_left _ ?_)
  exact h
theorem iM_f8 {ids : gIds} : (8, 0) ∈ iM ids := by
  unfold iM
  iterate 23 (refine List.mem_append_left _ ?_)
  exact List.mem_append_right _ List.mem_cons_self
theorem iM_f21 {ids : gIds} : (21, 0) ∈ iM ids := by
  unfold iM
  iterate 22 (refine List.mem_append_left _ ?_)
  exact List.mem_append_right _ List.mem_cons_self
theorem iM_f22 {ids : gIds} : (22, 0) ∈ iM ids := by
  unfold iM
  iterate 21 (refine List.mem_append_left _ ?_)
  exact List.mem_append_right _ List.mem_cons_self
theorem iM_f23 {ids : gIds} : (23, 0) ∈ iM ids := by
  unfold iM
  iterate 20 (refine List.mem_append_left _ ?_)
  exact List.mem_append_right _ List.mem_cons_self
theorem iM_f24 {ids : gIds} : (24, 0) ∈ iM ids := by
  unfold iM
  iterate 19 (refine List.mem_append_left _ ?_)
  exact List.mem_append_right _ List.mem_cons_self
theorem iM_f25 {ids : gIds} : (25, 0) ∈ iM ids := by
  unfold iM
  iterate 18 (refine List.mem_append_left _ ?_)
  exact List.mem_append_right _ List.mem_cons_self
theorem iM_f26 {ids : gIds} : (26, 0) ∈ iM ids := by
  unfold iM
  iterate 17 (refine List.mem_append_left _ ?_)
  exact List.mem_append_right _ List.mem_cons_self
theorem iM_f27 {ids : gIds} : (27, 0) ∈ iM ids := by
  unfold iM
  iterate 16 (refine List.mem_append_left _ ?_)
  exact List.mem_append_right _ List.mem_cons_self
theorem iM_f28 {ids : gIds} : (28, 0) ∈ iM ids := by
  unfold iM
  iterate 15 (refine List.mem_append_left _ ?_)
  exact List.mem_append_right _ List.mem_cons_self
theorem iM_f29 {ids : gIds} : (29, 0) ∈ iM ids := by
  unfold iM
  iterate 14 (refine List.mem_append_left _ ?_)
  exact List.mem_append_right _ List.mem_cons_self
theorem iM_f30 {ids : gIds} : (30, 0) ∈ iM ids := by
  unfold iM
  iterate 13 (refine List.mem_append_left _ ?_)
  exact List.mem_append_right _ List.mem_cons_self
theorem iM_f32 {ids : gIds} : (32, 0) ∈ iM ids := by
  unfold iM
  iterate 12 (refine List.mem_append_left _ ?_)
  exact List.mem_append_right _ List.mem_cons_self
theorem iM_f33 {ids : gIds} : (33, 0) ∈ iM ids := by
  unfold iM
  iterate 11 (refine List.mem_append_left _ ?_)
  exact List.mem_append_right _ List.mem_cons_self
theorem iM_f34 {ids : gIds} : (34, 0) ∈ iM ids := by
  unfold iM
  iterate 10 (refine List.mem_append_left _ ?_)
  exact List.mem_append_right _ List.mem_cons_self
theorem iM_f35 {ids : gIds} : (35, 0) ∈ iM ids := by
  unfold iM
  iterate 9 (refine List.mem_append_left _ ?_)
  exact List.mem_append_right _ List.mem_cons_self
theorem iM_f37 {ids : gIds} : (37, 0) ∈ iM ids := by
  unfold iM
  iterate 8 (refine List.mem_append_left _ ?_)
  exact List.mem_append_right _ List.mem_cons_self
theorem iM_f38 {ids : gIds} : (38, 0) ∈ iM ids := by
  unfold iM
  iterate 7 (refine List.mem_append_left _ ?_)
  exact List.mem_append_right _ List.mem_cons_self
theorem iM_f39 {ids : gIds} : (39, 0) ∈ iM ids := by
  unfold iM
  iterate 6 (refine List.mem_append_left _ ?_)
  exact List.mem_append_right _ List.mem_cons_self
theorem iM_f40 {ids : gIds} : (40, 0) ∈ iM ids := by
  unfold iM
  iterate 5 (refine List.mem_append_left _ ?_)
  exact List.mem_append_right _ List.mem_cons_self
theorem iM_f41 {ids : gIds} : (41, 0) ∈ iM ids := by
  unfold iM
  iterate 4 (refine List.mem_append_left _ ?_)
  exact List.mem_append_right _ List.mem_cons_self
theorem iM_f42 {ids : gIds} : (42, 0) ∈ iM ids := by
  unfold iM
  iterate 3 (refine List.mem_append_left _ ?_)
  exact List.mem_append_right _ List.mem_cons_self
theorem iM_f43 {ids : gIds} : (43, 0) ∈ iM ids := by
  unfold iM
  iterate 2 (refine List.mem_append_left _ ?_)
  exact List.mem_append_right _ List.mem_cons_self
theorem iM_f44 {ids : gIds} : (44, 0) ∈ iM ids := by
  unfold iM
  iterate 1 (refine List.mem_append_left _ ?_)
  exact List.mem_append_right _ List.mem_cons_self
theorem iM_f45 {ids : gIds} : (45, 0) ∈ iM ids := by
  unfold iM
  exact List.mem_append_right _ List.mem_cons_self
theorem iM_V : mV (iM (iU 6)) := by
  intro f i hi
  by_cases h8 : f = 8
  · subst h8
    have hi : i < 1 := hi
    obtain rfl : i = 0 := by omega
    exact iM_f8
  · by_cases h46 : 21 ≤ f ∧ f < 46
    · rcases (by omega : f = 21 ∨ f = 22 ∨ f = 23 ∨ f = 24 ∨ f = 25 ∨ f = 26 ∨ f = 27 ∨ f = 28 ∨ f = 29 ∨ f = 30 ∨ f = 31 ∨ f = 32 ∨ f = 33 ∨ f = 34 ∨ f = 35 ∨ f = 36 ∨ f = 37 ∨ f = 38 ∨ f = 39 ∨ f = 40 ∨ f = 41 ∨ f = 42 ∨ f = 43 ∨ f = 44 ∨ f = 45) with rfl | rfl | rfl | rfl | rfl | rfl | rfl | rfl | rfl | rfl | rfl | rfl | rfl | rfl | rfl | rfl | rfl | rfl | rfl | rfl | rfl | rfl | rfl | rfl | rfl
      · have hi : i < 1 := hi
        obtain rfl : i = 0 := by omega
        exact iM_f21
      · have hi : i < 1 := hi
        obtain rfl : i = 0 := by omega
        exact iM_f22
      · have hi : i < 1 := hi
        obtain rfl : i = 0 := by omega
        exact iM_f23
      · have hi : i < 1 := hi
        obtain rfl : i = 0 := by omega
        exact iM_f24
      · have hi : i < 1 := hi
        obtain rfl : i = 0 := by omega
        exact iM_f25
      · have hi : i < 1 := hi
        obtain rfl : i = 0 := by omega
        exact iM_f26
      · have hi : i < 1 := hi
        obtain rfl : i = 0 := by omega
        exact iM_f27
      · have hi : i < 1 := hi
        obtain rfl : i = 0 := by omega
        exact iM_f28
      · have hi : i < 1 := hi
        obtain rfl : i = 0 := by omega
        exact iM_f29
      · have hi : i < 1 := hi
        obtain rfl : i = 0 := by omega
        exact iM_f30
      · exact absurd hi (Nat.not_lt_zero _)
      · have hi : i < 1 := hi
        obtain rfl : i = 0 := by omega
        exact iM_f32
      · have hi : i < 1 := hi
        obtain rfl : i = 0 := by omega
        exact iM_f33
      · have hi : i < 1 := hi
        obtain rfl : i = 0 := by omega
        exact iM_f34
      · have hi : i < 1 := hi
        obtain rfl : i = 0 := by omega
        exact iM_f35
      · exact absurd hi (Nat.not_lt_zero _)
      · have hi : i < 1 := hi
        obtain rfl : i = 0 := by omega
        exact iM_f37
      · have hi : i < 1 := hi
        obtain rfl : i = 0 := by omega
        exact iM_f38
      · have hi : i < 1 := hi
        obtain rfl : i = 0 := by omega
        exact iM_f39
      · have hi : i < 1 := hi
        obtain rfl : i = 0 := by omega
        exact iM_f40
      · have hi : i < 1 := hi
        obtain rfl : i = 0 := by omega
        exact iM_f41
      · have hi : i < 1 := hi
        obtain rfl : i = 0 := by omega
        exact iM_f42
      · have hi : i < 1 := hi
        obtain rfl : i = 0 := by omega
        exact iM_f43
      · have hi : i < 1 := hi
        obtain rfl : i = 0 := by omega
        exact iM_f44
      · have hi : i < 1 := hi
        obtain rfl : i = 0 := by omega
        exact iM_f45
    · have h0 : fixM f = 0 := by
        rw [fixM, if_neg h8]
        by_cases h21 : f < 21
        · rw [if_pos h21]
        · rw [if_neg h21, if_neg (by omega), if_neg (by omega), if_neg (by omega)]
      rw [h0] at hi
      exact absurd hi (Nat.not_lt_zero _)
theorem iM_C : cV (iM (iU 6)) := by
  intro f i hi
  have h : (f, i) ∈ iU 6 := by
    rw [iU_m, iS_m, iR_m, iB_m]
    dsimp only
    by_cases h9 : f = 7 ∨ f = 4 ∨ f = 5 ∨ f = 1 ∨ f = 10 ∨ f = 11 ∨ f = 12 ∨ f = 13 ∨ f = 14
    · rcases h9 with rfl | rfl | rfl | rfl | rfl | rfl | rfl | rfl | rfl
      · have hi : i < 1 := hi
        omega
      · have hi : i < 6 := hi
        omega
      · have hi : i < 12 := hi
        omega
      · have hi : i < 6 := hi
        omega
      · have hi : i < 1 := hi
        omega
      · have hi : i < 1 := hi
        omega
      · have hi : i < 1 := hi
        omega
      · have hi : i < 1 := hi
        omega
      · have hi : i < 6 := hi
        omega
    · have h0 : fixC f = 0 := by
        rw [fixC, if_neg (by omega), if_neg (by omega), if_neg (by omega), if_neg (by omega), if_neg (by omega), if_neg (by omega), if_neg (by omega), if_neg (by omega), if_neg (by omega)]
      rw [h0] at hi
      exact absurd hi (Nat.not_lt_zero _)
  exact iM_of h
theorem iM_no18 : (18, 0) ∉ iM (iU 6) := by
  intro h
  unfold iM at h
  iterate 24 (rcases List.mem_append.mp h with h | h; rotate_left; exact absurd (congrArg Prod.fst (List.mem_singleton.mp h)) (by decide))
  have := iU_no h
  dsimp only at this
  omega
theorem sw25 {x : Int32} (h : ¬ x = 0 ∧ ¬ x = 1 ∧ ¬ x = 2 ∧ ¬ x = 3 ∧ ¬ x = 4 ∧ ¬ x = 5 ∧ ¬ x = 6 ∧ ¬ x = 7 ∧ ¬ x = 8 ∧ ¬ x = 9 ∧ ¬ x = 10 ∧ ¬ x = 11 ∧ ¬ x = 12 ∧ ¬ x = 13 ∧ ¬ x = 14 ∧ ¬ x = 15 ∧ ¬ x = 16 ∧ ¬ x = 17 ∧ ¬ x = 18 ∧ ¬ x = 19 ∧ ¬ x = 20 ∧ ¬ x = 21 ∧ ¬ x = 22 ∧ ¬ x = 23 ∧ ¬ x = 24) : x.toInt < 0 ∨ 24 < x.toInt := by
  by_cases h0 : x < 0
  · left; rw [Int32.lt_iff_toInt_lt] at h0; exact h0
  · right
    obtain ⟨j, hj, rfl⟩ := nI_of h0
    rw [nI_toInt hj]
    have g : ∀ k, k < 25 → j ≠ k := by
      intro k hk e
      subst e
      revert h
      rcases (by omega : j = 0 ∨ j = 1 ∨ j = 2 ∨ j = 3 ∨ j = 4 ∨ j = 5 ∨ j = 6 ∨ j = 7 ∨ j = 8 ∨ j = 9 ∨ j = 10 ∨ j = 11 ∨ j = 12 ∨ j = 13 ∨ j = 14 ∨ j = 15 ∨ j = 16 ∨ j = 17 ∨ j = 18 ∨ j = 19 ∨ j = 20 ∨ j = 21 ∨ j = 22 ∨ j = 23 ∨ j = 24) with rfl | rfl | rfl | rfl | rfl | rfl | rfl | rfl | rfl | rfl | rfl | rfl | rfl | rfl | rfl | rfl | rfl | rfl | rfl | rfl | rfl | rfl | rfl | rfl | rfl <;> decide
    have : ¬ j < 25 := fun z => g j z rfl
    omega
/-- the start: everything new -/
theorem inv_start : Inv (iM (iU 6) ++ [(18, 0)]) (updR (mInit (cP 6 12 6)) 18 0 (fun _ => 0)) := sorry
theorem simT_lc : True := trivial
