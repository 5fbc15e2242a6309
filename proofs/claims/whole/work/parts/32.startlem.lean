theorem gm_t_i9 {f k : Nat} (h : gm_t f k = 9) : False := by
  rcases (by omega : f = 0 ∨ f = 1 ∨ f = 2 ∨ f = 3 ∨ f = 4 ∨ f = 5 ∨ f = 6 ∨ f = 7 ∨ f = 8 ∨ f = 9 ∨ f = 10 ∨ f = 11 ∨ f = 12 ∨ f = 13 ∨ f = 14 ∨ 15 ≤ f) with rfl | rfl | rfl | rfl | rfl | rfl | rfl | rfl | rfl | rfl | rfl | rfl | rfl | rfl | rfl | hb
  · have e : gm_t 0 k = if k = 0 then 18 else 0 := rfl
    rw [e] at h
    by_cases k0 : k = 0
    · rw [if_pos k0] at h; omega
    · rw [if_neg k0] at h
      omega
  · have e : gm_t 1 k = if k = 1 then 15 else 0 := rfl
    rw [e] at h
    by_cases k0 : k = 1
    · rw [if_pos k0] at h; omega
    · rw [if_neg k0] at h
      omega
  · have e : gm_t 2 k = if k = 0 then 2 else if k = 1 then 17 else 0 := rfl
    rw [e] at h
    by_cases k0 : k = 0
    · rw [if_pos k0] at h; omega
    · rw [if_neg k0] at h
      by_cases k1 : k = 1
      · rw [if_pos k1] at h; omega
      · rw [if_neg k1] at h
        omega
  · have e : gm_t 3 k = if k = 0 then 6 else if k = 5 then 16 else if k = 9 then 3 else 0 := rfl
    rw [e] at h
    by_cases k0 : k = 0
    · rw [if_pos k0] at h; omega
    · rw [if_neg k0] at h
      by_cases k1 : k = 5
      · rw [if_pos k1] at h; omega
      · rw [if_neg k1] at h
        by_cases k2 : k = 9
        · rw [if_pos k2] at h; omega
        · rw [if_neg k2] at h
          omega
  · have e : gm_t 4 k = if k = 1 then 5 else 0 := rfl
    rw [e] at h
    by_cases k0 : k = 1
    · rw [if_pos k0] at h; omega
    · rw [if_neg k0] at h
      omega
  · have e : gm_t 5 k = if k = 1 then 5 else 0 := rfl
    rw [e] at h
    by_cases k0 : k = 1
    · rw [if_pos k0] at h; omega
    · rw [if_neg k0] at h
      omega
  · have e : gm_t 6 k = 0 := rfl
    omega
  · have e : gm_t 7 k = if k < 4 then 11 + k else 0 := rfl
    rw [e] at h
    by_cases k0 : k < 4
    · rw [if_pos k0] at h; omega
    · rw [if_neg k0] at h
      omega
  · have e : gm_t 8 k = if k = 0 then 0 else if k = 11 then 0 else if k = 16 then 0 else if k = 26 then 0 else 21 + k := rfl
    rw [e] at h
    by_cases k0 : k = 0
    · rw [if_pos k0] at h; omega
    · rw [if_neg k0] at h
      by_cases k1 : k = 11
      · rw [if_pos k1] at h; omega
      · rw [if_neg k1] at h
        by_cases k2 : k = 16
        · rw [if_pos k2] at h; omega
        · rw [if_neg k2] at h
          by_cases k3 : k = 26
          · rw [if_pos k3] at h; omega
          · rw [if_neg k3] at h
            omega
  · have e : gm_t 9 k = 0 := rfl
    omega
  · have e : gm_t 10 k = 5 := rfl
    omega
  · have e : gm_t 11 k = 6 := rfl
    omega
  · have e : gm_t 12 k = 2 := rfl
    omega
  · have e : gm_t 13 k = 4 := rfl
    omega
  · have e : gm_t 14 k = 7 := rfl
    omega
  · rw [gm_t_big hb] at h; omega
theorem gm_t_i19 {f k : Nat} (h : gm_t f k = 19) : False := by
  rcases (by omega : f = 0 ∨ f = 1 ∨ f = 2 ∨ f = 3 ∨ f = 4 ∨ f = 5 ∨ f = 6 ∨ f = 7 ∨ f = 8 ∨ f = 9 ∨ f = 10 ∨ f = 11 ∨ f = 12 ∨ f = 13 ∨ f = 14 ∨ 15 ≤ f) with rfl | rfl | rfl | rfl | rfl | rfl | rfl | rfl | rfl | rfl | rfl | rfl | rfl | rfl | rfl | hb
  · have e : gm_t 0 k = if k = 0 then 18 else 0 := rfl
    rw [e] at h
    by_cases k0 : k = 0
    · rw [if_pos k0] at h; omega
    · rw [if_neg k0] at h
      omega
  · have e : gm_t 1 k = if k = 1 then 15 else 0 := rfl
    rw [e] at h
    by_cases k0 : k = 1
    · rw [if_pos k0] at h; omega
    · rw [if_neg k0] at h
      omega
  · have e : gm_t 2 k = if k = 0 then 2 else if k = 1 then 17 else 0 := rfl
    rw [e] at h
    by_cases k0 : k = 0
    · rw [if_pos k0] at h; omega
    · rw [if_neg k0] at h
      by_cases k1 : k = 1
      · rw [if_pos k1] at h; omega
      · rw [if_neg k1] at h
        omega
  · have e : gm_t 3 k = if k = 0 then 6 else if k = 5 then 16 else if k = 9 then 3 else 0 := rfl
    rw [e] at h
    by_cases k0 : k = 0
    · rw [if_pos k0] at h; omega
    · rw [if_neg k0] at h
      by_cases k1 : k = 5
      · rw [if_pos k1] at h; omega
      · rw [if_neg k1] at h
        by_cases k2 : k = 9
        · rw [if_pos k2] at h; omega
        · rw [if_neg k2] at h
          omega
  · have e : gm_t 4 k = if k = 1 then 5 else 0 := rfl
    rw [e] at h
    by_cases k0 : k = 1
    · rw [if_pos k0] at h; omega
    · rw [if_neg k0] at h
      omega
  · have e : gm_t 5 k = if k = 1 then 5 else 0 := rfl
    rw [e] at h
    by_cases k0 : k = 1
    · rw [if_pos k0] at h; omega
    · rw [if_neg k0] at h
      omega
  · have e : gm_t 6 k = 0 := rfl
    omega
  · have e : gm_t 7 k = if k < 4 then 11 + k else 0 := rfl
    rw [e] at h
    by_cases k0 : k < 4
    · rw [if_pos k0] at h; omega
    · rw [if_neg k0] at h
      omega
  · have e : gm_t 8 k = if k = 0 then 0 else if k = 11 then 0 else if k = 16 then 0 else if k = 26 then 0 else 21 + k := rfl
    rw [e] at h
    by_cases k0 : k = 0
    · rw [if_pos k0] at h; omega
    · rw [if_neg k0] at h
      by_cases k1 : k = 11
      · rw [if_pos k1] at h; omega
      · rw [if_neg k1] at h
        by_cases k2 : k = 16
        · rw [if_pos k2] at h; omega
        · rw [if_neg k2] at h
          by_cases k3 : k = 26
          · rw [if_pos k3] at h; omega
          · rw [if_neg k3] at h
            omega
  · have e : gm_t 9 k = 0 := rfl
    omega
  · have e : gm_t 10 k = 5 := rfl
    omega
  · have e : gm_t 11 k = 6 := rfl
    omega
  · have e : gm_t 12 k = 2 := rfl
    omega
  · have e : gm_t 13 k = 4 := rfl
    omega
  · have e : gm_t 14 k = 7 := rfl
    omega
  · rw [gm_t_big hb] at h; omega
theorem cP_gk : ∀ x ∈ iU 6, ∀ k, k < gm_n x.1 → gk (cP 6 12 6) x.1 x.2 k = cP 6 12 6 x.1 x.2 k := by
  rintro ⟨f, i⟩ hx k hk
  dsimp only at hk ⊢
  have hz := (iU_m 6).mp hx
  rw [iS_m, iR_m, iB_m] at hz
  dsimp only at hz
  rcases (show f = 7 ∨ f = 10 ∨ f = 11 ∨ f = 12 ∨ f = 13 ∨ f = 4 ∨ f = 5 ∨ f = 1 ∨ f = 14 by omega) with rfl | rfl | rfl | rfl | rfl | rfl | rfl | rfl | rfl
  · have hk : k < 8 := hk
    rcases (by omega : k = 0 ∨ k = 1 ∨ k = 2 ∨ k = 3 ∨ k = 4 ∨ k = 5 ∨ k = 6 ∨ k = 7) with rfl | rfl | rfl | rfl | rfl | rfl | rfl | rfl <;> rfl
  · have hk : k < 6 := hk
    show nI k = (if k < 6 then nI k else -1)
    rw [if_pos hk]
  · have hk : k < 12 := hk
    show nI k = (if k < 12 then nI k else -1)
    rw [if_pos hk]
  · have hk : k < 6 := hk
    show nI k = (if k < 6 then nI k else -1)
    rw [if_pos hk]
  · rfl
  · have hk : k < 4 := hk
    rcases (by omega : k = 0 ∨ k = 1 ∨ k = 2 ∨ k = 3) with rfl | rfl | rfl | rfl <;> rfl
  · have hk : k < 7 := hk
    rcases (by omega : k = 0 ∨ k = 1 ∨ k = 2 ∨ k = 3 ∨ k = 4 ∨ k = 5 ∨ k = 6) with rfl | rfl | rfl | rfl | rfl | rfl | rfl <;> rfl
  · have hk : k < 2 := hk
    rcases (by omega : k = 0 ∨ k = 1) with rfl | rfl <;> rfl
  · rfl
theorem iU_only : cOnly (iU 6) := fun x hx => by have := iU_no hx; omega
theorem iM_of {ids : gIds} {x : Nat × Nat} (h : x ∈ ids) : x ∈ iM ids := by
  unfold iM
  repeat (refine List.mem_append_left _ ?_)
  exact h
theorem iM_f8 {ids : gIds} : (8, 0) ∈ iM ids := by
  unfold iM
  iterate 23 (refine List.mem_append_left _ ?_)
  exact List.mem_append_right _ List.mem_cons_self
theorem iM_f21 {ids : gIds} : (21, 0) ∈ iM ids := by
  unfold iM
  iterate 22 (refine List.mem_append_left _ ?_)
  exact List.mem_append_right _ List.mem_cons_self
theorem iM_f22 {ids : gIds} : (22, 0) ∈ iM ids := by
  unfold iM
  iterate 21 (refine List.mem_append_left _ ?_)
  exact List.mem_append_right _ List.mem_cons_self
theorem iM_f23 {ids : gIds} : (23, 0) ∈ iM ids := by
  unfold iM
  iterate 20 (refine List.mem_append_left _ ?_)
  exact List.mem_append_right _ List.mem_cons_self
theorem iM_f24 {ids : gIds} : (24, 0) ∈ iM ids := by
  unfold iM
  iterate 19 (refine List.mem_append_left _ ?_)
  exact List.mem_append_right _ List.mem_cons_self
theorem iM_f25 {ids : gIds} : (25, 0) ∈ iM ids := by
  unfold iM
  iterate 18 (refine List.mem_append_left _ ?_)
  exact List.mem_append_right _ List.mem_cons_self
theorem iM_f26 {ids : gIds} : (26, 0) ∈ iM ids := by
  unfold iM
  iterate 17 (refine List.mem_append_left _ ?_)
  exact List.mem_append_right _ List.mem_cons_self
theorem iM_f27 {ids : gIds} : (27, 0) ∈ iM ids := by
  unfold iM
  iterate 16 (refine List.mem_append_left _ ?_)
  exact List.mem_append_right _ List.mem_cons_self
theorem iM_f28 {ids : gIds} : (28, 0) ∈ iM ids := by
  unfold iM
  iterate 15 (refine List.mem_append_left _ ?_)
  exact List.mem_append_right _ List.mem_cons_self
theorem iM_f29 {ids : gIds} : (29, 0) ∈ iM ids := by
  unfold iM
  iterate 14 (refine List.mem_append_left _ ?_)
  exact List.mem_append_right _ List.mem_cons_self
theorem iM_f30 {ids : gIds} : (30, 0) ∈ iM ids := by
  unfold iM
  iterate 13 (refine List.mem_append_left _ ?_)
  exact List.mem_append_right _ List.mem_cons_self
theorem iM_f32 {ids : gIds} : (32, 0) ∈ iM ids := by
  unfold iM
  iterate 12 (refine List.mem_append_left _ ?_)
  exact List.mem_append_right _ List.mem_cons_self
theorem iM_f33 {ids : gIds} : (33, 0) ∈ iM ids := by
  unfold iM
  iterate 11 (refine List.mem_append_left _ ?_)
  exact List.mem_append_right _ List.mem_cons_self
theorem iM_f34 {ids : gIds} : (34, 0) ∈ iM ids := by
  unfold iM
  iterate 10 (refine List.mem_append_left _ ?_)
  exact List.mem_append_right _ List.mem_cons_self
theorem iM_f35 {ids : gIds} : (35, 0) ∈ iM ids := by
  unfold iM
  iterate 9 (refine List.mem_append_left _ ?_)
  exact List.mem_append_right _ List.mem_cons_self
theorem iM_f37 {ids : gIds} : (37, 0) ∈ iM ids := by
  unfold iM
  iterate 8 (refine List.mem_append_left _ ?_)
  exact List.mem_append_right _ List.mem_cons_self
theorem iM_f38 {ids : gIds} : (38, 0) ∈ iM ids := by
  unfold iM
  iterate 7 (refine List.mem_append_left _ ?_)
  exact List.mem_append_right _ List.mem_cons_self
theorem iM_f39 {ids : gIds} : (39, 0) ∈ iM ids := by
  unfold iM
  iterate 6 (refine List.mem_append_left _ ?_)
  exact List.mem_append_right _ List.mem_cons_self
theorem iM_f40 {ids : gIds} : (40, 0) ∈ iM ids := by
  unfold iM
  iterate 5 (refine List.mem_append_left _ ?_)
  exact List.mem_append_right _ List.mem_cons_self
theorem iM_f41 {ids : gIds} : (41, 0) ∈ iM ids := by
  unfold iM
  iterate 4 (refine List.mem_append_left _ ?_)
  exact List.mem_append_right _ List.mem_cons_self
theorem iM_f42 {ids : gIds} : (42, 0) ∈ iM ids := by
  unfold iM
  iterate 3 (refine List.mem_append_left _ ?_)
  exact List.mem_append_right _ List.mem_cons_self
theorem iM_f43 {ids : gIds} : (43, 0) ∈ iM ids := by
  unfold iM
  iterate 2 (refine List.mem_append_left _ ?_)
  exact List.mem_append_right _ List.mem_cons_self
theorem iM_f44 {ids : gIds} : (44, 0) ∈ iM ids := by
  unfold iM
  iterate 1 (refine List.mem_append_left _ ?_)
  exact List.mem_append_right _ List.mem_cons_self
theorem iM_f45 {ids : gIds} : (45, 0) ∈ iM ids := by
  unfold iM
  exact List.mem_append_right _ List.mem_cons_self
theorem iM_V : mV (iM (iU 6)) := by
  intro f i hi
  by_cases h8 : f = 8
  · subst h8
    have hi : i < 1 := hi
    obtain rfl : i = 0 := by omega
    exact iM_f8
  · by_cases h46 : 21 ≤ f ∧ f < 46
    · rcases (by omega : f = 21 ∨ f = 22 ∨ f = 23 ∨ f = 24 ∨ f = 25 ∨ f = 26 ∨ f = 27 ∨ f = 28 ∨ f = 29 ∨ f = 30 ∨ f = 31 ∨ f = 32 ∨ f = 33 ∨ f = 34 ∨ f = 35 ∨ f = 36 ∨ f = 37 ∨ f = 38 ∨ f = 39 ∨ f = 40 ∨ f = 41 ∨ f = 42 ∨ f = 43 ∨ f = 44 ∨ f = 45) with rfl | rfl | rfl | rfl | rfl | rfl | rfl | rfl | rfl | rfl | rfl | rfl | rfl | rfl | rfl | rfl | rfl | rfl | rfl | rfl | rfl | rfl | rfl | rfl | rfl
      · have hi : i < 1 := hi
        obtain rfl : i = 0 := by omega
        exact iM_f21
      · have hi : i < 1 := hi
        obtain rfl : i = 0 := by omega
        exact iM_f22
      · have hi : i < 1 := hi
        obtain rfl : i = 0 := by omega
        exact iM_f23
      · have hi : i < 1 := hi
        obtain rfl : i = 0 := by omega
        exact iM_f24
      · have hi : i < 1 := hi
        obtain rfl : i = 0 := by omega
        exact iM_f25
      · have hi : i < 1 := hi
        obtain rfl : i = 0 := by omega
        exact iM_f26
      · have hi : i < 1 := hi
        obtain rfl : i = 0 := by omega
        exact iM_f27
      · have hi : i < 1 := hi
        obtain rfl : i = 0 := by omega
        exact iM_f28
      · have hi : i < 1 := hi
        obtain rfl : i = 0 := by omega
        exact iM_f29
      · have hi : i < 1 := hi
        obtain rfl : i = 0 := by omega
        exact iM_f30
      · exact absurd hi (Nat.not_lt_zero _)
      · have hi : i < 1 := hi
        obtain rfl : i = 0 := by omega
        exact iM_f32
      · have hi : i < 1 := hi
        obtain rfl : i = 0 := by omega
        exact iM_f33
      · have hi : i < 1 := hi
        obtain rfl : i = 0 := by omega
        exact iM_f34
      · have hi : i < 1 := hi
        obtain rfl : i = 0 := by omega
        exact iM_f35
      · exact absurd hi (Nat.not_lt_zero _)
      · have hi : i < 1 := hi
        obtain rfl : i = 0 := by omega
        exact iM_f37
      · have hi : i < 1 := hi
        obtain rfl : i = 0 := by omega
        exact iM_f38
      · have hi : i < 1 := hi
        obtain rfl : i = 0 := by omega
        exact iM_f39
      · have hi : i < 1 := hi
        obtain rfl : i = 0 := by omega
        exact iM_f40
      · have hi : i < 1 := hi
        obtain rfl : i = 0 := by omega
        exact iM_f41
      · have hi : i < 1 := hi
        obtain rfl : i = 0 := by omega
        exact iM_f42
      · have hi : i < 1 := hi
        obtain rfl : i = 0 := by omega
        exact iM_f43
      · have hi : i < 1 := hi
        obtain rfl : i = 0 := by omega
        exact iM_f44
      · have hi : i < 1 := hi
        obtain rfl : i = 0 := by omega
        exact iM_f45
    · have h0 : fixM f = 0 := by
        rw [fixM, if_neg h8]
        by_cases h21 : f < 21
        · rw [if_pos h21]
        · rw [if_neg h21, if_neg (by omega), if_neg (by omega), if_neg (by omega)]
      rw [h0] at hi
      exact absurd hi (Nat.not_lt_zero _)
theorem iM_C : cV (iM (iU 6)) := by
  intro f i hi
  have h : (f, i) ∈ iU 6 := by
    rw [iU_m, iS_m, iR_m, iB_m]
    dsimp only
    by_cases h9 : f = 7 ∨ f = 4 ∨ f = 5 ∨ f = 1 ∨ f = 10 ∨ f = 11 ∨ f = 12 ∨ f = 13 ∨ f = 14
    · rcases h9 with rfl | rfl | rfl | rfl | rfl | rfl | rfl | rfl | rfl
      · have hi : i < 1 := hi
        omega
      · have hi : i < 6 := hi
        omega
      · have hi : i < 12 := hi
        omega
      · have hi : i < 6 := hi
        omega
      · have hi : i < 1 := hi
        omega
      · have hi : i < 1 := hi
        omega
      · have hi : i < 1 := hi
        omega
      · have hi : i < 1 := hi
        omega
      · have hi : i < 6 := hi
        omega
    · have h0 : fixC f = 0 := by
        rw [fixC, if_neg (by omega), if_neg (by omega), if_neg (by omega), if_neg (by omega), if_neg (by omega), if_neg (by omega), if_neg (by omega), if_neg (by omega), if_neg (by omega)]
      rw [h0] at hi
      exact absurd hi (Nat.not_lt_zero _)
  exact iM_of h
theorem iM_no18 : (18, 0) ∉ iM (iU 6) := by
  intro h
  unfold iM at h
  iterate 24 (rcases List.mem_append.mp h with h | h; rotate_left; exact absurd (congrArg Prod.fst (List.mem_singleton.mp h)) (by decide))
  have := iU_no h
  dsimp only at this
  omega
theorem sw25 {x : Int32} (h : ¬ x = 0 ∧ ¬ x = 1 ∧ ¬ x = 2 ∧ ¬ x = 3 ∧ ¬ x = 4 ∧ ¬ x = 5 ∧ ¬ x = 6 ∧ ¬ x = 7 ∧ ¬ x = 8 ∧ ¬ x = 9 ∧ ¬ x = 10 ∧ ¬ x = 11 ∧ ¬ x = 12 ∧ ¬ x = 13 ∧ ¬ x = 14 ∧ ¬ x = 15 ∧ ¬ x = 16 ∧ ¬ x = 17 ∧ ¬ x = 18 ∧ ¬ x = 19 ∧ ¬ x = 20 ∧ ¬ x = 21 ∧ ¬ x = 22 ∧ ¬ x = 23 ∧ ¬ x = 24) : x.toInt < 0 ∨ 24 < x.toInt := by
  by_cases h0 : x < 0
  · left; rw [Int32.lt_iff_toInt_lt] at h0; exact h0
  · right
    obtain ⟨j, hj, rfl⟩ := nI_of h0
    rw [nI_toInt hj]
    have g : ∀ k, k < 25 → j ≠ k := by
      intro k hk e
      subst e
      revert h
      rcases (by omega : j = 0 ∨ j = 1 ∨ j = 2 ∨ j = 3 ∨ j = 4 ∨ j = 5 ∨ j = 6 ∨ j = 7 ∨ j = 8 ∨ j = 9 ∨ j = 10 ∨ j = 11 ∨ j = 12 ∨ j = 13 ∨ j = 14 ∨ j = 15 ∨ j = 16 ∨ j = 17 ∨ j = 18 ∨ j = 19 ∨ j = 20 ∨ j = 21 ∨ j = 22 ∨ j = 23 ∨ j = 24) with rfl | rfl | rfl | rfl | rfl | rfl | rfl | rfl | rfl | rfl | rfl | rfl | rfl | rfl | rfl | rfl | rfl | rfl | rfl | rfl | rfl | rfl | rfl | rfl | rfl <;> decide
    have : ¬ j < 25 := fun z => g j z rfl
    omega
/-- the start: everything new -/
theorem mI1_it (κ : gMem) : ∀ n, (∀ k, k < n → gIt mI1 n κ 25 0 k = nI k - nI k / 6 * 6 ∧ gIt mI1 n κ 26 0 k = 100 ∧ gIt mI1 n κ 28 0 k = 1 ∧ gIt mI1 n κ 29 0 k = -1) ∧ ∀ f i k, f ≠ 25 → f ≠ 26 → f ≠ 28 → f ≠ 29 → gIt mI1 n κ f i k = κ f i k
  | 0 => ⟨fun k hk => absurd hk (by omega), fun _ _ _ _ _ _ _ => rfl⟩
  | n + 1 => by
    obtain ⟨h1, h2⟩ := mI1_it κ n
    rw [gIt_s, mI1]
    refine ⟨fun k hk => ?_, fun f i k f1 f2 f3 f4 => by rw [upd3_f f4, upd3_f f3, upd3_f f2, upd3_f f1]; exact h2 f i k f1 f2 f3 f4⟩
    by_cases e : k = n
    · subst e
      refine ⟨?_, ?_, ?_, upd3_s⟩
      · rw [upd3_f (by decide), upd3_f (by decide), upd3_f (by decide), upd3_s]
      · rw [upd3_f (by decide), upd3_f (by decide), upd3_s]
      · rw [upd3_f (by decide), upd3_s]
    · simp only [upd3_k e]
      exact h1 k (by omega)
theorem mI2_it (κ : gMem) : ∀ n, (∀ k, k < n → gIt mI2 n κ 30 0 k = 200) ∧ ∀ f i k, f ≠ 30 → gIt mI2 n κ f i k = κ f i k
  | 0 => ⟨fun k hk => absurd hk (by omega), fun _ _ _ _ => rfl⟩
  | n + 1 => by
    obtain ⟨h1, h2⟩ := mI2_it κ n
    rw [gIt_s, mI2]
    refine ⟨fun k hk => ?_, fun f i k f1 => by rw [upd3_f f1]; exact h2 f i k f1⟩
    by_cases e : k = n
    · subst e; rw [upd3_s]
    · rw [upd3_k e]; exact h1 k (by omega)
theorem mI3_it (κ : gMem) : ∀ n, (∀ k, k < n → gIt mI3 n κ 45 0 k = -1) ∧ ∀ f i k, f ≠ 45 → gIt mI3 n κ f i k = κ f i k
  | 0 => ⟨fun k hk => absurd hk (by omega), fun _ _ _ _ => rfl⟩
  | n + 1 => by
    obtain ⟨h1, h2⟩ := mI3_it κ n
    rw [gIt_s, mI3]
    refine ⟨fun k hk => ?_, fun f i k f1 => by rw [upd3_f f1]; exact h2 f i k f1⟩
    by_cases e : k = n
    · subst e; rw [upd3_s]
    · rw [upd3_k e]; exact h1 k (by omega)
theorem iM_inv {ids : gIds} {x : Nat × Nat} (h : x ∈ iM ids) : x ∈ ids ∨ x.1 = 8 ∨ 21 ≤ x.1 := by
  unfold iM at h
  iterate 24 (rcases List.mem_append.mp h with h | h; rotate_left; right; cases List.mem_singleton.mp h; first | exact Or.inl rfl | exact Or.inr (by decide))
  exact Or.inl h
theorem sns_at {κ : gMem} (f i k : Nat) (h : f ≠ 18) : updR κ 18 0 (fun _ => 0) f i k = κ f i k := by rw [updR_far (fun z => h z.1)]
theorem inv_start : Inv (iM (iU 6) ++ [(18, 0)]) (updR (mInit (cP 6 12 6)) 18 0 (fun _ => 0)) := by
  obtain ⟨κ, hκ⟩ : ∃ κ, updR (mInit (cP 6 12 6)) 18 0 (fun _ => 0) = κ := ⟨_, rfl⟩
  rw [hκ]
  obtain ⟨a1, a2⟩ := mI1_it (mK0 (cP 6 12 6)) 12
  obtain ⟨b1, b2⟩ := mI2_it (gIt mI1 12 (mK0 (cP 6 12 6))) 6
  obtain ⟨d1, d2⟩ := mI3_it (gIt mI2 6 (gIt mI1 12 (mK0 (cP 6 12 6)))) 960
  have oth : ∀ f i k, f ≠ 18 → f ≠ 25 → f ≠ 26 → f ≠ 28 → f ≠ 29 → f ≠ 30 → f ≠ 45 → κ f i k = mK0 (cP 6 12 6) f i k := fun f i k f0 f1 f2 f3 f4 f5 f6 => by
    rw [← hκ, sns_at f i k f0, mInit, d2 f i k f6, b2 f i k f5, a2 f i k f1 f2 f3 f4]
  have c : ∀ f i k, f ≠ 8 → f < 18 → κ f i k = cP 6 12 6 f i k := fun f i k f8 f18 => by
    rw [oth f i k (by omega) (by omega) (by omega) (by omega) (by omega) (by omega) (by omega), mK0, if_neg f8, if_pos (by omega)]
  have z : ∀ f k, f = 8 ∨ 20 ≤ f → f ≠ 25 → f ≠ 26 → f ≠ 28 → f ≠ 29 → f ≠ 30 → f ≠ 45 → κ f 0 k = 0 := fun f k hf f1 f2 f3 f4 f5 f6 => by
    rw [oth f 0 k (by omega) f1 f2 f3 f4 f5 f6, mK0]
    by_cases e : f = 8
    · rw [if_pos e]
    · rw [if_neg e, if_neg (by omega)]
  have r1 : ∀ f k, f = 25 ∨ f = 26 ∨ f = 28 ∨ f = 29 → κ f 0 k = gIt mI1 12 (mK0 (cP 6 12 6)) f 0 k := fun f k hf => by
    rw [← hκ, sns_at f 0 k (by omega), mInit, d2 f 0 k (by omega), b2 f 0 k (by omega)]
  have r30 : ∀ k, k < 6 → κ 30 0 k = 200 := fun k hk => by
    rw [← hκ, sns_at 30 0 k (by omega), mInit, d2 30 0 k (by omega)]; exact b1 k hk
  have r45 : ∀ k, k < 960 → κ 45 0 k = -1 := fun k hk => by
    rw [← hκ, sns_at 45 0 k (by omega), mInit]; exact d1 k hk
  have mod6 : ∀ k, k < 12 → nI k - nI k / 6 * 6 = nI (k % 6) := fun k hk => pk_rem (d := 6) (by omega) (by decide) (by decide)
  have z0 : ixL 0 81 := ixL0 (by decide)
  have t0 : tN (0 : Int32) = 0 := by decide +kernel
  have c704 : κ 7 0 4 = 0 := c 7 0 4 (by decide) (by decide)
  have c706 : κ 7 0 6 = 0 := c 7 0 6 (by decide) (by decide)
  have n0 : tN (κ 7 0 4) = 0 := by rw [c704]; exact t0
  have c41 : ∀ k, k ≠ 0 → κ 4 k 1 = 0 := fun k hk => (c 4 k 1 (by decide) (by decide)).trans (by show (if k = 0 then (-1 : Int32) else 0) = 0; rw [if_neg hk])
  have c42 : ∀ k, κ 4 k 2 = 0 := fun k => c 4 k 2 (by decide) (by decide)
  have c43 : ∀ k, κ 4 k 3 = 0 := fun k => c 4 k 3 (by decide) (by decide)
  have c51 : ∀ k, κ 5 k 1 = nI (k % 6) := fun k => c 5 k 1 (by decide) (by decide)
  have c14 : ∀ b k, κ 14 b k = -1 := fun b k => c 14 b k (by decide) (by decide)
  have inv : ∀ f r, f ≠ 18 → (f, r) ∈ iM (iU 6) ++ [(18, 0)] → (f, r) ∈ iU 6 ∨ f = 8 ∨ 21 ≤ f := fun f r hf h => by
    rcases List.mem_append.mp h with h | h
    · exact iM_inv h
    · exact absurd (congrArg Prod.fst (List.mem_singleton.mp h)) hf
  have none : ∀ f r, f = 3 ∨ f = 15 ∨ f = 2 ∨ f = 16 ∨ f = 0 ∨ f = 17 → ¬ (f, r) ∈ iM (iU 6) ++ [(18, 0)] := fun f r hf h => by
    rcases inv f r (by omega) h with q | q
    · have := iU_no q
      dsimp only at this
      omega
    · omega
  refine ⟨fun f i hi => List.mem_append_left _ (iM_C f i hi), fun f i hi => List.mem_append_left _ (iM_V f i hi), List.mem_append_right _ List.mem_cons_self, ⟨by rw [c704]; exact z0, fun r hr => by rw [n0] at hr; omega, fun r _ => c 13 0 r (by decide) (by decide), c 4 0 1 (by decide) (by decide), fun k hk h0 => by rw [c41 k h0]; exact ixL0 (by omega), fun k hk => by rw [c51]; exact ixL.nI (by omega) (by decide), fun b k _ _ => Or.inl (c14 b k)⟩, ⟨fun b h => ?_, fun r h => ?_, fun r h => absurd h (none _ _ (by omega)), fun r h => absurd h (none _ _ (by omega)), fun r h => absurd h (none _ _ (by omega)), fun r h => absurd h (none _ _ (by omega)), fun r h => none _ _ (by omega) h, fun r h => none _ _ (by omega) h⟩, ⟨⟨0, by omega, z 8 16 (by omega) (by omega) (by omega) (by omega) (by omega) (by omega) (by omega)⟩, fun r hr => ⟨0, by omega, z 37 r (by omega) (by omega) (by omega) (by omega) (by omega) (by omega) (by omega)⟩, fun r hr => ⟨0, by omega, z 42 r (by omega) (by omega) (by omega) (by omega) (by omega) (by omega) (by omega)⟩, fun k hk => ⟨k % 6, by omega, by rw [r1 25 k (by omega), (a1 k hk).1, mod6 k hk]⟩, fun k hk h0 => ⟨0, by omega, z 21 k (by omega) (by omega) (by omega) (by omega) (by omega) (by omega) (by omega)⟩⟩, ?_⟩
  · rcases inv _ _ (by decide) h with q | q
    · have := iU_no q
      dsimp only at this
      omega
    · omega
  · rcases inv _ _ (by decide) h with q | q
    · rw [iU_m, iS_m, iR_m, iB_m] at q
      dsimp only at q
      omega
    · omega
  · refine ⟨⟨by rw [c706]; exact (z 8 0 (by omega) (by omega) (by omega) (by omega) (by omega) (by omega) (by omega)).symm, by rw [c706]; exact ixL0 (by decide), ?_, by rw [c704]; exact (z 8 16 (by omega) (by omega) (by omega) (by omega) (by omega) (by omega) (by omega)).symm, by rw [c704]; exact z0⟩, fun k hk => ⟨fun h0 => ?_, ?_, ?_, by rw [c42]; exact ixL0 (by decide), by rw [c43]; exact ixL0 (by omega), ?_⟩, fun k hk => ?_, fun k hk => ?_, fun b hb => ?_, fun b k _ _ => Or.inl ⟨c14 b k, z 32 _ (by omega) (by omega) (by omega) (by omega) (by omega) (by omega) (by omega), z 35 _ (by omega) (by omega) (by omega) (by omega) (by omega) (by omega) (by omega)⟩, fun r hr => by rw [n0] at hr; omega, fun r _ hr => ⟨z 40 _ (by omega) (by omega) (by omega) (by omega) (by omega) (by omega) (by omega), z 44 _ (by omega) (by omega) (by omega) (by omega) (by omega) (by omega) (by omega), fun b _ => z 43 _ (by omega) (by omega) (by omega) (by omega) (by omega) (by omega) (by omega), fun k hk => r45 _ (by omega)⟩⟩
    · rw [z 8 11 (by omega) (by omega) (by omega) (by omega) (by omega) (by omega) (by omega)]; exact c 7 0 5 (by decide) (by decide)
    · rw [c41 k h0, z 21 k (by omega) (by omega) (by omega) (by omega) (by omega) (by omega) (by omega)]; exact ⟨rfl, ixL0 (by omega)⟩
    · rw [c42, z 22 k (by omega) (by omega) (by omega) (by omega) (by omega) (by omega) (by omega)]
    · rw [c43, z 23 k (by omega) (by omega) (by omega) (by omega) (by omega) (by omega) (by omega)]
    · rw [z 24 k (by omega) (by omega) (by omega) (by omega) (by omega) (by omega) (by omega), sLost, c42, if_pos (by decide)]
    · obtain ⟨q1, q2, q3, q4⟩ := a1 k hk
      refine ⟨by rw [c51, r1 25 k (by omega), q1, mod6 k hk], by rw [c51]; exact ixL.nI (by omega) (by decide), ?_, ?_, ?_, ?_, ?_, ?_⟩
      · rw [r1 28 k (by omega), q3]; exact c 5 k 2 (by decide) (by decide)
      · rw [c 5 k 2 (by decide) (by decide)]; exact ixL.nI (j := 1) (by decide) (by decide)
      · rw [c 5 k 2 (by decide) (by decide)]; exact (by decide : ¬ (1 : Int32) = 0)
      · rw [r1 26 k (by omega), q2]; exact c 5 k 3 (by decide) (by decide)
      · rw [z 27 k (by omega) (by omega) (by omega) (by omega) (by omega) (by omega) (by omega)]; exact c 5 k 4 (by decide) (by decide)
      · rw [r1 29 k (by omega), q4]; exact c 5 k 6 (by decide) (by decide)
    · rw [rC, n0, sCuts, c 5 k 5 (by decide) (by decide), c 5 k 3 (by decide) (by decide)]; rfl
    · rw [rB, r30 b hb]; exact c 1 b 0 (by decide) (by decide)
theorem simT_lc : True := trivial
