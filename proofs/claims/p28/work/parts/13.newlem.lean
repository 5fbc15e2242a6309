/-! ===== what is new: which references speak of it ===== -/
theorem gm_t_i4 {f k : Nat} (h : gm_t f k = 4) : f = 13 := by
  rcases (by omega : f = 0 ∨ f = 1 ∨ f = 2 ∨ f = 3 ∨ f = 4 ∨ f = 5 ∨ f = 6 ∨ f = 7 ∨ f = 8 ∨ f = 9 ∨ f = 10 ∨ f = 11 ∨ f = 12 ∨ f = 13 ∨ f = 14 ∨ 15 ≤ f) with rfl | rfl | rfl | rfl | rfl | rfl | rfl | rfl | rfl | rfl | rfl | rfl | rfl | rfl | rfl | hb
  · have e : gm_t 0 k = if k = 0 then 18 else 0 := rfl
    rw [e] at h
    by_cases k0 : k = 0
    · rw [if_pos k0] at h; omega
    · rw [if_neg k0] at h
      omega
  · have e : gm_t 1 k = if k = 1 then 15 else 0 := rfl
    rw [e] at h
    by_cases k0 : k = 1
    · rw [if_pos k0] at h; omega
    · rw [if_neg k0] at h
      omega
  · have e : gm_t 2 k = if k = 0 then 2 else if k = 1 then 17 else 0 := rfl
    rw [e] at h
    by_cases k0 : k = 0
    · rw [if_pos k0] at h; omega
    · rw [if_neg k0] at h
      by_cases k1 : k = 1
      · rw [if_pos k1] at h; omega
      · rw [if_neg k1] at h
        omega
  · have e : gm_t 3 k = if k = 0 then 6 else if k = 5 then 16 else if k = 9 then 3 else 0 := rfl
    rw [e] at h
    by_cases k0 : k = 0
    · rw [if_pos k0] at h; omega
    · rw [if_neg k0] at h
      by_cases k1 : k = 5
      · rw [if_pos k1] at h; omega
      · rw [if_neg k1] at h
        by_cases k2 : k = 9
        · rw [if_pos k2] at h; omega
        · rw [if_neg k2] at h
          omega
  · have e : gm_t 4 k = if k = 1 then 5 else 0 := rfl
    rw [e] at h
    by_cases k0 : k = 1
    · rw [if_pos k0] at h; omega
    · rw [if_neg k0] at h
      omega
  · have e : gm_t 5 k = if k = 1 then 5 else 0 := rfl
    rw [e] at h
    by_cases k0 : k = 1
    · rw [if_pos k0] at h; omega
    · rw [if_neg k0] at h
      omega
  · have e : gm_t 6 k = 0 := rfl
    omega
  · have e : gm_t 7 k = if k < 4 then 11 + k else 0 := rfl
    rw [e] at h
    by_cases k0 : k < 4
    · rw [if_pos k0] at h; omega
    · rw [if_neg k0] at h
      omega
  · have e : gm_t 8 k = if k = 0 then 0 else if k = 11 then 0 else if k = 16 then 0 else if k = 26 then 0 else 21 + k := rfl
    rw [e] at h
    by_cases k0 : k = 0
    · rw [if_pos k0] at h; omega
    · rw [if_neg k0] at h
      by_cases k1 : k = 11
      · rw [if_pos k1] at h; omega
      · rw [if_neg k1] at h
        by_cases k2 : k = 16
        · rw [if_pos k2] at h; omega
        · rw [if_neg k2] at h
          by_cases k3 : k = 26
          · rw [if_pos k3] at h; omega
          · rw [if_neg k3] at h
            omega
  · have e : gm_t 9 k = 0 := rfl
    omega
  · have e : gm_t 10 k = 5 := rfl
    omega
  · have e : gm_t 11 k = 6 := rfl
    omega
  · have e : gm_t 12 k = 2 := rfl
    omega
  · have e : gm_t 13 k = 4 := rfl
    omega
  · have e : gm_t 14 k = 7 := rfl
    omega
  · rw [gm_t_big hb] at h; omega
theorem gm_t_i16 {f k : Nat} (h : gm_t f k = 16) : f = 3 ∧ k = 5 := by
  rcases (by omega : f = 0 ∨ f = 1 ∨ f = 2 ∨ f = 3 ∨ f = 4 ∨ f = 5 ∨ f = 6 ∨ f = 7 ∨ f = 8 ∨ f = 9 ∨ f = 10 ∨ f = 11 ∨ f = 12 ∨ f = 13 ∨ f = 14 ∨ 15 ≤ f) with rfl | rfl | rfl | rfl | rfl | rfl | rfl | rfl | rfl | rfl | rfl | rfl | rfl | rfl | rfl | hb
  · have e : gm_t 0 k = if k = 0 then 18 else 0 := rfl
    rw [e] at h
    by_cases k0 : k = 0
    · rw [if_pos k0] at h; omega
    · rw [if_neg k0] at h
      omega
  · have e : gm_t 1 k = if k = 1 then 15 else 0 := rfl
    rw [e] at h
    by_cases k0 : k = 1
    · rw [if_pos k0] at h; omega
    · rw [if_neg k0] at h
      omega
  · have e : gm_t 2 k = if k = 0 then 2 else if k = 1 then 17 else 0 := rfl
    rw [e] at h
    by_cases k0 : k = 0
    · rw [if_pos k0] at h; omega
    · rw [if_neg k0] at h
      by_cases k1 : k = 1
      · rw [if_pos k1] at h; omega
      · rw [if_neg k1] at h
        omega
  · have e : gm_t 3 k = if k = 0 then 6 else if k = 5 then 16 else if k = 9 then 3 else 0 := rfl
    rw [e] at h
    by_cases k0 : k = 0
    · rw [if_pos k0] at h; omega
    · rw [if_neg k0] at h
      by_cases k1 : k = 5
      · rw [if_pos k1] at h; omega
      · rw [if_neg k1] at h
        by_cases k2 : k = 9
        · rw [if_pos k2] at h; omega
        · rw [if_neg k2] at h
          omega
  · have e : gm_t 4 k = if k = 1 then 5 else 0 := rfl
    rw [e] at h
    by_cases k0 : k = 1
    · rw [if_pos k0] at h; omega
    · rw [if_neg k0] at h
      omega
  · have e : gm_t 5 k = if k = 1 then 5 else 0 := rfl
    rw [e] at h
    by_cases k0 : k = 1
    · rw [if_pos k0] at h; omega
    · rw [if_neg k0] at h
      omega
  · have e : gm_t 6 k = 0 := rfl
    omega
  · have e : gm_t 7 k = if k < 4 then 11 + k else 0 := rfl
    rw [e] at h
    by_cases k0 : k < 4
    · rw [if_pos k0] at h; omega
    · rw [if_neg k0] at h
      omega
  · have e : gm_t 8 k = if k = 0 then 0 else if k = 11 then 0 else if k = 16 then 0 else if k = 26 then 0 else 21 + k := rfl
    rw [e] at h
    by_cases k0 : k = 0
    · rw [if_pos k0] at h; omega
    · rw [if_neg k0] at h
      by_cases k1 : k = 11
      · rw [if_pos k1] at h; omega
      · rw [if_neg k1] at h
        by_cases k2 : k = 16
        · rw [if_pos k2] at h; omega
        · rw [if_neg k2] at h
          by_cases k3 : k = 26
          · rw [if_pos k3] at h; omega
          · rw [if_neg k3] at h
            omega
  · have e : gm_t 9 k = 0 := rfl
    omega
  · have e : gm_t 10 k = 5 := rfl
    omega
  · have e : gm_t 11 k = 6 := rfl
    omega
  · have e : gm_t 12 k = 2 := rfl
    omega
  · have e : gm_t 13 k = 4 := rfl
    omega
  · have e : gm_t 14 k = 7 := rfl
    omega
  · rw [gm_t_big hb] at h; omega
theorem gm_t_i3 {f k : Nat} (h : gm_t f k = 3) : f = 3 ∧ k = 9 := by
  rcases (by omega : f = 0 ∨ f = 1 ∨ f = 2 ∨ f = 3 ∨ f = 4 ∨ f = 5 ∨ f = 6 ∨ f = 7 ∨ f = 8 ∨ f = 9 ∨ f = 10 ∨ f = 11 ∨ f = 12 ∨ f = 13 ∨ f = 14 ∨ 15 ≤ f) with rfl | rfl | rfl | rfl | rfl | rfl | rfl | rfl | rfl | rfl | rfl | rfl | rfl | rfl | rfl | hb
  · have e : gm_t 0 k = if k = 0 then 18 else 0 := rfl
    rw [e] at h
    by_cases k0 : k = 0
    · rw [if_pos k0] at h; omega
    · rw [if_neg k0] at h
      omega
  · have e : gm_t 1 k = if k = 1 then 15 else 0 := rfl
    rw [e] at h
    by_cases k0 : k = 1
    · rw [if_pos k0] at h; omega
    · rw [if_neg k0] at h
      omega
  · have e : gm_t 2 k = if k = 0 then 2 else if k = 1 then 17 else 0 := rfl
    rw [e] at h
    by_cases k0 : k = 0
    · rw [if_pos k0] at h; omega
    · rw [if_neg k0] at h
      by_cases k1 : k = 1
      · rw [if_pos k1] at h; omega
      · rw [if_neg k1] at h
        omega
  · have e : gm_t 3 k = if k = 0 then 6 else if k = 5 then 16 else if k = 9 then 3 else 0 := rfl
    rw [e] at h
    by_cases k0 : k = 0
    · rw [if_pos k0] at h; omega
    · rw [if_neg k0] at h
      by_cases k1 : k = 5
      · rw [if_pos k1] at h; omega
      · rw [if_neg k1] at h
        by_cases k2 : k = 9
        · rw [if_pos k2] at h; omega
        · rw [if_neg k2] at h
          omega
  · have e : gm_t 4 k = if k = 1 then 5 else 0 := rfl
    rw [e] at h
    by_cases k0 : k = 1
    · rw [if_pos k0] at h; omega
    · rw [if_neg k0] at h
      omega
  · have e : gm_t 5 k = if k = 1 then 5 else 0 := rfl
    rw [e] at h
    by_cases k0 : k = 1
    · rw [if_pos k0] at h; omega
    · rw [if_neg k0] at h
      omega
  · have e : gm_t 6 k = 0 := rfl
    omega
  · have e : gm_t 7 k = if k < 4 then 11 + k else 0 := rfl
    rw [e] at h
    by_cases k0 : k < 4
    · rw [if_pos k0] at h; omega
    · rw [if_neg k0] at h
      omega
  · have e : gm_t 8 k = if k = 0 then 0 else if k = 11 then 0 else if k = 16 then 0 else if k = 26 then 0 else 21 + k := rfl
    rw [e] at h
    by_cases k0 : k = 0
    · rw [if_pos k0] at h; omega
    · rw [if_neg k0] at h
      by_cases k1 : k = 11
      · rw [if_pos k1] at h; omega
      · rw [if_neg k1] at h
        by_cases k2 : k = 16
        · rw [if_pos k2] at h; omega
        · rw [if_neg k2] at h
          by_cases k3 : k = 26
          · rw [if_pos k3] at h; omega
          · rw [if_neg k3] at h
            omega
  · have e : gm_t 9 k = 0 := rfl
    omega
  · have e : gm_t 10 k = 5 := rfl
    omega
  · have e : gm_t 11 k = 6 := rfl
    omega
  · have e : gm_t 12 k = 2 := rfl
    omega
  · have e : gm_t 13 k = 4 := rfl
    omega
  · have e : gm_t 14 k = 7 := rfl
    omega
  · rw [gm_t_big hb] at h; omega
theorem gm_t_i17 {f k : Nat} (h : gm_t f k = 17) : f = 2 ∧ k = 1 := by
  rcases (by omega : f = 0 ∨ f = 1 ∨ f = 2 ∨ f = 3 ∨ f = 4 ∨ f = 5 ∨ f = 6 ∨ f = 7 ∨ f = 8 ∨ f = 9 ∨ f = 10 ∨ f = 11 ∨ f = 12 ∨ f = 13 ∨ f = 14 ∨ 15 ≤ f) with rfl | rfl | rfl | rfl | rfl | rfl | rfl | rfl | rfl | rfl | rfl | rfl | rfl | rfl | rfl | hb
  · have e : gm_t 0 k = if k = 0 then 18 else 0 := rfl
    rw [e] at h
    by_cases k0 : k = 0
    · rw [if_pos k0] at h; omega
    · rw [if_neg k0] at h
      omega
  · have e : gm_t 1 k = if k = 1 then 15 else 0 := rfl
    rw [e] at h
    by_cases k0 : k = 1
    · rw [if_pos k0] at h; omega
    · rw [if_neg k0] at h
      omega
  · have e : gm_t 2 k = if k = 0 then 2 else if k = 1 then 17 else 0 := rfl
    rw [e] at h
    by_cases k0 : k = 0
    · rw [if_pos k0] at h; omega
    · rw [if_neg k0] at h
      by_cases k1 : k = 1
      · rw [if_pos k1] at h; omega
      · rw [if_neg k1] at h
        omega
  · have e : gm_t 3 k = if k = 0 then 6 else if k = 5 then 16 else if k = 9 then 3 else 0 := rfl
    rw [e] at h
    by_cases k0 : k = 0
    · rw [if_pos k0] at h; omega
    · rw [if_neg k0] at h
      by_cases k1 : k = 5
      · rw [if_pos k1] at h; omega
      · rw [if_neg k1] at h
        by_cases k2 : k = 9
        · rw [if_pos k2] at h; omega
        · rw [if_neg k2] at h
          omega
  · have e : gm_t 4 k = if k = 1 then 5 else 0 := rfl
    rw [e] at h
    by_cases k0 : k = 1
    · rw [if_pos k0] at h; omega
    · rw [if_neg k0] at h
      omega
  · have e : gm_t 5 k = if k = 1 then 5 else 0 := rfl
    rw [e] at h
    by_cases k0 : k = 1
    · rw [if_pos k0] at h; omega
    · rw [if_neg k0] at h
      omega
  · have e : gm_t 6 k = 0 := rfl
    omega
  · have e : gm_t 7 k = if k < 4 then 11 + k else 0 := rfl
    rw [e] at h
    by_cases k0 : k < 4
    · rw [if_pos k0] at h; omega
    · rw [if_neg k0] at h
      omega
  · have e : gm_t 8 k = if k = 0 then 0 else if k = 11 then 0 else if k = 16 then 0 else if k = 26 then 0 else 21 + k := rfl
    rw [e] at h
    by_cases k0 : k = 0
    · rw [if_pos k0] at h; omega
    · rw [if_neg k0] at h
      by_cases k1 : k = 11
      · rw [if_pos k1] at h; omega
      · rw [if_neg k1] at h
        by_cases k2 : k = 16
        · rw [if_pos k2] at h; omega
        · rw [if_neg k2] at h
          by_cases k3 : k = 26
          · rw [if_pos k3] at h; omega
          · rw [if_neg k3] at h
            omega
  · have e : gm_t 9 k = 0 := rfl
    omega
  · have e : gm_t 10 k = 5 := rfl
    omega
  · have e : gm_t 11 k = 6 := rfl
    omega
  · have e : gm_t 12 k = 2 := rfl
    omega
  · have e : gm_t 13 k = 4 := rfl
    omega
  · have e : gm_t 14 k = 7 := rfl
    omega
  · rw [gm_t_big hb] at h; omega
theorem gm_t_i7 {f k : Nat} (h : gm_t f k = 7) : f = 14 := by
  rcases (by omega : f = 0 ∨ f = 1 ∨ f = 2 ∨ f = 3 ∨ f = 4 ∨ f = 5 ∨ f = 6 ∨ f = 7 ∨ f = 8 ∨ f = 9 ∨ f = 10 ∨ f = 11 ∨ f = 12 ∨ f = 13 ∨ f = 14 ∨ 15 ≤ f) with rfl | rfl | rfl | rfl | rfl | rfl | rfl | rfl | rfl | rfl | rfl | rfl | rfl | rfl | rfl | hb
  · have e : gm_t 0 k = if k = 0 then 18 else 0 := rfl
    rw [e] at h
    by_cases k0 : k = 0
    · rw [if_pos k0] at h; omega
    · rw [if_neg k0] at h
      omega
  · have e : gm_t 1 k = if k = 1 then 15 else 0 := rfl
    rw [e] at h
    by_cases k0 : k = 1
    · rw [if_pos k0] at h; omega
    · rw [if_neg k0] at h
      omega
  · have e : gm_t 2 k = if k = 0 then 2 else if k = 1 then 17 else 0 := rfl
    rw [e] at h
    by_cases k0 : k = 0
    · rw [if_pos k0] at h; omega
    · rw [if_neg k0] at h
      by_cases k1 : k = 1
      · rw [if_pos k1] at h; omega
      · rw [if_neg k1] at h
        omega
  · have e : gm_t 3 k = if k = 0 then 6 else if k = 5 then 16 else if k = 9 then 3 else 0 := rfl
    rw [e] at h
    by_cases k0 : k = 0
    · rw [if_pos k0] at h; omega
    · rw [if_neg k0] at h
      by_cases k1 : k = 5
      · rw [if_pos k1] at h; omega
      · rw [if_neg k1] at h
        by_cases k2 : k = 9
        · rw [if_pos k2] at h; omega
        · rw [if_neg k2] at h
          omega
  · have e : gm_t 4 k = if k = 1 then 5 else 0 := rfl
    rw [e] at h
    by_cases k0 : k = 1
    · rw [if_pos k0] at h; omega
    · rw [if_neg k0] at h
      omega
  · have e : gm_t 5 k = if k = 1 then 5 else 0 := rfl
    rw [e] at h
    by_cases k0 : k = 1
    · rw [if_pos k0] at h; omega
    · rw [if_neg k0] at h
      omega
  · have e : gm_t 6 k = 0 := rfl
    omega
  · have e : gm_t 7 k = if k < 4 then 11 + k else 0 := rfl
    rw [e] at h
    by_cases k0 : k < 4
    · rw [if_pos k0] at h; omega
    · rw [if_neg k0] at h
      omega
  · have e : gm_t 8 k = if k = 0 then 0 else if k = 11 then 0 else if k = 16 then 0 else if k = 26 then 0 else 21 + k := rfl
    rw [e] at h
    by_cases k0 : k = 0
    · rw [if_pos k0] at h; omega
    · rw [if_neg k0] at h
      by_cases k1 : k = 11
      · rw [if_pos k1] at h; omega
      · rw [if_neg k1] at h
        by_cases k2 : k = 16
        · rw [if_pos k2] at h; omega
        · rw [if_neg k2] at h
          by_cases k3 : k = 26
          · rw [if_pos k3] at h; omega
          · rw [if_neg k3] at h
            omega
  · have e : gm_t 9 k = 0 := rfl
    omega
  · have e : gm_t 10 k = 5 := rfl
    omega
  · have e : gm_t 11 k = 6 := rfl
    omega
  · have e : gm_t 12 k = 2 := rfl
    omega
  · have e : gm_t 13 k = 4 := rfl
    omega
  · have e : gm_t 14 k = 7 := rfl
    omega
  · rw [gm_t_big hb] at h; omega
theorem gm_t_i18 {f k : Nat} (h : gm_t f k = 18) : f = 0 ∧ k = 0 := by
  rcases (by omega : f = 0 ∨ f = 1 ∨ f = 2 ∨ f = 3 ∨ f = 4 ∨ f = 5 ∨ f = 6 ∨ f = 7 ∨ f = 8 ∨ f = 9 ∨ f = 10 ∨ f = 11 ∨ f = 12 ∨ f = 13 ∨ f = 14 ∨ 15 ≤ f) with rfl | rfl | rfl | rfl | rfl | rfl | rfl | rfl | rfl | rfl | rfl | rfl | rfl | rfl | rfl | hb
  · have e : gm_t 0 k = if k = 0 then 18 else 0 := rfl
    rw [e] at h
    by_cases k0 : k = 0
    · rw [if_pos k0] at h; omega
    · rw [if_neg k0] at h
      omega
  · have e : gm_t 1 k = if k = 1 then 15 else 0 := rfl
    rw [e] at h
    by_cases k0 : k = 1
    · rw [if_pos k0] at h; omega
    · rw [if_neg k0] at h
      omega
  · have e : gm_t 2 k = if k = 0 then 2 else if k = 1 then 17 else 0 := rfl
    rw [e] at h
    by_cases k0 : k = 0
    · rw [if_pos k0] at h; omega
    · rw [if_neg k0] at h
      by_cases k1 : k = 1
      · rw [if_pos k1] at h; omega
      · rw [if_neg k1] at h
        omega
  · have e : gm_t 3 k = if k = 0 then 6 else if k = 5 then 16 else if k = 9 then 3 else 0 := rfl
    rw [e] at h
    by_cases k0 : k = 0
    · rw [if_pos k0] at h; omega
    · rw [if_neg k0] at h
      by_cases k1 : k = 5
      · rw [if_pos k1] at h; omega
      · rw [if_neg k1] at h
        by_cases k2 : k = 9
        · rw [if_pos k2] at h; omega
        · rw [if_neg k2] at h
          omega
  · have e : gm_t 4 k = if k = 1 then 5 else 0 := rfl
    rw [e] at h
    by_cases k0 : k = 1
    · rw [if_pos k0] at h; omega
    · rw [if_neg k0] at h
      omega
  · have e : gm_t 5 k = if k = 1 then 5 else 0 := rfl
    rw [e] at h
    by_cases k0 : k = 1
    · rw [if_pos k0] at h; omega
    · rw [if_neg k0] at h
      omega
  · have e : gm_t 6 k = 0 := rfl
    omega
  · have e : gm_t 7 k = if k < 4 then 11 + k else 0 := rfl
    rw [e] at h
    by_cases k0 : k < 4
    · rw [if_pos k0] at h; omega
    · rw [if_neg k0] at h
      omega
  · have e : gm_t 8 k = if k = 0 then 0 else if k = 11 then 0 else if k = 16 then 0 else if k = 26 then 0 else 21 + k := rfl
    rw [e] at h
    by_cases k0 : k = 0
    · rw [if_pos k0] at h; omega
    · rw [if_neg k0] at h
      by_cases k1 : k = 11
      · rw [if_pos k1] at h; omega
      · rw [if_neg k1] at h
        by_cases k2 : k = 16
        · rw [if_pos k2] at h; omega
        · rw [if_neg k2] at h
          by_cases k3 : k = 26
          · rw [if_pos k3] at h; omega
          · rw [if_neg k3] at h
            omega
  · have e : gm_t 9 k = 0 := rfl
    omega
  · have e : gm_t 10 k = 5 := rfl
    omega
  · have e : gm_t 11 k = 6 := rfl
    omega
  · have e : gm_t 12 k = 2 := rfl
    omega
  · have e : gm_t 13 k = 4 := rfl
    omega
  · have e : gm_t 14 k = 7 := rfl
    omega
  · rw [gm_t_big hb] at h; omega
theorem gFree.upd {ids : gIds} {π : gMem} {f i g j k : Nat} {x : Int32} (h : gFree ids π f i) (ht : gm_t g k ≠ f + 1) : gFree ids (upd3 π g j k x) f i := fun y hy l hl htl => by
  have : ¬ (y.1 = g ∧ y.2 = j ∧ l = k) := fun z => ht (by rw [← z.1, ← z.2.2]; exact htl)
  rw [upd3_n this]; exact h y hy l hl htl
def gDrop (ids : gIds) (x : Nat × Nat) : gIds := ids.filter (fun y => decide (y ≠ x))
theorem gDrop_m {ids : gIds} {x y : Nat × Nat} : y ∈ gDrop ids x ↔ y ∈ ids ∧ y ≠ x := by simp [gDrop]
theorem gDrop_nd {ids : gIds} {x : Nat × Nat} (h : ids.Nodup) : (gDrop ids x).Nodup := h.sublist List.filter_sublist
theorem gS.drop {D : va_G} {aC : Nat → ClassId} {A : Nat → Prop} {s : State} {ids : gIds} {ad : gAd} {π : gMem} {H : Heap} {locs : List Loc} (G : gS D aC A s ids ad π H locs) (x : Nat × Nat) : gS D aC A s (gDrop ids x) ad π H locs := G.sub (fun _ h => (gDrop_m.mp h).1) (gDrop_nd G.nodup)
/-- the cells of the class are those that it can have -/
def cI (ids : gIds) (κ : gMem) : Prop :=
  (∀ b, (14, b) ∈ ids → b < 6) ∧ (∀ r, (13, r) ∈ ids → r = 0) ∧ (∀ r, (3, r) ∈ ids → r < tN (κ 7 0 4)) ∧ (∀ r, (15, r) ∈ ids → r < tN (κ 7 0 4)) ∧ (∀ r, (2, r) ∈ ids → r < tN (κ 7 0 4) ∧ κ 3 r 9 = nI r) ∧ (∀ r, (16, r) ∈ ids → r < tN (κ 7 0 4) ∧ κ 3 r 9 = nI r) ∧ (∀ r, (0, r) ∉ ids) ∧ (∀ r, (17, r) ∉ ids)
theorem cI.to {ids : gIds} {κ κ' : gMem} (h : cI ids κ) (h1 : κ' 7 0 4 = κ 7 0 4) (h2 : ∀ r, κ' 3 r 9 = κ 3 r 9) : cI ids κ' := by
  obtain ⟨a1, a2, a3, a4, a5, a6, a7⟩ := h
  exact ⟨a1, a2, by rw [h1]; exact a3, by rw [h1]; exact a4, fun r hr => by rw [h1, h2]; exact a5 r hr, fun r hr => by rw [h1, h2]; exact a6 r hr, a7⟩
theorem cI.same {ids : gIds} {κ κ' : gMem} (h : cI ids κ) (hs : cSame κ κ') : cI ids κ' := h.to (hs 7 0 4 rfl) (fun r => hs 3 r 9 rfl)
theorem nI_tNne {j i : Nat} (hj : j < 2 ^ 31) (h : j ≠ i) : tN (nI j) ≠ i := by rw [tN_nI hj]; exact h
theorem cI.free3 {ids : gIds} {κ : gMem} (hI : cI ids κ) (hW : cWF ids κ) (κ' : gMem) (hk : ∀ k, κ' 13 0 k = κ 13 0 k) : (3, tN (κ 7 0 4)) ∉ ids ∧ gFree ids (gk κ') 3 (tN (κ 7 0 4)) := by
  refine ⟨fun h => absurd (hI.2.2.1 _ h) (by omega), ?_⟩
  rintro ⟨g, j⟩ hx k hl ht
  obtain rfl := gm_t_i4 ht
  obtain rfl := hI.2.1 _ hx
  dsimp only at hl ⊢
  rw [gk_n rfl, hk]
  by_cases h : k < tN (κ 7 0 4)
  · right
    have h2 := hW.1.2
    rw [(hW.2.1 k h).1]; exact nI_tNne (by omega) (by omega)
  · left
    rw [hW.2.2.1 k (by omega)]; decide
theorem cI.free15 {ids : gIds} {κ : gMem} (hI : cI ids κ) (hW : cWF ids κ) (κ' : gMem) : (15, tN (κ 7 0 4)) ∉ ids ++ [(3, tN (κ 7 0 4))] ∧ gFree (ids ++ [(3, tN (κ 7 0 4))]) (updR (gk κ') 3 (tN (κ 7 0 4)) (gDef 3)) 15 (tN (κ 7 0 4)) := by
  refine ⟨fun h => ?_, ?_⟩
  · rcases List.mem_append.mp h with h | h
    · exact absurd (hI.2.2.2.1 _ h) (by omega)
    · exact absurd (List.mem_singleton.mp h) (fun z => by cases z)
  rintro ⟨g, j⟩ hx k hl ht
  obtain ⟨rfl, rfl⟩ := gm_t_i16 ht
  dsimp only
  rcases List.mem_append.mp hx with h | h
  · right
    have h3 := hI.2.2.1 _ h
    have h2 := hW.1.2
    rw [updR_far (by omega), gk_o (x := nI j) rfl]
    exact nI_tNne (by omega) (by omega)
  · left
    have e : j = tN (κ 7 0 4) := congrArg Prod.snd (List.mem_singleton.mp h)
    rw [e, updR_s]; decide
theorem cI.free2 {ids : gIds} {κ : gMem} (hI : cI ids κ) (hW : cWF ids κ) (κ' : gMem) {r : Nat} (hr : r < 80) (h9 : κ 3 r 9 < 0) (hk : ∀ k, κ' 3 k 9 = κ 3 k 9) : (2, r) ∉ ids ∧ gFree ids (gk κ') 2 r := by
  have hne : ¬ κ 3 r 9 = nI r := fun e => by rw [e] at h9; exact nI_pos (by omega) h9
  refine ⟨fun h => hne (hI.2.2.2.2.1 _ h).2, ?_⟩
  rintro ⟨g, j⟩ hx k hl ht
  obtain ⟨rfl, rfl⟩ := gm_t_i3 ht
  dsimp only
  have h3 := hI.2.2.1 _ hx
  have h2 := hW.1.2
  rw [gk_n rfl, hk]
  rcases (hW.2.1 j h3).2.2.2.2 with e | ⟨e, -⟩
  · left; rw [e]; decide
  · right
    rw [e]
    exact nI_tNne (by omega) (fun z => hne (z ▸ e))
theorem cI.free16 {ids : gIds} {κ : gMem} (hI : cI ids κ) (hW : cWF ids κ) (κ' : gMem) {r : Nat} (hr : r < 80) (h9 : κ 3 r 9 < 0) : (16, r) ∉ ids ++ [(2, r)] ∧ gFree (ids ++ [(2, r)]) (updR (gk κ') 2 r (gDef 2)) 16 r := by
  have hne : ¬ κ 3 r 9 = nI r := fun e => by rw [e] at h9; exact nI_pos (by omega) h9
  refine ⟨fun h => ?_, ?_⟩
  · rcases List.mem_append.mp h with h | h
    · exact hne (hI.2.2.2.2.2.1 _ h).2
    · exact absurd (List.mem_singleton.mp h) (fun z => by cases z)
  rintro ⟨g, j⟩ hx k hl ht
  obtain ⟨rfl, rfl⟩ := gm_t_i17 ht
  dsimp only
  rcases List.mem_append.mp hx with h | h
  · right
    obtain ⟨h3, h4⟩ := hI.2.2.2.2.1 _ h
    have h2 := hW.1.2
    have hj : j ≠ r := fun z => hne (z ▸ h4)
    rw [updR_far (fun z => hj z.2), gk_o (x := nI j) rfl]
    exact nI_tNne (by omega) hj
  · left
    have e : j = r := congrArg Prod.snd (List.mem_singleton.mp h)
    rw [e, updR_s]; decide
theorem cI.free6 {ids : gIds} {κ : gMem} (hI : cI ids κ) (hW : cWF ids κ) (κ' : gMem) {b s : Nat} (hb : b < 6) (hs : s < 12) (h : κ 14 b s < 0) (hk : ∀ i k, κ' 14 i k = κ 14 i k) : (6, 12 * b + s) ∉ gDrop ids (6, 12 * b + s) ∧ gFree (gDrop ids (6, 12 * b + s)) (gk κ') 6 (12 * b + s) := by
  refine ⟨fun h => (gDrop_m.mp h).2 rfl, ?_⟩
  rintro ⟨g, j⟩ hx k hl ht
  obtain rfl := gm_t_i7 ht
  dsimp only at hl ⊢
  have hl : k < 12 := hl
  have hj := hI.1 _ (gDrop_m.mp hx).1
  rw [gk_n rfl, hk]
  rcases hW.2.2.2.2.2.2 j k hj hl with e | ⟨e, -⟩
  · left; rw [e]; decide
  · right
    rw [e]
    refine nI_tNne (by omega) (fun z => ?_)
    have : j = b ∧ k = s := by omega
    obtain ⟨rfl, rfl⟩ := this
    rw [e] at h
    exact nI_pos (by omega) h
theorem cV.app {ids : gIds} (h : cV ids) (l : gIds) : cV (ids ++ l) := fun f i hi => List.mem_append_left _ (h f i hi)
theorem cV.drop {ids : gIds} (h : cV ids) {w : Nat} : cV (gDrop ids (6, w)) := fun f i hi => gDrop_m.mpr ⟨h f i hi, fun z => by
  cases z
  exact absurd hi (by simp [fixC])⟩
/-! a new reading -/
theorem sNewR_0 {s : Nat} {v p : Int32} : sNewR s v p 0 = nI s := rfl
theorem sTell1_keep {κ : gMem} {s f i k : Nat} (h4 : f ≠ 4) (h5 : f ≠ 5) : sTell1 κ s f i k = κ f i k := (sPart_it_keep h4).trans (upd3_f h5)
theorem sTell1_WF {ids : gIds} {κ : gMem} {s : Nat} (h : cWF ids κ) : cWF ids (sTell1 κ s) := sPart_it_WF (h.upd rfl)
theorem cCh.mono {ids ids' : gIds} {κ κ' : gMem} {r : Nat} (h : cCh ids κ r) (hs : ∀ x ∈ ids, x.1 = 2 ∨ x.1 = 16 → x ∈ ids') (h1 : κ' 2 r 0 = κ 2 r 0) (h2 : κ' 2 r 2 = κ 2 r 2) : cCh ids' κ' r := by
  obtain ⟨a1, a2, a3, a4⟩ := h
  exact ⟨hs _ a1 (Or.inl rfl), hs _ a2 (Or.inr rfl), by rw [h1]; exact a3, by rw [h2]; exact a4⟩
theorem sTell2_WF {ids : gIds} {κ : gMem} {s r : Nat} {v p : Int32} (h : cWF ids κ) (hr : κ 7 0 4 = nI r) (hr80 : r < 80) (hs : s < 12) : cWF ((ids ++ [(3, r)]) ++ [(15, r)]) (sTell2 κ s r v p) := by
  have hrn : tN (κ 7 0 4) = r := by rw [hr, tN_nI (by omega)]
  obtain ⟨h1, h2, h3, h4, h5, h6, h7⟩ := h
  have hc : sTell2 κ s r v p 7 0 4 = nI (r + 1) := by rw [sTell2, upd3_s, hr, nI_1]
  have hin : ∀ x ∈ ids, x ∈ (ids ++ [(3, r)]) ++ [(15, r)] := fun x hx => List.mem_append_left _ (List.mem_append_left _ hx)
  have k : ∀ f i j, f ≠ 7 → f ≠ 13 → f ≠ 15 → ¬ (f = 3 ∧ i = r) → sTell2 κ s r v p f i j = κ f i j := fun f i j a b c d => by
    rw [sTell2, upd3_f a, upd3_f b, updR_far (fun z => c z.1), updR_far d]
  refine ⟨by rw [hc]; exact ixL.nI (by omega) (by decide), fun q hq => ?_, fun q hq => ?_, ?_, fun q a b => ?_, fun q a => ?_, fun b q a c => ?_⟩
  · rw [hc, tN_nI (by omega)] at hq
    have e13 : sTell2 κ s r v p 13 0 q = if q = r then nI r else κ 13 0 q := by
      rw [sTell2, upd3_f (by decide)]
      by_cases e : q = r
      · subst e; rw [upd3_s, if_pos rfl]
      · rw [upd3_k e, if_neg e, updR_far (by omega), updR_far (by omega)]
    by_cases e : q = r
    · subst e
      have e3 : ∀ j, sTell2 κ s q v p 3 q j = sNewR s v p j := fun j => by
        rw [sTell2, upd3_f (by decide), upd3_f (by decide), updR_far (by omega), updR_s]
      refine ⟨by rw [e13, if_pos rfl], List.mem_append_left _ (List.mem_append_right _ List.mem_cons_self), List.mem_append_right _ List.mem_cons_self, ?_, Or.inl ?_⟩
      · rw [e3]; exact ixL.nI hs (by decide)
      · rw [e3]; rfl
    · obtain ⟨a1, a2, a3, a4, a5⟩ := h2 q (by omega)
      have k3 : ∀ j, sTell2 κ s r v p 3 q j = κ 3 q j := fun j => k 3 q j (by decide) (by decide) (by decide) (fun z => e z.2)
      refine ⟨by rw [e13, if_neg e]; exact a1, hin _ a2, hin _ a3, by rw [k3]; exact a4, ?_⟩
      rw [k3]
      exact a5.imp id (fun z => ⟨z.1, z.2.mono (fun x hx _ => hin x hx) (k 2 q 0 (by decide) (by decide) (by decide) (by omega)) (k 2 q 2 (by decide) (by decide) (by decide) (by omega))⟩)
  · rw [hc, tN_nI (by omega)] at hq
    rw [sTell2, upd3_f (by decide), upd3_k (by omega), updR_far (by omega), updR_far (by omega)]
    exact h3 q (by omega)
  · rw [k _ _ _ (by decide) (by decide) (by decide) (by omega)]; exact h4
  · rw [k _ _ _ (by decide) (by decide) (by decide) (by omega)]; exact h5 q a b
  · rw [k _ _ _ (by decide) (by decide) (by decide) (by omega)]; exact h6 q a
  · rw [k _ _ _ (by decide) (by decide) (by decide) (by omega)]
    exact (h7 b q a c).imp id (fun z => ⟨z.1, hin _ z.2⟩)
theorem sTell2_I {ids : gIds} {κ : gMem} {s r : Nat} {v p : Int32} (h : cI ids κ) (hr : κ 7 0 4 = nI r) (hr80 : r < 80) : cI ((ids ++ [(3, r)]) ++ [(15, r)]) (sTell2 κ s r v p) := by
  have hrn : tN (κ 7 0 4) = r := by rw [hr, tN_nI (by omega)]
  have hc : tN (sTell2 κ s r v p 7 0 4) = r + 1 := by rw [sTell2, upd3_s, hr, nI_1, tN_nI (by omega)]
  have k3 : ∀ q, q ≠ r → sTell2 κ s r v p 3 q 9 = κ 3 q 9 := fun q e => by
    rw [sTell2, upd3_f (by decide), upd3_f (by decide), updR_far (by omega), updR_far (fun z => e z.2)]
  obtain ⟨a1, a2, a3, a4, a5, a6, a7, a8⟩ := h
  have hm : ∀ {x : Nat × Nat}, x ∈ (ids ++ [(3, r)]) ++ [(15, r)] → x ∈ ids ∨ x = (3, r) ∨ x = (15, r) := fun {x} hx => by
    rcases List.mem_append.mp hx with hx | hx
    · rcases List.mem_append.mp hx with hx | hx
      · exact Or.inl hx
      · exact Or.inr (Or.inl (List.mem_singleton.mp hx))
    · exact Or.inr (Or.inr (List.mem_singleton.mp hx))
  refine ⟨fun b hb => ?_, fun b hb => ?_, fun b hb => ?_, fun b hb => ?_, fun b hb => ?_, fun b hb => ?_, fun b hb => ?_, fun b hb => ?_⟩
  · rcases hm hb with h | h | h
    · exact a1 b h
    · cases h
    · cases h
  · rcases hm hb with h | h | h
    · exact a2 b h
    · cases h
    · cases h
  · rw [hc]
    rcases hm hb with h | h | h
    · have := a3 b h; omega
    · cases h; omega
    · cases h
  · rw [hc]
    rcases hm hb with h | h | h
    · have := a4 b h; omega
    · cases h
    · cases h; omega
  · rw [hc]
    rcases hm hb with h | h | h
    · have h2 := a5 b h; exact ⟨by omega, by rw [k3 b (by omega)]; exact h2.2⟩
    · cases h
    · cases h
  · rw [hc]
    rcases hm hb with h | h | h
    · have h2 := a6 b h; exact ⟨by omega, by rw [k3 b (by omega)]; exact h2.2⟩
    · cases h
    · cases h
  · rcases hm hb with h | h | h
    · exact a7 b h
    · cases h
    · cases h
  · rcases hm hb with h | h | h
    · exact a8 b h
    · cases h
    · cases h
