/-! ===== a new network ===== -/
theorem gm_t_i5 {f k : Nat} (h : gm_t f k = 5) : (f = 4 ∧ k = 1) ∨ (f = 5 ∧ k = 1) ∨ f = 10 := by
  rcases (by omega : f = 0 ∨ f = 1 ∨ f = 2 ∨ f = 3 ∨ f = 4 ∨ f = 5 ∨ f = 6 ∨ f = 7 ∨ f = 8 ∨ f = 9 ∨ f = 10 ∨ f = 11 ∨ f = 12 ∨ f = 13 ∨ f = 14 ∨ 15 ≤ f) with rfl | rfl | rfl | rfl | rfl | rfl | rfl | rfl | rfl | rfl | rfl | rfl | rfl | rfl | rfl | hb
  · have e : gm_t 0 k = if k = 0 then 18 else 0 := rfl
    rw [e] at h
    by_cases k0 : k = 0
    · rw [if_pos k0] at h; omega
    · rw [if_neg k0] at h
      omega
  · have e : gm_t 1 k = if k = 1 then 15 else 0 := rfl
    rw [e] at h
    by_cases k0 : k = 1
    · rw [if_pos k0] at h; omega
    · rw [if_neg k0] at h
      omega
  · have e : gm_t 2 k = if k = 0 then 2 else if k = 1 then 17 else 0 := rfl
    rw [e] at h
    by_cases k0 : k = 0
    · rw [if_pos k0] at h; omega
    · rw [if_neg k0] at h
      by_cases k1 : k = 1
      · rw [if_pos k1] at h; omega
      · rw [if_neg k1] at h
        omega
  · have e : gm_t 3 k = if k = 0 then 6 else if k = 5 then 16 else if k = 9 then 3 else 0 := rfl
    rw [e] at h
    by_cases k0 : k = 0
    · rw [if_pos k0] at h; omega
    · rw [if_neg k0] at h
      by_cases k1 : k = 5
      · rw [if_pos k1] at h; omega
      · rw [if_neg k1] at h
        by_cases k2 : k = 9
        · rw [if_pos k2] at h; omega
        · rw [if_neg k2] at h
          omega
  · have e : gm_t 4 k = if k = 1 then 5 else 0 := rfl
    rw [e] at h
    by_cases k0 : k = 1
    · rw [if_pos k0] at h; omega
    · rw [if_neg k0] at h
      omega
  · have e : gm_t 5 k = if k = 1 then 5 else 0 := rfl
    rw [e] at h
    by_cases k0 : k = 1
    · rw [if_pos k0] at h; omega
    · rw [if_neg k0] at h
      omega
  · have e : gm_t 6 k = 0 := rfl
    omega
  · have e : gm_t 7 k = if k < 4 then 11 + k else 0 := rfl
    rw [e] at h
    by_cases k0 : k < 4
    · rw [if_pos k0] at h; omega
    · rw [if_neg k0] at h
      omega
  · have e : gm_t 8 k = if k = 0 then 0 else if k = 11 then 0 else if k = 16 then 0 else if k = 26 then 0 else 21 + k := rfl
    rw [e] at h
    by_cases k0 : k = 0
    · rw [if_pos k0] at h; omega
    · rw [if_neg k0] at h
      by_cases k1 : k = 11
      · rw [if_pos k1] at h; omega
      · rw [if_neg k1] at h
        by_cases k2 : k = 16
        · rw [if_pos k2] at h; omega
        · rw [if_neg k2] at h
          by_cases k3 : k = 26
          · rw [if_pos k3] at h; omega
          · rw [if_neg k3] at h
            omega
  · have e : gm_t 9 k = 0 := rfl
    omega
  · have e : gm_t 10 k = 5 := rfl
    omega
  · have e : gm_t 11 k = 6 := rfl
    omega
  · have e : gm_t 12 k = 2 := rfl
    omega
  · have e : gm_t 13 k = 4 := rfl
    omega
  · have e : gm_t 14 k = 7 := rfl
    omega
  · rw [gm_t_big hb] at h; omega
theorem gm_t_i6 {f k : Nat} (h : gm_t f k = 6) : (f = 3 ∧ k = 0) ∨ f = 11 := by
  rcases (by omega : f = 0 ∨ f = 1 ∨ f = 2 ∨ f = 3 ∨ f = 4 ∨ f = 5 ∨ f = 6 ∨ f = 7 ∨ f = 8 ∨ f = 9 ∨ f = 10 ∨ f = 11 ∨ f = 12 ∨ f = 13 ∨ f = 14 ∨ 15 ≤ f) with rfl | rfl | rfl | rfl | rfl | rfl | rfl | rfl | rfl | rfl | rfl | rfl | rfl | rfl | rfl | hb
  · have e : gm_t 0 k = if k = 0 then 18 else 0 := rfl
    rw [e] at h
    by_cases k0 : k = 0
    · rw [if_pos k0] at h; omega
    · rw [if_neg k0] at h
      omega
  · have e : gm_t 1 k = if k = 1 then 15 else 0 := rfl
    rw [e] at h
    by_cases k0 : k = 1
    · rw [if_pos k0] at h; omega
    · rw [if_neg k0] at h
      omega
  · have e : gm_t 2 k = if k = 0 then 2 else if k = 1 then 17 else 0 := rfl
    rw [e] at h
    by_cases k0 : k = 0
    · rw [if_pos k0] at h; omega
    · rw [if_neg k0] at h
      by_cases k1 : k = 1
      · rw [if_pos k1] at h; omega
      · rw [if_neg k1] at h
        omega
  · have e : gm_t 3 k = if k = 0 then 6 else if k = 5 then 16 else if k = 9 then 3 else 0 := rfl
    rw [e] at h
    by_cases k0 : k = 0
    · rw [if_pos k0] at h; omega
    · rw [if_neg k0] at h
      by_cases k1 : k = 5
      · rw [if_pos k1] at h; omega
      · rw [if_neg k1] at h
        by_cases k2 : k = 9
        · rw [if_pos k2] at h; omega
        · rw [if_neg k2] at h
          omega
  · have e : gm_t 4 k = if k = 1 then 5 else 0 := rfl
    rw [e] at h
    by_cases k0 : k = 1
    · rw [if_pos k0] at h; omega
    · rw [if_neg k0] at h
      omega
  · have e : gm_t 5 k = if k = 1 then 5 else 0 := rfl
    rw [e] at h
    by_cases k0 : k = 1
    · rw [if_pos k0] at h; omega
    · rw [if_neg k0] at h
      omega
  · have e : gm_t 6 k = 0 := rfl
    omega
  · have e : gm_t 7 k = if k < 4 then 11 + k else 0 := rfl
    rw [e] at h
    by_cases k0 : k < 4
    · rw [if_pos k0] at h; omega
    · rw [if_neg k0] at h
      omega
  · have e : gm_t 8 k = if k = 0 then 0 else if k = 11 then 0 else if k = 16 then 0 else if k = 26 then 0 else 21 + k := rfl
    rw [e] at h
    by_cases k0 : k = 0
    · rw [if_pos k0] at h; omega
    · rw [if_neg k0] at h
      by_cases k1 : k = 11
      · rw [if_pos k1] at h; omega
      · rw [if_neg k1] at h
        by_cases k2 : k = 16
        · rw [if_pos k2] at h; omega
        · rw [if_neg k2] at h
          by_cases k3 : k = 26
          · rw [if_pos k3] at h; omega
          · rw [if_neg k3] at h
            omega
  · have e : gm_t 9 k = 0 := rfl
    omega
  · have e : gm_t 10 k = 5 := rfl
    omega
  · have e : gm_t 11 k = 6 := rfl
    omega
  · have e : gm_t 12 k = 2 := rfl
    omega
  · have e : gm_t 13 k = 4 := rfl
    omega
  · have e : gm_t 14 k = 7 := rfl
    omega
  · rw [gm_t_big hb] at h; omega
theorem gm_t_i2 {f k : Nat} (h : gm_t f k = 2) : (f = 2 ∧ k = 0) ∨ f = 12 := by
  rcases (by omega : f = 0 ∨ f = 1 ∨ f = 2 ∨ f = 3 ∨ f = 4 ∨ f = 5 ∨ f = 6 ∨ f = 7 ∨ f = 8 ∨ f = 9 ∨ f = 10 ∨ f = 11 ∨ f = 12 ∨ f = 13 ∨ f = 14 ∨ 15 ≤ f) with rfl | rfl | rfl | rfl | rfl | rfl | rfl | rfl | rfl | rfl | rfl | rfl | rfl | rfl | rfl | hb
  · have e : gm_t 0 k = if k = 0 then 18 else 0 := rfl
    rw [e] at h
    by_cases k0 : k = 0
    · rw [if_pos k0] at h; omega
    · rw [if_neg k0] at h
      omega
  · have e : gm_t 1 k = if k = 1 then 15 else 0 := rfl
    rw [e] at h
    by_cases k0 : k = 1
    · rw [if_pos k0] at h; omega
    · rw [if_neg k0] at h
      omega
  · have e : gm_t 2 k = if k = 0 then 2 else if k = 1 then 17 else 0 := rfl
    rw [e] at h
    by_cases k0 : k = 0
    · rw [if_pos k0] at h; omega
    · rw [if_neg k0] at h
      by_cases k1 : k = 1
      · rw [if_pos k1] at h; omega
      · rw [if_neg k1] at h
        omega
  · have e : gm_t 3 k = if k = 0 then 6 else if k = 5 then 16 else if k = 9 then 3 else 0 := rfl
    rw [e] at h
    by_cases k0 : k = 0
    · rw [if_pos k0] at h; omega
    · rw [if_neg k0] at h
      by_cases k1 : k = 5
      · rw [if_pos k1] at h; omega
      · rw [if_neg k1] at h
        by_cases k2 : k = 9
        · rw [if_pos k2] at h; omega
        · rw [if_neg k2] at h
          omega
  · have e : gm_t 4 k = if k = 1 then 5 else 0 := rfl
    rw [e] at h
    by_cases k0 : k = 1
    · rw [if_pos k0] at h; omega
    · rw [if_neg k0] at h
      omega
  · have e : gm_t 5 k = if k = 1 then 5 else 0 := rfl
    rw [e] at h
    by_cases k0 : k = 1
    · rw [if_pos k0] at h; omega
    · rw [if_neg k0] at h
      omega
  · have e : gm_t 6 k = 0 := rfl
    omega
  · have e : gm_t 7 k = if k < 4 then 11 + k else 0 := rfl
    rw [e] at h
    by_cases k0 : k < 4
    · rw [if_pos k0] at h; omega
    · rw [if_neg k0] at h
      omega
  · have e : gm_t 8 k = if k = 0 then 0 else if k = 11 then 0 else if k = 16 then 0 else if k = 26 then 0 else 21 + k := rfl
    rw [e] at h
    by_cases k0 : k = 0
    · rw [if_pos k0] at h; omega
    · rw [if_neg k0] at h
      by_cases k1 : k = 11
      · rw [if_pos k1] at h; omega
      · rw [if_neg k1] at h
        by_cases k2 : k = 16
        · rw [if_pos k2] at h; omega
        · rw [if_neg k2] at h
          by_cases k3 : k = 26
          · rw [if_pos k3] at h; omega
          · rw [if_neg k3] at h
            omega
  · have e : gm_t 9 k = 0 := rfl
    omega
  · have e : gm_t 10 k = 5 := rfl
    omega
  · have e : gm_t 11 k = 6 := rfl
    omega
  · have e : gm_t 12 k = 2 := rfl
    omega
  · have e : gm_t 13 k = 4 := rfl
    omega
  · have e : gm_t 14 k = 7 := rfl
    omega
  · rw [gm_t_big hb] at h; omega
theorem gm_t_i15 {f k : Nat} (h : gm_t f k = 15) : f = 1 ∧ k = 1 := by
  rcases (by omega : f = 0 ∨ f = 1 ∨ f = 2 ∨ f = 3 ∨ f = 4 ∨ f = 5 ∨ f = 6 ∨ f = 7 ∨ f = 8 ∨ f = 9 ∨ f = 10 ∨ f = 11 ∨ f = 12 ∨ f = 13 ∨ f = 14 ∨ 15 ≤ f) with rfl | rfl | rfl | rfl | rfl | rfl | rfl | rfl | rfl | rfl | rfl | rfl | rfl | rfl | rfl | hb
  · have e : gm_t 0 k = if k = 0 then 18 else 0 := rfl
    rw [e] at h
    by_cases k0 : k = 0
    · rw [if_pos k0] at h; omega
    · rw [if_neg k0] at h
      omega
  · have e : gm_t 1 k = if k = 1 then 15 else 0 := rfl
    rw [e] at h
    by_cases k0 : k = 1
    · rw [if_pos k0] at h; omega
    · rw [if_neg k0] at h
      omega
  · have e : gm_t 2 k = if k = 0 then 2 else if k = 1 then 17 else 0 := rfl
    rw [e] at h
    by_cases k0 : k = 0
    · rw [if_pos k0] at h; omega
    · rw [if_neg k0] at h
      by_cases k1 : k = 1
      · rw [if_pos k1] at h; omega
      · rw [if_neg k1] at h
        omega
  · have e : gm_t 3 k = if k = 0 then 6 else if k = 5 then 16 else if k = 9 then 3 else 0 := rfl
    rw [e] at h
    by_cases k0 : k = 0
    · rw [if_pos k0] at h; omega
    · rw [if_neg k0] at h
      by_cases k1 : k = 5
      · rw [if_pos k1] at h; omega
      · rw [if_neg k1] at h
        by_cases k2 : k = 9
        · rw [if_pos k2] at h; omega
        · rw [if_neg k2] at h
          omega
  · have e : gm_t 4 k = if k = 1 then 5 else 0 := rfl
    rw [e] at h
    by_cases k0 : k = 1
    · rw [if_pos k0] at h; omega
    · rw [if_neg k0] at h
      omega
  · have e : gm_t 5 k = if k = 1 then 5 else 0 := rfl
    rw [e] at h
    by_cases k0 : k = 1
    · rw [if_pos k0] at h; omega
    · rw [if_neg k0] at h
      omega
  · have e : gm_t 6 k = 0 := rfl
    omega
  · have e : gm_t 7 k = if k < 4 then 11 + k else 0 := rfl
    rw [e] at h
    by_cases k0 : k < 4
    · rw [if_pos k0] at h; omega
    · rw [if_neg k0] at h
      omega
  · have e : gm_t 8 k = if k = 0 then 0 else if k = 11 then 0 else if k = 16 then 0 else if k = 26 then 0 else 21 + k := rfl
    rw [e] at h
    by_cases k0 : k = 0
    · rw [if_pos k0] at h; omega
    · rw [if_neg k0] at h
      by_cases k1 : k = 11
      · rw [if_pos k1] at h; omega
      · rw [if_neg k1] at h
        by_cases k2 : k = 16
        · rw [if_pos k2] at h; omega
        · rw [if_neg k2] at h
          by_cases k3 : k = 26
          · rw [if_pos k3] at h; omega
          · rw [if_neg k3] at h
            omega
  · have e : gm_t 9 k = 0 := rfl
    omega
  · have e : gm_t 10 k = 5 := rfl
    omega
  · have e : gm_t 11 k = 6 := rfl
    omega
  · have e : gm_t 12 k = 2 := rfl
    omega
  · have e : gm_t 13 k = 4 := rfl
    omega
  · have e : gm_t 14 k = 7 := rfl
    omega
  · rw [gm_t_big hb] at h; omega
theorem gm_t_i11 {f k : Nat} (h : gm_t f k = 11) : f = 7 ∧ k = 0 := by
  rcases (by omega : f = 0 ∨ f = 1 ∨ f = 2 ∨ f = 3 ∨ f = 4 ∨ f = 5 ∨ f = 6 ∨ f = 7 ∨ f = 8 ∨ f = 9 ∨ f = 10 ∨ f = 11 ∨ f = 12 ∨ f = 13 ∨ f = 14 ∨ 15 ≤ f) with rfl | rfl | rfl | rfl | rfl | rfl | rfl | rfl | rfl | rfl | rfl | rfl | rfl | rfl | rfl | hb
  · have e : gm_t 0 k = if k = 0 then 18 else 0 := rfl
    rw [e] at h
    by_cases k0 : k = 0
    · rw [if_pos k0] at h; omega
    · rw [if_neg k0] at h
      omega
  · have e : gm_t 1 k = if k = 1 then 15 else 0 := rfl
    rw [e] at h
    by_cases k0 : k = 1
    · rw [if_pos k0] at h; omega
    · rw [if_neg k0] at h
      omega
  · have e : gm_t 2 k = if k = 0 then 2 else if k = 1 then 17 else 0 := rfl
    rw [e] at h
    by_cases k0 : k = 0
    · rw [if_pos k0] at h; omega
    · rw [if_neg k0] at h
      by_cases k1 : k = 1
      · rw [if_pos k1] at h; omega
      · rw [if_neg k1] at h
        omega
  · have e : gm_t 3 k = if k = 0 then 6 else if k = 5 then 16 else if k = 9 then 3 else 0 := rfl
    rw [e] at h
    by_cases k0 : k = 0
    · rw [if_pos k0] at h; omega
    · rw [if_neg k0] at h
      by_cases k1 : k = 5
      · rw [if_pos k1] at h; omega
      · rw [if_neg k1] at h
        by_cases k2 : k = 9
        · rw [if_pos k2] at h; omega
        · rw [if_neg k2] at h
          omega
  · have e : gm_t 4 k = if k = 1 then 5 else 0 := rfl
    rw [e] at h
    by_cases k0 : k = 1
    · rw [if_pos k0] at h; omega
    · rw [if_neg k0] at h
      omega
  · have e : gm_t 5 k = if k = 1 then 5 else 0 := rfl
    rw [e] at h
    by_cases k0 : k = 1
    · rw [if_pos k0] at h; omega
    · rw [if_neg k0] at h
      omega
  · have e : gm_t 6 k = 0 := rfl
    omega
  · have e : gm_t 7 k = if k < 4 then 11 + k else 0 := rfl
    rw [e] at h
    by_cases k0 : k < 4
    · rw [if_pos k0] at h; omega
    · rw [if_neg k0] at h
      omega
  · have e : gm_t 8 k = if k = 0 then 0 else if k = 11 then 0 else if k = 16 then 0 else if k = 26 then 0 else 21 + k := rfl
    rw [e] at h
    by_cases k0 : k = 0
    · rw [if_pos k0] at h; omega
    · rw [if_neg k0] at h
      by_cases k1 : k = 11
      · rw [if_pos k1] at h; omega
      · rw [if_neg k1] at h
        by_cases k2 : k = 16
        · rw [if_pos k2] at h; omega
        · rw [if_neg k2] at h
          by_cases k3 : k = 26
          · rw [if_pos k3] at h; omega
          · rw [if_neg k3] at h
            omega
  · have e : gm_t 9 k = 0 := rfl
    omega
  · have e : gm_t 10 k = 5 := rfl
    omega
  · have e : gm_t 11 k = 6 := rfl
    omega
  · have e : gm_t 12 k = 2 := rfl
    omega
  · have e : gm_t 13 k = 4 := rfl
    omega
  · have e : gm_t 14 k = 7 := rfl
    omega
  · rw [gm_t_big hb] at h; omega
theorem gm_t_i12 {f k : Nat} (h : gm_t f k = 12) : f = 7 ∧ k = 1 := by
  rcases (by omega : f = 0 ∨ f = 1 ∨ f = 2 ∨ f = 3 ∨ f = 4 ∨ f = 5 ∨ f = 6 ∨ f = 7 ∨ f = 8 ∨ f = 9 ∨ f = 10 ∨ f = 11 ∨ f = 12 ∨ f = 13 ∨ f = 14 ∨ 15 ≤ f) with rfl | rfl | rfl | rfl | rfl | rfl | rfl | rfl | rfl | rfl | rfl | rfl | rfl | rfl | rfl | hb
  · have e : gm_t 0 k = if k = 0 then 18 else 0 := rfl
    rw [e] at h
    by_cases k0 : k = 0
    · rw [if_pos k0] at h; omega
    · rw [if_neg k0] at h
      omega
  · have e : gm_t 1 k = if k = 1 then 15 else 0 := rfl
    rw [e] at h
    by_cases k0 : k = 1
    · rw [if_pos k0] at h; omega
    · rw [if_neg k0] at h
      omega
  · have e : gm_t 2 k = if k = 0 then 2 else if k = 1 then 17 else 0 := rfl
    rw [e] at h
    by_cases k0 : k = 0
    · rw [if_pos k0] at h; omega
    · rw [if_neg k0] at h
      by_cases k1 : k = 1
      · rw [if_pos k1] at h; omega
      · rw [if_neg k1] at h
        omega
  · have e : gm_t 3 k = if k = 0 then 6 else if k = 5 then 16 else if k = 9 then 3 else 0 := rfl
    rw [e] at h
    by_cases k0 : k = 0
    · rw [if_pos k0] at h; omega
    · rw [if_neg k0] at h
      by_cases k1 : k = 5
      · rw [if_pos k1] at h; omega
      · rw [if_neg k1] at h
        by_cases k2 : k = 9
        · rw [if_pos k2] at h; omega
        · rw [if_neg k2] at h
          omega
  · have e : gm_t 4 k = if k = 1 then 5 else 0 := rfl
    rw [e] at h
    by_cases k0 : k = 1
    · rw [if_pos k0] at h; omega
    · rw [if_neg k0] at h
      omega
  · have e : gm_t 5 k = if k = 1 then 5 else 0 := rfl
    rw [e] at h
    by_cases k0 : k = 1
    · rw [if_pos k0] at h; omega
    · rw [if_neg k0] at h
      omega
  · have e : gm_t 6 k = 0 := rfl
    omega
  · have e : gm_t 7 k = if k < 4 then 11 + k else 0 := rfl
    rw [e] at h
    by_cases k0 : k < 4
    · rw [if_pos k0] at h; omega
    · rw [if_neg k0] at h
      omega
  · have e : gm_t 8 k = if k = 0 then 0 else if k = 11 then 0 else if k = 16 then 0 else if k = 26 then 0 else 21 + k := rfl
    rw [e] at h
    by_cases k0 : k = 0
    · rw [if_pos k0] at h; omega
    · rw [if_neg k0] at h
      by_cases k1 : k = 11
      · rw [if_pos k1] at h; omega
      · rw [if_neg k1] at h
        by_cases k2 : k = 16
        · rw [if_pos k2] at h; omega
        · rw [if_neg k2] at h
          by_cases k3 : k = 26
          · rw [if_pos k3] at h; omega
          · rw [if_neg k3] at h
            omega
  · have e : gm_t 9 k = 0 := rfl
    omega
  · have e : gm_t 10 k = 5 := rfl
    omega
  · have e : gm_t 11 k = 6 := rfl
    omega
  · have e : gm_t 12 k = 2 := rfl
    omega
  · have e : gm_t 13 k = 4 := rfl
    omega
  · have e : gm_t 14 k = 7 := rfl
    omega
  · rw [gm_t_big hb] at h; omega
theorem gm_t_i13 {f k : Nat} (h : gm_t f k = 13) : f = 7 ∧ k = 2 := by
  rcases (by omega : f = 0 ∨ f = 1 ∨ f = 2 ∨ f = 3 ∨ f = 4 ∨ f = 5 ∨ f = 6 ∨ f = 7 ∨ f = 8 ∨ f = 9 ∨ f = 10 ∨ f = 11 ∨ f = 12 ∨ f = 13 ∨ f = 14 ∨ 15 ≤ f) with rfl | rfl | rfl | rfl | rfl | rfl | rfl | rfl | rfl | rfl | rfl | rfl | rfl | rfl | rfl | hb
  · have e : gm_t 0 k = if k = 0 then 18 else 0 := rfl
    rw [e] at h
    by_cases k0 : k = 0
    · rw [if_pos k0] at h; omega
    · rw [if_neg k0] at h
      omega
  · have e : gm_t 1 k = if k = 1 then 15 else 0 := rfl
    rw [e] at h
    by_cases k0 : k = 1
    · rw [if_pos k0] at h; omega
    · rw [if_neg k0] at h
      omega
  · have e : gm_t 2 k = if k = 0 then 2 else if k = 1 then 17 else 0 := rfl
    rw [e] at h
    by_cases k0 : k = 0
    · rw [if_pos k0] at h; omega
    · rw [if_neg k0] at h
      by_cases k1 : k = 1
      · rw [if_pos k1] at h; omega
      · rw [if_neg k1] at h
        omega
  · have e : gm_t 3 k = if k = 0 then 6 else if k = 5 then 16 else if k = 9 then 3 else 0 := rfl
    rw [e] at h
    by_cases k0 : k = 0
    · rw [if_pos k0] at h; omega
    · rw [if_neg k0] at h
      by_cases k1 : k = 5
      · rw [if_pos k1] at h; omega
      · rw [if_neg k1] at h
        by_cases k2 : k = 9
        · rw [if_pos k2] at h; omega
        · rw [if_neg k2] at h
          omega
  · have e : gm_t 4 k = if k = 1 then 5 else 0 := rfl
    rw [e] at h
    by_cases k0 : k = 1
    · rw [if_pos k0] at h; omega
    · rw [if_neg k0] at h
      omega
  · have e : gm_t 5 k = if k = 1 then 5 else 0 := rfl
    rw [e] at h
    by_cases k0 : k = 1
    · rw [if_pos k0] at h; omega
    · rw [if_neg k0] at h
      omega
  · have e : gm_t 6 k = 0 := rfl
    omega
  · have e : gm_t 7 k = if k < 4 then 11 + k else 0 := rfl
    rw [e] at h
    by_cases k0 : k < 4
    · rw [if_pos k0] at h; omega
    · rw [if_neg k0] at h
      omega
  · have e : gm_t 8 k = if k = 0 then 0 else if k = 11 then 0 else if k = 16 then 0 else if k = 26 then 0 else 21 + k := rfl
    rw [e] at h
    by_cases k0 : k = 0
    · rw [if_pos k0] at h; omega
    · rw [if_neg k0] at h
      by_cases k1 : k = 11
      · rw [if_pos k1] at h; omega
      · rw [if_neg k1] at h
        by_cases k2 : k = 16
        · rw [if_pos k2] at h; omega
        · rw [if_neg k2] at h
          by_cases k3 : k = 26
          · rw [if_pos k3] at h; omega
          · rw [if_neg k3] at h
            omega
  · have e : gm_t 9 k = 0 := rfl
    omega
  · have e : gm_t 10 k = 5 := rfl
    omega
  · have e : gm_t 11 k = 6 := rfl
    omega
  · have e : gm_t 12 k = 2 := rfl
    omega
  · have e : gm_t 13 k = 4 := rfl
    omega
  · have e : gm_t 14 k = 7 := rfl
    omega
  · rw [gm_t_big hb] at h; omega
theorem gm_t_i14 {f k : Nat} (h : gm_t f k = 14) : f = 7 ∧ k = 3 := by
  rcases (by omega : f = 0 ∨ f = 1 ∨ f = 2 ∨ f = 3 ∨ f = 4 ∨ f = 5 ∨ f = 6 ∨ f = 7 ∨ f = 8 ∨ f = 9 ∨ f = 10 ∨ f = 11 ∨ f = 12 ∨ f = 13 ∨ f = 14 ∨ 15 ≤ f) with rfl | rfl | rfl | rfl | rfl | rfl | rfl | rfl | rfl | rfl | rfl | rfl | rfl | rfl | rfl | hb
  · have e : gm_t 0 k = if k = 0 then 18 else 0 := rfl
    rw [e] at h
    by_cases k0 : k = 0
    · rw [if_pos k0] at h; omega
    · rw [if_neg k0] at h
      omega
  · have e : gm_t 1 k = if k = 1 then 15 else 0 := rfl
    rw [e] at h
    by_cases k0 : k = 1
    · rw [if_pos k0] at h; omega
    · rw [if_neg k0] at h
      omega
  · have e : gm_t 2 k = if k = 0 then 2 else if k = 1 then 17 else 0 := rfl
    rw [e] at h
    by_cases k0 : k = 0
    · rw [if_pos k0] at h; omega
    · rw [if_neg k0] at h
      by_cases k1 : k = 1
      · rw [if_pos k1] at h; omega
      · rw [if_neg k1] at h
        omega
  · have e : gm_t 3 k = if k = 0 then 6 else if k = 5 then 16 else if k = 9 then 3 else 0 := rfl
    rw [e] at h
    by_cases k0 : k = 0
    · rw [if_pos k0] at h; omega
    · rw [if_neg k0] at h
      by_cases k1 : k = 5
      · rw [if_pos k1] at h; omega
      · rw [if_neg k1] at h
        by_cases k2 : k = 9
        · rw [if_pos k2] at h; omega
        · rw [if_neg k2] at h
          omega
  · have e : gm_t 4 k = if k = 1 then 5 else 0 := rfl
    rw [e] at h
    by_cases k0 : k = 1
    · rw [if_pos k0] at h; omega
    · rw [if_neg k0] at h
      omega
  · have e : gm_t 5 k = if k = 1 then 5 else 0 := rfl
    rw [e] at h
    by_cases k0 : k = 1
    · rw [if_pos k0] at h; omega
    · rw [if_neg k0] at h
      omega
  · have e : gm_t 6 k = 0 := rfl
    omega
  · have e : gm_t 7 k = if k < 4 then 11 + k else 0 := rfl
    rw [e] at h
    by_cases k0 : k < 4
    · rw [if_pos k0] at h; omega
    · rw [if_neg k0] at h
      omega
  · have e : gm_t 8 k = if k = 0 then 0 else if k = 11 then 0 else if k = 16 then 0 else if k = 26 then 0 else 21 + k := rfl
    rw [e] at h
    by_cases k0 : k = 0
    · rw [if_pos k0] at h; omega
    · rw [if_neg k0] at h
      by_cases k1 : k = 11
      · rw [if_pos k1] at h; omega
      · rw [if_neg k1] at h
        by_cases k2 : k = 16
        · rw [if_pos k2] at h; omega
        · rw [if_neg k2] at h
          by_cases k3 : k = 26
          · rw [if_pos k3] at h; omega
          · rw [if_neg k3] at h
            omega
  · have e : gm_t 9 k = 0 := rfl
    omega
  · have e : gm_t 10 k = 5 := rfl
    omega
  · have e : gm_t 11 k = 6 := rfl
    omega
  · have e : gm_t 12 k = 2 := rfl
    omega
  · have e : gm_t 13 k = 4 := rfl
    omega
  · have e : gm_t 14 k = 7 := rfl
    omega
  · rw [gm_t_big hb] at h; omega
/-- the numbers of a new network, with a, b, c of its rows' places filled -/
def cP (a b c : Nat) : gMem := fun f j k =>
  if f = 7 then (if k < 4 then 0 else if k = 7 then -1 else 0)
  else if f = 10 then (if k < a then nI k else -1)
  else if f = 11 then (if k < b then nI k else -1)
  else if f = 12 then (if k < c then nI k else -1)
  else if f = 4 then (if k = 0 then nI j else if k = 1 then (if j = 0 then -1 else 0) else 0)
  else if f = 5 then (if k = 0 then nI j else if k = 1 then nI (j % 6) else if k = 2 then 1 else if k = 3 then 100 else if k = 6 then -1 else 0)
  else if f = 1 then (if k = 0 then 200 else nI j)
  else -1
def iB : gIds := [(7, 0)] ++ [(10, 0)] ++ [(11, 0)] ++ [(12, 0)] ++ [(13, 0)]
def iR : Nat → gIds
  | 0 => iB
  | n + 1 => iR n ++ [(4, n)]
def iS : Nat → gIds
  | 0 => iR 6
  | n + 1 => iS n ++ [(5, n)]
def iU : Nat → gIds
  | 0 => iS 12
  | n + 1 => (iU n ++ [(1, n)]) ++ [(14, n)]
theorem iR_m {x : Nat × Nat} : ∀ n, x ∈ iR n ↔ x ∈ iB ∨ (x.1 = 4 ∧ x.2 < n)
  | 0 => ⟨fun h => Or.inl h, fun h => h.elim id (fun z => absurd z.2 (by omega))⟩
  | n + 1 => by
    rw [iR, List.mem_append, iR_m n, List.mem_singleton]
    obtain ⟨f, i⟩ := x
    simp only [Prod.mk.injEq]
    constructor
    · rintro ((h | h) | h)
      · exact Or.inl h
      · exact Or.inr ⟨h.1, by omega⟩
      · exact Or.inr ⟨h.1, by omega⟩
    · rintro (h | h)
      · exact Or.inl (Or.inl h)
      · by_cases e : i = n
        · exact Or.inr ⟨h.1, e⟩
        · exact Or.inl (Or.inr ⟨h.1, by omega⟩)
theorem iS_m {x : Nat × Nat} : ∀ n, x ∈ iS n ↔ x ∈ iR 6 ∨ (x.1 = 5 ∧ x.2 < n)
  | 0 => ⟨fun h => Or.inl h, fun h => h.elim id (fun z => absurd z.2 (by omega))⟩
  | n + 1 => by
    rw [iS, List.mem_append, iS_m n, List.mem_singleton]
    obtain ⟨f, i⟩ := x
    simp only [Prod.mk.injEq]
    constructor
    · rintro ((h | h) | h)
      · exact Or.inl h
      · exact Or.inr ⟨h.1, by omega⟩
      · exact Or.inr ⟨h.1, by omega⟩
    · rintro (h | h)
      · exact Or.inl (Or.inl h)
      · by_cases e : i = n
        · exact Or.inr ⟨h.1, e⟩
        · exact Or.inl (Or.inr ⟨h.1, by omega⟩)
theorem iU_m {x : Nat × Nat} : ∀ n, x ∈ iU n ↔ x ∈ iS 12 ∨ ((x.1 = 1 ∨ x.1 = 14) ∧ x.2 < n)
  | 0 => ⟨fun h => Or.inl h, fun h => h.elim id (fun z => absurd z.2 (by omega))⟩
  | n + 1 => by
    rw [iU, List.mem_append, List.mem_append, iU_m n, List.mem_singleton, List.mem_singleton]
    obtain ⟨f, i⟩ := x
    simp only [Prod.mk.injEq]
    constructor
    · rintro (((h | h) | h) | h)
      · exact Or.inl h
      · exact Or.inr ⟨h.1, by omega⟩
      · exact Or.inr ⟨Or.inl h.1, by omega⟩
      · exact Or.inr ⟨Or.inr h.1, by omega⟩
    · rintro (h | ⟨h1, h2⟩)
      · exact Or.inl (Or.inl (Or.inl h))
      · by_cases e : i = n
        · rcases h1 with h1 | h1
          · exact Or.inl (Or.inr ⟨h1, e⟩)
          · exact Or.inr ⟨h1, e⟩
        · exact Or.inl (Or.inl (Or.inr ⟨h1, by omega⟩))
theorem iB_m {x : Nat × Nat} : x ∈ iB ↔ x.2 = 0 ∧ (x.1 = 7 ∨ x.1 = 10 ∨ x.1 = 11 ∨ x.1 = 12 ∨ x.1 = 13) := by
  obtain ⟨f, i⟩ := x
  simp only [iB, List.mem_append, List.mem_singleton, Prod.mk.injEq]
  omega
theorem nI_neI {a b : Nat} (ha : a < 2 ^ 31) (h : a ≠ b) : tN (nI a) ≠ b := by rw [tN_nI ha]; exact h
/-- a place of a half filled row -/
theorem half_ne {k n : Nat} (hn : n < 2 ^ 31) : (if k < n then nI k else (-1 : Int32)) < 0 ∨ tN (if k < n then nI k else (-1 : Int32)) ≠ n := by
  by_cases h : k < n
  · rw [if_pos h]; right; exact nI_neI (by omega) (by omega)
  · rw [if_neg h]; left; decide
theorem cP_free4 {i : Nat} (hi : i < 6) : (4, i) ∉ iR i ∧ gFree (iR i) (cP i 0 0) 4 i := by
  refine ⟨fun h => ?_, ?_⟩
  · rcases (iR_m i).mp h with h | h
    · have := (iB_m.mp h).2; omega
    · exact absurd h.2 (by omega)
  · rintro ⟨g, j⟩ hx k hk ht
    rcases gm_t_i5 ht with ⟨rfl, rfl⟩ | ⟨rfl, rfl⟩ | rfl
    · have hji : j < i := by
        rcases (iR_m i).mp hx with h | h
        · have := (iB_m.mp h).2; omega
        · exact h.2
      show (if j = 0 then (-1 : Int32) else 0) < 0 ∨ tN (if j = 0 then (-1 : Int32) else 0) ≠ i
      by_cases e : j = 0
      · rw [if_pos e]; left; decide
      · rw [if_neg e]; right
        have : tN (0 : Int32) = 0 := by decide +kernel
        omega
    · rcases (iR_m i).mp hx with h | h
      · have := (iB_m.mp h).2; omega
      · exact absurd h.1 (by omega)
    · exact half_ne (by omega)
theorem cP_free5 {i : Nat} (hi : i < 12) : (5, i) ∉ iS i ∧ gFree (iS i) (cP 6 i 0) 5 i := by
  refine ⟨fun h => ?_, ?_⟩
  · rcases (iS_m i).mp h with h | h
    · rcases (iR_m 6).mp h with h | h
      · have := (iB_m.mp h).2; omega
      · exact absurd h.1 (by simp)
    · exact absurd h.2 (by omega)
  · rintro ⟨g, j⟩ hx k hk ht
    rcases gm_t_i6 ht with ⟨rfl, rfl⟩ | rfl
    · rcases (iS_m i).mp hx with h | h
      · rcases (iR_m 6).mp h with h | h
        · have := (iB_m.mp h).2; omega
        · exact absurd h.1 (by simp)
      · exact absurd h.1 (by simp)
    · exact half_ne (by omega)
theorem iU_no {x : Nat × Nat} {i : Nat} (h : x ∈ iU i) : x.1 = 7 ∨ x.1 = 10 ∨ x.1 = 11 ∨ x.1 = 12 ∨ x.1 = 13 ∨ x.1 = 4 ∨ x.1 = 5 ∨ ((x.1 = 1 ∨ x.1 = 14) ∧ x.2 < i) := by
  rcases (iU_m i).mp h with h | h
  · rcases (iS_m 12).mp h with h | h
    · rcases (iR_m 6).mp h with h | h
      · have := (iB_m.mp h).2; omega
      · omega
    · omega
  · omega
theorem cP_free1 {i : Nat} (hi : i < 6) : (1, i) ∉ iU i ∧ gFree (iU i) (cP 6 12 i) 1 i := by
  refine ⟨fun h => ?_, ?_⟩
  · have := iU_no h
    dsimp only at this
    omega
  · rintro ⟨g, j⟩ hx k hk ht
    rcases gm_t_i2 ht with ⟨rfl, rfl⟩ | rfl
    · have := iU_no hx
      dsimp only at this
      omega
    · exact half_ne (by omega)
theorem cP_free14 {i : Nat} (hi : i < 6) : (14, i) ∉ iU i ++ [(1, i)] ∧ gFree (iU i ++ [(1, i)]) (updR (cP 6 12 i) 1 i (gDef 1)) 14 i := by
  refine ⟨fun h => ?_, ?_⟩
  · rcases List.mem_append.mp h with h | h
    · have := iU_no h
      dsimp only at this
      omega
    · have := List.mem_singleton.mp h
      cases this
  · rintro ⟨g, j⟩ hx k hk ht
    obtain ⟨rfl, rfl⟩ := gm_t_i15 ht
    rcases List.mem_append.mp hx with h | h
    · have := iU_no h
      dsimp only at this ⊢
      rw [updR_far (by omega)]
      right
      show tN (nI j) ≠ i
      exact nI_neI (by omega) (by omega)
    · have e : j = i := congrArg Prod.snd (List.mem_singleton.mp h)
      subst e
      left
      rw [updR_s]; decide
section GWX
variable {p : Program} {l : Launch} {e : Env} {R : Room} {s : State} {m : MethodId} {args : Array Value} {below : List Frame} {meth : Method} {c : Code} {Q : State → Prop}
variable {pc nL : Nat} {D : va_G} {aC : Nat → ClassId} {A : Nat → Prop} {H : Heap} {locs : List Loc}
/-- a loop that makes cells -/
theorem g_whilex {σ : Type} (I : σ → Prop) (μ : σ → Nat) (Ids : σ → gIds) (Ad : σ → gAd) (St : σ → gMem) (Cs Ss : σ → Nat) (lv : σ → List (Nat × Value))
    (body : ∀ (x : σ) (H : Heap) (locs : List Loc) (ls : Array Slot), I x → gS D aC A s (Ids x) (Ad x) (St x) H locs → lv_has ls nL (lv x) →
      (∀ (y : σ) (H1 : Heap) (locs1 : List Loc) (ls1 : Array Slot), I y → μ y < μ x → gS D aC A s (Ids y) (Ad y) (St y) H1 locs1 → lv_has ls1 nL (lv y) → W p l e R s m args below meth c H1 locs1 (Cs y) (Ss y) Q (F0 m pc ls1 [])) →
      W p l e R s m args below meth c H locs (Cs x) (Ss x) Q (F0 m pc ls []))
    (x : σ) {H : Heap} {locs : List Loc} {ls : Array Slot} (hI : I x) (G : gS D aC A s (Ids x) (Ad x) (St x) H locs) (hl : lv_has ls nL (lv x)) : W p l e R s m args below meth c H locs (Cs x) (Ss x) Q (F0 m pc ls []) := by
  have key : ∀ (n : Nat) (x : σ) (H : Heap) (locs : List Loc) (ls : Array Slot), μ x < n → I x → gS D aC A s (Ids x) (Ad x) (St x) H locs → lv_has ls nL (lv x) → W p l e R s m args below meth c H locs (Cs x) (Ss x) Q (F0 m pc ls []) := by
    intro n
    induction n with
    | zero => intro x H locs ls hn; exact absurd hn (by omega)
    | succ n ih => intro x H locs ls hn hI G hl; exact body x H locs ls hI G hl (fun y H1 locs1 ls1 hy hm G1 hl1 => ih y H1 locs1 ls1 (by omega) hy G1 hl1)
  exact key (μ x + 1) x H locs ls (by omega) hI G hl
end GWX
theorem gFree.app0 {ids : gIds} {π : gMem} {f i g j : Nat} (h : gFree ids π f i) (ht : ∀ k, gm_t g k ≠ f + 1) : gFree (ids ++ [(g, j)]) π f i := fun x hx k hk hkt => by
  rcases List.mem_append.mp hx with h1 | h1
  · exact h x h1 k hk hkt
  · obtain rfl := List.mem_singleton.mp h1
    exact absurd hkt (ht k)
theorem gFree.updR {ids : gIds} {π : gMem} {f i g j : Nat} {r : Nat → Int32} (h : gFree ids π f i) (ht : ∀ k, gm_t g k ≠ f + 1) : gFree ids (updR π g j r) f i := fun x hx k hk hkt => by
  have : ¬ (x.1 = g ∧ x.2 = j) := fun z => ht k (by rw [← z.1]; exact hkt)
  rw [updR_far this]; exact h x hx k hk hkt
theorem new7_free {κ : gMem} (h7 : ∀ k, κ 7 0 k = gDef 7 k) (f : Nat) : gFree [(7, 0)] κ f 0 := by
  rintro ⟨g, j⟩ hx k hk ht
  have e := List.mem_singleton.mp hx
  cases e
  left
  show κ 7 0 k < 0
  rw [h7]
  have h : gm_t 7 k ≠ 0 := by rw [show gm_t 7 k = f + 1 from ht]; omega
  show (if gm_t 7 k = 0 then (0 : Int32) else -1) < 0
  rw [if_neg h]; decide
theorem cP_a {a a' b c g j k : Nat} (h : g ≠ 10) : cP a b c g j k = cP a' b c g j k := by simp [cP, h]
theorem cP_b {a b b' c g j k : Nat} (h : g ≠ 11) : cP a b c g j k = cP a b' c g j k := by simp [cP, h]
theorem cP_c {a b c c' g j k : Nat} (h : g ≠ 12) : cP a b c g j k = cP a b c' g j k := by simp [cP, h]
theorem half_step {k i : Nat} : (if k < i + 1 then nI k else (-1 : Int32)) = (if k = i then nI i else if k < i then nI k else -1) := by
  by_cases e : k = i
  · subst e; rw [if_pos (by omega), if_pos rfl]
  · rw [if_neg e]
    by_cases h : k < i
    · rw [if_pos h, if_pos (by omega)]
    · rw [if_neg h, if_neg (by omega)]
theorem cP_step4 {i : Nat} (h1 : 1 ≤ i) : ∀ x ∈ iR (i + 1), ∀ k, k < gm_n x.1 → cP (i + 1) 0 0 x.1 x.2 k = upd3 (updR (updR (cP i 0 0) 4 i (gDef 4)) 4 i (fun k => if k = 0 then nI i else if k = 1 then nI 0 else 0)) 10 0 i (nI i) x.1 x.2 k := by
  rintro ⟨g, j⟩ hx k hk
  dsimp only at hk ⊢
  rcases List.mem_append.mp hx with hx | hx
  · have hz := (iR_m i).mp hx
    rw [iB_m] at hz
    dsimp only at hz
    by_cases h10 : g = 10
    · subst h10
      obtain rfl : j = 0 := by omega
      show (if k < i + 1 then nI k else -1) = _
      rw [half_step]
      by_cases e : k = i
      · subst e; rw [upd3_s, if_pos rfl]
      · rw [upd3_k e, if_neg e, updR_far (by omega), updR_far (by omega)]; rfl
    · rw [upd3_f h10, updR_far (by omega), updR_far (by omega)]; exact cP_a h10
  · cases List.mem_singleton.mp hx
    have hk : k < 4 := hk
    rw [upd3_f (by decide), updR_s]
    have hi0 : ¬ i = 0 := by omega
    rcases (by omega : k = 0 ∨ k = 1 ∨ k = 2 ∨ k = 3) with rfl | rfl | rfl | rfl <;> simp [cP, nI_0, hi0]
theorem cP_step40 : ∀ x ∈ iR 1, ∀ k, k < gm_n x.1 → cP 1 0 0 x.1 x.2 k = upd3 (updR (updR (cP 0 0 0) 4 0 (gDef 4)) 4 0 (fun k => if k = 0 then 0 else if k = 1 then -1 else 0)) 10 0 0 (nI 0) x.1 x.2 k := by
  rintro ⟨g, j⟩ hx k hk
  dsimp only at hk ⊢
  rcases List.mem_append.mp hx with hx | hx
  · have hz := iB_m.mp hx
    dsimp only at hz
    by_cases h10 : g = 10
    · subst h10
      obtain rfl : j = 0 := by omega
      show (if k < 0 + 1 then nI k else -1) = _
      rw [half_step]
      by_cases e : k = 0
      · subst e; rw [upd3_s, if_pos rfl]
      · rw [upd3_k e, if_neg e, updR_far (by omega), updR_far (by omega)]; rfl
    · rw [upd3_f h10, updR_far (by omega), updR_far (by omega)]; exact cP_a h10
  · cases List.mem_singleton.mp hx
    have hk : k < 4 := hk
    rw [upd3_f (by decide), updR_s]
    rcases (by omega : k = 0 ∨ k = 1 ∨ k = 2 ∨ k = 3) with rfl | rfl | rfl | rfl <;> simp [cP, nI_0]
theorem cP_step5 {i : Nat} : ∀ x ∈ iS (i + 1), ∀ k, k < gm_n x.1 → cP 6 (i + 1) 0 x.1 x.2 k = upd3 (updR (updR (cP 6 i 0) 5 i (gDef 5)) 5 i (fun k => if k = 0 then nI i else if k = 1 then nI (i % 6) else if k = 2 then 1 else if k = 3 then 100 else if k = 6 then -1 else 0)) 11 0 i (nI i) x.1 x.2 k := by
  rintro ⟨g, j⟩ hx k hk
  dsimp only at hk ⊢
  rcases List.mem_append.mp hx with hx | hx
  · have hz := (iS_m i).mp hx
    rw [iR_m, iB_m] at hz
    dsimp only at hz
    by_cases h10 : g = 11
    · subst h10
      obtain rfl : j = 0 := by omega
      show (if k < i + 1 then nI k else -1) = _
      rw [half_step]
      by_cases e : k = i
      · subst e; rw [upd3_s, if_pos rfl]
      · rw [upd3_k e, if_neg e, updR_far (by omega), updR_far (by omega)]; rfl
    · rw [upd3_f h10, updR_far (by omega), updR_far (by omega)]; exact cP_b h10
  · cases List.mem_singleton.mp hx
    have hk : k < 7 := hk
    rw [upd3_f (by decide), updR_s]
    rcases (by omega : k = 0 ∨ k = 1 ∨ k = 2 ∨ k = 3 ∨ k = 4 ∨ k = 5 ∨ k = 6) with rfl | rfl | rfl | rfl | rfl | rfl | rfl <;> simp [cP]
theorem cP_step1 {i : Nat} : ∀ x ∈ iU (i + 1), ∀ k, k < gm_n x.1 → cP 6 12 (i + 1) x.1 x.2 k = upd3 (updR (updR (updR (cP 6 12 i) 1 i (gDef 1)) 14 i (fun _ => -1)) 1 i (fun k => if k = 0 then 200 else nI i)) 12 0 i (nI i) x.1 x.2 k := by
  rintro ⟨g, j⟩ hx k hk
  dsimp only at hk ⊢
  rcases List.mem_append.mp hx with hx | hx
  · rcases List.mem_append.mp hx with hx | hx
    · have hz := iU_no hx
      have hz2 := (iU_m i).mp hx
      rw [iS_m, iR_m, iB_m] at hz2
      dsimp only at hz hz2
      by_cases h10 : g = 12
      · subst h10
        obtain rfl : j = 0 := by omega
        show (if k < i + 1 then nI k else -1) = _
        rw [half_step]
        by_cases e : k = i
        · subst e; rw [upd3_s, if_pos rfl]
        · rw [upd3_k e, if_neg e, updR_far (by omega), updR_far (by omega), updR_far (by omega)]; rfl
      · rw [upd3_f h10, updR_far (by omega), updR_far (by omega), updR_far (by omega)]; exact cP_c h10
    · cases List.mem_singleton.mp hx
      have hk : k < 2 := hk
      rw [upd3_f (by decide), updR_s]
      rcases (by omega : k = 0 ∨ k = 1) with rfl | rfl <;> simp [cP]
  · cases List.mem_singleton.mp hx
    rw [upd3_f (by decide), updR_far (by omega), updR_s]
    rfl
theorem rem6 {i : Nat} (h : i < 2 ^ 31) : nI i - nI i / 6 * 6 = nI (i % 6) := by
  rw [show (6 : Int32) = nI 6 from rfl, pk_div h (by decide) (by decide), pk_mul, pk_sub (by omega)]
  congr 1
  omega
set_option maxHeartbeats 4000000 in
set_option maxRecDepth 100000 in
theorem c_X6_init (l : Launch) (ad : gAd) (κ : gMem) (h7 : ∀ k, κ 7 0 k = gDef 7 k)  : gMv l yX6_init wsX6_init ({ frames := 2, cells := 40, slots := 300, locals := 34 } : Room) 40 300 [.ref (ad 7 0)] ([(7, 0)], ad, κ) (fun u => ∃ ad1, ad1 7 0 = ad 7 0 ∧ u = (iU 6, ad1, cP 6 12 6)) := by
  intro D aC A
  refine g_of (cc := cX6_init) (maxL := 3) (ret := none) (by decide +kernel) rfl (Nat.le_of_ble_eq_true rfl) ?_
  intro p e s m below meth c ls S G hF hr hlk hnm hl
  have hl : lv_has ls 3 [(0, _)] := hl
  have i1 : ∀ w ∈ wsX00, w ∈ wsX6_init := by decide +kernel
  have i4 : ∀ w ∈ wsX30, w ∈ wsX6_init := by decide +kernel
  have i5 : ∀ w ∈ wsX40, w ∈ wsX6_init := by decide +kernel
  have i7 : ∀ w ∈ wsX60, w ∈ wsX6_init := by decide +kernel
  refine lv_aload_n S.1 S.2.1 dX6_init_0 rfl (lv_at hl 0 rfl) ?_
  refine g_objInit S hl (by decide +kernel) (by decide +kernel) (by decide +kernel) (Nat.le_of_ble_eq_true rfl) (Nat.le_of_ble_eq_true rfl) dX6_init_1 ?_
  have v7 : (7, 0) ∈ ([(7, 0)] : gIds) := by decide
  refine lv_aload_n S.1 S.2.1 dX6_init_4 rfl (lv_at hl 0 rfl) ?_
  refine lv_bipush (v := 6) S.1 S.2.1 dX6_init_5 (by decide) ?_
  refine g_newq S G 10 0 rfl rfl (by decide +kernel) (hF.2.2.2.2.2.1 _ (by decide)) (show (10, 0) ∉ ([(7, 0)] : gIds) by decide) (new7_free h7 10) rfl (Nat.le_of_ble_eq_true rfl) (Nat.le_of_ble_eq_true rfl) (Nat.le_of_ble_eq_true rfl) dX6_init_7 (fun q_7 H G => ?_)
  have v7 : (7, 0) ∈ ([(7, 0)] ++ [(10, 0)] : gIds) := by decide
  refine g_putF (ty := (.array (.object "SensorBond$Repeater"))) S hnm G 7 0 v7 (by decide) (by decide) i7 (S.2.2.2.2 (.fieldLink RX6 11 "SensorBond" "repeaters" "[LSensorBond$Repeater;") (by decide +kernel)) rfl rfl (by decide +kernel) rfl rfl (gw_r rfl (by omega)) dX6_init_10 (fun H locs G => ?_)
  refine lv_aload_n S.1 S.2.1 dX6_init_13 rfl (lv_at hl 0 rfl) ?_
  refine lv_bipush (v := 12) S.1 S.2.1 dX6_init_14 (by decide) ?_
  refine g_newq S G 11 0 rfl rfl (by decide +kernel) (hF.2.2.2.2.2.1 _ (by decide)) (show (11, 0) ∉ (([(7, 0)] ++ [(10, 0)]) : gIds) by decide) ((((new7_free h7 11).updR (g := 10) (j := 0) (fun _ => show (5 : Nat) ≠ 12 by decide)).app0 (g := 10) (j := 0) (fun _ => show (5 : Nat) ≠ 12 by decide)).upd (g := 7) (j := 0) (k := 0) (by decide)) rfl (Nat.le_of_ble_eq_true rfl) (Nat.le_of_ble_eq_true rfl) (Nat.le_of_ble_eq_true rfl) dX6_init_16 (fun q_16 H G => ?_)
  have v7 : (7, 0) ∈ (([(7, 0)] ++ [(10, 0)]) ++ [(11, 0)] : gIds) := by decide
  refine g_putF (ty := (.array (.object "SensorBond$Sensor"))) S hnm G 7 1 v7 (by decide) (by decide) i7 (S.2.2.2.2 (.fieldLink RX6 17 "SensorBond" "sensors" "[LSensorBond$Sensor;") (by decide +kernel)) rfl rfl (by decide +kernel) rfl rfl (gw_r rfl (by omega)) dX6_init_19 (fun H locs G => ?_)
  refine lv_aload_n S.1 S.2.1 dX6_init_22 rfl (lv_at hl 0 rfl) ?_
  refine lv_bipush (v := 6) S.1 S.2.1 dX6_init_23 (by decide) ?_
  refine g_newq S G 12 0 rfl rfl (by decide +kernel) (hF.2.2.2.2.2.1 _ (by decide)) (show (12, 0) ∉ ((([(7, 0)] ++ [(10, 0)]) ++ [(11, 0)]) : gIds) by decide) (((((((new7_free h7 12).updR (g := 10) (j := 0) (fun _ => show (5 : Nat) ≠ 13 by decide)).app0 (g := 10) (j := 0) (fun _ => show (5 : Nat) ≠ 13 by decide)).upd (g := 7) (j := 0) (k := 0) (by decide)).updR (g := 11) (j := 0) (fun _ => show (6 : Nat) ≠ 13 by decide)).app0 (g := 11) (j := 0) (fun _ => show (6 : Nat) ≠ 13 by decide)).upd (g := 7) (j := 0) (k := 1) (by decide)) rfl (Nat.le_of_ble_eq_true rfl) (Nat.le_of_ble_eq_true rfl) (Nat.le_of_ble_eq_true rfl) dX6_init_25 (fun q_25 H G => ?_)
  have v7 : (7, 0) ∈ ((([(7, 0)] ++ [(10, 0)]) ++ [(11, 0)]) ++ [(12, 0)] : gIds) := by decide
  refine g_putF (ty := (.array (.object "SensorBond$Buyer"))) S hnm G 7 2 v7 (by decide) (by decide) i7 (S.2.2.2.2 (.fieldLink RX6 23 "SensorBond" "buyers" "[LSensorBond$Buyer;") (by decide +kernel)) rfl rfl (by decide +kernel) rfl rfl (gw_r rfl (by omega)) dX6_init_28 (fun H locs G => ?_)
  refine lv_aload_n S.1 S.2.1 dX6_init_31 rfl (lv_at hl 0 rfl) ?_
  refine lv_bipush (v := 80) S.1 S.2.1 dX6_init_32 (by decide) ?_
  refine g_newq S G 13 0 rfl rfl (by decide +kernel) (hF.2.2.2.2.2.1 _ (by decide)) (show (13, 0) ∉ (((([(7, 0)] ++ [(10, 0)]) ++ [(11, 0)]) ++ [(12, 0)]) : gIds) by decide) ((((((((((new7_free h7 13).updR (g := 10) (j := 0) (fun _ => show (5 : Nat) ≠ 14 by decide)).app0 (g := 10) (j := 0) (fun _ => show (5 : Nat) ≠ 14 by decide)).upd (g := 7) (j := 0) (k := 0) (by decide)).updR (g := 11) (j := 0) (fun _ => show (6 : Nat) ≠ 14 by decide)).app0 (g := 11) (j := 0) (fun _ => show (6 : Nat) ≠ 14 by decide)).upd (g := 7) (j := 0) (k := 1) (by decide)).updR (g := 12) (j := 0) (fun _ => show (2 : Nat) ≠ 14 by decide)).app0 (g := 12) (j := 0) (fun _ => show (2 : Nat) ≠ 14 by decide)).upd (g := 7) (j := 0) (k := 2) (by decide)) rfl (Nat.le_of_ble_eq_true rfl) (Nat.le_of_ble_eq_true rfl) (Nat.le_of_ble_eq_true rfl) dX6_init_34 (fun q_34 H G => ?_)
  have v7 : (7, 0) ∈ (((([(7, 0)] ++ [(10, 0)]) ++ [(11, 0)]) ++ [(12, 0)]) ++ [(13, 0)] : gIds) := by decide
  refine g_putF (ty := (.array (.object "SensorBond$Reading"))) S hnm G 7 3 v7 (by decide) (by decide) i7 (S.2.2.2.2 (.fieldLink RX6 29 "SensorBond" "readings" "[LSensorBond$Reading;") (by decide +kernel)) rfl rfl (by decide +kernel) rfl rfl (gw_r rfl (by omega)) dX6_init_37 (fun H locs G => ?_)
  refine lv_aload_n S.1 S.2.1 dX6_init_40 rfl (lv_at hl 0 rfl) ?_
  refine lv_iconst (v := 0) S.1 S.2.1 dX6_init_41 (by decide) ?_
  refine g_put (ty := .int) S G 7 4 v7 (by decide) (by decide) i7 (S.2.2.2.2 (.fieldLink RX6 33 "SensorBond" "readingCount" "I") (by decide +kernel)) rfl (by decide +kernel) rfl rfl (gw_i rfl) dX6_init_42 (fun H locs G => ?_)
  refine lv_aload_n S.1 S.2.1 dX6_init_45 rfl (lv_at hl 0 rfl) ?_
  refine lv_iconst (v := 0) S.1 S.2.1 dX6_init_46 (by decide) ?_
  refine g_put (ty := .int) S G 7 5 v7 (by decide) (by decide) i7 (S.2.2.2.2 (.fieldLink RX6 37 "SensorBond" "house" "I") (by decide +kernel)) rfl (by decide +kernel) rfl rfl (gw_i rfl) dX6_init_47 (fun H locs G => ?_)
  refine lv_aload_n S.1 S.2.1 dX6_init_50 rfl (lv_at hl 0 rfl) ?_
  refine lv_iconst (v := 0) S.1 S.2.1 dX6_init_51 (by decide) ?_
  refine g_put (ty := .int) S G 7 6 v7 (by decide) (by decide) i7 (S.2.2.2.2 (.fieldLink RX6 40 "SensorBond" "tick" "I") (by decide +kernel)) rfl (by decide +kernel) rfl rfl (gw_i rfl) dX6_init_52 (fun H locs G => ?_)
  refine lv_aload_n S.1 S.2.1 dX6_init_55 rfl (lv_at hl 0 rfl) ?_
  refine lv_iconst (v := (-1)) S.1 S.2.1 dX6_init_56 (by decide) ?_
  refine g_put (ty := .int) S G 7 7 v7 (by decide) (by decide) i7 (S.2.2.2.2 (.fieldLink RX6 43 "SensorBond" "busyUntil" "I") (by decide +kernel)) rfl (by decide +kernel) rfl rfl (gw_i rfl) dX6_init_57 (fun H locs G => ?_)
  have G : gS D aC A s (iB) _ (cP 0 0 0) H locs := G.conv (by
    rintro ⟨g, jj⟩ hx k hk
    obtain ⟨e0, hg⟩ := iB_m.mp hx
    dsimp only at e0 hg hk ⊢
    subst e0
    rcases hg with rfl | rfl | rfl | rfl | rfl
    · have hk : k < 8 := hk
      rcases (by omega : k = 0 ∨ k = 1 ∨ k = 2 ∨ k = 3 ∨ k = 4 ∨ k = 5 ∨ k = 6 ∨ k = 7) with rfl | rfl | rfl | rfl | rfl | rfl | rfl | rfl <;> simp [upd3, updR, cP, nI_0]
    · simp [upd3, updR, cP]
    · simp [upd3, updR, cP]
    · simp [upd3, updR, cP]
    · simp [upd3, updR, cP])
  show W p l e _ s m _ below meth c H _ 4 104 _ _
  obtain ⟨hn4, hf4⟩ := cP_free4 (i := 0) (by decide)
  refine g_new S G 4 0 (by decide) i4 (by decide +kernel) (by decide +kernel) (by decide +kernel) hn4 hf4 (Nat.le_of_ble_eq_true rfl) (Nat.le_of_ble_eq_true rfl) dX6_init_60 (fun q_60 H G => ?_)
  have v4 : (4, 0) ∈ iR 1 := List.mem_append_right _ List.mem_cons_self
  have v7 : (7, 0) ∈ iR 1 := List.mem_append_left _ (by decide)
  have v10 : (10, 0) ∈ iR 1 := List.mem_append_left _ (by decide)
  refine lv_dup S.1 S.2.1 dX6_init_63 rfl ?_
  refine lv_iconst (v := 0) S.1 S.2.1 dX6_init_64 (by decide) ?_
  refine lv_null S.1 S.2.1 dX6_init_65 ?_
  refine g_cJv S G hF hl _ (c_X3_inith l _ _ _ _ _ v4) ⟨va_cnB 2 S.2.2.2.2 gX6_init_X3_init_n46 rfl rfl rfl (gm_0 hF) (S.2.2.2.2 (.initialized RX3) (by decide +kernel)) (by decide +kernel) ⟨Nat.le_of_ble_eq_true rfl, Nat.le_of_ble_eq_true rfl⟩, rfl, S.2.2.2.2 (.instanceMethod yX3_init) (by decide +kernel)⟩ rfl rfl (Nat.le_of_ble_eq_true rfl) dX6_init_66 ⟨Nat.le_of_ble_eq_true rfl, Nat.le_of_ble_eq_true rfl⟩ (fun u_66 H locs hp_66 G => ?_)
  obtain rfl := hp_66
  refine lv_astore_n (lv' := [(1, _), (0, _)]) S.1 S.2.1 dX6_init_69 rfl hl (by decide) rfl (fun ls hl => ?_)
  refine lv_aload_n S.1 S.2.1 dX6_init_70 rfl (lv_at hl 1 rfl) ?_
  refine g_get S G 7 0 v7 (by decide) (by decide) i7 (S.2.2.2.2 (.fieldLink RX6 11 "SensorBond" "repeaters" "[LSensorBond$Repeater;") (by decide +kernel)) (gv_r (j := 0) rfl rfl (by omega)) dX6_init_71 ?_
  refine lv_iconst (v := 0) S.1 S.2.1 dX6_init_74 (by decide) ?_
  refine lv_aload_n S.1 S.2.1 dX6_init_75 rfl (lv_at hl 0 rfl) ?_
  refine g_aast S G 10 4 v10 v4 (by decide) (by omega) rfl rfl rfl rfl (show 0 < 6 by decide) dX6_init_76 (fun H locs G => ?_)
  have G : gS D aC A s (iR 1) _ (cP 1 0 0) H locs := gS.conv (ids := iR 1) G cP_step40
  show W p l e _ s m _ below meth c H _ 5 108 _ _
  refine lv_iconst (v := 1) S.1 S.2.1 dX6_init_77 (by decide) ?_
  refine lv_istore_n (lv' := [(2, _), (1, _), (0, _)]) S.1 S.2.1 dX6_init_78 rfl hl (by decide) rfl (fun ls hl => ?_)
  refine g_whilex (σ := Nat × gAd) (fun y => 1 ≤ y.1 ∧ y.1 ≤ 6 ∧ y.2 7 0 = ad 7 0) (fun y => 6 - y.1) (fun y => iR y.1) (fun y => y.2) (fun y => cP y.1 0 0) (fun y => 4 + y.1) (fun y => 104 + 4 * y.1) (fun y => [(2, .int (nI y.1)), (1, .ref (y.2 4 0)), (0, .ref (y.2 7 0))]) ?_ (1, _) ⟨(by show 1 ≤ 1; decide), (by show 1 ≤ 6; decide), (by rfl)⟩ G (by exact lv_sub hl [0, 1, 2] rfl)
  rintro ⟨i, ad1⟩ H locs ls ⟨hi1, hi6, had⟩ G hl ih_79
  dsimp only at hi6 had G hl ih_79
  have v7 : (7, 0) ∈ iR i := (iR_m _).mpr (Or.inl (iB_m.mpr (by decide)))
  have v10 : (10, 0) ∈ iR i := (iR_m _).mpr (Or.inl (iB_m.mpr (by decide)))
  have hl : lv_has ls 3 [(2, _), (1, _), (0, _)] := hl
  refine lv_iload_n S.1 S.2.1 dX6_init_79 rfl (lv_at hl 0 rfl) ?_
  refine lv_bipush (v := 6) S.1 S.2.1 dX6_init_80 (by decide) ?_
  refine lv_icmp_ge (tgt := 106) S.1 S.2.1 dX6_init_82 (by decide) (fun c_82 => ?_) (fun c_82 => ?_)
  · have hkN : i = 6 := g_exit c_82 hi6 (by omega)
    subst hkN
    show W p l e _ s m _ below meth c H _ 10 128 _ _
    refine lv_iconst (v := 0) S.1 S.2.1 dX6_init_106 (by decide) ?_
    refine lv_istore_n (lv' := [(2, _), (1, _), (0, _)]) S.1 S.2.1 dX6_init_107 rfl hl (by decide) rfl (fun ls hl => ?_)
    refine g_whilex (σ := Nat × gAd) (fun y =>  y.1 ≤ 12 ∧ y.2 7 0 = ad 7 0) (fun y => 12 - y.1) (fun y => iS y.1) (fun y => y.2) (fun y => cP 6 y.1 0) (fun y => 10 + y.1) (fun y => 128 + 7 * y.1) (fun y => [(2, .int (nI y.1)), (0, .ref (y.2 7 0))]) ?_ (0, _) ⟨(by exact Nat.zero_le _), (by exact had)⟩ G (by exact lv_sub hl [0, 2] rfl)
    rintro ⟨i, ad1⟩ H locs ls ⟨hi6, had⟩ G hl ih_108
    dsimp only at hi6 had G hl ih_108
    have v7 : (7, 0) ∈ iS i := (iS_m _).mpr (Or.inl ((iR_m _).mpr (Or.inl (iB_m.mpr (by decide)))))
    have v11 : (11, 0) ∈ iS i := (iS_m _).mpr (Or.inl ((iR_m _).mpr (Or.inl (iB_m.mpr (by decide)))))
    have hl : lv_has ls 3 [(2, _), (0, _)] := hl
    refine lv_iload_n S.1 S.2.1 dX6_init_108 rfl (lv_at hl 0 rfl) ?_
    refine lv_bipush (v := 12) S.1 S.2.1 dX6_init_109 (by decide) ?_
    refine lv_icmp_ge (tgt := 143) S.1 S.2.1 dX6_init_111 (by decide) (fun c_111 => ?_) (fun c_111 => ?_)
    · have hkN : i = 12 := g_exit c_111 hi6 (by omega)
      subst hkN
      show W p l e _ s m _ below meth c H _ 22 212 _ _
      refine lv_iconst (v := 0) S.1 S.2.1 dX6_init_143 (by decide) ?_
      refine lv_istore_n (lv' := [(2, _), (0, _)]) S.1 S.2.1 dX6_init_144 rfl hl (by decide) rfl (fun ls hl => ?_)
      refine g_whilex (σ := Nat × gAd) (fun y =>  y.1 ≤ 6 ∧ y.2 7 0 = ad 7 0) (fun y => 6 - y.1) (fun y => iU y.1) (fun y => y.2) (fun y => cP 6 12 y.1) (fun y => 22 + 2 * y.1) (fun y => 212 + 14 * y.1) (fun y => [(2, .int (nI y.1)), (0, .ref (y.2 7 0))]) ?_ (0, _) ⟨(by exact Nat.zero_le _), (by exact had)⟩ G (by exact lv_sub hl [0, 1] rfl)
      rintro ⟨i, ad1⟩ H locs ls ⟨hi6, had⟩ G hl ih_145
      dsimp only at hi6 had G hl ih_145
      have v7 : (7, 0) ∈ iU i := (iU_m _).mpr (Or.inl ((iS_m _).mpr (Or.inl ((iR_m _).mpr (Or.inl (iB_m.mpr (by decide)))))))
      have v12 : (12, 0) ∈ iU i := (iU_m _).mpr (Or.inl ((iS_m _).mpr (Or.inl ((iR_m _).mpr (Or.inl (iB_m.mpr (by decide)))))))
      have hl : lv_has ls 3 [(2, _), (0, _)] := hl
      refine lv_iload_n S.1 S.2.1 dX6_init_145 rfl (lv_at hl 0 rfl) ?_
      refine lv_bipush (v := 6) S.1 S.2.1 dX6_init_146 (by decide) ?_
      refine lv_icmp_ge (tgt := 170) S.1 S.2.1 dX6_init_148 (by decide) (fun c_148 => ?_) (fun c_148 => ?_)
      · have hkN : i = 6 := g_exit c_148 hi6 (by omega)
        subst hkN
        show W p l e _ s m _ below meth c H _ 34 296 _ _
        exact g_vret S G hr hlk (⟨ad1, had, rfl⟩) (Nat.le_of_ble_eq_true rfl) (Nat.le_of_ble_eq_true rfl) dX6_init_170
      · have hlt : i < 6 := g_stay c_148 hi6 (by omega)
        refine lv_aload_n S.1 S.2.1 dX6_init_151 rfl (lv_at hl 1 rfl) ?_
        refine g_get S G 7 2 v7 (by decide) (by decide) i7 (S.2.2.2.2 (.fieldLink RX6 23 "SensorBond" "buyers" "[LSensorBond$Buyer;") (by decide +kernel)) (gv_r (j := 0) rfl rfl (by omega)) dX6_init_152 ?_
        refine lv_iload_n S.1 S.2.1 dX6_init_155 rfl (lv_at hl 0 rfl) ?_
        obtain ⟨hn1, hf1⟩ := cP_free1 (i := i) hlt
        obtain ⟨hn14, hf14⟩ := cP_free14 (i := i) hlt
        refine g_new S G 1 i (by decide) i1 (by decide +kernel) (by decide +kernel) (by decide +kernel) hn1 hf1 (by show 22 + 2 * i + 1 ≤ 40; omega) (by show 212 + 14 * i + 2 ≤ 300; omega) dX6_init_156 (fun q_156 H G => ?_)
        have v1i : (1, i) ∈ iU i ++ [(1, i)] := List.mem_append_right _ List.mem_cons_self
        refine lv_dup S.1 S.2.1 dX6_init_159 rfl ?_
        refine g_cJv S G hF hl _ (c_X0_init l _ _ _ _ v1i hlt hn14 hf14) ⟨va_cnB 0 S.2.2.2.2 gX6_init_X0_init_n50 rfl rfl rfl (gm_2 hF) (S.2.2.2.2 (.initialized RX0) (by decide +kernel)) (by decide +kernel) ⟨Nat.le_of_ble_eq_true rfl, Nat.le_of_ble_eq_true rfl⟩, rfl, S.2.2.2.2 (.instanceMethod yX0_init) (by decide +kernel)⟩ rfl rfl (Nat.le_of_ble_eq_true rfl) dX6_init_160 ⟨by show 22 + 2 * i + 1 + 1 ≤ 40; omega, by show 212 + 14 * i + 2 + 12 ≤ 300; omega⟩ (fun u_160 H locs hp_160 G => ?_)
        obtain ⟨q_160, rfl⟩ := hp_160
        have v1i : (1, i) ∈ iU (i + 1) := List.mem_append_left _ v1i
        have v12 : (12, 0) ∈ iU (i + 1) := (iU_m _).mpr (Or.inl ((iS_m _).mpr (Or.inl ((iR_m _).mpr (Or.inl (iB_m.mpr (by decide)))))))
        refine g_aast S G 12 1 v12 v1i (by decide) (by omega) rfl rfl rfl rfl (show i < 6 from hlt) dX6_init_163 (fun H locs G => ?_)
        refine lv_iinc (k := 0) (lv' := [(2, _), (0, _)]) S.1 S.2.1 dX6_init_164 hl rfl (g_inc _) (by decide) rfl (fun ls hl => ?_)
        refine lv_goto (tgt := 145) S.1 S.2.1 dX6_init_167 (by decide) ?_
        have G : gS D aC A s (iU (i + 1)) _ (cP 6 12 (i + 1)) H locs := gS.conv (ids := iU (i + 1)) G cP_step1
        exact ih_145 (i + 1, _) H locs ls ⟨by show i + 1 ≤ 6; omega, by exact had⟩ (by show 6 - (i + 1) < 6 - i; omega) G (lv_sub hl [0, 1] rfl)
    · have hlt : i < 12 := g_stay c_111 hi6 (by omega)
      refine lv_aload_n S.1 S.2.1 dX6_init_114 rfl (lv_at hl 1 rfl) ?_
      refine g_get S G 7 1 v7 (by decide) (by decide) i7 (S.2.2.2.2 (.fieldLink RX6 17 "SensorBond" "sensors" "[LSensorBond$Sensor;") (by decide +kernel)) (gv_r (j := 0) rfl rfl (by omega)) dX6_init_115 ?_
      refine lv_iload_n S.1 S.2.1 dX6_init_118 rfl (lv_at hl 0 rfl) ?_
      obtain ⟨hn5, hf5⟩ := cP_free5 (i := i) hlt
      have hi31 : i < 2 ^ 31 := by omega
      refine g_new S G 5 i (by decide) i5 (by decide +kernel) (by decide +kernel) (by decide +kernel) hn5 hf5 (by show 10 + i + 1 ≤ 40; omega) (by show 128 + 7 * i + 7 ≤ 300; omega) dX6_init_119 (fun q_119 H G => ?_)
      have v5i : (5, i) ∈ iS (i + 1) := List.mem_append_right _ List.mem_cons_self
      have v7 : (7, 0) ∈ iS (i + 1) := (iS_m _).mpr (Or.inl ((iR_m _).mpr (Or.inl (iB_m.mpr (by decide)))))
      have v10 : (10, 0) ∈ iS (i + 1) := (iS_m _).mpr (Or.inl ((iR_m _).mpr (Or.inl (iB_m.mpr (by decide)))))
      have v11 : (11, 0) ∈ iS (i + 1) := (iS_m _).mpr (Or.inl ((iR_m _).mpr (Or.inl (iB_m.mpr (by decide)))))
      refine lv_dup S.1 S.2.1 dX6_init_122 rfl ?_
      refine lv_iload_n S.1 S.2.1 dX6_init_123 rfl (lv_at hl 0 rfl) ?_
      refine lv_aload_n S.1 S.2.1 dX6_init_124 rfl (lv_at hl 1 rfl) ?_
      refine g_get S G 7 0 v7 (by decide) (by decide) i7 (S.2.2.2.2 (.fieldLink RX6 11 "SensorBond" "repeaters" "[LSensorBond$Repeater;") (by decide +kernel)) (gv_r (j := 0) rfl rfl (by omega)) dX6_init_125 ?_
      refine lv_iload_n S.1 S.2.1 dX6_init_128 rfl (lv_at hl 0 rfl) ?_
      refine lv_bipush (v := 6) S.1 S.2.1 dX6_init_129 (by decide) ?_
      refine lv_irem S.1 S.2.1 dX6_init_131 (by decide) ?_
      refine g_aald S G 10 v10 rfl rfl (rem6 hi31) (show i % 6 < 6 from Nat.mod_lt _ (by decide)) (gq_r (g := 4) (j := (i % 6)) rfl (by show (if i % 6 < 6 then nI (i % 6) else -1) = nI (i % 6); rw [if_pos (Nat.mod_lt _ (by decide))]) (by omega)) dX6_init_132 ?_
      refine g_cJv S G hF hl _ (c_X4_init l _ _ _ _ _ _ v5i (Nat.mod_lt _ (by decide))) ⟨va_cnB 2 S.2.2.2.2 gX6_init_X4_init_n49 rfl rfl rfl (gm_1 hF) (S.2.2.2.2 (.initialized RX4) (by decide +kernel)) (by decide +kernel) ⟨Nat.le_of_ble_eq_true rfl, Nat.le_of_ble_eq_true rfl⟩, rfl, S.2.2.2.2 (.instanceMethod yX4_init) (by decide +kernel)⟩ rfl rfl (Nat.le_of_ble_eq_true rfl) dX6_init_133 ⟨by show 10 + i + 1 + 0 ≤ 40; omega, by show 128 + 7 * i + 7 + 0 ≤ 300; omega⟩ (fun u_133 H locs hp_133 G => ?_)
      obtain rfl := hp_133
      refine g_aast S G 11 5 v11 v5i (by decide) (by omega) rfl rfl rfl rfl (show i < 12 from hlt) dX6_init_136 (fun H locs G => ?_)
      refine lv_iinc (k := 0) (lv' := [(2, _), (0, _)]) S.1 S.2.1 dX6_init_137 hl rfl (g_inc _) (by decide) rfl (fun ls hl => ?_)
      refine lv_goto (tgt := 108) S.1 S.2.1 dX6_init_140 (by decide) ?_
      have G : gS D aC A s (iS (i + 1)) _ (cP 6 (i + 1) 0) H locs := gS.conv (ids := iS (i + 1)) G cP_step5
      exact ih_108 (i + 1, _) H locs ls ⟨by show i + 1 ≤ 12; omega, by exact had⟩ (by show 12 - (i + 1) < 12 - i; omega) G (lv_sub hl [0, 1] rfl)
  · have hlt : i < 6 := g_stay c_82 hi6 (by omega)
    refine lv_aload_n S.1 S.2.1 dX6_init_85 rfl (lv_at hl 2 rfl) ?_
    refine g_get S G 7 0 v7 (by decide) (by decide) i7 (S.2.2.2.2 (.fieldLink RX6 11 "SensorBond" "repeaters" "[LSensorBond$Repeater;") (by decide +kernel)) (gv_r (j := 0) rfl rfl (by omega)) dX6_init_86 ?_
    refine lv_iload_n S.1 S.2.1 dX6_init_89 rfl (lv_at hl 0 rfl) ?_
    obtain ⟨hn4, hf4⟩ := cP_free4 (i := i) hlt
    refine g_new S G 4 i (by decide) i4 (by decide +kernel) (by decide +kernel) (by decide +kernel) hn4 hf4 (by show 4 + i + 1 ≤ 40; omega) (by show 104 + 4 * i + 4 ≤ 300; omega) dX6_init_90 (fun q_90 H G => ?_)
    have e4 : updA ad1 4 i q_90 4 0 = ad1 4 0 := updA_n (by omega)
    rw [← e4] at hl
    have v4i : (4, i) ∈ iR (i + 1) := List.mem_append_right _ List.mem_cons_self
    have v10 : (10, 0) ∈ iR (i + 1) := (iR_m _).mpr (Or.inl (iB_m.mpr (by decide)))
    refine lv_dup S.1 S.2.1 dX6_init_93 rfl ?_
    refine lv_iload_n S.1 S.2.1 dX6_init_94 rfl (lv_at hl 0 rfl) ?_
    refine lv_aload_n S.1 S.2.1 dX6_init_95 rfl (lv_at hl 1 rfl) ?_
    refine g_cJv S G hF hl _ (c_X3_init l _ _ _ _ _ 0 v4i (by decide)) ⟨va_cnB 2 S.2.2.2.2 gX6_init_X3_init_n46 rfl rfl rfl (gm_0 hF) (S.2.2.2.2 (.initialized RX3) (by decide +kernel)) (by decide +kernel) ⟨Nat.le_of_ble_eq_true rfl, Nat.le_of_ble_eq_true rfl⟩, rfl, S.2.2.2.2 (.instanceMethod yX3_init) (by decide +kernel)⟩ rfl rfl (Nat.le_of_ble_eq_true rfl) dX6_init_96 ⟨by show 4 + i + 1 + 0 ≤ 40; omega, by show 104 + 4 * i + 4 + 0 ≤ 300; omega⟩ (fun u_96 H locs hp_96 G => ?_)
    obtain rfl := hp_96
    refine g_aast S G 10 4 v10 v4i (by decide) (by omega) rfl rfl rfl rfl (show i < 6 from hlt) dX6_init_99 (fun H locs G => ?_)
    refine lv_iinc (k := 0) (lv' := [(2, _), (1, _), (0, _)]) S.1 S.2.1 dX6_init_100 hl rfl (g_inc _) (by decide) rfl (fun ls hl => ?_)
    refine lv_goto (tgt := 79) S.1 S.2.1 dX6_init_103 (by decide) ?_
    have G : gS D aC A s (iR (i + 1)) _ (cP (i + 1) 0 0) H locs := gS.conv (ids := iR (i + 1)) G (cP_step4 hi1)
    exact ih_79 (i + 1, _) H locs ls ⟨by show 1 ≤ i + 1; omega, by show i + 1 ≤ 6; omega, by exact had⟩ (by show 6 - (i + 1) < 6 - i; omega) G (lv_sub hl [0, 1, 2] rfl)
