/-! ===== a new reference ===== -/
theorem gS.gen {D : va_G} {aC : Nat → ClassId} {A : Nat → Prop} {s : State} {ids : gIds} {ad : gAd} {π : gMem} {H : Heap} {locs : List Loc} (G : gS D aC A s ids ad π H locs) (P : gAd → Prop) (h : P ad) : ∃ a, P a ∧ gS D aC A s ids a π H locs := ⟨ad, h, G⟩
theorem gm_t_hi {f k t : Nat} (h : gm_t f k = t) (ht : 22 ≤ t) : f = 8 ∧ t = 21 + k := by
  rcases (by omega : f = 0 ∨ f = 1 ∨ f = 2 ∨ f = 3 ∨ f = 4 ∨ f = 5 ∨ f = 6 ∨ f = 7 ∨ f = 8 ∨ f = 9 ∨ f = 10 ∨ f = 11 ∨ f = 12 ∨ f = 13 ∨ f = 14 ∨ 15 ≤ f) with rfl | rfl | rfl | rfl | rfl | rfl | rfl | rfl | rfl | rfl | rfl | rfl | rfl | rfl | rfl | hb
  · have e : gm_t 0 k ≤ 18 := (by show (if k = 0 then 18 else 0) ≤ 18; first | omega | ((repeat' split) <;> omega))
    omega
  · have e : gm_t 1 k ≤ 18 := (by show (if k = 1 then 15 else 0) ≤ 18; first | omega | ((repeat' split) <;> omega))
    omega
  · have e : gm_t 2 k ≤ 18 := (by show (if k = 0 then 2 else if k = 1 then 17 else 0) ≤ 18; first | omega | ((repeat' split) <;> omega))
    omega
  · have e : gm_t 3 k ≤ 18 := (by show (if k = 0 then 6 else if k = 5 then 16 else if k = 9 then 3 else 0) ≤ 18; first | omega | ((repeat' split) <;> omega))
    omega
  · have e : gm_t 4 k ≤ 18 := (by show (if k = 1 then 5 else 0) ≤ 18; first | omega | ((repeat' split) <;> omega))
    omega
  · have e : gm_t 5 k ≤ 18 := (by show (if k = 1 then 5 else 0) ≤ 18; first | omega | ((repeat' split) <;> omega))
    omega
  · have e : gm_t 6 k ≤ 18 := (by show (0) ≤ 18; first | omega | ((repeat' split) <;> omega))
    omega
  · have e : gm_t 7 k ≤ 18 := (by show (if k < 4 then 11 + k else 0) ≤ 18; first | omega | ((repeat' split) <;> omega))
    omega
  · have e : gm_t 8 k = if k = 0 then 0 else if k = 11 then 0 else if k = 16 then 0 else if k = 26 then 0 else 21 + k := rfl
    rw [e] at h
    by_cases k0 : k = 0
    · rw [if_pos k0] at h; omega
    · rw [if_neg k0] at h
      by_cases k1 : k = 11
      · rw [if_pos k1] at h; omega
      · rw [if_neg k1] at h
        by_cases k2 : k = 16
        · rw [if_pos k2] at h; omega
        · rw [if_neg k2] at h
          by_cases k3 : k = 26
          · rw [if_pos k3] at h; omega
          · rw [if_neg k3] at h
            omega
  · have e : gm_t 9 k ≤ 18 := (by show (0) ≤ 18; first | omega | ((repeat' split) <;> omega))
    omega
  · have e : gm_t 10 k ≤ 18 := (by show (5) ≤ 18; first | omega | ((repeat' split) <;> omega))
    omega
  · have e : gm_t 11 k ≤ 18 := (by show (6) ≤ 18; first | omega | ((repeat' split) <;> omega))
    omega
  · have e : gm_t 12 k ≤ 18 := (by show (2) ≤ 18; first | omega | ((repeat' split) <;> omega))
    omega
  · have e : gm_t 13 k ≤ 18 := (by show (4) ≤ 18; first | omega | ((repeat' split) <;> omega))
    omega
  · have e : gm_t 14 k ≤ 18 := (by show (7) ≤ 18; first | omega | ((repeat' split) <;> omega))
    omega
  · rw [gm_t_big hb] at h; omega
theorem new8_free {ids : gIds} {κ : gMem} (h0 : ∀ x ∈ ids, x.1 ≠ 8) (f : Nat) (hf : 20 < f) : gFree (ids ++ [(8, 0)]) (updR κ 8 0 (gDef 8)) f 0 := by
  rintro ⟨g, j⟩ hx k hk ht
  obtain ⟨rfl, hk2⟩ := gm_t_hi ht (by omega)
  rcases List.mem_append.mp hx with h | h
  · exact absurd rfl (h0 _ h)
  · cases List.mem_singleton.mp h
    left
    dsimp only at ht ⊢
    rw [updR_s]
    show (if gm_t 8 k = 0 then (0 : Int32) else -1) < 0
    rw [if_neg (by omega)]; decide
/-- the class's cells alone -/
def cOnly (ids : gIds) : Prop := ∀ x ∈ ids, x.1 ≠ 8 ∧ x.1 < 20
def mK0 (κ : gMem) : gMem := fun f i k => if f = 8 then 0 else if f < 20 then κ f i k else 0
def mI1 (k : Nat) (κ : gMem) : gMem := upd3 (upd3 (upd3 (upd3 κ 25 0 k (nI k - nI k / 6 * 6)) 26 0 k 100) 28 0 k 1) 29 0 k (-1)
def mI2 (k : Nat) (κ : gMem) : gMem := upd3 κ 30 0 k 200
def mI3 (k : Nat) (κ : gMem) : gMem := upd3 κ 45 0 k (-1)
def mInit (κ : gMem) : gMem := gIt mI3 960 (gIt mI2 6 (gIt mI1 12 (mK0 κ)))
def iM (ids : gIds) : gIds := (((((((((((((((((((((((ids ++ [(8, 0)]) ++ [(21, 0)]) ++ [(22, 0)]) ++ [(23, 0)]) ++ [(24, 0)]) ++ [(25, 0)]) ++ [(26, 0)]) ++ [(27, 0)]) ++ [(28, 0)]) ++ [(29, 0)]) ++ [(30, 0)]) ++ [(32, 0)]) ++ [(33, 0)]) ++ [(34, 0)]) ++ [(35, 0)]) ++ [(37, 0)]) ++ [(38, 0)]) ++ [(39, 0)]) ++ [(40, 0)]) ++ [(41, 0)]) ++ [(42, 0)]) ++ [(43, 0)]) ++ [(44, 0)]) ++ [(45, 0)]
theorem mK0_conv {ids : gIds} {κ : gMem} (hC : cOnly ids) : ∀ x ∈ iM ids, ∀ k, k < gm_n x.1 → gk (mK0 κ) x.1 x.2 k = (upd3 (updR (upd3 (updR (upd3 (updR (upd3 (updR (upd3 (updR (upd3 (updR (upd3 (updR (upd3 (updR (upd3 (updR (upd3 (updR (upd3 (updR (upd3 (updR (upd3 (updR (upd3 (updR (upd3 (updR (upd3 (updR (upd3 (updR (upd3 (updR (upd3 (updR (upd3 (updR (upd3 (updR (upd3 (updR (upd3 (updR (updR (gk κ) 8 0 (gDef 8)) 21 0 (fun _ => 0)) 8 0 1 (nI 0)) 22 0 (fun _ => 0)) 8 0 2 (nI 0)) 23 0 (fun _ => 0)) 8 0 3 (nI 0)) 24 0 (fun _ => 0)) 8 0 4 (nI 0)) 25 0 (fun _ => 0)) 8 0 5 (nI 0)) 26 0 (fun _ => 0)) 8 0 6 (nI 0)) 27 0 (fun _ => 0)) 8 0 7 (nI 0)) 28 0 (fun _ => 0)) 8 0 8 (nI 0)) 29 0 (fun _ => 0)) 8 0 9 (nI 0)) 30 0 (fun _ => 0)) 8 0 10 (nI 0)) 32 0 (fun _ => 0)) 8 0 12 (nI 0)) 33 0 (fun _ => 0)) 8 0 13 (nI 0)) 34 0 (fun _ => 0)) 8 0 14 (nI 0)) 35 0 (fun _ => 0)) 8 0 15 (nI 0)) 37 0 (fun _ => 0)) 8 0 17 (nI 0)) 38 0 (fun _ => 0)) 8 0 18 (nI 0)) 39 0 (fun _ => 0)) 8 0 19 (nI 0)) 40 0 (fun _ => 0)) 8 0 20 (nI 0)) 41 0 (fun _ => 0)) 8 0 21 (nI 0)) 42 0 (fun _ => 0)) 8 0 22 (nI 0)) 43 0 (fun _ => 0)) 8 0 23 (nI 0)) 44 0 (fun _ => 0)) 8 0 24 (nI 0)) 45 0 (fun _ => 0)) 8 0 25 (nI 0)) x.1 x.2 k := by
  rintro ⟨g, j⟩ hx k hk
  dsimp only at hk ⊢
  rcases List.mem_append.mp hx with hx | hx
  rotate_left
  · cases List.mem_singleton.mp hx; rfl
  rcases List.mem_append.mp hx with hx | hx
  rotate_left
  · cases List.mem_singleton.mp hx; rfl
  rcases List.mem_append.mp hx with hx | hx
  rotate_left
  · cases List.mem_singleton.mp hx; rfl
  rcases List.mem_append.mp hx with hx | hx
  rotate_left
  · cases List.mem_singleton.mp hx; rfl
  rcases List.mem_append.mp hx with hx | hx
  rotate_left
  · cases List.mem_singleton.mp hx; rfl
  rcases List.mem_append.mp hx with hx | hx
  rotate_left
  · cases List.mem_singleton.mp hx; rfl
  rcases List.mem_append.mp hx with hx | hx
  rotate_left
  · cases List.mem_singleton.mp hx; rfl
  rcases List.mem_append.mp hx with hx | hx
  rotate_left
  · cases List.mem_singleton.mp hx; rfl
  rcases List.mem_append.mp hx with hx | hx
  rotate_left
  · cases List.mem_singleton.mp hx; rfl
  rcases List.mem_append.mp hx with hx | hx
  rotate_left
  · cases List.mem_singleton.mp hx; rfl
  rcases List.mem_append.mp hx with hx | hx
  rotate_left
  · cases List.mem_singleton.mp hx; rfl
  rcases List.mem_append.mp hx with hx | hx
  rotate_left
  · cases List.mem_singleton.mp hx; rfl
  rcases List.mem_append.mp hx with hx | hx
  rotate_left
  · cases List.mem_singleton.mp hx; rfl
  rcases List.mem_append.mp hx with hx | hx
  rotate_left
  · cases List.mem_singleton.mp hx; rfl
  rcases List.mem_append.mp hx with hx | hx
  rotate_left
  · cases List.mem_singleton.mp hx; rfl
  rcases List.mem_append.mp hx with hx | hx
  rotate_left
  · cases List.mem_singleton.mp hx; rfl
  rcases List.mem_append.mp hx with hx | hx
  rotate_left
  · cases List.mem_singleton.mp hx; rfl
  rcases List.mem_append.mp hx with hx | hx
  rotate_left
  · cases List.mem_singleton.mp hx; rfl
  rcases List.mem_append.mp hx with hx | hx
  rotate_left
  · cases List.mem_singleton.mp hx; rfl
  rcases List.mem_append.mp hx with hx | hx
  rotate_left
  · cases List.mem_singleton.mp hx; rfl
  rcases List.mem_append.mp hx with hx | hx
  rotate_left
  · cases List.mem_singleton.mp hx; rfl
  rcases List.mem_append.mp hx with hx | hx
  rotate_left
  · cases List.mem_singleton.mp hx; rfl
  rcases List.mem_append.mp hx with hx | hx
  rotate_left
  · cases List.mem_singleton.mp hx; rfl
  rcases List.mem_append.mp hx with hx | hx
  rotate_left
  · cases List.mem_singleton.mp hx
    have hk : k < 27 := hk
    rcases (by omega : k = 0 ∨ k = 1 ∨ k = 2 ∨ k = 3 ∨ k = 4 ∨ k = 5 ∨ k = 6 ∨ k = 7 ∨ k = 8 ∨ k = 9 ∨ k = 10 ∨ k = 11 ∨ k = 12 ∨ k = 13 ∨ k = 14 ∨ k = 15 ∨ k = 16 ∨ k = 17 ∨ k = 18 ∨ k = 19 ∨ k = 20 ∨ k = 21 ∨ k = 22 ∨ k = 23 ∨ k = 24 ∨ k = 25 ∨ k = 26) with rfl | rfl | rfl | rfl | rfl | rfl | rfl | rfl | rfl | rfl | rfl | rfl | rfl | rfl | rfl | rfl | rfl | rfl | rfl | rfl | rfl | rfl | rfl | rfl | rfl | rfl | rfl <;> rfl
  · obtain ⟨h8, h20⟩ := hC _ hx
    dsimp only at h8 h20
    have e : gk (mK0 κ) g j k = gk κ g j k := by simp only [gk, mK0, if_neg h8, if_pos h20]
    rw [e, upd3_f h8, updR_far (by omega), upd3_f h8, updR_far (by omega), upd3_f h8, updR_far (by omega), upd3_f h8, updR_far (by omega), upd3_f h8, updR_far (by omega), upd3_f h8, updR_far (by omega), upd3_f h8, updR_far (by omega), upd3_f h8, updR_far (by omega), upd3_f h8, updR_far (by omega), upd3_f h8, updR_far (by omega), upd3_f h8, updR_far (by omega), upd3_f h8, updR_far (by omega), upd3_f h8, updR_far (by omega), upd3_f h8, updR_far (by omega), upd3_f h8, updR_far (by omega), upd3_f h8, updR_far (by omega), upd3_f h8, updR_far (by omega), upd3_f h8, updR_far (by omega), upd3_f h8, updR_far (by omega), upd3_f h8, updR_far (by omega), upd3_f h8, updR_far (by omega), upd3_f h8, updR_far (by omega), upd3_f h8, updR_far (by omega), updR_far (by omega)]
set_option maxHeartbeats 4000000 in
set_option maxRecDepth 100000 in
theorem c_X7_init (l : Launch) (ids : gIds) (ad : gAd) (κ : gMem) (hC : cOnly ids) (hM : mV (iM ids))  : gMv l yX7_init wsX7_init ({ frames := 1, cells := 30, slots := 2500, locals := 12 } : Room) 30 2500 [.ref (ad 8 0)] (ids ++ [(8, 0)], ad, updR (gk κ) 8 0 (gDef 8)) (fun u => ∃ ad1, ad1 7 0 = ad 7 0 ∧ ad1 8 0 = ad 8 0 ∧ u = (iM ids, ad1, gk (mInit κ))) := by
  intro D aC A
  refine g_of (cc := cX7_init) (maxL := 2) (ret := none) (by decide +kernel) rfl (Nat.le_of_ble_eq_true rfl) ?_
  intro p e s m below meth c ls S G hF hr hlk hnm hl
  have hl : lv_has ls 2 [(0, _)] := hl
  have i8 : ∀ w ∈ wsX70, w ∈ wsX7_init := by decide +kernel
  refine lv_aload_n S.1 S.2.1 dX7_init_0 rfl (lv_at hl 0 rfl) ?_
  refine g_objInit S hl (by decide +kernel) (by decide +kernel) (by decide +kernel) (Nat.le_of_ble_eq_true rfl) (Nat.le_of_ble_eq_true rfl) dX7_init_1 ?_
  have v8 : (8, 0) ∈ ids ++ [(8, 0)] := List.mem_append_right _ List.mem_cons_self
  have F : ∀ f, 20 < f → gFree (ids ++ [(8, 0)]) (updR (gk κ) 8 0 (gDef 8)) f 0 := fun f hf => new8_free (fun x hx => (hC x hx).1) f hf
  have N : ∀ f, 20 < f → (f, 0) ∉ ids ++ [(8, 0)] := fun f hf h => by
    rcases List.mem_append.mp h with h | h
    · have := (hC _ h).2; dsimp only at this; omega
    · have := congrArg Prod.fst (List.mem_singleton.mp h); dsimp only at this; omega
  refine lv_aload_n S.1 S.2.1 dX7_init_4 rfl (lv_at hl 0 rfl) ?_
  refine lv_bipush (v := 6) S.1 S.2.1 dX7_init_5 (by decide) ?_
  refine g_newa S G 21 0 rfl rfl rfl (by decide +kernel) (N 21 (by decide)) (F 21 (by decide)) rfl (Nat.le_of_ble_eq_true rfl) (Nat.le_of_ble_eq_true rfl) (Nat.le_of_ble_eq_true rfl) dX7_init_7 (fun q_7 H G => ?_)
  have v8 := List.mem_append_left [(21, 0)] v8
  refine g_putF (ty := (.array .int)) S hnm G 8 1 v8 (by decide) (by decide) i8 (S.2.2.2.2 (.fieldLink RX7 7 "SensorBondModel" "hangsOn" "[I") (by decide +kernel)) rfl rfl (by decide +kernel) rfl rfl (gw_r rfl (by omega)) dX7_init_9 (fun H locs G => ?_)
  have F := fun (f : Nat) (hf : 21 < f) => (((F f (by omega)).updR (g := 21) (j := 0) (r := fun _ => 0) (fun k => by rw [gm_t_big (by decide)]; omega)).app0 (g := 21) (j := 0) (fun k => by rw [gm_t_big (by decide)]; omega)).upd (g := 8) (j := 0) (k := 1) (x := nI 0) (by show 21 + 1 ≠ f + 1; omega)
  have N := fun (f : Nat) (hf : 21 < f) (h : (f, 0) ∈ (ids ++ [(8, 0)]) ++ [(21, 0)]) => (List.mem_append.mp h).elim (N f (by omega)) (fun z => by have := congrArg Prod.fst (List.mem_singleton.mp z); dsimp only at this; omega)
  refine lv_aload_n S.1 S.2.1 dX7_init_12 rfl (lv_at hl 0 rfl) ?_
  refine lv_bipush (v := 6) S.1 S.2.1 dX7_init_13 (by decide) ?_
  refine g_newa S G 22 0 rfl rfl rfl (by decide +kernel) (N 22 (by decide)) (F 22 (by decide)) rfl (Nat.le_of_ble_eq_true rfl) (Nat.le_of_ble_eq_true rfl) (Nat.le_of_ble_eq_true rfl) dX7_init_15 (fun q_15 H G => ?_)
  have v8 := List.mem_append_left [(22, 0)] v8
  refine g_putF (ty := (.array .int)) S hnm G 8 2 v8 (by decide) (by decide) i8 (S.2.2.2.2 (.fieldLink RX7 13 "SensorBondModel" "lossOf" "[I") (by decide +kernel)) rfl rfl (by decide +kernel) rfl rfl (gw_r rfl (by omega)) dX7_init_17 (fun H locs G => ?_)
  have F := fun (f : Nat) (hf : 22 < f) => (((F f (by omega)).updR (g := 22) (j := 0) (r := fun _ => 0) (fun k => by rw [gm_t_big (by decide)]; omega)).app0 (g := 22) (j := 0) (fun k => by rw [gm_t_big (by decide)]; omega)).upd (g := 8) (j := 0) (k := 2) (x := nI 0) (by show 21 + 2 ≠ f + 1; omega)
  have N := fun (f : Nat) (hf : 22 < f) (h : (f, 0) ∈ ((ids ++ [(8, 0)]) ++ [(21, 0)]) ++ [(22, 0)]) => (List.mem_append.mp h).elim (N f (by omega)) (fun z => by have := congrArg Prod.fst (List.mem_singleton.mp z); dsimp only at this; omega)
  refine lv_aload_n S.1 S.2.1 dX7_init_20 rfl (lv_at hl 0 rfl) ?_
  refine lv_bipush (v := 6) S.1 S.2.1 dX7_init_21 (by decide) ?_
  refine g_newa S G 23 0 rfl rfl rfl (by decide +kernel) (N 23 (by decide)) (F 23 (by decide)) rfl (Nat.le_of_ble_eq_true rfl) (Nat.le_of_ble_eq_true rfl) (Nat.le_of_ble_eq_true rfl) dX7_init_23 (fun q_23 H G => ?_)
  have v8 := List.mem_append_left [(23, 0)] v8
  refine g_putF (ty := (.array .int)) S hnm G 8 3 v8 (by decide) (by decide) i8 (S.2.2.2.2 (.fieldLink RX7 16 "SensorBondModel" "came" "[I") (by decide +kernel)) rfl rfl (by decide +kernel) rfl rfl (gw_r rfl (by omega)) dX7_init_25 (fun H locs G => ?_)
  have F := fun (f : Nat) (hf : 23 < f) => (((F f (by omega)).updR (g := 23) (j := 0) (r := fun _ => 0) (fun k => by rw [gm_t_big (by decide)]; omega)).app0 (g := 23) (j := 0) (fun k => by rw [gm_t_big (by decide)]; omega)).upd (g := 8) (j := 0) (k := 3) (x := nI 0) (by show 21 + 3 ≠ f + 1; omega)
  have N := fun (f : Nat) (hf : 23 < f) (h : (f, 0) ∈ (((ids ++ [(8, 0)]) ++ [(21, 0)]) ++ [(22, 0)]) ++ [(23, 0)]) => (List.mem_append.mp h).elim (N f (by omega)) (fun z => by have := congrArg Prod.fst (List.mem_singleton.mp z); dsimp only at this; omega)
  refine lv_aload_n S.1 S.2.1 dX7_init_28 rfl (lv_at hl 0 rfl) ?_
  refine lv_bipush (v := 6) S.1 S.2.1 dX7_init_29 (by decide) ?_
  refine g_newa S G 24 0 rfl rfl rfl (by decide +kernel) (N 24 (by decide)) (F 24 (by decide)) rfl (Nat.le_of_ble_eq_true rfl) (Nat.le_of_ble_eq_true rfl) (Nat.le_of_ble_eq_true rfl) dX7_init_31 (fun q_31 H G => ?_)
  have v8 := List.mem_append_left [(24, 0)] v8
  refine g_putF (ty := (.array .int)) S hnm G 8 4 v8 (by decide) (by decide) i8 (S.2.2.2.2 (.fieldLink RX7 19 "SensorBondModel" "gone" "[I") (by decide +kernel)) rfl rfl (by decide +kernel) rfl rfl (gw_r rfl (by omega)) dX7_init_33 (fun H locs G => ?_)
  have F := fun (f : Nat) (hf : 24 < f) => (((F f (by omega)).updR (g := 24) (j := 0) (r := fun _ => 0) (fun k => by rw [gm_t_big (by decide)]; omega)).app0 (g := 24) (j := 0) (fun k => by rw [gm_t_big (by decide)]; omega)).upd (g := 8) (j := 0) (k := 4) (x := nI 0) (by show 21 + 4 ≠ f + 1; omega)
  have N := fun (f : Nat) (hf : 24 < f) (h : (f, 0) ∈ ((((ids ++ [(8, 0)]) ++ [(21, 0)]) ++ [(22, 0)]) ++ [(23, 0)]) ++ [(24, 0)]) => (List.mem_append.mp h).elim (N f (by omega)) (fun z => by have := congrArg Prod.fst (List.mem_singleton.mp z); dsimp only at this; omega)
  refine lv_aload_n S.1 S.2.1 dX7_init_36 rfl (lv_at hl 0 rfl) ?_
  refine lv_bipush (v := 12) S.1 S.2.1 dX7_init_37 (by decide) ?_
  refine g_newa S G 25 0 rfl rfl rfl (by decide +kernel) (N 25 (by decide)) (F 25 (by decide)) rfl (Nat.le_of_ble_eq_true rfl) (Nat.le_of_ble_eq_true rfl) (Nat.le_of_ble_eq_true rfl) dX7_init_39 (fun q_39 H G => ?_)
  have v8 := List.mem_append_left [(25, 0)] v8
  refine g_putF (ty := (.array .int)) S hnm G 8 5 v8 (by decide) (by decide) i8 (S.2.2.2.2 (.fieldLink RX7 22 "SensorBondModel" "attached" "[I") (by decide +kernel)) rfl rfl (by decide +kernel) rfl rfl (gw_r rfl (by omega)) dX7_init_41 (fun H locs G => ?_)
  have F := fun (f : Nat) (hf : 25 < f) => (((F f (by omega)).updR (g := 25) (j := 0) (r := fun _ => 0) (fun k => by rw [gm_t_big (by decide)]; omega)).app0 (g := 25) (j := 0) (fun k => by rw [gm_t_big (by decide)]; omega)).upd (g := 8) (j := 0) (k := 5) (x := nI 0) (by show 21 + 5 ≠ f + 1; omega)
  have N := fun (f : Nat) (hf : 25 < f) (h : (f, 0) ∈ (((((ids ++ [(8, 0)]) ++ [(21, 0)]) ++ [(22, 0)]) ++ [(23, 0)]) ++ [(24, 0)]) ++ [(25, 0)]) => (List.mem_append.mp h).elim (N f (by omega)) (fun z => by have := congrArg Prod.fst (List.mem_singleton.mp z); dsimp only at this; omega)
  refine lv_aload_n S.1 S.2.1 dX7_init_44 rfl (lv_at hl 0 rfl) ?_
  refine lv_bipush (v := 12) S.1 S.2.1 dX7_init_45 (by decide) ?_
  refine g_newa S G 26 0 rfl rfl rfl (by decide +kernel) (N 26 (by decide)) (F 26 (by decide)) rfl (Nat.le_of_ble_eq_true rfl) (Nat.le_of_ble_eq_true rfl) (Nat.le_of_ble_eq_true rfl) dX7_init_47 (fun q_47 H G => ?_)
  have v8 := List.mem_append_left [(26, 0)] v8
  refine g_putF (ty := (.array .int)) S hnm G 8 6 v8 (by decide) (by decide) i8 (S.2.2.2.2 (.fieldLink RX7 25 "SensorBondModel" "bond" "[I") (by decide +kernel)) rfl rfl (by decide +kernel) rfl rfl (gw_r rfl (by omega)) dX7_init_49 (fun H locs G => ?_)
  have F := fun (f : Nat) (hf : 26 < f) => (((F f (by omega)).updR (g := 26) (j := 0) (r := fun _ => 0) (fun k => by rw [gm_t_big (by decide)]; omega)).app0 (g := 26) (j := 0) (fun k => by rw [gm_t_big (by decide)]; omega)).upd (g := 8) (j := 0) (k := 6) (x := nI 0) (by show 21 + 6 ≠ f + 1; omega)
  have N := fun (f : Nat) (hf : 26 < f) (h : (f, 0) ∈ ((((((ids ++ [(8, 0)]) ++ [(21, 0)]) ++ [(22, 0)]) ++ [(23, 0)]) ++ [(24, 0)]) ++ [(25, 0)]) ++ [(26, 0)]) => (List.mem_append.mp h).elim (N f (by omega)) (fun z => by have := congrArg Prod.fst (List.mem_singleton.mp z); dsimp only at this; omega)
  refine lv_aload_n S.1 S.2.1 dX7_init_52 rfl (lv_at hl 0 rfl) ?_
  refine lv_bipush (v := 12) S.1 S.2.1 dX7_init_53 (by decide) ?_
  refine g_newa S G 27 0 rfl rfl rfl (by decide +kernel) (N 27 (by decide)) (F 27 (by decide)) rfl (Nat.le_of_ble_eq_true rfl) (Nat.le_of_ble_eq_true rfl) (Nat.le_of_ble_eq_true rfl) dX7_init_55 (fun q_55 H G => ?_)
  have v8 := List.mem_append_left [(27, 0)] v8
  refine g_putF (ty := (.array .int)) S hnm G 8 7 v8 (by decide) (by decide) i8 (S.2.2.2.2 (.fieldLink RX7 28 "SensorBondModel" "earned" "[I") (by decide +kernel)) rfl rfl (by decide +kernel) rfl rfl (gw_r rfl (by omega)) dX7_init_57 (fun H locs G => ?_)
  have F := fun (f : Nat) (hf : 27 < f) => (((F f (by omega)).updR (g := 27) (j := 0) (r := fun _ => 0) (fun k => by rw [gm_t_big (by decide)]; omega)).app0 (g := 27) (j := 0) (fun k => by rw [gm_t_big (by decide)]; omega)).upd (g := 8) (j := 0) (k := 7) (x := nI 0) (by show 21 + 7 ≠ f + 1; omega)
  have N := fun (f : Nat) (hf : 27 < f) (h : (f, 0) ∈ (((((((ids ++ [(8, 0)]) ++ [(21, 0)]) ++ [(22, 0)]) ++ [(23, 0)]) ++ [(24, 0)]) ++ [(25, 0)]) ++ [(26, 0)]) ++ [(27, 0)]) => (List.mem_append.mp h).elim (N f (by omega)) (fun z => by have := congrArg Prod.fst (List.mem_singleton.mp z); dsimp only at this; omega)
  refine lv_aload_n S.1 S.2.1 dX7_init_60 rfl (lv_at hl 0 rfl) ?_
  refine lv_bipush (v := 12) S.1 S.2.1 dX7_init_61 (by decide) ?_
  refine g_newa S G 28 0 rfl rfl rfl (by decide +kernel) (N 28 (by decide)) (F 28 (by decide)) rfl (Nat.le_of_ble_eq_true rfl) (Nat.le_of_ble_eq_true rfl) (Nat.le_of_ble_eq_true rfl) dX7_init_63 (fun q_63 H G => ?_)
  have v8 := List.mem_append_left [(28, 0)] v8
  refine g_putF (ty := (.array .int)) S hnm G 8 8 v8 (by decide) (by decide) i8 (S.2.2.2.2 (.fieldLink RX7 31 "SensorBondModel" "price" "[I") (by decide +kernel)) rfl rfl (by decide +kernel) rfl rfl (gw_r rfl (by omega)) dX7_init_65 (fun H locs G => ?_)
  have F := fun (f : Nat) (hf : 28 < f) => (((F f (by omega)).updR (g := 28) (j := 0) (r := fun _ => 0) (fun k => by rw [gm_t_big (by decide)]; omega)).app0 (g := 28) (j := 0) (fun k => by rw [gm_t_big (by decide)]; omega)).upd (g := 8) (j := 0) (k := 8) (x := nI 0) (by show 21 + 8 ≠ f + 1; omega)
  have N := fun (f : Nat) (hf : 28 < f) (h : (f, 0) ∈ ((((((((ids ++ [(8, 0)]) ++ [(21, 0)]) ++ [(22, 0)]) ++ [(23, 0)]) ++ [(24, 0)]) ++ [(25, 0)]) ++ [(26, 0)]) ++ [(27, 0)]) ++ [(28, 0)]) => (List.mem_append.mp h).elim (N f (by omega)) (fun z => by have := congrArg Prod.fst (List.mem_singleton.mp z); dsimp only at this; omega)
  refine lv_aload_n S.1 S.2.1 dX7_init_68 rfl (lv_at hl 0 rfl) ?_
  refine lv_bipush (v := 12) S.1 S.2.1 dX7_init_69 (by decide) ?_
  refine g_newa S G 29 0 rfl rfl rfl (by decide +kernel) (N 29 (by decide)) (F 29 (by decide)) rfl (Nat.le_of_ble_eq_true rfl) (Nat.le_of_ble_eq_true rfl) (Nat.le_of_ble_eq_true rfl) dX7_init_71 (fun q_71 H G => ?_)
  have v8 := List.mem_append_left [(29, 0)] v8
  refine g_putF (ty := (.array .int)) S hnm G 8 9 v8 (by decide) (by decide) i8 (S.2.2.2.2 (.fieldLink RX7 34 "SensorBondModel" "toldIn" "[I") (by decide +kernel)) rfl rfl (by decide +kernel) rfl rfl (gw_r rfl (by omega)) dX7_init_73 (fun H locs G => ?_)
  have F := fun (f : Nat) (hf : 29 < f) => (((F f (by omega)).updR (g := 29) (j := 0) (r := fun _ => 0) (fun k => by rw [gm_t_big (by decide)]; omega)).app0 (g := 29) (j := 0) (fun k => by rw [gm_t_big (by decide)]; omega)).upd (g := 8) (j := 0) (k := 9) (x := nI 0) (by show 21 + 9 ≠ f + 1; omega)
  have N := fun (f : Nat) (hf : 29 < f) (h : (f, 0) ∈ (((((((((ids ++ [(8, 0)]) ++ [(21, 0)]) ++ [(22, 0)]) ++ [(23, 0)]) ++ [(24, 0)]) ++ [(25, 0)]) ++ [(26, 0)]) ++ [(27, 0)]) ++ [(28, 0)]) ++ [(29, 0)]) => (List.mem_append.mp h).elim (N f (by omega)) (fun z => by have := congrArg Prod.fst (List.mem_singleton.mp z); dsimp only at this; omega)
  refine lv_aload_n S.1 S.2.1 dX7_init_76 rfl (lv_at hl 0 rfl) ?_
  refine lv_bipush (v := 6) S.1 S.2.1 dX7_init_77 (by decide) ?_
  refine g_newa S G 30 0 rfl rfl rfl (by decide +kernel) (N 30 (by decide)) (F 30 (by decide)) rfl (Nat.le_of_ble_eq_true rfl) (Nat.le_of_ble_eq_true rfl) (Nat.le_of_ble_eq_true rfl) dX7_init_79 (fun q_79 H G => ?_)
  have v8 := List.mem_append_left [(30, 0)] v8
  refine g_putF (ty := (.array .int)) S hnm G 8 10 v8 (by decide) (by decide) i8 (S.2.2.2.2 (.fieldLink RX7 37 "SensorBondModel" "purse" "[I") (by decide +kernel)) rfl rfl (by decide +kernel) rfl rfl (gw_r rfl (by omega)) dX7_init_81 (fun H locs G => ?_)
  have F := fun (f : Nat) (hf : 30 < f) => (((F f (by omega)).updR (g := 30) (j := 0) (r := fun _ => 0) (fun k => by rw [gm_t_big (by decide)]; omega)).app0 (g := 30) (j := 0) (fun k => by rw [gm_t_big (by decide)]; omega)).upd (g := 8) (j := 0) (k := 10) (x := nI 0) (by show 21 + 10 ≠ f + 1; omega)
  have N := fun (f : Nat) (hf : 30 < f) (h : (f, 0) ∈ ((((((((((ids ++ [(8, 0)]) ++ [(21, 0)]) ++ [(22, 0)]) ++ [(23, 0)]) ++ [(24, 0)]) ++ [(25, 0)]) ++ [(26, 0)]) ++ [(27, 0)]) ++ [(28, 0)]) ++ [(29, 0)]) ++ [(30, 0)]) => (List.mem_append.mp h).elim (N f (by omega)) (fun z => by have := congrArg Prod.fst (List.mem_singleton.mp z); dsimp only at this; omega)
  refine lv_aload_n S.1 S.2.1 dX7_init_84 rfl (lv_at hl 0 rfl) ?_
  refine lv_bipush (v := 72) S.1 S.2.1 dX7_init_85 (by decide) ?_
  refine g_newa S G 32 0 rfl rfl rfl (by decide +kernel) (N 32 (by decide)) (F 32 (by decide)) rfl (Nat.le_of_ble_eq_true rfl) (Nat.le_of_ble_eq_true rfl) (Nat.le_of_ble_eq_true rfl) dX7_init_87 (fun q_87 H G => ?_)
  have v8 := List.mem_append_left [(32, 0)] v8
  refine g_putF (ty := (.array .boolean)) S hnm G 8 12 v8 (by decide) (by decide) i8 (S.2.2.2.2 (.fieldLink RX7 40 "SensorBondModel" "isOpen" "[Z") (by decide +kernel)) rfl rfl (by decide +kernel) rfl rfl (gw_r rfl (by omega)) dX7_init_89 (fun H locs G => ?_)
  have F := fun (f : Nat) (hf : 32 < f) => (((F f (by omega)).updR (g := 32) (j := 0) (r := fun _ => 0) (fun k => by rw [gm_t_big (by decide)]; omega)).app0 (g := 32) (j := 0) (fun k => by rw [gm_t_big (by decide)]; omega)).upd (g := 8) (j := 0) (k := 12) (x := nI 0) (by show 21 + 12 ≠ f + 1; omega)
  have N := fun (f : Nat) (hf : 32 < f) (h : (f, 0) ∈ (((((((((((ids ++ [(8, 0)]) ++ [(21, 0)]) ++ [(22, 0)]) ++ [(23, 0)]) ++ [(24, 0)]) ++ [(25, 0)]) ++ [(26, 0)]) ++ [(27, 0)]) ++ [(28, 0)]) ++ [(29, 0)]) ++ [(30, 0)]) ++ [(32, 0)]) => (List.mem_append.mp h).elim (N f (by omega)) (fun z => by have := congrArg Prod.fst (List.mem_singleton.mp z); dsimp only at this; omega)
  refine lv_aload_n S.1 S.2.1 dX7_init_92 rfl (lv_at hl 0 rfl) ?_
  refine lv_bipush (v := 72) S.1 S.2.1 dX7_init_93 (by decide) ?_
  refine g_newa S G 33 0 rfl rfl rfl (by decide +kernel) (N 33 (by decide)) (F 33 (by decide)) rfl (Nat.le_of_ble_eq_true rfl) (Nat.le_of_ble_eq_true rfl) (Nat.le_of_ble_eq_true rfl) dX7_init_95 (fun q_95 H G => ?_)
  have v8 := List.mem_append_left [(33, 0)] v8
  refine g_putF (ty := (.array .int)) S hnm G 8 13 v8 (by decide) (by decide) i8 (S.2.2.2.2 (.fieldLink RX7 44 "SensorBondModel" "lastTick" "[I") (by decide +kernel)) rfl rfl (by decide +kernel) rfl rfl (gw_r rfl (by omega)) dX7_init_97 (fun H locs G => ?_)
  have F := fun (f : Nat) (hf : 33 < f) => (((F f (by omega)).updR (g := 33) (j := 0) (r := fun _ => 0) (fun k => by rw [gm_t_big (by decide)]; omega)).app0 (g := 33) (j := 0) (fun k => by rw [gm_t_big (by decide)]; omega)).upd (g := 8) (j := 0) (k := 13) (x := nI 0) (by show 21 + 13 ≠ f + 1; omega)
  have N := fun (f : Nat) (hf : 33 < f) (h : (f, 0) ∈ ((((((((((((ids ++ [(8, 0)]) ++ [(21, 0)]) ++ [(22, 0)]) ++ [(23, 0)]) ++ [(24, 0)]) ++ [(25, 0)]) ++ [(26, 0)]) ++ [(27, 0)]) ++ [(28, 0)]) ++ [(29, 0)]) ++ [(30, 0)]) ++ [(32, 0)]) ++ [(33, 0)]) => (List.mem_append.mp h).elim (N f (by omega)) (fun z => by have := congrArg Prod.fst (List.mem_singleton.mp z); dsimp only at this; omega)
  refine lv_aload_n S.1 S.2.1 dX7_init_100 rfl (lv_at hl 0 rfl) ?_
  refine lv_bipush (v := 72) S.1 S.2.1 dX7_init_101 (by decide) ?_
  refine g_newa S G 34 0 rfl rfl rfl (by decide +kernel) (N 34 (by decide)) (F 34 (by decide)) rfl (Nat.le_of_ble_eq_true rfl) (Nat.le_of_ble_eq_true rfl) (Nat.le_of_ble_eq_true rfl) dX7_init_103 (fun q_103 H G => ?_)
  have v8 := List.mem_append_left [(34, 0)] v8
  refine g_putF (ty := (.array .int)) S hnm G 8 14 v8 (by decide) (by decide) i8 (S.2.2.2.2 (.fieldLink RX7 47 "SensorBondModel" "windowPrice" "[I") (by decide +kernel)) rfl rfl (by decide +kernel) rfl rfl (gw_r rfl (by omega)) dX7_init_105 (fun H locs G => ?_)
  have F := fun (f : Nat) (hf : 34 < f) => (((F f (by omega)).updR (g := 34) (j := 0) (r := fun _ => 0) (fun k => by rw [gm_t_big (by decide)]; omega)).app0 (g := 34) (j := 0) (fun k => by rw [gm_t_big (by decide)]; omega)).upd (g := 8) (j := 0) (k := 14) (x := nI 0) (by show 21 + 14 ≠ f + 1; omega)
  have N := fun (f : Nat) (hf : 34 < f) (h : (f, 0) ∈ (((((((((((((ids ++ [(8, 0)]) ++ [(21, 0)]) ++ [(22, 0)]) ++ [(23, 0)]) ++ [(24, 0)]) ++ [(25, 0)]) ++ [(26, 0)]) ++ [(27, 0)]) ++ [(28, 0)]) ++ [(29, 0)]) ++ [(30, 0)]) ++ [(32, 0)]) ++ [(33, 0)]) ++ [(34, 0)]) => (List.mem_append.mp h).elim (N f (by omega)) (fun z => by have := congrArg Prod.fst (List.mem_singleton.mp z); dsimp only at this; omega)
  refine lv_aload_n S.1 S.2.1 dX7_init_108 rfl (lv_at hl 0 rfl) ?_
  refine lv_bipush (v := 72) S.1 S.2.1 dX7_init_109 (by decide) ?_
  refine g_newa S G 35 0 rfl rfl rfl (by decide +kernel) (N 35 (by decide)) (F 35 (by decide)) rfl (Nat.le_of_ble_eq_true rfl) (Nat.le_of_ble_eq_true rfl) (Nat.le_of_ble_eq_true rfl) dX7_init_111 (fun q_111 H G => ?_)
  have v8 := List.mem_append_left [(35, 0)] v8
  refine g_putF (ty := (.array .int)) S hnm G 8 15 v8 (by decide) (by decide) i8 (S.2.2.2.2 (.fieldLink RX7 50 "SensorBondModel" "aside" "[I") (by decide +kernel)) rfl rfl (by decide +kernel) rfl rfl (gw_r rfl (by omega)) dX7_init_113 (fun H locs G => ?_)
  have F := fun (f : Nat) (hf : 35 < f) => (((F f (by omega)).updR (g := 35) (j := 0) (r := fun _ => 0) (fun k => by rw [gm_t_big (by decide)]; omega)).app0 (g := 35) (j := 0) (fun k => by rw [gm_t_big (by decide)]; omega)).upd (g := 8) (j := 0) (k := 15) (x := nI 0) (by show 21 + 15 ≠ f + 1; omega)
  have N := fun (f : Nat) (hf : 35 < f) (h : (f, 0) ∈ ((((((((((((((ids ++ [(8, 0)]) ++ [(21, 0)]) ++ [(22, 0)]) ++ [(23, 0)]) ++ [(24, 0)]) ++ [(25, 0)]) ++ [(26, 0)]) ++ [(27, 0)]) ++ [(28, 0)]) ++ [(29, 0)]) ++ [(30, 0)]) ++ [(32, 0)]) ++ [(33, 0)]) ++ [(34, 0)]) ++ [(35, 0)]) => (List.mem_append.mp h).elim (N f (by omega)) (fun z => by have := congrArg Prod.fst (List.mem_singleton.mp z); dsimp only at this; omega)
  refine lv_aload_n S.1 S.2.1 dX7_init_116 rfl (lv_at hl 0 rfl) ?_
  refine lv_bipush (v := 80) S.1 S.2.1 dX7_init_117 (by decide) ?_
  refine g_newa S G 37 0 rfl rfl rfl (by decide +kernel) (N 37 (by decide)) (F 37 (by decide)) rfl (Nat.le_of_ble_eq_true rfl) (Nat.le_of_ble_eq_true rfl) (Nat.le_of_ble_eq_true rfl) dX7_init_119 (fun q_119 H G => ?_)
  have v8 := List.mem_append_left [(37, 0)] v8
  refine g_putF (ty := (.array .int)) S hnm G 8 17 v8 (by decide) (by decide) i8 (S.2.2.2.2 (.fieldLink RX7 53 "SensorBondModel" "by" "[I") (by decide +kernel)) rfl rfl (by decide +kernel) rfl rfl (gw_r rfl (by omega)) dX7_init_121 (fun H locs G => ?_)
  have F := fun (f : Nat) (hf : 37 < f) => (((F f (by omega)).updR (g := 37) (j := 0) (r := fun _ => 0) (fun k => by rw [gm_t_big (by decide)]; omega)).app0 (g := 37) (j := 0) (fun k => by rw [gm_t_big (by decide)]; omega)).upd (g := 8) (j := 0) (k := 17) (x := nI 0) (by show 21 + 17 ≠ f + 1; omega)
  have N := fun (f : Nat) (hf : 37 < f) (h : (f, 0) ∈ (((((((((((((((ids ++ [(8, 0)]) ++ [(21, 0)]) ++ [(22, 0)]) ++ [(23, 0)]) ++ [(24, 0)]) ++ [(25, 0)]) ++ [(26, 0)]) ++ [(27, 0)]) ++ [(28, 0)]) ++ [(29, 0)]) ++ [(30, 0)]) ++ [(32, 0)]) ++ [(33, 0)]) ++ [(34, 0)]) ++ [(35, 0)]) ++ [(37, 0)]) => (List.mem_append.mp h).elim (N f (by omega)) (fun z => by have := congrArg Prod.fst (List.mem_singleton.mp z); dsimp only at this; omega)
  refine lv_aload_n S.1 S.2.1 dX7_init_124 rfl (lv_at hl 0 rfl) ?_
  refine lv_bipush (v := 80) S.1 S.2.1 dX7_init_125 (by decide) ?_
  refine g_newa S G 38 0 rfl rfl rfl (by decide +kernel) (N 38 (by decide)) (F 38 (by decide)) rfl (Nat.le_of_ble_eq_true rfl) (Nat.le_of_ble_eq_true rfl) (Nat.le_of_ble_eq_true rfl) dX7_init_127 (fun q_127 H G => ?_)
  have v8 := List.mem_append_left [(38, 0)] v8
  refine g_putF (ty := (.array .int)) S hnm G 8 18 v8 (by decide) (by decide) i8 (S.2.2.2.2 (.fieldLink RX7 56 "SensorBondModel" "value" "[I") (by decide +kernel)) rfl rfl (by decide +kernel) rfl rfl (gw_r rfl (by omega)) dX7_init_129 (fun H locs G => ?_)
  have F := fun (f : Nat) (hf : 38 < f) => (((F f (by omega)).updR (g := 38) (j := 0) (r := fun _ => 0) (fun k => by rw [gm_t_big (by decide)]; omega)).app0 (g := 38) (j := 0) (fun k => by rw [gm_t_big (by decide)]; omega)).upd (g := 8) (j := 0) (k := 18) (x := nI 0) (by show 21 + 18 ≠ f + 1; omega)
  have N := fun (f : Nat) (hf : 38 < f) (h : (f, 0) ∈ ((((((((((((((((ids ++ [(8, 0)]) ++ [(21, 0)]) ++ [(22, 0)]) ++ [(23, 0)]) ++ [(24, 0)]) ++ [(25, 0)]) ++ [(26, 0)]) ++ [(27, 0)]) ++ [(28, 0)]) ++ [(29, 0)]) ++ [(30, 0)]) ++ [(32, 0)]) ++ [(33, 0)]) ++ [(34, 0)]) ++ [(35, 0)]) ++ [(37, 0)]) ++ [(38, 0)]) => (List.mem_append.mp h).elim (N f (by omega)) (fun z => by have := congrArg Prod.fst (List.mem_singleton.mp z); dsimp only at this; omega)
  refine lv_aload_n S.1 S.2.1 dX7_init_132 rfl (lv_at hl 0 rfl) ?_
  refine lv_bipush (v := 80) S.1 S.2.1 dX7_init_133 (by decide) ?_
  refine g_newa S G 39 0 rfl rfl rfl (by decide +kernel) (N 39 (by decide)) (F 39 (by decide)) rfl (Nat.le_of_ble_eq_true rfl) (Nat.le_of_ble_eq_true rfl) (Nat.le_of_ble_eq_true rfl) dX7_init_135 (fun q_135 H G => ?_)
  have v8 := List.mem_append_left [(39, 0)] v8
  refine g_putF (ty := (.array .int)) S hnm G 8 19 v8 (by decide) (by decide) i8 (S.2.2.2.2 (.fieldLink RX7 59 "SensorBondModel" "state" "[I") (by decide +kernel)) rfl rfl (by decide +kernel) rfl rfl (gw_r rfl (by omega)) dX7_init_137 (fun H locs G => ?_)
  have F := fun (f : Nat) (hf : 39 < f) => (((F f (by omega)).updR (g := 39) (j := 0) (r := fun _ => 0) (fun k => by rw [gm_t_big (by decide)]; omega)).app0 (g := 39) (j := 0) (fun k => by rw [gm_t_big (by decide)]; omega)).upd (g := 8) (j := 0) (k := 19) (x := nI 0) (by show 21 + 19 ≠ f + 1; omega)
  have N := fun (f : Nat) (hf : 39 < f) (h : (f, 0) ∈ (((((((((((((((((ids ++ [(8, 0)]) ++ [(21, 0)]) ++ [(22, 0)]) ++ [(23, 0)]) ++ [(24, 0)]) ++ [(25, 0)]) ++ [(26, 0)]) ++ [(27, 0)]) ++ [(28, 0)]) ++ [(29, 0)]) ++ [(30, 0)]) ++ [(32, 0)]) ++ [(33, 0)]) ++ [(34, 0)]) ++ [(35, 0)]) ++ [(37, 0)]) ++ [(38, 0)]) ++ [(39, 0)]) => (List.mem_append.mp h).elim (N f (by omega)) (fun z => by have := congrArg Prod.fst (List.mem_singleton.mp z); dsimp only at this; omega)
  refine lv_aload_n S.1 S.2.1 dX7_init_140 rfl (lv_at hl 0 rfl) ?_
  refine lv_bipush (v := 80) S.1 S.2.1 dX7_init_141 (by decide) ?_
  refine g_newa S G 40 0 rfl rfl rfl (by decide +kernel) (N 40 (by decide)) (F 40 (by decide)) rfl (Nat.le_of_ble_eq_true rfl) (Nat.le_of_ble_eq_true rfl) (Nat.le_of_ble_eq_true rfl) dX7_init_143 (fun q_143 H G => ?_)
  have v8 := List.mem_append_left [(40, 0)] v8
  refine g_putF (ty := (.array .int)) S hnm G 8 20 v8 (by decide) (by decide) i8 (S.2.2.2.2 (.fieldLink RX7 62 "SensorBondModel" "passed" "[I") (by decide +kernel)) rfl rfl (by decide +kernel) rfl rfl (gw_r rfl (by omega)) dX7_init_145 (fun H locs G => ?_)
  have F := fun (f : Nat) (hf : 40 < f) => (((F f (by omega)).updR (g := 40) (j := 0) (r := fun _ => 0) (fun k => by rw [gm_t_big (by decide)]; omega)).app0 (g := 40) (j := 0) (fun k => by rw [gm_t_big (by decide)]; omega)).upd (g := 8) (j := 0) (k := 20) (x := nI 0) (by show 21 + 20 ≠ f + 1; omega)
  have N := fun (f : Nat) (hf : 40 < f) (h : (f, 0) ∈ ((((((((((((((((((ids ++ [(8, 0)]) ++ [(21, 0)]) ++ [(22, 0)]) ++ [(23, 0)]) ++ [(24, 0)]) ++ [(25, 0)]) ++ [(26, 0)]) ++ [(27, 0)]) ++ [(28, 0)]) ++ [(29, 0)]) ++ [(30, 0)]) ++ [(32, 0)]) ++ [(33, 0)]) ++ [(34, 0)]) ++ [(35, 0)]) ++ [(37, 0)]) ++ [(38, 0)]) ++ [(39, 0)]) ++ [(40, 0)]) => (List.mem_append.mp h).elim (N f (by omega)) (fun z => by have := congrArg Prod.fst (List.mem_singleton.mp z); dsimp only at this; omega)
  refine lv_aload_n S.1 S.2.1 dX7_init_148 rfl (lv_at hl 0 rfl) ?_
  refine lv_bipush (v := 80) S.1 S.2.1 dX7_init_149 (by decide) ?_
  refine g_newa S G 41 0 rfl rfl rfl (by decide +kernel) (N 41 (by decide)) (F 41 (by decide)) rfl (Nat.le_of_ble_eq_true rfl) (Nat.le_of_ble_eq_true rfl) (Nat.le_of_ble_eq_true rfl) dX7_init_151 (fun q_151 H G => ?_)
  have v8 := List.mem_append_left [(41, 0)] v8
  refine g_putF (ty := (.array .int)) S hnm G 8 21 v8 (by decide) (by decide) i8 (S.2.2.2.2 (.fieldLink RX7 65 "SensorBondModel" "since" "[I") (by decide +kernel)) rfl rfl (by decide +kernel) rfl rfl (gw_r rfl (by omega)) dX7_init_153 (fun H locs G => ?_)
  have F := fun (f : Nat) (hf : 41 < f) => (((F f (by omega)).updR (g := 41) (j := 0) (r := fun _ => 0) (fun k => by rw [gm_t_big (by decide)]; omega)).app0 (g := 41) (j := 0) (fun k => by rw [gm_t_big (by decide)]; omega)).upd (g := 8) (j := 0) (k := 21) (x := nI 0) (by show 21 + 21 ≠ f + 1; omega)
  have N := fun (f : Nat) (hf : 41 < f) (h : (f, 0) ∈ (((((((((((((((((((ids ++ [(8, 0)]) ++ [(21, 0)]) ++ [(22, 0)]) ++ [(23, 0)]) ++ [(24, 0)]) ++ [(25, 0)]) ++ [(26, 0)]) ++ [(27, 0)]) ++ [(28, 0)]) ++ [(29, 0)]) ++ [(30, 0)]) ++ [(32, 0)]) ++ [(33, 0)]) ++ [(34, 0)]) ++ [(35, 0)]) ++ [(37, 0)]) ++ [(38, 0)]) ++ [(39, 0)]) ++ [(40, 0)]) ++ [(41, 0)]) => (List.mem_append.mp h).elim (N f (by omega)) (fun z => by have := congrArg Prod.fst (List.mem_singleton.mp z); dsimp only at this; omega)
  refine lv_aload_n S.1 S.2.1 dX7_init_156 rfl (lv_at hl 0 rfl) ?_
  refine lv_bipush (v := 80) S.1 S.2.1 dX7_init_157 (by decide) ?_
  refine g_newa S G 42 0 rfl rfl rfl (by decide +kernel) (N 42 (by decide)) (F 42 (by decide)) rfl (Nat.le_of_ble_eq_true rfl) (Nat.le_of_ble_eq_true rfl) (Nat.le_of_ble_eq_true rfl) dX7_init_159 (fun q_159 H G => ?_)
  have v8 := List.mem_append_left [(42, 0)] v8
  refine g_putF (ty := (.array .int)) S hnm G 8 22 v8 (by decide) (by decide) i8 (S.2.2.2.2 (.fieldLink RX7 68 "SensorBondModel" "challenger" "[I") (by decide +kernel)) rfl rfl (by decide +kernel) rfl rfl (gw_r rfl (by omega)) dX7_init_161 (fun H locs G => ?_)
  have F := fun (f : Nat) (hf : 42 < f) => (((F f (by omega)).updR (g := 42) (j := 0) (r := fun _ => 0) (fun k => by rw [gm_t_big (by decide)]; omega)).app0 (g := 42) (j := 0) (fun k => by rw [gm_t_big (by decide)]; omega)).upd (g := 8) (j := 0) (k := 22) (x := nI 0) (by show 21 + 22 ≠ f + 1; omega)
  have N := fun (f : Nat) (hf : 42 < f) (h : (f, 0) ∈ ((((((((((((((((((((ids ++ [(8, 0)]) ++ [(21, 0)]) ++ [(22, 0)]) ++ [(23, 0)]) ++ [(24, 0)]) ++ [(25, 0)]) ++ [(26, 0)]) ++ [(27, 0)]) ++ [(28, 0)]) ++ [(29, 0)]) ++ [(30, 0)]) ++ [(32, 0)]) ++ [(33, 0)]) ++ [(34, 0)]) ++ [(35, 0)]) ++ [(37, 0)]) ++ [(38, 0)]) ++ [(39, 0)]) ++ [(40, 0)]) ++ [(41, 0)]) ++ [(42, 0)]) => (List.mem_append.mp h).elim (N f (by omega)) (fun z => by have := congrArg Prod.fst (List.mem_singleton.mp z); dsimp only at this; omega)
  refine lv_aload_n S.1 S.2.1 dX7_init_164 rfl (lv_at hl 0 rfl) ?_
  refine lv_sipush (v := 480) S.1 S.2.1 dX7_init_165 (by decide) ?_
  refine g_newa S G 43 0 rfl rfl rfl (by decide +kernel) (N 43 (by decide)) (F 43 (by decide)) rfl (Nat.le_of_ble_eq_true rfl) (Nat.le_of_ble_eq_true rfl) (Nat.le_of_ble_eq_true rfl) dX7_init_168 (fun q_168 H G => ?_)
  have v8 := List.mem_append_left [(43, 0)] v8
  refine g_putF (ty := (.array .int)) S hnm G 8 23 v8 (by decide) (by decide) i8 (S.2.2.2.2 (.fieldLink RX7 71 "SensorBondModel" "held" "[I") (by decide +kernel)) rfl rfl (by decide +kernel) rfl rfl (gw_r rfl (by omega)) dX7_init_170 (fun H locs G => ?_)
  have F := fun (f : Nat) (hf : 43 < f) => (((F f (by omega)).updR (g := 43) (j := 0) (r := fun _ => 0) (fun k => by rw [gm_t_big (by decide)]; omega)).app0 (g := 43) (j := 0) (fun k => by rw [gm_t_big (by decide)]; omega)).upd (g := 8) (j := 0) (k := 23) (x := nI 0) (by show 21 + 23 ≠ f + 1; omega)
  have N := fun (f : Nat) (hf : 43 < f) (h : (f, 0) ∈ (((((((((((((((((((((ids ++ [(8, 0)]) ++ [(21, 0)]) ++ [(22, 0)]) ++ [(23, 0)]) ++ [(24, 0)]) ++ [(25, 0)]) ++ [(26, 0)]) ++ [(27, 0)]) ++ [(28, 0)]) ++ [(29, 0)]) ++ [(30, 0)]) ++ [(32, 0)]) ++ [(33, 0)]) ++ [(34, 0)]) ++ [(35, 0)]) ++ [(37, 0)]) ++ [(38, 0)]) ++ [(39, 0)]) ++ [(40, 0)]) ++ [(41, 0)]) ++ [(42, 0)]) ++ [(43, 0)]) => (List.mem_append.mp h).elim (N f (by omega)) (fun z => by have := congrArg Prod.fst (List.mem_singleton.mp z); dsimp only at this; omega)
  refine lv_aload_n S.1 S.2.1 dX7_init_173 rfl (lv_at hl 0 rfl) ?_
  refine lv_bipush (v := 80) S.1 S.2.1 dX7_init_174 (by decide) ?_
  refine g_newa S G 44 0 rfl rfl rfl (by decide +kernel) (N 44 (by decide)) (F 44 (by decide)) rfl (Nat.le_of_ble_eq_true rfl) (Nat.le_of_ble_eq_true rfl) (Nat.le_of_ble_eq_true rfl) dX7_init_176 (fun q_176 H G => ?_)
  have v8 := List.mem_append_left [(44, 0)] v8
  refine g_putF (ty := (.array .int)) S hnm G 8 24 v8 (by decide) (by decide) i8 (S.2.2.2.2 (.fieldLink RX7 74 "SensorBondModel" "usedBy" "[I") (by decide +kernel)) rfl rfl (by decide +kernel) rfl rfl (gw_r rfl (by omega)) dX7_init_178 (fun H locs G => ?_)
  have F := fun (f : Nat) (hf : 44 < f) => (((F f (by omega)).updR (g := 44) (j := 0) (r := fun _ => 0) (fun k => by rw [gm_t_big (by decide)]; omega)).app0 (g := 44) (j := 0) (fun k => by rw [gm_t_big (by decide)]; omega)).upd (g := 8) (j := 0) (k := 24) (x := nI 0) (by show 21 + 24 ≠ f + 1; omega)
  have N := fun (f : Nat) (hf : 44 < f) (h : (f, 0) ∈ ((((((((((((((((((((((ids ++ [(8, 0)]) ++ [(21, 0)]) ++ [(22, 0)]) ++ [(23, 0)]) ++ [(24, 0)]) ++ [(25, 0)]) ++ [(26, 0)]) ++ [(27, 0)]) ++ [(28, 0)]) ++ [(29, 0)]) ++ [(30, 0)]) ++ [(32, 0)]) ++ [(33, 0)]) ++ [(34, 0)]) ++ [(35, 0)]) ++ [(37, 0)]) ++ [(38, 0)]) ++ [(39, 0)]) ++ [(40, 0)]) ++ [(41, 0)]) ++ [(42, 0)]) ++ [(43, 0)]) ++ [(44, 0)]) => (List.mem_append.mp h).elim (N f (by omega)) (fun z => by have := congrArg Prod.fst (List.mem_singleton.mp z); dsimp only at this; omega)
  refine lv_aload_n S.1 S.2.1 dX7_init_181 rfl (lv_at hl 0 rfl) ?_
  refine lv_sipush (v := 960) S.1 S.2.1 dX7_init_182 (by decide) ?_
  refine g_newa S G 45 0 rfl rfl rfl (by decide +kernel) (N 45 (by decide)) (F 45 (by decide)) rfl (Nat.le_of_ble_eq_true rfl) (Nat.le_of_ble_eq_true rfl) (Nat.le_of_ble_eq_true rfl) dX7_init_185 (fun q_185 H G => ?_)
  have v8 := List.mem_append_left [(45, 0)] v8
  refine g_putF (ty := (.array .int)) S hnm G 8 25 v8 (by decide) (by decide) i8 (S.2.2.2.2 (.fieldLink RX7 77 "SensorBondModel" "samples" "[I") (by decide +kernel)) rfl rfl (by decide +kernel) rfl rfl (gw_r rfl (by omega)) dX7_init_187 (fun H locs G => ?_)
  have G : gS D aC A s (iM ids) _ (gk (mK0 κ)) H locs := gS.conv (ids := iM ids) G (mK0_conv hC)
  obtain ⟨ad1, ⟨hq7, hq8⟩, G⟩ := G.gen (fun z => z 7 0 = ad 7 0 ∧ z 8 0 = ad 8 0) ⟨by rfl, by rfl⟩
  rw [← hq8] at hl
  have hm : mV (iM ids) := hM
  show W p l e _ s m _ below meth c H _ 23 2378 _ _
  refine lv_iconst (v := 0) S.1 S.2.1 dX7_init_190 (by decide) ?_
  refine lv_istore_n (lv' := [(1, _), (0, _)]) S.1 S.2.1 dX7_init_191 rfl hl (by decide) rfl (fun ls hl => ?_)
  refine g_for mI1 12 (fun k_192 => [(1, .int (nI k_192)), (0, .ref (ad1 8 0))]) ?_ G (lv_sub hl [0, 1] rfl)
  intro k_192 H locs ls hk_192 G hl ih_192
  have hl : lv_has ls 2 [(1, _), (0, _)] := hl
  refine lv_iload_n S.1 S.2.1 dX7_init_192 rfl (lv_at hl 0 rfl) ?_
  refine lv_bipush (v := 12) S.1 S.2.1 dX7_init_193 (by decide) ?_
  refine lv_icmp_ge (tgt := 236) S.1 S.2.1 dX7_init_195 (by decide) (fun c_195 => ?_) (fun c_195 => ?_)
  · have hkN_192 : k_192 = 12 := g_exit c_195 hk_192 (by omega)
    subst hkN_192
    refine lv_iconst (v := 0) S.1 S.2.1 dX7_init_236 (by decide) ?_
    refine lv_istore_n (lv' := [(1, _), (0, _)]) S.1 S.2.1 dX7_init_237 rfl hl (by decide) rfl (fun ls hl => ?_)
    refine g_for mI2 6 (fun k_238 => [(1, .int (nI k_238)), (0, .ref (ad1 8 0))]) ?_ G (lv_sub hl [0, 1] rfl)
    intro k_238 H locs ls hk_238 G hl ih_238
    have hl : lv_has ls 2 [(1, _), (0, _)] := hl
    refine lv_iload_n S.1 S.2.1 dX7_init_238 rfl (lv_at hl 0 rfl) ?_
    refine lv_bipush (v := 6) S.1 S.2.1 dX7_init_239 (by decide) ?_
    refine lv_icmp_ge (tgt := 259) S.1 S.2.1 dX7_init_241 (by decide) (fun c_241 => ?_) (fun c_241 => ?_)
    · have hkN_238 : k_238 = 6 := g_exit c_241 hk_238 (by omega)
      subst hkN_238
      refine lv_iconst (v := 0) S.1 S.2.1 dX7_init_259 (by decide) ?_
      refine lv_istore_n (lv' := [(1, _), (0, _)]) S.1 S.2.1 dX7_init_260 rfl hl (by decide) rfl (fun ls hl => ?_)
      refine g_for mI3 960 (fun k_261 => [(1, .int (nI k_261)), (0, .ref (ad1 8 0))]) ?_ G (lv_sub hl [0, 1] rfl)
      intro k_261 H locs ls hk_261 G hl ih_261
      have hl : lv_has ls 2 [(1, _), (0, _)] := hl
      refine lv_iload_n S.1 S.2.1 dX7_init_261 rfl (lv_at hl 0 rfl) ?_
      refine lv_sipush (v := 960) S.1 S.2.1 dX7_init_262 (by decide) ?_
      refine lv_icmp_ge (tgt := 281) S.1 S.2.1 dX7_init_265 (by decide) (fun c_265 => ?_) (fun c_265 => ?_)
      · have hkN_261 : k_261 = 960 := g_exit c_265 hk_261 (by omega)
        subst hkN_261
        show W p l e _ s m _ below meth c H _ 23 2378 _ _
        exact g_vret S G hr hlk (⟨ad1, hq7, hq8, rfl⟩) (Nat.le_of_ble_eq_true rfl) (Nat.le_of_ble_eq_true rfl) dX7_init_281
      · have hlt_261 : k_261 < 960 := g_stay c_265 hk_261 (by omega)
        refine lv_aload_n S.1 S.2.1 dX7_init_268 rfl (lv_at hl 1 rfl) ?_
        refine g_get S G 8 25 v8 (by decide) (by decide) i8 (S.2.2.2.2 (.fieldLink RX7 77 "SensorBondModel" "samples" "[I") (by decide +kernel)) (gvk_or (j := 0) rfl rfl (by omega)) dX7_init_269 ?_
        refine lv_iload_n S.1 S.2.1 dX7_init_272 rfl (lv_at hl 0 rfl) ?_
        refine lv_iconst (v := (-1)) S.1 S.2.1 dX7_init_273 (by decide) ?_
        refine k_iast S G 45 (hm 45 0 (by decide)) rfl rfl rfl rfl (show _ < 960 by omega) dX7_init_274 (fun H locs G => ?_)
        refine lv_iinc (k := 0) (lv' := [(1, _), (0, _)]) S.1 S.2.1 dX7_init_275 hl rfl (g_inc _) (by decide) rfl (fun ls hl => ?_)
        refine lv_goto (tgt := 261) S.1 S.2.1 dX7_init_278 (by decide) ?_
        exact ih_261 hlt_261 _ _ _ G (lv_sub hl [0, 1] rfl)
    · have hlt_238 : k_238 < 6 := g_stay c_241 hk_238 (by omega)
      refine lv_aload_n S.1 S.2.1 dX7_init_244 rfl (lv_at hl 1 rfl) ?_
      refine g_get S G 8 10 v8 (by decide) (by decide) i8 (S.2.2.2.2 (.fieldLink RX7 37 "SensorBondModel" "purse" "[I") (by decide +kernel)) (gvk_or (j := 0) rfl rfl (by omega)) dX7_init_245 ?_
      refine lv_iload_n S.1 S.2.1 dX7_init_248 rfl (lv_at hl 0 rfl) ?_
      refine lv_sipush (v := 200) S.1 S.2.1 dX7_init_249 (by decide) ?_
      refine k_iast S G 30 (hm 30 0 (by decide)) rfl rfl rfl rfl (show _ < 6 by omega) dX7_init_252 (fun H locs G => ?_)
      refine lv_iinc (k := 0) (lv' := [(1, _), (0, _)]) S.1 S.2.1 dX7_init_253 hl rfl (g_inc _) (by decide) rfl (fun ls hl => ?_)
      refine lv_goto (tgt := 238) S.1 S.2.1 dX7_init_256 (by decide) ?_
      exact ih_238 hlt_238 _ _ _ G (lv_sub hl [0, 1] rfl)
  · have hlt_192 : k_192 < 12 := g_stay c_195 hk_192 (by omega)
    refine lv_aload_n S.1 S.2.1 dX7_init_198 rfl (lv_at hl 1 rfl) ?_
    refine g_get S G 8 5 v8 (by decide) (by decide) i8 (S.2.2.2.2 (.fieldLink RX7 22 "SensorBondModel" "attached" "[I") (by decide +kernel)) (gvk_or (j := 0) rfl rfl (by omega)) dX7_init_199 ?_
    refine lv_iload_n S.1 S.2.1 dX7_init_202 rfl (lv_at hl 0 rfl) ?_
    refine lv_iload_n S.1 S.2.1 dX7_init_203 rfl (lv_at hl 0 rfl) ?_
    refine lv_bipush (v := 6) S.1 S.2.1 dX7_init_204 (by decide) ?_
    refine lv_irem S.1 S.2.1 dX7_init_206 (by decide) ?_
    refine k_iast S G 25 (hm 25 0 (by decide)) rfl rfl rfl rfl (show _ < 12 by omega) dX7_init_207 (fun H locs G => ?_)
    refine lv_aload_n S.1 S.2.1 dX7_init_208 rfl (lv_at hl 1 rfl) ?_
    refine g_get S G 8 6 v8 (by decide) (by decide) i8 (S.2.2.2.2 (.fieldLink RX7 25 "SensorBondModel" "bond" "[I") (by decide +kernel)) (gvk_or (j := 0) rfl rfl (by omega)) dX7_init_209 ?_
    refine lv_iload_n S.1 S.2.1 dX7_init_212 rfl (lv_at hl 0 rfl) ?_
    refine lv_bipush (v := 100) S.1 S.2.1 dX7_init_213 (by decide) ?_
    refine k_iast S G 26 (hm 26 0 (by decide)) rfl rfl rfl rfl (show _ < 12 by omega) dX7_init_215 (fun H locs G => ?_)
    refine lv_aload_n S.1 S.2.1 dX7_init_216 rfl (lv_at hl 1 rfl) ?_
    refine g_get S G 8 8 v8 (by decide) (by decide) i8 (S.2.2.2.2 (.fieldLink RX7 31 "SensorBondModel" "price" "[I") (by decide +kernel)) (gvk_or (j := 0) rfl rfl (by omega)) dX7_init_217 ?_
    refine lv_iload_n S.1 S.2.1 dX7_init_220 rfl (lv_at hl 0 rfl) ?_
    refine lv_iconst (v := 1) S.1 S.2.1 dX7_init_221 (by decide) ?_
    refine k_iast S G 28 (hm 28 0 (by decide)) rfl rfl rfl rfl (show _ < 12 by omega) dX7_init_222 (fun H locs G => ?_)
    refine lv_aload_n S.1 S.2.1 dX7_init_223 rfl (lv_at hl 1 rfl) ?_
    refine g_get S G 8 9 v8 (by decide) (by decide) i8 (S.2.2.2.2 (.fieldLink RX7 34 "SensorBondModel" "toldIn" "[I") (by decide +kernel)) (gvk_or (j := 0) rfl rfl (by omega)) dX7_init_224 ?_
    refine lv_iload_n S.1 S.2.1 dX7_init_227 rfl (lv_at hl 0 rfl) ?_
    refine lv_iconst (v := (-1)) S.1 S.2.1 dX7_init_228 (by decide) ?_
    refine k_iast S G 29 (hm 29 0 (by decide)) rfl rfl rfl rfl (show _ < 12 by omega) dX7_init_229 (fun H locs G => ?_)
    refine lv_iinc (k := 0) (lv' := [(1, _), (0, _)]) S.1 S.2.1 dX7_init_230 hl rfl (g_inc _) (by decide) rfl (fun ls hl => ?_)
    refine lv_goto (tgt := 192) S.1 S.2.1 dX7_init_233 (by decide) ?_
    exact ih_192 hlt_192 _ _ _ G (lv_sub hl [0, 1] rfl)
