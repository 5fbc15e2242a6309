set_option maxHeartbeats 4000000 in
set_option maxRecDepth 100000 in
theorem c_X7_thrown (l : Launch) (ids : gIds) (ad : gAd) (κ : gMem) (hV : mV ids)  : gMi l yX7_thrown wsX7_thrown ({ frames := 0, cells := 0, slots := 0, locals := 0 } : Room) 0 0 [.ref (ad 8 0)] (ids, ad, gk κ) (fun r u => r = κ 8 0 26 ∧ u = (ids, ad, gk (κ))) := by
  intro D aC A
  refine g_of (cc := cX7_thrown) (maxL := 1) (ret := (some .int)) (by decide +kernel) rfl (Nat.le_of_ble_eq_true rfl) ?_
  intro p e s m below meth c ls S G hF hr hlk hnm hl
  have hl : lv_has ls 1 [(0, _)] := hl
  have i8 : ∀ w ∈ wsX70, w ∈ wsX7_thrown := by decide +kernel
  refine lv_aload_n S.1 S.2.1 dX7_thrown_0 rfl (lv_at hl 0 rfl) ?_
  refine g_get S G 8 26 (hV 8 _ (by first | decide | (show _ < 1; omega))) (by decide) (by decide) i8 (S.2.2.2.2 (.fieldLink RX7 80 "SensorBondModel" "thrown" "I") (by decide +kernel)) (gvk_i rfl rfl) dX7_thrown_1 ?_
  exact g_iret S G hr hlk (⟨rfl, rfl⟩) (Nat.le_of_ble_eq_true rfl) (Nat.le_of_ble_eq_true rfl) dX7_thrown_4
set_option maxHeartbeats 4000000 in
set_option maxRecDepth 100000 in
theorem c_X7_can (l : Launch) (ids : gIds) (ad : gAd) (κ : gMem) (t : Int32) (hV : mV ids)  : gMi l yX7_can wsX7_can ({ frames := 0, cells := 0, slots := 0, locals := 0 } : Room) 0 0 [.ref (ad 8 0), .int t] (ids, ad, gk κ) (fun r u => r = (if t = 0 then 1 else 0) ∧ u = (ids, ad, gk (mCan κ t))) := by
  intro D aC A
  refine g_of (cc := cX7_can) (maxL := 2) (ret := (some .boolean)) (by decide +kernel) rfl (Nat.le_of_ble_eq_true rfl) ?_
  intro p e s m below meth c ls S G hF hr hlk hnm hl
  have hl : lv_has ls 2 [(0, _), (1, _)] := hl
  have i8 : ∀ w ∈ wsX70, w ∈ wsX7_can := by decide +kernel
  refine lv_aload_n S.1 S.2.1 dX7_can_0 rfl (lv_at hl 0 rfl) ?_
  refine lv_iload_n S.1 S.2.1 dX7_can_1 rfl (lv_at hl 1 rfl) ?_
  refine g_put (ty := .int) S G 8 26 (hV 8 _ (by first | decide | (show _ < 1; omega))) (by decide) (by decide) i8 (S.2.2.2.2 (.fieldLink RX7 80 "SensorBondModel" "thrown" "I") (by decide +kernel)) rfl (by decide +kernel) rfl rfl (gw_i rfl) dX7_can_2 (fun H locs G => ?_)
  have G := gk_S rfl G
  refine lv_iload_n S.1 S.2.1 dX7_can_5 rfl (lv_at hl 1 rfl) ?_
  refine lv_if_ne (tgt := 13) S.1 S.2.1 dX7_can_6 (by decide) (fun c_6 => ?_) (fun c_6 => ?_)
  · refine lv_iconst (v := 0) S.1 S.2.1 dX7_can_13 (by decide) ?_
    exact g_zret S G hr hlk (by decide) (⟨by simp only [if_neg c_6], rfl⟩) (Nat.le_of_ble_eq_true rfl) (Nat.le_of_ble_eq_true rfl) dX7_can_14
  · refine lv_iconst (v := 1) S.1 S.2.1 dX7_can_9 (by decide) ?_
    refine lv_goto (tgt := 14) S.1 S.2.1 dX7_can_10 (by decide) ?_
    exact g_zret S G hr hlk (by decide) (⟨by simp only [if_pos c_6], rfl⟩) (Nat.le_of_ble_eq_true rfl) (Nat.le_of_ble_eq_true rfl) dX7_can_14
set_option maxHeartbeats 4000000 in
set_option maxRecDepth 100000 in
theorem c_X7_isIn (l : Launch) (ids : gIds) (ad : gAd) (κ : gMem) (n a b : Int32)  : gMi l yX7_isIn wsX7_isIn ({ frames := 0, cells := 0, slots := 0, locals := 0 } : Room) 0 0 [.int n, .int a, .int b] (ids, ad, gk κ) (fun r u => r = mIn n a b ∧ u = (ids, ad, gk (κ))) := by
  intro D aC A
  refine g_of (cc := cX7_isIn) (maxL := 3) (ret := (some .boolean)) (by decide +kernel) rfl (Nat.le_of_ble_eq_true rfl) ?_
  intro p e s m below meth c ls S G hF hr hlk hnm hl
  have hl : lv_has ls 3 [(0, _), (1, _), (2, _)] := hl
  refine lv_iload_n S.1 S.2.1 dX7_isIn_0 rfl (lv_at hl 0 rfl) ?_
  refine lv_iload_n S.1 S.2.1 dX7_isIn_1 rfl (lv_at hl 1 rfl) ?_
  refine lv_icmp_lt (tgt := 14) S.1 S.2.1 dX7_isIn_2 (by decide) (fun c_2 => ?_) (fun c_2 => ?_)
  · refine lv_iconst (v := 0) S.1 S.2.1 dX7_isIn_14 (by decide) ?_
    exact g_zret S G hr hlk (by decide) (⟨by simp only [mIn, if_pos c_2], rfl⟩) (Nat.le_of_ble_eq_true rfl) (Nat.le_of_ble_eq_true rfl) dX7_isIn_15
  · refine lv_iload_n S.1 S.2.1 dX7_isIn_5 rfl (lv_at hl 0 rfl) ?_
    refine lv_iload_n S.1 S.2.1 dX7_isIn_6 rfl (lv_at hl 2 rfl) ?_
    refine lv_icmp_gt (tgt := 14) S.1 S.2.1 dX7_isIn_7 (by decide) (fun c_7 => ?_) (fun c_7 => ?_)
    · refine lv_iconst (v := 0) S.1 S.2.1 dX7_isIn_14 (by decide) ?_
      exact g_zret S G hr hlk (by decide) (⟨by simp only [mIn, if_neg c_2, if_pos c_7], rfl⟩) (Nat.le_of_ble_eq_true rfl) (Nat.le_of_ble_eq_true rfl) dX7_isIn_15
    · refine lv_iconst (v := 1) S.1 S.2.1 dX7_isIn_10 (by decide) ?_
      refine lv_goto (tgt := 15) S.1 S.2.1 dX7_isIn_11 (by decide) ?_
      exact g_zret S G hr hlk (by decide) (⟨by simp only [mIn, if_neg c_2, if_neg c_7], rfl⟩) (Nat.le_of_ble_eq_true rfl) (Nat.le_of_ble_eq_true rfl) dX7_isIn_15
set_option maxHeartbeats 4000000 in
set_option maxRecDepth 100000 in
theorem c_X7_isSensor (l : Launch) (ids : gIds) (ad : gAd) (κ : gMem) (n : Int32)  : gMi l yX7_isSensor wsX7_isSensor ({ frames := 1, cells := 0, slots := 0, locals := 22 } : Room) 0 0 [.int n] (ids, ad, gk κ) (fun r u => r = mIn n 0 11 ∧ u = (ids, ad, gk (κ))) := by
  intro D aC A
  refine g_of (cc := cX7_isSensor) (maxL := 1) (ret := (some .boolean)) (by decide +kernel) rfl (Nat.le_of_ble_eq_true rfl) ?_
  intro p e s m below meth c ls S G hF hr hlk hnm hl
  have hl : lv_has ls 1 [(0, _)] := hl
  refine lv_iload_n S.1 S.2.1 dX7_isSensor_0 rfl (lv_at hl 0 rfl) ?_
  refine lv_iconst (v := 0) S.1 S.2.1 dX7_isSensor_1 (by decide) ?_
  refine lv_bipush (v := 11) S.1 S.2.1 dX7_isSensor_2 (by decide) ?_
  refine g_cSi S G hF hl (c_X7_isIn l ids ad _ _ _ _) (va_cwS 3 S.2.2.2.2 gX7_isSensor_X7_isIn rfl rfl rfl (by decide +kernel) ⟨Nat.le_of_ble_eq_true rfl, Nat.le_of_ble_eq_true rfl⟩) rfl rfl (Nat.le_of_ble_eq_true rfl) dX7_isSensor_4 ⟨Nat.le_of_ble_eq_true rfl, Nat.le_of_ble_eq_true rfl⟩ (fun r_4 u_4 H locs hp_4 G => ?_)
  obtain ⟨rfl, rfl⟩ := hp_4
  have G : gS D aC A s ids ad (gk _) H locs := G
  exact g_zret S G hr hlk (by rcases mIn_01 n 0 11 with h | h <;> rw [h] <;> decide) (⟨rfl, rfl⟩) (Nat.le_of_ble_eq_true rfl) (Nat.le_of_ble_eq_true rfl) dX7_isSensor_7
set_option maxHeartbeats 4000000 in
set_option maxRecDepth 100000 in
theorem c_X7_isRepeater (l : Launch) (ids : gIds) (ad : gAd) (κ : gMem) (n : Int32)  : gMi l yX7_isRepeater wsX7_isRepeater ({ frames := 1, cells := 0, slots := 0, locals := 22 } : Room) 0 0 [.int n] (ids, ad, gk κ) (fun r u => r = mIn n 0 5 ∧ u = (ids, ad, gk (κ))) := by
  intro D aC A
  refine g_of (cc := cX7_isRepeater) (maxL := 1) (ret := (some .boolean)) (by decide +kernel) rfl (Nat.le_of_ble_eq_true rfl) ?_
  intro p e s m below meth c ls S G hF hr hlk hnm hl
  have hl : lv_has ls 1 [(0, _)] := hl
  refine lv_iload_n S.1 S.2.1 dX7_isRepeater_0 rfl (lv_at hl 0 rfl) ?_
  refine lv_iconst (v := 0) S.1 S.2.1 dX7_isRepeater_1 (by decide) ?_
  refine lv_iconst (v := 5) S.1 S.2.1 dX7_isRepeater_2 (by decide) ?_
  refine g_cSi S G hF hl (c_X7_isIn l ids ad _ _ _ _) (va_cwS 3 S.2.2.2.2 gX7_isRepeater_X7_isIn rfl rfl rfl (by decide +kernel) ⟨Nat.le_of_ble_eq_true rfl, Nat.le_of_ble_eq_true rfl⟩) rfl rfl (Nat.le_of_ble_eq_true rfl) dX7_isRepeater_3 ⟨Nat.le_of_ble_eq_true rfl, Nat.le_of_ble_eq_true rfl⟩ (fun r_3 u_3 H locs hp_3 G => ?_)
  obtain ⟨rfl, rfl⟩ := hp_3
  have G : gS D aC A s ids ad (gk _) H locs := G
  exact g_zret S G hr hlk (by rcases mIn_01 n 0 5 with h | h <;> rw [h] <;> decide) (⟨rfl, rfl⟩) (Nat.le_of_ble_eq_true rfl) (Nat.le_of_ble_eq_true rfl) dX7_isRepeater_6
set_option maxHeartbeats 4000000 in
set_option maxRecDepth 100000 in
theorem c_X7_isBuyer (l : Launch) (ids : gIds) (ad : gAd) (κ : gMem) (n : Int32)  : gMi l yX7_isBuyer wsX7_isBuyer ({ frames := 1, cells := 0, slots := 0, locals := 22 } : Room) 0 0 [.int n] (ids, ad, gk κ) (fun r u => r = mIn n 0 5 ∧ u = (ids, ad, gk (κ))) := by
  intro D aC A
  refine g_of (cc := cX7_isBuyer) (maxL := 1) (ret := (some .boolean)) (by decide +kernel) rfl (Nat.le_of_ble_eq_true rfl) ?_
  intro p e s m below meth c ls S G hF hr hlk hnm hl
  have hl : lv_has ls 1 [(0, _)] := hl
  refine lv_iload_n S.1 S.2.1 dX7_isBuyer_0 rfl (lv_at hl 0 rfl) ?_
  refine lv_iconst (v := 0) S.1 S.2.1 dX7_isBuyer_1 (by decide) ?_
  refine lv_iconst (v := 5) S.1 S.2.1 dX7_isBuyer_2 (by decide) ?_
  refine g_cSi S G hF hl (c_X7_isIn l ids ad _ _ _ _) (va_cwS 3 S.2.2.2.2 gX7_isBuyer_X7_isIn rfl rfl rfl (by decide +kernel) ⟨Nat.le_of_ble_eq_true rfl, Nat.le_of_ble_eq_true rfl⟩) rfl rfl (Nat.le_of_ble_eq_true rfl) dX7_isBuyer_3 ⟨Nat.le_of_ble_eq_true rfl, Nat.le_of_ble_eq_true rfl⟩ (fun r_3 u_3 H locs hp_3 G => ?_)
  obtain ⟨rfl, rfl⟩ := hp_3
  have G : gS D aC A s ids ad (gk _) H locs := G
  exact g_zret S G hr hlk (by rcases mIn_01 n 0 5 with h | h <;> rw [h] <;> decide) (⟨rfl, rfl⟩) (Nat.le_of_ble_eq_true rfl) (Nat.le_of_ble_eq_true rfl) dX7_isBuyer_6
set_option maxHeartbeats 4000000 in
set_option maxRecDepth 100000 in
theorem c_X7_isValue (l : Launch) (ids : gIds) (ad : gAd) (κ : gMem) (n : Int32)  : gMi l yX7_isValue wsX7_isValue ({ frames := 1, cells := 0, slots := 0, locals := 22 } : Room) 0 0 [.int n] (ids, ad, gk κ) (fun r u => r = mIn n 0 99 ∧ u = (ids, ad, gk (κ))) := by
  intro D aC A
  refine g_of (cc := cX7_isValue) (maxL := 1) (ret := (some .boolean)) (by decide +kernel) rfl (Nat.le_of_ble_eq_true rfl) ?_
  intro p e s m below meth c ls S G hF hr hlk hnm hl
  have hl : lv_has ls 1 [(0, _)] := hl
  refine lv_iload_n S.1 S.2.1 dX7_isValue_0 rfl (lv_at hl 0 rfl) ?_
  refine lv_iconst (v := 0) S.1 S.2.1 dX7_isValue_1 (by decide) ?_
  refine lv_bipush (v := 99) S.1 S.2.1 dX7_isValue_2 (by decide) ?_
  refine g_cSi S G hF hl (c_X7_isIn l ids ad _ _ _ _) (va_cwS 3 S.2.2.2.2 gX7_isValue_X7_isIn rfl rfl rfl (by decide +kernel) ⟨Nat.le_of_ble_eq_true rfl, Nat.le_of_ble_eq_true rfl⟩) rfl rfl (Nat.le_of_ble_eq_true rfl) dX7_isValue_4 ⟨Nat.le_of_ble_eq_true rfl, Nat.le_of_ble_eq_true rfl⟩ (fun r_4 u_4 H locs hp_4 G => ?_)
  obtain ⟨rfl, rfl⟩ := hp_4
  have G : gS D aC A s ids ad (gk _) H locs := G
  exact g_zret S G hr hlk (by rcases mIn_01 n 0 99 with h | h <;> rw [h] <;> decide) (⟨rfl, rfl⟩) (Nat.le_of_ble_eq_true rfl) (Nat.le_of_ble_eq_true rfl) dX7_isValue_7
set_option maxHeartbeats 4000000 in
set_option maxRecDepth 100000 in
theorem c_X7_isReading (l : Launch) (ids : gIds) (ad : gAd) (κ : gMem) (n : Int32) (hV : mV ids)  : gMi l yX7_isReading wsX7_isReading ({ frames := 1, cells := 0, slots := 0, locals := 22 } : Room) 0 0 [.ref (ad 8 0), .int n] (ids, ad, gk κ) (fun r u => r = mIn n 0 (κ 8 0 16 - 1) ∧ u = (ids, ad, gk (κ))) := by
  intro D aC A
  refine g_of (cc := cX7_isReading) (maxL := 2) (ret := (some .boolean)) (by decide +kernel) rfl (Nat.le_of_ble_eq_true rfl) ?_
  intro p e s m below meth c ls S G hF hr hlk hnm hl
  have hl : lv_has ls 2 [(0, _), (1, _)] := hl
  have i8 : ∀ w ∈ wsX70, w ∈ wsX7_isReading := by decide +kernel
  refine lv_iload_n S.1 S.2.1 dX7_isReading_0 rfl (lv_at hl 1 rfl) ?_
  refine lv_iconst (v := 0) S.1 S.2.1 dX7_isReading_1 (by decide) ?_
  refine lv_aload_n S.1 S.2.1 dX7_isReading_2 rfl (lv_at hl 0 rfl) ?_
  refine g_get S G 8 16 (hV 8 _ (by first | decide | (show _ < 1; omega))) (by decide) (by decide) i8 (S.2.2.2.2 (.fieldLink RX7 88 "SensorBondModel" "readings" "I") (by decide +kernel)) (gvk_i rfl rfl) dX7_isReading_3 ?_
  refine lv_iconst (v := 1) S.1 S.2.1 dX7_isReading_6 (by decide) ?_
  refine lv_isub S.1 S.2.1 dX7_isReading_7 ?_
  refine g_cSi S G hF hl (c_X7_isIn l ids ad _ _ _ _) (va_cwS 3 S.2.2.2.2 gX7_isReading_X7_isIn rfl rfl rfl (by decide +kernel) ⟨Nat.le_of_ble_eq_true rfl, Nat.le_of_ble_eq_true rfl⟩) rfl rfl (Nat.le_of_ble_eq_true rfl) dX7_isReading_8 ⟨Nat.le_of_ble_eq_true rfl, Nat.le_of_ble_eq_true rfl⟩ (fun r_8 u_8 H locs hp_8 G => ?_)
  obtain ⟨rfl, rfl⟩ := hp_8
  have G : gS D aC A s ids ad (gk _) H locs := G
  exact g_zret S G hr hlk (by rcases mIn_01 n 0 (κ 8 0 16 - 1) with h | h <;> rw [h] <;> decide) (⟨rfl, rfl⟩) (Nat.le_of_ble_eq_true rfl) (Nat.le_of_ble_eq_true rfl) dX7_isReading_11
set_option maxHeartbeats 4000000 in
set_option maxRecDepth 100000 in
theorem c_X7_apart (l : Launch) (ids : gIds) (ad : gAd) (κ : gMem) (a b : Int32)  : gMi l yX7_apart wsX7_apart ({ frames := 0, cells := 0, slots := 0, locals := 0 } : Room) 0 0 [.int a, .int b] (ids, ad, gk κ) (fun r u => r = mApart a b ∧ u = (ids, ad, gk (κ))) := by
  intro D aC A
  refine g_of (cc := cX7_apart) (maxL := 2) (ret := (some .int)) (by decide +kernel) rfl (Nat.le_of_ble_eq_true rfl) ?_
  intro p e s m below meth c ls S G hF hr hlk hnm hl
  have hl : lv_has ls 2 [(0, _), (1, _)] := hl
  refine lv_iload_n S.1 S.2.1 dX7_apart_0 rfl (lv_at hl 0 rfl) ?_
  refine lv_iload_n S.1 S.2.1 dX7_apart_1 rfl (lv_at hl 1 rfl) ?_
  refine lv_icmp_ge (tgt := 11) S.1 S.2.1 dX7_apart_2 (by decide) (fun c_2 => ?_) (fun c_2 => ?_)
  · refine lv_iload_n S.1 S.2.1 dX7_apart_11 rfl (lv_at hl 0 rfl) ?_
    refine lv_iload_n S.1 S.2.1 dX7_apart_12 rfl (lv_at hl 1 rfl) ?_
    refine lv_isub S.1 S.2.1 dX7_apart_13 ?_
    exact g_iret S G hr hlk (⟨by simp only [mApart, if_pos c_2], rfl⟩) (Nat.le_of_ble_eq_true rfl) (Nat.le_of_ble_eq_true rfl) dX7_apart_14
  · refine lv_iload_n S.1 S.2.1 dX7_apart_5 rfl (lv_at hl 1 rfl) ?_
    refine lv_iload_n S.1 S.2.1 dX7_apart_6 rfl (lv_at hl 0 rfl) ?_
    refine lv_isub S.1 S.2.1 dX7_apart_7 ?_
    refine lv_goto (tgt := 14) S.1 S.2.1 dX7_apart_8 (by decide) ?_
    exact g_iret S G hr hlk (⟨by simp only [mApart, if_neg c_2], rfl⟩) (Nat.le_of_ble_eq_true rfl) (Nat.le_of_ble_eq_true rfl) dX7_apart_14
set_option maxHeartbeats 4000000 in
set_option maxRecDepth 100000 in
theorem c_X7_areNeighbours (l : Launch) (ids : gIds) (ad : gAd) (κ : gMem) (a b : Int32)  : gMi l yX7_areNeighbours wsX7_areNeighbours ({ frames := 1, cells := 0, slots := 0, locals := 21 } : Room) 0 0 [.int a, .int b] (ids, ad, gk κ) (fun r u => r = mNb a b ∧ u = (ids, ad, gk (κ))) := by
  intro D aC A
  refine g_of (cc := cX7_areNeighbours) (maxL := 4) (ret := (some .boolean)) (by decide +kernel) rfl (Nat.le_of_ble_eq_true rfl) ?_
  intro p e s m below meth c ls S G hF hr hlk hnm hl
  have hl : lv_has ls 4 [(0, _), (1, _)] := hl
  refine lv_iload_n S.1 S.2.1 dX7_areNeighbours_0 rfl (lv_at hl 0 rfl) ?_
  refine lv_iconst (v := 4) S.1 S.2.1 dX7_areNeighbours_1 (by decide) ?_
  refine lv_idiv S.1 S.2.1 dX7_areNeighbours_2 (by decide) ?_
  refine lv_iload_n S.1 S.2.1 dX7_areNeighbours_3 rfl (lv_at hl 1 rfl) ?_
  refine lv_iconst (v := 4) S.1 S.2.1 dX7_areNeighbours_4 (by decide) ?_
  refine lv_idiv S.1 S.2.1 dX7_areNeighbours_5 (by decide) ?_
  refine g_cSi S G hF hl (c_X7_apart l ids ad _ _ _) (va_cwS 2 S.2.2.2.2 gX7_areNeighbours_X7_apart rfl rfl rfl (by decide +kernel) ⟨Nat.le_of_ble_eq_true rfl, Nat.le_of_ble_eq_true rfl⟩) rfl rfl (Nat.le_of_ble_eq_true rfl) dX7_areNeighbours_6 ⟨Nat.le_of_ble_eq_true rfl, Nat.le_of_ble_eq_true rfl⟩ (fun r_6 u_6 H locs hp_6 G => ?_)
  obtain ⟨rfl, rfl⟩ := hp_6
  have G : gS D aC A s ids ad (gk _) H locs := G
  refine lv_istore_n (lv' := [(2, _), (0, _), (1, _)]) S.1 S.2.1 dX7_areNeighbours_9 rfl hl (by decide) rfl (fun ls hl => ?_)
  refine lv_iload_n S.1 S.2.1 dX7_areNeighbours_10 rfl (lv_at hl 1 rfl) ?_
  refine lv_iconst (v := 4) S.1 S.2.1 dX7_areNeighbours_11 (by decide) ?_
  refine lv_irem S.1 S.2.1 dX7_areNeighbours_12 (by decide) ?_
  refine lv_iload_n S.1 S.2.1 dX7_areNeighbours_13 rfl (lv_at hl 2 rfl) ?_
  refine lv_iconst (v := 4) S.1 S.2.1 dX7_areNeighbours_14 (by decide) ?_
  refine lv_irem S.1 S.2.1 dX7_areNeighbours_15 (by decide) ?_
  refine g_cSi S G hF hl (c_X7_apart l ids ad _ _ _) (va_cwS 2 S.2.2.2.2 gX7_areNeighbours_X7_apart rfl rfl rfl (by decide +kernel) ⟨Nat.le_of_ble_eq_true rfl, Nat.le_of_ble_eq_true rfl⟩) rfl rfl (Nat.le_of_ble_eq_true rfl) dX7_areNeighbours_16 ⟨Nat.le_of_ble_eq_true rfl, Nat.le_of_ble_eq_true rfl⟩ (fun r_16 u_16 H locs hp_16 G => ?_)
  obtain ⟨rfl, rfl⟩ := hp_16
  have G : gS D aC A s ids ad (gk _) H locs := G
  refine lv_istore_n (lv' := [(3, _), (2, _), (0, _), (1, _)]) S.1 S.2.1 dX7_areNeighbours_19 rfl hl (by decide) rfl (fun ls hl => ?_)
  refine lv_iload_n S.1 S.2.1 dX7_areNeighbours_20 rfl (lv_at hl 1 rfl) ?_
  refine lv_iload_n S.1 S.2.1 dX7_areNeighbours_21 rfl (lv_at hl 0 rfl) ?_
  refine lv_iadd S.1 S.2.1 dX7_areNeighbours_22 ?_
  refine lv_iconst (v := 1) S.1 S.2.1 dX7_areNeighbours_23 (by decide) ?_
  refine lv_icmp_ne (tgt := 31) S.1 S.2.1 dX7_areNeighbours_24 (by decide) (fun c_24 => ?_) (fun c_24 => ?_)
  · refine lv_iconst (v := 0) S.1 S.2.1 dX7_areNeighbours_31 (by decide) ?_
    exact g_zret S G hr hlk (by decide) (⟨by simp only [mNb, if_neg c_24], rfl⟩) (Nat.le_of_ble_eq_true rfl) (Nat.le_of_ble_eq_true rfl) dX7_areNeighbours_32
  · refine lv_iconst (v := 1) S.1 S.2.1 dX7_areNeighbours_27 (by decide) ?_
    refine lv_goto (tgt := 32) S.1 S.2.1 dX7_areNeighbours_28 (by decide) ?_
    exact g_zret S G hr hlk (by decide) (⟨by simp only [mNb, if_pos c_24], rfl⟩) (Nat.le_of_ble_eq_true rfl) (Nat.le_of_ble_eq_true rfl) dX7_areNeighbours_32
