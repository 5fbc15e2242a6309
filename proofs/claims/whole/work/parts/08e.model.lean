set_option maxHeartbeats 4000000 in
set_option maxRecDepth 100000 in
theorem c_X7_tick (l : Launch) (ids : gIds) (ad : gAd) (κ : gMem) (hV : mV ids)  : gMi l yX7_tick wsX7_tick ({ frames := 0, cells := 0, slots := 0, locals := 0 } : Room) 0 0 [.ref (ad 8 0)] (ids, ad, gk κ) (fun r u => r = κ 8 0 0 ∧ u = (ids, ad, gk (mCan κ 0))) := by
  intro D aC A
  refine g_of (cc := cX7_tick) (maxL := 1) (ret := (some .int)) (by decide +kernel) rfl (Nat.le_of_ble_eq_true rfl) ?_
  intro p e s m below meth c ls S G hF hr hlk hnm hl
  have hl : lv_has ls 1 [(0, _)] := hl
  have i8 : ∀ w ∈ wsX70, w ∈ wsX7_tick := by decide +kernel
  refine lv_aload_n S.1 S.2.1 dX7_tick_0 rfl (lv_at hl 0 rfl) ?_
  refine lv_iconst (v := 0) S.1 S.2.1 dX7_tick_1 (by decide) ?_
  refine g_put (ty := .int) S G 8 26 (hV 8 _ (by first | decide | (show _ < 1; omega))) (by decide) (by decide) i8 (S.2.2.2.2 (.fieldLink RX7 80 "SensorBondModel" "thrown" "I") (by decide +kernel)) rfl (by decide +kernel) rfl rfl (gw_i rfl) dX7_tick_2 (fun H locs G => ?_)
  have G := gk_S rfl G
  refine lv_aload_n S.1 S.2.1 dX7_tick_5 rfl (lv_at hl 0 rfl) ?_
  refine g_get S G 8 0 (hV 8 _ (by first | decide | (show _ < 1; omega))) (by decide) (by decide) i8 (S.2.2.2.2 (.fieldLink RX7 109 "SensorBondModel" "tick" "I") (by decide +kernel)) (gvk_i rfl rfl) dX7_tick_6 ?_
  exact g_iret S G hr hlk (⟨rfl, rfl⟩) (Nat.le_of_ble_eq_true rfl) (Nat.le_of_ble_eq_true rfl) dX7_tick_9
set_option maxHeartbeats 4000000 in
set_option maxRecDepth 100000 in
theorem c_X7_readings (l : Launch) (ids : gIds) (ad : gAd) (κ : gMem) (hV : mV ids)  : gMi l yX7_readings wsX7_readings ({ frames := 0, cells := 0, slots := 0, locals := 0 } : Room) 0 0 [.ref (ad 8 0)] (ids, ad, gk κ) (fun r u => r = κ 8 0 16 ∧ u = (ids, ad, gk (mCan κ 0))) := by
  intro D aC A
  refine g_of (cc := cX7_readings) (maxL := 1) (ret := (some .int)) (by decide +kernel) rfl (Nat.le_of_ble_eq_true rfl) ?_
  intro p e s m below meth c ls S G hF hr hlk hnm hl
  have hl : lv_has ls 1 [(0, _)] := hl
  have i8 : ∀ w ∈ wsX70, w ∈ wsX7_readings := by decide +kernel
  refine lv_aload_n S.1 S.2.1 dX7_readings_0 rfl (lv_at hl 0 rfl) ?_
  refine lv_iconst (v := 0) S.1 S.2.1 dX7_readings_1 (by decide) ?_
  refine g_put (ty := .int) S G 8 26 (hV 8 _ (by first | decide | (show _ < 1; omega))) (by decide) (by decide) i8 (S.2.2.2.2 (.fieldLink RX7 80 "SensorBondModel" "thrown" "I") (by decide +kernel)) rfl (by decide +kernel) rfl rfl (gw_i rfl) dX7_readings_2 (fun H locs G => ?_)
  have G := gk_S rfl G
  refine lv_aload_n S.1 S.2.1 dX7_readings_5 rfl (lv_at hl 0 rfl) ?_
  refine g_get S G 8 16 (hV 8 _ (by first | decide | (show _ < 1; omega))) (by decide) (by decide) i8 (S.2.2.2.2 (.fieldLink RX7 88 "SensorBondModel" "readings" "I") (by decide +kernel)) (gvk_i rfl rfl) dX7_readings_6 ?_
  exact g_iret S G hr hlk (⟨rfl, rfl⟩) (Nat.le_of_ble_eq_true rfl) (Nat.le_of_ble_eq_true rfl) dX7_readings_9
set_option maxHeartbeats 4000000 in
set_option maxRecDepth 100000 in
theorem c_X7_house (l : Launch) (ids : gIds) (ad : gAd) (κ : gMem) (hV : mV ids)  : gMi l yX7_house wsX7_house ({ frames := 0, cells := 0, slots := 0, locals := 0 } : Room) 0 0 [.ref (ad 8 0)] (ids, ad, gk κ) (fun r u => r = κ 8 0 11 ∧ u = (ids, ad, gk (mCan κ 0))) := by
  intro D aC A
  refine g_of (cc := cX7_house) (maxL := 1) (ret := (some .int)) (by decide +kernel) rfl (Nat.le_of_ble_eq_true rfl) ?_
  intro p e s m below meth c ls S G hF hr hlk hnm hl
  have hl : lv_has ls 1 [(0, _)] := hl
  have i8 : ∀ w ∈ wsX70, w ∈ wsX7_house := by decide +kernel
  refine lv_aload_n S.1 S.2.1 dX7_house_0 rfl (lv_at hl 0 rfl) ?_
  refine lv_iconst (v := 0) S.1 S.2.1 dX7_house_1 (by decide) ?_
  refine g_put (ty := .int) S G 8 26 (hV 8 _ (by first | decide | (show _ < 1; omega))) (by decide) (by decide) i8 (S.2.2.2.2 (.fieldLink RX7 80 "SensorBondModel" "thrown" "I") (by decide +kernel)) rfl (by decide +kernel) rfl rfl (gw_i rfl) dX7_house_2 (fun H locs G => ?_)
  have G := gk_S rfl G
  refine lv_aload_n S.1 S.2.1 dX7_house_5 rfl (lv_at hl 0 rfl) ?_
  refine g_get S G 8 11 (hV 8 _ (by first | decide | (show _ < 1; omega))) (by decide) (by decide) i8 (S.2.2.2.2 (.fieldLink RX7 134 "SensorBondModel" "house" "I") (by decide +kernel)) (gvk_i rfl rfl) dX7_house_6 ?_
  exact g_iret S G hr hlk (⟨rfl, rfl⟩) (Nat.le_of_ble_eq_true rfl) (Nat.le_of_ble_eq_true rfl) dX7_house_9
set_option maxHeartbeats 4000000 in
set_option maxRecDepth 100000 in
theorem c_X7_isAsked (l : Launch) (ids : gIds) (ad : gAd) (κ : gMem) (x : Int32) (hV : mV ids)  : gMi l yX7_isAsked wsX7_isAsked ({ frames := 2, cells := 0, slots := 0, locals := 43 } : Room) 0 0 [.ref (ad 8 0), .int x] (ids, ad, gk κ) (fun r u => r = (if mAskT κ x = 0 then 1 else 0) ∧ u = (ids, ad, gk (mCan κ (mAskT κ x)))) := by
  intro D aC A
  refine g_of (cc := cX7_isAsked) (maxL := 2) (ret := (some .boolean)) (by decide +kernel) rfl (Nat.le_of_ble_eq_true rfl) ?_
  intro p e s m below meth c ls S G hF hr hlk hnm hl
  have hl : lv_has ls 2 [(0, _), (1, _)] := hl
  refine lv_aload_n S.1 S.2.1 dX7_isAsked_0 rfl (lv_at hl 0 rfl) ?_
  refine lv_aload_n S.1 S.2.1 dX7_isAsked_1 rfl (lv_at hl 0 rfl) ?_
  refine lv_iload_n S.1 S.2.1 dX7_isAsked_2 rfl (lv_at hl 1 rfl) ?_
  refine g_cVi S G hF hl 8 (hV 8 _ (by first | decide | (show _ < 1; omega))) (by decide) (c_X7_isReading l ids ad _ _ hV) (cwV 1 S.2.2.2.2 gX7_isAsked_X7_isReading rfl rfl rfl (by decide +kernel) ⟨Nat.le_of_ble_eq_true rfl, Nat.le_of_ble_eq_true rfl⟩) rfl rfl (Nat.le_of_ble_eq_true rfl) dX7_isAsked_3 ⟨Nat.le_of_ble_eq_true rfl, Nat.le_of_ble_eq_true rfl⟩ (fun r_3 u_3 H locs hp_3 G => ?_)
  obtain ⟨rfl, rfl⟩ := hp_3
  have G : gS D aC A s ids ad (gk _) H locs := G
  refine lv_if_eq (tgt := 13) S.1 S.2.1 dX7_isAsked_6 (by decide) (fun c_6 => ?_) (fun c_6 => ?_)
  · refine lv_iconst (v := 1) S.1 S.2.1 dX7_isAsked_13 (by decide) ?_
    have hT : mAskT κ x = 1 := by simp only [mAskT, if_pos c_6] <;> decide
    refine g_cVi S G hF hl 8 (hV 8 _ (by first | decide | (show _ < 1; omega))) (by decide) (c_X7_can l ids ad _ _ hV) (cwV 1 S.2.2.2.2 gX7_isAsked_X7_can rfl rfl rfl (by decide +kernel) ⟨Nat.le_of_ble_eq_true rfl, Nat.le_of_ble_eq_true rfl⟩) rfl rfl (Nat.le_of_ble_eq_true rfl) dX7_isAsked_14 ⟨Nat.le_of_ble_eq_true rfl, Nat.le_of_ble_eq_true rfl⟩ (fun r_14 u_14 H locs hp_14 G => ?_)
    obtain ⟨rfl, rfl⟩ := hp_14
    have G : gS D aC A s ids ad (gk _) H locs := G
    exact g_zret S G hr hlk (by decide) (by rw [hT]; exact ⟨rfl, rfl⟩) (Nat.le_of_ble_eq_true rfl) (Nat.le_of_ble_eq_true rfl) dX7_isAsked_17
  · refine lv_iconst (v := 0) S.1 S.2.1 dX7_isAsked_9 (by decide) ?_
    refine lv_goto (tgt := 14) S.1 S.2.1 dX7_isAsked_10 (by decide) ?_
    have hT : mAskT κ x = 0 := by simp only [mAskT, if_neg c_6] <;> decide
    refine g_cVi S G hF hl 8 (hV 8 _ (by first | decide | (show _ < 1; omega))) (by decide) (c_X7_can l ids ad _ _ hV) (cwV 1 S.2.2.2.2 gX7_isAsked_X7_can rfl rfl rfl (by decide +kernel) ⟨Nat.le_of_ble_eq_true rfl, Nat.le_of_ble_eq_true rfl⟩) rfl rfl (Nat.le_of_ble_eq_true rfl) dX7_isAsked_14 ⟨Nat.le_of_ble_eq_true rfl, Nat.le_of_ble_eq_true rfl⟩ (fun r_14 u_14 H locs hp_14 G => ?_)
    obtain ⟨rfl, rfl⟩ := hp_14
    have G : gS D aC A s ids ad (gk _) H locs := G
    exact g_zret S G hr hlk (by decide) (by rw [hT]; exact ⟨rfl, rfl⟩) (Nat.le_of_ble_eq_true rfl) (Nat.le_of_ble_eq_true rfl) dX7_isAsked_17
set_option maxHeartbeats 4000000 in
set_option maxRecDepth 100000 in
theorem c_X7_stateOf (l : Launch) (ids : gIds) (ad : gAd) (κ : gMem) (x : Int32) (hV : mV ids) (hW : mWF κ)  : gMi l yX7_stateOf wsX7_stateOf ({ frames := 3, cells := 0, slots := 0, locals := 64 } : Room) 0 0 [.ref (ad 8 0), .int x] (ids, ad, gk κ) (fun r u => r = (if mAskT κ x = 0 then κ 39 0 (tN x) else 0) ∧ u = (ids, ad, gk (mCan κ (mAskT κ x)))) := by
  intro D aC A
  refine g_of (cc := cX7_stateOf) (maxL := 2) (ret := (some .int)) (by decide +kernel) rfl (Nat.le_of_ble_eq_true rfl) ?_
  intro p e s m below meth c ls S G hF hr hlk hnm hl
  have hl : lv_has ls 2 [(0, _), (1, _)] := hl
  have i8 : ∀ w ∈ wsX70, w ∈ wsX7_stateOf := by decide +kernel
  refine lv_aload_n S.1 S.2.1 dX7_stateOf_0 rfl (lv_at hl 0 rfl) ?_
  refine lv_iload_n S.1 S.2.1 dX7_stateOf_1 rfl (lv_at hl 1 rfl) ?_
  refine g_cVi S G hF hl 8 (hV 8 _ (by first | decide | (show _ < 1; omega))) (by decide) (c_X7_isAsked l ids ad _ _ hV) (cwV 1 S.2.2.2.2 gX7_stateOf_X7_isAsked rfl rfl rfl (by decide +kernel) ⟨Nat.le_of_ble_eq_true rfl, Nat.le_of_ble_eq_true rfl⟩) rfl rfl (Nat.le_of_ble_eq_true rfl) dX7_stateOf_2 ⟨Nat.le_of_ble_eq_true rfl, Nat.le_of_ble_eq_true rfl⟩ (fun r_2 u_2 H locs hp_2 G => ?_)
  obtain ⟨rfl, rfl⟩ := hp_2
  have G : gS D aC A s ids ad (gk _) H locs := G
  refine lv_if_eq (tgt := 17) S.1 S.2.1 dX7_stateOf_5 (by decide) (fun c_5 => ?_) (fun c_5 => ?_)
  · refine lv_iconst (v := 0) S.1 S.2.1 dX7_stateOf_17 (by decide) ?_
    exact g_iret S G hr hlk (⟨(if_neg (ask_t c_5)).symm, rfl⟩) (Nat.le_of_ble_eq_true rfl) (Nat.le_of_ble_eq_true rfl) dX7_stateOf_18
  · have h0 := ask_f c_5
    obtain ⟨hn, hn80⟩ := hW.rd
    obtain ⟨hx, hxn⟩ := mIn_rd (n := tN (κ 8 0 16)) (by rw [← hn]; exact mAsk_in h0) hn80
    have hr80 : tN x < 80 := by omega
    refine lv_aload_n S.1 S.2.1 dX7_stateOf_8 rfl (lv_at hl 0 rfl) ?_
    refine g_get S G 8 19 (hV 8 _ (by first | decide | (show _ < 1; omega))) (by decide) (by decide) i8 (S.2.2.2.2 (.fieldLink RX7 59 "SensorBondModel" "state" "[I") (by decide +kernel)) (gvk_or (j := 0) rfl rfl (by omega)) dX7_stateOf_9 ?_
    refine lv_iload_n S.1 S.2.1 dX7_stateOf_12 rfl (lv_at hl 1 rfl) ?_
    refine k_iald S G 39 (hV 39 _ (by first | decide | (show _ < 1; omega))) rfl rfl rfl hx (show tN x < 80 by omega) dX7_stateOf_13 ?_
    refine lv_goto (tgt := 18) S.1 S.2.1 dX7_stateOf_14 (by decide) ?_
    exact g_iret S G hr hlk (⟨(if_pos h0).symm, rfl⟩) (Nat.le_of_ble_eq_true rfl) (Nat.le_of_ble_eq_true rfl) dX7_stateOf_18
set_option maxHeartbeats 4000000 in
set_option maxRecDepth 100000 in
theorem c_X7_parts (l : Launch) (ids : gIds) (ad : gAd) (κ : gMem) (x : Int32) (hV : mV ids) (hW : mWF κ)  : gMi l yX7_parts wsX7_parts ({ frames := 3, cells := 0, slots := 0, locals := 64 } : Room) 0 0 [.ref (ad 8 0), .int x] (ids, ad, gk κ) (fun r u => r = (if mAskT κ x = 0 then κ 40 0 (tN x) else 0) ∧ u = (ids, ad, gk (mCan κ (mAskT κ x)))) := by
  intro D aC A
  refine g_of (cc := cX7_parts) (maxL := 2) (ret := (some .int)) (by decide +kernel) rfl (Nat.le_of_ble_eq_true rfl) ?_
  intro p e s m below meth c ls S G hF hr hlk hnm hl
  have hl : lv_has ls 2 [(0, _), (1, _)] := hl
  have i8 : ∀ w ∈ wsX70, w ∈ wsX7_parts := by decide +kernel
  refine lv_aload_n S.1 S.2.1 dX7_parts_0 rfl (lv_at hl 0 rfl) ?_
  refine lv_iload_n S.1 S.2.1 dX7_parts_1 rfl (lv_at hl 1 rfl) ?_
  refine g_cVi S G hF hl 8 (hV 8 _ (by first | decide | (show _ < 1; omega))) (by decide) (c_X7_isAsked l ids ad _ _ hV) (cwV 1 S.2.2.2.2 gX7_parts_X7_isAsked rfl rfl rfl (by decide +kernel) ⟨Nat.le_of_ble_eq_true rfl, Nat.le_of_ble_eq_true rfl⟩) rfl rfl (Nat.le_of_ble_eq_true rfl) dX7_parts_2 ⟨Nat.le_of_ble_eq_true rfl, Nat.le_of_ble_eq_true rfl⟩ (fun r_2 u_2 H locs hp_2 G => ?_)
  obtain ⟨rfl, rfl⟩ := hp_2
  have G : gS D aC A s ids ad (gk _) H locs := G
  refine lv_if_eq (tgt := 17) S.1 S.2.1 dX7_parts_5 (by decide) (fun c_5 => ?_) (fun c_5 => ?_)
  · refine lv_iconst (v := 0) S.1 S.2.1 dX7_parts_17 (by decide) ?_
    exact g_iret S G hr hlk (⟨(if_neg (ask_t c_5)).symm, rfl⟩) (Nat.le_of_ble_eq_true rfl) (Nat.le_of_ble_eq_true rfl) dX7_parts_18
  · have h0 := ask_f c_5
    obtain ⟨hn, hn80⟩ := hW.rd
    obtain ⟨hx, hxn⟩ := mIn_rd (n := tN (κ 8 0 16)) (by rw [← hn]; exact mAsk_in h0) hn80
    have hr80 : tN x < 80 := by omega
    refine lv_aload_n S.1 S.2.1 dX7_parts_8 rfl (lv_at hl 0 rfl) ?_
    refine g_get S G 8 20 (hV 8 _ (by first | decide | (show _ < 1; omega))) (by decide) (by decide) i8 (S.2.2.2.2 (.fieldLink RX7 62 "SensorBondModel" "passed" "[I") (by decide +kernel)) (gvk_or (j := 0) rfl rfl (by omega)) dX7_parts_9 ?_
    refine lv_iload_n S.1 S.2.1 dX7_parts_12 rfl (lv_at hl 1 rfl) ?_
    refine k_iald S G 40 (hV 40 _ (by first | decide | (show _ < 1; omega))) rfl rfl rfl hx (show tN x < 80 by omega) dX7_parts_13 ?_
    refine lv_goto (tgt := 18) S.1 S.2.1 dX7_parts_14 (by decide) ?_
    exact g_iret S G hr hlk (⟨(if_pos h0).symm, rfl⟩) (Nat.le_of_ble_eq_true rfl) (Nat.le_of_ble_eq_true rfl) dX7_parts_18
set_option maxHeartbeats 4000000 in
set_option maxRecDepth 100000 in
theorem c_X7_users (l : Launch) (ids : gIds) (ad : gAd) (κ : gMem) (x : Int32) (hV : mV ids) (hW : mWF κ)  : gMi l yX7_users wsX7_users ({ frames := 3, cells := 0, slots := 0, locals := 64 } : Room) 0 0 [.ref (ad 8 0), .int x] (ids, ad, gk κ) (fun r u => r = (if mAskT κ x = 0 then mSize (κ 44 0 (tN x)) 6 else 0) ∧ u = (ids, ad, gk (mCan κ (mAskT κ x)))) := by
  intro D aC A
  refine g_of (cc := cX7_users) (maxL := 2) (ret := (some .int)) (by decide +kernel) rfl (Nat.le_of_ble_eq_true rfl) ?_
  intro p e s m below meth c ls S G hF hr hlk hnm hl
  have hl : lv_has ls 2 [(0, _), (1, _)] := hl
  have i8 : ∀ w ∈ wsX70, w ∈ wsX7_users := by decide +kernel
  refine lv_aload_n S.1 S.2.1 dX7_users_0 rfl (lv_at hl 0 rfl) ?_
  refine lv_iload_n S.1 S.2.1 dX7_users_1 rfl (lv_at hl 1 rfl) ?_
  refine g_cVi S G hF hl 8 (hV 8 _ (by first | decide | (show _ < 1; omega))) (by decide) (c_X7_isAsked l ids ad _ _ hV) (cwV 1 S.2.2.2.2 gX7_users_X7_isAsked rfl rfl rfl (by decide +kernel) ⟨Nat.le_of_ble_eq_true rfl, Nat.le_of_ble_eq_true rfl⟩) rfl rfl (Nat.le_of_ble_eq_true rfl) dX7_users_2 ⟨Nat.le_of_ble_eq_true rfl, Nat.le_of_ble_eq_true rfl⟩ (fun r_2 u_2 H locs hp_2 G => ?_)
  obtain ⟨rfl, rfl⟩ := hp_2
  have G : gS D aC A s ids ad (gk _) H locs := G
  refine lv_if_eq (tgt := 20) S.1 S.2.1 dX7_users_5 (by decide) (fun c_5 => ?_) (fun c_5 => ?_)
  · refine lv_iconst (v := 0) S.1 S.2.1 dX7_users_20 (by decide) ?_
    exact g_iret S G hr hlk (⟨(if_neg (ask_t c_5)).symm, rfl⟩) (Nat.le_of_ble_eq_true rfl) (Nat.le_of_ble_eq_true rfl) dX7_users_21
  · have h0 := ask_f c_5
    obtain ⟨hn, hn80⟩ := hW.rd
    obtain ⟨hx, hxn⟩ := mIn_rd (n := tN (κ 8 0 16)) (by rw [← hn]; exact mAsk_in h0) hn80
    have hr80 : tN x < 80 := by omega
    refine lv_aload_n S.1 S.2.1 dX7_users_8 rfl (lv_at hl 0 rfl) ?_
    refine g_get S G 8 24 (hV 8 _ (by first | decide | (show _ < 1; omega))) (by decide) (by decide) i8 (S.2.2.2.2 (.fieldLink RX7 74 "SensorBondModel" "usedBy" "[I") (by decide +kernel)) (gvk_or (j := 0) rfl rfl (by omega)) dX7_users_9 ?_
    refine lv_iload_n S.1 S.2.1 dX7_users_12 rfl (lv_at hl 1 rfl) ?_
    refine k_iald S G 44 (hV 44 _ (by first | decide | (show _ < 1; omega))) rfl rfl rfl hx (show tN x < 80 by omega) dX7_users_13 ?_
    refine g_cSi S G hF hl (c_X7_size l ids ad _ _) (va_cwS 1 S.2.2.2.2 gX7_users_X7_size rfl rfl rfl (by decide +kernel) ⟨Nat.le_of_ble_eq_true rfl, Nat.le_of_ble_eq_true rfl⟩) rfl rfl (Nat.le_of_ble_eq_true rfl) dX7_users_14 ⟨Nat.le_of_ble_eq_true rfl, Nat.le_of_ble_eq_true rfl⟩ (fun r_14 u_14 H locs hp_14 G => ?_)
    obtain ⟨rfl, rfl⟩ := hp_14
    have G : gS D aC A s ids ad (gk _) H locs := G
    refine lv_goto (tgt := 21) S.1 S.2.1 dX7_users_17 (by decide) ?_
    exact g_iret S G hr hlk (⟨(if_pos h0).symm, rfl⟩) (Nat.le_of_ble_eq_true rfl) (Nat.le_of_ble_eq_true rfl) dX7_users_21
set_option maxHeartbeats 4000000 in
set_option maxRecDepth 100000 in
theorem c_X7_middle (l : Launch) (ids : gIds) (ad : gAd) (κ : gMem) (x : Int32) (hV : mV ids) (hW : mWF κ)  : gMi l yX7_middle wsX7_middle ({ frames := 3, cells := 0, slots := 0, locals := 64 } : Room) 0 0 [.ref (ad 8 0), .int x] (ids, ad, gk κ) (fun r u => r = (if mAskT κ x = 0 then mMiddle κ (tN x) else 0) ∧ u = (ids, ad, gk (mCan κ (mAskT κ x)))) := by
  intro D aC A
  refine g_of (cc := cX7_middle) (maxL := 2) (ret := (some .int)) (by decide +kernel) rfl (Nat.le_of_ble_eq_true rfl) ?_
  intro p e s m below meth c ls S G hF hr hlk hnm hl
  have hl : lv_has ls 2 [(0, _), (1, _)] := hl
  refine lv_aload_n S.1 S.2.1 dX7_middle_0 rfl (lv_at hl 0 rfl) ?_
  refine lv_iload_n S.1 S.2.1 dX7_middle_1 rfl (lv_at hl 1 rfl) ?_
  refine g_cVi S G hF hl 8 (hV 8 _ (by first | decide | (show _ < 1; omega))) (by decide) (c_X7_isAsked l ids ad _ _ hV) (cwV 1 S.2.2.2.2 gX7_middle_X7_isAsked rfl rfl rfl (by decide +kernel) ⟨Nat.le_of_ble_eq_true rfl, Nat.le_of_ble_eq_true rfl⟩) rfl rfl (Nat.le_of_ble_eq_true rfl) dX7_middle_2 ⟨Nat.le_of_ble_eq_true rfl, Nat.le_of_ble_eq_true rfl⟩ (fun r_2 u_2 H locs hp_2 G => ?_)
  obtain ⟨rfl, rfl⟩ := hp_2
  have G : gS D aC A s ids ad (gk _) H locs := G
  refine lv_if_eq (tgt := 16) S.1 S.2.1 dX7_middle_5 (by decide) (fun c_5 => ?_) (fun c_5 => ?_)
  · refine lv_iconst (v := 0) S.1 S.2.1 dX7_middle_16 (by decide) ?_
    exact g_iret S G hr hlk (⟨(if_neg (ask_t c_5)).symm, rfl⟩) (Nat.le_of_ble_eq_true rfl) (Nat.le_of_ble_eq_true rfl) dX7_middle_17
  · have h0 := ask_f c_5
    obtain ⟨hn, hn80⟩ := hW.rd
    obtain ⟨hx, hxn⟩ := mIn_rd (n := tN (κ 8 0 16)) (by rw [← hn]; exact mAsk_in h0) hn80
    have hr80 : tN x < 80 := by omega
    refine lv_aload_n S.1 S.2.1 dX7_middle_8 rfl (lv_at hl 0 rfl) ?_
    refine lv_iload_n S.1 S.2.1 dX7_middle_9 rfl (lv_at hl 1 rfl) ?_
    refine g_cVi S G hF hl 8 (hV 8 _ (by first | decide | (show _ < 1; omega))) (by decide) (c_X7_middleOf l ids ad _ _ hx hr80 hV) (cwV 1 S.2.2.2.2 gX7_middle_X7_middleOf rfl rfl rfl (by decide +kernel) ⟨Nat.le_of_ble_eq_true rfl, Nat.le_of_ble_eq_true rfl⟩) rfl rfl (Nat.le_of_ble_eq_true rfl) dX7_middle_10 ⟨Nat.le_of_ble_eq_true rfl, Nat.le_of_ble_eq_true rfl⟩ (fun r_10 u_10 H locs hp_10 G => ?_)
    obtain ⟨rfl, rfl⟩ := hp_10
    have G : gS D aC A s ids ad (gk _) H locs := G
    refine g_top (mMiddle_congr (κ := κ) (fun j => rfl)) ?_
    refine lv_goto (tgt := 17) S.1 S.2.1 dX7_middle_13 (by decide) ?_
    exact g_iret S G hr hlk (⟨(if_pos h0).symm, rfl⟩) (Nat.le_of_ble_eq_true rfl) (Nat.le_of_ble_eq_true rfl) dX7_middle_17
set_option maxHeartbeats 4000000 in
set_option maxRecDepth 100000 in
theorem c_X7_held (l : Launch) (ids : gIds) (ad : gAd) (κ : gMem) (x : Int32) (hV : mV ids) (hW : mWF κ)  : gMi l yX7_held wsX7_held ({ frames := 3, cells := 0, slots := 0, locals := 64 } : Room) 0 0 [.ref (ad 8 0), .int x] (ids, ad, gk κ) (fun r u => r = (if mAskT κ x = 0 then mHeld κ (tN x) 6 else 0) ∧ u = (ids, ad, gk (mCan κ (mAskT κ x)))) := by
  intro D aC A
  refine g_of (cc := cX7_held) (maxL := 4) (ret := (some .int)) (by decide +kernel) rfl (Nat.le_of_ble_eq_true rfl) ?_
  intro p e s m below meth c ls S G hF hr hlk hnm hl
  have hl : lv_has ls 4 [(0, _), (1, _)] := hl
  have i8 : ∀ w ∈ wsX70, w ∈ wsX7_held := by decide +kernel
  by_cases hin : mIn x 0 (κ 8 0 16 - 1) = 0
  · refine lv_iconst (v := 0) S.1 S.2.1 dX7_held_0 (by decide) ?_
    refine lv_istore_n (lv' := [(2, _), (0, _), (1, _)]) S.1 S.2.1 dX7_held_1 rfl hl (by decide) rfl (fun ls hl => ?_)
    refine lv_iconst (v := 0) S.1 S.2.1 dX7_held_2 (by decide) ?_
    refine lv_istore_n (lv' := [(3, _), (2, _), (0, _), (1, _)]) S.1 S.2.1 dX7_held_3 rfl hl (by decide) rfl (fun ls hl => ?_)
    refine lv_iload_n S.1 S.2.1 dX7_held_4 rfl (lv_at hl 0 rfl) ?_
    refine lv_bipush (v := 6) S.1 S.2.1 dX7_held_5 (by decide) ?_
    refine lv_icmp_ge (tgt := 38) S.1 S.2.1 dX7_held_7 (by decide) (fun c_7 => ?_) (fun c_7 => ?_)
    · exact absurd c_7 (by decide)
    · refine lv_aload_n S.1 S.2.1 dX7_held_10 rfl (lv_at hl 2 rfl) ?_
      refine lv_iload_n S.1 S.2.1 dX7_held_11 rfl (lv_at hl 3 rfl) ?_
      refine g_cVi S G hF hl 8 (hV 8 _ (by first | decide | (show _ < 1; omega))) (by decide) (c_X7_isReading l ids ad _ _ hV) (cwV 1 S.2.2.2.2 gX7_held_X7_isReading rfl rfl rfl (by decide +kernel) ⟨Nat.le_of_ble_eq_true rfl, Nat.le_of_ble_eq_true rfl⟩) rfl rfl (Nat.le_of_ble_eq_true rfl) dX7_held_12 ⟨Nat.le_of_ble_eq_true rfl, Nat.le_of_ble_eq_true rfl⟩ (fun r_12 u_12 H locs hp_12 G => ?_)
      obtain ⟨rfl, rfl⟩ := hp_12
      have G : gS D aC A s ids ad (gk _) H locs := G
      refine lv_if_eq (tgt := 38) S.1 S.2.1 dX7_held_15 (by decide) (fun c_15 => ?_) (fun c_15 => ?_)
      · have hA : mAskT κ x = 1 := by rw [mAskT, if_pos hin]
        refine lv_aload_n S.1 S.2.1 dX7_held_38 rfl (lv_at hl 2 rfl) ?_
        refine lv_iload_n S.1 S.2.1 dX7_held_39 rfl (lv_at hl 3 rfl) ?_
        refine g_cVi S G hF hl 8 (hV 8 _ (by first | decide | (show _ < 1; omega))) (by decide) (c_X7_isAsked l ids ad _ _ hV) (cwV 1 S.2.2.2.2 gX7_held_X7_isAsked rfl rfl rfl (by decide +kernel) ⟨Nat.le_of_ble_eq_true rfl, Nat.le_of_ble_eq_true rfl⟩) rfl rfl (Nat.le_of_ble_eq_true rfl) dX7_held_40 ⟨Nat.le_of_ble_eq_true rfl, Nat.le_of_ble_eq_true rfl⟩ (fun r_40 u_40 H locs hp_40 G => ?_)
        obtain ⟨rfl, rfl⟩ := hp_40
        have G : gS D aC A s ids ad (gk _) H locs := G
        refine lv_if_eq (tgt := 50) S.1 S.2.1 dX7_held_43 (by decide) (fun c_43 => ?_) (fun c_43 => ?_)
        · refine lv_iconst (v := 0) S.1 S.2.1 dX7_held_50 (by decide) ?_
          exact g_iret S G hr hlk (⟨(if_neg (by rw [hA]; decide)).symm, rfl⟩) (Nat.le_of_ble_eq_true rfl) (Nat.le_of_ble_eq_true rfl) dX7_held_51
        · exact absurd (by rw [hA]; decide) c_43
      · exact absurd hin c_15
  · obtain ⟨hn, hn80⟩ := hW.rd
    obtain ⟨hx, hxn⟩ := mIn_rd (n := tN (κ 8 0 16)) (by rw [← hn]; exact hin) hn80
    have hr80 : tN x < 80 := by omega
    refine lv_iconst (v := 0) S.1 S.2.1 dX7_held_0 (by decide) ?_
    refine lv_istore_n (lv' := [(2, _), (0, _), (1, _)]) S.1 S.2.1 dX7_held_1 rfl hl (by decide) rfl (fun ls hl => ?_)
    refine lv_iconst (v := 0) S.1 S.2.1 dX7_held_2 (by decide) ?_
    refine lv_istore_n (lv' := [(3, _), (2, _), (0, _), (1, _)]) S.1 S.2.1 dX7_held_3 rfl hl (by decide) rfl (fun ls hl => ?_)
    refine g_forg 6 (fun k_4 => [(3, .int (nI k_4)), (2, .int (mHeld κ (tN x) k_4)), (1, .int x), (0, .ref (ad 8 0))]) ?_ G (lv_sub hl [0, 1, 3, 2] rfl)
    intro k_4 H locs ls hk_4 G hl ih_4
    have hl : lv_has ls 4 [(3, _), (2, _), (1, _), (0, _)] := hl
    refine lv_iload_n S.1 S.2.1 dX7_held_4 rfl (lv_at hl 0 rfl) ?_
    refine lv_bipush (v := 6) S.1 S.2.1 dX7_held_5 (by decide) ?_
    refine lv_icmp_ge (tgt := 38) S.1 S.2.1 dX7_held_7 (by decide) (fun c_7 => ?_) (fun c_7 => ?_)
    · have hkN_4 : k_4 = 6 := g_exit c_7 hk_4 (by omega)
      subst hkN_4
      have hA : mAskT κ x = 0 := by rw [mAskT, if_neg hin]
      refine lv_aload_n S.1 S.2.1 dX7_held_38 rfl (lv_at hl 3 rfl) ?_
      refine lv_iload_n S.1 S.2.1 dX7_held_39 rfl (lv_at hl 2 rfl) ?_
      refine g_cVi S G hF hl 8 (hV 8 _ (by first | decide | (show _ < 1; omega))) (by decide) (c_X7_isAsked l ids ad _ _ hV) (cwV 1 S.2.2.2.2 gX7_held_X7_isAsked rfl rfl rfl (by decide +kernel) ⟨Nat.le_of_ble_eq_true rfl, Nat.le_of_ble_eq_true rfl⟩) rfl rfl (Nat.le_of_ble_eq_true rfl) dX7_held_40 ⟨Nat.le_of_ble_eq_true rfl, Nat.le_of_ble_eq_true rfl⟩ (fun r_40 u_40 H locs hp_40 G => ?_)
      obtain ⟨rfl, rfl⟩ := hp_40
      have G : gS D aC A s ids ad (gk _) H locs := G
      refine lv_if_eq (tgt := 50) S.1 S.2.1 dX7_held_43 (by decide) (fun c_43 => ?_) (fun c_43 => ?_)
      · exact absurd c_43 (by rw [hA]; decide)
      · refine lv_iload_n S.1 S.2.1 dX7_held_46 rfl (lv_at hl 1 rfl) ?_
        refine lv_goto (tgt := 51) S.1 S.2.1 dX7_held_47 (by decide) ?_
        exact g_iret S G hr hlk (⟨(if_pos hA).symm, rfl⟩) (Nat.le_of_ble_eq_true rfl) (Nat.le_of_ble_eq_true rfl) dX7_held_51
    · have hlt_4 : k_4 < 6 := g_stay c_7 hk_4 (by omega)
      refine lv_aload_n S.1 S.2.1 dX7_held_10 rfl (lv_at hl 3 rfl) ?_
      refine lv_iload_n S.1 S.2.1 dX7_held_11 rfl (lv_at hl 2 rfl) ?_
      refine g_cVi S G hF hl 8 (hV 8 _ (by first | decide | (show _ < 1; omega))) (by decide) (c_X7_isReading l ids ad _ _ hV) (cwV 1 S.2.2.2.2 gX7_held_X7_isReading rfl rfl rfl (by decide +kernel) ⟨Nat.le_of_ble_eq_true rfl, Nat.le_of_ble_eq_true rfl⟩) rfl rfl (Nat.le_of_ble_eq_true rfl) dX7_held_12 ⟨Nat.le_of_ble_eq_true rfl, Nat.le_of_ble_eq_true rfl⟩ (fun r_12 u_12 H locs hp_12 G => ?_)
      obtain ⟨rfl, rfl⟩ := hp_12
      have G : gS D aC A s ids ad (gk _) H locs := G
      refine lv_if_eq (tgt := 38) S.1 S.2.1 dX7_held_15 (by decide) (fun c_15 => ?_) (fun c_15 => ?_)
      · exact absurd c_15 hin
      · refine lv_iload_n S.1 S.2.1 dX7_held_18 rfl (lv_at hl 1 rfl) ?_
        refine lv_aload_n S.1 S.2.1 dX7_held_19 rfl (lv_at hl 3 rfl) ?_
        refine g_get S G 8 23 (hV 8 _ (by first | decide | (show _ < 1; omega))) (by decide) (by decide) i8 (S.2.2.2.2 (.fieldLink RX7 71 "SensorBondModel" "held" "[I") (by decide +kernel)) (gvk_or (j := 0) rfl rfl (by omega)) dX7_held_20 ?_
        refine lv_bipush (v := 6) S.1 S.2.1 dX7_held_23 (by decide) ?_
        refine lv_iload_n S.1 S.2.1 dX7_held_25 rfl (lv_at hl 2 rfl) ?_
        refine lv_imul S.1 S.2.1 dX7_held_26 ?_
        refine lv_iload_n S.1 S.2.1 dX7_held_27 rfl (lv_at hl 0 rfl) ?_
        refine lv_iadd S.1 S.2.1 dX7_held_28 ?_
        refine k_iald S G 43 (hV 43 _ (by first | decide | (show _ < 1; omega))) rfl rfl rfl (g_lin (a := 6) hx rfl) (show 6 * tN x + k_4 < 480 by omega) dX7_held_29 ?_
        refine lv_iadd S.1 S.2.1 dX7_held_30 ?_
        refine lv_istore_n (lv' := [(2, _), (3, _), (1, _), (0, _)]) S.1 S.2.1 dX7_held_31 rfl hl (by decide) rfl (fun ls hl => ?_)
        refine lv_iinc (k := 1) (lv' := [(3, _), (2, _), (1, _), (0, _)]) S.1 S.2.1 dX7_held_32 hl rfl (g_inc _) (by decide) rfl (fun ls hl => ?_)
        refine lv_goto (tgt := 4) S.1 S.2.1 dX7_held_35 (by decide) ?_
        exact ih_4 hlt_4 _ _ _ G (lv_sub hl [0, 1, 2, 3] rfl)
set_option maxHeartbeats 4000000 in
set_option maxRecDepth 100000 in
theorem c_X7_signOf (l : Launch) (ids : gIds) (ad : gAd) (κ : gMem) (a : Int32)  : gMi l yX7_signOf wsX7_signOf ({ frames := 0, cells := 0, slots := 0, locals := 0 } : Room) 0 0 [.int a] (ids, ad, gk κ) (fun r u => r = mSign a ∧ u = (ids, ad, gk (κ))) := by
  intro D aC A
  refine g_of (cc := cX7_signOf) (maxL := 1) (ret := (some .int)) (by decide +kernel) rfl (Nat.le_of_ble_eq_true rfl) ?_
  intro p e s m below meth c ls S G hF hr hlk hnm hl
  have hl : lv_has ls 1 [(0, _)] := hl
  refine lv_iload_n S.1 S.2.1 dX7_signOf_0 rfl (lv_at hl 0 rfl) ?_
  refine lv_if_ne (tgt := 9) S.1 S.2.1 dX7_signOf_1 (by decide) (fun c_1 => ?_) (fun c_1 => ?_)
  · refine lv_iload_n S.1 S.2.1 dX7_signOf_9 rfl (lv_at hl 0 rfl) ?_
    refine lv_iconst (v := 1) S.1 S.2.1 dX7_signOf_10 (by decide) ?_
    refine lv_icmp_ne (tgt := 19) S.1 S.2.1 dX7_signOf_11 (by decide) (fun c_11 => ?_) (fun c_11 => ?_)
    · refine lv_iload_n S.1 S.2.1 dX7_signOf_19 rfl (lv_at hl 0 rfl) ?_
      refine lv_iconst (v := 2) S.1 S.2.1 dX7_signOf_20 (by decide) ?_
      refine lv_icmp_ne (tgt := 29) S.1 S.2.1 dX7_signOf_21 (by decide) (fun c_21 => ?_) (fun c_21 => ?_)
      · refine lv_iload_n S.1 S.2.1 dX7_signOf_29 rfl (lv_at hl 0 rfl) ?_
        refine lv_iconst (v := 3) S.1 S.2.1 dX7_signOf_30 (by decide) ?_
        refine lv_icmp_ne (tgt := 39) S.1 S.2.1 dX7_signOf_31 (by decide) (fun c_31 => ?_) (fun c_31 => ?_)
        · refine lv_bipush (v := 120) S.1 S.2.1 dX7_signOf_39 (by decide) ?_
          exact g_iret S G hr hlk (⟨by simp only [mSign, if_neg c_1, if_neg c_11, if_neg c_21, if_neg c_31], rfl⟩) (Nat.le_of_ble_eq_true rfl) (Nat.le_of_ble_eq_true rfl) dX7_signOf_41
        · refine lv_bipush (v := 45) S.1 S.2.1 dX7_signOf_34 (by decide) ?_
          refine lv_goto (tgt := 41) S.1 S.2.1 dX7_signOf_36 (by decide) ?_
          exact g_iret S G hr hlk (⟨by simp only [mSign, if_neg c_1, if_neg c_11, if_neg c_21, if_pos c_31], rfl⟩) (Nat.le_of_ble_eq_true rfl) (Nat.le_of_ble_eq_true rfl) dX7_signOf_41
      · refine lv_bipush (v := 43) S.1 S.2.1 dX7_signOf_24 (by decide) ?_
        refine lv_goto (tgt := 41) S.1 S.2.1 dX7_signOf_26 (by decide) ?_
        exact g_iret S G hr hlk (⟨by simp only [mSign, if_neg c_1, if_neg c_11, if_pos c_21], rfl⟩) (Nat.le_of_ble_eq_true rfl) (Nat.le_of_ble_eq_true rfl) dX7_signOf_41
    · refine lv_bipush (v := 63) S.1 S.2.1 dX7_signOf_14 (by decide) ?_
      refine lv_goto (tgt := 41) S.1 S.2.1 dX7_signOf_16 (by decide) ?_
      exact g_iret S G hr hlk (⟨by simp only [mSign, if_neg c_1, if_pos c_11], rfl⟩) (Nat.le_of_ble_eq_true rfl) (Nat.le_of_ble_eq_true rfl) dX7_signOf_41
  · refine lv_bipush (v := 46) S.1 S.2.1 dX7_signOf_4 (by decide) ?_
    refine lv_goto (tgt := 41) S.1 S.2.1 dX7_signOf_6 (by decide) ?_
    exact g_iret S G hr hlk (⟨by simp only [mSign, if_pos c_1], rfl⟩) (Nat.le_of_ble_eq_true rfl) (Nat.le_of_ble_eq_true rfl) dX7_signOf_41
set_option maxHeartbeats 4000000 in
set_option maxRecDepth 100000 in
theorem c_X7_textAt (l : Launch) (ids : gIds) (ad : gAd) (κ : gMem) (x q : Int32) (hV : mV ids) (hW : mWF κ)  : gMi l yX7_textAt wsX7_textAt ({ frames := 2, cells := 0, slots := 0, locals := 43 } : Room) 0 0 [.ref (ad 8 0), .int x, .int q] (ids, ad, gk κ) (fun r u => r = (if mTextT κ x q = 0 then mText κ (tN x) q else 0) ∧ u = (ids, ad, gk (if mTextT κ x q = 0 then mCan κ 0 else mCan κ (mTextT κ x q)))) := by
  intro D aC A
  refine g_of (cc := cX7_textAt) (maxL := 5) (ret := (some .int)) (by decide +kernel) rfl (Nat.le_of_ble_eq_true rfl) ?_
  intro p e s m below meth c ls S G hF hr hlk hnm hl
  have hl : lv_has ls 5 [(0, _), (1, _), (2, _)] := hl
  have i8 : ∀ w ∈ wsX70, w ∈ wsX7_textAt := by decide +kernel
  refine lv_aload_n S.1 S.2.1 dX7_textAt_0 rfl (lv_at hl 0 rfl) ?_
  refine lv_aload_n S.1 S.2.1 dX7_textAt_1 rfl (lv_at hl 0 rfl) ?_
  refine lv_iload_n S.1 S.2.1 dX7_textAt_2 rfl (lv_at hl 1 rfl) ?_
  refine g_cVi S G hF hl 8 (hV 8 _ (by first | decide | (show _ < 1; omega))) (by decide) (c_X7_isReading l ids ad _ _ hV) (cwV 1 S.2.2.2.2 gX7_textAt_X7_isReading rfl rfl rfl (by decide +kernel) ⟨Nat.le_of_ble_eq_true rfl, Nat.le_of_ble_eq_true rfl⟩) rfl rfl (Nat.le_of_ble_eq_true rfl) dX7_textAt_3 ⟨Nat.le_of_ble_eq_true rfl, Nat.le_of_ble_eq_true rfl⟩ (fun r_3 u_3 H locs hp_3 G => ?_)
  obtain ⟨rfl, rfl⟩ := hp_3
  have G : gS D aC A s ids ad (gk _) H locs := G
  refine lv_if_eq (tgt := 17) S.1 S.2.1 dX7_textAt_6 (by decide) (fun c_6 => ?_) (fun c_6 => ?_)
  · refine lv_iconst (v := 1) S.1 S.2.1 dX7_textAt_17 (by decide) ?_
    have hT : mTextT κ x q = 1 := by simp only [mTextT, if_pos c_6] <;> decide
    refine g_cVi S G hF hl 8 (hV 8 _ (by first | decide | (show _ < 1; omega))) (by decide) (c_X7_can l ids ad _ _ hV) (cwV 1 S.2.2.2.2 gX7_textAt_X7_can rfl rfl rfl (by decide +kernel) ⟨Nat.le_of_ble_eq_true rfl, Nat.le_of_ble_eq_true rfl⟩) rfl rfl (Nat.le_of_ble_eq_true rfl) dX7_textAt_18 ⟨Nat.le_of_ble_eq_true rfl, Nat.le_of_ble_eq_true rfl⟩ (fun r_18 u_18 H locs hp_18 G => ?_)
    obtain ⟨rfl, rfl⟩ := hp_18
    have G : gS D aC A s ids ad (gk _) H locs := G
    refine lv_if_ne (tgt := 26) S.1 S.2.1 dX7_textAt_21 (by decide) (fun c_21 => ?_) (fun c_21 => ?_)
    · exact absurd c_21 (by decide)
    · refine lv_iconst (v := 0) S.1 S.2.1 dX7_textAt_24 (by decide) ?_
      exact g_iret S G hr hlk (by rw [hT]; exact ⟨(if_neg (by decide)).symm, congrArg (fun z => (ids, ad, gk z)) (if_neg (by decide)).symm⟩) (Nat.le_of_ble_eq_true rfl) (Nat.le_of_ble_eq_true rfl) dX7_textAt_25
  · refine lv_iload_n S.1 S.2.1 dX7_textAt_9 rfl (lv_at hl 2 rfl) ?_
    refine lv_if_lt (tgt := 17) S.1 S.2.1 dX7_textAt_10 (by decide) (fun c_10 => ?_) (fun c_10 => ?_)
    · refine lv_iconst (v := 1) S.1 S.2.1 dX7_textAt_17 (by decide) ?_
      have hT : mTextT κ x q = 1 := by simp only [mTextT, if_neg c_6, if_pos c_10] <;> decide
      refine g_cVi S G hF hl 8 (hV 8 _ (by first | decide | (show _ < 1; omega))) (by decide) (c_X7_can l ids ad _ _ hV) (cwV 1 S.2.2.2.2 gX7_textAt_X7_can rfl rfl rfl (by decide +kernel) ⟨Nat.le_of_ble_eq_true rfl, Nat.le_of_ble_eq_true rfl⟩) rfl rfl (Nat.le_of_ble_eq_true rfl) dX7_textAt_18 ⟨Nat.le_of_ble_eq_true rfl, Nat.le_of_ble_eq_true rfl⟩ (fun r_18 u_18 H locs hp_18 G => ?_)
      obtain ⟨rfl, rfl⟩ := hp_18
      have G : gS D aC A s ids ad (gk _) H locs := G
      refine lv_if_ne (tgt := 26) S.1 S.2.1 dX7_textAt_21 (by decide) (fun c_21 => ?_) (fun c_21 => ?_)
      · exact absurd c_21 (by decide)
      · refine lv_iconst (v := 0) S.1 S.2.1 dX7_textAt_24 (by decide) ?_
        exact g_iret S G hr hlk (by rw [hT]; exact ⟨(if_neg (by decide)).symm, congrArg (fun z => (ids, ad, gk z)) (if_neg (by decide)).symm⟩) (Nat.le_of_ble_eq_true rfl) (Nat.le_of_ble_eq_true rfl) dX7_textAt_25
    · refine lv_iconst (v := 0) S.1 S.2.1 dX7_textAt_13 (by decide) ?_
      refine lv_goto (tgt := 18) S.1 S.2.1 dX7_textAt_14 (by decide) ?_
      have hT : mTextT κ x q = 0 := by simp only [mTextT, if_neg c_6, if_neg c_10] <;> decide
      refine g_cVi S G hF hl 8 (hV 8 _ (by first | decide | (show _ < 1; omega))) (by decide) (c_X7_can l ids ad _ _ hV) (cwV 1 S.2.2.2.2 gX7_textAt_X7_can rfl rfl rfl (by decide +kernel) ⟨Nat.le_of_ble_eq_true rfl, Nat.le_of_ble_eq_true rfl⟩) rfl rfl (Nat.le_of_ble_eq_true rfl) dX7_textAt_18 ⟨Nat.le_of_ble_eq_true rfl, Nat.le_of_ble_eq_true rfl⟩ (fun r_18 u_18 H locs hp_18 G => ?_)
      obtain ⟨rfl, rfl⟩ := hp_18
      have G : gS D aC A s ids ad (gk _) H locs := G
      refine lv_if_ne (tgt := 26) S.1 S.2.1 dX7_textAt_21 (by decide) (fun c_21 => ?_) (fun c_21 => ?_)
      · obtain ⟨hn, hn80⟩ := hW.rd
        obtain ⟨hx, hxn⟩ := mIn_rd (n := tN (κ 8 0 16)) (by rw [← hn]; exact c_6) hn80
        have hr80 : tN x < 80 := by omega
        refine lv_aload_n S.1 S.2.1 dX7_textAt_26 rfl (lv_at hl 0 rfl) ?_
        refine g_get S G 8 18 (hV 8 _ (by first | decide | (show _ < 1; omega))) (by decide) (by decide) i8 (S.2.2.2.2 (.fieldLink RX7 56 "SensorBondModel" "value" "[I") (by decide +kernel)) (gvk_or (j := 0) rfl rfl (by omega)) dX7_textAt_27 ?_
        refine lv_iload_n S.1 S.2.1 dX7_textAt_30 rfl (lv_at hl 1 rfl) ?_
        refine k_iald S G 38 (hV 38 _ (by first | decide | (show _ < 1; omega))) rfl rfl rfl hx (show tN x < 80 by omega) dX7_textAt_31 ?_
        refine g_top (show _ = κ 38 0 (tN x) from rfl) ?_
        refine lv_istore_n (lv' := [(3, _), (0, _), (1, _), (2, _)]) S.1 S.2.1 dX7_textAt_32 rfl hl (by decide) rfl (fun ls hl => ?_)
        refine lv_iload_n S.1 S.2.1 dX7_textAt_33 rfl (lv_at hl 0 rfl) ?_
        refine lv_bipush (v := 10) S.1 S.2.1 dX7_textAt_34 (by decide) ?_
        refine lv_icmp_ge (tgt := 43) S.1 S.2.1 dX7_textAt_36 (by decide) (fun c_36 => ?_) (fun c_36 => ?_)
        · refine lv_iconst (v := 2) S.1 S.2.1 dX7_textAt_43 (by decide) ?_
          refine lv_istore (lv' := [(4, _), (3, _), (0, _), (1, _), (2, _)]) S.1 S.2.1 dX7_textAt_44 hl (by decide) rfl (fun ls hl => ?_)
          refine lv_iload_n S.1 S.2.1 dX7_textAt_46 rfl (lv_at hl 4 rfl) ?_
          refine lv_if_ne (tgt := 60) S.1 S.2.1 dX7_textAt_47 (by decide) (fun c_47 => ?_) (fun c_47 => ?_)
          · refine lv_iload_n S.1 S.2.1 dX7_textAt_60 rfl (lv_at hl 4 rfl) ?_
            refine lv_iload S.1 S.2.1 dX7_textAt_61 (lv_at hl 0 rfl) ?_
            refine lv_icmp_gt (tgt := 87) S.1 S.2.1 dX7_textAt_63 (by decide) (fun c_63 => ?_) (fun c_63 => ?_)
            · refine lv_iload_n S.1 S.2.1 dX7_textAt_87 rfl (lv_at hl 4 rfl) ?_
              refine lv_iload S.1 S.2.1 dX7_textAt_88 (lv_at hl 0 rfl) ?_
              refine lv_iconst (v := 1) S.1 S.2.1 dX7_textAt_90 (by decide) ?_
              refine lv_iadd S.1 S.2.1 dX7_textAt_91 ?_
              refine lv_icmp_ne (tgt := 107) S.1 S.2.1 dX7_textAt_92 (by decide) (fun c_92 => ?_) (fun c_92 => ?_)
              · refine lv_iconst (v := (-1)) S.1 S.2.1 dX7_textAt_107 (by decide) ?_
                refine g_top (show _ = mText κ (tN x) q by rw [mText, if_pos c_36, if_neg c_47, if_pos c_63, if_neg c_92]) ?_
                exact g_iret S G hr hlk (by rw [hT]; exact ⟨(if_pos rfl).symm, congrArg (fun z => (ids, ad, gk z)) (if_pos rfl).symm⟩) (Nat.le_of_ble_eq_true rfl) (Nat.le_of_ble_eq_true rfl) dX7_textAt_108
              · refine lv_aload_n S.1 S.2.1 dX7_textAt_95 rfl (lv_at hl 2 rfl) ?_
                refine g_get S G 8 19 (hV 8 _ (by first | decide | (show _ < 1; omega))) (by decide) (by decide) i8 (S.2.2.2.2 (.fieldLink RX7 59 "SensorBondModel" "state" "[I") (by decide +kernel)) (gvk_or (j := 0) rfl rfl (by omega)) dX7_textAt_96 ?_
                refine lv_iload_n S.1 S.2.1 dX7_textAt_99 rfl (lv_at hl 3 rfl) ?_
                refine k_iald S G 39 (hV 39 _ (by first | decide | (show _ < 1; omega))) rfl rfl rfl hx (show tN x < 80 by omega) dX7_textAt_100 ?_
                refine g_top (show _ = κ 39 0 (tN x) from rfl) ?_
                refine g_cSi S G hF hl (c_X7_signOf l ids ad _ _) (va_cwS 1 S.2.2.2.2 gX7_textAt_X7_signOf rfl rfl rfl (by decide +kernel) ⟨Nat.le_of_ble_eq_true rfl, Nat.le_of_ble_eq_true rfl⟩) rfl rfl (Nat.le_of_ble_eq_true rfl) dX7_textAt_101 ⟨Nat.le_of_ble_eq_true rfl, Nat.le_of_ble_eq_true rfl⟩ (fun r_101 u_101 H locs hp_101 G => ?_)
                obtain ⟨rfl, rfl⟩ := hp_101
                have G : gS D aC A s ids ad (gk _) H locs := G
                refine lv_goto (tgt := 108) S.1 S.2.1 dX7_textAt_104 (by decide) ?_
                refine g_top (show _ = mText κ (tN x) q by rw [mText, if_pos c_36, if_neg c_47, if_pos c_63, if_pos c_92]) ?_
                exact g_iret S G hr hlk (by rw [hT]; exact ⟨(if_pos rfl).symm, congrArg (fun z => (ids, ad, gk z)) (if_pos rfl).symm⟩) (Nat.le_of_ble_eq_true rfl) (Nat.le_of_ble_eq_true rfl) dX7_textAt_108
            · refine lv_bipush (v := 48) S.1 S.2.1 dX7_textAt_66 (by decide) ?_
              refine lv_iload_n S.1 S.2.1 dX7_textAt_68 rfl (lv_at hl 4 rfl) ?_
              refine lv_iload S.1 S.2.1 dX7_textAt_69 (lv_at hl 0 rfl) ?_
              refine lv_icmp_ne (tgt := 81) S.1 S.2.1 dX7_textAt_71 (by decide) (fun c_71 => ?_) (fun c_71 => ?_)
              · refine lv_iload_n S.1 S.2.1 dX7_textAt_81 rfl (lv_at hl 1 rfl) ?_
                refine lv_bipush (v := 10) S.1 S.2.1 dX7_textAt_82 (by decide) ?_
                refine lv_idiv S.1 S.2.1 dX7_textAt_84 (by decide) ?_
                refine lv_iadd S.1 S.2.1 dX7_textAt_85 ?_
                refine g_top (show _ = mText κ (tN x) q by rw [mText, if_pos c_36, if_neg c_47, if_neg c_63, if_neg c_71]) ?_
                exact g_iret S G hr hlk (by rw [hT]; exact ⟨(if_pos rfl).symm, congrArg (fun z => (ids, ad, gk z)) (if_pos rfl).symm⟩) (Nat.le_of_ble_eq_true rfl) (Nat.le_of_ble_eq_true rfl) dX7_textAt_86
              · refine lv_iload_n S.1 S.2.1 dX7_textAt_74 rfl (lv_at hl 1 rfl) ?_
                refine lv_bipush (v := 10) S.1 S.2.1 dX7_textAt_75 (by decide) ?_
                refine lv_irem S.1 S.2.1 dX7_textAt_77 (by decide) ?_
                refine lv_goto (tgt := 85) S.1 S.2.1 dX7_textAt_78 (by decide) ?_
                refine lv_iadd S.1 S.2.1 dX7_textAt_85 ?_
                refine g_top (show _ = mText κ (tN x) q by rw [mText, if_pos c_36, if_neg c_47, if_neg c_63, if_pos c_71]) ?_
                exact g_iret S G hr hlk (by rw [hT]; exact ⟨(if_pos rfl).symm, congrArg (fun z => (ids, ad, gk z)) (if_pos rfl).symm⟩) (Nat.le_of_ble_eq_true rfl) (Nat.le_of_ble_eq_true rfl) dX7_textAt_86
          · refine lv_bipush (v := 97) S.1 S.2.1 dX7_textAt_50 (by decide) ?_
            refine lv_aload_n S.1 S.2.1 dX7_textAt_52 rfl (lv_at hl 2 rfl) ?_
            refine g_get S G 8 17 (hV 8 _ (by first | decide | (show _ < 1; omega))) (by decide) (by decide) i8 (S.2.2.2.2 (.fieldLink RX7 53 "SensorBondModel" "by" "[I") (by decide +kernel)) (gvk_or (j := 0) rfl rfl (by omega)) dX7_textAt_53 ?_
            refine lv_iload_n S.1 S.2.1 dX7_textAt_56 rfl (lv_at hl 3 rfl) ?_
            refine k_iald S G 37 (hV 37 _ (by first | decide | (show _ < 1; omega))) rfl rfl rfl hx (show tN x < 80 by omega) dX7_textAt_57 ?_
            refine g_top (show _ = κ 37 0 (tN x) from rfl) ?_
            refine lv_iadd S.1 S.2.1 dX7_textAt_58 ?_
            refine g_top (show _ = mText κ (tN x) q by rw [mText, if_pos c_47]) ?_
            exact g_iret S G hr hlk (by rw [hT]; exact ⟨(if_pos rfl).symm, congrArg (fun z => (ids, ad, gk z)) (if_pos rfl).symm⟩) (Nat.le_of_ble_eq_true rfl) (Nat.le_of_ble_eq_true rfl) dX7_textAt_59
        · refine lv_iconst (v := 1) S.1 S.2.1 dX7_textAt_39 (by decide) ?_
          refine lv_goto (tgt := 44) S.1 S.2.1 dX7_textAt_40 (by decide) ?_
          refine lv_istore (lv' := [(4, _), (3, _), (0, _), (1, _), (2, _)]) S.1 S.2.1 dX7_textAt_44 hl (by decide) rfl (fun ls hl => ?_)
          refine lv_iload_n S.1 S.2.1 dX7_textAt_46 rfl (lv_at hl 4 rfl) ?_
          refine lv_if_ne (tgt := 60) S.1 S.2.1 dX7_textAt_47 (by decide) (fun c_47 => ?_) (fun c_47 => ?_)
          · refine lv_iload_n S.1 S.2.1 dX7_textAt_60 rfl (lv_at hl 4 rfl) ?_
            refine lv_iload S.1 S.2.1 dX7_textAt_61 (lv_at hl 0 rfl) ?_
            refine lv_icmp_gt (tgt := 87) S.1 S.2.1 dX7_textAt_63 (by decide) (fun c_63 => ?_) (fun c_63 => ?_)
            · refine lv_iload_n S.1 S.2.1 dX7_textAt_87 rfl (lv_at hl 4 rfl) ?_
              refine lv_iload S.1 S.2.1 dX7_textAt_88 (lv_at hl 0 rfl) ?_
              refine lv_iconst (v := 1) S.1 S.2.1 dX7_textAt_90 (by decide) ?_
              refine lv_iadd S.1 S.2.1 dX7_textAt_91 ?_
              refine lv_icmp_ne (tgt := 107) S.1 S.2.1 dX7_textAt_92 (by decide) (fun c_92 => ?_) (fun c_92 => ?_)
              · refine lv_iconst (v := (-1)) S.1 S.2.1 dX7_textAt_107 (by decide) ?_
                refine g_top (show _ = mText κ (tN x) q by rw [mText, if_neg c_36, if_neg c_47, if_pos c_63, if_neg c_92]) ?_
                exact g_iret S G hr hlk (by rw [hT]; exact ⟨(if_pos rfl).symm, congrArg (fun z => (ids, ad, gk z)) (if_pos rfl).symm⟩) (Nat.le_of_ble_eq_true rfl) (Nat.le_of_ble_eq_true rfl) dX7_textAt_108
              · refine lv_aload_n S.1 S.2.1 dX7_textAt_95 rfl (lv_at hl 2 rfl) ?_
                refine g_get S G 8 19 (hV 8 _ (by first | decide | (show _ < 1; omega))) (by decide) (by decide) i8 (S.2.2.2.2 (.fieldLink RX7 59 "SensorBondModel" "state" "[I") (by decide +kernel)) (gvk_or (j := 0) rfl rfl (by omega)) dX7_textAt_96 ?_
                refine lv_iload_n S.1 S.2.1 dX7_textAt_99 rfl (lv_at hl 3 rfl) ?_
                refine k_iald S G 39 (hV 39 _ (by first | decide | (show _ < 1; omega))) rfl rfl rfl hx (show tN x < 80 by omega) dX7_textAt_100 ?_
                refine g_top (show _ = κ 39 0 (tN x) from rfl) ?_
                refine g_cSi S G hF hl (c_X7_signOf l ids ad _ _) (va_cwS 1 S.2.2.2.2 gX7_textAt_X7_signOf rfl rfl rfl (by decide +kernel) ⟨Nat.le_of_ble_eq_true rfl, Nat.le_of_ble_eq_true rfl⟩) rfl rfl (Nat.le_of_ble_eq_true rfl) dX7_textAt_101 ⟨Nat.le_of_ble_eq_true rfl, Nat.le_of_ble_eq_true rfl⟩ (fun r_101 u_101 H locs hp_101 G => ?_)
                obtain ⟨rfl, rfl⟩ := hp_101
                have G : gS D aC A s ids ad (gk _) H locs := G
                refine lv_goto (tgt := 108) S.1 S.2.1 dX7_textAt_104 (by decide) ?_
                refine g_top (show _ = mText κ (tN x) q by rw [mText, if_neg c_36, if_neg c_47, if_pos c_63, if_pos c_92]) ?_
                exact g_iret S G hr hlk (by rw [hT]; exact ⟨(if_pos rfl).symm, congrArg (fun z => (ids, ad, gk z)) (if_pos rfl).symm⟩) (Nat.le_of_ble_eq_true rfl) (Nat.le_of_ble_eq_true rfl) dX7_textAt_108
            · refine lv_bipush (v := 48) S.1 S.2.1 dX7_textAt_66 (by decide) ?_
              refine lv_iload_n S.1 S.2.1 dX7_textAt_68 rfl (lv_at hl 4 rfl) ?_
              refine lv_iload S.1 S.2.1 dX7_textAt_69 (lv_at hl 0 rfl) ?_
              refine lv_icmp_ne (tgt := 81) S.1 S.2.1 dX7_textAt_71 (by decide) (fun c_71 => ?_) (fun c_71 => ?_)
              · refine lv_iload_n S.1 S.2.1 dX7_textAt_81 rfl (lv_at hl 1 rfl) ?_
                refine lv_bipush (v := 10) S.1 S.2.1 dX7_textAt_82 (by decide) ?_
                refine lv_idiv S.1 S.2.1 dX7_textAt_84 (by decide) ?_
                refine lv_iadd S.1 S.2.1 dX7_textAt_85 ?_
                refine g_top (show _ = mText κ (tN x) q by rw [mText, if_neg c_36, if_neg c_47, if_neg c_63, if_neg c_71]) ?_
                exact g_iret S G hr hlk (by rw [hT]; exact ⟨(if_pos rfl).symm, congrArg (fun z => (ids, ad, gk z)) (if_pos rfl).symm⟩) (Nat.le_of_ble_eq_true rfl) (Nat.le_of_ble_eq_true rfl) dX7_textAt_86
              · refine lv_iload_n S.1 S.2.1 dX7_textAt_74 rfl (lv_at hl 1 rfl) ?_
                refine lv_bipush (v := 10) S.1 S.2.1 dX7_textAt_75 (by decide) ?_
                refine lv_irem S.1 S.2.1 dX7_textAt_77 (by decide) ?_
                refine lv_goto (tgt := 85) S.1 S.2.1 dX7_textAt_78 (by decide) ?_
                refine lv_iadd S.1 S.2.1 dX7_textAt_85 ?_
                refine g_top (show _ = mText κ (tN x) q by rw [mText, if_neg c_36, if_neg c_47, if_neg c_63, if_pos c_71]) ?_
                exact g_iret S G hr hlk (by rw [hT]; exact ⟨(if_pos rfl).symm, congrArg (fun z => (ids, ad, gk z)) (if_pos rfl).symm⟩) (Nat.le_of_ble_eq_true rfl) (Nat.le_of_ble_eq_true rfl) dX7_textAt_86
          · refine lv_bipush (v := 97) S.1 S.2.1 dX7_textAt_50 (by decide) ?_
            refine lv_aload_n S.1 S.2.1 dX7_textAt_52 rfl (lv_at hl 2 rfl) ?_
            refine g_get S G 8 17 (hV 8 _ (by first | decide | (show _ < 1; omega))) (by decide) (by decide) i8 (S.2.2.2.2 (.fieldLink RX7 53 "SensorBondModel" "by" "[I") (by decide +kernel)) (gvk_or (j := 0) rfl rfl (by omega)) dX7_textAt_53 ?_
            refine lv_iload_n S.1 S.2.1 dX7_textAt_56 rfl (lv_at hl 3 rfl) ?_
            refine k_iald S G 37 (hV 37 _ (by first | decide | (show _ < 1; omega))) rfl rfl rfl hx (show tN x < 80 by omega) dX7_textAt_57 ?_
            refine g_top (show _ = κ 37 0 (tN x) from rfl) ?_
            refine lv_iadd S.1 S.2.1 dX7_textAt_58 ?_
            refine g_top (show _ = mText κ (tN x) q by rw [mText, if_pos c_47]) ?_
            exact g_iret S G hr hlk (by rw [hT]; exact ⟨(if_pos rfl).symm, congrArg (fun z => (ids, ad, gk z)) (if_pos rfl).symm⟩) (Nat.le_of_ble_eq_true rfl) (Nat.le_of_ble_eq_true rfl) dX7_textAt_59
      · exact absurd c_21 (by decide)
set_option maxHeartbeats 4000000 in
set_option maxRecDepth 100000 in
theorem c_X7_bond (l : Launch) (ids : gIds) (ad : gAd) (κ : gMem) (a : Int32) (hV : mV ids) (hW : mWF κ)  : gMi l yX7_bond wsX7_bond ({ frames := 2, cells := 0, slots := 0, locals := 42 } : Room) 0 0 [.ref (ad 8 0), .int a] (ids, ad, gk κ) (fun r u => r = (if mOneT a 11 = 0 then κ 26 0 (tN a) else 0) ∧ u = (ids, ad, gk (if mOneT a 11 = 0 then mCan κ 0 else mCan κ (mOneT a 11)))) := by
  intro D aC A
  refine g_of (cc := cX7_bond) (maxL := 2) (ret := (some .int)) (by decide +kernel) rfl (Nat.le_of_ble_eq_true rfl) ?_
  intro p e s m below meth c ls S G hF hr hlk hnm hl
  have hl : lv_has ls 2 [(0, _), (1, _)] := hl
  have i8 : ∀ w ∈ wsX70, w ∈ wsX7_bond := by decide +kernel
  refine lv_aload_n S.1 S.2.1 dX7_bond_0 rfl (lv_at hl 0 rfl) ?_
  refine lv_iload_n S.1 S.2.1 dX7_bond_1 rfl (lv_at hl 1 rfl) ?_
  refine g_cSi S G hF hl (c_X7_isSensor l ids ad _ _) (va_cwS 1 S.2.2.2.2 gX7_bond_X7_isSensor rfl rfl rfl (by decide +kernel) ⟨Nat.le_of_ble_eq_true rfl, Nat.le_of_ble_eq_true rfl⟩) rfl rfl (Nat.le_of_ble_eq_true rfl) dX7_bond_2 ⟨Nat.le_of_ble_eq_true rfl, Nat.le_of_ble_eq_true rfl⟩ (fun r_2 u_2 H locs hp_2 G => ?_)
  obtain ⟨rfl, rfl⟩ := hp_2
  have G : gS D aC A s ids ad (gk _) H locs := G
  refine lv_if_eq (tgt := 12) S.1 S.2.1 dX7_bond_5 (by decide) (fun c_5 => ?_) (fun c_5 => ?_)
  · refine lv_iconst (v := 1) S.1 S.2.1 dX7_bond_12 (by decide) ?_
    have hT : mOneT a 11 = 1 := by simp only [mOneT, if_pos c_5] <;> decide
    refine g_cVi S G hF hl 8 (hV 8 _ (by first | decide | (show _ < 1; omega))) (by decide) (c_X7_can l ids ad _ _ hV) (cwV 1 S.2.2.2.2 gX7_bond_X7_can rfl rfl rfl (by decide +kernel) ⟨Nat.le_of_ble_eq_true rfl, Nat.le_of_ble_eq_true rfl⟩) rfl rfl (Nat.le_of_ble_eq_true rfl) dX7_bond_13 ⟨Nat.le_of_ble_eq_true rfl, Nat.le_of_ble_eq_true rfl⟩ (fun r_13 u_13 H locs hp_13 G => ?_)
    obtain ⟨rfl, rfl⟩ := hp_13
    have G : gS D aC A s ids ad (gk _) H locs := G
    refine lv_if_eq (tgt := 28) S.1 S.2.1 dX7_bond_16 (by decide) (fun c_16 => ?_) (fun c_16 => ?_)
    · refine lv_iconst (v := 0) S.1 S.2.1 dX7_bond_28 (by decide) ?_
      exact g_iret S G hr hlk (by rw [hT]; exact ⟨(if_neg (by decide)).symm, congrArg (fun z => (ids, ad, gk z)) (if_neg (by decide)).symm⟩) (Nat.le_of_ble_eq_true rfl) (Nat.le_of_ble_eq_true rfl) dX7_bond_29
    · exact absurd c_16 (by decide)
  · refine lv_iconst (v := 0) S.1 S.2.1 dX7_bond_8 (by decide) ?_
    refine lv_goto (tgt := 13) S.1 S.2.1 dX7_bond_9 (by decide) ?_
    have hT : mOneT a 11 = 0 := by simp only [mOneT, if_neg c_5] <;> decide
    refine g_cVi S G hF hl 8 (hV 8 _ (by first | decide | (show _ < 1; omega))) (by decide) (c_X7_can l ids ad _ _ hV) (cwV 1 S.2.2.2.2 gX7_bond_X7_can rfl rfl rfl (by decide +kernel) ⟨Nat.le_of_ble_eq_true rfl, Nat.le_of_ble_eq_true rfl⟩) rfl rfl (Nat.le_of_ble_eq_true rfl) dX7_bond_13 ⟨Nat.le_of_ble_eq_true rfl, Nat.le_of_ble_eq_true rfl⟩ (fun r_13 u_13 H locs hp_13 G => ?_)
    obtain ⟨rfl, rfl⟩ := hp_13
    have G : gS D aC A s ids ad (gk _) H locs := G
    refine lv_if_eq (tgt := 28) S.1 S.2.1 dX7_bond_16 (by decide) (fun c_16 => ?_) (fun c_16 => ?_)
    · exact absurd c_16 (by decide)
    · obtain ⟨hx, hj⟩ := mIn_rng (m := 11) c_5 (by decide)
      refine lv_aload_n S.1 S.2.1 dX7_bond_19 rfl (lv_at hl 0 rfl) ?_
      refine g_get S G 8 6 (hV 8 _ (by first | decide | (show _ < 1; omega))) (by decide) (by decide) i8 (S.2.2.2.2 (.fieldLink RX7 25 "SensorBondModel" "bond" "[I") (by decide +kernel)) (gvk_or (j := 0) rfl rfl (by omega)) dX7_bond_20 ?_
      refine lv_iload_n S.1 S.2.1 dX7_bond_23 rfl (lv_at hl 1 rfl) ?_
      refine k_iald S G 26 (hV 26 _ (by first | decide | (show _ < 1; omega))) rfl rfl rfl hx (show tN a < 12 by omega) dX7_bond_24 ?_
      refine lv_goto (tgt := 29) S.1 S.2.1 dX7_bond_25 (by decide) ?_
      exact g_iret S G hr hlk (by rw [hT]; exact ⟨(if_pos rfl).symm, congrArg (fun z => (ids, ad, gk z)) (if_pos rfl).symm⟩) (Nat.le_of_ble_eq_true rfl) (Nat.le_of_ble_eq_true rfl) dX7_bond_29
set_option maxHeartbeats 4000000 in
set_option maxRecDepth 100000 in
theorem c_X7_bondByCuts (l : Launch) (ids : gIds) (ad : gAd) (κ : gMem) (a : Int32) (hV : mV ids) (hW : mWF κ)  : gMi l yX7_bondByCuts wsX7_bondByCuts ({ frames := 2, cells := 0, slots := 0, locals := 42 } : Room) 0 0 [.ref (ad 8 0), .int a] (ids, ad, gk κ) (fun r u => r = (if mOneT a 11 = 0 then κ 26 0 (tN a) else 0) ∧ u = (ids, ad, gk (if mOneT a 11 = 0 then mCan κ 0 else mCan κ (mOneT a 11)))) := by
  intro D aC A
  refine g_of (cc := cX7_bondByCuts) (maxL := 2) (ret := (some .int)) (by decide +kernel) rfl (Nat.le_of_ble_eq_true rfl) ?_
  intro p e s m below meth c ls S G hF hr hlk hnm hl
  have hl : lv_has ls 2 [(0, _), (1, _)] := hl
  have i8 : ∀ w ∈ wsX70, w ∈ wsX7_bondByCuts := by decide +kernel
  refine lv_aload_n S.1 S.2.1 dX7_bondByCuts_0 rfl (lv_at hl 0 rfl) ?_
  refine lv_iload_n S.1 S.2.1 dX7_bondByCuts_1 rfl (lv_at hl 1 rfl) ?_
  refine g_cSi S G hF hl (c_X7_isSensor l ids ad _ _) (va_cwS 1 S.2.2.2.2 gX7_bondByCuts_X7_isSensor rfl rfl rfl (by decide +kernel) ⟨Nat.le_of_ble_eq_true rfl, Nat.le_of_ble_eq_true rfl⟩) rfl rfl (Nat.le_of_ble_eq_true rfl) dX7_bondByCuts_2 ⟨Nat.le_of_ble_eq_true rfl, Nat.le_of_ble_eq_true rfl⟩ (fun r_2 u_2 H locs hp_2 G => ?_)
  obtain ⟨rfl, rfl⟩ := hp_2
  have G : gS D aC A s ids ad (gk _) H locs := G
  refine lv_if_eq (tgt := 12) S.1 S.2.1 dX7_bondByCuts_5 (by decide) (fun c_5 => ?_) (fun c_5 => ?_)
  · refine lv_iconst (v := 1) S.1 S.2.1 dX7_bondByCuts_12 (by decide) ?_
    have hT : mOneT a 11 = 1 := by simp only [mOneT, if_pos c_5] <;> decide
    refine g_cVi S G hF hl 8 (hV 8 _ (by first | decide | (show _ < 1; omega))) (by decide) (c_X7_can l ids ad _ _ hV) (cwV 1 S.2.2.2.2 gX7_bondByCuts_X7_can rfl rfl rfl (by decide +kernel) ⟨Nat.le_of_ble_eq_true rfl, Nat.le_of_ble_eq_true rfl⟩) rfl rfl (Nat.le_of_ble_eq_true rfl) dX7_bondByCuts_13 ⟨Nat.le_of_ble_eq_true rfl, Nat.le_of_ble_eq_true rfl⟩ (fun r_13 u_13 H locs hp_13 G => ?_)
    obtain ⟨rfl, rfl⟩ := hp_13
    have G : gS D aC A s ids ad (gk _) H locs := G
    refine lv_if_eq (tgt := 28) S.1 S.2.1 dX7_bondByCuts_16 (by decide) (fun c_16 => ?_) (fun c_16 => ?_)
    · refine lv_iconst (v := 0) S.1 S.2.1 dX7_bondByCuts_28 (by decide) ?_
      exact g_iret S G hr hlk (by rw [hT]; exact ⟨(if_neg (by decide)).symm, congrArg (fun z => (ids, ad, gk z)) (if_neg (by decide)).symm⟩) (Nat.le_of_ble_eq_true rfl) (Nat.le_of_ble_eq_true rfl) dX7_bondByCuts_29
    · exact absurd c_16 (by decide)
  · refine lv_iconst (v := 0) S.1 S.2.1 dX7_bondByCuts_8 (by decide) ?_
    refine lv_goto (tgt := 13) S.1 S.2.1 dX7_bondByCuts_9 (by decide) ?_
    have hT : mOneT a 11 = 0 := by simp only [mOneT, if_neg c_5] <;> decide
    refine g_cVi S G hF hl 8 (hV 8 _ (by first | decide | (show _ < 1; omega))) (by decide) (c_X7_can l ids ad _ _ hV) (cwV 1 S.2.2.2.2 gX7_bondByCuts_X7_can rfl rfl rfl (by decide +kernel) ⟨Nat.le_of_ble_eq_true rfl, Nat.le_of_ble_eq_true rfl⟩) rfl rfl (Nat.le_of_ble_eq_true rfl) dX7_bondByCuts_13 ⟨Nat.le_of_ble_eq_true rfl, Nat.le_of_ble_eq_true rfl⟩ (fun r_13 u_13 H locs hp_13 G => ?_)
    obtain ⟨rfl, rfl⟩ := hp_13
    have G : gS D aC A s ids ad (gk _) H locs := G
    refine lv_if_eq (tgt := 28) S.1 S.2.1 dX7_bondByCuts_16 (by decide) (fun c_16 => ?_) (fun c_16 => ?_)
    · exact absurd c_16 (by decide)
    · obtain ⟨hx, hj⟩ := mIn_rng (m := 11) c_5 (by decide)
      refine lv_aload_n S.1 S.2.1 dX7_bondByCuts_19 rfl (lv_at hl 0 rfl) ?_
      refine g_get S G 8 6 (hV 8 _ (by first | decide | (show _ < 1; omega))) (by decide) (by decide) i8 (S.2.2.2.2 (.fieldLink RX7 25 "SensorBondModel" "bond" "[I") (by decide +kernel)) (gvk_or (j := 0) rfl rfl (by omega)) dX7_bondByCuts_20 ?_
      refine lv_iload_n S.1 S.2.1 dX7_bondByCuts_23 rfl (lv_at hl 1 rfl) ?_
      refine k_iald S G 26 (hV 26 _ (by first | decide | (show _ < 1; omega))) rfl rfl rfl hx (show tN a < 12 by omega) dX7_bondByCuts_24 ?_
      refine lv_goto (tgt := 29) S.1 S.2.1 dX7_bondByCuts_25 (by decide) ?_
      exact g_iret S G hr hlk (by rw [hT]; exact ⟨(if_pos rfl).symm, congrArg (fun z => (ids, ad, gk z)) (if_pos rfl).symm⟩) (Nat.le_of_ble_eq_true rfl) (Nat.le_of_ble_eq_true rfl) dX7_bondByCuts_29
set_option maxHeartbeats 4000000 in
set_option maxRecDepth 100000 in
theorem c_X7_earned (l : Launch) (ids : gIds) (ad : gAd) (κ : gMem) (a : Int32) (hV : mV ids) (hW : mWF κ)  : gMi l yX7_earned wsX7_earned ({ frames := 2, cells := 0, slots := 0, locals := 42 } : Room) 0 0 [.ref (ad 8 0), .int a] (ids, ad, gk κ) (fun r u => r = (if mOneT a 11 = 0 then κ 27 0 (tN a) else 0) ∧ u = (ids, ad, gk (if mOneT a 11 = 0 then mCan κ 0 else mCan κ (mOneT a 11)))) := by
  intro D aC A
  refine g_of (cc := cX7_earned) (maxL := 2) (ret := (some .int)) (by decide +kernel) rfl (Nat.le_of_ble_eq_true rfl) ?_
  intro p e s m below meth c ls S G hF hr hlk hnm hl
  have hl : lv_has ls 2 [(0, _), (1, _)] := hl
  have i8 : ∀ w ∈ wsX70, w ∈ wsX7_earned := by decide +kernel
  refine lv_aload_n S.1 S.2.1 dX7_earned_0 rfl (lv_at hl 0 rfl) ?_
  refine lv_iload_n S.1 S.2.1 dX7_earned_1 rfl (lv_at hl 1 rfl) ?_
  refine g_cSi S G hF hl (c_X7_isSensor l ids ad _ _) (va_cwS 1 S.2.2.2.2 gX7_earned_X7_isSensor rfl rfl rfl (by decide +kernel) ⟨Nat.le_of_ble_eq_true rfl, Nat.le_of_ble_eq_true rfl⟩) rfl rfl (Nat.le_of_ble_eq_true rfl) dX7_earned_2 ⟨Nat.le_of_ble_eq_true rfl, Nat.le_of_ble_eq_true rfl⟩ (fun r_2 u_2 H locs hp_2 G => ?_)
  obtain ⟨rfl, rfl⟩ := hp_2
  have G : gS D aC A s ids ad (gk _) H locs := G
  refine lv_if_eq (tgt := 12) S.1 S.2.1 dX7_earned_5 (by decide) (fun c_5 => ?_) (fun c_5 => ?_)
  · refine lv_iconst (v := 1) S.1 S.2.1 dX7_earned_12 (by decide) ?_
    have hT : mOneT a 11 = 1 := by simp only [mOneT, if_pos c_5] <;> decide
    refine g_cVi S G hF hl 8 (hV 8 _ (by first | decide | (show _ < 1; omega))) (by decide) (c_X7_can l ids ad _ _ hV) (cwV 1 S.2.2.2.2 gX7_earned_X7_can rfl rfl rfl (by decide +kernel) ⟨Nat.le_of_ble_eq_true rfl, Nat.le_of_ble_eq_true rfl⟩) rfl rfl (Nat.le_of_ble_eq_true rfl) dX7_earned_13 ⟨Nat.le_of_ble_eq_true rfl, Nat.le_of_ble_eq_true rfl⟩ (fun r_13 u_13 H locs hp_13 G => ?_)
    obtain ⟨rfl, rfl⟩ := hp_13
    have G : gS D aC A s ids ad (gk _) H locs := G
    refine lv_if_eq (tgt := 28) S.1 S.2.1 dX7_earned_16 (by decide) (fun c_16 => ?_) (fun c_16 => ?_)
    · refine lv_iconst (v := 0) S.1 S.2.1 dX7_earned_28 (by decide) ?_
      exact g_iret S G hr hlk (by rw [hT]; exact ⟨(if_neg (by decide)).symm, congrArg (fun z => (ids, ad, gk z)) (if_neg (by decide)).symm⟩) (Nat.le_of_ble_eq_true rfl) (Nat.le_of_ble_eq_true rfl) dX7_earned_29
    · exact absurd c_16 (by decide)
  · refine lv_iconst (v := 0) S.1 S.2.1 dX7_earned_8 (by decide) ?_
    refine lv_goto (tgt := 13) S.1 S.2.1 dX7_earned_9 (by decide) ?_
    have hT : mOneT a 11 = 0 := by simp only [mOneT, if_neg c_5] <;> decide
    refine g_cVi S G hF hl 8 (hV 8 _ (by first | decide | (show _ < 1; omega))) (by decide) (c_X7_can l ids ad _ _ hV) (cwV 1 S.2.2.2.2 gX7_earned_X7_can rfl rfl rfl (by decide +kernel) ⟨Nat.le_of_ble_eq_true rfl, Nat.le_of_ble_eq_true rfl⟩) rfl rfl (Nat.le_of_ble_eq_true rfl) dX7_earned_13 ⟨Nat.le_of_ble_eq_true rfl, Nat.le_of_ble_eq_true rfl⟩ (fun r_13 u_13 H locs hp_13 G => ?_)
    obtain ⟨rfl, rfl⟩ := hp_13
    have G : gS D aC A s ids ad (gk _) H locs := G
    refine lv_if_eq (tgt := 28) S.1 S.2.1 dX7_earned_16 (by decide) (fun c_16 => ?_) (fun c_16 => ?_)
    · exact absurd c_16 (by decide)
    · obtain ⟨hx, hj⟩ := mIn_rng (m := 11) c_5 (by decide)
      refine lv_aload_n S.1 S.2.1 dX7_earned_19 rfl (lv_at hl 0 rfl) ?_
      refine g_get S G 8 7 (hV 8 _ (by first | decide | (show _ < 1; omega))) (by decide) (by decide) i8 (S.2.2.2.2 (.fieldLink RX7 28 "SensorBondModel" "earned" "[I") (by decide +kernel)) (gvk_or (j := 0) rfl rfl (by omega)) dX7_earned_20 ?_
      refine lv_iload_n S.1 S.2.1 dX7_earned_23 rfl (lv_at hl 1 rfl) ?_
      refine k_iald S G 27 (hV 27 _ (by first | decide | (show _ < 1; omega))) rfl rfl rfl hx (show tN a < 12 by omega) dX7_earned_24 ?_
      refine lv_goto (tgt := 29) S.1 S.2.1 dX7_earned_25 (by decide) ?_
      exact g_iret S G hr hlk (by rw [hT]; exact ⟨(if_pos rfl).symm, congrArg (fun z => (ids, ad, gk z)) (if_pos rfl).symm⟩) (Nat.le_of_ble_eq_true rfl) (Nat.le_of_ble_eq_true rfl) dX7_earned_29
set_option maxHeartbeats 4000000 in
set_option maxRecDepth 100000 in
theorem c_X7_purse (l : Launch) (ids : gIds) (ad : gAd) (κ : gMem) (a : Int32) (hV : mV ids) (hW : mWF κ)  : gMi l yX7_purse wsX7_purse ({ frames := 2, cells := 0, slots := 0, locals := 42 } : Room) 0 0 [.ref (ad 8 0), .int a] (ids, ad, gk κ) (fun r u => r = (if mOneT a 5 = 0 then κ 30 0 (tN a) else 0) ∧ u = (ids, ad, gk (if mOneT a 5 = 0 then mCan κ 0 else mCan κ (mOneT a 5)))) := by
  intro D aC A
  refine g_of (cc := cX7_purse) (maxL := 2) (ret := (some .int)) (by decide +kernel) rfl (Nat.le_of_ble_eq_true rfl) ?_
  intro p e s m below meth c ls S G hF hr hlk hnm hl
  have hl : lv_has ls 2 [(0, _), (1, _)] := hl
  have i8 : ∀ w ∈ wsX70, w ∈ wsX7_purse := by decide +kernel
  refine lv_aload_n S.1 S.2.1 dX7_purse_0 rfl (lv_at hl 0 rfl) ?_
  refine lv_iload_n S.1 S.2.1 dX7_purse_1 rfl (lv_at hl 1 rfl) ?_
  refine g_cSi S G hF hl (c_X7_isBuyer l ids ad _ _) (va_cwS 1 S.2.2.2.2 gX7_purse_X7_isBuyer rfl rfl rfl (by decide +kernel) ⟨Nat.le_of_ble_eq_true rfl, Nat.le_of_ble_eq_true rfl⟩) rfl rfl (Nat.le_of_ble_eq_true rfl) dX7_purse_2 ⟨Nat.le_of_ble_eq_true rfl, Nat.le_of_ble_eq_true rfl⟩ (fun r_2 u_2 H locs hp_2 G => ?_)
  obtain ⟨rfl, rfl⟩ := hp_2
  have G : gS D aC A s ids ad (gk _) H locs := G
  refine lv_if_eq (tgt := 12) S.1 S.2.1 dX7_purse_5 (by decide) (fun c_5 => ?_) (fun c_5 => ?_)
  · refine lv_iconst (v := 1) S.1 S.2.1 dX7_purse_12 (by decide) ?_
    have hT : mOneT a 5 = 1 := by simp only [mOneT, if_pos c_5] <;> decide
    refine g_cVi S G hF hl 8 (hV 8 _ (by first | decide | (show _ < 1; omega))) (by decide) (c_X7_can l ids ad _ _ hV) (cwV 1 S.2.2.2.2 gX7_purse_X7_can rfl rfl rfl (by decide +kernel) ⟨Nat.le_of_ble_eq_true rfl, Nat.le_of_ble_eq_true rfl⟩) rfl rfl (Nat.le_of_ble_eq_true rfl) dX7_purse_13 ⟨Nat.le_of_ble_eq_true rfl, Nat.le_of_ble_eq_true rfl⟩ (fun r_13 u_13 H locs hp_13 G => ?_)
    obtain ⟨rfl, rfl⟩ := hp_13
    have G : gS D aC A s ids ad (gk _) H locs := G
    refine lv_if_eq (tgt := 28) S.1 S.2.1 dX7_purse_16 (by decide) (fun c_16 => ?_) (fun c_16 => ?_)
    · refine lv_iconst (v := 0) S.1 S.2.1 dX7_purse_28 (by decide) ?_
      exact g_iret S G hr hlk (by rw [hT]; exact ⟨(if_neg (by decide)).symm, congrArg (fun z => (ids, ad, gk z)) (if_neg (by decide)).symm⟩) (Nat.le_of_ble_eq_true rfl) (Nat.le_of_ble_eq_true rfl) dX7_purse_29
    · exact absurd c_16 (by decide)
  · refine lv_iconst (v := 0) S.1 S.2.1 dX7_purse_8 (by decide) ?_
    refine lv_goto (tgt := 13) S.1 S.2.1 dX7_purse_9 (by decide) ?_
    have hT : mOneT a 5 = 0 := by simp only [mOneT, if_neg c_5] <;> decide
    refine g_cVi S G hF hl 8 (hV 8 _ (by first | decide | (show _ < 1; omega))) (by decide) (c_X7_can l ids ad _ _ hV) (cwV 1 S.2.2.2.2 gX7_purse_X7_can rfl rfl rfl (by decide +kernel) ⟨Nat.le_of_ble_eq_true rfl, Nat.le_of_ble_eq_true rfl⟩) rfl rfl (Nat.le_of_ble_eq_true rfl) dX7_purse_13 ⟨Nat.le_of_ble_eq_true rfl, Nat.le_of_ble_eq_true rfl⟩ (fun r_13 u_13 H locs hp_13 G => ?_)
    obtain ⟨rfl, rfl⟩ := hp_13
    have G : gS D aC A s ids ad (gk _) H locs := G
    refine lv_if_eq (tgt := 28) S.1 S.2.1 dX7_purse_16 (by decide) (fun c_16 => ?_) (fun c_16 => ?_)
    · exact absurd c_16 (by decide)
    · obtain ⟨hx, hj⟩ := mIn_rng (m := 5) c_5 (by decide)
      refine lv_aload_n S.1 S.2.1 dX7_purse_19 rfl (lv_at hl 0 rfl) ?_
      refine g_get S G 8 10 (hV 8 _ (by first | decide | (show _ < 1; omega))) (by decide) (by decide) i8 (S.2.2.2.2 (.fieldLink RX7 37 "SensorBondModel" "purse" "[I") (by decide +kernel)) (gvk_or (j := 0) rfl rfl (by omega)) dX7_purse_20 ?_
      refine lv_iload_n S.1 S.2.1 dX7_purse_23 rfl (lv_at hl 1 rfl) ?_
      refine k_iald S G 30 (hV 30 _ (by first | decide | (show _ < 1; omega))) rfl rfl rfl hx (show tN a < 6 by omega) dX7_purse_24 ?_
      refine lv_goto (tgt := 29) S.1 S.2.1 dX7_purse_25 (by decide) ?_
      exact g_iret S G hr hlk (by rw [hT]; exact ⟨(if_pos rfl).symm, congrArg (fun z => (ids, ad, gk z)) (if_pos rfl).symm⟩) (Nat.le_of_ble_eq_true rfl) (Nat.le_of_ble_eq_true rfl) dX7_purse_29
set_option maxHeartbeats 4000000 in
set_option maxRecDepth 100000 in
theorem c_X7_aside (l : Launch) (ids : gIds) (ad : gAd) (κ : gMem) (b a : Int32) (hV : mV ids) (hW : mWF κ)  : gMi l yX7_aside wsX7_aside ({ frames := 2, cells := 0, slots := 0, locals := 42 } : Room) 0 0 [.ref (ad 8 0), .int b, .int a] (ids, ad, gk κ) (fun r u => r = (if mAsideT b a = 0 then κ 35 0 (12 * tN b + tN a) else 0) ∧ u = (ids, ad, gk (if mAsideT b a = 0 then mCan κ 0 else mCan κ (mAsideT b a)))) := by
  intro D aC A
  refine g_of (cc := cX7_aside) (maxL := 3) (ret := (some .int)) (by decide +kernel) rfl (Nat.le_of_ble_eq_true rfl) ?_
  intro p e s m below meth c ls S G hF hr hlk hnm hl
  have hl : lv_has ls 3 [(0, _), (1, _), (2, _)] := hl
  have i8 : ∀ w ∈ wsX70, w ∈ wsX7_aside := by decide +kernel
  refine lv_aload_n S.1 S.2.1 dX7_aside_0 rfl (lv_at hl 0 rfl) ?_
  refine lv_iload_n S.1 S.2.1 dX7_aside_1 rfl (lv_at hl 1 rfl) ?_
  refine g_cSi S G hF hl (c_X7_isBuyer l ids ad _ _) (va_cwS 1 S.2.2.2.2 gX7_aside_X7_isBuyer rfl rfl rfl (by decide +kernel) ⟨Nat.le_of_ble_eq_true rfl, Nat.le_of_ble_eq_true rfl⟩) rfl rfl (Nat.le_of_ble_eq_true rfl) dX7_aside_2 ⟨Nat.le_of_ble_eq_true rfl, Nat.le_of_ble_eq_true rfl⟩ (fun r_2 u_2 H locs hp_2 G => ?_)
  obtain ⟨rfl, rfl⟩ := hp_2
  have G : gS D aC A s ids ad (gk _) H locs := G
  refine lv_if_eq (tgt := 19) S.1 S.2.1 dX7_aside_5 (by decide) (fun c_5 => ?_) (fun c_5 => ?_)
  · refine lv_iconst (v := 1) S.1 S.2.1 dX7_aside_19 (by decide) ?_
    have hT : mAsideT b a = 1 := by simp only [mAsideT, if_pos c_5] <;> decide
    refine g_cVi S G hF hl 8 (hV 8 _ (by first | decide | (show _ < 1; omega))) (by decide) (c_X7_can l ids ad _ _ hV) (cwV 1 S.2.2.2.2 gX7_aside_X7_can rfl rfl rfl (by decide +kernel) ⟨Nat.le_of_ble_eq_true rfl, Nat.le_of_ble_eq_true rfl⟩) rfl rfl (Nat.le_of_ble_eq_true rfl) dX7_aside_20 ⟨Nat.le_of_ble_eq_true rfl, Nat.le_of_ble_eq_true rfl⟩ (fun r_20 u_20 H locs hp_20 G => ?_)
    obtain ⟨rfl, rfl⟩ := hp_20
    have G : gS D aC A s ids ad (gk _) H locs := G
    refine lv_if_eq (tgt := 40) S.1 S.2.1 dX7_aside_23 (by decide) (fun c_23 => ?_) (fun c_23 => ?_)
    · refine lv_iconst (v := 0) S.1 S.2.1 dX7_aside_40 (by decide) ?_
      exact g_iret S G hr hlk (by rw [hT]; exact ⟨(if_neg (by decide)).symm, congrArg (fun z => (ids, ad, gk z)) (if_neg (by decide)).symm⟩) (Nat.le_of_ble_eq_true rfl) (Nat.le_of_ble_eq_true rfl) dX7_aside_41
    · exact absurd c_23 (by decide)
  · refine lv_iload_n S.1 S.2.1 dX7_aside_8 rfl (lv_at hl 2 rfl) ?_
    refine g_cSi S G hF hl (c_X7_isSensor l ids ad _ _) (va_cwS 1 S.2.2.2.2 gX7_aside_X7_isSensor rfl rfl rfl (by decide +kernel) ⟨Nat.le_of_ble_eq_true rfl, Nat.le_of_ble_eq_true rfl⟩) rfl rfl (Nat.le_of_ble_eq_true rfl) dX7_aside_9 ⟨Nat.le_of_ble_eq_true rfl, Nat.le_of_ble_eq_true rfl⟩ (fun r_9 u_9 H locs hp_9 G => ?_)
    obtain ⟨rfl, rfl⟩ := hp_9
    have G : gS D aC A s ids ad (gk _) H locs := G
    refine lv_if_eq (tgt := 19) S.1 S.2.1 dX7_aside_12 (by decide) (fun c_12 => ?_) (fun c_12 => ?_)
    · refine lv_iconst (v := 1) S.1 S.2.1 dX7_aside_19 (by decide) ?_
      have hT : mAsideT b a = 1 := by simp only [mAsideT, if_neg c_5, if_pos c_12] <;> decide
      refine g_cVi S G hF hl 8 (hV 8 _ (by first | decide | (show _ < 1; omega))) (by decide) (c_X7_can l ids ad _ _ hV) (cwV 1 S.2.2.2.2 gX7_aside_X7_can rfl rfl rfl (by decide +kernel) ⟨Nat.le_of_ble_eq_true rfl, Nat.le_of_ble_eq_true rfl⟩) rfl rfl (Nat.le_of_ble_eq_true rfl) dX7_aside_20 ⟨Nat.le_of_ble_eq_true rfl, Nat.le_of_ble_eq_true rfl⟩ (fun r_20 u_20 H locs hp_20 G => ?_)
      obtain ⟨rfl, rfl⟩ := hp_20
      have G : gS D aC A s ids ad (gk _) H locs := G
      refine lv_if_eq (tgt := 40) S.1 S.2.1 dX7_aside_23 (by decide) (fun c_23 => ?_) (fun c_23 => ?_)
      · refine lv_iconst (v := 0) S.1 S.2.1 dX7_aside_40 (by decide) ?_
        exact g_iret S G hr hlk (by rw [hT]; exact ⟨(if_neg (by decide)).symm, congrArg (fun z => (ids, ad, gk z)) (if_neg (by decide)).symm⟩) (Nat.le_of_ble_eq_true rfl) (Nat.le_of_ble_eq_true rfl) dX7_aside_41
      · exact absurd c_23 (by decide)
    · refine lv_iconst (v := 0) S.1 S.2.1 dX7_aside_15 (by decide) ?_
      refine lv_goto (tgt := 20) S.1 S.2.1 dX7_aside_16 (by decide) ?_
      have hT : mAsideT b a = 0 := by simp only [mAsideT, if_neg c_5, if_neg c_12] <;> decide
      refine g_cVi S G hF hl 8 (hV 8 _ (by first | decide | (show _ < 1; omega))) (by decide) (c_X7_can l ids ad _ _ hV) (cwV 1 S.2.2.2.2 gX7_aside_X7_can rfl rfl rfl (by decide +kernel) ⟨Nat.le_of_ble_eq_true rfl, Nat.le_of_ble_eq_true rfl⟩) rfl rfl (Nat.le_of_ble_eq_true rfl) dX7_aside_20 ⟨Nat.le_of_ble_eq_true rfl, Nat.le_of_ble_eq_true rfl⟩ (fun r_20 u_20 H locs hp_20 G => ?_)
      obtain ⟨rfl, rfl⟩ := hp_20
      have G : gS D aC A s ids ad (gk _) H locs := G
      refine lv_if_eq (tgt := 40) S.1 S.2.1 dX7_aside_23 (by decide) (fun c_23 => ?_) (fun c_23 => ?_)
      · exact absurd c_23 (by decide)
      · obtain ⟨hb1, hb2⟩ := mIn_rng (m := 5) c_5 (by decide)
        obtain ⟨hs1, hs2⟩ := mIn_rng (m := 11) c_12 (by decide)
        refine lv_aload_n S.1 S.2.1 dX7_aside_26 rfl (lv_at hl 0 rfl) ?_
        refine g_get S G 8 15 (hV 8 _ (by first | decide | (show _ < 1; omega))) (by decide) (by decide) i8 (S.2.2.2.2 (.fieldLink RX7 50 "SensorBondModel" "aside" "[I") (by decide +kernel)) (gvk_or (j := 0) rfl rfl (by omega)) dX7_aside_27 ?_
        refine lv_bipush (v := 12) S.1 S.2.1 dX7_aside_30 (by decide) ?_
        refine lv_iload_n S.1 S.2.1 dX7_aside_32 rfl (lv_at hl 1 rfl) ?_
        refine lv_imul S.1 S.2.1 dX7_aside_33 ?_
        refine lv_iload_n S.1 S.2.1 dX7_aside_34 rfl (lv_at hl 2 rfl) ?_
        refine lv_iadd S.1 S.2.1 dX7_aside_35 ?_
        refine k_iald S G 35 (hV 35 _ (by first | decide | (show _ < 1; omega))) rfl rfl rfl (g_lin (a := 12) hb1 hs1) (show 12 * tN b + tN a < 72 by omega) dX7_aside_36 ?_
        refine lv_goto (tgt := 41) S.1 S.2.1 dX7_aside_37 (by decide) ?_
        exact g_iret S G hr hlk (by rw [hT]; exact ⟨(if_pos rfl).symm, congrArg (fun z => (ids, ad, gk z)) (if_pos rfl).symm⟩) (Nat.le_of_ble_eq_true rfl) (Nat.le_of_ble_eq_true rfl) dX7_aside_41
set_option maxHeartbeats 4000000 in
set_option maxRecDepth 100000 in
theorem c_X7_mark (l : Launch) (ids : gIds) (ad : gAd) (κ : gMem) (a : Int32) (hV : mV ids) (hW : mWF κ)  : gMi l yX7_mark wsX7_mark ({ frames := 2, cells := 0, slots := 0, locals := 42 } : Room) 0 0 [.ref (ad 8 0), .int a] (ids, ad, gk κ) (fun r u => r = (if mOneT a 11 = 0 then mMark κ a (tN (κ 8 0 16)) else 0) ∧ u = (ids, ad, gk (if mOneT a 11 = 0 then mCan κ 0 else mCan κ (mOneT a 11)))) := by
  intro D aC A
  refine g_of (cc := cX7_mark) (maxL := 4) (ret := (some .int)) (by decide +kernel) rfl (Nat.le_of_ble_eq_true rfl) ?_
  intro p e s m below meth c ls S G hF hr hlk hnm hl
  have hl : lv_has ls 4 [(0, _), (1, _)] := hl
  have i8 : ∀ w ∈ wsX70, w ∈ wsX7_mark := by decide +kernel
  obtain ⟨hn, hn80⟩ := hW.rd
  refine lv_iconst (v := 0) S.1 S.2.1 dX7_mark_0 (by decide) ?_
  refine lv_istore_n (lv' := [(2, _), (0, _), (1, _)]) S.1 S.2.1 dX7_mark_1 rfl hl (by decide) rfl (fun ls hl => ?_)
  refine lv_iconst (v := 0) S.1 S.2.1 dX7_mark_2 (by decide) ?_
  refine lv_istore_n (lv' := [(3, _), (2, _), (0, _), (1, _)]) S.1 S.2.1 dX7_mark_3 rfl hl (by decide) rfl (fun ls hl => ?_)
  refine g_forc (tN (κ 8 0 16)) (fun k_4 => [(3, .int (nI k_4)), (2, .int (mMark κ a k_4)), (1, .int a), (0, .ref (ad 8 0))]) ?_ (lv_sub hl [0, 1, 3, 2] rfl)
  intro k_4 ls hk_4 hl ih_4
  have hl : lv_has ls 4 [(3, _), (2, _), (1, _), (0, _)] := hl
  refine lv_iload_n S.1 S.2.1 dX7_mark_4 rfl (lv_at hl 0 rfl) ?_
  refine lv_aload_n S.1 S.2.1 dX7_mark_5 rfl (lv_at hl 3 rfl) ?_
  refine g_get S G 8 16 (hV 8 _ (by first | decide | (show _ < 1; omega))) (by decide) (by decide) i8 (S.2.2.2.2 (.fieldLink RX7 88 "SensorBondModel" "readings" "I") (by decide +kernel)) (gvk_i rfl rfl) dX7_mark_6 ?_
  refine g_top (show _ = nI (tN (κ 8 0 16)) from hn) ?_
  refine lv_icmp_ge (tgt := 65) S.1 S.2.1 dX7_mark_9 (by decide) (fun c_9 => ?_) (fun c_9 => ?_)
  · have hkN_4 : k_4 = (tN (κ 8 0 16)) := g_exit c_9 hk_4 (by omega)
    subst hkN_4
    refine lv_aload_n S.1 S.2.1 dX7_mark_65 rfl (lv_at hl 3 rfl) ?_
    refine lv_iload_n S.1 S.2.1 dX7_mark_66 rfl (lv_at hl 2 rfl) ?_
    refine g_cSi S G hF hl (c_X7_isSensor l ids ad _ _) (va_cwS 1 S.2.2.2.2 gX7_mark_X7_isSensor rfl rfl rfl (by decide +kernel) ⟨Nat.le_of_ble_eq_true rfl, Nat.le_of_ble_eq_true rfl⟩) rfl rfl (Nat.le_of_ble_eq_true rfl) dX7_mark_67 ⟨Nat.le_of_ble_eq_true rfl, Nat.le_of_ble_eq_true rfl⟩ (fun r_67 u_67 H locs hp_67 G => ?_)
    obtain ⟨rfl, rfl⟩ := hp_67
    have G : gS D aC A s ids ad (gk _) H locs := G
    refine lv_if_eq (tgt := 77) S.1 S.2.1 dX7_mark_70 (by decide) (fun c_70 => ?_) (fun c_70 => ?_)
    · refine lv_iconst (v := 1) S.1 S.2.1 dX7_mark_77 (by decide) ?_
      have hT : mOneT a 11 = 1 := by simp only [mOneT, if_pos c_9, if_pos c_70] <;> decide
      refine g_cVi S G hF hl 8 (hV 8 _ (by first | decide | (show _ < 1; omega))) (by decide) (c_X7_can l ids ad _ _ hV) (cwV 1 S.2.2.2.2 gX7_mark_X7_can rfl rfl rfl (by decide +kernel) ⟨Nat.le_of_ble_eq_true rfl, Nat.le_of_ble_eq_true rfl⟩) rfl rfl (Nat.le_of_ble_eq_true rfl) dX7_mark_78 ⟨Nat.le_of_ble_eq_true rfl, Nat.le_of_ble_eq_true rfl⟩ (fun r_78 u_78 H locs hp_78 G => ?_)
      obtain ⟨rfl, rfl⟩ := hp_78
      have G : gS D aC A s ids ad (gk _) H locs := G
      refine lv_if_eq (tgt := 88) S.1 S.2.1 dX7_mark_81 (by decide) (fun c_81 => ?_) (fun c_81 => ?_)
      · refine lv_iconst (v := 0) S.1 S.2.1 dX7_mark_88 (by decide) ?_
        exact g_iret S G hr hlk (by rw [hT]; exact ⟨(if_neg (by decide)).symm, congrArg (fun z => (ids, ad, gk z)) (if_neg (by decide)).symm⟩) (Nat.le_of_ble_eq_true rfl) (Nat.le_of_ble_eq_true rfl) dX7_mark_89
      · exact absurd c_81 (by decide)
    · refine lv_iconst (v := 0) S.1 S.2.1 dX7_mark_73 (by decide) ?_
      refine lv_goto (tgt := 78) S.1 S.2.1 dX7_mark_74 (by decide) ?_
      have hT : mOneT a 11 = 0 := by simp only [mOneT, if_pos c_9, if_neg c_70] <;> decide
      refine g_cVi S G hF hl 8 (hV 8 _ (by first | decide | (show _ < 1; omega))) (by decide) (c_X7_can l ids ad _ _ hV) (cwV 1 S.2.2.2.2 gX7_mark_X7_can rfl rfl rfl (by decide +kernel) ⟨Nat.le_of_ble_eq_true rfl, Nat.le_of_ble_eq_true rfl⟩) rfl rfl (Nat.le_of_ble_eq_true rfl) dX7_mark_78 ⟨Nat.le_of_ble_eq_true rfl, Nat.le_of_ble_eq_true rfl⟩ (fun r_78 u_78 H locs hp_78 G => ?_)
      obtain ⟨rfl, rfl⟩ := hp_78
      have G : gS D aC A s ids ad (gk _) H locs := G
      refine lv_if_eq (tgt := 88) S.1 S.2.1 dX7_mark_81 (by decide) (fun c_81 => ?_) (fun c_81 => ?_)
      · exact absurd c_81 (by decide)
      · refine lv_iload_n S.1 S.2.1 dX7_mark_84 rfl (lv_at hl 1 rfl) ?_
        refine lv_goto (tgt := 89) S.1 S.2.1 dX7_mark_85 (by decide) ?_
        exact g_iret S G hr hlk (by rw [hT]; exact ⟨(if_pos rfl).symm, congrArg (fun z => (ids, ad, gk z)) (if_pos rfl).symm⟩) (Nat.le_of_ble_eq_true rfl) (Nat.le_of_ble_eq_true rfl) dX7_mark_89
  · have hlt_4 : k_4 < (tN (κ 8 0 16)) := g_stay c_9 hk_4 (by omega)
    refine lv_iload_n S.1 S.2.1 dX7_mark_12 rfl (lv_at hl 1 rfl) ?_
    refine lv_aload_n S.1 S.2.1 dX7_mark_13 rfl (lv_at hl 3 rfl) ?_
    refine g_get S G 8 17 (hV 8 _ (by first | decide | (show _ < 1; omega))) (by decide) (by decide) i8 (S.2.2.2.2 (.fieldLink RX7 53 "SensorBondModel" "by" "[I") (by decide +kernel)) (gvk_or (j := 0) rfl rfl (by omega)) dX7_mark_14 ?_
    refine lv_iload_n S.1 S.2.1 dX7_mark_17 rfl (lv_at hl 0 rfl) ?_
    refine k_iald S G 37 (hV 37 _ (by first | decide | (show _ < 1; omega))) rfl rfl rfl rfl (show k_4 < 80 by omega) dX7_mark_18 ?_
    refine lv_iload_n S.1 S.2.1 dX7_mark_19 rfl (lv_at hl 2 rfl) ?_
    refine lv_icmp_eq (tgt := 27) S.1 S.2.1 dX7_mark_20 (by decide) (fun c_20 => ?_) (fun c_20 => ?_)
    · refine lv_aload_n S.1 S.2.1 dX7_mark_27 rfl (lv_at hl 3 rfl) ?_
      refine g_get S G 8 19 (hV 8 _ (by first | decide | (show _ < 1; omega))) (by decide) (by decide) i8 (S.2.2.2.2 (.fieldLink RX7 59 "SensorBondModel" "state" "[I") (by decide +kernel)) (gvk_or (j := 0) rfl rfl (by omega)) dX7_mark_28 ?_
      refine lv_iload_n S.1 S.2.1 dX7_mark_31 rfl (lv_at hl 0 rfl) ?_
      refine k_iald S G 39 (hV 39 _ (by first | decide | (show _ < 1; omega))) rfl rfl rfl rfl (show k_4 < 80 by omega) dX7_mark_32 ?_
      refine lv_iconst (v := 2) S.1 S.2.1 dX7_mark_33 (by decide) ?_
      refine lv_icmp_ne (tgt := 41) S.1 S.2.1 dX7_mark_34 (by decide) (fun c_34 => ?_) (fun c_34 => ?_)
      · refine lv_aload_n S.1 S.2.1 dX7_mark_41 rfl (lv_at hl 3 rfl) ?_
        refine g_get S G 8 19 (hV 8 _ (by first | decide | (show _ < 1; omega))) (by decide) (by decide) i8 (S.2.2.2.2 (.fieldLink RX7 59 "SensorBondModel" "state" "[I") (by decide +kernel)) (gvk_or (j := 0) rfl rfl (by omega)) dX7_mark_42 ?_
        refine lv_iload_n S.1 S.2.1 dX7_mark_45 rfl (lv_at hl 0 rfl) ?_
        refine k_iald S G 39 (hV 39 _ (by first | decide | (show _ < 1; omega))) rfl rfl rfl rfl (show k_4 < 80 by omega) dX7_mark_46 ?_
        refine lv_iconst (v := 3) S.1 S.2.1 dX7_mark_47 (by decide) ?_
        refine lv_icmp_ne (tgt := 56) S.1 S.2.1 dX7_mark_48 (by decide) (fun c_48 => ?_) (fun c_48 => ?_)
        · refine lv_iconst (v := 0) S.1 S.2.1 dX7_mark_56 (by decide) ?_
          refine lv_iadd S.1 S.2.1 dX7_mark_57 ?_
          refine g_top (show mMark κ a k_4 + 0 = mMark κ a (k_4 + 1) by simp only [mMark, if_neg c_9, if_pos c_20, if_neg c_34, if_neg c_48]) ?_
          refine lv_istore_n (lv' := [(2, _), (3, _), (1, _), (0, _)]) S.1 S.2.1 dX7_mark_58 rfl hl (by decide) rfl (fun ls hl => ?_)
          refine lv_iinc (k := 1) (lv' := [(3, _), (2, _), (1, _), (0, _)]) S.1 S.2.1 dX7_mark_59 hl rfl (g_inc _) (by decide) rfl (fun ls hl => ?_)
          refine lv_goto (tgt := 4) S.1 S.2.1 dX7_mark_62 (by decide) ?_
          exact ih_4 hlt_4 _ (lv_sub hl [0, 1, 2, 3] rfl)
        · refine lv_bipush (v := (-3)) S.1 S.2.1 dX7_mark_51 (by decide) ?_
          refine lv_goto (tgt := 57) S.1 S.2.1 dX7_mark_53 (by decide) ?_
          refine lv_iadd S.1 S.2.1 dX7_mark_57 ?_
          refine g_top (show mMark κ a k_4 + (-3) = mMark κ a (k_4 + 1) by simp only [mMark, if_neg c_9, if_pos c_20, if_neg c_34, if_pos c_48]) ?_
          refine lv_istore_n (lv' := [(2, _), (3, _), (1, _), (0, _)]) S.1 S.2.1 dX7_mark_58 rfl hl (by decide) rfl (fun ls hl => ?_)
          refine lv_iinc (k := 1) (lv' := [(3, _), (2, _), (1, _), (0, _)]) S.1 S.2.1 dX7_mark_59 hl rfl (g_inc _) (by decide) rfl (fun ls hl => ?_)
          refine lv_goto (tgt := 4) S.1 S.2.1 dX7_mark_62 (by decide) ?_
          exact ih_4 hlt_4 _ (lv_sub hl [0, 1, 2, 3] rfl)
      · refine lv_iconst (v := 1) S.1 S.2.1 dX7_mark_37 (by decide) ?_
        refine lv_goto (tgt := 57) S.1 S.2.1 dX7_mark_38 (by decide) ?_
        refine lv_iadd S.1 S.2.1 dX7_mark_57 ?_
        refine g_top (show mMark κ a k_4 + 1 = mMark κ a (k_4 + 1) by simp only [mMark, if_neg c_9, if_pos c_20, if_pos c_34]) ?_
        refine lv_istore_n (lv' := [(2, _), (3, _), (1, _), (0, _)]) S.1 S.2.1 dX7_mark_58 rfl hl (by decide) rfl (fun ls hl => ?_)
        refine lv_iinc (k := 1) (lv' := [(3, _), (2, _), (1, _), (0, _)]) S.1 S.2.1 dX7_mark_59 hl rfl (g_inc _) (by decide) rfl (fun ls hl => ?_)
        refine lv_goto (tgt := 4) S.1 S.2.1 dX7_mark_62 (by decide) ?_
        exact ih_4 hlt_4 _ (lv_sub hl [0, 1, 2, 3] rfl)
    · refine lv_iconst (v := 0) S.1 S.2.1 dX7_mark_23 (by decide) ?_
      refine lv_goto (tgt := 57) S.1 S.2.1 dX7_mark_24 (by decide) ?_
      refine lv_iadd S.1 S.2.1 dX7_mark_57 ?_
      refine g_top (show mMark κ a k_4 + 0 = mMark κ a (k_4 + 1) by simp only [mMark, if_neg c_9, if_neg c_20]) ?_
      refine lv_istore_n (lv' := [(2, _), (3, _), (1, _), (0, _)]) S.1 S.2.1 dX7_mark_58 rfl hl (by decide) rfl (fun ls hl => ?_)
      refine lv_iinc (k := 1) (lv' := [(3, _), (2, _), (1, _), (0, _)]) S.1 S.2.1 dX7_mark_59 hl rfl (g_inc _) (by decide) rfl (fun ls hl => ?_)
      refine lv_goto (tgt := 4) S.1 S.2.1 dX7_mark_62 (by decide) ?_
      exact ih_4 hlt_4 _ (lv_sub hl [0, 1, 2, 3] rfl)
