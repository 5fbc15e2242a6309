set_option maxHeartbeats 4000000 in
set_option maxRecDepth 100000 in
theorem c_X6_tick (l : Launch) (ids : gIds) (ad : gAd) (κ : gMem) (hV : cV ids)  : gMi l yX6_tick wsX6_tick ({ frames := 0, cells := 0, slots := 0, locals := 0 } : Room) 0 0 [.ref (ad 7 0)] (ids, ad, gk κ) (fun q u => q = κ 7 0 6 ∧ u = (ids, ad, gk (κ))) := by
  intro D aC A
  refine g_of (cc := cX6_tick) (maxL := 1) (ret := (some .int)) (by decide +kernel) rfl (Nat.le_of_ble_eq_true rfl) ?_
  intro p e s m below meth c ls S G hF hr hlk hnm hl
  have hl : lv_has ls 1 [(0, _)] := hl
  have i7 : ∀ w ∈ wsX60, w ∈ wsX6_tick := by decide +kernel
  refine lv_aload_n S.1 S.2.1 dX6_tick_0 rfl (lv_at hl 0 rfl) ?_
  refine g_get S G 7 6 (hV 7 _ (by first | decide | (show _ < 1; omega))) (by decide) (by decide) i7 (S.2.2.2.2 (.fieldLink RX6 40 "SensorBond" "tick" "I") (by decide +kernel)) (gvk_i rfl rfl) dX6_tick_1 ?_
  exact g_iret S G hr hlk (⟨rfl, rfl⟩) (Nat.le_of_ble_eq_true rfl) (Nat.le_of_ble_eq_true rfl) dX6_tick_4
set_option maxHeartbeats 4000000 in
set_option maxRecDepth 100000 in
theorem c_X6_readings (l : Launch) (ids : gIds) (ad : gAd) (κ : gMem) (hV : cV ids)  : gMi l yX6_readings wsX6_readings ({ frames := 0, cells := 0, slots := 0, locals := 0 } : Room) 0 0 [.ref (ad 7 0)] (ids, ad, gk κ) (fun q u => q = κ 7 0 4 ∧ u = (ids, ad, gk (κ))) := by
  intro D aC A
  refine g_of (cc := cX6_readings) (maxL := 1) (ret := (some .int)) (by decide +kernel) rfl (Nat.le_of_ble_eq_true rfl) ?_
  intro p e s m below meth c ls S G hF hr hlk hnm hl
  have hl : lv_has ls 1 [(0, _)] := hl
  have i7 : ∀ w ∈ wsX60, w ∈ wsX6_readings := by decide +kernel
  refine lv_aload_n S.1 S.2.1 dX6_readings_0 rfl (lv_at hl 0 rfl) ?_
  refine g_get S G 7 4 (hV 7 _ (by first | decide | (show _ < 1; omega))) (by decide) (by decide) i7 (S.2.2.2.2 (.fieldLink RX6 33 "SensorBond" "readingCount" "I") (by decide +kernel)) (gvk_i rfl rfl) dX6_readings_1 ?_
  exact g_iret S G hr hlk (⟨rfl, rfl⟩) (Nat.le_of_ble_eq_true rfl) (Nat.le_of_ble_eq_true rfl) dX6_readings_4
set_option maxHeartbeats 4000000 in
set_option maxRecDepth 100000 in
theorem c_X6_house (l : Launch) (ids : gIds) (ad : gAd) (κ : gMem) (hV : cV ids)  : gMi l yX6_house wsX6_house ({ frames := 0, cells := 0, slots := 0, locals := 0 } : Room) 0 0 [.ref (ad 7 0)] (ids, ad, gk κ) (fun q u => q = κ 7 0 5 ∧ u = (ids, ad, gk (κ))) := by
  intro D aC A
  refine g_of (cc := cX6_house) (maxL := 1) (ret := (some .int)) (by decide +kernel) rfl (Nat.le_of_ble_eq_true rfl) ?_
  intro p e s m below meth c ls S G hF hr hlk hnm hl
  have hl : lv_has ls 1 [(0, _)] := hl
  have i7 : ∀ w ∈ wsX60, w ∈ wsX6_house := by decide +kernel
  refine lv_aload_n S.1 S.2.1 dX6_house_0 rfl (lv_at hl 0 rfl) ?_
  refine g_get S G 7 5 (hV 7 _ (by first | decide | (show _ < 1; omega))) (by decide) (by decide) i7 (S.2.2.2.2 (.fieldLink RX6 37 "SensorBond" "house" "I") (by decide +kernel)) (gvk_i rfl rfl) dX6_house_1 ?_
  exact g_iret S G hr hlk (⟨rfl, rfl⟩) (Nat.le_of_ble_eq_true rfl) (Nat.le_of_ble_eq_true rfl) dX6_house_4
set_option maxHeartbeats 4000000 in
set_option maxRecDepth 100000 in
theorem c_X6_hang (l : Launch) (hlf : l.stackTraces = false) (ids : gIds) (ad : gAd) (κ : gMem) (a b : Int32) (hV : cV ids) (hW : cWF ids κ)  : gXi l yX6_hang wsX6_hang ({ frames := 7, cells := 8, slots := 64, locals := 111 } : Room) 8 64 [.ref (ad 7 0), .int a, .int b] (ids, ad, gk κ) (fun q u => sHangT a b = 0 ∧ q = nI (tN (κ 4 (tN a) 1)) ∧ u = (ids, ad, gk (upd3 κ 4 (tN a) 1 (nI (tN b))))) (fun E u => xE (sHangT a b) E ∧ u = (ids, ad, gk (κ))) := by
  intro D aC A
  refine gx_of (cc := cX6_hang) (maxL := 6) (ret := (some .int)) (by decide +kernel) rfl (Nat.le_of_ble_eq_true rfl) ?_
  intro p e s m below meth c ls S G hF hr hlk hex hl
  have hl : lv_has ls 6 [(0, _), (1, _), (2, _)] := hl
  have i4 : ∀ w ∈ wsX30, w ∈ wsX6_hang := by decide +kernel
  refine lv_aload_n S.1 S.2.1 dX6_hang_0 rfl (lv_at hl 0 rfl) ?_
  refine lv_iload_n S.1 S.2.1 dX6_hang_1 rfl (lv_at hl 1 rfl) ?_
  refine gx_cVr S G hF hl 7 (hV 7 _ (by first | decide | (show _ < 1; omega))) (by decide) (c_X6_repeaterAt l hlf ids ad _ _ hV) (cwV 1 S.2.2.2.2 gX6_hang_X6_repeaterAt rfl rfl rfl (by decide +kernel) ⟨Nat.le_of_ble_eq_true rfl, Nat.le_of_ble_eq_true rfl⟩) rfl rfl (Nat.le_of_ble_eq_true rfl) dX6_hang_2 ⟨Nat.le_of_ble_eq_true rfl, Nat.le_of_ble_eq_true rfl⟩ (gx_pass hex hlk (fun E u h => ⟨by obtain ⟨h1, rfl, -⟩ := h; exact xE1 (by simp only [sHangT, if_pos h1]), h.2.2⟩) (Nat.le_of_ble_eq_true rfl) (Nat.le_of_ble_eq_true rfl)) (fun r_2 u_2 H locs hp_2 G => ?_)
  obtain ⟨c_2, rfl, rfl⟩ := hp_2
  have G : gS D aC A s ids ad (gk _) H locs := G
  obtain ⟨hx_2, hj_2⟩ := mIn_rng (m := 5) c_2 (by decide)
  refine lv_astore_n (lv' := [(3, _), (0, _), (1, _), (2, _)]) S.1 S.2.1 dX6_hang_5 rfl hl (by decide) rfl (fun ls hl => ?_)
  refine lv_aload_n S.1 S.2.1 dX6_hang_6 rfl (lv_at hl 1 rfl) ?_
  refine lv_iload_n S.1 S.2.1 dX6_hang_7 rfl (lv_at hl 3 rfl) ?_
  refine gx_cVr S G hF hl 7 (hV 7 _ (by first | decide | (show _ < 1; omega))) (by decide) (c_X6_repeaterAt l hlf ids ad _ _ hV) (cwV 1 S.2.2.2.2 gX6_hang_X6_repeaterAt rfl rfl rfl (by decide +kernel) ⟨Nat.le_of_ble_eq_true rfl, Nat.le_of_ble_eq_true rfl⟩) rfl rfl (Nat.le_of_ble_eq_true rfl) dX6_hang_8 ⟨Nat.le_of_ble_eq_true rfl, Nat.le_of_ble_eq_true rfl⟩ (gx_pass hex hlk (fun E u h => ⟨by obtain ⟨h1, rfl, -⟩ := h; exact xE1 (by simp only [sHangT, if_neg c_2, if_pos h1]), h.2.2⟩) (Nat.le_of_ble_eq_true rfl) (Nat.le_of_ble_eq_true rfl)) (fun r_8 u_8 H locs hp_8 G => ?_)
  obtain ⟨c_8, rfl, rfl⟩ := hp_8
  have G : gS D aC A s ids ad (gk _) H locs := G
  obtain ⟨hx_8, hj_8⟩ := mIn_rng (m := 5) c_8 (by decide)
  refine lv_astore (lv' := [(4, _), (3, _), (0, _), (1, _), (2, _)]) S.1 S.2.1 dX6_hang_11 hl (by decide) rfl (fun ls hl => ?_)
  by_cases h0 : tN a = 0
  · refine lv_aload_n S.1 S.2.1 dX6_hang_13 rfl (lv_at hl 1 rfl) ?_
    refine g_getN S G 4 1 (hV 4 _ (by show _ < 6; omega)) (by decide) (by decide) i4 (gn_1 hF) (gvk_n rfl rfl (by rw [h0]; exact hW.hub)) dX6_hang_14 ?_
    refine lv_astoreN (lv' := [(5, _), (4, _), (3, _), (0, _), (1, _), (2, _)]) S.1 S.2.1 dX6_hang_17 hl (by decide) rfl (fun ls hl => ?_)
    refine lv_aloadN S.1 S.2.1 dX6_hang_19 (lv_at hl 0 rfl) ?_
    refine lv_ifnullN (tgt := 29) S.1 S.2.1 dX6_hang_21 (by decide) ?_
    exact g_throw (cls := "java/lang/IndexOutOfBoundsException") (text := "a repeater hangs on a lower one, and the hub on none") S G hF hlf hlk hex hl.1 rfl (by decide +kernel) (by decide +kernel) (by decide +kernel) (by decide +kernel) (by decide +kernel) (by decide +kernel) (by decide +kernel) (by decide +kernel) dX6_hang_29 dX6_hang_32 (Or.inl ⟨dX6_hang_33, dX6_hang_35, dX6_hang_38⟩) (Nat.le_of_ble_eq_true rfl) (Nat.le_of_ble_eq_true rfl) (Nat.le_of_ble_eq_true rfl) (Nat.le_of_ble_eq_true rfl) (⟨xE1 (by simp only [sHangT, if_neg c_2, if_neg c_8, if_pos h0]), rfl⟩) (Nat.le_of_ble_eq_true rfl) (Nat.le_of_ble_eq_true rfl)
  · refine lv_aload_n S.1 S.2.1 dX6_hang_13 rfl (lv_at hl 1 rfl) ?_
    have ho := hW.on (show tN a < 6 by omega) h0
    refine g_getN S G 4 1 (hV 4 _ (by show _ < 6; omega)) (by decide) (by decide) i4 (gn_1 hF) (gvk_r rfl rfl ho.1 (by have := ho.2; omega)) dX6_hang_14 ?_
    refine lv_astore (lv' := [(5, _), (4, _), (3, _), (0, _), (1, _), (2, _)]) S.1 S.2.1 dX6_hang_17 hl (by decide) rfl (fun ls hl => ?_)
    refine lv_aload S.1 S.2.1 dX6_hang_19 (lv_at hl 0 rfl) ?_
    refine lv_ifnull S.1 S.2.1 dX6_hang_21 ?_
    refine lv_iload_n S.1 S.2.1 dX6_hang_24 rfl (lv_at hl 5 rfl) ?_
    refine lv_iload_n S.1 S.2.1 dX6_hang_25 rfl (lv_at hl 4 rfl) ?_
    refine lv_icmp_lt (tgt := 39) S.1 S.2.1 dX6_hang_26 (by decide) (fun c_26 => ?_) (fun c_26 => ?_)
    · refine lv_aload_n S.1 S.2.1 dX6_hang_39 rfl (lv_at hl 2 rfl) ?_
      refine lv_aload S.1 S.2.1 dX6_hang_40 (lv_at hl 1 rfl) ?_
      refine g_putN (ty := (.object "SensorBond$Repeater")) S G 4 1 (hV 4 _ (by show _ < 6; omega)) (by decide) (by decide) i4 (gn_1 hF) rfl (by decide +kernel) rfl rfl (gw_r rfl (by omega)) dX6_hang_42 (fun H locs G => ?_)
      have G := gk_S rfl G
      refine lv_aload S.1 S.2.1 dX6_hang_45 (lv_at hl 0 rfl) ?_
      refine g_getN S G 4 0 (hV 4 _ (by have := ho.2; show _ < 6; omega)) (by decide) (by decide) i4 (gn_0 hF) (gvk_oi rfl rfl) dX6_hang_47 ?_
      refine vx_ret ?_
      exact g_iret S G hr hlk (⟨by simp only [sHangT, if_neg c_2, if_neg c_8, if_neg h0, if_pos c_26], rfl, rfl⟩) (Nat.le_of_ble_eq_true rfl) (Nat.le_of_ble_eq_true rfl) dX6_hang_50
    · exact g_throw (cls := "java/lang/IndexOutOfBoundsException") (text := "a repeater hangs on a lower one, and the hub on none") S G hF hlf hlk hex hl.1 rfl (by decide +kernel) (by decide +kernel) (by decide +kernel) (by decide +kernel) (by decide +kernel) (by decide +kernel) (by decide +kernel) (by decide +kernel) dX6_hang_29 dX6_hang_32 (Or.inl ⟨dX6_hang_33, dX6_hang_35, dX6_hang_38⟩) (Nat.le_of_ble_eq_true rfl) (Nat.le_of_ble_eq_true rfl) (Nat.le_of_ble_eq_true rfl) (Nat.le_of_ble_eq_true rfl) (⟨xE1 (by simp only [sHangT, if_neg c_2, if_neg c_8, if_neg h0, if_neg c_26]), rfl⟩) (Nat.le_of_ble_eq_true rfl) (Nat.le_of_ble_eq_true rfl)
set_option maxHeartbeats 4000000 in
set_option maxRecDepth 100000 in
theorem c_X6_attach (l : Launch) (hlf : l.stackTraces = false) (ids : gIds) (ad : gAd) (κ : gMem) (a b : Int32) (hV : cV ids) (hW : cWF ids κ)  : gXi l yX6_attach wsX6_attach ({ frames := 7, cells := 8, slots := 64, locals := 111 } : Room) 8 64 [.ref (ad 7 0), .int a, .int b] (ids, ad, gk κ) (fun q u => mAttachT a b = 0 ∧ q = nI (tN (κ 5 (tN a) 1)) ∧ u = (ids, ad, gk (upd3 κ 5 (tN a) 1 (nI (tN b))))) (fun E u => xE (mAttachT a b) E ∧ u = (ids, ad, gk (κ))) := by
  intro D aC A
  refine gx_of (cc := cX6_attach) (maxL := 6) (ret := (some .int)) (by decide +kernel) rfl (Nat.le_of_ble_eq_true rfl) ?_
  intro p e s m below meth c ls S G hF hr hlk hex hl
  have hl : lv_has ls 6 [(0, _), (1, _), (2, _)] := hl
  have i4 : ∀ w ∈ wsX30, w ∈ wsX6_attach := by decide +kernel
  have i5 : ∀ w ∈ wsX40, w ∈ wsX6_attach := by decide +kernel
  refine lv_aload_n S.1 S.2.1 dX6_attach_0 rfl (lv_at hl 0 rfl) ?_
  refine lv_iload_n S.1 S.2.1 dX6_attach_1 rfl (lv_at hl 1 rfl) ?_
  refine gx_cVr S G hF hl 7 (hV 7 _ (by first | decide | (show _ < 1; omega))) (by decide) (c_X6_sensorAt l hlf ids ad _ _ hV) (cwV 1 S.2.2.2.2 gX6_attach_X6_sensorAt rfl rfl rfl (by decide +kernel) ⟨Nat.le_of_ble_eq_true rfl, Nat.le_of_ble_eq_true rfl⟩) rfl rfl (Nat.le_of_ble_eq_true rfl) dX6_attach_2 ⟨Nat.le_of_ble_eq_true rfl, Nat.le_of_ble_eq_true rfl⟩ (gx_pass hex hlk (fun E u h => ⟨by obtain ⟨h1, rfl, -⟩ := h; exact xE1 (by simp only [mAttachT, if_pos h1]), h.2.2⟩) (Nat.le_of_ble_eq_true rfl) (Nat.le_of_ble_eq_true rfl)) (fun r_2 u_2 H locs hp_2 G => ?_)
  obtain ⟨c_2, rfl, rfl⟩ := hp_2
  have G : gS D aC A s ids ad (gk _) H locs := G
  obtain ⟨hx_2, hj_2⟩ := mIn_rng (m := 11) c_2 (by decide)
  refine lv_astore_n (lv' := [(3, _), (0, _), (1, _), (2, _)]) S.1 S.2.1 dX6_attach_5 rfl hl (by decide) rfl (fun ls hl => ?_)
  refine lv_aload_n S.1 S.2.1 dX6_attach_6 rfl (lv_at hl 1 rfl) ?_
  refine lv_iload_n S.1 S.2.1 dX6_attach_7 rfl (lv_at hl 3 rfl) ?_
  refine gx_cVr S G hF hl 7 (hV 7 _ (by first | decide | (show _ < 1; omega))) (by decide) (c_X6_repeaterAt l hlf ids ad _ _ hV) (cwV 1 S.2.2.2.2 gX6_attach_X6_repeaterAt rfl rfl rfl (by decide +kernel) ⟨Nat.le_of_ble_eq_true rfl, Nat.le_of_ble_eq_true rfl⟩) rfl rfl (Nat.le_of_ble_eq_true rfl) dX6_attach_8 ⟨Nat.le_of_ble_eq_true rfl, Nat.le_of_ble_eq_true rfl⟩ (gx_pass hex hlk (fun E u h => ⟨by obtain ⟨h1, rfl, -⟩ := h; exact xE1 (by simp only [mAttachT, if_neg c_2, if_pos h1]), h.2.2⟩) (Nat.le_of_ble_eq_true rfl) (Nat.le_of_ble_eq_true rfl)) (fun r_8 u_8 H locs hp_8 G => ?_)
  obtain ⟨c_8, rfl, rfl⟩ := hp_8
  have G : gS D aC A s ids ad (gk _) H locs := G
  obtain ⟨hx_8, hj_8⟩ := mIn_rng (m := 5) c_8 (by decide)
  refine lv_astore (lv' := [(4, _), (3, _), (0, _), (1, _), (2, _)]) S.1 S.2.1 dX6_attach_11 hl (by decide) rfl (fun ls hl => ?_)
  refine lv_aload_n S.1 S.2.1 dX6_attach_13 rfl (lv_at hl 1 rfl) ?_
  have ho := hW.rp (show tN a < 12 by omega)
  refine g_getN S G 5 1 (hV 5 _ (by first | decide | (show _ < 12; omega))) (by decide) (by decide) i5 (gn_6 hF) (gvk_r rfl rfl ho.1 (by have := ho.2; omega)) dX6_attach_14 ?_
  refine g_getN S G 4 0 (hV 4 _ (by have := ho.2; show _ < 6; omega)) (by decide) (by decide) i4 (gn_0 hF) (gvk_oi rfl rfl) dX6_attach_17 ?_
  refine lv_istore (lv' := [(5, _), (4, _), (3, _), (0, _), (1, _), (2, _)]) S.1 S.2.1 dX6_attach_20 hl (by decide) rfl (fun ls hl => ?_)
  refine lv_aload_n S.1 S.2.1 dX6_attach_22 rfl (lv_at hl 2 rfl) ?_
  refine lv_aload S.1 S.2.1 dX6_attach_23 (lv_at hl 1 rfl) ?_
  refine g_putN (ty := (.object "SensorBond$Repeater")) S G 5 1 (hV 5 _ (by first | decide | (show _ < 12; omega))) (by decide) (by decide) i5 (gn_6 hF) rfl (by decide +kernel) rfl rfl (gw_r rfl (by omega)) dX6_attach_25 (fun H locs G => ?_)
  have G := gk_S rfl G
  refine lv_iload S.1 S.2.1 dX6_attach_28 (lv_at hl 0 rfl) ?_
  refine vx_ret ?_
  exact g_iret S G hr hlk (⟨by simp only [mAttachT, if_neg c_2, if_neg c_8], rfl, rfl⟩) (Nat.le_of_ble_eq_true rfl) (Nat.le_of_ble_eq_true rfl) dX6_attach_30
set_option maxHeartbeats 4000000 in
set_option maxRecDepth 100000 in
theorem c_X6_setLoss (l : Launch) (hlf : l.stackTraces = false) (ids : gIds) (ad : gAd) (κ : gMem) (a n : Int32) (hV : cV ids)  : gXi l yX6_setLoss wsX6_setLoss ({ frames := 7, cells := 8, slots := 64, locals := 112 } : Room) 8 64 [.ref (ad 7 0), .int a, .int n] (ids, ad, gk κ) (fun q u => mSetLossT a n = 0 ∧ q = sLost κ (tN a) ∧ u = (ids, ad, gk (sSetLossK κ (tN a) n))) (fun E u => xE (mSetLossT a n) E ∧ u = (ids, ad, gk (κ))) := by
  intro D aC A
  refine gx_of (cc := cX6_setLoss) (maxL := 5) (ret := (some .int)) (by decide +kernel) rfl (Nat.le_of_ble_eq_true rfl) ?_
  intro p e s m below meth c ls S G hF hr hlk hex hl
  have hl : lv_has ls 5 [(0, _), (1, _), (2, _)] := hl
  have i4 : ∀ w ∈ wsX30, w ∈ wsX6_setLoss := by decide +kernel
  refine lv_aload_n S.1 S.2.1 dX6_setLoss_0 rfl (lv_at hl 0 rfl) ?_
  refine lv_iload_n S.1 S.2.1 dX6_setLoss_1 rfl (lv_at hl 1 rfl) ?_
  refine gx_cVr S G hF hl 7 (hV 7 _ (by first | decide | (show _ < 1; omega))) (by decide) (c_X6_repeaterAt l hlf ids ad _ _ hV) (cwV 1 S.2.2.2.2 gX6_setLoss_X6_repeaterAt rfl rfl rfl (by decide +kernel) ⟨Nat.le_of_ble_eq_true rfl, Nat.le_of_ble_eq_true rfl⟩) rfl rfl (Nat.le_of_ble_eq_true rfl) dX6_setLoss_2 ⟨Nat.le_of_ble_eq_true rfl, Nat.le_of_ble_eq_true rfl⟩ (gx_pass hex hlk (fun E u h => ⟨by obtain ⟨h1, rfl, -⟩ := h; exact xE1 (by simp only [mSetLossT, if_pos h1]), h.2.2⟩) (Nat.le_of_ble_eq_true rfl) (Nat.le_of_ble_eq_true rfl)) (fun r_2 u_2 H locs hp_2 G => ?_)
  obtain ⟨c_2, rfl, rfl⟩ := hp_2
  have G : gS D aC A s ids ad (gk _) H locs := G
  obtain ⟨hx_2, hj_2⟩ := mIn_rng (m := 5) c_2 (by decide)
  refine lv_astore_n (lv' := [(3, _), (0, _), (1, _), (2, _)]) S.1 S.2.1 dX6_setLoss_5 rfl hl (by decide) rfl (fun ls hl => ?_)
  refine lv_iload_n S.1 S.2.1 dX6_setLoss_6 rfl (lv_at hl 3 rfl) ?_
  refine lv_if_eq (tgt := 17) S.1 S.2.1 dX6_setLoss_7 (by decide) (fun c_7 => ?_) (fun c_7 => ?_)
  · refine lv_aload_n S.1 S.2.1 dX6_setLoss_17 rfl (lv_at hl 0 rfl) ?_
    refine g_cNi S G hF hl 4 (hV 4 _ (by first | decide | (show _ < 6; omega))) (by decide) (c_X3_countLost l ids ad _ _ (hV 4 _ (by show _ < 6; omega))) ⟨va_cnB 0 S.2.2.2.2 gX6_setLoss_X3_countLost_n80 rfl rfl rfl (gm_3 hF) (S.2.2.2.2 (.initialized RX3) (by decide +kernel)) (by decide +kernel) ⟨Nat.le_of_ble_eq_true rfl, Nat.le_of_ble_eq_true rfl⟩, S.2.2.2.2 (.instanceMethod yX3_countLost) (by decide +kernel), S.2.2.2.2 (.selects RX3 yX3_countLost yX3_countLost) (by decide +kernel)⟩ rfl rfl (Nat.le_of_ble_eq_true rfl) dX6_setLoss_18 ⟨Nat.le_of_ble_eq_true rfl, Nat.le_of_ble_eq_true rfl⟩ (fun r_18 u_18 H locs hp_18 G => ?_)
    obtain ⟨rfl, rfl⟩ := hp_18
    have G : gS D aC A s ids ad (gk _) H locs := G
    refine lv_istore (lv' := [(4, _), (3, _), (0, _), (1, _), (2, _)]) S.1 S.2.1 dX6_setLoss_21 hl (by decide) rfl (fun ls hl => ?_)
    refine lv_aload_n S.1 S.2.1 dX6_setLoss_23 rfl (lv_at hl 1 rfl) ?_
    refine lv_iload_n S.1 S.2.1 dX6_setLoss_24 rfl (lv_at hl 4 rfl) ?_
    refine g_putN (ty := .int) S G 4 2 (hV 4 _ (by first | decide | (show _ < 6; omega))) (by decide) (by decide) i4 (gn_2 hF) rfl (by decide +kernel) rfl rfl (gw_i rfl) dX6_setLoss_25 (fun H locs G => ?_)
    have G := gk_S rfl G
    refine lv_aload_n S.1 S.2.1 dX6_setLoss_28 rfl (lv_at hl 1 rfl) ?_
    refine lv_iconst (v := 0) S.1 S.2.1 dX6_setLoss_29 (by decide) ?_
    refine g_putN (ty := .int) S G 4 3 (hV 4 _ (by first | decide | (show _ < 6; omega))) (by decide) (by decide) i4 (gn_3 hF) rfl (by decide +kernel) rfl rfl (gw_i rfl) dX6_setLoss_30 (fun H locs G => ?_)
    have G := gk_S rfl G
    refine lv_iload S.1 S.2.1 dX6_setLoss_33 (lv_at hl 0 rfl) ?_
    refine vx_ret ?_
    exact g_iret S G hr hlk (⟨by simp only [mSetLossT, if_neg c_2, if_pos c_7], rfl, rfl⟩) (Nat.le_of_ble_eq_true rfl) (Nat.le_of_ble_eq_true rfl) dX6_setLoss_35
  · refine lv_iload_n S.1 S.2.1 dX6_setLoss_10 rfl (lv_at hl 3 rfl) ?_
    refine lv_iconst (v := 2) S.1 S.2.1 dX6_setLoss_11 (by decide) ?_
    refine lv_bipush (v := 9) S.1 S.2.1 dX6_setLoss_12 (by decide) ?_
    refine gx_cSv S G hF hl (c_X6_checkWithin l hlf ids ad _ _ _ _) (va_cwS 3 S.2.2.2.2 gX6_setLoss_X6_checkWithin rfl rfl rfl (by decide +kernel) ⟨Nat.le_of_ble_eq_true rfl, Nat.le_of_ble_eq_true rfl⟩) rfl rfl (Nat.le_of_ble_eq_true rfl) dX6_setLoss_14 ⟨Nat.le_of_ble_eq_true rfl, Nat.le_of_ble_eq_true rfl⟩ (gx_pass hex hlk (fun E u h => ⟨by obtain ⟨h1, rfl, -⟩ := h; exact xE2 (by simp only [mSetLossT, if_neg c_2, if_neg c_7, if_pos h1]), h.2.2⟩) (Nat.le_of_ble_eq_true rfl) (Nat.le_of_ble_eq_true rfl)) (fun u_14 H locs hp_14 G => ?_)
    obtain ⟨c_14, rfl⟩ := hp_14
    have G : gS D aC A s ids ad (gk _) H locs := G
    refine lv_aload_n S.1 S.2.1 dX6_setLoss_17 rfl (lv_at hl 0 rfl) ?_
    refine g_cNi S G hF hl 4 (hV 4 _ (by first | decide | (show _ < 6; omega))) (by decide) (c_X3_countLost l ids ad _ _ (hV 4 _ (by show _ < 6; omega))) ⟨va_cnB 0 S.2.2.2.2 gX6_setLoss_X3_countLost_n80 rfl rfl rfl (gm_3 hF) (S.2.2.2.2 (.initialized RX3) (by decide +kernel)) (by decide +kernel) ⟨Nat.le_of_ble_eq_true rfl, Nat.le_of_ble_eq_true rfl⟩, S.2.2.2.2 (.instanceMethod yX3_countLost) (by decide +kernel), S.2.2.2.2 (.selects RX3 yX3_countLost yX3_countLost) (by decide +kernel)⟩ rfl rfl (Nat.le_of_ble_eq_true rfl) dX6_setLoss_18 ⟨Nat.le_of_ble_eq_true rfl, Nat.le_of_ble_eq_true rfl⟩ (fun r_18 u_18 H locs hp_18 G => ?_)
    obtain ⟨rfl, rfl⟩ := hp_18
    have G : gS D aC A s ids ad (gk _) H locs := G
    refine lv_istore (lv' := [(4, _), (3, _), (0, _), (1, _), (2, _)]) S.1 S.2.1 dX6_setLoss_21 hl (by decide) rfl (fun ls hl => ?_)
    refine lv_aload_n S.1 S.2.1 dX6_setLoss_23 rfl (lv_at hl 1 rfl) ?_
    refine lv_iload_n S.1 S.2.1 dX6_setLoss_24 rfl (lv_at hl 4 rfl) ?_
    refine g_putN (ty := .int) S G 4 2 (hV 4 _ (by first | decide | (show _ < 6; omega))) (by decide) (by decide) i4 (gn_2 hF) rfl (by decide +kernel) rfl rfl (gw_i rfl) dX6_setLoss_25 (fun H locs G => ?_)
    have G := gk_S rfl G
    refine lv_aload_n S.1 S.2.1 dX6_setLoss_28 rfl (lv_at hl 1 rfl) ?_
    refine lv_iconst (v := 0) S.1 S.2.1 dX6_setLoss_29 (by decide) ?_
    refine g_putN (ty := .int) S G 4 3 (hV 4 _ (by first | decide | (show _ < 6; omega))) (by decide) (by decide) i4 (gn_3 hF) rfl (by decide +kernel) rfl rfl (gw_i rfl) dX6_setLoss_30 (fun H locs G => ?_)
    have G := gk_S rfl G
    refine lv_iload S.1 S.2.1 dX6_setLoss_33 (lv_at hl 0 rfl) ?_
    refine vx_ret ?_
    exact g_iret S G hr hlk (⟨by simp only [mSetLossT, if_neg c_2, if_neg c_7, if_neg c_14], rfl, rfl⟩) (Nat.le_of_ble_eq_true rfl) (Nat.le_of_ble_eq_true rfl) dX6_setLoss_35
set_option maxHeartbeats 4000000 in
set_option maxRecDepth 100000 in
theorem c_X6_setPrice (l : Launch) (hlf : l.stackTraces = false) (ids : gIds) (ad : gAd) (κ : gMem) (a n : Int32) (hV : cV ids)  : gXi l yX6_setPrice wsX6_setPrice ({ frames := 7, cells := 8, slots := 64, locals := 112 } : Room) 8 64 [.ref (ad 7 0), .int a, .int n] (ids, ad, gk κ) (fun q u => mSetPriceT a n = 0 ∧ q = κ 5 (tN a) 2 ∧ u = (ids, ad, gk (upd3 κ 5 (tN a) 2 n))) (fun E u => xE (mSetPriceT a n) E ∧ u = (ids, ad, gk (κ))) := by
  intro D aC A
  refine gx_of (cc := cX6_setPrice) (maxL := 5) (ret := (some .int)) (by decide +kernel) rfl (Nat.le_of_ble_eq_true rfl) ?_
  intro p e s m below meth c ls S G hF hr hlk hex hl
  have hl : lv_has ls 5 [(0, _), (1, _), (2, _)] := hl
  have i5 : ∀ w ∈ wsX40, w ∈ wsX6_setPrice := by decide +kernel
  refine lv_aload_n S.1 S.2.1 dX6_setPrice_0 rfl (lv_at hl 0 rfl) ?_
  refine lv_iload_n S.1 S.2.1 dX6_setPrice_1 rfl (lv_at hl 1 rfl) ?_
  refine gx_cVr S G hF hl 7 (hV 7 _ (by first | decide | (show _ < 1; omega))) (by decide) (c_X6_sensorAt l hlf ids ad _ _ hV) (cwV 1 S.2.2.2.2 gX6_setPrice_X6_sensorAt rfl rfl rfl (by decide +kernel) ⟨Nat.le_of_ble_eq_true rfl, Nat.le_of_ble_eq_true rfl⟩) rfl rfl (Nat.le_of_ble_eq_true rfl) dX6_setPrice_2 ⟨Nat.le_of_ble_eq_true rfl, Nat.le_of_ble_eq_true rfl⟩ (gx_pass hex hlk (fun E u h => ⟨by obtain ⟨h1, rfl, -⟩ := h; exact xE1 (by simp only [mSetPriceT, if_pos h1]), h.2.2⟩) (Nat.le_of_ble_eq_true rfl) (Nat.le_of_ble_eq_true rfl)) (fun r_2 u_2 H locs hp_2 G => ?_)
  obtain ⟨c_2, rfl, rfl⟩ := hp_2
  have G : gS D aC A s ids ad (gk _) H locs := G
  obtain ⟨hx_2, hj_2⟩ := mIn_rng (m := 11) c_2 (by decide)
  refine lv_astore_n (lv' := [(3, _), (0, _), (1, _), (2, _)]) S.1 S.2.1 dX6_setPrice_5 rfl hl (by decide) rfl (fun ls hl => ?_)
  refine lv_iload_n S.1 S.2.1 dX6_setPrice_6 rfl (lv_at hl 3 rfl) ?_
  refine lv_iconst (v := 1) S.1 S.2.1 dX6_setPrice_7 (by decide) ?_
  refine lv_bipush (v := 20) S.1 S.2.1 dX6_setPrice_8 (by decide) ?_
  refine gx_cSv S G hF hl (c_X6_checkWithin l hlf ids ad _ _ _ _) (va_cwS 3 S.2.2.2.2 gX6_setPrice_X6_checkWithin rfl rfl rfl (by decide +kernel) ⟨Nat.le_of_ble_eq_true rfl, Nat.le_of_ble_eq_true rfl⟩) rfl rfl (Nat.le_of_ble_eq_true rfl) dX6_setPrice_10 ⟨Nat.le_of_ble_eq_true rfl, Nat.le_of_ble_eq_true rfl⟩ (gx_pass hex hlk (fun E u h => ⟨by obtain ⟨h1, rfl, -⟩ := h; exact xE2 (by simp only [mSetPriceT, if_neg c_2, if_pos h1]), h.2.2⟩) (Nat.le_of_ble_eq_true rfl) (Nat.le_of_ble_eq_true rfl)) (fun u_10 H locs hp_10 G => ?_)
  obtain ⟨c_10, rfl⟩ := hp_10
  have G : gS D aC A s ids ad (gk _) H locs := G
  refine lv_aload_n S.1 S.2.1 dX6_setPrice_13 rfl (lv_at hl 0 rfl) ?_
  refine g_getN S G 5 2 (hV 5 _ (by first | decide | (show _ < 12; omega))) (by decide) (by decide) i5 (gn_7 hF) (gvk_i rfl rfl) dX6_setPrice_14 ?_
  refine lv_istore (lv' := [(4, _), (3, _), (0, _), (1, _), (2, _)]) S.1 S.2.1 dX6_setPrice_17 hl (by decide) rfl (fun ls hl => ?_)
  refine lv_aload_n S.1 S.2.1 dX6_setPrice_19 rfl (lv_at hl 1 rfl) ?_
  refine lv_iload_n S.1 S.2.1 dX6_setPrice_20 rfl (lv_at hl 4 rfl) ?_
  refine g_putN (ty := .int) S G 5 2 (hV 5 _ (by first | decide | (show _ < 12; omega))) (by decide) (by decide) i5 (gn_7 hF) rfl (by decide +kernel) rfl rfl (gw_i rfl) dX6_setPrice_21 (fun H locs G => ?_)
  have G := gk_S rfl G
  refine lv_iload S.1 S.2.1 dX6_setPrice_24 (lv_at hl 0 rfl) ?_
  refine vx_ret ?_
  exact g_iret S G hr hlk (⟨by simp only [mSetPriceT, if_neg c_2, if_neg c_10], rfl, rfl⟩) (Nat.le_of_ble_eq_true rfl) (Nat.le_of_ble_eq_true rfl) dX6_setPrice_26
set_option maxHeartbeats 4000000 in
set_option maxRecDepth 100000 in
theorem c_X6_stateOf (l : Launch) (hlf : l.stackTraces = false) (ids : gIds) (ad : gAd) (κ : gMem) (x : Int32) (hV : cV ids) (hW : cWF ids κ)  : gXi l yX6_stateOf wsX6_stateOf ({ frames := 7, cells := 8, slots := 64, locals := 111 } : Room) 8 64 [.ref (ad 7 0), .int x] (ids, ad, gk κ) (fun q u => sRdT κ x = 0 ∧ q = κ 3 (tN x) 3 ∧ u = (ids, ad, gk (κ))) (fun E u => xE (sRdT κ x) E ∧ u = (ids, ad, gk (κ))) := by
  intro D aC A
  refine gx_of (cc := cX6_stateOf) (maxL := 2) (ret := (some .int)) (by decide +kernel) rfl (Nat.le_of_ble_eq_true rfl) ?_
  intro p e s m below meth c ls S G hF hr hlk hex hl
  have hl : lv_has ls 2 [(0, _), (1, _)] := hl
  have i3 : ∀ w ∈ wsX20, w ∈ wsX6_stateOf := by decide +kernel
  refine lv_aload_n S.1 S.2.1 dX6_stateOf_0 rfl (lv_at hl 0 rfl) ?_
  refine lv_iload_n S.1 S.2.1 dX6_stateOf_1 rfl (lv_at hl 1 rfl) ?_
  refine gx_cVr S G hF hl 7 (hV 7 _ (by first | decide | (show _ < 1; omega))) (by decide) (c_X6_readingAt l hlf ids ad _ _ hV hW) (cwV 1 S.2.2.2.2 gX6_stateOf_X6_readingAt rfl rfl rfl (by decide +kernel) ⟨Nat.le_of_ble_eq_true rfl, Nat.le_of_ble_eq_true rfl⟩) rfl rfl (Nat.le_of_ble_eq_true rfl) dX6_stateOf_2 ⟨Nat.le_of_ble_eq_true rfl, Nat.le_of_ble_eq_true rfl⟩ (gx_pass hex hlk (fun E u h => ⟨by obtain ⟨h1, rfl, -⟩ := h; exact xE1 (by simp only [sRdT, if_pos h1]), h.2.2⟩) (Nat.le_of_ble_eq_true rfl) (Nat.le_of_ble_eq_true rfl)) (fun r_2 u_2 H locs hp_2 G => ?_)
  obtain ⟨c_2, rfl, rfl⟩ := hp_2
  have G : gS D aC A s ids ad (gk _) H locs := G
  obtain ⟨hn, hn80⟩ := hW.cnt
  obtain ⟨hx_2, hj_2⟩ := mIn_rd (n := tN (κ 7 0 4)) (by rw [← hn]; exact c_2) hn80
  have hR := hW.2.1 _ hj_2
  refine g_getN S G 3 3 hR.2.1 (by decide) (by decide) i3 (gn_17 hF) (gvk_i rfl rfl) dX6_stateOf_5 ?_
  refine vx_ret ?_
  exact g_iret S G hr hlk (⟨by simp only [sRdT, if_neg c_2], rfl, rfl⟩) (Nat.le_of_ble_eq_true rfl) (Nat.le_of_ble_eq_true rfl) dX6_stateOf_8
set_option maxHeartbeats 4000000 in
set_option maxRecDepth 100000 in
theorem c_X6_parts (l : Launch) (hlf : l.stackTraces = false) (ids : gIds) (ad : gAd) (κ : gMem) (x : Int32) (hV : cV ids) (hW : cWF ids κ)  : gXi l yX6_parts wsX6_parts ({ frames := 7, cells := 8, slots := 64, locals := 111 } : Room) 8 64 [.ref (ad 7 0), .int x] (ids, ad, gk κ) (fun q u => sRdT κ x = 0 ∧ q = κ 3 (tN x) 2 ∧ u = (ids, ad, gk (κ))) (fun E u => xE (sRdT κ x) E ∧ u = (ids, ad, gk (κ))) := by
  intro D aC A
  refine gx_of (cc := cX6_parts) (maxL := 2) (ret := (some .int)) (by decide +kernel) rfl (Nat.le_of_ble_eq_true rfl) ?_
  intro p e s m below meth c ls S G hF hr hlk hex hl
  have hl : lv_has ls 2 [(0, _), (1, _)] := hl
  have i3 : ∀ w ∈ wsX20, w ∈ wsX6_parts := by decide +kernel
  refine lv_aload_n S.1 S.2.1 dX6_parts_0 rfl (lv_at hl 0 rfl) ?_
  refine lv_iload_n S.1 S.2.1 dX6_parts_1 rfl (lv_at hl 1 rfl) ?_
  refine gx_cVr S G hF hl 7 (hV 7 _ (by first | decide | (show _ < 1; omega))) (by decide) (c_X6_readingAt l hlf ids ad _ _ hV hW) (cwV 1 S.2.2.2.2 gX6_parts_X6_readingAt rfl rfl rfl (by decide +kernel) ⟨Nat.le_of_ble_eq_true rfl, Nat.le_of_ble_eq_true rfl⟩) rfl rfl (Nat.le_of_ble_eq_true rfl) dX6_parts_2 ⟨Nat.le_of_ble_eq_true rfl, Nat.le_of_ble_eq_true rfl⟩ (gx_pass hex hlk (fun E u h => ⟨by obtain ⟨h1, rfl, -⟩ := h; exact xE1 (by simp only [sRdT, if_pos h1]), h.2.2⟩) (Nat.le_of_ble_eq_true rfl) (Nat.le_of_ble_eq_true rfl)) (fun r_2 u_2 H locs hp_2 G => ?_)
  obtain ⟨c_2, rfl, rfl⟩ := hp_2
  have G : gS D aC A s ids ad (gk _) H locs := G
  obtain ⟨hn, hn80⟩ := hW.cnt
  obtain ⟨hx_2, hj_2⟩ := mIn_rd (n := tN (κ 7 0 4)) (by rw [← hn]; exact c_2) hn80
  have hR := hW.2.1 _ hj_2
  refine g_getN S G 3 2 hR.2.1 (by decide) (by decide) i3 (gn_16 hF) (gvk_i rfl rfl) dX6_parts_5 ?_
  refine vx_ret ?_
  exact g_iret S G hr hlk (⟨by simp only [sRdT, if_neg c_2], rfl, rfl⟩) (Nat.le_of_ble_eq_true rfl) (Nat.le_of_ble_eq_true rfl) dX6_parts_8
set_option maxHeartbeats 4000000 in
set_option maxRecDepth 100000 in
theorem c_X6_users (l : Launch) (hlf : l.stackTraces = false) (ids : gIds) (ad : gAd) (κ : gMem) (x : Int32) (hV : cV ids) (hW : cWF ids κ)  : gXi l yX6_users wsX6_users ({ frames := 7, cells := 8, slots := 64, locals := 111 } : Room) 8 64 [.ref (ad 7 0), .int x] (ids, ad, gk κ) (fun q u => sRdT κ x = 0 ∧ q = κ 3 (tN x) 6 ∧ u = (ids, ad, gk (κ))) (fun E u => xE (sRdT κ x) E ∧ u = (ids, ad, gk (κ))) := by
  intro D aC A
  refine gx_of (cc := cX6_users) (maxL := 2) (ret := (some .int)) (by decide +kernel) rfl (Nat.le_of_ble_eq_true rfl) ?_
  intro p e s m below meth c ls S G hF hr hlk hex hl
  have hl : lv_has ls 2 [(0, _), (1, _)] := hl
  have i3 : ∀ w ∈ wsX20, w ∈ wsX6_users := by decide +kernel
  refine lv_aload_n S.1 S.2.1 dX6_users_0 rfl (lv_at hl 0 rfl) ?_
  refine lv_iload_n S.1 S.2.1 dX6_users_1 rfl (lv_at hl 1 rfl) ?_
  refine gx_cVr S G hF hl 7 (hV 7 _ (by first | decide | (show _ < 1; omega))) (by decide) (c_X6_readingAt l hlf ids ad _ _ hV hW) (cwV 1 S.2.2.2.2 gX6_users_X6_readingAt rfl rfl rfl (by decide +kernel) ⟨Nat.le_of_ble_eq_true rfl, Nat.le_of_ble_eq_true rfl⟩) rfl rfl (Nat.le_of_ble_eq_true rfl) dX6_users_2 ⟨Nat.le_of_ble_eq_true rfl, Nat.le_of_ble_eq_true rfl⟩ (gx_pass hex hlk (fun E u h => ⟨by obtain ⟨h1, rfl, -⟩ := h; exact xE1 (by simp only [sRdT, if_pos h1]), h.2.2⟩) (Nat.le_of_ble_eq_true rfl) (Nat.le_of_ble_eq_true rfl)) (fun r_2 u_2 H locs hp_2 G => ?_)
  obtain ⟨c_2, rfl, rfl⟩ := hp_2
  have G : gS D aC A s ids ad (gk _) H locs := G
  obtain ⟨hn, hn80⟩ := hW.cnt
  obtain ⟨hx_2, hj_2⟩ := mIn_rd (n := tN (κ 7 0 4)) (by rw [← hn]; exact c_2) hn80
  have hR := hW.2.1 _ hj_2
  refine g_getN S G 3 6 hR.2.1 (by decide) (by decide) i3 (gn_20 hF) (gvk_i rfl rfl) dX6_users_5 ?_
  refine vx_ret ?_
  exact g_iret S G hr hlk (⟨by simp only [sRdT, if_neg c_2], rfl, rfl⟩) (Nat.le_of_ble_eq_true rfl) (Nat.le_of_ble_eq_true rfl) dX6_users_8
set_option maxHeartbeats 4000000 in
set_option maxRecDepth 100000 in
theorem c_X6_held (l : Launch) (hlf : l.stackTraces = false) (ids : gIds) (ad : gAd) (κ : gMem) (x : Int32) (hV : cV ids) (hW : cWF ids κ)  : gXi l yX6_held wsX6_held ({ frames := 7, cells := 8, slots := 64, locals := 111 } : Room) 8 64 [.ref (ad 7 0), .int x] (ids, ad, gk κ) (fun q u => sRdT κ x = 0 ∧ q = κ 3 (tN x) 7 ∧ u = (ids, ad, gk (κ))) (fun E u => xE (sRdT κ x) E ∧ u = (ids, ad, gk (κ))) := by
  intro D aC A
  refine gx_of (cc := cX6_held) (maxL := 2) (ret := (some .int)) (by decide +kernel) rfl (Nat.le_of_ble_eq_true rfl) ?_
  intro p e s m below meth c ls S G hF hr hlk hex hl
  have hl : lv_has ls 2 [(0, _), (1, _)] := hl
  have i3 : ∀ w ∈ wsX20, w ∈ wsX6_held := by decide +kernel
  refine lv_aload_n S.1 S.2.1 dX6_held_0 rfl (lv_at hl 0 rfl) ?_
  refine lv_iload_n S.1 S.2.1 dX6_held_1 rfl (lv_at hl 1 rfl) ?_
  refine gx_cVr S G hF hl 7 (hV 7 _ (by first | decide | (show _ < 1; omega))) (by decide) (c_X6_readingAt l hlf ids ad _ _ hV hW) (cwV 1 S.2.2.2.2 gX6_held_X6_readingAt rfl rfl rfl (by decide +kernel) ⟨Nat.le_of_ble_eq_true rfl, Nat.le_of_ble_eq_true rfl⟩) rfl rfl (Nat.le_of_ble_eq_true rfl) dX6_held_2 ⟨Nat.le_of_ble_eq_true rfl, Nat.le_of_ble_eq_true rfl⟩ (gx_pass hex hlk (fun E u h => ⟨by obtain ⟨h1, rfl, -⟩ := h; exact xE1 (by simp only [sRdT, if_pos h1]), h.2.2⟩) (Nat.le_of_ble_eq_true rfl) (Nat.le_of_ble_eq_true rfl)) (fun r_2 u_2 H locs hp_2 G => ?_)
  obtain ⟨c_2, rfl, rfl⟩ := hp_2
  have G : gS D aC A s ids ad (gk _) H locs := G
  obtain ⟨hn, hn80⟩ := hW.cnt
  obtain ⟨hx_2, hj_2⟩ := mIn_rd (n := tN (κ 7 0 4)) (by rw [← hn]; exact c_2) hn80
  have hR := hW.2.1 _ hj_2
  refine g_getN S G 3 7 hR.2.1 (by decide) (by decide) i3 (gn_21 hF) (gvk_i rfl rfl) dX6_held_5 ?_
  refine vx_ret ?_
  exact g_iret S G hr hlk (⟨by simp only [sRdT, if_neg c_2], rfl, rfl⟩) (Nat.le_of_ble_eq_true rfl) (Nat.le_of_ble_eq_true rfl) dX6_held_8
set_option maxHeartbeats 4000000 in
set_option maxRecDepth 100000 in
theorem c_X6_middle (l : Launch) (hlf : l.stackTraces = false) (ids : gIds) (ad : gAd) (κ : gMem) (x : Int32) (hV : cV ids) (hW : cWF ids κ)  : gXi l yX6_middle wsX6_middle ({ frames := 7, cells := 8, slots := 64, locals := 111 } : Room) 8 64 [.ref (ad 7 0), .int x] (ids, ad, gk κ) (fun q u => sRdT κ x = 0 ∧ q = sMidA κ (tN x) ∧ u = (ids, ad, gk (κ))) (fun E u => xE (sRdT κ x) E ∧ u = (ids, ad, gk (κ))) := by
  intro D aC A
  refine gx_of (cc := cX6_middle) (maxL := 3) (ret := (some .int)) (by decide +kernel) rfl (Nat.le_of_ble_eq_true rfl) ?_
  intro p e s m below meth c ls S G hF hr hlk hex hl
  have hl : lv_has ls 3 [(0, _), (1, _)] := hl
  have i3 : ∀ w ∈ wsX20, w ∈ wsX6_middle := by decide +kernel
  refine lv_aload_n S.1 S.2.1 dX6_middle_0 rfl (lv_at hl 0 rfl) ?_
  refine lv_iload_n S.1 S.2.1 dX6_middle_1 rfl (lv_at hl 1 rfl) ?_
  refine gx_cVr S G hF hl 7 (hV 7 _ (by first | decide | (show _ < 1; omega))) (by decide) (c_X6_readingAt l hlf ids ad _ _ hV hW) (cwV 1 S.2.2.2.2 gX6_middle_X6_readingAt rfl rfl rfl (by decide +kernel) ⟨Nat.le_of_ble_eq_true rfl, Nat.le_of_ble_eq_true rfl⟩) rfl rfl (Nat.le_of_ble_eq_true rfl) dX6_middle_2 ⟨Nat.le_of_ble_eq_true rfl, Nat.le_of_ble_eq_true rfl⟩ (gx_pass hex hlk (fun E u h => ⟨by obtain ⟨h1, rfl, -⟩ := h; exact xE1 (by simp only [sRdT, if_pos h1]), h.2.2⟩) (Nat.le_of_ble_eq_true rfl) (Nat.le_of_ble_eq_true rfl)) (fun r_2 u_2 H locs hp_2 G => ?_)
  obtain ⟨c_2, rfl, rfl⟩ := hp_2
  have G : gS D aC A s ids ad (gk _) H locs := G
  obtain ⟨hn, hn80⟩ := hW.cnt
  obtain ⟨hx_2, hj_2⟩ := mIn_rd (n := tN (κ 7 0 4)) (by rw [← hn]; exact c_2) hn80
  have hR := hW.2.1 _ hj_2
  by_cases h9 : κ 3 (tN x) 9 < 0
  · refine g_getN S G 3 9 hR.2.1 (by decide) (by decide) i3 (gn_23 hF) (gvk_n rfl rfl h9) dX6_middle_5 ?_
    refine lv_astore_nN (lv' := [(2, _), (0, _), (1, _)]) S.1 S.2.1 dX6_middle_8 rfl hl (by decide) rfl (fun ls hl => ?_)
    refine lv_aload_nN S.1 S.2.1 dX6_middle_9 rfl (lv_at hl 0 rfl) ?_
    refine lv_ifnonnullN S.1 S.2.1 dX6_middle_10 ?_
    refine lv_iconst (v := (-1)) S.1 S.2.1 dX6_middle_13 (by decide) ?_
    refine lv_goto (tgt := 21) S.1 S.2.1 dX6_middle_14 (by decide) ?_
    refine vx_ret ?_
    exact g_iret S G hr hlk (⟨by simp only [sRdT, if_neg c_2, if_pos h9], by simp only [sMidA, if_neg c_2, if_pos h9], rfl⟩) (Nat.le_of_ble_eq_true rfl) (Nat.le_of_ble_eq_true rfl) dX6_middle_21
  · obtain ⟨h9r, h2, h16, hc, hct⟩ := hR.ch h9
    refine g_getN S G 3 9 hR.2.1 (by decide) (by decide) i3 (gn_23 hF) (gvk_r rfl rfl h9r (by omega)) dX6_middle_5 ?_
    refine lv_astore_n (lv' := [(2, _), (0, _), (1, _)]) S.1 S.2.1 dX6_middle_8 rfl hl (by decide) rfl (fun ls hl => ?_)
    refine lv_aload_n S.1 S.2.1 dX6_middle_9 rfl (lv_at hl 0 rfl) ?_
    refine lv_ifnonnull (tgt := 17) S.1 S.2.1 dX6_middle_10 (by decide) ?_
    refine lv_aload_n S.1 S.2.1 dX6_middle_17 rfl (lv_at hl 0 rfl) ?_
    refine g_cNi S G hF hl 2 h2 (by decide) (c_X1_findMiddle l ids ad _ _ (by omega) h2 h16 hct) ⟨va_cnB 0 S.2.2.2.2 gX6_middle_X1_findMiddle_n215 rfl rfl rfl (gm_12 hF) (S.2.2.2.2 (.initialized RX1) (by decide +kernel)) (by decide +kernel) ⟨Nat.le_of_ble_eq_true rfl, Nat.le_of_ble_eq_true rfl⟩, S.2.2.2.2 (.instanceMethod yX1_findMiddle) (by decide +kernel), S.2.2.2.2 (.selects RX1 yX1_findMiddle yX1_findMiddle) (by decide +kernel)⟩ rfl rfl (Nat.le_of_ble_eq_true rfl) dX6_middle_18 ⟨Nat.le_of_ble_eq_true rfl, Nat.le_of_ble_eq_true rfl⟩ (fun r_18 u_18 H locs hp_18 G => ?_)
    obtain ⟨rfl, rfl⟩ := hp_18
    have G : gS D aC A s ids ad (gk _) H locs := G
    refine vx_ret ?_
    exact g_iret S G hr hlk (⟨by simp only [sRdT, if_neg c_2, if_neg h9], by simp only [sMidA, if_neg c_2, if_neg h9], rfl⟩) (Nat.le_of_ble_eq_true rfl) (Nat.le_of_ble_eq_true rfl) dX6_middle_21
set_option maxHeartbeats 4000000 in
set_option maxRecDepth 100000 in
theorem c_X6_bond (l : Launch) (hlf : l.stackTraces = false) (ids : gIds) (ad : gAd) (κ : gMem) (x : Int32) (hV : cV ids)  : gXi l yX6_bond wsX6_bond ({ frames := 7, cells := 8, slots := 64, locals := 111 } : Room) 8 64 [.ref (ad 7 0), .int x] (ids, ad, gk κ) (fun q u => mOneT x 11 = 0 ∧ q = κ 5 (tN x) 3 ∧ u = (ids, ad, gk (κ))) (fun E u => xE (mOneT x 11) E ∧ u = (ids, ad, gk (κ))) := by
  intro D aC A
  refine gx_of (cc := cX6_bond) (maxL := 2) (ret := (some .int)) (by decide +kernel) rfl (Nat.le_of_ble_eq_true rfl) ?_
  intro p e s m below meth c ls S G hF hr hlk hex hl
  have hl : lv_has ls 2 [(0, _), (1, _)] := hl
  have i5 : ∀ w ∈ wsX40, w ∈ wsX6_bond := by decide +kernel
  refine lv_aload_n S.1 S.2.1 dX6_bond_0 rfl (lv_at hl 0 rfl) ?_
  refine lv_iload_n S.1 S.2.1 dX6_bond_1 rfl (lv_at hl 1 rfl) ?_
  refine gx_cVr S G hF hl 7 (hV 7 _ (by first | decide | (show _ < 1; omega))) (by decide) (c_X6_sensorAt l hlf ids ad _ _ hV) (cwV 1 S.2.2.2.2 gX6_bond_X6_sensorAt rfl rfl rfl (by decide +kernel) ⟨Nat.le_of_ble_eq_true rfl, Nat.le_of_ble_eq_true rfl⟩) rfl rfl (Nat.le_of_ble_eq_true rfl) dX6_bond_2 ⟨Nat.le_of_ble_eq_true rfl, Nat.le_of_ble_eq_true rfl⟩ (gx_pass hex hlk (fun E u h => ⟨by obtain ⟨h1, rfl, -⟩ := h; exact xE1 (by simp only [mOneT, if_pos h1]), h.2.2⟩) (Nat.le_of_ble_eq_true rfl) (Nat.le_of_ble_eq_true rfl)) (fun r_2 u_2 H locs hp_2 G => ?_)
  obtain ⟨c_2, rfl, rfl⟩ := hp_2
  have G : gS D aC A s ids ad (gk _) H locs := G
  obtain ⟨hx_2, hj_2⟩ := mIn_rng (m := 11) c_2 (by decide)
  refine g_getN S G 5 3 (hV 5 _ (by first | decide | (show _ < 12; omega))) (by decide) (by decide) i5 (gn_8 hF) (gvk_i rfl rfl) dX6_bond_5 ?_
  refine vx_ret ?_
  exact g_iret S G hr hlk (⟨by simp only [mOneT, if_neg c_2], rfl, rfl⟩) (Nat.le_of_ble_eq_true rfl) (Nat.le_of_ble_eq_true rfl) dX6_bond_8
set_option maxHeartbeats 4000000 in
set_option maxRecDepth 100000 in
theorem c_X6_earned (l : Launch) (hlf : l.stackTraces = false) (ids : gIds) (ad : gAd) (κ : gMem) (x : Int32) (hV : cV ids)  : gXi l yX6_earned wsX6_earned ({ frames := 7, cells := 8, slots := 64, locals := 111 } : Room) 8 64 [.ref (ad 7 0), .int x] (ids, ad, gk κ) (fun q u => mOneT x 11 = 0 ∧ q = κ 5 (tN x) 4 ∧ u = (ids, ad, gk (κ))) (fun E u => xE (mOneT x 11) E ∧ u = (ids, ad, gk (κ))) := by
  intro D aC A
  refine gx_of (cc := cX6_earned) (maxL := 2) (ret := (some .int)) (by decide +kernel) rfl (Nat.le_of_ble_eq_true rfl) ?_
  intro p e s m below meth c ls S G hF hr hlk hex hl
  have hl : lv_has ls 2 [(0, _), (1, _)] := hl
  have i5 : ∀ w ∈ wsX40, w ∈ wsX6_earned := by decide +kernel
  refine lv_aload_n S.1 S.2.1 dX6_earned_0 rfl (lv_at hl 0 rfl) ?_
  refine lv_iload_n S.1 S.2.1 dX6_earned_1 rfl (lv_at hl 1 rfl) ?_
  refine gx_cVr S G hF hl 7 (hV 7 _ (by first | decide | (show _ < 1; omega))) (by decide) (c_X6_sensorAt l hlf ids ad _ _ hV) (cwV 1 S.2.2.2.2 gX6_earned_X6_sensorAt rfl rfl rfl (by decide +kernel) ⟨Nat.le_of_ble_eq_true rfl, Nat.le_of_ble_eq_true rfl⟩) rfl rfl (Nat.le_of_ble_eq_true rfl) dX6_earned_2 ⟨Nat.le_of_ble_eq_true rfl, Nat.le_of_ble_eq_true rfl⟩ (gx_pass hex hlk (fun E u h => ⟨by obtain ⟨h1, rfl, -⟩ := h; exact xE1 (by simp only [mOneT, if_pos h1]), h.2.2⟩) (Nat.le_of_ble_eq_true rfl) (Nat.le_of_ble_eq_true rfl)) (fun r_2 u_2 H locs hp_2 G => ?_)
  obtain ⟨c_2, rfl, rfl⟩ := hp_2
  have G : gS D aC A s ids ad (gk _) H locs := G
  obtain ⟨hx_2, hj_2⟩ := mIn_rng (m := 11) c_2 (by decide)
  refine g_getN S G 5 4 (hV 5 _ (by first | decide | (show _ < 12; omega))) (by decide) (by decide) i5 (gn_9 hF) (gvk_i rfl rfl) dX6_earned_5 ?_
  refine vx_ret ?_
  exact g_iret S G hr hlk (⟨by simp only [mOneT, if_neg c_2], rfl, rfl⟩) (Nat.le_of_ble_eq_true rfl) (Nat.le_of_ble_eq_true rfl) dX6_earned_8
set_option maxHeartbeats 4000000 in
set_option maxRecDepth 100000 in
theorem c_X6_purse (l : Launch) (hlf : l.stackTraces = false) (ids : gIds) (ad : gAd) (κ : gMem) (x : Int32) (hV : cV ids)  : gXi l yX6_purse wsX6_purse ({ frames := 7, cells := 8, slots := 64, locals := 111 } : Room) 8 64 [.ref (ad 7 0), .int x] (ids, ad, gk κ) (fun q u => mOneT x 5 = 0 ∧ q = κ 1 (tN x) 0 ∧ u = (ids, ad, gk (κ))) (fun E u => xE (mOneT x 5) E ∧ u = (ids, ad, gk (κ))) := by
  intro D aC A
  refine gx_of (cc := cX6_purse) (maxL := 2) (ret := (some .int)) (by decide +kernel) rfl (Nat.le_of_ble_eq_true rfl) ?_
  intro p e s m below meth c ls S G hF hr hlk hex hl
  have hl : lv_has ls 2 [(0, _), (1, _)] := hl
  have i1 : ∀ w ∈ wsX00, w ∈ wsX6_purse := by decide +kernel
  refine lv_aload_n S.1 S.2.1 dX6_purse_0 rfl (lv_at hl 0 rfl) ?_
  refine lv_iload_n S.1 S.2.1 dX6_purse_1 rfl (lv_at hl 1 rfl) ?_
  refine gx_cVr S G hF hl 7 (hV 7 _ (by first | decide | (show _ < 1; omega))) (by decide) (c_X6_buyerAt l hlf ids ad _ _ hV) (cwV 1 S.2.2.2.2 gX6_purse_X6_buyerAt rfl rfl rfl (by decide +kernel) ⟨Nat.le_of_ble_eq_true rfl, Nat.le_of_ble_eq_true rfl⟩) rfl rfl (Nat.le_of_ble_eq_true rfl) dX6_purse_2 ⟨Nat.le_of_ble_eq_true rfl, Nat.le_of_ble_eq_true rfl⟩ (gx_pass hex hlk (fun E u h => ⟨by obtain ⟨h1, rfl, -⟩ := h; exact xE1 (by simp only [mOneT, if_pos h1]), h.2.2⟩) (Nat.le_of_ble_eq_true rfl) (Nat.le_of_ble_eq_true rfl)) (fun r_2 u_2 H locs hp_2 G => ?_)
  obtain ⟨c_2, rfl, rfl⟩ := hp_2
  have G : gS D aC A s ids ad (gk _) H locs := G
  obtain ⟨hx_2, hj_2⟩ := mIn_rng (m := 5) c_2 (by decide)
  refine g_getN S G 1 0 (hV 1 _ (by first | decide | (show _ < 6; omega))) (by decide) (by decide) i1 (gn_12 hF) (gvk_i rfl rfl) dX6_purse_5 ?_
  refine vx_ret ?_
  exact g_iret S G hr hlk (⟨by simp only [mOneT, if_neg c_2], rfl, rfl⟩) (Nat.le_of_ble_eq_true rfl) (Nat.le_of_ble_eq_true rfl) dX6_purse_8
set_option maxHeartbeats 4000000 in
set_option maxRecDepth 100000 in
theorem c_X6_aside (l : Launch) (hlf : l.stackTraces = false) (ids : gIds) (ad : gAd) (κ : gMem) (a b : Int32) (hV : cV ids) (hW : cWF ids κ)  : gXi l yX6_aside wsX6_aside ({ frames := 7, cells := 8, slots := 64, locals := 111 } : Room) 8 64 [.ref (ad 7 0), .int a, .int b] (ids, ad, gk κ) (fun q u => mAsideT a b = 0 ∧ q = sAside κ (tN a) (tN b) ∧ u = (ids, ad, gk (κ))) (fun E u => xE (mAsideT a b) E ∧ u = (ids, ad, gk (κ))) := by
  intro D aC A
  refine gx_of (cc := cX6_aside) (maxL := 6) (ret := (some .int)) (by decide +kernel) rfl (Nat.le_of_ble_eq_true rfl) ?_
  intro p e s m below meth c ls S G hF hr hlk hex hl
  have hl : lv_has ls 6 [(0, _), (1, _), (2, _)] := hl
  have i1 : ∀ w ∈ wsX00, w ∈ wsX6_aside := by decide +kernel
  have i5 : ∀ w ∈ wsX40, w ∈ wsX6_aside := by decide +kernel
  have i6 : ∀ w ∈ wsX50, w ∈ wsX6_aside := by decide +kernel
  refine lv_aload_n S.1 S.2.1 dX6_aside_0 rfl (lv_at hl 0 rfl) ?_
  refine lv_iload_n S.1 S.2.1 dX6_aside_1 rfl (lv_at hl 1 rfl) ?_
  refine gx_cVr S G hF hl 7 (hV 7 _ (by first | decide | (show _ < 1; omega))) (by decide) (c_X6_buyerAt l hlf ids ad _ _ hV) (cwV 1 S.2.2.2.2 gX6_aside_X6_buyerAt rfl rfl rfl (by decide +kernel) ⟨Nat.le_of_ble_eq_true rfl, Nat.le_of_ble_eq_true rfl⟩) rfl rfl (Nat.le_of_ble_eq_true rfl) dX6_aside_2 ⟨Nat.le_of_ble_eq_true rfl, Nat.le_of_ble_eq_true rfl⟩ (gx_pass hex hlk (fun E u h => ⟨by obtain ⟨h1, rfl, -⟩ := h; exact xE1 (by simp only [mAsideT, if_pos h1]), h.2.2⟩) (Nat.le_of_ble_eq_true rfl) (Nat.le_of_ble_eq_true rfl)) (fun r_2 u_2 H locs hp_2 G => ?_)
  obtain ⟨c_2, rfl, rfl⟩ := hp_2
  have G : gS D aC A s ids ad (gk _) H locs := G
  obtain ⟨hx_2, hj_2⟩ := mIn_rng (m := 5) c_2 (by decide)
  refine lv_astore_n (lv' := [(3, _), (0, _), (1, _), (2, _)]) S.1 S.2.1 dX6_aside_5 rfl hl (by decide) rfl (fun ls hl => ?_)
  refine lv_aload_n S.1 S.2.1 dX6_aside_6 rfl (lv_at hl 1 rfl) ?_
  refine lv_iload_n S.1 S.2.1 dX6_aside_7 rfl (lv_at hl 3 rfl) ?_
  refine gx_cVr S G hF hl 7 (hV 7 _ (by first | decide | (show _ < 1; omega))) (by decide) (c_X6_sensorAt l hlf ids ad _ _ hV) (cwV 1 S.2.2.2.2 gX6_aside_X6_sensorAt rfl rfl rfl (by decide +kernel) ⟨Nat.le_of_ble_eq_true rfl, Nat.le_of_ble_eq_true rfl⟩) rfl rfl (Nat.le_of_ble_eq_true rfl) dX6_aside_8 ⟨Nat.le_of_ble_eq_true rfl, Nat.le_of_ble_eq_true rfl⟩ (gx_pass hex hlk (fun E u h => ⟨by obtain ⟨h1, rfl, -⟩ := h; exact xE1 (by simp only [mAsideT, if_neg c_2, if_pos h1]), h.2.2⟩) (Nat.le_of_ble_eq_true rfl) (Nat.le_of_ble_eq_true rfl)) (fun r_8 u_8 H locs hp_8 G => ?_)
  obtain ⟨c_8, rfl, rfl⟩ := hp_8
  have G : gS D aC A s ids ad (gk _) H locs := G
  obtain ⟨hx_8, hj_8⟩ := mIn_rng (m := 11) c_8 (by decide)
  refine lv_astore (lv' := [(4, _), (3, _), (0, _), (1, _), (2, _)]) S.1 S.2.1 dX6_aside_11 hl (by decide) rfl (fun ls hl => ?_)
  by_cases hw : κ 14 (tN a) (tN b) < 0
  · refine lv_aload_n S.1 S.2.1 dX6_aside_13 rfl (lv_at hl 1 rfl) ?_
    refine g_getN S G 1 1 (hV 1 _ (by show _ < 6; omega)) (by decide) (by decide) i1 (gn_13 hF) (gvk_or (j := _) rfl rfl (by omega)) dX6_aside_14 ?_
    refine lv_aload S.1 S.2.1 dX6_aside_17 (lv_at hl 0 rfl) ?_
    refine g_getN S G 5 0 (hV 5 _ (by first | decide | (show _ < 12; omega))) (by decide) (by decide) i5 (gn_5 hF) (gvk_oi rfl rfl) dX6_aside_19 ?_
    refine g_aald S G 14 (hV 14 _ (by show _ < 6; omega)) rfl rfl rfl (show tN b < 12 by omega) (gqk_n rfl hw) dX6_aside_22 ?_
    refine lv_astoreN (lv' := [(5, _), (4, _), (3, _), (0, _), (1, _), (2, _)]) S.1 S.2.1 dX6_aside_23 hl (by decide) rfl (fun ls hl => ?_)
    refine lv_aloadN S.1 S.2.1 dX6_aside_25 (lv_at hl 0 rfl) ?_
    refine lv_ifnonnullN S.1 S.2.1 dX6_aside_27 ?_
    refine lv_iconst (v := 0) S.1 S.2.1 dX6_aside_30 (by decide) ?_
    refine lv_goto (tgt := 39) S.1 S.2.1 dX6_aside_31 (by decide) ?_
    refine vx_ret ?_
    exact g_iret S G hr hlk (⟨by simp only [mAsideT, if_neg c_2, if_neg c_8, if_pos hw], by simp only [sAside, if_neg c_2, if_neg c_8, if_pos hw], rfl⟩) (Nat.le_of_ble_eq_true rfl) (Nat.le_of_ble_eq_true rfl) dX6_aside_39
  · refine lv_aload_n S.1 S.2.1 dX6_aside_13 rfl (lv_at hl 1 rfl) ?_
    refine g_getN S G 1 1 (hV 1 _ (by show _ < 6; omega)) (by decide) (by decide) i1 (gn_13 hF) (gvk_or (j := _) rfl rfl (by omega)) dX6_aside_14 ?_
    refine lv_aload S.1 S.2.1 dX6_aside_17 (lv_at hl 0 rfl) ?_
    refine g_getN S G 5 0 (hV 5 _ (by first | decide | (show _ < 12; omega))) (by decide) (by decide) i5 (gn_5 hF) (gvk_oi rfl rfl) dX6_aside_19 ?_
    obtain ⟨hw1, hw6⟩ := hW.win (show tN a < 6 by omega) (show tN b < 12 by omega) hw
    refine g_aald S G 14 (hV 14 _ (by show _ < 6; omega)) rfl rfl rfl (show tN b < 12 by omega) (gqk_r rfl rfl hw1 (by omega)) dX6_aside_22 ?_
    refine lv_astore (lv' := [(5, _), (4, _), (3, _), (0, _), (1, _), (2, _)]) S.1 S.2.1 dX6_aside_23 hl (by decide) rfl (fun ls hl => ?_)
    refine lv_aload S.1 S.2.1 dX6_aside_25 (lv_at hl 0 rfl) ?_
    refine lv_ifnonnull (tgt := 34) S.1 S.2.1 dX6_aside_27 (by decide) ?_
    refine lv_aload S.1 S.2.1 dX6_aside_34 (lv_at hl 0 rfl) ?_
    refine g_getN S G 6 2 hw6 (by decide) (by decide) i6 (gn_26 hF) (gvk_i rfl rfl) dX6_aside_36 ?_
    refine vx_ret ?_
    exact g_iret S G hr hlk (⟨by simp only [mAsideT, if_neg c_2, if_neg c_8, if_neg hw], by simp only [sAside, if_neg c_2, if_neg c_8, if_neg hw], rfl⟩) (Nat.le_of_ble_eq_true rfl) (Nat.le_of_ble_eq_true rfl) dX6_aside_39
