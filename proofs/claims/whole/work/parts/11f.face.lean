set_option maxHeartbeats 4000000 in
set_option maxRecDepth 100000 in
theorem c_X6_tick (l : Launch) (ids : gIds) (ad : gAd) (κ : gMem) (hV : cV ids)  : gMi l yX6_tick wsX6_tick ({ frames := 0, cells := 0, slots := 0, locals := 0 } : Room) 0 0 [.ref (ad 7 0)] (ids, ad, gk κ) (fun q u => q = κ 7 0 6 ∧ u = (ids, ad, gk (κ))) := by
  intro D aC A
  refine g_of (cc := cX6_tick) (maxL := 1) (ret := (some .int)) (by decide +kernel) rfl (Nat.le_of_ble_eq_true rfl) ?_
  intro p e s m below meth c ls S G hF hr hlk hnm hl
  have hl : lv_has ls 1 [(0, _)] := hl
  have i7 : ∀ w ∈ wsX60, w ∈ wsX6_tick := by decide +kernel
  refine lv_aload_n S.1 S.2.1 dX6_tick_0 rfl (lv_at hl 0 rfl) ?_
  refine g_get S G 7 6 (hV 7 _ (by first | decide | (show _ < 1; omega))) (by decide) (by decide) i7 (S.2.2.2.2 (.fieldLink RX6 40 "SensorBond" "tick" "I") (by decide +kernel)) (gvk_i rfl rfl) dX6_tick_1 ?_
  exact g_iret S G hr hlk (⟨rfl, rfl⟩) (Nat.le_of_ble_eq_true rfl) (Nat.le_of_ble_eq_true rfl) dX6_tick_4
set_option maxHeartbeats 4000000 in
set_option maxRecDepth 100000 in
theorem c_X6_readings (l : Launch) (ids : gIds) (ad : gAd) (κ : gMem) (hV : cV ids)  : gMi l yX6_readings wsX6_readings ({ frames := 0, cells := 0, slots := 0, locals := 0 } : Room) 0 0 [.ref (ad 7 0)] (ids, ad, gk κ) (fun q u => q = κ 7 0 4 ∧ u = (ids, ad, gk (κ))) := by
  intro D aC A
  refine g_of (cc := cX6_readings) (maxL := 1) (ret := (some .int)) (by decide +kernel) rfl (Nat.le_of_ble_eq_true rfl) ?_
  intro p e s m below meth c ls S G hF hr hlk hnm hl
  have hl : lv_has ls 1 [(0, _)] := hl
  have i7 : ∀ w ∈ wsX60, w ∈ wsX6_readings := by decide +kernel
  refine lv_aload_n S.1 S.2.1 dX6_readings_0 rfl (lv_at hl 0 rfl) ?_
  refine g_get S G 7 4 (hV 7 _ (by first | decide | (show _ < 1; omega))) (by decide) (by decide) i7 (S.2.2.2.2 (.fieldLink RX6 33 "SensorBond" "readingCount" "I") (by decide +kernel)) (gvk_i rfl rfl) dX6_readings_1 ?_
  exact g_iret S G hr hlk (⟨rfl, rfl⟩) (Nat.le_of_ble_eq_true rfl) (Nat.le_of_ble_eq_true rfl) dX6_readings_4
set_option maxHeartbeats 4000000 in
set_option maxRecDepth 100000 in
theorem c_X6_house (l : Launch) (ids : gIds) (ad : gAd) (κ : gMem) (hV : cV ids)  : gMi l yX6_house wsX6_house ({ frames := 0, cells := 0, slots := 0, locals := 0 } : Room) 0 0 [.ref (ad 7 0)] (ids, ad, gk κ) (fun q u => q = κ 7 0 5 ∧ u = (ids, ad, gk (κ))) := by
  intro D aC A
  refine g_of (cc := cX6_house) (maxL := 1) (ret := (some .int)) (by decide +kernel) rfl (Nat.le_of_ble_eq_true rfl) ?_
  intro p e s m below meth c ls S G hF hr hlk hnm hl
  have hl : lv_has ls 1 [(0, _)] := hl
  have i7 : ∀ w ∈ wsX60, w ∈ wsX6_house := by decide +kernel
  refine lv_aload_n S.1 S.2.1 dX6_house_0 rfl (lv_at hl 0 rfl) ?_
  refine g_get S G 7 5 (hV 7 _ (by first | decide | (show _ < 1; omega))) (by decide) (by decide) i7 (S.2.2.2.2 (.fieldLink RX6 37 "SensorBond" "house" "I") (by decide +kernel)) (gvk_i rfl rfl) dX6_house_1 ?_
  exact g_iret S G hr hlk (⟨rfl, rfl⟩) (Nat.le_of_ble_eq_true rfl) (Nat.le_of_ble_eq_true rfl) dX6_house_4
set_option maxHeartbeats 4000000 in
set_option maxRecDepth 100000 in
theorem c_X6_hang (l : Launch) (hlf : l.stackTraces = false) (ids : gIds) (ad : gAd) (κ : gMem) (a b : Int32) (hV : cV ids) (hW : cWF ids κ)  : gXi l yX6_hang wsX6_hang ({ frames := 7, cells := 8, slots := 64, locals := 111 } : Room) 8 64 [.ref (ad 7 0), .int a, .int b] (ids, ad, gk κ) (fun q u => sHangT a b = 0 ∧ q = nI (tN (κ 4 (tN a) 1)) ∧ u = (ids, ad, gk (upd3 κ 4 (tN a) 1 (nI (tN b))))) (fun E u => xE (sHangT a b) E ∧ u = (ids, ad, gk (κ))) := by
  intro D aC A
  refine gx_of (cc := cX6_hang) (maxL := 6) (ret := (some .int)) (by decide +kernel) rfl (Nat.le_of_ble_eq_true rfl) ?_
  intro p e s m below meth c ls S G hF hr hlk hex hl
  have hl : lv_has ls 6 [(0, _), (1, _), (2, _)] := hl
  have i4 : ∀ w ∈ wsX30, w ∈ wsX6_hang := by decide +kernel
  refine lv_aload_n S.1 S.2.1 dX6_hang_0 rfl (lv_at hl 0 rfl) ?_
  refine lv_iload_n S.1 S.2.1 dX6_hang_1 rfl (lv_at hl 1 rfl) ?_
  refine gx_cVr S G hF hl 7 (hV 7 _ (by first | decide | (show _ < 1; omega))) (by decide) (c_X6_repeaterAt l hlf ids ad _ _ hV) (cwV 1 S.2.2.2.2 gX6_hang_X6_repeaterAt rfl rfl rfl (by decide +kernel) ⟨Nat.le_of_ble_eq_true rfl, Nat.le_of_ble_eq_true rfl⟩) rfl rfl (Nat.le_of_ble_eq_true rfl) dX6_hang_2 ⟨Nat.le_of_ble_eq_true rfl, Nat.le_of_ble_eq_true rfl⟩ (gx_pass hex hlk (fun E u h => ⟨by obtain ⟨h1, rfl, -⟩ := h; exact xE1 (by simp only [sHangT, if_pos h1]), h.2.2⟩) (Nat.le_of_ble_eq_true rfl) (Nat.le_of_ble_eq_true rfl)) (fun r_2 u_2 H locs hp_2 G => ?_)
  obtain ⟨c_2, rfl, rfl⟩ := hp_2
  have G : gS D aC A s ids ad (gk _) H locs := G
  obtain ⟨hx_2, hj_2⟩ := mIn_rng (m := 5) c_2 (by decide)
  refine lv_astore_n (lv' := [(3, _), (0, _), (1, _), (2, _)]) S.1 S.2.1 dX6_hang_5 rfl hl (by decide) rfl (fun ls hl => ?_)
  refine lv_aload_n S.1 S.2.1 dX6_hang_6 rfl (lv_at hl 1 rfl) ?_
  refine lv_iload_n S.1 S.2.1 dX6_hang_7 rfl (lv_at hl 3 rfl) ?_
  refine gx_cVr S G hF hl 7 (hV 7 _ (by first | decide | (show _ < 1; omega))) (by decide) (c_X6_repeaterAt l hlf ids ad _ _ hV) (cwV 1 S.2.2.2.2 gX6_hang_X6_repeaterAt rfl rfl rfl (by decide +kernel) ⟨Nat.le_of_ble_eq_true rfl, Nat.le_of_ble_eq_true rfl⟩) rfl rfl (Nat.le_of_ble_eq_true rfl) dX6_hang_8 ⟨Nat.le_of_ble_eq_true rfl, Nat.le_of_ble_eq_true rfl⟩ (gx_pass hex hlk (fun E u h => ⟨by obtain ⟨h1, rfl, -⟩ := h; exact xE1 (by simp only [sHangT, if_neg c_2, if_pos h1]), h.2.2⟩) (Nat.le_of_ble_eq_true rfl) (Nat.le_of_ble_eq_true rfl)) (fun r_8 u_8 H locs hp_8 G => ?_)
  obtain ⟨c_8, rfl, rfl⟩ := hp_8
  have G : gS D aC A s ids ad (gk _) H locs := G
  obtain ⟨hx_8, hj_8⟩ := mIn_rng (m := 5) c_8 (by decide)
  refine lv_astore (lv' := [(4, _), (3, _), (0, _), (1, _), (2, _)]) S.1 S.2.1 dX6_hang_11 hl (by decide) rfl (fun ls hl => ?_)
  by_cases h0 : tN a = 0
  · refine lv_aload_n S.1 S.2.1 dX6_hang_13 rfl (lv_at hl 1 rfl) ?_
    refine g_getN S G 4 1 (hV 4 _ (by show _ < 6; omega)) (by decide) (by decide) i4 (gn_1 hF) (gvk_n rfl rfl (by rw [h0]; exact hW.hub)) dX6_hang_14 ?_
    refine lv_astoreN (lv' := [(5, _), (4, _), (3, _), (0, _), (1, _), (2, _)]) S.1 S.2.1 dX6_hang_17 hl (by decide) rfl (fun ls hl => ?_)
    refine lv_aloadN S.1 S.2.1 dX6_hang_19 (lv_at hl 0 rfl) ?_
    refine lv_ifnullN (tgt := 29) S.1 S.2.1 dX6_hang_21 (by decide) ?_
    exact g_throw (cls := "java/lang/IndexOutOfBoundsException") (text := "a repeater hangs on a lower one, and the hub on none") S G hF hlf hlk hex hl.1 rfl (by decide +kernel) (by decide +kernel) (by decide +kernel) (by decide +kernel) (by decide +kernel) (by decide +kernel) (by decide +kernel) (by decide +kernel) dX6_hang_29 dX6_hang_32 (Or.inl ⟨dX6_hang_33, dX6_hang_35, dX6_hang_38⟩) (Nat.le_of_ble_eq_true rfl) (Nat.le_of_ble_eq_true rfl) (Nat.le_of_ble_eq_true rfl) (Nat.le_of_ble_eq_true rfl) (⟨xE1 (by simp only [sHangT, if_neg c_2, if_neg c_8, if_pos h0]), rfl⟩) (Nat.le_of_ble_eq_true rfl) (Nat.le_of_ble_eq_true rfl)
  · refine lv_aload_n S.1 S.2.1 dX6_hang_13 rfl (lv_at hl 1 rfl) ?_
    have ho := hW.on (show tN a < 6 by omega) h0
    refine g_getN S G 4 1 (hV 4 _ (by show _ < 6; omega)) (by decide) (by decide) i4 (gn_1 hF) (gvk_r rfl rfl ho.1 (by have := ho.2; omega)) dX6_hang_14 ?_
    refine lv_astore (lv' := [(5, _), (4, _), (3, _), (0, _), (1, _), (2, _)]) S.1 S.2.1 dX6_hang_17 hl (by decide) rfl (fun ls hl => ?_)
    refine lv_aload S.1 S.2.1 dX6_hang_19 (lv_at hl 0 rfl) ?_
    refine lv_ifnull S.1 S.2.1 dX6_hang_21 ?_
    refine lv_iload_n S.1 S.2.1 dX6_hang_24 rfl (lv_at hl 5 rfl) ?_
    refine lv_iload_n S.1 S.2.1 dX6_hang_25 rfl (lv_at hl 4 rfl) ?_
    refine lv_icmp_lt (tgt := 39) S.1 S.2.1 dX6_hang_26 (by decide) (fun c_26 => ?_) (fun c_26 => ?_)
    · refine lv_aload_n S.1 S.2.1 dX6_hang_39 rfl (lv_at hl 2 rfl) ?_
      refine lv_aload S.1 S.2.1 dX6_hang_40 (lv_at hl 1 rfl) ?_
      refine g_putN (ty := (.object "SensorBond$Repeater")) S G 4 1 (hV 4 _ (by show _ < 6; omega)) (by decide) (by decide) i4 (gn_1 hF) rfl (by decide +kernel) rfl rfl (gw_r rfl (by omega)) dX6_hang_42 (fun H locs G => ?_)
      have G := gk_S rfl G
      refine lv_aload S.1 S.2.1 dX6_hang_45 (lv_at hl 0 rfl) ?_
      refine g_getN S G 4 0 (hV 4 _ (by have := ho.2; show _ < 6; omega)) (by decide) (by decide) i4 (gn_0 hF) (gvk_oi rfl rfl) dX6_hang_47 ?_
      refine vx_ret ?_
      exact g_iret S G hr hlk (⟨by simp only [sHangT, if_neg c_2, if_neg c_8, if_neg h0, if_pos c_26], rfl, rfl⟩) (Nat.le_of_ble_eq_true rfl) (Nat.le_of_ble_eq_true rfl) dX6_hang_50
    · exact g_throw (cls := "java/lang/IndexOutOfBoundsException") (text := "a repeater hangs on a lower one, and the hub on none") S G hF hlf hlk hex hl.1 rfl (by decide +kernel) (by decide +kernel) (by decide +kernel) (by decide +kernel) (by decide +kernel) (by decide +kernel) (by decide +kernel) (by decide +kernel) dX6_hang_29 dX6_hang_32 (Or.inl ⟨dX6_hang_33, dX6_hang_35, dX6_hang_38⟩) (Nat.le_of_ble_eq_true rfl) (Nat.le_of_ble_eq_true rfl) (Nat.le_of_ble_eq_true rfl) (Nat.le_of_ble_eq_true rfl) (⟨xE1 (by simp only [sHangT, if_neg c_2, if_neg c_8, if_neg h0, if_neg c_26]), rfl⟩) (Nat.le_of_ble_eq_true rfl) (Nat.le_of_ble_eq_true rfl)
set_option maxHeartbeats 4000000 in
set_option maxRecDepth 100000 in
theorem c_X6_attach (l : Launch) (hlf : l.stackTraces = false) (ids : gIds) (ad : gAd) (κ : gMem) (a b : Int32) (hV : cV ids) (hW : cWF ids κ)  : gXi l yX6_attach wsX6_attach ({ frames := 7, cells := 8, slots := 64, locals := 111 } : Room) 8 64 [.ref (ad 7 0), .int a, .int b] (ids, ad, gk κ) (fun q u => mAttachT a b = 0 ∧ q = nI (tN (κ 5 (tN a) 1)) ∧ u = (ids, ad, gk (upd3 κ 5 (tN a) 1 (nI (tN b))))) (fun E u => xE (mAttachT a b) E ∧ u = (ids, ad, gk (κ))) := by
  intro D aC A
  refine gx_of (cc := cX6_attach) (maxL := 6) (ret := (some .int)) (by decide +kernel) rfl (Nat.le_of_ble_eq_true rfl) ?_
  intro p e s m below meth c ls S G hF hr hlk hex hl
  have hl : lv_has ls 6 [(0, _), (1, _), (2, _)] := hl
  have i4 : ∀ w ∈ wsX30, w ∈ wsX6_attach := by decide +kernel
  have i5 : ∀ w ∈ wsX40, w ∈ wsX6_attach := by decide +kernel
  refine lv_aload_n S.1 S.2.1 dX6_attach_0 rfl (lv_at hl 0 rfl) ?_
  refine lv_iload_n S.1 S.2.1 dX6_attach_1 rfl (lv_at hl 1 rfl) ?_
  refine gx_cVr S G hF hl 7 (hV 7 _ (by first | decide | (show _ < 1; omega))) (by decide) (c_X6_sensorAt l hlf ids ad _ _ hV) (cwV 1 S.2.2.2.2 gX6_attach_X6_sensorAt rfl rfl rfl (by decide +kernel) ⟨Nat.le_of_ble_eq_true rfl, Nat.le_of_ble_eq_true rfl⟩) rfl rfl (Nat.le_of_ble_eq_true rfl) dX6_attach_2 ⟨Nat.le_of_ble_eq_true rfl, Nat.le_of_ble_eq_true rfl⟩ (gx_pass hex hlk (fun E u h => ⟨by obtain ⟨h1, rfl, -⟩ := h; exact xE1 (by simp only [mAttachT, if_pos h1]), h.2.2⟩) (Nat.le_of_ble_eq_true rfl) (Nat.le_of_ble_eq_true rfl)) (fun r_2 u_2 H locs hp_2 G => ?_)
  obtain ⟨c_2, rfl, rfl⟩ := hp_2
  have G : gS D aC A s ids ad (gk _) H locs := G
  obtain ⟨hx_2, hj_2⟩ := mIn_rng (m := 11) c_2 (by decide)
  refine lv_astore_n (lv' := [(3, _), (0, _), (1, _), (2, _)]) S.1 S.2.1 dX6_attach_5 rfl hl (by decide) rfl (fun ls hl => ?_)
  refine lv_aload_n S.1 S.2.1 dX6_attach_6 rfl (lv_at hl 1 rfl) ?_
  refine lv_iload_n S.1 S.2.1 dX6_attach_7 rfl (lv_at hl 3 rfl) ?_
  refine gx_cVr S G hF hl 7 (hV 7 _ (by first | decide | (show _ < 1; omega))) (by decide) (c_X6_repeaterAt l hlf ids ad _ _ hV) (cwV 1 S.2.2.2.2 gX6_attach_X6_repeaterAt rfl rfl rfl (by decide +kernel) ⟨Nat.le_of_ble_eq_true rfl, Nat.le_of_ble_eq_true rfl⟩) rfl rfl (Nat.le_of_ble_eq_true rfl) dX6_attach_8 ⟨Nat.le_of_ble_eq_true rfl, Nat.le_of_ble_eq_true rfl⟩ (gx_pass hex hlk (fun E u h => ⟨by obtain ⟨h1, rfl, -⟩ := h; exact xE1 (by simp only [mAttachT, if_neg c_2, if_pos h1]), h.2.2⟩) (Nat.le_of_ble_eq_true rfl) (Nat.le_of_ble_eq_true rfl)) (fun r_8 u_8 H locs hp_8 G => ?_)
  obtain ⟨c_8, rfl, rfl⟩ := hp_8
  have G : gS D aC A s ids ad (gk _) H locs := G
  obtain ⟨hx_8, hj_8⟩ := mIn_rng (m := 5) c_8 (by decide)
  refine lv_astore (lv' := [(4, _), (3, _), (0, _), (1, _), (2, _)]) S.1 S.2.1 dX6_attach_11 hl (by decide) rfl (fun ls hl => ?_)
  refine lv_aload_n S.1 S.2.1 dX6_attach_13 rfl (lv_at hl 1 rfl) ?_
  have ho := hW.rp (show tN a < 12 by omega)
  refine g_getN S G 5 1 (hV 5 _ (by first | decide | (show _ < 12; omega))) (by decide) (by decide) i5 (gn_6 hF) (gvk_r rfl rfl ho.1 (by have := ho.2; omega)) dX6_attach_14 ?_
  refine g_getN S G 4 0 (hV 4 _ (by have := ho.2; show _ < 6; omega)) (by decide) (by decide) i4 (gn_0 hF) (gvk_oi rfl rfl) dX6_attach_17 ?_
  refine lv_istore (lv' := [(5, _), (4, _), (3, _), (0, _), (1, _), (2, _)]) S.1 S.2.1 dX6_attach_20 hl (by decide) rfl (fun ls hl => ?_)
  refine lv_aload_n S.1 S.2.1 dX6_attach_22 rfl (lv_at hl 2 rfl) ?_
  refine lv_aload S.1 S.2.1 dX6_attach_23 (lv_at hl 1 rfl) ?_
  refine g_putN (ty := (.object "SensorBond$Repeater")) S G 5 1 (hV 5 _ (by first | decide | (show _ < 12; omega))) (by decide) (by decide) i5 (gn_6 hF) rfl (by decide +kernel) rfl rfl (gw_r rfl (by omega)) dX6_attach_25 (fun H locs G => ?_)
  have G := gk_S rfl G
  refine lv_iload S.1 S.2.1 dX6_attach_28 (lv_at hl 0 rfl) ?_
  refine vx_ret ?_
  exact g_iret S G hr hlk (⟨by simp only [mAttachT, if_neg c_2, if_neg c_8], rfl, rfl⟩) (Nat.le_of_ble_eq_true rfl) (Nat.le_of_ble_eq_true rfl) dX6_attach_30
set_option maxHeartbeats 4000000 in
set_option maxRecDepth 100000 in
theorem c_X6_setLoss (l : Launch) (hlf : l.stackTraces = false) (ids : gIds) (ad : gAd) (κ : gMem) (a n : Int32) (hV : cV ids)  : gXi l yX6_setLoss wsX6_setLoss ({ frames := 7, cells := 8, slots := 64, locals := 112 } : Room) 8 64 [.ref (ad 7 0), .int a, .int n] (ids, ad, gk κ) (fun q u => mSetLossT a n = 0 ∧ q = sLost κ (tN a) ∧ u = (ids, ad, gk (sSetLossK κ (tN a) n))) (fun E u => xE (mSetLossT a n) E ∧ u = (ids, ad, gk (κ))) := by
  intro D aC A
  refine gx_of (cc := cX6_setLoss) (maxL := 5) (ret := (some .int)) (by decide +kernel) rfl (Nat.le_of_ble_eq_true rfl) ?_
  intro p e s m below meth c ls S G hF hr hlk hex hl
  have hl : lv_has ls 5 [(0, _), (1, _), (2, _)] := hl
  have i4 : ∀ w ∈ wsX30, w ∈ wsX6_setLoss := by decide +kernel
  refine lv_aload_n S.1 S.2.1 dX6_setLoss_0 rfl (lv_at hl 0 rfl) ?_
  refine lv_iload_n S.1 S.2.1 dX6_setLoss_1 rfl (lv_at hl 1 rfl) ?_
  refine gx_cVr S G hF hl 7 (hV 7 _ (by first | decide | (show _ < 1; omega))) (by decide) (c_X6_repeaterAt l hlf ids ad _ _ hV) (cwV 1 S.2.2.2.2 gX6_setLoss_X6_repeaterAt rfl rfl rfl (by decide +kernel) ⟨Nat.le_of_ble_eq_true rfl, Nat.le_of_ble_eq_true rfl⟩) rfl rfl (Nat.le_of_ble_eq_true rfl) dX6_setLoss_2 ⟨Nat.le_of_ble_eq_true rfl, Nat.le_of_ble_eq_true rfl⟩ (gx_pass hex hlk (fun E u h => ⟨by obtain ⟨h1, rfl, -⟩ := h; exact xE1 (by simp only [mSetLossT, if_pos h1]), h.2.2⟩) (Nat.le_of_ble_eq_true rfl) (Nat.le_of_ble_eq_true rfl)) (fun r_2 u_2 H locs hp_2 G => ?_)
  obtain ⟨c_2, rfl, rfl⟩ := hp_2
  have G : gS D aC A s ids ad (gk _) H locs := G
  obtain ⟨hx_2, hj_2⟩ := mIn_rng (m := 5) c_2 (by decide)
  refine lv_astore_n (lv' := [(3, _), (0, _), (1, _), (2, _)]) S.1 S.2.1 dX6_setLoss_5 rfl hl (by decide) rfl (fun ls hl => ?_)
  refine lv_iload_n S.1 S.2.1 dX6_setLoss_6 rfl (lv_at hl 3 rfl) ?_
  refine lv_if_eq (tgt := 17) S.1 S.2.1 dX6_setLoss_7 (by decide) (fun c_7 => ?_) (fun c_7 => ?_)
  · refine lv_aload_n S.1 S.2.1 dX6_setLoss_17 rfl (lv_at hl 0 rfl) ?_
    refine g_cNi S G hF hl 4 (hV 4 _ (by first | decide | (show _ < 6; omega))) (by decide) (c_X3_countLost l ids ad _ _ (hV 4 _ (by show _ < 6; omega))) ⟨va_cnB 0 S.2.2.2.2 gX6_setLoss_X3_countLost_n80 rfl rfl rfl (gm_3 hF) (S.2.2.2.2 (.initialized RX3) (by decide +kernel)) (by decide +kernel) ⟨Nat.le_of_ble_eq_true rfl, Nat.le_of_ble_eq_true rfl⟩, S.2.2.2.2 (.instanceMethod yX3_countLost) (by decide +kernel), S.2.2.2.2 (.selects RX3 yX3_countLost yX3_countLost) (by decide +kernel)⟩ rfl rfl (Nat.le_of_ble_eq_true rfl) dX6_setLoss_18 ⟨Nat.le_of_ble_eq_true rfl, Nat.le_of_ble_eq_true rfl⟩ (fun r_18 u_18 H locs hp_18 G => ?_)
    obtain ⟨rfl, rfl⟩ := hp_18
    have G : gS D aC A s ids ad (gk _) H locs := G
    refine lv_istore (lv' := [(4, _), (3, _), (0, _), (1, _), (2, _)]) S.1 S.2.1 dX6_setLoss_21 hl (by decide) rfl (fun ls hl => ?_)
    refine lv_aload_n S.1 S.2.1 dX6_setLoss_23 rfl (lv_at hl 1 rfl) ?_
    refine lv_iload_n S.1 S.2.1 dX6_setLoss_24 rfl (lv_at hl 4 rfl) ?_
    refine g_putN (ty := .int) S G 4 2 (hV 4 _ (by first | decide | (show _ < 6; omega))) (by decide) (by decide) i4 (gn_2 hF) rfl (by decide +kernel) rfl rfl (gw_i rfl) dX6_setLoss_25 (fun H locs G => ?_)
    have G := gk_S rfl G
    refine lv_aload_n S.1 S.2.1 dX6_setLoss_28 rfl (lv_at hl 1 rfl) ?_
    refine lv_iconst (v := 0) S.1 S.2.1 dX6_setLoss_29 (by decide) ?_
    refine g_putN (ty := .int) S G 4 3 (hV 4 _ (by first | decide | (show _ < 6; omega))) (by decide) (by decide) i4 (gn_3 hF) rfl (by decide +kernel) rfl rfl (gw_i rfl) dX6_setLoss_30 (fun H locs G => ?_)
    have G := gk_S rfl G
    refine lv_iload S.1 S.2.1 dX6_setLoss_33 (lv_at hl 0 rfl) ?_
    refine vx_ret ?_
    exact g_iret S G hr hlk (⟨by simp only [mSetLossT, if_neg c_2, if_pos c_7], rfl, rfl⟩) (Nat.le_of_ble_eq_true rfl) (Nat.le_of_ble_eq_true rfl) dX6_setLoss_35
  · refine lv_iload_n S.1 S.2.1 dX6_setLoss_10 rfl (lv_at hl 3 rfl) ?_
    refine lv_iconst (v := 2) S.1 S.2.1 dX6_setLoss_11 (by decide) ?_
    refine lv_bipush (v := 9) S.1 S.2.1 dX6_setLoss_12 (by decide) ?_
    refine gx_cSv S G hF hl (c_X6_checkWithin l hlf ids ad _ _ _ _) (va_cwS 3 S.2.2.2.2 gX6_setLoss_X6_checkWithin rfl rfl rfl (by decide +kernel) ⟨Nat.le_of_ble_eq_true rfl, Nat.le_of_ble_eq_true rfl⟩) rfl rfl (Nat.le_of_ble_eq_true rfl) dX6_setLoss_14 ⟨Nat.le_of_ble_eq_true rfl, Nat.le_of_ble_eq_true rfl⟩ (gx_pass hex hlk (fun E u h => ⟨by obtain ⟨h1, rfl, -⟩ := h; exact xE2 (by simp only [mSetLossT, if_neg c_2, if_neg c_7, if_pos h1]), h.2.2⟩) (Nat.le_of_ble_eq_true rfl) (Nat.le_of_ble_eq_true rfl)) (fun u_14 H locs hp_14 G => ?_)
    obtain ⟨c_14, rfl⟩ := hp_14
    have G : gS D aC A s ids ad (gk _) H locs := G
    refine lv_aload_n S.1 S.2.1 dX6_setLoss_17 rfl (lv_at hl 0 rfl) ?_
    refine g_cNi S G hF hl 4 (hV 4 _ (by first | decide | (show _ < 6; omega))) (by decide) (c_X3_countLost l ids ad _ _ (hV 4 _ (by show _ < 6; omega))) ⟨va_cnB 0 S.2.2.2.2 gX6_setLoss_X3_countLost_n80 rfl rfl rfl (gm_3 hF) (S.2.2.2.2 (.initialized RX3) (by decide +kernel)) (by decide +kernel) ⟨Nat.le_of_ble_eq_true rfl, Nat.le_of_ble_eq_true rfl⟩, S.2.2.2.2 (.instanceMethod yX3_countLost) (by decide +kernel), S.2.2.2.2 (.selects RX3 yX3_countLost yX3_countLost) (by decide +kernel)⟩ rfl rfl (Nat.le_of_ble_eq_true rfl) dX6_setLoss_18 ⟨Nat.le_of_ble_eq_true rfl, Nat.le_of_ble_eq_true rfl⟩ (fun r_18 u_18 H locs hp_18 G => ?_)
    obtain ⟨rfl, rfl⟩ := hp_18
    have G : gS D aC A s ids ad (gk _) H locs := G
    refine lv_istore (lv' := [(4, _), (3, _), (0, _), (1, _), (2, _)]) S.1 S.2.1 dX6_setLoss_21 hl (by decide) rfl (fun ls hl => ?_)
    refine lv_aload_n S.1 S.2.1 dX6_setLoss_23 rfl (lv_at hl 1 rfl) ?_
    refine lv_iload_n S.1 S.2.1 dX6_setLoss_24 rfl (lv_at hl 4 rfl) ?_
    refine g_putN (ty := .int) S G 4 2 (hV 4 _ (by first | decide | (show _ < 6; omega))) (by decide) (by decide) i4 (gn_2 hF) rfl (by decide +kernel) rfl rfl (gw_i rfl) dX6_setLoss_25 (fun H locs G => ?_)
    have G := gk_S rfl G
    refine lv_aload_n S.1 S.2.1 dX6_setLoss_28 rfl (lv_at hl 1 rfl) ?_
    refine lv_iconst (v := 0) S.1 S.2.1 dX6_setLoss_29 (by decide) ?_
    refine g_putN (ty := .int) S G 4 3 (hV 4 _ (by first | decide | (show _ < 6; omega))) (by decide) (by decide) i4 (gn_3 hF) rfl (by decide +kernel) rfl rfl (gw_i rfl) dX6_setLoss_30 (fun H locs G => ?_)
    have G := gk_S rfl G
    refine lv_iload S.1 S.2.1 dX6_setLoss_33 (lv_at hl 0 rfl) ?_
    refine vx_ret ?_
    exact g_iret S G hr hlk (⟨by simp only [mSetLossT, if_neg c_2, if_neg c_7, if_neg c_14], rfl, rfl⟩) (Nat.le_of_ble_eq_true rfl) (Nat.le_of_ble_eq_true rfl) dX6_setLoss_35
set_option maxHeartbeats 4000000 in
set_option maxRecDepth 100000 in
theorem c_X6_setPrice (l : Launch) (hlf : l.stackTraces = false) (ids : gIds) (ad : gAd) (κ : gMem) (a n : Int32) (hV : cV ids)  : gXi l yX6_setPrice wsX6_setPrice ({ frames := 7, cells := 8, slots := 64, locals := 112 } : Room) 8 64 [.ref (ad 7 0), .int a, .int n] (ids, ad, gk κ) (fun q u => mSetPriceT a n = 0 ∧ q = κ 5 (tN a) 2 ∧ u = (ids, ad, gk (upd3 κ 5 (tN a) 2 n))) (fun E u => xE (mSetPriceT a n) E ∧ u = (ids, ad, gk (κ))) := by
  intro D aC A
  refine gx_of (cc := cX6_setPrice) (maxL := 5) (ret := (some .int)) (by decide +kernel) rfl (Nat.le_of_ble_eq_true rfl) ?_
  intro p e s m below meth c ls S G hF hr hlk hex hl
  have hl : lv_has ls 5 [(0, _), (1, _), (2, _)] := hl
  have i5 : ∀ w ∈ wsX40, w ∈ wsX6_setPrice := by decide +kernel
  refine lv_aload_n S.1 S.2.1 dX6_setPrice_0 rfl (lv_at hl 0 rfl) ?_
  refine lv_iload_n S.1 S.2.1 dX6_setPrice_1 rfl (lv_at hl 1 rfl) ?_
  refine gx_cVr S G hF hl 7 (hV 7 _ (by first | decide | (show _ < 1; omega))) (by decide) (c_X6_sensorAt l hlf ids ad _ _ hV) (cwV 1 S.2.2.2.2 gX6_setPrice_X6_sensorAt rfl rfl rfl (by decide +kernel) ⟨Nat.le_of_ble_eq_true rfl, Nat.le_of_ble_eq_true rfl⟩) rfl rfl (Nat.le_of_ble_eq_true rfl) dX6_setPrice_2 ⟨Nat.le_of_ble_eq_true rfl, Nat.le_of_ble_eq_true rfl⟩ (gx_pass hex hlk (fun E u h => ⟨by obtain ⟨h1, rfl, -⟩ := h; exact xE1 (by simp only [mSetPriceT, if_pos h1]), h.2.2⟩) (Nat.le_of_ble_eq_true rfl) (Nat.le_of_ble_eq_true rfl)) (fun r_2 u_2 H locs hp_2 G => ?_)
  obtain ⟨c_2, rfl, rfl⟩ := hp_2
  have G : gS D aC A s ids ad (gk _) H locs := G
  obtain ⟨hx_2, hj_2⟩ := mIn_rng (m := 11) c_2 (by decide)
  refine lv_astore_n (lv' := [(3, _), (0, _), (1, _), (2, _)]) S.1 S.2.1 dX6_setPrice_5 rfl hl (by decide) rfl (fun ls hl => ?_)
  refine lv_iload_n S.1 S.2.1 dX6_setPrice_6 rfl (lv_at hl 3 rfl) ?_
  refine lv_iconst (v := 1) S.1 S.2.1 dX6_setPrice_7 (by decide) ?_
  refine lv_bipush (v := 20) S.1 S.2.1 dX6_setPrice_8 (by decide) ?_
  refine gx_cSv S G hF hl (c_X6_checkWithin l hlf ids ad _ _ _ _) (va_cwS 3 S.2.2.2.2 gX6_setPrice_X6_checkWithin rfl rfl rfl (by decide +kernel) ⟨Nat.le_of_ble_eq_true rfl, Nat.le_of_ble_eq_true rfl⟩) rfl rfl (Nat.le_of_ble_eq_true rfl) dX6_setPrice_10 ⟨Nat.le_of_ble_eq_true rfl, Nat.le_of_ble_eq_true rfl⟩ (gx_pass hex hlk (fun E u h => ⟨by obtain ⟨h1, rfl, -⟩ := h; exact xE2 (by simp only [mSetPriceT, if_neg c_2, if_pos h1]), h.2.2⟩) (Nat.le_of_ble_eq_true rfl) (Nat.le_of_ble_eq_true rfl)) (fun u_10 H locs hp_10 G => ?_)
  obtain ⟨c_10, rfl⟩ := hp_10
  have G : gS D aC A s ids ad (gk _) H locs := G
  refine lv_aload_n S.1 S.2.1 dX6_setPrice_13 rfl (lv_at hl 0 rfl) ?_
  refine g_getN S G 5 2 (hV 5 _ (by first | decide | (show _ < 12; omega))) (by decide) (by decide) i5 (gn_7 hF) (gvk_i rfl rfl) dX6_setPrice_14 ?_
  refine lv_istore (lv' := [(4, _), (3, _), (0, _), (1, _), (2, _)]) S.1 S.2.1 dX6_setPrice_17 hl (by decide) rfl (fun ls hl => ?_)
  refine lv_aload_n S.1 S.2.1 dX6_setPrice_19 rfl (lv_at hl 1 rfl) ?_
  refine lv_iload_n S.1 S.2.1 dX6_setPrice_20 rfl (lv_at hl 4 rfl) ?_
  refine g_putN (ty := .int) S G 5 2 (hV 5 _ (by first | decide | (show _ < 12; omega))) (by decide) (by decide) i5 (gn_7 hF) rfl (by decide +kernel) rfl rfl (gw_i rfl) dX6_setPrice_21 (fun H locs G => ?_)
  have G := gk_S rfl G
  refine lv_iload S.1 S.2.1 dX6_setPrice_24 (lv_at hl 0 rfl) ?_
  refine vx_ret ?_
  exact g_iret S G hr hlk (⟨by simp only [mSetPriceT, if_neg c_2, if_neg c_10], rfl, rfl⟩) (Nat.le_of_ble_eq_true rfl) (Nat.le_of_ble_eq_true rfl) dX6_setPrice_26
set_option maxHeartbeats 4000000 in
set_option maxRecDepth 100000 in
theorem c_X6_topUp (l : Launch) (hlf : l.stackTraces = false) (ids : gIds) (ad : gAd) (κ : gMem) (a n : Int32) (hV : cV ids)  : gXi l yX6_topUp wsX6_topUp ({ frames := 7, cells := 8, slots := 64, locals := 111 } : Room) 8 64 [.ref (ad 7 0), .int a, .int n] (ids, ad, gk κ) (fun q u => sTopUpT κ a n = 0 ∧ q = sTopUpK κ (tN a) n 5 (tN a) 3 ∧ u = (ids, ad, gk (sTopUpK κ (tN a) n))) (fun E u => xE (sTopUpT κ a n) E ∧ u = (ids, ad, gk (κ))) := by
  intro D aC A
  refine gx_of (cc := cX6_topUp) (maxL := 4) (ret := (some .int)) (by decide +kernel) rfl (Nat.le_of_ble_eq_true rfl) ?_
  intro p e s m below meth c ls S G hF hr hlk hex hl
  have hl : lv_has ls 4 [(0, _), (1, _), (2, _)] := hl
  have i5 : ∀ w ∈ wsX40, w ∈ wsX6_topUp := by decide +kernel
  refine lv_aload_n S.1 S.2.1 dX6_topUp_0 rfl (lv_at hl 0 rfl) ?_
  refine lv_iload_n S.1 S.2.1 dX6_topUp_1 rfl (lv_at hl 1 rfl) ?_
  refine gx_cVr S G hF hl 7 (hV 7 _ (by first | decide | (show _ < 1; omega))) (by decide) (c_X6_sensorAt l hlf ids ad _ _ hV) (cwV 1 S.2.2.2.2 gX6_topUp_X6_sensorAt rfl rfl rfl (by decide +kernel) ⟨Nat.le_of_ble_eq_true rfl, Nat.le_of_ble_eq_true rfl⟩) rfl rfl (Nat.le_of_ble_eq_true rfl) dX6_topUp_2 ⟨Nat.le_of_ble_eq_true rfl, Nat.le_of_ble_eq_true rfl⟩ (gx_pass hex hlk (fun E u h => ⟨by obtain ⟨h1, rfl, -⟩ := h; exact xE1 (by simp only [sTopUpT, if_pos h1]), h.2.2⟩) (Nat.le_of_ble_eq_true rfl) (Nat.le_of_ble_eq_true rfl)) (fun r_2 u_2 H locs hp_2 G => ?_)
  obtain ⟨c_2, rfl, rfl⟩ := hp_2
  have G : gS D aC A s ids ad (gk _) H locs := G
  obtain ⟨hx_2, hj_2⟩ := mIn_rng (m := 11) c_2 (by decide)
  refine lv_astore_n (lv' := [(3, _), (0, _), (1, _), (2, _)]) S.1 S.2.1 dX6_topUp_5 rfl hl (by decide) rfl (fun ls hl => ?_)
  refine lv_iload_n S.1 S.2.1 dX6_topUp_6 rfl (lv_at hl 3 rfl) ?_
  refine lv_iconst (v := 1) S.1 S.2.1 dX6_topUp_7 (by decide) ?_
  refine lv_icmp_ge (tgt := 21) S.1 S.2.1 dX6_topUp_8 (by decide) (fun c_8 => ?_) (fun c_8 => ?_)
  · refine lv_aload_n S.1 S.2.1 dX6_topUp_21 rfl (lv_at hl 0 rfl) ?_
    refine g_getN S G 5 4 (hV 5 _ (by first | decide | (show _ < 12; omega))) (by decide) (by decide) i5 (gn_9 hF) (gvk_i rfl rfl) dX6_topUp_22 ?_
    refine lv_iload_n S.1 S.2.1 dX6_topUp_25 rfl (lv_at hl 3 rfl) ?_
    refine lv_icmp_ge (tgt := 39) S.1 S.2.1 dX6_topUp_26 (by decide) (fun c_26 => ?_) (fun c_26 => ?_)
    · refine lv_aload_n S.1 S.2.1 dX6_topUp_39 rfl (lv_at hl 0 rfl) ?_
      refine lv_dup S.1 S.2.1 dX6_topUp_40 rfl ?_
      refine g_getN S G 5 4 (hV 5 _ (by first | decide | (show _ < 12; omega))) (by decide) (by decide) i5 (gn_9 hF) (gvk_i rfl rfl) dX6_topUp_41 ?_
      refine lv_iload_n S.1 S.2.1 dX6_topUp_44 rfl (lv_at hl 3 rfl) ?_
      refine lv_isub S.1 S.2.1 dX6_topUp_45 ?_
      refine g_putN (ty := .int) S G 5 4 (hV 5 _ (by first | decide | (show _ < 12; omega))) (by decide) (by decide) i5 (gn_9 hF) rfl (by decide +kernel) rfl rfl (gw_i rfl) dX6_topUp_46 (fun H locs G => ?_)
      have G := gk_S rfl G
      refine lv_aload_n S.1 S.2.1 dX6_topUp_49 rfl (lv_at hl 0 rfl) ?_
      refine lv_dup S.1 S.2.1 dX6_topUp_50 rfl ?_
      refine g_getN S G 5 3 (hV 5 _ (by first | decide | (show _ < 12; omega))) (by decide) (by decide) i5 (gn_8 hF) (gvk_i rfl rfl) dX6_topUp_51 ?_
      refine lv_iload_n S.1 S.2.1 dX6_topUp_54 rfl (lv_at hl 3 rfl) ?_
      refine lv_iadd S.1 S.2.1 dX6_topUp_55 ?_
      refine g_putN (ty := .int) S G 5 3 (hV 5 _ (by first | decide | (show _ < 12; omega))) (by decide) (by decide) i5 (gn_8 hF) rfl (by decide +kernel) rfl rfl (gw_i rfl) dX6_topUp_56 (fun H locs G => ?_)
      have G := gk_S rfl G
      refine lv_aload_n S.1 S.2.1 dX6_topUp_59 rfl (lv_at hl 0 rfl) ?_
      refine lv_dup S.1 S.2.1 dX6_topUp_60 rfl ?_
      refine g_getN S G 5 5 (hV 5 _ (by first | decide | (show _ < 12; omega))) (by decide) (by decide) i5 (gn_10 hF) (gvk_i rfl rfl) dX6_topUp_61 ?_
      refine lv_iload_n S.1 S.2.1 dX6_topUp_64 rfl (lv_at hl 3 rfl) ?_
      refine lv_iadd S.1 S.2.1 dX6_topUp_65 ?_
      refine g_putN (ty := .int) S G 5 5 (hV 5 _ (by first | decide | (show _ < 12; omega))) (by decide) (by decide) i5 (gn_10 hF) rfl (by decide +kernel) rfl rfl (gw_i rfl) dX6_topUp_66 (fun H locs G => ?_)
      have G := gk_S rfl G
      refine lv_aload_n S.1 S.2.1 dX6_topUp_69 rfl (lv_at hl 0 rfl) ?_
      refine g_getN S G 5 3 (hV 5 _ (by first | decide | (show _ < 12; omega))) (by decide) (by decide) i5 (gn_8 hF) (gvk_i rfl rfl) dX6_topUp_70 ?_
      refine vx_ret ?_
      exact g_iret S G hr hlk (⟨by simp only [sTopUpT, if_neg c_2, if_pos c_8, if_pos c_26], upd3_s.symm.trans (by rfl), rfl⟩) (Nat.le_of_ble_eq_true rfl) (Nat.le_of_ble_eq_true rfl) dX6_topUp_73
    · exact g_throw (cls := "java/lang/IllegalStateException") (text := "the purse of the sensor is less") S G hF hlf hlk hex hl.1 rfl (by decide +kernel) (by decide +kernel) (by decide +kernel) (by decide +kernel) (by decide +kernel) (by decide +kernel) (by decide +kernel) (by decide +kernel) dX6_topUp_29 dX6_topUp_32 (Or.inl ⟨dX6_topUp_33, dX6_topUp_35, dX6_topUp_38⟩) (Nat.le_of_ble_eq_true rfl) (Nat.le_of_ble_eq_true rfl) (Nat.le_of_ble_eq_true rfl) (Nat.le_of_ble_eq_true rfl) (⟨xE3 (by simp only [sTopUpT, if_neg c_2, if_pos c_8, if_neg c_26]), rfl⟩) (Nat.le_of_ble_eq_true rfl) (Nat.le_of_ble_eq_true rfl)
  · exact g_throw (cls := "java/lang/IllegalArgumentException") (text := "the amount is below 1") S G hF hlf hlk hex hl.1 rfl (by decide +kernel) (by decide +kernel) (by decide +kernel) (by decide +kernel) (by decide +kernel) (by decide +kernel) (by decide +kernel) (by decide +kernel) dX6_topUp_11 dX6_topUp_14 (Or.inl ⟨dX6_topUp_15, dX6_topUp_17, dX6_topUp_20⟩) (Nat.le_of_ble_eq_true rfl) (Nat.le_of_ble_eq_true rfl) (Nat.le_of_ble_eq_true rfl) (Nat.le_of_ble_eq_true rfl) (⟨xE2 (by simp only [sTopUpT, if_neg c_2, if_neg c_8]), rfl⟩) (Nat.le_of_ble_eq_true rfl) (Nat.le_of_ble_eq_true rfl)
set_option maxHeartbeats 4000000 in
set_option maxRecDepth 100000 in
theorem c_X6_stateOf (l : Launch) (hlf : l.stackTraces = false) (ids : gIds) (ad : gAd) (κ : gMem) (x : Int32) (hV : cV ids) (hW : cWF ids κ)  : gXi l yX6_stateOf wsX6_stateOf ({ frames := 7, cells := 8, slots := 64, locals := 111 } : Room) 8 64 [.ref (ad 7 0), .int x] (ids, ad, gk κ) (fun q u => sRdT κ x = 0 ∧ q = κ 3 (tN x) 3 ∧ u = (ids, ad, gk (κ))) (fun E u => xE (sRdT κ x) E ∧ u = (ids, ad, gk (κ))) := by
  intro D aC A
  refine gx_of (cc := cX6_stateOf) (maxL := 2) (ret := (some .int)) (by decide +kernel) rfl (Nat.le_of_ble_eq_true rfl) ?_
  intro p e s m below meth c ls S G hF hr hlk hex hl
  have hl : lv_has ls 2 [(0, _), (1, _)] := hl
  have i3 : ∀ w ∈ wsX20, w ∈ wsX6_stateOf := by decide +kernel
  refine lv_aload_n S.1 S.2.1 dX6_stateOf_0 rfl (lv_at hl 0 rfl) ?_
  refine lv_iload_n S.1 S.2.1 dX6_stateOf_1 rfl (lv_at hl 1 rfl) ?_
  refine gx_cVr S G hF hl 7 (hV 7 _ (by first | decide | (show _ < 1; omega))) (by decide) (c_X6_readingAt l hlf ids ad _ _ hV hW) (cwV 1 S.2.2.2.2 gX6_stateOf_X6_readingAt rfl rfl rfl (by decide +kernel) ⟨Nat.le_of_ble_eq_true rfl, Nat.le_of_ble_eq_true rfl⟩) rfl rfl (Nat.le_of_ble_eq_true rfl) dX6_stateOf_2 ⟨Nat.le_of_ble_eq_true rfl, Nat.le_of_ble_eq_true rfl⟩ (gx_pass hex hlk (fun E u h => ⟨by obtain ⟨h1, rfl, -⟩ := h; exact xE1 (by simp only [sRdT, if_pos h1]), h.2.2⟩) (Nat.le_of_ble_eq_true rfl) (Nat.le_of_ble_eq_true rfl)) (fun r_2 u_2 H locs hp_2 G => ?_)
  obtain ⟨c_2, rfl, rfl⟩ := hp_2
  have G : gS D aC A s ids ad (gk _) H locs := G
  obtain ⟨hn, hn80⟩ := hW.cnt
  obtain ⟨hx_2, hj_2⟩ := mIn_rd (n := tN (κ 7 0 4)) (by rw [← hn]; exact c_2) hn80
  have hR := hW.2.1 _ hj_2
  refine g_getN S G 3 3 hR.2.1 (by decide) (by decide) i3 (gn_17 hF) (gvk_i rfl rfl) dX6_stateOf_5 ?_
  refine vx_ret ?_
  exact g_iret S G hr hlk (⟨by simp only [sRdT, if_neg c_2], rfl, rfl⟩) (Nat.le_of_ble_eq_true rfl) (Nat.le_of_ble_eq_true rfl) dX6_stateOf_8
set_option maxHeartbeats 4000000 in
set_option maxRecDepth 100000 in
theorem c_X6_parts (l : Launch) (hlf : l.stackTraces = false) (ids : gIds) (ad : gAd) (κ : gMem) (x : Int32) (hV : cV ids) (hW : cWF ids κ)  : gXi l yX6_parts wsX6_parts ({ frames := 7, cells := 8, slots := 64, locals := 111 } : Room) 8 64 [.ref (ad 7 0), .int x] (ids, ad, gk κ) (fun q u => sRdT κ x = 0 ∧ q = κ 3 (tN x) 2 ∧ u = (ids, ad, gk (κ))) (fun E u => xE (sRdT κ x) E ∧ u = (ids, ad, gk (κ))) := by
  intro D aC A
  refine gx_of (cc := cX6_parts) (maxL := 2) (ret := (some .int)) (by decide +kernel) rfl (Nat.le_of_ble_eq_true rfl) ?_
  intro p e s m below meth c ls S G hF hr hlk hex hl
  have hl : lv_has ls 2 [(0, _), (1, _)] := hl
  have i3 : ∀ w ∈ wsX20, w ∈ wsX6_parts := by decide +kernel
  refine lv_aload_n S.1 S.2.1 dX6_parts_0 rfl (lv_at hl 0 rfl) ?_
  refine lv_iload_n S.1 S.2.1 dX6_parts_1 rfl (lv_at hl 1 rfl) ?_
  refine gx_cVr S G hF hl 7 (hV 7 _ (by first | decide | (show _ < 1; omega))) (by decide) (c_X6_readingAt l hlf ids ad _ _ hV hW) (cwV 1 S.2.2.2.2 gX6_parts_X6_readingAt rfl rfl rfl (by decide +kernel) ⟨Nat.le_of_ble_eq_true rfl, Nat.le_of_ble_eq_true rfl⟩) rfl rfl (Nat.le_of_ble_eq_true rfl) dX6_parts_2 ⟨Nat.le_of_ble_eq_true rfl, Nat.le_of_ble_eq_true rfl⟩ (gx_pass hex hlk (fun E u h => ⟨by obtain ⟨h1, rfl, -⟩ := h; exact xE1 (by simp only [sRdT, if_pos h1]), h.2.2⟩) (Nat.le_of_ble_eq_true rfl) (Nat.le_of_ble_eq_true rfl)) (fun r_2 u_2 H locs hp_2 G => ?_)
  obtain ⟨c_2, rfl, rfl⟩ := hp_2
  have G : gS D aC A s ids ad (gk _) H locs := G
  obtain ⟨hn, hn80⟩ := hW.cnt
  obtain ⟨hx_2, hj_2⟩ := mIn_rd (n := tN (κ 7 0 4)) (by rw [← hn]; exact c_2) hn80
  have hR := hW.2.1 _ hj_2
  refine g_getN S G 3 2 hR.2.1 (by decide) (by decide) i3 (gn_16 hF) (gvk_i rfl rfl) dX6_parts_5 ?_
  refine vx_ret ?_
  exact g_iret S G hr hlk (⟨by simp only [sRdT, if_neg c_2], rfl, rfl⟩) (Nat.le_of_ble_eq_true rfl) (Nat.le_of_ble_eq_true rfl) dX6_parts_8
set_option maxHeartbeats 4000000 in
set_option maxRecDepth 100000 in
theorem c_X6_users (l : Launch) (hlf : l.stackTraces = false) (ids : gIds) (ad : gAd) (κ : gMem) (x : Int32) (hV : cV ids) (hW : cWF ids κ)  : gXi l yX6_users wsX6_users ({ frames := 7, cells := 8, slots := 64, locals := 111 } : Room) 8 64 [.ref (ad 7 0), .int x] (ids, ad, gk κ) (fun q u => sRdT κ x = 0 ∧ q = κ 3 (tN x) 6 ∧ u = (ids, ad, gk (κ))) (fun E u => xE (sRdT κ x) E ∧ u = (ids, ad, gk (κ))) := by
  intro D aC A
  refine gx_of (cc := cX6_users) (maxL := 2) (ret := (some .int)) (by decide +kernel) rfl (Nat.le_of_ble_eq_true rfl) ?_
  intro p e s m below meth c ls S G hF hr hlk hex hl
  have hl : lv_has ls 2 [(0, _), (1, _)] := hl
  have i3 : ∀ w ∈ wsX20, w ∈ wsX6_users := by decide +kernel
  refine lv_aload_n S.1 S.2.1 dX6_users_0 rfl (lv_at hl 0 rfl) ?_
  refine lv_iload_n S.1 S.2.1 dX6_users_1 rfl (lv_at hl 1 rfl) ?_
  refine gx_cVr S G hF hl 7 (hV 7 _ (by first | decide | (show _ < 1; omega))) (by decide) (c_X6_readingAt l hlf ids ad _ _ hV hW) (cwV 1 S.2.2.2.2 gX6_users_X6_readingAt rfl rfl rfl (by decide +kernel) ⟨Nat.le_of_ble_eq_true rfl, Nat.le_of_ble_eq_true rfl⟩) rfl rfl (Nat.le_of_ble_eq_true rfl) dX6_users_2 ⟨Nat.le_of_ble_eq_true rfl, Nat.le_of_ble_eq_true rfl⟩ (gx_pass hex hlk (fun E u h => ⟨by obtain ⟨h1, rfl, -⟩ := h; exact xE1 (by simp only [sRdT, if_pos h1]), h.2.2⟩) (Nat.le_of_ble_eq_true rfl) (Nat.le_of_ble_eq_true rfl)) (fun r_2 u_2 H locs hp_2 G => ?_)
  obtain ⟨c_2, rfl, rfl⟩ := hp_2
  have G : gS D aC A s ids ad (gk _) H locs := G
  obtain ⟨hn, hn80⟩ := hW.cnt
  obtain ⟨hx_2, hj_2⟩ := mIn_rd (n := tN (κ 7 0 4)) (by rw [← hn]; exact c_2) hn80
  have hR := hW.2.1 _ hj_2
  refine g_getN S G 3 6 hR.2.1 (by decide) (by decide) i3 (gn_20 hF) (gvk_i rfl rfl) dX6_users_5 ?_
  refine vx_ret ?_
  exact g_iret S G hr hlk (⟨by simp only [sRdT, if_neg c_2], rfl, rfl⟩) (Nat.le_of_ble_eq_true rfl) (Nat.le_of_ble_eq_true rfl) dX6_users_8
set_option maxHeartbeats 4000000 in
set_option maxRecDepth 100000 in
theorem c_X6_held (l : Launch) (hlf : l.stackTraces = false) (ids : gIds) (ad : gAd) (κ : gMem) (x : Int32) (hV : cV ids) (hW : cWF ids κ)  : gXi l yX6_held wsX6_held ({ frames := 7, cells := 8, slots := 64, locals := 111 } : Room) 8 64 [.ref (ad 7 0), .int x] (ids, ad, gk κ) (fun q u => sRdT κ x = 0 ∧ q = κ 3 (tN x) 7 ∧ u = (ids, ad, gk (κ))) (fun E u => xE (sRdT κ x) E ∧ u = (ids, ad, gk (κ))) := by
  intro D aC A
  refine gx_of (cc := cX6_held) (maxL := 2) (ret := (some .int)) (by decide +kernel) rfl (Nat.le_of_ble_eq_true rfl) ?_
  intro p e s m below meth c ls S G hF hr hlk hex hl
  have hl : lv_has ls 2 [(0, _), (1, _)] := hl
  have i3 : ∀ w ∈ wsX20, w ∈ wsX6_held := by decide +kernel
  refine lv_aload_n S.1 S.2.1 dX6_held_0 rfl (lv_at hl 0 rfl) ?_
  refine lv_iload_n S.1 S.2.1 dX6_held_1 rfl (lv_at hl 1 rfl) ?_
  refine gx_cVr S G hF hl 7 (hV 7 _ (by first | decide | (show _ < 1; omega))) (by decide) (c_X6_readingAt l hlf ids ad _ _ hV hW) (cwV 1 S.2.2.2.2 gX6_held_X6_readingAt rfl rfl rfl (by decide +kernel) ⟨Nat.le_of_ble_eq_true rfl, Nat.le_of_ble_eq_true rfl⟩) rfl rfl (Nat.le_of_ble_eq_true rfl) dX6_held_2 ⟨Nat.le_of_ble_eq_true rfl, Nat.le_of_ble_eq_true rfl⟩ (gx_pass hex hlk (fun E u h => ⟨by obtain ⟨h1, rfl, -⟩ := h; exact xE1 (by simp only [sRdT, if_pos h1]), h.2.2⟩) (Nat.le_of_ble_eq_true rfl) (Nat.le_of_ble_eq_true rfl)) (fun r_2 u_2 H locs hp_2 G => ?_)
  obtain ⟨c_2, rfl, rfl⟩ := hp_2
  have G : gS D aC A s ids ad (gk _) H locs := G
  obtain ⟨hn, hn80⟩ := hW.cnt
  obtain ⟨hx_2, hj_2⟩ := mIn_rd (n := tN (κ 7 0 4)) (by rw [← hn]; exact c_2) hn80
  have hR := hW.2.1 _ hj_2
  refine g_getN S G 3 7 hR.2.1 (by decide) (by decide) i3 (gn_21 hF) (gvk_i rfl rfl) dX6_held_5 ?_
  refine vx_ret ?_
  exact g_iret S G hr hlk (⟨by simp only [sRdT, if_neg c_2], rfl, rfl⟩) (Nat.le_of_ble_eq_true rfl) (Nat.le_of_ble_eq_true rfl) dX6_held_8
set_option maxHeartbeats 4000000 in
set_option maxRecDepth 100000 in
theorem c_X6_middle (l : Launch) (hlf : l.stackTraces = false) (ids : gIds) (ad : gAd) (κ : gMem) (x : Int32) (hV : cV ids) (hW : cWF ids κ)  : gXi l yX6_middle wsX6_middle ({ frames := 7, cells := 8, slots := 64, locals := 111 } : Room) 8 64 [.ref (ad 7 0), .int x] (ids, ad, gk κ) (fun q u => sRdT κ x = 0 ∧ q = sMidA κ (tN x) ∧ u = (ids, ad, gk (κ))) (fun E u => xE (sRdT κ x) E ∧ u = (ids, ad, gk (κ))) := by
  intro D aC A
  refine gx_of (cc := cX6_middle) (maxL := 3) (ret := (some .int)) (by decide +kernel) rfl (Nat.le_of_ble_eq_true rfl) ?_
  intro p e s m below meth c ls S G hF hr hlk hex hl
  have hl : lv_has ls 3 [(0, _), (1, _)] := hl
  have i3 : ∀ w ∈ wsX20, w ∈ wsX6_middle := by decide +kernel
  refine lv_aload_n S.1 S.2.1 dX6_middle_0 rfl (lv_at hl 0 rfl) ?_
  refine lv_iload_n S.1 S.2.1 dX6_middle_1 rfl (lv_at hl 1 rfl) ?_
  refine gx_cVr S G hF hl 7 (hV 7 _ (by first | decide | (show _ < 1; omega))) (by decide) (c_X6_readingAt l hlf ids ad _ _ hV hW) (cwV 1 S.2.2.2.2 gX6_middle_X6_readingAt rfl rfl rfl (by decide +kernel) ⟨Nat.le_of_ble_eq_true rfl, Nat.le_of_ble_eq_true rfl⟩) rfl rfl (Nat.le_of_ble_eq_true rfl) dX6_middle_2 ⟨Nat.le_of_ble_eq_true rfl, Nat.le_of_ble_eq_true rfl⟩ (gx_pass hex hlk (fun E u h => ⟨by obtain ⟨h1, rfl, -⟩ := h; exact xE1 (by simp only [sRdT, if_pos h1]), h.2.2⟩) (Nat.le_of_ble_eq_true rfl) (Nat.le_of_ble_eq_true rfl)) (fun r_2 u_2 H locs hp_2 G => ?_)
  obtain ⟨c_2, rfl, rfl⟩ := hp_2
  have G : gS D aC A s ids ad (gk _) H locs := G
  obtain ⟨hn, hn80⟩ := hW.cnt
  obtain ⟨hx_2, hj_2⟩ := mIn_rd (n := tN (κ 7 0 4)) (by rw [← hn]; exact c_2) hn80
  have hR := hW.2.1 _ hj_2
  by_cases h9 : κ 3 (tN x) 9 < 0
  · refine g_getN S G 3 9 hR.2.1 (by decide) (by decide) i3 (gn_23 hF) (gvk_n rfl rfl h9) dX6_middle_5 ?_
    refine lv_astore_nN (lv' := [(2, _), (0, _), (1, _)]) S.1 S.2.1 dX6_middle_8 rfl hl (by decide) rfl (fun ls hl => ?_)
    refine lv_aload_nN S.1 S.2.1 dX6_middle_9 rfl (lv_at hl 0 rfl) ?_
    refine lv_ifnonnullN S.1 S.2.1 dX6_middle_10 ?_
    refine lv_iconst (v := (-1)) S.1 S.2.1 dX6_middle_13 (by decide) ?_
    refine lv_goto (tgt := 21) S.1 S.2.1 dX6_middle_14 (by decide) ?_
    refine vx_ret ?_
    exact g_iret S G hr hlk (⟨by simp only [sRdT, if_neg c_2, if_pos h9], by simp only [sMidA, if_neg c_2, if_pos h9], rfl⟩) (Nat.le_of_ble_eq_true rfl) (Nat.le_of_ble_eq_true rfl) dX6_middle_21
  · obtain ⟨h9r, h2, h16, hc, hct⟩ := hR.ch h9
    refine g_getN S G 3 9 hR.2.1 (by decide) (by decide) i3 (gn_23 hF) (gvk_r rfl rfl h9r (by omega)) dX6_middle_5 ?_
    refine lv_astore_n (lv' := [(2, _), (0, _), (1, _)]) S.1 S.2.1 dX6_middle_8 rfl hl (by decide) rfl (fun ls hl => ?_)
    refine lv_aload_n S.1 S.2.1 dX6_middle_9 rfl (lv_at hl 0 rfl) ?_
    refine lv_ifnonnull (tgt := 17) S.1 S.2.1 dX6_middle_10 (by decide) ?_
    refine lv_aload_n S.1 S.2.1 dX6_middle_17 rfl (lv_at hl 0 rfl) ?_
    refine g_cNi S G hF hl 2 h2 (by decide) (c_X1_findMiddle l ids ad _ _ (by omega) h2 h16 hct) ⟨va_cnB 0 S.2.2.2.2 gX6_middle_X1_findMiddle_n215 rfl rfl rfl (gm_12 hF) (S.2.2.2.2 (.initialized RX1) (by decide +kernel)) (by decide +kernel) ⟨Nat.le_of_ble_eq_true rfl, Nat.le_of_ble_eq_true rfl⟩, S.2.2.2.2 (.instanceMethod yX1_findMiddle) (by decide +kernel), S.2.2.2.2 (.selects RX1 yX1_findMiddle yX1_findMiddle) (by decide +kernel)⟩ rfl rfl (Nat.le_of_ble_eq_true rfl) dX6_middle_18 ⟨Nat.le_of_ble_eq_true rfl, Nat.le_of_ble_eq_true rfl⟩ (fun r_18 u_18 H locs hp_18 G => ?_)
    obtain ⟨rfl, rfl⟩ := hp_18
    have G : gS D aC A s ids ad (gk _) H locs := G
    refine vx_ret ?_
    exact g_iret S G hr hlk (⟨by simp only [sRdT, if_neg c_2, if_neg h9], by simp only [sMidA, if_neg c_2, if_neg h9], rfl⟩) (Nat.le_of_ble_eq_true rfl) (Nat.le_of_ble_eq_true rfl) dX6_middle_21
set_option maxHeartbeats 4000000 in
set_option maxRecDepth 100000 in
theorem c_X6_bond (l : Launch) (hlf : l.stackTraces = false) (ids : gIds) (ad : gAd) (κ : gMem) (x : Int32) (hV : cV ids)  : gXi l yX6_bond wsX6_bond ({ frames := 7, cells := 8, slots := 64, locals := 111 } : Room) 8 64 [.ref (ad 7 0), .int x] (ids, ad, gk κ) (fun q u => mOneT x 11 = 0 ∧ q = κ 5 (tN x) 3 ∧ u = (ids, ad, gk (κ))) (fun E u => xE (mOneT x 11) E ∧ u = (ids, ad, gk (κ))) := by
  intro D aC A
  refine gx_of (cc := cX6_bond) (maxL := 2) (ret := (some .int)) (by decide +kernel) rfl (Nat.le_of_ble_eq_true rfl) ?_
  intro p e s m below meth c ls S G hF hr hlk hex hl
  have hl : lv_has ls 2 [(0, _), (1, _)] := hl
  have i5 : ∀ w ∈ wsX40, w ∈ wsX6_bond := by decide +kernel
  refine lv_aload_n S.1 S.2.1 dX6_bond_0 rfl (lv_at hl 0 rfl) ?_
  refine lv_iload_n S.1 S.2.1 dX6_bond_1 rfl (lv_at hl 1 rfl) ?_
  refine gx_cVr S G hF hl 7 (hV 7 _ (by first | decide | (show _ < 1; omega))) (by decide) (c_X6_sensorAt l hlf ids ad _ _ hV) (cwV 1 S.2.2.2.2 gX6_bond_X6_sensorAt rfl rfl rfl (by decide +kernel) ⟨Nat.le_of_ble_eq_true rfl, Nat.le_of_ble_eq_true rfl⟩) rfl rfl (Nat.le_of_ble_eq_true rfl) dX6_bond_2 ⟨Nat.le_of_ble_eq_true rfl, Nat.le_of_ble_eq_true rfl⟩ (gx_pass hex hlk (fun E u h => ⟨by obtain ⟨h1, rfl, -⟩ := h; exact xE1 (by simp only [mOneT, if_pos h1]), h.2.2⟩) (Nat.le_of_ble_eq_true rfl) (Nat.le_of_ble_eq_true rfl)) (fun r_2 u_2 H locs hp_2 G => ?_)
  obtain ⟨c_2, rfl, rfl⟩ := hp_2
  have G : gS D aC A s ids ad (gk _) H locs := G
  obtain ⟨hx_2, hj_2⟩ := mIn_rng (m := 11) c_2 (by decide)
  refine g_getN S G 5 3 (hV 5 _ (by first | decide | (show _ < 12; omega))) (by decide) (by decide) i5 (gn_8 hF) (gvk_i rfl rfl) dX6_bond_5 ?_
  refine vx_ret ?_
  exact g_iret S G hr hlk (⟨by simp only [mOneT, if_neg c_2], rfl, rfl⟩) (Nat.le_of_ble_eq_true rfl) (Nat.le_of_ble_eq_true rfl) dX6_bond_8
set_option maxHeartbeats 4000000 in
set_option maxRecDepth 100000 in
theorem c_X6_earned (l : Launch) (hlf : l.stackTraces = false) (ids : gIds) (ad : gAd) (κ : gMem) (x : Int32) (hV : cV ids)  : gXi l yX6_earned wsX6_earned ({ frames := 7, cells := 8, slots := 64, locals := 111 } : Room) 8 64 [.ref (ad 7 0), .int x] (ids, ad, gk κ) (fun q u => mOneT x 11 = 0 ∧ q = κ 5 (tN x) 4 ∧ u = (ids, ad, gk (κ))) (fun E u => xE (mOneT x 11) E ∧ u = (ids, ad, gk (κ))) := by
  intro D aC A
  refine gx_of (cc := cX6_earned) (maxL := 2) (ret := (some .int)) (by decide +kernel) rfl (Nat.le_of_ble_eq_true rfl) ?_
  intro p e s m below meth c ls S G hF hr hlk hex hl
  have hl : lv_has ls 2 [(0, _), (1, _)] := hl
  have i5 : ∀ w ∈ wsX40, w ∈ wsX6_earned := by decide +kernel
  refine lv_aload_n S.1 S.2.1 dX6_earned_0 rfl (lv_at hl 0 rfl) ?_
  refine lv_iload_n S.1 S.2.1 dX6_earned_1 rfl (lv_at hl 1 rfl) ?_
  refine gx_cVr S G hF hl 7 (hV 7 _ (by first | decide | (show _ < 1; omega))) (by decide) (c_X6_sensorAt l hlf ids ad _ _ hV) (cwV 1 S.2.2.2.2 gX6_earned_X6_sensorAt rfl rfl rfl (by decide +kernel) ⟨Nat.le_of_ble_eq_true rfl, Nat.le_of_ble_eq_true rfl⟩) rfl rfl (Nat.le_of_ble_eq_true rfl) dX6_earned_2 ⟨Nat.le_of_ble_eq_true rfl, Nat.le_of_ble_eq_true rfl⟩ (gx_pass hex hlk (fun E u h => ⟨by obtain ⟨h1, rfl, -⟩ := h; exact xE1 (by simp only [mOneT, if_pos h1]), h.2.2⟩) (Nat.le_of_ble_eq_true rfl) (Nat.le_of_ble_eq_true rfl)) (fun r_2 u_2 H locs hp_2 G => ?_)
  obtain ⟨c_2, rfl, rfl⟩ := hp_2
  have G : gS D aC A s ids ad (gk _) H locs := G
  obtain ⟨hx_2, hj_2⟩ := mIn_rng (m := 11) c_2 (by decide)
  refine g_getN S G 5 4 (hV 5 _ (by first | decide | (show _ < 12; omega))) (by decide) (by decide) i5 (gn_9 hF) (gvk_i rfl rfl) dX6_earned_5 ?_
  refine vx_ret ?_
  exact g_iret S G hr hlk (⟨by simp only [mOneT, if_neg c_2], rfl, rfl⟩) (Nat.le_of_ble_eq_true rfl) (Nat.le_of_ble_eq_true rfl) dX6_earned_8
set_option maxHeartbeats 4000000 in
set_option maxRecDepth 100000 in
theorem c_X6_purse (l : Launch) (hlf : l.stackTraces = false) (ids : gIds) (ad : gAd) (κ : gMem) (x : Int32) (hV : cV ids)  : gXi l yX6_purse wsX6_purse ({ frames := 7, cells := 8, slots := 64, locals := 111 } : Room) 8 64 [.ref (ad 7 0), .int x] (ids, ad, gk κ) (fun q u => mOneT x 5 = 0 ∧ q = κ 1 (tN x) 0 ∧ u = (ids, ad, gk (κ))) (fun E u => xE (mOneT x 5) E ∧ u = (ids, ad, gk (κ))) := by
  intro D aC A
  refine gx_of (cc := cX6_purse) (maxL := 2) (ret := (some .int)) (by decide +kernel) rfl (Nat.le_of_ble_eq_true rfl) ?_
  intro p e s m below meth c ls S G hF hr hlk hex hl
  have hl : lv_has ls 2 [(0, _), (1, _)] := hl
  have i1 : ∀ w ∈ wsX00, w ∈ wsX6_purse := by decide +kernel
  refine lv_aload_n S.1 S.2.1 dX6_purse_0 rfl (lv_at hl 0 rfl) ?_
  refine lv_iload_n S.1 S.2.1 dX6_purse_1 rfl (lv_at hl 1 rfl) ?_
  refine gx_cVr S G hF hl 7 (hV 7 _ (by first | decide | (show _ < 1; omega))) (by decide) (c_X6_buyerAt l hlf ids ad _ _ hV) (cwV 1 S.2.2.2.2 gX6_purse_X6_buyerAt rfl rfl rfl (by decide +kernel) ⟨Nat.le_of_ble_eq_true rfl, Nat.le_of_ble_eq_true rfl⟩) rfl rfl (Nat.le_of_ble_eq_true rfl) dX6_purse_2 ⟨Nat.le_of_ble_eq_true rfl, Nat.le_of_ble_eq_true rfl⟩ (gx_pass hex hlk (fun E u h => ⟨by obtain ⟨h1, rfl, -⟩ := h; exact xE1 (by simp only [mOneT, if_pos h1]), h.2.2⟩) (Nat.le_of_ble_eq_true rfl) (Nat.le_of_ble_eq_true rfl)) (fun r_2 u_2 H locs hp_2 G => ?_)
  obtain ⟨c_2, rfl, rfl⟩ := hp_2
  have G : gS D aC A s ids ad (gk _) H locs := G
  obtain ⟨hx_2, hj_2⟩ := mIn_rng (m := 5) c_2 (by decide)
  refine g_getN S G 1 0 (hV 1 _ (by first | decide | (show _ < 6; omega))) (by decide) (by decide) i1 (gn_12 hF) (gvk_i rfl rfl) dX6_purse_5 ?_
  refine vx_ret ?_
  exact g_iret S G hr hlk (⟨by simp only [mOneT, if_neg c_2], rfl, rfl⟩) (Nat.le_of_ble_eq_true rfl) (Nat.le_of_ble_eq_true rfl) dX6_purse_8
set_option maxHeartbeats 4000000 in
set_option maxRecDepth 100000 in
theorem c_X6_aside (l : Launch) (hlf : l.stackTraces = false) (ids : gIds) (ad : gAd) (κ : gMem) (a b : Int32) (hV : cV ids) (hW : cWF ids κ)  : gXi l yX6_aside wsX6_aside ({ frames := 7, cells := 8, slots := 64, locals := 111 } : Room) 8 64 [.ref (ad 7 0), .int a, .int b] (ids, ad, gk κ) (fun q u => mAsideT a b = 0 ∧ q = sAside κ (tN a) (tN b) ∧ u = (ids, ad, gk (κ))) (fun E u => xE (mAsideT a b) E ∧ u = (ids, ad, gk (κ))) := by
  intro D aC A
  refine gx_of (cc := cX6_aside) (maxL := 6) (ret := (some .int)) (by decide +kernel) rfl (Nat.le_of_ble_eq_true rfl) ?_
  intro p e s m below meth c ls S G hF hr hlk hex hl
  have hl : lv_has ls 6 [(0, _), (1, _), (2, _)] := hl
  have i1 : ∀ w ∈ wsX00, w ∈ wsX6_aside := by decide +kernel
  have i5 : ∀ w ∈ wsX40, w ∈ wsX6_aside := by decide +kernel
  have i6 : ∀ w ∈ wsX50, w ∈ wsX6_aside := by decide +kernel
  refine lv_aload_n S.1 S.2.1 dX6_aside_0 rfl (lv_at hl 0 rfl) ?_
  refine lv_iload_n S.1 S.2.1 dX6_aside_1 rfl (lv_at hl 1 rfl) ?_
  refine gx_cVr S G hF hl 7 (hV 7 _ (by first | decide | (show _ < 1; omega))) (by decide) (c_X6_buyerAt l hlf ids ad _ _ hV) (cwV 1 S.2.2.2.2 gX6_aside_X6_buyerAt rfl rfl rfl (by decide +kernel) ⟨Nat.le_of_ble_eq_true rfl, Nat.le_of_ble_eq_true rfl⟩) rfl rfl (Nat.le_of_ble_eq_true rfl) dX6_aside_2 ⟨Nat.le_of_ble_eq_true rfl, Nat.le_of_ble_eq_true rfl⟩ (gx_pass hex hlk (fun E u h => ⟨by obtain ⟨h1, rfl, -⟩ := h; exact xE1 (by simp only [mAsideT, if_pos h1]), h.2.2⟩) (Nat.le_of_ble_eq_true rfl) (Nat.le_of_ble_eq_true rfl)) (fun r_2 u_2 H locs hp_2 G => ?_)
  obtain ⟨c_2, rfl, rfl⟩ := hp_2
  have G : gS D aC A s ids ad (gk _) H locs := G
  obtain ⟨hx_2, hj_2⟩ := mIn_rng (m := 5) c_2 (by decide)
  refine lv_astore_n (lv' := [(3, _), (0, _), (1, _), (2, _)]) S.1 S.2.1 dX6_aside_5 rfl hl (by decide) rfl (fun ls hl => ?_)
  refine lv_aload_n S.1 S.2.1 dX6_aside_6 rfl (lv_at hl 1 rfl) ?_
  refine lv_iload_n S.1 S.2.1 dX6_aside_7 rfl (lv_at hl 3 rfl) ?_
  refine gx_cVr S G hF hl 7 (hV 7 _ (by first | decide | (show _ < 1; omega))) (by decide) (c_X6_sensorAt l hlf ids ad _ _ hV) (cwV 1 S.2.2.2.2 gX6_aside_X6_sensorAt rfl rfl rfl (by decide +kernel) ⟨Nat.le_of_ble_eq_true rfl, Nat.le_of_ble_eq_true rfl⟩) rfl rfl (Nat.le_of_ble_eq_true rfl) dX6_aside_8 ⟨Nat.le_of_ble_eq_true rfl, Nat.le_of_ble_eq_true rfl⟩ (gx_pass hex hlk (fun E u h => ⟨by obtain ⟨h1, rfl, -⟩ := h; exact xE1 (by simp only [mAsideT, if_neg c_2, if_pos h1]), h.2.2⟩) (Nat.le_of_ble_eq_true rfl) (Nat.le_of_ble_eq_true rfl)) (fun r_8 u_8 H locs hp_8 G => ?_)
  obtain ⟨c_8, rfl, rfl⟩ := hp_8
  have G : gS D aC A s ids ad (gk _) H locs := G
  obtain ⟨hx_8, hj_8⟩ := mIn_rng (m := 11) c_8 (by decide)
  refine lv_astore (lv' := [(4, _), (3, _), (0, _), (1, _), (2, _)]) S.1 S.2.1 dX6_aside_11 hl (by decide) rfl (fun ls hl => ?_)
  by_cases hw : κ 14 (tN a) (tN b) < 0
  · refine lv_aload_n S.1 S.2.1 dX6_aside_13 rfl (lv_at hl 1 rfl) ?_
    refine g_getN S G 1 1 (hV 1 _ (by show _ < 6; omega)) (by decide) (by decide) i1 (gn_13 hF) (gvk_or (j := _) rfl rfl (by omega)) dX6_aside_14 ?_
    refine lv_aload S.1 S.2.1 dX6_aside_17 (lv_at hl 0 rfl) ?_
    refine g_getN S G 5 0 (hV 5 _ (by first | decide | (show _ < 12; omega))) (by decide) (by decide) i5 (gn_5 hF) (gvk_oi rfl rfl) dX6_aside_19 ?_
    refine g_aald S G 14 (hV 14 _ (by show _ < 6; omega)) rfl rfl rfl (show tN b < 12 by omega) (gqk_n rfl hw) dX6_aside_22 ?_
    refine lv_astoreN (lv' := [(5, _), (4, _), (3, _), (0, _), (1, _), (2, _)]) S.1 S.2.1 dX6_aside_23 hl (by decide) rfl (fun ls hl => ?_)
    refine lv_aloadN S.1 S.2.1 dX6_aside_25 (lv_at hl 0 rfl) ?_
    refine lv_ifnonnullN S.1 S.2.1 dX6_aside_27 ?_
    refine lv_iconst (v := 0) S.1 S.2.1 dX6_aside_30 (by decide) ?_
    refine lv_goto (tgt := 39) S.1 S.2.1 dX6_aside_31 (by decide) ?_
    refine vx_ret ?_
    exact g_iret S G hr hlk (⟨by simp only [mAsideT, if_neg c_2, if_neg c_8, if_pos hw], by simp only [sAside, if_neg c_2, if_neg c_8, if_pos hw], rfl⟩) (Nat.le_of_ble_eq_true rfl) (Nat.le_of_ble_eq_true rfl) dX6_aside_39
  · refine lv_aload_n S.1 S.2.1 dX6_aside_13 rfl (lv_at hl 1 rfl) ?_
    refine g_getN S G 1 1 (hV 1 _ (by show _ < 6; omega)) (by decide) (by decide) i1 (gn_13 hF) (gvk_or (j := _) rfl rfl (by omega)) dX6_aside_14 ?_
    refine lv_aload S.1 S.2.1 dX6_aside_17 (lv_at hl 0 rfl) ?_
    refine g_getN S G 5 0 (hV 5 _ (by first | decide | (show _ < 12; omega))) (by decide) (by decide) i5 (gn_5 hF) (gvk_oi rfl rfl) dX6_aside_19 ?_
    obtain ⟨hw1, hw6⟩ := hW.win (show tN a < 6 by omega) (show tN b < 12 by omega) hw
    refine g_aald S G 14 (hV 14 _ (by show _ < 6; omega)) rfl rfl rfl (show tN b < 12 by omega) (gqk_r rfl rfl hw1 (by omega)) dX6_aside_22 ?_
    refine lv_astore (lv' := [(5, _), (4, _), (3, _), (0, _), (1, _), (2, _)]) S.1 S.2.1 dX6_aside_23 hl (by decide) rfl (fun ls hl => ?_)
    refine lv_aload S.1 S.2.1 dX6_aside_25 (lv_at hl 0 rfl) ?_
    refine lv_ifnonnull (tgt := 34) S.1 S.2.1 dX6_aside_27 (by decide) ?_
    refine lv_aload S.1 S.2.1 dX6_aside_34 (lv_at hl 0 rfl) ?_
    refine g_getN S G 6 2 hw6 (by decide) (by decide) i6 (gn_26 hF) (gvk_i rfl rfl) dX6_aside_36 ?_
    refine vx_ret ?_
    exact g_iret S G hr hlk (⟨by simp only [mAsideT, if_neg c_2, if_neg c_8, if_neg hw], by simp only [sAside, if_neg c_2, if_neg c_8, if_neg hw], rfl⟩) (Nat.le_of_ble_eq_true rfl) (Nat.le_of_ble_eq_true rfl) dX6_aside_39
set_option maxHeartbeats 4000000 in
set_option maxRecDepth 100000 in
theorem c_X6_bondByCuts (l : Launch) (hlf : l.stackTraces = false) (ids : gIds) (ad : gAd) (κ : gMem) (x : Int32) (hV : cV ids) (hW : cWF ids κ)  : gXi l yX6_bondByCuts wsX6_bondByCuts ({ frames := 7, cells := 8, slots := 64, locals := 111 } : Room) 8 64 [.ref (ad 7 0), .int x] (ids, ad, gk κ) (fun q u => mOneT x 11 = 0 ∧ q = sCuts κ (tN x) (tN (κ 7 0 4)) ∧ u = (ids, ad, gk (κ))) (fun E u => xE (mOneT x 11) E ∧ u = (ids, ad, gk (κ))) := by
  intro D aC A
  refine gx_of (cc := cX6_bondByCuts) (maxL := 5) (ret := (some .int)) (by decide +kernel) rfl (Nat.le_of_ble_eq_true rfl) ?_
  intro p e s m below meth c ls S G hF hr hlk hex hl
  have hl : lv_has ls 5 [(0, _), (1, _)] := hl
  have i3 : ∀ w ∈ wsX20, w ∈ wsX6_bondByCuts := by decide +kernel
  have i5 : ∀ w ∈ wsX40, w ∈ wsX6_bondByCuts := by decide +kernel
  have i7 : ∀ w ∈ wsX60, w ∈ wsX6_bondByCuts := by decide +kernel
  refine lv_aload_n S.1 S.2.1 dX6_bondByCuts_0 rfl (lv_at hl 0 rfl) ?_
  refine lv_iload_n S.1 S.2.1 dX6_bondByCuts_1 rfl (lv_at hl 1 rfl) ?_
  refine gx_cVr S G hF hl 7 (hV 7 _ (by first | decide | (show _ < 1; omega))) (by decide) (c_X6_sensorAt l hlf ids ad _ _ hV) (cwV 1 S.2.2.2.2 gX6_bondByCuts_X6_sensorAt rfl rfl rfl (by decide +kernel) ⟨Nat.le_of_ble_eq_true rfl, Nat.le_of_ble_eq_true rfl⟩) rfl rfl (Nat.le_of_ble_eq_true rfl) dX6_bondByCuts_2 ⟨Nat.le_of_ble_eq_true rfl, Nat.le_of_ble_eq_true rfl⟩ (gx_pass hex hlk (fun E u h => ⟨by obtain ⟨h1, rfl, -⟩ := h; exact xE1 (by simp only [mOneT, if_pos h1]), h.2.2⟩) (Nat.le_of_ble_eq_true rfl) (Nat.le_of_ble_eq_true rfl)) (fun r_2 u_2 H locs hp_2 G => ?_)
  obtain ⟨c_2, rfl, rfl⟩ := hp_2
  have G : gS D aC A s ids ad (gk _) H locs := G
  obtain ⟨hx_2, hj_2⟩ := mIn_rng (m := 11) c_2 (by decide)
  refine lv_astore_n (lv' := [(2, _), (0, _), (1, _)]) S.1 S.2.1 dX6_bondByCuts_5 rfl hl (by decide) rfl (fun ls hl => ?_)
  refine lv_bipush (v := 100) S.1 S.2.1 dX6_bondByCuts_6 (by decide) ?_
  refine lv_aload_n S.1 S.2.1 dX6_bondByCuts_8 rfl (lv_at hl 0 rfl) ?_
  refine g_getN S G 5 5 (hV 5 _ (by first | decide | (show _ < 12; omega))) (by decide) (by decide) i5 (gn_10 hF) (gvk_i rfl rfl) dX6_bondByCuts_9 ?_
  refine lv_iadd S.1 S.2.1 dX6_bondByCuts_12 ?_
  refine lv_istore_n (lv' := [(3, _), (2, _), (0, _), (1, _)]) S.1 S.2.1 dX6_bondByCuts_13 rfl hl (by decide) rfl (fun ls hl => ?_)
  refine lv_iconst (v := 0) S.1 S.2.1 dX6_bondByCuts_14 (by decide) ?_
  refine lv_istore (lv' := [(4, _), (3, _), (2, _), (0, _), (1, _)]) S.1 S.2.1 dX6_bondByCuts_15 hl (by decide) rfl (fun ls hl => ?_)
  obtain ⟨hn, hn80⟩ := hW.cnt
  refine g_forg (tN (κ 7 0 4)) (fun k_17 => [(4, .int (nI k_17)), (3, .int (sCuts κ (tN x) k_17)), (2, .ref (ad 5 (tN x))), (1, .int x), (0, .ref (ad 7 0))]) ?_ G (lv_sub hl [0, 1, 2, 4, 3] rfl)
  intro k_17 H locs ls hk_17 G hl ih_17
  have hl : lv_has ls 5 [(4, _), (3, _), (2, _), (1, _), (0, _)] := hl
  refine lv_iload S.1 S.2.1 dX6_bondByCuts_17 (lv_at hl 0 rfl) ?_
  refine lv_aload_n S.1 S.2.1 dX6_bondByCuts_19 rfl (lv_at hl 4 rfl) ?_
  refine g_get S G 7 4 (hV 7 _ (by first | decide | (show _ < 1; omega))) (by decide) (by decide) i7 (S.2.2.2.2 (.fieldLink RX6 33 "SensorBond" "readingCount" "I") (by decide +kernel)) (gvk_i rfl rfl) dX6_bondByCuts_20 ?_
  refine g_top hn ?_
  refine lv_icmp_ge (tgt := 59) S.1 S.2.1 dX6_bondByCuts_23 (by decide) (fun c_23 => ?_) (fun c_23 => ?_)
  · have hkN_17 : k_17 = (tN (κ 7 0 4)) := g_exit c_23 hk_17 (by omega)
    subst hkN_17
    refine lv_iload_n S.1 S.2.1 dX6_bondByCuts_59 rfl (lv_at hl 1 rfl) ?_
    refine vx_ret ?_
    exact g_iret S G hr hlk (⟨by simp only [mOneT, if_neg c_2, if_pos c_23], rfl, rfl⟩) (Nat.le_of_ble_eq_true rfl) (Nat.le_of_ble_eq_true rfl) dX6_bondByCuts_60
  · have hlt_17 : k_17 < (tN (κ 7 0 4)) := g_stay c_23 hk_17 (by omega)
    have hR := hW.2.1 _ hlt_17
    have hs := hR.2.2.2.1
    refine lv_aload_n S.1 S.2.1 dX6_bondByCuts_26 rfl (lv_at hl 4 rfl) ?_
    refine g_get S G 7 3 (hV 7 _ (by first | decide | (show _ < 1; omega))) (by decide) (by decide) i7 (S.2.2.2.2 (.fieldLink RX6 29 "SensorBond" "readings" "[LSensorBond$Reading;") (by decide +kernel)) (gvk_or (j := 0) rfl rfl (by omega)) dX6_bondByCuts_27 ?_
    refine lv_iload S.1 S.2.1 dX6_bondByCuts_30 (lv_at hl 0 rfl) ?_
    refine g_aald S G 13 (hV 13 _ (by first | decide | (show _ < 1; omega))) rfl rfl rfl (show k_17 < 80 by omega) (gqk_r rfl rfl hR.1 (by omega)) dX6_bondByCuts_32 ?_
    refine g_getN S G 3 0 hR.2.1 (by decide) (by decide) i3 (gn_14 hF) (gvk_r rfl rfl hs.1 (by have := hs.2; omega)) dX6_bondByCuts_33 ?_
    refine lv_aload_n S.1 S.2.1 dX6_bondByCuts_36 rfl (lv_at hl 2 rfl) ?_
    refine g_acmp_ne S G 5 (hV 5 _ hs.2) (hV 5 _ (by show _ < 12; omega)) dX6_bondByCuts_37 (by decide) (fun c_37 => ?_) (fun c_37 => ?_)
    · refine lv_iinc (k := 0) (lv' := [(4, _), (3, _), (2, _), (1, _), (0, _)]) S.1 S.2.1 dX6_bondByCuts_53 hl rfl (g_inc _) (by decide) rfl (fun ls hl => ?_)
      refine lv_goto (tgt := 17) S.1 S.2.1 dX6_bondByCuts_56 (by decide) ?_
      have e : sCuts κ (tN x) (k_17 + 1) = sCuts κ (tN x) k_17 := by simp only [sCuts, if_neg c_2, if_neg c_23, if_neg c_37]
      exact ih_17 hlt_17 _ _ _ G (by rw [e]; exact lv_sub hl [0, 1, 2, 3, 4] rfl)
    · refine lv_iload_n S.1 S.2.1 dX6_bondByCuts_40 rfl (lv_at hl 1 rfl) ?_
      refine lv_aload_n S.1 S.2.1 dX6_bondByCuts_41 rfl (lv_at hl 4 rfl) ?_
      refine g_get S G 7 3 (hV 7 _ (by first | decide | (show _ < 1; omega))) (by decide) (by decide) i7 (S.2.2.2.2 (.fieldLink RX6 29 "SensorBond" "readings" "[LSensorBond$Reading;") (by decide +kernel)) (gvk_or (j := 0) rfl rfl (by omega)) dX6_bondByCuts_42 ?_
      refine lv_iload S.1 S.2.1 dX6_bondByCuts_45 (lv_at hl 0 rfl) ?_
      refine g_aald S G 13 (hV 13 _ (by first | decide | (show _ < 1; omega))) rfl rfl rfl (show k_17 < 80 by omega) (gqk_r rfl rfl hR.1 (by omega)) dX6_bondByCuts_47 ?_
      refine g_getN S G 3 8 hR.2.1 (by decide) (by decide) i3 (gn_22 hF) (gvk_i rfl rfl) dX6_bondByCuts_48 ?_
      refine lv_isub S.1 S.2.1 dX6_bondByCuts_51 ?_
      refine lv_istore_n (lv' := [(3, _), (4, _), (2, _), (1, _), (0, _)]) S.1 S.2.1 dX6_bondByCuts_52 rfl hl (by decide) rfl (fun ls hl => ?_)
      refine lv_iinc (k := 1) (lv' := [(4, _), (3, _), (2, _), (1, _), (0, _)]) S.1 S.2.1 dX6_bondByCuts_53 hl rfl (g_inc _) (by decide) rfl (fun ls hl => ?_)
      refine lv_goto (tgt := 17) S.1 S.2.1 dX6_bondByCuts_56 (by decide) ?_
      have e : sCuts κ (tN x) (k_17 + 1) = sCuts κ (tN x) k_17 - κ 3 k_17 8 := by simp only [sCuts, if_neg c_2, if_neg c_23, if_pos c_37]
      exact ih_17 hlt_17 _ _ _ G (by rw [e]; exact lv_sub hl [0, 1, 2, 3, 4] rfl)
set_option maxHeartbeats 4000000 in
set_option maxRecDepth 100000 in
theorem c_X6_mark (l : Launch) (hlf : l.stackTraces = false) (ids : gIds) (ad : gAd) (κ : gMem) (x : Int32) (hV : cV ids) (hW : cWF ids κ)  : gXi l yX6_mark wsX6_mark ({ frames := 7, cells := 8, slots := 64, locals := 111 } : Room) 8 64 [.ref (ad 7 0), .int x] (ids, ad, gk κ) (fun q u => mOneT x 11 = 0 ∧ q = sMark κ (tN x) (tN (κ 7 0 4)) ∧ u = (ids, ad, gk (κ))) (fun E u => xE (mOneT x 11) E ∧ u = (ids, ad, gk (κ))) := by
  intro D aC A
  refine gx_of (cc := cX6_mark) (maxL := 5) (ret := (some .int)) (by decide +kernel) rfl (Nat.le_of_ble_eq_true rfl) ?_
  intro p e s m below meth c ls S G hF hr hlk hex hl
  have hl : lv_has ls 5 [(0, _), (1, _)] := hl
  have i3 : ∀ w ∈ wsX20, w ∈ wsX6_mark := by decide +kernel
  have i7 : ∀ w ∈ wsX60, w ∈ wsX6_mark := by decide +kernel
  refine lv_aload_n S.1 S.2.1 dX6_mark_0 rfl (lv_at hl 0 rfl) ?_
  refine lv_iload_n S.1 S.2.1 dX6_mark_1 rfl (lv_at hl 1 rfl) ?_
  refine gx_cVr S G hF hl 7 (hV 7 _ (by first | decide | (show _ < 1; omega))) (by decide) (c_X6_sensorAt l hlf ids ad _ _ hV) (cwV 1 S.2.2.2.2 gX6_mark_X6_sensorAt rfl rfl rfl (by decide +kernel) ⟨Nat.le_of_ble_eq_true rfl, Nat.le_of_ble_eq_true rfl⟩) rfl rfl (Nat.le_of_ble_eq_true rfl) dX6_mark_2 ⟨Nat.le_of_ble_eq_true rfl, Nat.le_of_ble_eq_true rfl⟩ (gx_pass hex hlk (fun E u h => ⟨by obtain ⟨h1, rfl, -⟩ := h; exact xE1 (by simp only [mOneT, if_pos h1]), h.2.2⟩) (Nat.le_of_ble_eq_true rfl) (Nat.le_of_ble_eq_true rfl)) (fun r_2 u_2 H locs hp_2 G => ?_)
  obtain ⟨c_2, rfl, rfl⟩ := hp_2
  have G : gS D aC A s ids ad (gk _) H locs := G
  obtain ⟨hx_2, hj_2⟩ := mIn_rng (m := 11) c_2 (by decide)
  refine lv_astore_n (lv' := [(2, _), (0, _), (1, _)]) S.1 S.2.1 dX6_mark_5 rfl hl (by decide) rfl (fun ls hl => ?_)
  refine lv_iconst (v := 0) S.1 S.2.1 dX6_mark_6 (by decide) ?_
  refine lv_istore_n (lv' := [(3, _), (2, _), (0, _), (1, _)]) S.1 S.2.1 dX6_mark_7 rfl hl (by decide) rfl (fun ls hl => ?_)
  refine lv_iconst (v := 0) S.1 S.2.1 dX6_mark_8 (by decide) ?_
  refine lv_istore (lv' := [(4, _), (3, _), (2, _), (0, _), (1, _)]) S.1 S.2.1 dX6_mark_9 hl (by decide) rfl (fun ls hl => ?_)
  obtain ⟨hn, hn80⟩ := hW.cnt
  refine g_forg (tN (κ 7 0 4)) (fun k_11 => [(4, .int (nI k_11)), (3, .int (sMark κ (tN x) k_11)), (2, .ref (ad 5 (tN x))), (1, .int x), (0, .ref (ad 7 0))]) ?_ G (lv_sub hl [0, 1, 2, 4, 3] rfl)
  intro k_11 H locs ls hk_11 G hl ih_11
  have hl : lv_has ls 5 [(4, _), (3, _), (2, _), (1, _), (0, _)] := hl
  refine lv_iload S.1 S.2.1 dX6_mark_11 (lv_at hl 0 rfl) ?_
  refine lv_aload_n S.1 S.2.1 dX6_mark_13 rfl (lv_at hl 4 rfl) ?_
  refine g_get S G 7 4 (hV 7 _ (by first | decide | (show _ < 1; omega))) (by decide) (by decide) i7 (S.2.2.2.2 (.fieldLink RX6 33 "SensorBond" "readingCount" "I") (by decide +kernel)) (gvk_i rfl rfl) dX6_mark_14 ?_
  refine g_top hn ?_
  refine lv_icmp_ge (tgt := 56) S.1 S.2.1 dX6_mark_17 (by decide) (fun c_17 => ?_) (fun c_17 => ?_)
  · have hkN_11 : k_11 = (tN (κ 7 0 4)) := g_exit c_17 hk_11 (by omega)
    subst hkN_11
    refine lv_iload_n S.1 S.2.1 dX6_mark_56 rfl (lv_at hl 1 rfl) ?_
    refine vx_ret ?_
    exact g_iret S G hr hlk (⟨by simp only [mOneT, if_neg c_2, if_pos c_17], rfl, rfl⟩) (Nat.le_of_ble_eq_true rfl) (Nat.le_of_ble_eq_true rfl) dX6_mark_57
  · have hlt_11 : k_11 < (tN (κ 7 0 4)) := g_stay c_17 hk_11 (by omega)
    have hR := hW.2.1 _ hlt_11
    have hs := hR.2.2.2.1
    refine lv_aload_n S.1 S.2.1 dX6_mark_20 rfl (lv_at hl 4 rfl) ?_
    refine g_get S G 7 3 (hV 7 _ (by first | decide | (show _ < 1; omega))) (by decide) (by decide) i7 (S.2.2.2.2 (.fieldLink RX6 29 "SensorBond" "readings" "[LSensorBond$Reading;") (by decide +kernel)) (gvk_or (j := 0) rfl rfl (by omega)) dX6_mark_21 ?_
    refine lv_iload S.1 S.2.1 dX6_mark_24 (lv_at hl 0 rfl) ?_
    refine g_aald S G 13 (hV 13 _ (by first | decide | (show _ < 1; omega))) rfl rfl rfl (show k_11 < 80 by omega) (gqk_r rfl rfl hR.1 (by omega)) dX6_mark_26 ?_
    refine g_getN S G 3 0 hR.2.1 (by decide) (by decide) i3 (gn_14 hF) (gvk_r rfl rfl hs.1 (by have := hs.2; omega)) dX6_mark_27 ?_
    refine lv_aload_n S.1 S.2.1 dX6_mark_30 rfl (lv_at hl 2 rfl) ?_
    refine g_acmp_ne S G 5 (hV 5 _ hs.2) (hV 5 _ (by show _ < 12; omega)) dX6_mark_31 (by decide) (fun c_31 => ?_) (fun c_31 => ?_)
    · refine lv_iinc (k := 0) (lv' := [(4, _), (3, _), (2, _), (1, _), (0, _)]) S.1 S.2.1 dX6_mark_50 hl rfl (g_inc _) (by decide) rfl (fun ls hl => ?_)
      refine lv_goto (tgt := 11) S.1 S.2.1 dX6_mark_53 (by decide) ?_
      have e : sMark κ (tN x) (k_11 + 1) = sMark κ (tN x) k_11 := by simp only [sMark, if_neg c_2, if_neg c_17, if_neg c_31]
      exact ih_11 hlt_11 _ _ _ G (by rw [e]; exact lv_sub hl [0, 1, 2, 3, 4] rfl)
    · refine lv_iload_n S.1 S.2.1 dX6_mark_34 rfl (lv_at hl 1 rfl) ?_
      refine lv_aload_n S.1 S.2.1 dX6_mark_35 rfl (lv_at hl 4 rfl) ?_
      refine g_get S G 7 3 (hV 7 _ (by first | decide | (show _ < 1; omega))) (by decide) (by decide) i7 (S.2.2.2.2 (.fieldLink RX6 29 "SensorBond" "readings" "[LSensorBond$Reading;") (by decide +kernel)) (gvk_or (j := 0) rfl rfl (by omega)) dX6_mark_36 ?_
      refine lv_iload S.1 S.2.1 dX6_mark_39 (lv_at hl 0 rfl) ?_
      refine g_aald S G 13 (hV 13 _ (by first | decide | (show _ < 1; omega))) rfl rfl rfl (show k_11 < 80 by omega) (gqk_r rfl rfl hR.1 (by omega)) dX6_mark_41 ?_
      refine g_getN S G 3 3 hR.2.1 (by decide) (by decide) i3 (gn_17 hF) (gvk_i rfl rfl) dX6_mark_42 ?_
      refine g_cSi S G hF hl (c_X6_weightOf l ids ad _ _) (va_cwS 1 S.2.2.2.2 gX6_mark_X6_weightOf rfl rfl rfl (by decide +kernel) ⟨Nat.le_of_ble_eq_true rfl, Nat.le_of_ble_eq_true rfl⟩) rfl rfl (Nat.le_of_ble_eq_true rfl) dX6_mark_45 ⟨Nat.le_of_ble_eq_true rfl, Nat.le_of_ble_eq_true rfl⟩ (fun r_45 u_45 H locs hp_45 G => ?_)
      obtain ⟨rfl, rfl⟩ := hp_45
      have G : gS D aC A s ids ad (gk _) H locs := G
      refine lv_iadd S.1 S.2.1 dX6_mark_48 ?_
      refine lv_istore_n (lv' := [(3, _), (4, _), (2, _), (1, _), (0, _)]) S.1 S.2.1 dX6_mark_49 rfl hl (by decide) rfl (fun ls hl => ?_)
      refine lv_iinc (k := 1) (lv' := [(4, _), (3, _), (2, _), (1, _), (0, _)]) S.1 S.2.1 dX6_mark_50 hl rfl (g_inc _) (by decide) rfl (fun ls hl => ?_)
      refine lv_goto (tgt := 11) S.1 S.2.1 dX6_mark_53 (by decide) ?_
      have e : sMark κ (tN x) (k_11 + 1) = sMark κ (tN x) k_11 + sWeight (κ 3 k_11 3) := by simp only [sMark, if_neg c_2, if_neg c_17, if_pos c_31]
      exact ih_11 hlt_11 _ _ _ G (by rw [e]; exact lv_sub hl [0, 1, 2, 3, 4] rfl)
set_option maxHeartbeats 4000000 in
set_option maxRecDepth 100000 in
theorem c_X6_sample (l : Launch) (hlf : l.stackTraces = false) (ids : gIds) (ad : gAd) (κ : gMem) (a x v : Int32) (hV : cV ids) (hW : cWF ids κ)  : gXi l yX6_sample wsX6_sample ({ frames := 7, cells := 8, slots := 64, locals := 112 } : Room) 8 64 [.ref (ad 7 0), .int a, .int x, .int v] (ids, ad, gk κ) (fun q u => sSampleT κ a x v = 0 ∧ q = sSampleK κ (tN a) (tN x) v 3 (tN x) 3 ∧ u = (ids, ad, gk (sSampleK κ (tN a) (tN x) v))) (fun E u => xE (sSampleT κ a x v) E ∧ u = (ids, ad, gk (κ))) := by
  intro D aC A
  refine gx_of (cc := cX6_sample) (maxL := 7) (ret := (some .int)) (by decide +kernel) rfl (Nat.le_of_ble_eq_true rfl) ?_
  intro p e s m below meth c ls S G hF hr hlk hex hl
  have hl : lv_has ls 7 [(0, _), (1, _), (2, _), (3, _)] := hl
  have i2 : ∀ w ∈ wsX10, w ∈ wsX6_sample := by decide +kernel
  have i3 : ∀ w ∈ wsX20, w ∈ wsX6_sample := by decide +kernel
  have i5 : ∀ w ∈ wsX40, w ∈ wsX6_sample := by decide +kernel
  refine lv_aload_n S.1 S.2.1 dX6_sample_0 rfl (lv_at hl 0 rfl) ?_
  refine lv_iload_n S.1 S.2.1 dX6_sample_1 rfl (lv_at hl 1 rfl) ?_
  refine gx_cVr S G hF hl 7 (hV 7 _ (by first | decide | (show _ < 1; omega))) (by decide) (c_X6_sensorAt l hlf ids ad _ _ hV) (cwV 1 S.2.2.2.2 gX6_sample_X6_sensorAt rfl rfl rfl (by decide +kernel) ⟨Nat.le_of_ble_eq_true rfl, Nat.le_of_ble_eq_true rfl⟩) rfl rfl (Nat.le_of_ble_eq_true rfl) dX6_sample_2 ⟨Nat.le_of_ble_eq_true rfl, Nat.le_of_ble_eq_true rfl⟩ (gx_pass hex hlk (fun E u h => ⟨by obtain ⟨h1, rfl, -⟩ := h; exact xE1 (by simp only [sSampleT, if_pos h1]), h.2.2⟩) (Nat.le_of_ble_eq_true rfl) (Nat.le_of_ble_eq_true rfl)) (fun r_2 u_2 H locs hp_2 G => ?_)
  obtain ⟨c_2, rfl, rfl⟩ := hp_2
  have G : gS D aC A s ids ad (gk _) H locs := G
  obtain ⟨hx_2, hj_2⟩ := mIn_rng (m := 11) c_2 (by decide)
  refine lv_astore (lv' := [(4, _), (0, _), (1, _), (2, _), (3, _)]) S.1 S.2.1 dX6_sample_5 hl (by decide) rfl (fun ls hl => ?_)
  refine lv_aload_n S.1 S.2.1 dX6_sample_7 rfl (lv_at hl 1 rfl) ?_
  refine lv_iload_n S.1 S.2.1 dX6_sample_8 rfl (lv_at hl 3 rfl) ?_
  refine gx_cVr S G hF hl 7 (hV 7 _ (by first | decide | (show _ < 1; omega))) (by decide) (c_X6_readingAt l hlf ids ad _ _ hV hW) (cwV 1 S.2.2.2.2 gX6_sample_X6_readingAt rfl rfl rfl (by decide +kernel) ⟨Nat.le_of_ble_eq_true rfl, Nat.le_of_ble_eq_true rfl⟩) rfl rfl (Nat.le_of_ble_eq_true rfl) dX6_sample_9 ⟨Nat.le_of_ble_eq_true rfl, Nat.le_of_ble_eq_true rfl⟩ (gx_pass hex hlk (fun E u h => ⟨by obtain ⟨h1, rfl, -⟩ := h; exact xE1 (by simp only [sSampleT, if_neg c_2, if_pos h1]), h.2.2⟩) (Nat.le_of_ble_eq_true rfl) (Nat.le_of_ble_eq_true rfl)) (fun r_9 u_9 H locs hp_9 G => ?_)
  obtain ⟨c_9, rfl, rfl⟩ := hp_9
  have G : gS D aC A s ids ad (gk _) H locs := G
  obtain ⟨hn, hn80⟩ := hW.cnt
  obtain ⟨hx_9, hj_9⟩ := mIn_rd (n := tN (κ 7 0 4)) (by rw [← hn]; exact c_9) hn80
  have hR := hW.2.1 _ hj_9
  refine lv_astore (lv' := [(5, _), (4, _), (0, _), (1, _), (2, _), (3, _)]) S.1 S.2.1 dX6_sample_12 hl (by decide) rfl (fun ls hl => ?_)
  refine lv_iload_n S.1 S.2.1 dX6_sample_14 rfl (lv_at hl 5 rfl) ?_
  refine lv_iconst (v := 0) S.1 S.2.1 dX6_sample_15 (by decide) ?_
  refine lv_bipush (v := 99) S.1 S.2.1 dX6_sample_16 (by decide) ?_
  refine gx_cSv S G hF hl (c_X6_checkWithin l hlf ids ad _ _ _ _) (va_cwS 3 S.2.2.2.2 gX6_sample_X6_checkWithin rfl rfl rfl (by decide +kernel) ⟨Nat.le_of_ble_eq_true rfl, Nat.le_of_ble_eq_true rfl⟩) rfl rfl (Nat.le_of_ble_eq_true rfl) dX6_sample_18 ⟨Nat.le_of_ble_eq_true rfl, Nat.le_of_ble_eq_true rfl⟩ (gx_pass hex hlk (fun E u h => ⟨by obtain ⟨h1, rfl, -⟩ := h; exact xE2 (by simp only [sSampleT, if_neg c_2, if_neg c_9, if_pos h1]), h.2.2⟩) (Nat.le_of_ble_eq_true rfl) (Nat.le_of_ble_eq_true rfl)) (fun u_18 H locs hp_18 G => ?_)
  obtain ⟨c_18, rfl⟩ := hp_18
  have G : gS D aC A s ids ad (gk _) H locs := G
  by_cases h9 : κ 3 (tN x) 9 < 0
  · refine lv_aload S.1 S.2.1 dX6_sample_21 (lv_at hl 0 rfl) ?_
    have hs := hR.2.2.2.1
    refine g_getN S G 3 9 hR.2.1 (by decide) (by decide) i3 (gn_23 hF) (gvk_n rfl rfl h9) dX6_sample_23 ?_
    refine lv_astoreN (lv' := [(6, _), (5, _), (4, _), (0, _), (1, _), (2, _), (3, _)]) S.1 S.2.1 dX6_sample_26 hl (by decide) rfl (fun ls hl => ?_)
    refine lv_aloadN S.1 S.2.1 dX6_sample_28 (lv_at hl 0 rfl) ?_
    refine lv_ifnullN (tgt := 67) S.1 S.2.1 dX6_sample_30 (by decide) ?_
    exact g_throw (cls := "java/lang/IllegalStateException") (text := "the sensor can give no sample for the reading") S G hF hlf hlk hex hl.1 rfl (by decide +kernel) (by decide +kernel) (by decide +kernel) (by decide +kernel) (by decide +kernel) (by decide +kernel) (by decide +kernel) (by decide +kernel) dX6_sample_67 dX6_sample_70 (Or.inl ⟨dX6_sample_71, dX6_sample_73, dX6_sample_76⟩) (Nat.le_of_ble_eq_true rfl) (Nat.le_of_ble_eq_true rfl) (Nat.le_of_ble_eq_true rfl) (Nat.le_of_ble_eq_true rfl) (⟨xE3 (by simp only [sSampleT, if_neg c_2, if_neg c_9, if_neg c_18, if_pos h9]), rfl⟩) (Nat.le_of_ble_eq_true rfl) (Nat.le_of_ble_eq_true rfl)
  · refine lv_aload S.1 S.2.1 dX6_sample_21 (lv_at hl 0 rfl) ?_
    have hs := hR.2.2.2.1
    obtain ⟨h9r, h2, h16, hc, hct⟩ := hR.ch h9
    refine g_getN S G 3 9 hR.2.1 (by decide) (by decide) i3 (gn_23 hF) (gvk_r rfl rfl h9r (by omega)) dX6_sample_23 ?_
    refine lv_astore (lv' := [(6, _), (5, _), (4, _), (0, _), (1, _), (2, _), (3, _)]) S.1 S.2.1 dX6_sample_26 hl (by decide) rfl (fun ls hl => ?_)
    refine lv_aload S.1 S.2.1 dX6_sample_28 (lv_at hl 0 rfl) ?_
    refine lv_ifnull S.1 S.2.1 dX6_sample_30 ?_
    refine lv_aload S.1 S.2.1 dX6_sample_33 (lv_at hl 1 rfl) ?_
    refine g_getN S G 3 3 hR.2.1 (by decide) (by decide) i3 (gn_17 hF) (gvk_i rfl rfl) dX6_sample_35 ?_
    refine lv_iconst (v := 1) S.1 S.2.1 dX6_sample_38 (by decide) ?_
    refine lv_icmp_ne (tgt := 67) S.1 S.2.1 dX6_sample_39 (by decide) (fun c_39 => ?_) (fun c_39 => ?_)
    · exact g_throw (cls := "java/lang/IllegalStateException") (text := "the sensor can give no sample for the reading") S G hF hlf hlk hex hl.1 rfl (by decide +kernel) (by decide +kernel) (by decide +kernel) (by decide +kernel) (by decide +kernel) (by decide +kernel) (by decide +kernel) (by decide +kernel) dX6_sample_67 dX6_sample_70 (Or.inl ⟨dX6_sample_71, dX6_sample_73, dX6_sample_76⟩) (Nat.le_of_ble_eq_true rfl) (Nat.le_of_ble_eq_true rfl) (Nat.le_of_ble_eq_true rfl) (Nat.le_of_ble_eq_true rfl) (⟨xE3 (by simp only [sSampleT, if_neg c_2, if_neg c_9, if_neg c_18, if_neg h9, if_neg c_39]), rfl⟩) (Nat.le_of_ble_eq_true rfl) (Nat.le_of_ble_eq_true rfl)
    · refine lv_iload_n S.1 S.2.1 dX6_sample_42 rfl (lv_at hl 4 rfl) ?_
      refine lv_aload S.1 S.2.1 dX6_sample_43 (lv_at hl 1 rfl) ?_
      refine g_getN S G 3 0 hR.2.1 (by decide) (by decide) i3 (gn_14 hF) (gvk_r rfl rfl hs.1 (by have := hs.2; omega)) dX6_sample_45 ?_
      refine g_getN S G 5 0 (hV 5 _ hs.2) (by decide) (by decide) i5 (gn_5 hF) (gvk_oi rfl rfl) dX6_sample_48 ?_
      refine g_cSi S G hF hl (c_X6_areNeighbours l ids ad _ _ _) (va_cwS 2 S.2.2.2.2 gX6_sample_X6_areNeighbours rfl rfl rfl (by decide +kernel) ⟨Nat.le_of_ble_eq_true rfl, Nat.le_of_ble_eq_true rfl⟩) rfl rfl (Nat.le_of_ble_eq_true rfl) dX6_sample_51 ⟨Nat.le_of_ble_eq_true rfl, Nat.le_of_ble_eq_true rfl⟩ (fun r_51 u_51 H locs hp_51 G => ?_)
      obtain ⟨rfl, rfl⟩ := hp_51
      have G : gS D aC A s ids ad (gk _) H locs := G
      refine lv_if_eq (tgt := 67) S.1 S.2.1 dX6_sample_54 (by decide) (fun c_54 => ?_) (fun c_54 => ?_)
      · exact g_throw (cls := "java/lang/IllegalStateException") (text := "the sensor can give no sample for the reading") S G hF hlf hlk hex hl.1 rfl (by decide +kernel) (by decide +kernel) (by decide +kernel) (by decide +kernel) (by decide +kernel) (by decide +kernel) (by decide +kernel) (by decide +kernel) dX6_sample_67 dX6_sample_70 (Or.inl ⟨dX6_sample_71, dX6_sample_73, dX6_sample_76⟩) (Nat.le_of_ble_eq_true rfl) (Nat.le_of_ble_eq_true rfl) (Nat.le_of_ble_eq_true rfl) (Nat.le_of_ble_eq_true rfl) (⟨xE3 (by simp only [sSampleT, if_neg c_2, if_neg c_9, if_neg c_18, if_neg h9, if_pos c_39, if_pos c_54]), rfl⟩) (Nat.le_of_ble_eq_true rfl) (Nat.le_of_ble_eq_true rfl)
      · refine lv_aload S.1 S.2.1 dX6_sample_57 (lv_at hl 0 rfl) ?_
        refine lv_aload S.1 S.2.1 dX6_sample_59 (lv_at hl 2 rfl) ?_
        refine g_cNi S G hF hl 2 h2 (by decide) (c_X1_hasSampleOf l ids ad _ _ _ h2 (hV 5 _ (by show _ < 12; omega))) ⟨va_cnB 1 S.2.2.2.2 gX6_sample_X1_hasSampleOf_n183 rfl rfl rfl (gm_8 hF) (S.2.2.2.2 (.initialized RX1) (by decide +kernel)) (by decide +kernel) ⟨Nat.le_of_ble_eq_true rfl, Nat.le_of_ble_eq_true rfl⟩, S.2.2.2.2 (.instanceMethod yX1_hasSampleOf) (by decide +kernel), S.2.2.2.2 (.selects RX1 yX1_hasSampleOf yX1_hasSampleOf) (by decide +kernel)⟩ rfl rfl (Nat.le_of_ble_eq_true rfl) dX6_sample_61 ⟨Nat.le_of_ble_eq_true rfl, Nat.le_of_ble_eq_true rfl⟩ (fun r_61 u_61 H locs hp_61 G => ?_)
        obtain ⟨rfl, rfl⟩ := hp_61
        have G : gS D aC A s ids ad (gk _) H locs := G
        refine lv_if_eq (tgt := 77) S.1 S.2.1 dX6_sample_64 (by decide) (fun c_64 => ?_) (fun c_64 => ?_)
        · refine lv_aload S.1 S.2.1 dX6_sample_77 (lv_at hl 0 rfl) ?_
          refine lv_aload S.1 S.2.1 dX6_sample_79 (lv_at hl 2 rfl) ?_
          refine lv_iload_n S.1 S.2.1 dX6_sample_81 rfl (lv_at hl 6 rfl) ?_
          refine g_cNv S G hF hl 2 h2 (by decide) (c_X1_addSample l ids ad _ _ _ _ (hV 5 _ (by show _ < 12; omega)) (by omega) h2 h16 hct) ⟨va_cnB 2 S.2.2.2.2 gX6_sample_X1_addSample_n189 rfl rfl rfl (gm_9 hF) (S.2.2.2.2 (.initialized RX1) (by decide +kernel)) (by decide +kernel) ⟨Nat.le_of_ble_eq_true rfl, Nat.le_of_ble_eq_true rfl⟩, S.2.2.2.2 (.instanceMethod yX1_addSample) (by decide +kernel), S.2.2.2.2 (.selects RX1 yX1_addSample yX1_addSample) (by decide +kernel)⟩ rfl rfl (Nat.le_of_ble_eq_true rfl) dX6_sample_82 ⟨Nat.le_of_ble_eq_true rfl, Nat.le_of_ble_eq_true rfl⟩ (fun u_82 H locs hp_82 G => ?_)
          obtain rfl := hp_82
          have G : gS D aC A s ids ad (gk _) H locs := G
          have hr80 : tN x < 80 := by omega
          have hR := sAdd_Rd (s := tN a) (v := v) hR
          have hs2 := hR.2.2.2.1
          have ks : sAdd κ (tN x) (tN a) v 3 (tN x) 0 = κ 3 (tN x) 0 := sAdd_keep (by decide) (by decide)
          have k9 : sAdd κ (tN x) (tN a) v 3 (tN x) 9 = κ 3 (tN x) 9 := sAdd_keep (by decide) (by decide)
          refine lv_aload S.1 S.2.1 dX6_sample_85 (lv_at hl 0 rfl) ?_
          refine g_getN S G 2 2 h2 (by decide) (by decide) i2 (gn_28 hF) (gvk_i rfl rfl) dX6_sample_87 ?_
          refine lv_aload S.1 S.2.1 dX6_sample_90 (lv_at hl 1 rfl) ?_
          refine g_getN S G 3 0 hR.2.1 (by decide) (by decide) i3 (gn_14 hF) (gvk_r rfl rfl hs2.1 (by have := hs2.2; omega)) dX6_sample_92 ?_
          refine g_getN S G 5 0 (hV 5 _ hs2.2) (by decide) (by decide) i5 (gn_5 hF) (gvk_oi rfl rfl) dX6_sample_95 ?_
          refine g_cSi S G hF hl (c_X6_countNeighbours l ids ad _ _) (va_cwS 1 S.2.2.2.2 gX6_sample_X6_countNeighbours rfl rfl rfl (by decide +kernel) ⟨Nat.le_of_ble_eq_true rfl, Nat.le_of_ble_eq_true rfl⟩) rfl rfl (Nat.le_of_ble_eq_true rfl) dX6_sample_98 ⟨Nat.le_of_ble_eq_true rfl, Nat.le_of_ble_eq_true rfl⟩ (fun r_98 u_98 H locs hp_98 G => ?_)
          obtain ⟨rfl, rfl⟩ := hp_98
          have G : gS D aC A s ids ad (gk _) H locs := G
          refine lv_icmp_ne (tgt := 112) S.1 S.2.1 dX6_sample_101 (by decide) (fun c_101 => ?_) (fun c_101 => ?_)
          · refine lv_aload S.1 S.2.1 dX6_sample_112 (lv_at hl 1 rfl) ?_
            refine g_getN S G 3 3 hR.2.1 (by decide) (by decide) i3 (gn_17 hF) (gvk_i rfl rfl) dX6_sample_114 ?_
            refine vx_ret ?_
            exact g_iret S G hr hlk (⟨by simp only [sSampleT, if_neg c_2, if_neg c_9, if_neg c_18, if_neg h9, if_pos c_39, if_neg c_54, if_pos c_64, if_neg c_101], by simp only [sSampleK, ← ks, if_neg c_101], by simp only [sSampleK, ← ks, if_neg c_101]⟩) (Nat.le_of_ble_eq_true rfl) (Nat.le_of_ble_eq_true rfl) dX6_sample_117
          · refine lv_aload_n S.1 S.2.1 dX6_sample_104 rfl (lv_at hl 3 rfl) ?_
            refine lv_aload S.1 S.2.1 dX6_sample_105 (lv_at hl 1 rfl) ?_
            refine lv_aload S.1 S.2.1 dX6_sample_107 (lv_at hl 0 rfl) ?_
            refine g_cVv S G hF hl 7 (hV 7 _ (by first | decide | (show _ < 1; omega))) (by decide) (c_X6_judge l ids ad _ _ hV hr80 hR (by rw [k9]; exact h9)) (cwV 2 S.2.2.2.2 gX6_sample_X6_judge rfl rfl rfl (by decide +kernel) ⟨Nat.le_of_ble_eq_true rfl, Nat.le_of_ble_eq_true rfl⟩) rfl rfl (Nat.le_of_ble_eq_true rfl) dX6_sample_109 ⟨Nat.le_of_ble_eq_true rfl, Nat.le_of_ble_eq_true rfl⟩ (fun u_109 H locs hp_109 G => ?_)
            obtain rfl := hp_109
            have G : gS D aC A s ids ad (gk _) H locs := G
            refine lv_aload S.1 S.2.1 dX6_sample_112 (lv_at hl 1 rfl) ?_
            refine g_getN S G 3 3 hR.2.1 (by decide) (by decide) i3 (gn_17 hF) (gvk_i rfl rfl) dX6_sample_114 ?_
            refine vx_ret ?_
            exact g_iret S G hr hlk (⟨by simp only [sSampleT, if_neg c_2, if_neg c_9, if_neg c_18, if_neg h9, if_pos c_39, if_neg c_54, if_pos c_64, if_pos c_101], by simp only [sSampleK, ← ks, if_pos c_101], by simp only [sSampleK, ← ks, if_pos c_101]⟩) (Nat.le_of_ble_eq_true rfl) (Nat.le_of_ble_eq_true rfl) dX6_sample_117
        · exact g_throw (cls := "java/lang/IllegalStateException") (text := "the sensor can give no sample for the reading") S G hF hlf hlk hex hl.1 rfl (by decide +kernel) (by decide +kernel) (by decide +kernel) (by decide +kernel) (by decide +kernel) (by decide +kernel) (by decide +kernel) (by decide +kernel) dX6_sample_67 dX6_sample_70 (Or.inl ⟨dX6_sample_71, dX6_sample_73, dX6_sample_76⟩) (Nat.le_of_ble_eq_true rfl) (Nat.le_of_ble_eq_true rfl) (Nat.le_of_ble_eq_true rfl) (Nat.le_of_ble_eq_true rfl) (⟨xE3 (by simp only [sSampleT, if_neg c_2, if_neg c_9, if_neg c_18, if_neg h9, if_pos c_39, if_neg c_54, if_neg c_64]), rfl⟩) (Nat.le_of_ble_eq_true rfl) (Nat.le_of_ble_eq_true rfl)
set_option maxHeartbeats 4000000 in
set_option maxRecDepth 100000 in
theorem c_X6_advance (l : Launch) (hlf : l.stackTraces = false) (ids : gIds) (ad : gAd) (κ : gMem) (t : Int32) (hV : cV ids) (hW : cWF ids κ) (htk : ixL (κ 7 0 6) 10001)  : gXi l yX6_advance wsX6_advance ({ frames := 7, cells := 8, slots := 64, locals := 151 } : Room) 8 64 [.ref (ad 7 0), .int t] (ids, ad, gk κ) (fun q u => sAdvT κ t = 0 ∧ q = sAdvK κ t 7 0 6 ∧ u = (ids, ad, gk (sAdvK κ t))) (fun E u => xE (sAdvT κ t) E ∧ u = (ids, ad, gk (κ))) := by
  intro D aC A
  refine gx_of (cc := cX6_advance) (maxL := 4) (ret := (some .int)) (by decide +kernel) rfl (Nat.le_of_ble_eq_true rfl) ?_
  intro p e s m below meth c ls S G hF hr hlk hex hl
  have hl : lv_has ls 4 [(0, _), (1, _)] := hl
  have i7 : ∀ w ∈ wsX60, w ∈ wsX6_advance := by decide +kernel
  refine lv_iload_n S.1 S.2.1 dX6_advance_0 rfl (lv_at hl 1 rfl) ?_
  refine lv_iconst (v := 1) S.1 S.2.1 dX6_advance_1 (by decide) ?_
  refine lv_bipush (v := 100) S.1 S.2.1 dX6_advance_2 (by decide) ?_
  refine gx_cSv S G hF hl (c_X6_checkWithin l hlf ids ad _ _ _ _) (va_cwS 3 S.2.2.2.2 gX6_advance_X6_checkWithin rfl rfl rfl (by decide +kernel) ⟨Nat.le_of_ble_eq_true rfl, Nat.le_of_ble_eq_true rfl⟩) rfl rfl (Nat.le_of_ble_eq_true rfl) dX6_advance_4 ⟨Nat.le_of_ble_eq_true rfl, Nat.le_of_ble_eq_true rfl⟩ (gx_pass hex hlk (fun E u h => ⟨by obtain ⟨h1, rfl, -⟩ := h; exact xE2 (by simp only [sAdvT, if_pos h1]), h.2.2⟩) (Nat.le_of_ble_eq_true rfl) (Nat.le_of_ble_eq_true rfl)) (fun u_4 H locs hp_4 G => ?_)
  obtain ⟨c_4, rfl⟩ := hp_4
  have G : gS D aC A s ids ad (gk _) H locs := G
  refine lv_aload_n S.1 S.2.1 dX6_advance_7 rfl (lv_at hl 0 rfl) ?_
  refine g_get S G 7 6 (hV 7 _ (by first | decide | (show _ < 1; omega))) (by decide) (by decide) i7 (S.2.2.2.2 (.fieldLink RX6 40 "SensorBond" "tick" "I") (by decide +kernel)) (gvk_i rfl rfl) dX6_advance_8 ?_
  refine lv_iload_n S.1 S.2.1 dX6_advance_11 rfl (lv_at hl 1 rfl) ?_
  refine lv_iadd S.1 S.2.1 dX6_advance_12 ?_
  refine lv_istore_n (lv' := [(2, _), (0, _), (1, _)]) S.1 S.2.1 dX6_advance_13 rfl hl (by decide) rfl (fun ls hl => ?_)
  refine lv_iload_n S.1 S.2.1 dX6_advance_14 rfl (lv_at hl 0 rfl) ?_
  refine lv_sipush (v := 10000) S.1 S.2.1 dX6_advance_15 (by decide) ?_
  refine lv_icmp_le (tgt := 31) S.1 S.2.1 dX6_advance_18 (by decide) (fun c_18 => ?_) (fun c_18 => ?_)
  · refine lv_aload_n S.1 S.2.1 dX6_advance_31 rfl (lv_at hl 1 rfl) ?_
    refine g_get S G 7 6 (hV 7 _ (by first | decide | (show _ < 1; omega))) (by decide) (by decide) i7 (S.2.2.2.2 (.fieldLink RX6 40 "SensorBond" "tick" "I") (by decide +kernel)) (gvk_i rfl rfl) dX6_advance_32 ?_
    refine lv_istore_n (lv' := [(3, _), (2, _), (0, _), (1, _)]) S.1 S.2.1 dX6_advance_35 rfl hl (by decide) rfl (fun ls hl => ?_)
    obtain ⟨ht1, ht2, ht3⟩ := mIn_rng' (m := 100) c_4 (by decide) (by decide)
    obtain ⟨k0, hk0, ek0⟩ := ixL_ex htk
    obtain ⟨tg, htg⟩ : ∃ z, sAdvI 101 κ (κ 7 0 6) (κ 7 0 6 + t) = z := ⟨_, rfl⟩
    have et : κ 7 0 6 + t = nI (k0 + tN t) := by rw [ek0, ht1, nI_add, tN_nI (by omega)]
    refine g_while (σ := gMem × Nat) (fun y => y.2 ≤ tN t ∧ cWF ids y.1 ∧ sAdvI (101 - y.2) y.1 (nI (k0 + y.2)) (κ 7 0 6 + t) = tg) (fun y => 101 - y.2) (fun y => y.1) (fun y => [(3, .int (nI (k0 + y.2))), (2, .int (κ 7 0 6 + t)), (1, .int t), (0, .ref (ad 7 0))]) ?_ (κ, 0) ⟨by omega, hW, by rw [← htg, ek0]; rfl⟩ G (by show lv_has ls 4 [(3, .int (nI (k0 + 0))), _, _, _]; rw [Nat.add_zero, ← ek0]; exact lv_sub hl [0, 1, 3, 2] rfl)
    rintro ⟨κ1, i⟩ H locs ls ⟨hi, hW1, hS⟩ G hl ih_36
    dsimp only at hi hW1 hS G hl
    obtain ⟨n, hn⟩ : ∃ q, 101 - i = q + 1 := ⟨100 - i, by omega⟩
    rw [hn, sAdvI] at hS
    have hl : lv_has ls 4 [(3, _), (2, _), (1, _), (0, _)] := hl
    refine lv_iload_n S.1 S.2.1 dX6_advance_36 rfl (lv_at hl 0 rfl) ?_
    refine lv_iload_n S.1 S.2.1 dX6_advance_37 rfl (lv_at hl 1 rfl) ?_
    refine lv_icmp_ge (tgt := 60) S.1 S.2.1 dX6_advance_38 (by decide) (fun c_38 => ?_) (fun c_38 => ?_)
    · rw [if_pos c_38] at hS
      subst hS
      refine lv_aload_n S.1 S.2.1 dX6_advance_60 rfl (lv_at hl 3 rfl) ?_
      refine lv_iload_n S.1 S.2.1 dX6_advance_61 rfl (lv_at hl 1 rfl) ?_
      refine g_put (ty := .int) S G 7 6 (hV 7 _ (by first | decide | (show _ < 1; omega))) (by decide) (by decide) i7 (S.2.2.2.2 (.fieldLink RX6 40 "SensorBond" "tick" "I") (by decide +kernel)) rfl (by decide +kernel) rfl rfl (gw_i rfl) dX6_advance_62 (fun H locs G => ?_)
      have G := gk_S rfl G
      refine lv_aload_n S.1 S.2.1 dX6_advance_65 rfl (lv_at hl 3 rfl) ?_
      refine g_get S G 7 6 (hV 7 _ (by first | decide | (show _ < 1; omega))) (by decide) (by decide) i7 (S.2.2.2.2 (.fieldLink RX6 40 "SensorBond" "tick" "I") (by decide +kernel)) (gvk_i rfl rfl) dX6_advance_66 ?_
      refine vx_ret ?_
      exact g_iret S G hr hlk (⟨by simp only [sAdvT, if_neg c_4, if_pos c_18], by simp only [sAdvK, upd3_s], by simp only [sAdvK, htg]⟩) (Nat.le_of_ble_eq_true rfl) (Nat.le_of_ble_eq_true rfl) dX6_advance_69
    · refine lv_iload_n S.1 S.2.1 dX6_advance_41 rfl (lv_at hl 0 rfl) ?_
      refine lv_aload_n S.1 S.2.1 dX6_advance_42 rfl (lv_at hl 3 rfl) ?_
      refine g_get S G 7 7 (hV 7 _ (by first | decide | (show _ < 1; omega))) (by decide) (by decide) i7 (S.2.2.2.2 (.fieldLink RX6 43 "SensorBond" "busyUntil" "I") (by decide +kernel)) (gvk_i rfl rfl) dX6_advance_43 ?_
      refine lv_icmp_gt (tgt := 60) S.1 S.2.1 dX6_advance_46 (by decide) (fun c_46 => ?_) (fun c_46 => ?_)
      · rw [if_neg c_38, if_pos c_46] at hS
        subst hS
        refine lv_aload_n S.1 S.2.1 dX6_advance_60 rfl (lv_at hl 3 rfl) ?_
        refine lv_iload_n S.1 S.2.1 dX6_advance_61 rfl (lv_at hl 1 rfl) ?_
        refine g_put (ty := .int) S G 7 6 (hV 7 _ (by first | decide | (show _ < 1; omega))) (by decide) (by decide) i7 (S.2.2.2.2 (.fieldLink RX6 40 "SensorBond" "tick" "I") (by decide +kernel)) rfl (by decide +kernel) rfl rfl (gw_i rfl) dX6_advance_62 (fun H locs G => ?_)
        have G := gk_S rfl G
        refine lv_aload_n S.1 S.2.1 dX6_advance_65 rfl (lv_at hl 3 rfl) ?_
        refine g_get S G 7 6 (hV 7 _ (by first | decide | (show _ < 1; omega))) (by decide) (by decide) i7 (S.2.2.2.2 (.fieldLink RX6 40 "SensorBond" "tick" "I") (by decide +kernel)) (gvk_i rfl rfl) dX6_advance_66 ?_
        refine vx_ret ?_
        exact g_iret S G hr hlk (⟨by simp only [sAdvT, if_neg c_4, if_pos c_18], by simp only [sAdvK, upd3_s], by simp only [sAdvK, htg]⟩) (Nat.le_of_ble_eq_true rfl) (Nat.le_of_ble_eq_true rfl) dX6_advance_69
      · refine lv_aload_n S.1 S.2.1 dX6_advance_49 rfl (lv_at hl 3 rfl) ?_
        refine lv_iload_n S.1 S.2.1 dX6_advance_50 rfl (lv_at hl 0 rfl) ?_
        refine g_cVv S G hF hl 7 (hV 7 _ (by first | decide | (show _ < 1; omega))) (by decide) (c_X6_endTick l ids ad _ _ hV hW1) (cwV 1 S.2.2.2.2 gX6_advance_X6_endTick rfl rfl rfl (by decide +kernel) ⟨Nat.le_of_ble_eq_true rfl, Nat.le_of_ble_eq_true rfl⟩) rfl rfl (Nat.le_of_ble_eq_true rfl) dX6_advance_51 ⟨Nat.le_of_ble_eq_true rfl, Nat.le_of_ble_eq_true rfl⟩ (fun u_51 H locs hp_51 G => ?_)
        obtain rfl := hp_51
        have G : gS D aC A s ids ad (gk _) H locs := G
        refine lv_iinc (k := 0) (lv' := [(3, _), (2, _), (1, _), (0, _)]) S.1 S.2.1 dX6_advance_54 hl rfl (g_inc _) (by decide) rfl (fun ls hl => ?_)
        refine lv_goto (tgt := 36) S.1 S.2.1 dX6_advance_57 (by decide) ?_
        rw [if_neg c_38, if_neg c_46] at hS
        have hlt : i < tN t := by have := (nI_ltI (by omega) (by omega)).mp (show nI (k0 + i) < nI (k0 + tN t) by rw [← et]; exact i32_nle c_38); omega
        exact ih_36 (sEnd κ1 (nI (k0 + i)), i + 1) H locs ls ⟨by omega, sEnd_WF hW1, by rw [show 101 - (i + 1) = n by omega, show k0 + (i + 1) = (k0 + i) + 1 by omega, ← nI_1]; exact hS⟩ (by show 101 - (i + 1) < 101 - i; omega) G (lv_sub hl [0, 1, 2, 3] rfl)
  · exact g_throw (cls := "java/lang/IllegalStateException") (text := "the tick would be too high") S G hF hlf hlk hex hl.1 rfl (by decide +kernel) (by decide +kernel) (by decide +kernel) (by decide +kernel) (by decide +kernel) (by decide +kernel) (by decide +kernel) (by decide +kernel) dX6_advance_21 dX6_advance_24 (Or.inl ⟨dX6_advance_25, dX6_advance_27, dX6_advance_30⟩) (Nat.le_of_ble_eq_true rfl) (Nat.le_of_ble_eq_true rfl) (Nat.le_of_ble_eq_true rfl) (Nat.le_of_ble_eq_true rfl) (⟨xE3 (by simp only [sAdvT, if_neg c_4, if_neg c_18]), rfl⟩) (Nat.le_of_ble_eq_true rfl) (Nat.le_of_ble_eq_true rfl)
