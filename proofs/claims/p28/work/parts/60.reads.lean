/-! ===== reads that go through: nothing is made ===== -/
set_option maxHeartbeats 4000000 in
set_option maxRecDepth 100000 in
theorem c_X6_sensorAtk (l : Launch) (ids : gIds) (ad : gAd) (κ : gMem) (j : Nat) (hV : cV ids) (hj : j < 12)  : gMr l yX6_sensorAt wsX6_sensorAt ({ frames := 0, cells := 0, slots := 0, locals := 0 } : Room) 0 0 [.ref (ad 7 0), .int (nI j)] (ids, ad, gk κ) (fun q u => q = ad 5 j ∧ u = (ids, ad, gk (κ))) := by
  intro D aC A
  refine g_of (cc := cX6_sensorAt) (maxL := 2) (ret := (some (.object "SensorBond$Sensor"))) (by decide +kernel) rfl (Nat.le_of_ble_eq_true rfl) ?_
  intro p e s m below meth c ls S G hF hr hlk hnm hl
  have hl : lv_has ls 2 [(0, _), (1, _)] := hl
  have i7 : ∀ w ∈ wsX60, w ∈ wsX6_sensorAt := by decide +kernel
  refine lv_iload_n S.1 S.2.1 dX6_sensorAt_0 rfl (lv_at hl 1 rfl) ?_
  refine lv_if_lt (tgt := 10) S.1 S.2.1 dX6_sensorAt_1 (by decide) (fun c_1 => ?_) (fun c_1 => ?_)
  · exact absurd c_1 (nI_pos (by omega))
  · refine lv_iload_n S.1 S.2.1 dX6_sensorAt_4 rfl (lv_at hl 1 rfl) ?_
    refine lv_bipush (v := 12) S.1 S.2.1 dX6_sensorAt_5 (by decide) ?_
    refine lv_icmp_lt (tgt := 20) S.1 S.2.1 dX6_sensorAt_7 (by decide) (fun c_7 => ?_) (fun c_7 => ?_)
    · refine lv_aload_n S.1 S.2.1 dX6_sensorAt_20 rfl (lv_at hl 0 rfl) ?_
      refine g_get S G 7 1 (hV 7 _ (by first | decide | (show _ < 1; omega))) (by decide) (by decide) i7 (S.2.2.2.2 (.fieldLink RX6 17 "SensorBond" "sensors" "[LSensorBond$Sensor;") (by decide +kernel)) (gvk_or (j := 0) rfl rfl (by omega)) dX6_sensorAt_21 ?_
      refine lv_iload_n S.1 S.2.1 dX6_sensorAt_24 rfl (lv_at hl 1 rfl) ?_
      refine g_aald S G 11 (hV 11 _ (by first | decide | (show _ < 1; omega))) rfl rfl rfl (show j < 12 by omega) (gq_r (g := 5) rfl rfl (by omega)) dX6_sensorAt_25 ?_
      exact g_aret S G hr hlk (Or.inl ⟨_, rfl⟩) (⟨rfl, rfl⟩) (Nat.le_of_ble_eq_true rfl) (Nat.le_of_ble_eq_true rfl) dX6_sensorAt_26
    · exact absurd ((nI_ltI (by omega) (by decide)).mpr hj) c_7
set_option maxHeartbeats 4000000 in
set_option maxRecDepth 100000 in
theorem c_X6_buyerAtk (l : Launch) (ids : gIds) (ad : gAd) (κ : gMem) (j : Nat) (hV : cV ids) (hj : j < 6)  : gMr l yX6_buyerAt wsX6_buyerAt ({ frames := 0, cells := 0, slots := 0, locals := 0 } : Room) 0 0 [.ref (ad 7 0), .int (nI j)] (ids, ad, gk κ) (fun q u => q = ad 1 j ∧ u = (ids, ad, gk (κ))) := by
  intro D aC A
  refine g_of (cc := cX6_buyerAt) (maxL := 2) (ret := (some (.object "SensorBond$Buyer"))) (by decide +kernel) rfl (Nat.le_of_ble_eq_true rfl) ?_
  intro p e s m below meth c ls S G hF hr hlk hnm hl
  have hl : lv_has ls 2 [(0, _), (1, _)] := hl
  have i7 : ∀ w ∈ wsX60, w ∈ wsX6_buyerAt := by decide +kernel
  refine lv_iload_n S.1 S.2.1 dX6_buyerAt_0 rfl (lv_at hl 1 rfl) ?_
  refine lv_if_lt (tgt := 10) S.1 S.2.1 dX6_buyerAt_1 (by decide) (fun c_1 => ?_) (fun c_1 => ?_)
  · exact absurd c_1 (nI_pos (by omega))
  · refine lv_iload_n S.1 S.2.1 dX6_buyerAt_4 rfl (lv_at hl 1 rfl) ?_
    refine lv_bipush (v := 6) S.1 S.2.1 dX6_buyerAt_5 (by decide) ?_
    refine lv_icmp_lt (tgt := 21) S.1 S.2.1 dX6_buyerAt_7 (by decide) (fun c_7 => ?_) (fun c_7 => ?_)
    · refine lv_aload_n S.1 S.2.1 dX6_buyerAt_21 rfl (lv_at hl 0 rfl) ?_
      refine g_get S G 7 2 (hV 7 _ (by first | decide | (show _ < 1; omega))) (by decide) (by decide) i7 (S.2.2.2.2 (.fieldLink RX6 23 "SensorBond" "buyers" "[LSensorBond$Buyer;") (by decide +kernel)) (gvk_or (j := 0) rfl rfl (by omega)) dX6_buyerAt_22 ?_
      refine lv_iload_n S.1 S.2.1 dX6_buyerAt_25 rfl (lv_at hl 1 rfl) ?_
      refine g_aald S G 12 (hV 12 _ (by first | decide | (show _ < 1; omega))) rfl rfl rfl (show j < 6 by omega) (gq_r (g := 1) rfl rfl (by omega)) dX6_buyerAt_26 ?_
      exact g_aret S G hr hlk (Or.inl ⟨_, rfl⟩) (⟨rfl, rfl⟩) (Nat.le_of_ble_eq_true rfl) (Nat.le_of_ble_eq_true rfl) dX6_buyerAt_27
    · exact absurd ((nI_ltI (by omega) (by decide)).mpr hj) c_7
set_option maxHeartbeats 4000000 in
set_option maxRecDepth 100000 in
theorem c_X6_readingAtk (l : Launch) (ids : gIds) (ad : gAd) (κ : gMem) (j : Nat) (hV : cV ids) (hW : cWF ids κ) (hj : j < tN (κ 7 0 4))  : gMr l yX6_readingAt wsX6_readingAt ({ frames := 0, cells := 0, slots := 0, locals := 0 } : Room) 0 0 [.ref (ad 7 0), .int (nI j)] (ids, ad, gk κ) (fun q u => q = ad 3 j ∧ u = (ids, ad, gk (κ))) := by
  intro D aC A
  refine g_of (cc := cX6_readingAt) (maxL := 2) (ret := (some (.object "SensorBond$Reading"))) (by decide +kernel) rfl (Nat.le_of_ble_eq_true rfl) ?_
  intro p e s m below meth c ls S G hF hr hlk hnm hl
  have hl : lv_has ls 2 [(0, _), (1, _)] := hl
  have i7 : ∀ w ∈ wsX60, w ∈ wsX6_readingAt := by decide +kernel
  obtain ⟨hn, hn80⟩ := hW.cnt
  refine lv_iload_n S.1 S.2.1 dX6_readingAt_0 rfl (lv_at hl 1 rfl) ?_
  refine lv_if_lt (tgt := 12) S.1 S.2.1 dX6_readingAt_1 (by decide) (fun c_1 => ?_) (fun c_1 => ?_)
  · exact absurd c_1 (nI_pos (by omega))
  · refine lv_iload_n S.1 S.2.1 dX6_readingAt_4 rfl (lv_at hl 1 rfl) ?_
    refine lv_aload_n S.1 S.2.1 dX6_readingAt_5 rfl (lv_at hl 0 rfl) ?_
    refine g_get S G 7 4 (hV 7 _ (by first | decide | (show _ < 1; omega))) (by decide) (by decide) i7 (S.2.2.2.2 (.fieldLink RX6 33 "SensorBond" "readingCount" "I") (by decide +kernel)) (gvk_i rfl rfl) dX6_readingAt_6 ?_
    refine lv_icmp_lt (tgt := 23) S.1 S.2.1 dX6_readingAt_9 (by decide) (fun c_9 => ?_) (fun c_9 => ?_)
    · refine lv_aload_n S.1 S.2.1 dX6_readingAt_23 rfl (lv_at hl 0 rfl) ?_
      refine g_get S G 7 3 (hV 7 _ (by first | decide | (show _ < 1; omega))) (by decide) (by decide) i7 (S.2.2.2.2 (.fieldLink RX6 29 "SensorBond" "readings" "[LSensorBond$Reading;") (by decide +kernel)) (gvk_or (j := 0) rfl rfl (by omega)) dX6_readingAt_24 ?_
      refine lv_iload_n S.1 S.2.1 dX6_readingAt_27 rfl (lv_at hl 1 rfl) ?_
      refine g_aald S G 13 (hV 13 _ (by first | decide | (show _ < 1; omega))) rfl rfl rfl (show j < 80 by omega) (gqk_r rfl rfl (hW.2.1 _ hj).1 (by omega)) dX6_readingAt_28 ?_
      exact g_aret S G hr hlk (Or.inl ⟨_, rfl⟩) (⟨rfl, rfl⟩) (Nat.le_of_ble_eq_true rfl) (Nat.le_of_ble_eq_true rfl) dX6_readingAt_29
    · exact absurd (by rw [hn]; exact (nI_ltI (by omega) (by omega)).mpr hj) c_9
set_option maxHeartbeats 4000000 in
set_option maxRecDepth 100000 in
theorem c_X6_stateOfk (l : Launch) (ids : gIds) (ad : gAd) (κ : gMem) (j : Nat) (hV : cV ids) (hW : cWF ids κ) (hj : j < tN (κ 7 0 4))  : gMi l yX6_stateOf wsX6_stateOf ({ frames := 1, cells := 0, slots := 0, locals := 21 } : Room) 0 0 [.ref (ad 7 0), .int (nI j)] (ids, ad, gk κ) (fun q u => q = κ 3 j 3 ∧ u = (ids, ad, gk (κ))) := by
  intro D aC A
  refine g_of (cc := cX6_stateOf) (maxL := 2) (ret := (some .int)) (by decide +kernel) rfl (Nat.le_of_ble_eq_true rfl) ?_
  intro p e s m below meth c ls S G hF hr hlk hnm hl
  have hl : lv_has ls 2 [(0, _), (1, _)] := hl
  have i3 : ∀ w ∈ wsX20, w ∈ wsX6_stateOf := by decide +kernel
  refine lv_aload_n S.1 S.2.1 dX6_stateOf_0 rfl (lv_at hl 0 rfl) ?_
  refine lv_iload_n S.1 S.2.1 dX6_stateOf_1 rfl (lv_at hl 1 rfl) ?_
  refine g_cVr S G hF hl 7 (hV 7 _ (by first | decide | (show _ < 1; omega))) (by decide) (c_X6_readingAtk l ids ad _ _ hV hW hj) (cwV 1 S.2.2.2.2 gX6_stateOf_X6_readingAt rfl rfl rfl (by decide +kernel) ⟨Nat.le_of_ble_eq_true rfl, Nat.le_of_ble_eq_true rfl⟩) rfl rfl (Nat.le_of_ble_eq_true rfl) dX6_stateOf_2 ⟨Nat.le_of_ble_eq_true rfl, Nat.le_of_ble_eq_true rfl⟩ (fun r_2 u_2 H locs hp_2 G => ?_)
  obtain ⟨rfl, rfl⟩ := hp_2
  have G : gS D aC A s ids ad (gk _) H locs := G
  obtain ⟨hn, hn80⟩ := hW.cnt
  have hR := hW.2.1 _ hj
  refine g_getN S G 3 3 hR.2.1 (by decide) (by decide) i3 (gn_17 hF) (gvk_i rfl rfl) dX6_stateOf_5 ?_
  exact g_iret S G hr hlk (⟨rfl, rfl⟩) (Nat.le_of_ble_eq_true rfl) (Nat.le_of_ble_eq_true rfl) dX6_stateOf_8
set_option maxHeartbeats 4000000 in
set_option maxRecDepth 100000 in
theorem c_X6_partsk (l : Launch) (ids : gIds) (ad : gAd) (κ : gMem) (j : Nat) (hV : cV ids) (hW : cWF ids κ) (hj : j < tN (κ 7 0 4))  : gMi l yX6_parts wsX6_parts ({ frames := 1, cells := 0, slots := 0, locals := 21 } : Room) 0 0 [.ref (ad 7 0), .int (nI j)] (ids, ad, gk κ) (fun q u => q = κ 3 j 2 ∧ u = (ids, ad, gk (κ))) := by
  intro D aC A
  refine g_of (cc := cX6_parts) (maxL := 2) (ret := (some .int)) (by decide +kernel) rfl (Nat.le_of_ble_eq_true rfl) ?_
  intro p e s m below meth c ls S G hF hr hlk hnm hl
  have hl : lv_has ls 2 [(0, _), (1, _)] := hl
  have i3 : ∀ w ∈ wsX20, w ∈ wsX6_parts := by decide +kernel
  refine lv_aload_n S.1 S.2.1 dX6_parts_0 rfl (lv_at hl 0 rfl) ?_
  refine lv_iload_n S.1 S.2.1 dX6_parts_1 rfl (lv_at hl 1 rfl) ?_
  refine g_cVr S G hF hl 7 (hV 7 _ (by first | decide | (show _ < 1; omega))) (by decide) (c_X6_readingAtk l ids ad _ _ hV hW hj) (cwV 1 S.2.2.2.2 gX6_parts_X6_readingAt rfl rfl rfl (by decide +kernel) ⟨Nat.le_of_ble_eq_true rfl, Nat.le_of_ble_eq_true rfl⟩) rfl rfl (Nat.le_of_ble_eq_true rfl) dX6_parts_2 ⟨Nat.le_of_ble_eq_true rfl, Nat.le_of_ble_eq_true rfl⟩ (fun r_2 u_2 H locs hp_2 G => ?_)
  obtain ⟨rfl, rfl⟩ := hp_2
  have G : gS D aC A s ids ad (gk _) H locs := G
  obtain ⟨hn, hn80⟩ := hW.cnt
  have hR := hW.2.1 _ hj
  refine g_getN S G 3 2 hR.2.1 (by decide) (by decide) i3 (gn_16 hF) (gvk_i rfl rfl) dX6_parts_5 ?_
  exact g_iret S G hr hlk (⟨rfl, rfl⟩) (Nat.le_of_ble_eq_true rfl) (Nat.le_of_ble_eq_true rfl) dX6_parts_8
set_option maxHeartbeats 4000000 in
set_option maxRecDepth 100000 in
theorem c_X6_usersk (l : Launch) (ids : gIds) (ad : gAd) (κ : gMem) (j : Nat) (hV : cV ids) (hW : cWF ids κ) (hj : j < tN (κ 7 0 4))  : gMi l yX6_users wsX6_users ({ frames := 1, cells := 0, slots := 0, locals := 21 } : Room) 0 0 [.ref (ad 7 0), .int (nI j)] (ids, ad, gk κ) (fun q u => q = κ 3 j 6 ∧ u = (ids, ad, gk (κ))) := by
  intro D aC A
  refine g_of (cc := cX6_users) (maxL := 2) (ret := (some .int)) (by decide +kernel) rfl (Nat.le_of_ble_eq_true rfl) ?_
  intro p e s m below meth c ls S G hF hr hlk hnm hl
  have hl : lv_has ls 2 [(0, _), (1, _)] := hl
  have i3 : ∀ w ∈ wsX20, w ∈ wsX6_users := by decide +kernel
  refine lv_aload_n S.1 S.2.1 dX6_users_0 rfl (lv_at hl 0 rfl) ?_
  refine lv_iload_n S.1 S.2.1 dX6_users_1 rfl (lv_at hl 1 rfl) ?_
  refine g_cVr S G hF hl 7 (hV 7 _ (by first | decide | (show _ < 1; omega))) (by decide) (c_X6_readingAtk l ids ad _ _ hV hW hj) (cwV 1 S.2.2.2.2 gX6_users_X6_readingAt rfl rfl rfl (by decide +kernel) ⟨Nat.le_of_ble_eq_true rfl, Nat.le_of_ble_eq_true rfl⟩) rfl rfl (Nat.le_of_ble_eq_true rfl) dX6_users_2 ⟨Nat.le_of_ble_eq_true rfl, Nat.le_of_ble_eq_true rfl⟩ (fun r_2 u_2 H locs hp_2 G => ?_)
  obtain ⟨rfl, rfl⟩ := hp_2
  have G : gS D aC A s ids ad (gk _) H locs := G
  obtain ⟨hn, hn80⟩ := hW.cnt
  have hR := hW.2.1 _ hj
  refine g_getN S G 3 6 hR.2.1 (by decide) (by decide) i3 (gn_20 hF) (gvk_i rfl rfl) dX6_users_5 ?_
  exact g_iret S G hr hlk (⟨rfl, rfl⟩) (Nat.le_of_ble_eq_true rfl) (Nat.le_of_ble_eq_true rfl) dX6_users_8
set_option maxHeartbeats 4000000 in
set_option maxRecDepth 100000 in
theorem c_X6_heldk (l : Launch) (ids : gIds) (ad : gAd) (κ : gMem) (j : Nat) (hV : cV ids) (hW : cWF ids κ) (hj : j < tN (κ 7 0 4))  : gMi l yX6_held wsX6_held ({ frames := 1, cells := 0, slots := 0, locals := 21 } : Room) 0 0 [.ref (ad 7 0), .int (nI j)] (ids, ad, gk κ) (fun q u => q = κ 3 j 7 ∧ u = (ids, ad, gk (κ))) := by
  intro D aC A
  refine g_of (cc := cX6_held) (maxL := 2) (ret := (some .int)) (by decide +kernel) rfl (Nat.le_of_ble_eq_true rfl) ?_
  intro p e s m below meth c ls S G hF hr hlk hnm hl
  have hl : lv_has ls 2 [(0, _), (1, _)] := hl
  have i3 : ∀ w ∈ wsX20, w ∈ wsX6_held := by decide +kernel
  refine lv_aload_n S.1 S.2.1 dX6_held_0 rfl (lv_at hl 0 rfl) ?_
  refine lv_iload_n S.1 S.2.1 dX6_held_1 rfl (lv_at hl 1 rfl) ?_
  refine g_cVr S G hF hl 7 (hV 7 _ (by first | decide | (show _ < 1; omega))) (by decide) (c_X6_readingAtk l ids ad _ _ hV hW hj) (cwV 1 S.2.2.2.2 gX6_held_X6_readingAt rfl rfl rfl (by decide +kernel) ⟨Nat.le_of_ble_eq_true rfl, Nat.le_of_ble_eq_true rfl⟩) rfl rfl (Nat.le_of_ble_eq_true rfl) dX6_held_2 ⟨Nat.le_of_ble_eq_true rfl, Nat.le_of_ble_eq_true rfl⟩ (fun r_2 u_2 H locs hp_2 G => ?_)
  obtain ⟨rfl, rfl⟩ := hp_2
  have G : gS D aC A s ids ad (gk _) H locs := G
  obtain ⟨hn, hn80⟩ := hW.cnt
  have hR := hW.2.1 _ hj
  refine g_getN S G 3 7 hR.2.1 (by decide) (by decide) i3 (gn_21 hF) (gvk_i rfl rfl) dX6_held_5 ?_
  exact g_iret S G hr hlk (⟨rfl, rfl⟩) (Nat.le_of_ble_eq_true rfl) (Nat.le_of_ble_eq_true rfl) dX6_held_8
set_option maxHeartbeats 4000000 in
set_option maxRecDepth 100000 in
theorem c_X6_middlek (l : Launch) (ids : gIds) (ad : gAd) (κ : gMem) (j : Nat) (hV : cV ids) (hW : cWF ids κ) (hj : j < tN (κ 7 0 4))  : gMi l yX6_middle wsX6_middle ({ frames := 1, cells := 0, slots := 0, locals := 21 } : Room) 0 0 [.ref (ad 7 0), .int (nI j)] (ids, ad, gk κ) (fun q u => q = sMidA κ j ∧ u = (ids, ad, gk (κ))) := by
  intro D aC A
  refine g_of (cc := cX6_middle) (maxL := 3) (ret := (some .int)) (by decide +kernel) rfl (Nat.le_of_ble_eq_true rfl) ?_
  intro p e s m below meth c ls S G hF hr hlk hnm hl
  have hl : lv_has ls 3 [(0, _), (1, _)] := hl
  have i3 : ∀ w ∈ wsX20, w ∈ wsX6_middle := by decide +kernel
  refine lv_aload_n S.1 S.2.1 dX6_middle_0 rfl (lv_at hl 0 rfl) ?_
  refine lv_iload_n S.1 S.2.1 dX6_middle_1 rfl (lv_at hl 1 rfl) ?_
  refine g_cVr S G hF hl 7 (hV 7 _ (by first | decide | (show _ < 1; omega))) (by decide) (c_X6_readingAtk l ids ad _ _ hV hW hj) (cwV 1 S.2.2.2.2 gX6_middle_X6_readingAt rfl rfl rfl (by decide +kernel) ⟨Nat.le_of_ble_eq_true rfl, Nat.le_of_ble_eq_true rfl⟩) rfl rfl (Nat.le_of_ble_eq_true rfl) dX6_middle_2 ⟨Nat.le_of_ble_eq_true rfl, Nat.le_of_ble_eq_true rfl⟩ (fun r_2 u_2 H locs hp_2 G => ?_)
  obtain ⟨rfl, rfl⟩ := hp_2
  have G : gS D aC A s ids ad (gk _) H locs := G
  obtain ⟨hn, hn80⟩ := hW.cnt
  have hR := hW.2.1 _ hj
  by_cases h9 : κ 3 j 9 < 0
  · refine g_getN S G 3 9 hR.2.1 (by decide) (by decide) i3 (gn_23 hF) (gvk_n rfl rfl h9) dX6_middle_5 ?_
    refine lv_astore_nN (lv' := [(2, _), (0, _), (1, _)]) S.1 S.2.1 dX6_middle_8 rfl hl (by decide) rfl (fun ls hl => ?_)
    refine lv_aload_nN S.1 S.2.1 dX6_middle_9 rfl (lv_at hl 0 rfl) ?_
    refine lv_ifnonnullN S.1 S.2.1 dX6_middle_10 ?_
    refine lv_iconst (v := (-1)) S.1 S.2.1 dX6_middle_13 (by decide) ?_
    refine lv_goto (tgt := 21) S.1 S.2.1 dX6_middle_14 (by decide) ?_
    exact g_iret S G hr hlk (⟨by simp only [sMidA, if_pos h9], rfl⟩) (Nat.le_of_ble_eq_true rfl) (Nat.le_of_ble_eq_true rfl) dX6_middle_21
  · obtain ⟨h9r, h2, h16, hc, hct⟩ := hR.ch h9
    refine g_getN S G 3 9 hR.2.1 (by decide) (by decide) i3 (gn_23 hF) (gvk_r rfl rfl h9r (by omega)) dX6_middle_5 ?_
    refine lv_astore_n (lv' := [(2, _), (0, _), (1, _)]) S.1 S.2.1 dX6_middle_8 rfl hl (by decide) rfl (fun ls hl => ?_)
    refine lv_aload_n S.1 S.2.1 dX6_middle_9 rfl (lv_at hl 0 rfl) ?_
    refine lv_ifnonnull (tgt := 17) S.1 S.2.1 dX6_middle_10 (by decide) ?_
    refine lv_aload_n S.1 S.2.1 dX6_middle_17 rfl (lv_at hl 0 rfl) ?_
    refine g_cNi S G hF hl 2 h2 (by decide) (c_X1_findMiddle l ids ad _ _ (by omega) h2 h16 hct) ⟨va_cnB 0 S.2.2.2.2 gX6_middle_X1_findMiddle_n215 rfl rfl rfl (gm_12 hF) (S.2.2.2.2 (.initialized RX1) (by decide +kernel)) (by decide +kernel) ⟨Nat.le_of_ble_eq_true rfl, Nat.le_of_ble_eq_true rfl⟩, S.2.2.2.2 (.instanceMethod yX1_findMiddle) (by decide +kernel), S.2.2.2.2 (.selects RX1 yX1_findMiddle yX1_findMiddle) (by decide +kernel)⟩ rfl rfl (Nat.le_of_ble_eq_true rfl) dX6_middle_18 ⟨Nat.le_of_ble_eq_true rfl, Nat.le_of_ble_eq_true rfl⟩ (fun r_18 u_18 H locs hp_18 G => ?_)
    obtain ⟨rfl, rfl⟩ := hp_18
    have G : gS D aC A s ids ad (gk _) H locs := G
    exact g_iret S G hr hlk (⟨by simp only [sMidA, if_neg h9], rfl⟩) (Nat.le_of_ble_eq_true rfl) (Nat.le_of_ble_eq_true rfl) dX6_middle_21
set_option maxHeartbeats 4000000 in
set_option maxRecDepth 100000 in
theorem c_X6_bondk (l : Launch) (ids : gIds) (ad : gAd) (κ : gMem) (j : Nat) (hV : cV ids) (hj : j < 12)  : gMi l yX6_bond wsX6_bond ({ frames := 1, cells := 0, slots := 0, locals := 21 } : Room) 0 0 [.ref (ad 7 0), .int (nI j)] (ids, ad, gk κ) (fun q u => q = κ 5 j 3 ∧ u = (ids, ad, gk (κ))) := by
  intro D aC A
  refine g_of (cc := cX6_bond) (maxL := 2) (ret := (some .int)) (by decide +kernel) rfl (Nat.le_of_ble_eq_true rfl) ?_
  intro p e s m below meth c ls S G hF hr hlk hnm hl
  have hl : lv_has ls 2 [(0, _), (1, _)] := hl
  have i5 : ∀ w ∈ wsX40, w ∈ wsX6_bond := by decide +kernel
  refine lv_aload_n S.1 S.2.1 dX6_bond_0 rfl (lv_at hl 0 rfl) ?_
  refine lv_iload_n S.1 S.2.1 dX6_bond_1 rfl (lv_at hl 1 rfl) ?_
  refine g_cVr S G hF hl 7 (hV 7 _ (by first | decide | (show _ < 1; omega))) (by decide) (c_X6_sensorAtk l ids ad _ _ hV (by omega)) (cwV 1 S.2.2.2.2 gX6_bond_X6_sensorAt rfl rfl rfl (by decide +kernel) ⟨Nat.le_of_ble_eq_true rfl, Nat.le_of_ble_eq_true rfl⟩) rfl rfl (Nat.le_of_ble_eq_true rfl) dX6_bond_2 ⟨Nat.le_of_ble_eq_true rfl, Nat.le_of_ble_eq_true rfl⟩ (fun r_2 u_2 H locs hp_2 G => ?_)
  obtain ⟨rfl, rfl⟩ := hp_2
  have G : gS D aC A s ids ad (gk _) H locs := G
  refine g_getN S G 5 3 (hV 5 _ (by first | decide | (show _ < 12; omega))) (by decide) (by decide) i5 (gn_8 hF) (gvk_i rfl rfl) dX6_bond_5 ?_
  exact g_iret S G hr hlk (⟨rfl, rfl⟩) (Nat.le_of_ble_eq_true rfl) (Nat.le_of_ble_eq_true rfl) dX6_bond_8
set_option maxHeartbeats 4000000 in
set_option maxRecDepth 100000 in
theorem c_X6_earnedk (l : Launch) (ids : gIds) (ad : gAd) (κ : gMem) (j : Nat) (hV : cV ids) (hj : j < 12)  : gMi l yX6_earned wsX6_earned ({ frames := 1, cells := 0, slots := 0, locals := 21 } : Room) 0 0 [.ref (ad 7 0), .int (nI j)] (ids, ad, gk κ) (fun q u => q = κ 5 j 4 ∧ u = (ids, ad, gk (κ))) := by
  intro D aC A
  refine g_of (cc := cX6_earned) (maxL := 2) (ret := (some .int)) (by decide +kernel) rfl (Nat.le_of_ble_eq_true rfl) ?_
  intro p e s m below meth c ls S G hF hr hlk hnm hl
  have hl : lv_has ls 2 [(0, _), (1, _)] := hl
  have i5 : ∀ w ∈ wsX40, w ∈ wsX6_earned := by decide +kernel
  refine lv_aload_n S.1 S.2.1 dX6_earned_0 rfl (lv_at hl 0 rfl) ?_
  refine lv_iload_n S.1 S.2.1 dX6_earned_1 rfl (lv_at hl 1 rfl) ?_
  refine g_cVr S G hF hl 7 (hV 7 _ (by first | decide | (show _ < 1; omega))) (by decide) (c_X6_sensorAtk l ids ad _ _ hV (by omega)) (cwV 1 S.2.2.2.2 gX6_earned_X6_sensorAt rfl rfl rfl (by decide +kernel) ⟨Nat.le_of_ble_eq_true rfl, Nat.le_of_ble_eq_true rfl⟩) rfl rfl (Nat.le_of_ble_eq_true rfl) dX6_earned_2 ⟨Nat.le_of_ble_eq_true rfl, Nat.le_of_ble_eq_true rfl⟩ (fun r_2 u_2 H locs hp_2 G => ?_)
  obtain ⟨rfl, rfl⟩ := hp_2
  have G : gS D aC A s ids ad (gk _) H locs := G
  refine g_getN S G 5 4 (hV 5 _ (by first | decide | (show _ < 12; omega))) (by decide) (by decide) i5 (gn_9 hF) (gvk_i rfl rfl) dX6_earned_5 ?_
  exact g_iret S G hr hlk (⟨rfl, rfl⟩) (Nat.le_of_ble_eq_true rfl) (Nat.le_of_ble_eq_true rfl) dX6_earned_8
set_option maxHeartbeats 4000000 in
set_option maxRecDepth 100000 in
theorem c_X6_pursek (l : Launch) (ids : gIds) (ad : gAd) (κ : gMem) (j : Nat) (hV : cV ids) (hj : j < 6)  : gMi l yX6_purse wsX6_purse ({ frames := 1, cells := 0, slots := 0, locals := 21 } : Room) 0 0 [.ref (ad 7 0), .int (nI j)] (ids, ad, gk κ) (fun q u => q = κ 1 j 0 ∧ u = (ids, ad, gk (κ))) := by
  intro D aC A
  refine g_of (cc := cX6_purse) (maxL := 2) (ret := (some .int)) (by decide +kernel) rfl (Nat.le_of_ble_eq_true rfl) ?_
  intro p e s m below meth c ls S G hF hr hlk hnm hl
  have hl : lv_has ls 2 [(0, _), (1, _)] := hl
  have i1 : ∀ w ∈ wsX00, w ∈ wsX6_purse := by decide +kernel
  refine lv_aload_n S.1 S.2.1 dX6_purse_0 rfl (lv_at hl 0 rfl) ?_
  refine lv_iload_n S.1 S.2.1 dX6_purse_1 rfl (lv_at hl 1 rfl) ?_
  refine g_cVr S G hF hl 7 (hV 7 _ (by first | decide | (show _ < 1; omega))) (by decide) (c_X6_buyerAtk l ids ad _ _ hV (by omega)) (cwV 1 S.2.2.2.2 gX6_purse_X6_buyerAt rfl rfl rfl (by decide +kernel) ⟨Nat.le_of_ble_eq_true rfl, Nat.le_of_ble_eq_true rfl⟩) rfl rfl (Nat.le_of_ble_eq_true rfl) dX6_purse_2 ⟨Nat.le_of_ble_eq_true rfl, Nat.le_of_ble_eq_true rfl⟩ (fun r_2 u_2 H locs hp_2 G => ?_)
  obtain ⟨rfl, rfl⟩ := hp_2
  have G : gS D aC A s ids ad (gk _) H locs := G
  refine g_getN S G 1 0 (hV 1 _ (by first | decide | (show _ < 6; omega))) (by decide) (by decide) i1 (gn_12 hF) (gvk_i rfl rfl) dX6_purse_5 ?_
  exact g_iret S G hr hlk (⟨rfl, rfl⟩) (Nat.le_of_ble_eq_true rfl) (Nat.le_of_ble_eq_true rfl) dX6_purse_8
set_option maxHeartbeats 4000000 in
set_option maxRecDepth 100000 in
theorem c_X6_asidek (l : Launch) (ids : gIds) (ad : gAd) (κ : gMem) (b t : Nat) (hV : cV ids) (hW : cWF ids κ) (hb : b < 6) (ht : t < 12)  : gMi l yX6_aside wsX6_aside ({ frames := 1, cells := 0, slots := 0, locals := 21 } : Room) 0 0 [.ref (ad 7 0), .int (nI b), .int (nI t)] (ids, ad, gk κ) (fun q u => q = sAside κ b t ∧ u = (ids, ad, gk (κ))) := by
  intro D aC A
  refine g_of (cc := cX6_aside) (maxL := 6) (ret := (some .int)) (by decide +kernel) rfl (Nat.le_of_ble_eq_true rfl) ?_
  intro p e s m below meth c ls S G hF hr hlk hnm hl
  have hl : lv_has ls 6 [(0, _), (1, _), (2, _)] := hl
  have i1 : ∀ w ∈ wsX00, w ∈ wsX6_aside := by decide +kernel
  have i5 : ∀ w ∈ wsX40, w ∈ wsX6_aside := by decide +kernel
  have i6 : ∀ w ∈ wsX50, w ∈ wsX6_aside := by decide +kernel
  refine lv_aload_n S.1 S.2.1 dX6_aside_0 rfl (lv_at hl 0 rfl) ?_
  refine lv_iload_n S.1 S.2.1 dX6_aside_1 rfl (lv_at hl 1 rfl) ?_
  refine g_cVr S G hF hl 7 (hV 7 _ (by first | decide | (show _ < 1; omega))) (by decide) (c_X6_buyerAtk l ids ad _ _ hV (by omega)) (cwV 1 S.2.2.2.2 gX6_aside_X6_buyerAt rfl rfl rfl (by decide +kernel) ⟨Nat.le_of_ble_eq_true rfl, Nat.le_of_ble_eq_true rfl⟩) rfl rfl (Nat.le_of_ble_eq_true rfl) dX6_aside_2 ⟨Nat.le_of_ble_eq_true rfl, Nat.le_of_ble_eq_true rfl⟩ (fun r_2 u_2 H locs hp_2 G => ?_)
  obtain ⟨rfl, rfl⟩ := hp_2
  have G : gS D aC A s ids ad (gk _) H locs := G
  refine lv_astore_n (lv' := [(3, _), (0, _), (1, _), (2, _)]) S.1 S.2.1 dX6_aside_5 rfl hl (by decide) rfl (fun ls hl => ?_)
  refine lv_aload_n S.1 S.2.1 dX6_aside_6 rfl (lv_at hl 1 rfl) ?_
  refine lv_iload_n S.1 S.2.1 dX6_aside_7 rfl (lv_at hl 3 rfl) ?_
  refine g_cVr S G hF hl 7 (hV 7 _ (by first | decide | (show _ < 1; omega))) (by decide) (c_X6_sensorAtk l ids ad _ _ hV (by omega)) (cwV 1 S.2.2.2.2 gX6_aside_X6_sensorAt rfl rfl rfl (by decide +kernel) ⟨Nat.le_of_ble_eq_true rfl, Nat.le_of_ble_eq_true rfl⟩) rfl rfl (Nat.le_of_ble_eq_true rfl) dX6_aside_8 ⟨Nat.le_of_ble_eq_true rfl, Nat.le_of_ble_eq_true rfl⟩ (fun r_8 u_8 H locs hp_8 G => ?_)
  obtain ⟨rfl, rfl⟩ := hp_8
  have G : gS D aC A s ids ad (gk _) H locs := G
  refine lv_astore (lv' := [(4, _), (3, _), (0, _), (1, _), (2, _)]) S.1 S.2.1 dX6_aside_11 hl (by decide) rfl (fun ls hl => ?_)
  by_cases hw : κ 14 b t < 0
  · refine lv_aload_n S.1 S.2.1 dX6_aside_13 rfl (lv_at hl 1 rfl) ?_
    refine g_getN S G 1 1 (hV 1 _ (by first | decide | (show _ < 6; omega))) (by decide) (by decide) i1 (gn_13 hF) (gvk_or (j := _) rfl rfl (by omega)) dX6_aside_14 ?_
    refine lv_aload S.1 S.2.1 dX6_aside_17 (lv_at hl 0 rfl) ?_
    refine g_getN S G 5 0 (hV 5 _ (by first | decide | (show _ < 12; omega))) (by decide) (by decide) i5 (gn_5 hF) (gvk_oi rfl rfl) dX6_aside_19 ?_
    refine g_aald S G 14 (hV 14 _ (by show _ < 6; omega)) rfl rfl rfl (show t < 12 by omega) (gqk_n rfl hw) dX6_aside_22 ?_
    refine lv_astoreN (lv' := [(5, _), (4, _), (3, _), (0, _), (1, _), (2, _)]) S.1 S.2.1 dX6_aside_23 hl (by decide) rfl (fun ls hl => ?_)
    refine lv_aloadN S.1 S.2.1 dX6_aside_25 (lv_at hl 0 rfl) ?_
    refine lv_ifnonnullN S.1 S.2.1 dX6_aside_27 ?_
    refine lv_iconst (v := 0) S.1 S.2.1 dX6_aside_30 (by decide) ?_
    refine lv_goto (tgt := 39) S.1 S.2.1 dX6_aside_31 (by decide) ?_
    exact g_iret S G hr hlk (⟨by simp only [sAside, if_pos hw], rfl⟩) (Nat.le_of_ble_eq_true rfl) (Nat.le_of_ble_eq_true rfl) dX6_aside_39
  · refine lv_aload_n S.1 S.2.1 dX6_aside_13 rfl (lv_at hl 1 rfl) ?_
    refine g_getN S G 1 1 (hV 1 _ (by first | decide | (show _ < 6; omega))) (by decide) (by decide) i1 (gn_13 hF) (gvk_or (j := _) rfl rfl (by omega)) dX6_aside_14 ?_
    refine lv_aload S.1 S.2.1 dX6_aside_17 (lv_at hl 0 rfl) ?_
    refine g_getN S G 5 0 (hV 5 _ (by first | decide | (show _ < 12; omega))) (by decide) (by decide) i5 (gn_5 hF) (gvk_oi rfl rfl) dX6_aside_19 ?_
    obtain ⟨hw1, hw6⟩ := hW.win hb ht hw
    refine g_aald S G 14 (hV 14 _ (by show _ < 6; omega)) rfl rfl rfl (show t < 12 by omega) (gqk_r rfl rfl hw1 (by omega)) dX6_aside_22 ?_
    refine lv_astore (lv' := [(5, _), (4, _), (3, _), (0, _), (1, _), (2, _)]) S.1 S.2.1 dX6_aside_23 hl (by decide) rfl (fun ls hl => ?_)
    refine lv_aload S.1 S.2.1 dX6_aside_25 (lv_at hl 0 rfl) ?_
    refine lv_ifnonnull (tgt := 34) S.1 S.2.1 dX6_aside_27 (by decide) ?_
    refine lv_aload S.1 S.2.1 dX6_aside_34 (lv_at hl 0 rfl) ?_
    refine g_getN S G 6 2 hw6 (by decide) (by decide) i6 (gn_26 hF) (gvk_i rfl rfl) dX6_aside_36 ?_
    exact g_iret S G hr hlk (⟨by simp only [sAside, if_neg hw], rfl⟩) (Nat.le_of_ble_eq_true rfl) (Nat.le_of_ble_eq_true rfl) dX6_aside_39
set_option maxHeartbeats 4000000 in
set_option maxRecDepth 100000 in
theorem c_X6_bondByCutsk (l : Launch) (ids : gIds) (ad : gAd) (κ : gMem) (j : Nat) (hV : cV ids) (hW : cWF ids κ) (hj : j < 12)  : gMi l yX6_bondByCuts wsX6_bondByCuts ({ frames := 1, cells := 0, slots := 0, locals := 21 } : Room) 0 0 [.ref (ad 7 0), .int (nI j)] (ids, ad, gk κ) (fun q u => q = sCuts κ j (tN (κ 7 0 4)) ∧ u = (ids, ad, gk (κ))) := by
  intro D aC A
  refine g_of (cc := cX6_bondByCuts) (maxL := 5) (ret := (some .int)) (by decide +kernel) rfl (Nat.le_of_ble_eq_true rfl) ?_
  intro p e s m below meth c ls S G hF hr hlk hnm hl
  have hl : lv_has ls 5 [(0, _), (1, _)] := hl
  have i3 : ∀ w ∈ wsX20, w ∈ wsX6_bondByCuts := by decide +kernel
  have i5 : ∀ w ∈ wsX40, w ∈ wsX6_bondByCuts := by decide +kernel
  have i7 : ∀ w ∈ wsX60, w ∈ wsX6_bondByCuts := by decide +kernel
  refine lv_aload_n S.1 S.2.1 dX6_bondByCuts_0 rfl (lv_at hl 0 rfl) ?_
  refine lv_iload_n S.1 S.2.1 dX6_bondByCuts_1 rfl (lv_at hl 1 rfl) ?_
  refine g_cVr S G hF hl 7 (hV 7 _ (by first | decide | (show _ < 1; omega))) (by decide) (c_X6_sensorAtk l ids ad _ _ hV (by omega)) (cwV 1 S.2.2.2.2 gX6_bondByCuts_X6_sensorAt rfl rfl rfl (by decide +kernel) ⟨Nat.le_of_ble_eq_true rfl, Nat.le_of_ble_eq_true rfl⟩) rfl rfl (Nat.le_of_ble_eq_true rfl) dX6_bondByCuts_2 ⟨Nat.le_of_ble_eq_true rfl, Nat.le_of_ble_eq_true rfl⟩ (fun r_2 u_2 H locs hp_2 G => ?_)
  obtain ⟨rfl, rfl⟩ := hp_2
  have G : gS D aC A s ids ad (gk _) H locs := G
  refine lv_astore_n (lv' := [(2, _), (0, _), (1, _)]) S.1 S.2.1 dX6_bondByCuts_5 rfl hl (by decide) rfl (fun ls hl => ?_)
  refine lv_bipush (v := 100) S.1 S.2.1 dX6_bondByCuts_6 (by decide) ?_
  refine lv_aload_n S.1 S.2.1 dX6_bondByCuts_8 rfl (lv_at hl 0 rfl) ?_
  refine g_getN S G 5 5 (hV 5 _ (by first | decide | (show _ < 12; omega))) (by decide) (by decide) i5 (gn_10 hF) (gvk_i rfl rfl) dX6_bondByCuts_9 ?_
  refine lv_iadd S.1 S.2.1 dX6_bondByCuts_12 ?_
  refine lv_istore_n (lv' := [(3, _), (2, _), (0, _), (1, _)]) S.1 S.2.1 dX6_bondByCuts_13 rfl hl (by decide) rfl (fun ls hl => ?_)
  refine lv_iconst (v := 0) S.1 S.2.1 dX6_bondByCuts_14 (by decide) ?_
  refine lv_istore (lv' := [(4, _), (3, _), (2, _), (0, _), (1, _)]) S.1 S.2.1 dX6_bondByCuts_15 hl (by decide) rfl (fun ls hl => ?_)
  obtain ⟨hn, hn80⟩ := hW.cnt
  refine g_forg (tN (κ 7 0 4)) (fun k_17 => [(4, .int (nI k_17)), (3, .int (sCuts κ j k_17)), (2, .ref (ad 5 j)), (1, .int (nI j)), (0, .ref (ad 7 0))]) ?_ G (lv_sub hl [0, 1, 2, 4, 3] rfl)
  intro k_17 H locs ls hk_17 G hl ih_17
  have hl : lv_has ls 5 [(4, _), (3, _), (2, _), (1, _), (0, _)] := hl
  refine lv_iload S.1 S.2.1 dX6_bondByCuts_17 (lv_at hl 0 rfl) ?_
  refine lv_aload_n S.1 S.2.1 dX6_bondByCuts_19 rfl (lv_at hl 4 rfl) ?_
  refine g_get S G 7 4 (hV 7 _ (by first | decide | (show _ < 1; omega))) (by decide) (by decide) i7 (S.2.2.2.2 (.fieldLink RX6 33 "SensorBond" "readingCount" "I") (by decide +kernel)) (gvk_i rfl rfl) dX6_bondByCuts_20 ?_
  refine g_top hn ?_
  refine lv_icmp_ge (tgt := 59) S.1 S.2.1 dX6_bondByCuts_23 (by decide) (fun c_23 => ?_) (fun c_23 => ?_)
  · have hkN_17 : k_17 = (tN (κ 7 0 4)) := g_exit c_23 hk_17 (by omega)
    subst hkN_17
    refine lv_iload_n S.1 S.2.1 dX6_bondByCuts_59 rfl (lv_at hl 1 rfl) ?_
    exact g_iret S G hr hlk (⟨rfl, rfl⟩) (Nat.le_of_ble_eq_true rfl) (Nat.le_of_ble_eq_true rfl) dX6_bondByCuts_60
  · have hlt_17 : k_17 < (tN (κ 7 0 4)) := g_stay c_23 hk_17 (by omega)
    have hR := hW.2.1 _ hlt_17
    have hs := hR.2.2.2.1
    refine lv_aload_n S.1 S.2.1 dX6_bondByCuts_26 rfl (lv_at hl 4 rfl) ?_
    refine g_get S G 7 3 (hV 7 _ (by first | decide | (show _ < 1; omega))) (by decide) (by decide) i7 (S.2.2.2.2 (.fieldLink RX6 29 "SensorBond" "readings" "[LSensorBond$Reading;") (by decide +kernel)) (gvk_or (j := 0) rfl rfl (by omega)) dX6_bondByCuts_27 ?_
    refine lv_iload S.1 S.2.1 dX6_bondByCuts_30 (lv_at hl 0 rfl) ?_
    refine g_aald S G 13 (hV 13 _ (by first | decide | (show _ < 1; omega))) rfl rfl rfl (show k_17 < 80 by omega) (gqk_r rfl rfl hR.1 (by omega)) dX6_bondByCuts_32 ?_
    refine g_getN S G 3 0 hR.2.1 (by decide) (by decide) i3 (gn_14 hF) (gvk_r rfl rfl hs.1 (by have := hs.2; omega)) dX6_bondByCuts_33 ?_
    refine lv_aload_n S.1 S.2.1 dX6_bondByCuts_36 rfl (lv_at hl 2 rfl) ?_
    refine g_acmp_ne (tgt := 53) S G 5 (hV 5 _ hs.2) (hV 5 _ (by show _ < 12; omega)) dX6_bondByCuts_37 (by decide) (fun c_37 => ?_) (fun c_37 => ?_)
    · refine lv_iinc (k := 0) (lv' := [(4, _), (3, _), (2, _), (1, _), (0, _)]) S.1 S.2.1 dX6_bondByCuts_53 hl rfl (g_inc _) (by decide) rfl (fun ls hl => ?_)
      refine lv_goto (tgt := 17) S.1 S.2.1 dX6_bondByCuts_56 (by decide) ?_
      have e : sCuts κ j (k_17 + 1) = sCuts κ j k_17 := by simp only [sCuts, if_neg c_23, if_neg c_37]
      exact ih_17 hlt_17 _ _ _ G (by rw [e]; exact lv_sub hl [0, 1, 2, 3, 4] rfl)
    · refine lv_iload_n S.1 S.2.1 dX6_bondByCuts_40 rfl (lv_at hl 1 rfl) ?_
      refine lv_aload_n S.1 S.2.1 dX6_bondByCuts_41 rfl (lv_at hl 4 rfl) ?_
      refine g_get S G 7 3 (hV 7 _ (by first | decide | (show _ < 1; omega))) (by decide) (by decide) i7 (S.2.2.2.2 (.fieldLink RX6 29 "SensorBond" "readings" "[LSensorBond$Reading;") (by decide +kernel)) (gvk_or (j := 0) rfl rfl (by omega)) dX6_bondByCuts_42 ?_
      refine lv_iload S.1 S.2.1 dX6_bondByCuts_45 (lv_at hl 0 rfl) ?_
      refine g_aald S G 13 (hV 13 _ (by first | decide | (show _ < 1; omega))) rfl rfl rfl (show k_17 < 80 by omega) (gqk_r rfl rfl hR.1 (by omega)) dX6_bondByCuts_47 ?_
      refine g_getN S G 3 8 hR.2.1 (by decide) (by decide) i3 (gn_22 hF) (gvk_i rfl rfl) dX6_bondByCuts_48 ?_
      refine lv_isub S.1 S.2.1 dX6_bondByCuts_51 ?_
      refine lv_istore_n (lv' := [(3, _), (4, _), (2, _), (1, _), (0, _)]) S.1 S.2.1 dX6_bondByCuts_52 rfl hl (by decide) rfl (fun ls hl => ?_)
      refine lv_iinc (k := 1) (lv' := [(4, _), (3, _), (2, _), (1, _), (0, _)]) S.1 S.2.1 dX6_bondByCuts_53 hl rfl (g_inc _) (by decide) rfl (fun ls hl => ?_)
      refine lv_goto (tgt := 17) S.1 S.2.1 dX6_bondByCuts_56 (by decide) ?_
      have e : sCuts κ j (k_17 + 1) = sCuts κ j k_17 - κ 3 k_17 8 := by simp only [sCuts, if_neg c_23, if_pos c_37]
      exact ih_17 hlt_17 _ _ _ G (by rw [e]; exact lv_sub hl [0, 1, 2, 3, 4] rfl)
set_option maxHeartbeats 4000000 in
set_option maxRecDepth 100000 in
theorem c_X6_markk (l : Launch) (ids : gIds) (ad : gAd) (κ : gMem) (j : Nat) (hV : cV ids) (hW : cWF ids κ) (hj : j < 12)  : gMi l yX6_mark wsX6_mark ({ frames := 1, cells := 0, slots := 0, locals := 21 } : Room) 0 0 [.ref (ad 7 0), .int (nI j)] (ids, ad, gk κ) (fun q u => q = sMark κ j (tN (κ 7 0 4)) ∧ u = (ids, ad, gk (κ))) := by
  intro D aC A
  refine g_of (cc := cX6_mark) (maxL := 5) (ret := (some .int)) (by decide +kernel) rfl (Nat.le_of_ble_eq_true rfl) ?_
  intro p e s m below meth c ls S G hF hr hlk hnm hl
  have hl : lv_has ls 5 [(0, _), (1, _)] := hl
  have i3 : ∀ w ∈ wsX20, w ∈ wsX6_mark := by decide +kernel
  have i7 : ∀ w ∈ wsX60, w ∈ wsX6_mark := by decide +kernel
  refine lv_aload_n S.1 S.2.1 dX6_mark_0 rfl (lv_at hl 0 rfl) ?_
  refine lv_iload_n S.1 S.2.1 dX6_mark_1 rfl (lv_at hl 1 rfl) ?_
  refine g_cVr S G hF hl 7 (hV 7 _ (by first | decide | (show _ < 1; omega))) (by decide) (c_X6_sensorAtk l ids ad _ _ hV (by omega)) (cwV 1 S.2.2.2.2 gX6_mark_X6_sensorAt rfl rfl rfl (by decide +kernel) ⟨Nat.le_of_ble_eq_true rfl, Nat.le_of_ble_eq_true rfl⟩) rfl rfl (Nat.le_of_ble_eq_true rfl) dX6_mark_2 ⟨Nat.le_of_ble_eq_true rfl, Nat.le_of_ble_eq_true rfl⟩ (fun r_2 u_2 H locs hp_2 G => ?_)
  obtain ⟨rfl, rfl⟩ := hp_2
  have G : gS D aC A s ids ad (gk _) H locs := G
  refine lv_astore_n (lv' := [(2, _), (0, _), (1, _)]) S.1 S.2.1 dX6_mark_5 rfl hl (by decide) rfl (fun ls hl => ?_)
  refine lv_iconst (v := 0) S.1 S.2.1 dX6_mark_6 (by decide) ?_
  refine lv_istore_n (lv' := [(3, _), (2, _), (0, _), (1, _)]) S.1 S.2.1 dX6_mark_7 rfl hl (by decide) rfl (fun ls hl => ?_)
  refine lv_iconst (v := 0) S.1 S.2.1 dX6_mark_8 (by decide) ?_
  refine lv_istore (lv' := [(4, _), (3, _), (2, _), (0, _), (1, _)]) S.1 S.2.1 dX6_mark_9 hl (by decide) rfl (fun ls hl => ?_)
  obtain ⟨hn, hn80⟩ := hW.cnt
  refine g_forg (tN (κ 7 0 4)) (fun k_11 => [(4, .int (nI k_11)), (3, .int (sMark κ j k_11)), (2, .ref (ad 5 j)), (1, .int (nI j)), (0, .ref (ad 7 0))]) ?_ G (lv_sub hl [0, 1, 2, 4, 3] rfl)
  intro k_11 H locs ls hk_11 G hl ih_11
  have hl : lv_has ls 5 [(4, _), (3, _), (2, _), (1, _), (0, _)] := hl
  refine lv_iload S.1 S.2.1 dX6_mark_11 (lv_at hl 0 rfl) ?_
  refine lv_aload_n S.1 S.2.1 dX6_mark_13 rfl (lv_at hl 4 rfl) ?_
  refine g_get S G 7 4 (hV 7 _ (by first | decide | (show _ < 1; omega))) (by decide) (by decide) i7 (S.2.2.2.2 (.fieldLink RX6 33 "SensorBond" "readingCount" "I") (by decide +kernel)) (gvk_i rfl rfl) dX6_mark_14 ?_
  refine g_top hn ?_
  refine lv_icmp_ge (tgt := 56) S.1 S.2.1 dX6_mark_17 (by decide) (fun c_17 => ?_) (fun c_17 => ?_)
  · have hkN_11 : k_11 = (tN (κ 7 0 4)) := g_exit c_17 hk_11 (by omega)
    subst hkN_11
    refine lv_iload_n S.1 S.2.1 dX6_mark_56 rfl (lv_at hl 1 rfl) ?_
    exact g_iret S G hr hlk (⟨rfl, rfl⟩) (Nat.le_of_ble_eq_true rfl) (Nat.le_of_ble_eq_true rfl) dX6_mark_57
  · have hlt_11 : k_11 < (tN (κ 7 0 4)) := g_stay c_17 hk_11 (by omega)
    have hR := hW.2.1 _ hlt_11
    have hs := hR.2.2.2.1
    refine lv_aload_n S.1 S.2.1 dX6_mark_20 rfl (lv_at hl 4 rfl) ?_
    refine g_get S G 7 3 (hV 7 _ (by first | decide | (show _ < 1; omega))) (by decide) (by decide) i7 (S.2.2.2.2 (.fieldLink RX6 29 "SensorBond" "readings" "[LSensorBond$Reading;") (by decide +kernel)) (gvk_or (j := 0) rfl rfl (by omega)) dX6_mark_21 ?_
    refine lv_iload S.1 S.2.1 dX6_mark_24 (lv_at hl 0 rfl) ?_
    refine g_aald S G 13 (hV 13 _ (by first | decide | (show _ < 1; omega))) rfl rfl rfl (show k_11 < 80 by omega) (gqk_r rfl rfl hR.1 (by omega)) dX6_mark_26 ?_
    refine g_getN S G 3 0 hR.2.1 (by decide) (by decide) i3 (gn_14 hF) (gvk_r rfl rfl hs.1 (by have := hs.2; omega)) dX6_mark_27 ?_
    refine lv_aload_n S.1 S.2.1 dX6_mark_30 rfl (lv_at hl 2 rfl) ?_
    refine g_acmp_ne (tgt := 50) S G 5 (hV 5 _ hs.2) (hV 5 _ (by show _ < 12; omega)) dX6_mark_31 (by decide) (fun c_31 => ?_) (fun c_31 => ?_)
    · refine lv_iinc (k := 0) (lv' := [(4, _), (3, _), (2, _), (1, _), (0, _)]) S.1 S.2.1 dX6_mark_50 hl rfl (g_inc _) (by decide) rfl (fun ls hl => ?_)
      refine lv_goto (tgt := 11) S.1 S.2.1 dX6_mark_53 (by decide) ?_
      have e : sMark κ j (k_11 + 1) = sMark κ j k_11 := by simp only [sMark, if_neg c_17, if_neg c_31]
      exact ih_11 hlt_11 _ _ _ G (by rw [e]; exact lv_sub hl [0, 1, 2, 3, 4] rfl)
    · refine lv_iload_n S.1 S.2.1 dX6_mark_34 rfl (lv_at hl 1 rfl) ?_
      refine lv_aload_n S.1 S.2.1 dX6_mark_35 rfl (lv_at hl 4 rfl) ?_
      refine g_get S G 7 3 (hV 7 _ (by first | decide | (show _ < 1; omega))) (by decide) (by decide) i7 (S.2.2.2.2 (.fieldLink RX6 29 "SensorBond" "readings" "[LSensorBond$Reading;") (by decide +kernel)) (gvk_or (j := 0) rfl rfl (by omega)) dX6_mark_36 ?_
      refine lv_iload S.1 S.2.1 dX6_mark_39 (lv_at hl 0 rfl) ?_
      refine g_aald S G 13 (hV 13 _ (by first | decide | (show _ < 1; omega))) rfl rfl rfl (show k_11 < 80 by omega) (gqk_r rfl rfl hR.1 (by omega)) dX6_mark_41 ?_
      refine g_getN S G 3 3 hR.2.1 (by decide) (by decide) i3 (gn_17 hF) (gvk_i rfl rfl) dX6_mark_42 ?_
      refine g_cSi S G hF hl (c_X6_weightOf l ids ad _ _) (va_cwS 1 S.2.2.2.2 gX6_mark_X6_weightOf rfl rfl rfl (by decide +kernel) ⟨Nat.le_of_ble_eq_true rfl, Nat.le_of_ble_eq_true rfl⟩) rfl rfl (Nat.le_of_ble_eq_true rfl) dX6_mark_45 ⟨Nat.le_of_ble_eq_true rfl, Nat.le_of_ble_eq_true rfl⟩ (fun r_45 u_45 H locs hp_45 G => ?_)
      obtain ⟨rfl, rfl⟩ := hp_45
      have G : gS D aC A s ids ad (gk _) H locs := G
      refine lv_iadd S.1 S.2.1 dX6_mark_48 ?_
      refine lv_istore_n (lv' := [(3, _), (4, _), (2, _), (1, _), (0, _)]) S.1 S.2.1 dX6_mark_49 rfl hl (by decide) rfl (fun ls hl => ?_)
      refine lv_iinc (k := 1) (lv' := [(4, _), (3, _), (2, _), (1, _), (0, _)]) S.1 S.2.1 dX6_mark_50 hl rfl (g_inc _) (by decide) rfl (fun ls hl => ?_)
      refine lv_goto (tgt := 11) S.1 S.2.1 dX6_mark_53 (by decide) ?_
      have e : sMark κ j (k_11 + 1) = sMark κ j k_11 + sWeight (κ 3 k_11 3) := by simp only [sMark, if_neg c_17, if_pos c_31]
      exact ih_11 hlt_11 _ _ _ G (by rw [e]; exact lv_sub hl [0, 1, 2, 3, 4] rfl)
