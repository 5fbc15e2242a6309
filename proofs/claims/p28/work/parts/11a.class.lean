set_option maxHeartbeats 4000000 in
set_option maxRecDepth 100000 in
theorem c_X2_isOpen (l : Launch) (ids : gIds) (ad : gAd) (κ : gMem) (r : Nat) (h3 : (3, r) ∈ ids)  : gMi l yX2_isOpen wsX2_isOpen ({ frames := 0, cells := 0, slots := 0, locals := 0 } : Room) 0 0 [.ref (ad 3 r)] (ids, ad, gk κ) (fun q u => q = sOpen κ r ∧ u = (ids, ad, gk (κ))) := by
  intro D aC A
  refine g_of (cc := cX2_isOpen) (maxL := 1) (ret := (some .boolean)) (by decide +kernel) rfl (Nat.le_of_ble_eq_true rfl) ?_
  intro p e s m below meth c ls S G hF hr hlk hnm hl
  have hl : lv_has ls 1 [(0, _)] := hl
  have i3 : ∀ w ∈ wsX20, w ∈ wsX2_isOpen := by decide +kernel
  refine lv_aload_n S.1 S.2.1 dX2_isOpen_0 rfl (lv_at hl 0 rfl) ?_
  refine g_get S G 3 3 h3 (by decide) (by decide) i3 (S.2.2.2.2 (.fieldLink RX2 42 "SensorBond$Reading" "state" "I") (by decide +kernel)) (gvk_i rfl rfl) dX2_isOpen_1 ?_
  refine lv_if_eq (tgt := 15) S.1 S.2.1 dX2_isOpen_4 (by decide) (fun c_4 => ?_) (fun c_4 => ?_)
  · refine lv_iconst (v := 1) S.1 S.2.1 dX2_isOpen_15 (by decide) ?_
    refine lv_goto (tgt := 20) S.1 S.2.1 dX2_isOpen_16 (by decide) ?_
    exact g_zret S G hr hlk (by decide) (⟨by simp only [sOpen, if_pos c_4], rfl⟩) (Nat.le_of_ble_eq_true rfl) (Nat.le_of_ble_eq_true rfl) dX2_isOpen_20
  · refine lv_aload_n S.1 S.2.1 dX2_isOpen_7 rfl (lv_at hl 0 rfl) ?_
    refine g_get S G 3 3 h3 (by decide) (by decide) i3 (S.2.2.2.2 (.fieldLink RX2 42 "SensorBond$Reading" "state" "I") (by decide +kernel)) (gvk_i rfl rfl) dX2_isOpen_8 ?_
    refine lv_iconst (v := 1) S.1 S.2.1 dX2_isOpen_11 (by decide) ?_
    refine lv_icmp_ne (tgt := 19) S.1 S.2.1 dX2_isOpen_12 (by decide) (fun c_12 => ?_) (fun c_12 => ?_)
    · refine lv_iconst (v := 0) S.1 S.2.1 dX2_isOpen_19 (by decide) ?_
      exact g_zret S G hr hlk (by decide) (⟨by simp only [sOpen, if_neg c_4, if_neg c_12], rfl⟩) (Nat.le_of_ble_eq_true rfl) (Nat.le_of_ble_eq_true rfl) dX2_isOpen_20
    · refine lv_iconst (v := 1) S.1 S.2.1 dX2_isOpen_15 (by decide) ?_
      refine lv_goto (tgt := 20) S.1 S.2.1 dX2_isOpen_16 (by decide) ?_
      exact g_zret S G hr hlk (by decide) (⟨by simp only [sOpen, if_neg c_4, if_pos c_12], rfl⟩) (Nat.le_of_ble_eq_true rfl) (Nat.le_of_ble_eq_true rfl) dX2_isOpen_20
set_option maxHeartbeats 4000000 in
set_option maxRecDepth 100000 in
theorem c_X3_losesNext (l : Launch) (ids : gIds) (ad : gAd) (κ : gMem) (j : Nat) (h4 : (4, j) ∈ ids)  : gMi l yX3_losesNext wsX3_losesNext ({ frames := 0, cells := 0, slots := 0, locals := 0 } : Room) 0 0 [.ref (ad 4 j)] (ids, ad, gk κ) (fun q u => q = sLs (sCome κ j) j ∧ u = (ids, ad, gk (sCome κ j))) := by
  intro D aC A
  refine g_of (cc := cX3_losesNext) (maxL := 1) (ret := (some .boolean)) (by decide +kernel) rfl (Nat.le_of_ble_eq_true rfl) ?_
  intro p e s m below meth c ls S G hF hr hlk hnm hl
  have hl : lv_has ls 1 [(0, _)] := hl
  have i4 : ∀ w ∈ wsX30, w ∈ wsX3_losesNext := by decide +kernel
  refine lv_aload_n S.1 S.2.1 dX3_losesNext_0 rfl (lv_at hl 0 rfl) ?_
  refine lv_dup S.1 S.2.1 dX3_losesNext_1 rfl ?_
  refine g_get S G 4 3 h4 (by decide) (by decide) i4 (S.2.2.2.2 (.fieldLink RX3 13 "SensorBond$Repeater" "come" "I") (by decide +kernel)) (gvk_i rfl rfl) dX3_losesNext_2 ?_
  refine lv_iconst (v := 1) S.1 S.2.1 dX3_losesNext_5 (by decide) ?_
  refine lv_iadd S.1 S.2.1 dX3_losesNext_6 ?_
  refine g_put (ty := .int) S G 4 3 h4 (by decide) (by decide) i4 (S.2.2.2.2 (.fieldLink RX3 13 "SensorBond$Repeater" "come" "I") (by decide +kernel)) rfl (by decide +kernel) rfl rfl (gw_i rfl) dX3_losesNext_7 (fun H locs G => ?_)
  have G := gk_S rfl G
  have G : gS D aC A s ids ad (gk (sCome κ j)) H locs := G
  refine lv_aload_n S.1 S.2.1 dX3_losesNext_10 rfl (lv_at hl 0 rfl) ?_
  refine g_get S G 4 2 h4 (by decide) (by decide) i4 (S.2.2.2.2 (.fieldLink RX3 7 "SensorBond$Repeater" "lossEvery" "I") (by decide +kernel)) (gvk_i rfl rfl) dX3_losesNext_11 ?_
  refine lv_if_le (tgt := 33) S.1 S.2.1 dX3_losesNext_14 (by decide) (fun c_14 => ?_) (fun c_14 => ?_)
  · refine lv_iconst (v := 0) S.1 S.2.1 dX3_losesNext_33 (by decide) ?_
    exact g_zret S G hr hlk (by decide) (⟨by simp only [sLs, if_pos c_14], rfl⟩) (Nat.le_of_ble_eq_true rfl) (Nat.le_of_ble_eq_true rfl) dX3_losesNext_34
  · refine lv_aload_n S.1 S.2.1 dX3_losesNext_17 rfl (lv_at hl 0 rfl) ?_
    refine g_get S G 4 3 h4 (by decide) (by decide) i4 (S.2.2.2.2 (.fieldLink RX3 13 "SensorBond$Repeater" "come" "I") (by decide +kernel)) (gvk_i rfl rfl) dX3_losesNext_18 ?_
    refine lv_aload_n S.1 S.2.1 dX3_losesNext_21 rfl (lv_at hl 0 rfl) ?_
    refine g_get S G 4 2 h4 (by decide) (by decide) i4 (S.2.2.2.2 (.fieldLink RX3 7 "SensorBond$Repeater" "lossEvery" "I") (by decide +kernel)) (gvk_i rfl rfl) dX3_losesNext_22 ?_
    refine lv_irem S.1 S.2.1 dX3_losesNext_25 (fun z => c_14 (by rw [z]; decide)) ?_
    refine lv_if_ne (tgt := 33) S.1 S.2.1 dX3_losesNext_26 (by decide) (fun c_26 => ?_) (fun c_26 => ?_)
    · refine lv_iconst (v := 0) S.1 S.2.1 dX3_losesNext_33 (by decide) ?_
      exact g_zret S G hr hlk (by decide) (⟨by simp only [sLs, if_neg c_14, if_neg c_26], rfl⟩) (Nat.le_of_ble_eq_true rfl) (Nat.le_of_ble_eq_true rfl) dX3_losesNext_34
    · refine lv_iconst (v := 1) S.1 S.2.1 dX3_losesNext_29 (by decide) ?_
      refine lv_goto (tgt := 34) S.1 S.2.1 dX3_losesNext_30 (by decide) ?_
      exact g_zret S G hr hlk (by decide) (⟨by simp only [sLs, if_neg c_14, if_pos c_26], rfl⟩) (Nat.le_of_ble_eq_true rfl) (Nat.le_of_ble_eq_true rfl) dX3_losesNext_34
set_option maxHeartbeats 4000000 in
set_option maxRecDepth 100000 in
theorem c_X3_countLost (l : Launch) (ids : gIds) (ad : gAd) (κ : gMem) (j : Nat) (h4 : (4, j) ∈ ids)  : gMi l yX3_countLost wsX3_countLost ({ frames := 0, cells := 0, slots := 0, locals := 0 } : Room) 0 0 [.ref (ad 4 j)] (ids, ad, gk κ) (fun q u => q = sLost κ j ∧ u = (ids, ad, gk (κ))) := by
  intro D aC A
  refine g_of (cc := cX3_countLost) (maxL := 1) (ret := (some .int)) (by decide +kernel) rfl (Nat.le_of_ble_eq_true rfl) ?_
  intro p e s m below meth c ls S G hF hr hlk hnm hl
  have hl : lv_has ls 1 [(0, _)] := hl
  have i4 : ∀ w ∈ wsX30, w ∈ wsX3_countLost := by decide +kernel
  refine lv_aload_n S.1 S.2.1 dX3_countLost_0 rfl (lv_at hl 0 rfl) ?_
  refine g_get S G 4 2 h4 (by decide) (by decide) i4 (S.2.2.2.2 (.fieldLink RX3 7 "SensorBond$Repeater" "lossEvery" "I") (by decide +kernel)) (gvk_i rfl rfl) dX3_countLost_1 ?_
  refine lv_if_le (tgt := 19) S.1 S.2.1 dX3_countLost_4 (by decide) (fun c_4 => ?_) (fun c_4 => ?_)
  · refine lv_iconst (v := 0) S.1 S.2.1 dX3_countLost_19 (by decide) ?_
    exact g_iret S G hr hlk (⟨by simp only [sLost, if_pos c_4], rfl⟩) (Nat.le_of_ble_eq_true rfl) (Nat.le_of_ble_eq_true rfl) dX3_countLost_20
  · refine lv_aload_n S.1 S.2.1 dX3_countLost_7 rfl (lv_at hl 0 rfl) ?_
    refine g_get S G 4 3 h4 (by decide) (by decide) i4 (S.2.2.2.2 (.fieldLink RX3 13 "SensorBond$Repeater" "come" "I") (by decide +kernel)) (gvk_i rfl rfl) dX3_countLost_8 ?_
    refine lv_aload_n S.1 S.2.1 dX3_countLost_11 rfl (lv_at hl 0 rfl) ?_
    refine g_get S G 4 2 h4 (by decide) (by decide) i4 (S.2.2.2.2 (.fieldLink RX3 7 "SensorBond$Repeater" "lossEvery" "I") (by decide +kernel)) (gvk_i rfl rfl) dX3_countLost_12 ?_
    refine lv_idiv S.1 S.2.1 dX3_countLost_15 (fun z => c_4 (by rw [z]; decide)) ?_
    refine lv_goto (tgt := 20) S.1 S.2.1 dX3_countLost_16 (by decide) ?_
    exact g_iret S G hr hlk (⟨by simp only [sLost, if_neg c_4], rfl⟩) (Nat.le_of_ble_eq_true rfl) (Nat.le_of_ble_eq_true rfl) dX3_countLost_20
set_option maxHeartbeats 4000000 in
set_option maxRecDepth 100000 in
theorem c_X1_hasSampleOf (l : Launch) (ids : gIds) (ad : gAd) (κ : gMem) (r j : Nat) (h2 : (2, r) ∈ ids) (h5 : (5, j) ∈ ids)  : gMi l yX1_hasSampleOf wsX1_hasSampleOf ({ frames := 0, cells := 0, slots := 0, locals := 0 } : Room) 0 0 [.ref (ad 2 r), .ref (ad 5 j)] (ids, ad, gk κ) (fun q u => q = sHas κ r j ∧ u = (ids, ad, gk (κ))) := by
  intro D aC A
  refine g_of (cc := cX1_hasSampleOf) (maxL := 2) (ret := (some .boolean)) (by decide +kernel) rfl (Nat.le_of_ble_eq_true rfl) ?_
  intro p e s m below meth c ls S G hF hr hlk hnm hl
  have hl : lv_has ls 2 [(0, _), (1, _)] := hl
  have i2 : ∀ w ∈ wsX10, w ∈ wsX1_hasSampleOf := by decide +kernel
  have i5 : ∀ w ∈ wsX40, w ∈ wsX1_hasSampleOf := by decide +kernel
  refine lv_aload_n S.1 S.2.1 dX1_hasSampleOf_0 rfl (lv_at hl 0 rfl) ?_
  refine g_get S G 2 3 h2 (by decide) (by decide) i2 (S.2.2.2.2 (.fieldLink RX1 19 "SensorBond$Challenge" "givers" "I") (by decide +kernel)) (gvk_i rfl rfl) dX1_hasSampleOf_1 ?_
  refine lv_aload_n S.1 S.2.1 dX1_hasSampleOf_4 rfl (lv_at hl 1 rfl) ?_
  refine g_getN S G 5 0 h5 (by decide) (by decide) i5 (gnf hF 4 rfl) (gvk_oi rfl rfl) dX1_hasSampleOf_5 ?_
  refine lv_ishr S.1 S.2.1 dX1_hasSampleOf_8 ?_
  refine lv_iconst (v := 1) S.1 S.2.1 dX1_hasSampleOf_9 (by decide) ?_
  refine lv_iand S.1 S.2.1 dX1_hasSampleOf_10 ?_
  refine lv_if_eq (tgt := 18) S.1 S.2.1 dX1_hasSampleOf_11 (by decide) (fun c_11 => ?_) (fun c_11 => ?_)
  · refine lv_iconst (v := 0) S.1 S.2.1 dX1_hasSampleOf_18 (by decide) ?_
    exact g_zret S G hr hlk (by decide) (⟨by simp only [sHas, if_pos c_11], rfl⟩) (Nat.le_of_ble_eq_true rfl) (Nat.le_of_ble_eq_true rfl) dX1_hasSampleOf_19
  · refine lv_iconst (v := 1) S.1 S.2.1 dX1_hasSampleOf_14 (by decide) ?_
    refine lv_goto (tgt := 19) S.1 S.2.1 dX1_hasSampleOf_15 (by decide) ?_
    exact g_zret S G hr hlk (by decide) (⟨by simp only [sHas, if_neg c_11], rfl⟩) (Nat.le_of_ble_eq_true rfl) (Nat.le_of_ble_eq_true rfl) dX1_hasSampleOf_19
set_option maxHeartbeats 4000000 in
set_option maxRecDepth 100000 in
theorem c_X1_findMiddle (l : Launch) (ids : gIds) (ad : gAd) (κ : gMem) (r : Nat) (hr80 : r < 80) (h2 : (2, r) ∈ ids) (h16 : (16, r) ∈ ids) (hn : ixL (κ 2 r 2) 5)  : gMi l yX1_findMiddle wsX1_findMiddle ({ frames := 0, cells := 0, slots := 0, locals := 0 } : Room) 0 0 [.ref (ad 2 r)] (ids, ad, gk κ) (fun q u => q = sMiddle κ r ∧ u = (ids, ad, gk (κ))) := by
  intro D aC A
  refine g_of (cc := cX1_findMiddle) (maxL := 1) (ret := (some .int)) (by decide +kernel) rfl (Nat.le_of_ble_eq_true rfl) ?_
  intro p e s m below meth c ls S G hF hr hlk hnm hl
  have hl : lv_has ls 1 [(0, _)] := hl
  have i2 : ∀ w ∈ wsX10, w ∈ wsX1_findMiddle := by decide +kernel
  refine lv_aload_n S.1 S.2.1 dX1_findMiddle_0 rfl (lv_at hl 0 rfl) ?_
  refine g_get S G 2 2 h2 (by decide) (by decide) i2 (S.2.2.2.2 (.fieldLink RX1 15 "SensorBond$Challenge" "count" "I") (by decide +kernel)) (gvk_i rfl rfl) dX1_findMiddle_1 ?_
  refine lv_if_ne (tgt := 11) S.1 S.2.1 dX1_findMiddle_4 (by decide) (fun c_4 => ?_) (fun c_4 => ?_)
  · obtain ⟨hx, hj⟩ := ixL_half hn c_4
    refine lv_aload_n S.1 S.2.1 dX1_findMiddle_11 rfl (lv_at hl 0 rfl) ?_
    refine g_get S G 2 1 h2 (by decide) (by decide) i2 (S.2.2.2.2 (.fieldLink RX1 9 "SensorBond$Challenge" "samples" "[I") (by decide +kernel)) (gvk_or (j := _) rfl rfl (by omega)) dX1_findMiddle_12 ?_
    refine lv_aload_n S.1 S.2.1 dX1_findMiddle_15 rfl (lv_at hl 0 rfl) ?_
    refine g_get S G 2 2 h2 (by decide) (by decide) i2 (S.2.2.2.2 (.fieldLink RX1 15 "SensorBond$Challenge" "count" "I") (by decide +kernel)) (gvk_i rfl rfl) dX1_findMiddle_16 ?_
    refine lv_iconst (v := 1) S.1 S.2.1 dX1_findMiddle_19 (by decide) ?_
    refine lv_isub S.1 S.2.1 dX1_findMiddle_20 ?_
    refine lv_iconst (v := 2) S.1 S.2.1 dX1_findMiddle_21 (by decide) ?_
    refine lv_idiv S.1 S.2.1 dX1_findMiddle_22 (by decide) ?_
    refine k_iald S G 16 h16 rfl rfl rfl hx hj dX1_findMiddle_23 ?_
    exact g_iret S G hr hlk (⟨by simp only [sMiddle, if_neg c_4], rfl⟩) (Nat.le_of_ble_eq_true rfl) (Nat.le_of_ble_eq_true rfl) dX1_findMiddle_24
  · refine lv_iconst (v := (-1)) S.1 S.2.1 dX1_findMiddle_7 (by decide) ?_
    refine lv_goto (tgt := 24) S.1 S.2.1 dX1_findMiddle_8 (by decide) ?_
    exact g_iret S G hr hlk (⟨by simp only [sMiddle, if_pos c_4], rfl⟩) (Nat.le_of_ble_eq_true rfl) (Nat.le_of_ble_eq_true rfl) dX1_findMiddle_24
set_option maxHeartbeats 4000000 in
set_option maxRecDepth 100000 in
theorem c_X1_refutes (l : Launch) (ids : gIds) (ad : gAd) (κ : gMem) (r : Nat) (v : Int32) (hr80 : r < 80) (h2 : (2, r) ∈ ids) (h16 : (16, r) ∈ ids) (hn : ixL (κ 2 r 2) 5)  : gMi l yX1_refutes wsX1_refutes ({ frames := 1, cells := 0, slots := 0, locals := 30 } : Room) 0 0 [.ref (ad 2 r), .int v] (ids, ad, gk κ) (fun q u => q = sRefutes κ r v ∧ u = (ids, ad, gk (κ))) := by
  intro D aC A
  refine g_of (cc := cX1_refutes) (maxL := 2) (ret := (some .boolean)) (by decide +kernel) rfl (Nat.le_of_ble_eq_true rfl) ?_
  intro p e s m below meth c ls S G hF hr hlk hnm hl
  have hl : lv_has ls 2 [(0, _), (1, _)] := hl
  have i2 : ∀ w ∈ wsX10, w ∈ wsX1_refutes := by decide +kernel
  refine lv_aload_n S.1 S.2.1 dX1_refutes_0 rfl (lv_at hl 0 rfl) ?_
  refine g_get S G 2 2 h2 (by decide) (by decide) i2 (S.2.2.2.2 (.fieldLink RX1 15 "SensorBond$Challenge" "count" "I") (by decide +kernel)) (gvk_i rfl rfl) dX1_refutes_1 ?_
  refine lv_if_le (tgt := 24) S.1 S.2.1 dX1_refutes_4 (by decide) (fun c_4 => ?_) (fun c_4 => ?_)
  · refine lv_iconst (v := 0) S.1 S.2.1 dX1_refutes_24 (by decide) ?_
    exact g_zret S G hr hlk (by decide) (⟨by simp only [sRefutes, if_pos c_4], rfl⟩) (Nat.le_of_ble_eq_true rfl) (Nat.le_of_ble_eq_true rfl) dX1_refutes_25
  · refine lv_iload_n S.1 S.2.1 dX1_refutes_7 rfl (lv_at hl 1 rfl) ?_
    refine lv_aload_n S.1 S.2.1 dX1_refutes_8 rfl (lv_at hl 0 rfl) ?_
    refine g_cVi S G hF hl 2 h2 (by decide) (c_X1_findMiddle l ids ad _ _ hr80 h2 h16 hn) (cwV 0 S.2.2.2.2 gX1_refutes_X1_findMiddle rfl rfl rfl (by decide +kernel) ⟨Nat.le_of_ble_eq_true rfl, Nat.le_of_ble_eq_true rfl⟩) rfl rfl (Nat.le_of_ble_eq_true rfl) dX1_refutes_9 ⟨Nat.le_of_ble_eq_true rfl, Nat.le_of_ble_eq_true rfl⟩ (fun r_9 u_9 H locs hp_9 G => ?_)
    obtain ⟨rfl, rfl⟩ := hp_9
    have G : gS D aC A s ids ad (gk _) H locs := G
    refine lv_isub S.1 S.2.1 dX1_refutes_12 ?_
    refine g_abs S hl (by decide +kernel) (by decide +kernel) (by decide +kernel) (by decide +kernel) (Nat.le_of_ble_eq_true rfl) (Nat.le_of_ble_eq_true rfl) (Nat.le_of_ble_eq_true rfl) (Nat.le_of_ble_eq_true rfl) dX1_refutes_13 ?_
    refine g_top (show _ = sAbs (v - sMiddle κ r) from rfl) ?_
    refine lv_iconst (v := 5) S.1 S.2.1 dX1_refutes_16 (by decide) ?_
    refine lv_icmp_le (tgt := 24) S.1 S.2.1 dX1_refutes_17 (by decide) (fun c_17 => ?_) (fun c_17 => ?_)
    · refine lv_iconst (v := 0) S.1 S.2.1 dX1_refutes_24 (by decide) ?_
      exact g_zret S G hr hlk (by decide) (⟨by simp only [sRefutes, if_neg c_4, if_pos c_17], rfl⟩) (Nat.le_of_ble_eq_true rfl) (Nat.le_of_ble_eq_true rfl) dX1_refutes_25
    · refine lv_iconst (v := 1) S.1 S.2.1 dX1_refutes_20 (by decide) ?_
      refine lv_goto (tgt := 25) S.1 S.2.1 dX1_refutes_21 (by decide) ?_
      exact g_zret S G hr hlk (by decide) (⟨by simp only [sRefutes, if_neg c_4, if_neg c_17], rfl⟩) (Nat.le_of_ble_eq_true rfl) (Nat.le_of_ble_eq_true rfl) dX1_refutes_25
set_option maxHeartbeats 4000000 in
set_option maxRecDepth 100000 in
theorem c_X1_addSample (l : Launch) (ids : gIds) (ad : gAd) (κ : gMem) (r j : Nat) (v : Int32) (h5 : (5, j) ∈ ids) (hr80 : r < 80) (h2 : (2, r) ∈ ids) (h16 : (16, r) ∈ ids) (hn : ixL (κ 2 r 2) 5)  : gMv l yX1_addSample wsX1_addSample ({ frames := 0, cells := 0, slots := 0, locals := 0 } : Room) 0 0 [.ref (ad 2 r), .ref (ad 5 j), .int v] (ids, ad, gk κ) (fun u => u = (ids, ad, gk (sAdd κ r j v))) := by
  intro D aC A
  refine g_of (cc := cX1_addSample) (maxL := 4) (ret := none) (by decide +kernel) rfl (Nat.le_of_ble_eq_true rfl) ?_
  intro p e s m below meth c ls S G hF hr hlk hnm hl
  have hl : lv_has ls 4 [(0, _), (1, _), (2, _)] := hl
  have i2 : ∀ w ∈ wsX10, w ∈ wsX1_addSample := by decide +kernel
  have i5 : ∀ w ∈ wsX40, w ∈ wsX1_addSample := by decide +kernel
  refine lv_aload_n S.1 S.2.1 dX1_addSample_0 rfl (lv_at hl 0 rfl) ?_
  refine g_get S G 2 2 h2 (by decide) (by decide) i2 (S.2.2.2.2 (.fieldLink RX1 15 "SensorBond$Challenge" "count" "I") (by decide +kernel)) (gvk_i rfl rfl) dX1_addSample_1 ?_
  refine lv_aload_n S.1 S.2.1 dX1_addSample_4 rfl (lv_at hl 0 rfl) ?_
  refine g_get S G 2 1 h2 (by decide) (by decide) i2 (S.2.2.2.2 (.fieldLink RX1 9 "SensorBond$Challenge" "samples" "[I") (by decide +kernel)) (gvk_or (j := _) rfl rfl (by omega)) dX1_addSample_5 ?_
  refine g_alen S G 16 h16 (by decide) rfl rfl dX1_addSample_8 ?_
  refine g_top (show _ = (4 : Int32) from rfl) ?_
  refine lv_icmp_lt (tgt := 13) S.1 S.2.1 dX1_addSample_9 (by decide) (fun c_9 => ?_) (fun c_9 => ?_)
  · refine lv_aload_n S.1 S.2.1 dX1_addSample_13 rfl (lv_at hl 0 rfl) ?_
    refine g_get S G 2 2 h2 (by decide) (by decide) i2 (S.2.2.2.2 (.fieldLink RX1 15 "SensorBond$Challenge" "count" "I") (by decide +kernel)) (gvk_i rfl rfl) dX1_addSample_14 ?_
    refine lv_istore_n (lv' := [(3, _), (0, _), (1, _), (2, _)]) S.1 S.2.1 dX1_addSample_17 rfl hl (by decide) rfl (fun ls hl => ?_)
    obtain ⟨tg, htg⟩ : ∃ z, sShift (tN (κ 2 r 2)) κ r v = z := ⟨_, rfl⟩
    have hn4 : tN (κ 2 r 2) < 4 := ixL_lt4 hn c_9
    refine g_while (σ := gMem × Nat) (fun y => y.2 < 4 ∧ (∀ f i k, f ≠ 16 → y.1 f i k = κ f i k) ∧ sShift y.2 y.1 r v = tg) (fun y => y.2) (fun y => y.1) (fun y => [(3, .int (nI y.2)), (2, .int v), (1, .ref (ad 5 j)), (0, .ref (ad 2 r))]) ?_ (κ, tN (κ 2 r 2)) ⟨hn4, fun _ _ _ _ => rfl, htg⟩ G (by rw [← hn.1]; exact lv_sub hl [0, 3, 2, 1] rfl)
    rintro ⟨κ1, q⟩ H locs ls ⟨hq4, hk1, hS⟩ G hl ih_18
    dsimp only at hq4 hk1 hS G hl
    have hl : lv_has ls 4 [(3, _), (2, _), (1, _), (0, _)] := hl
    refine lv_iload_n S.1 S.2.1 dX1_addSample_18 rfl (lv_at hl 0 rfl) ?_
    refine lv_if_le (tgt := 54) S.1 S.2.1 dX1_addSample_19 (by decide) (fun c_19 => ?_) (fun c_19 => ?_)
    · obtain rfl : q = 0 := nI_le0 c_19 (by omega)
      obtain rfl := hS
      refine lv_aload_n S.1 S.2.1 dX1_addSample_54 rfl (lv_at hl 3 rfl) ?_
      refine g_get S G 2 1 h2 (by decide) (by decide) i2 (S.2.2.2.2 (.fieldLink RX1 9 "SensorBond$Challenge" "samples" "[I") (by decide +kernel)) (gvk_or (j := _) rfl rfl (by omega)) dX1_addSample_55 ?_
      refine lv_iload_n S.1 S.2.1 dX1_addSample_58 rfl (lv_at hl 0 rfl) ?_
      refine lv_iload_n S.1 S.2.1 dX1_addSample_59 rfl (lv_at hl 1 rfl) ?_
      refine k_iast S G 16 h16 rfl rfl rfl rfl (show 0 < 4 by omega) dX1_addSample_60 (fun H locs G => ?_)
      refine lv_aload_n S.1 S.2.1 dX1_addSample_61 rfl (lv_at hl 3 rfl) ?_
      refine lv_dup S.1 S.2.1 dX1_addSample_62 rfl ?_
      refine g_get S G 2 2 h2 (by decide) (by decide) i2 (S.2.2.2.2 (.fieldLink RX1 15 "SensorBond$Challenge" "count" "I") (by decide +kernel)) (gvk_i rfl rfl) dX1_addSample_63 ?_
      refine lv_iconst (v := 1) S.1 S.2.1 dX1_addSample_66 (by decide) ?_
      refine lv_iadd S.1 S.2.1 dX1_addSample_67 ?_
      refine g_put (ty := .int) S G 2 2 h2 (by decide) (by decide) i2 (S.2.2.2.2 (.fieldLink RX1 15 "SensorBond$Challenge" "count" "I") (by decide +kernel)) rfl (by decide +kernel) rfl rfl (gw_i rfl) dX1_addSample_68 (fun H locs G => ?_)
      have G := gk_S rfl G
      refine lv_aload_n S.1 S.2.1 dX1_addSample_71 rfl (lv_at hl 3 rfl) ?_
      refine lv_dup S.1 S.2.1 dX1_addSample_72 rfl ?_
      refine g_get S G 2 3 h2 (by decide) (by decide) i2 (S.2.2.2.2 (.fieldLink RX1 19 "SensorBond$Challenge" "givers" "I") (by decide +kernel)) (gvk_i rfl rfl) dX1_addSample_73 ?_
      refine lv_iconst (v := 1) S.1 S.2.1 dX1_addSample_76 (by decide) ?_
      refine lv_aload_n S.1 S.2.1 dX1_addSample_77 rfl (lv_at hl 2 rfl) ?_
      refine g_getN S G 5 0 h5 (by decide) (by decide) i5 (gnf hF 4 rfl) (gvk_oi rfl rfl) dX1_addSample_78 ?_
      refine lv_ishl S.1 S.2.1 dX1_addSample_81 ?_
      refine lv_ior S.1 S.2.1 dX1_addSample_82 ?_
      refine g_put (ty := .int) S G 2 3 h2 (by decide) (by decide) i2 (S.2.2.2.2 (.fieldLink RX1 19 "SensorBond$Challenge" "givers" "I") (by decide +kernel)) rfl (by decide +kernel) rfl rfl (gw_i rfl) dX1_addSample_83 (fun H locs G => ?_)
      have G := gk_S rfl G
      exact g_vret S G hr hlk (by rw [sAdd, if_pos c_9, htg, ← hk1 2 r 2 (by decide), ← hk1 2 r 3 (by decide)]; rfl) (Nat.le_of_ble_eq_true rfl) (Nat.le_of_ble_eq_true rfl) dX1_addSample_86
    · obtain ⟨q, rfl⟩ : ∃ z, q = z + 1 := ⟨q - 1, by have := nI_pos0 c_19; omega⟩
      refine lv_aload_n S.1 S.2.1 dX1_addSample_22 rfl (lv_at hl 3 rfl) ?_
      refine g_get S G 2 1 h2 (by decide) (by decide) i2 (S.2.2.2.2 (.fieldLink RX1 9 "SensorBond$Challenge" "samples" "[I") (by decide +kernel)) (gvk_or (j := _) rfl rfl (by omega)) dX1_addSample_23 ?_
      refine lv_iload_n S.1 S.2.1 dX1_addSample_26 rfl (lv_at hl 0 rfl) ?_
      refine lv_iconst (v := 1) S.1 S.2.1 dX1_addSample_27 (by decide) ?_
      refine lv_isub S.1 S.2.1 dX1_addSample_28 ?_
      refine k_iald S G 16 h16 rfl rfl rfl (nI_pred _) (show q < 4 by omega) dX1_addSample_29 ?_
      refine lv_iload_n S.1 S.2.1 dX1_addSample_30 rfl (lv_at hl 1 rfl) ?_
      refine lv_icmp_le (tgt := 54) S.1 S.2.1 dX1_addSample_31 (by decide) (fun c_31 => ?_) (fun c_31 => ?_)
      · rw [sShift, if_pos c_31] at hS
        obtain rfl := hS
        refine lv_aload_n S.1 S.2.1 dX1_addSample_54 rfl (lv_at hl 3 rfl) ?_
        refine g_get S G 2 1 h2 (by decide) (by decide) i2 (S.2.2.2.2 (.fieldLink RX1 9 "SensorBond$Challenge" "samples" "[I") (by decide +kernel)) (gvk_or (j := _) rfl rfl (by omega)) dX1_addSample_55 ?_
        refine lv_iload_n S.1 S.2.1 dX1_addSample_58 rfl (lv_at hl 0 rfl) ?_
        refine lv_iload_n S.1 S.2.1 dX1_addSample_59 rfl (lv_at hl 1 rfl) ?_
        refine k_iast S G 16 h16 rfl rfl rfl rfl (show q + 1 < 4 by omega) dX1_addSample_60 (fun H locs G => ?_)
        refine lv_aload_n S.1 S.2.1 dX1_addSample_61 rfl (lv_at hl 3 rfl) ?_
        refine lv_dup S.1 S.2.1 dX1_addSample_62 rfl ?_
        refine g_get S G 2 2 h2 (by decide) (by decide) i2 (S.2.2.2.2 (.fieldLink RX1 15 "SensorBond$Challenge" "count" "I") (by decide +kernel)) (gvk_i rfl rfl) dX1_addSample_63 ?_
        refine lv_iconst (v := 1) S.1 S.2.1 dX1_addSample_66 (by decide) ?_
        refine lv_iadd S.1 S.2.1 dX1_addSample_67 ?_
        refine g_put (ty := .int) S G 2 2 h2 (by decide) (by decide) i2 (S.2.2.2.2 (.fieldLink RX1 15 "SensorBond$Challenge" "count" "I") (by decide +kernel)) rfl (by decide +kernel) rfl rfl (gw_i rfl) dX1_addSample_68 (fun H locs G => ?_)
        have G := gk_S rfl G
        refine lv_aload_n S.1 S.2.1 dX1_addSample_71 rfl (lv_at hl 3 rfl) ?_
        refine lv_dup S.1 S.2.1 dX1_addSample_72 rfl ?_
        refine g_get S G 2 3 h2 (by decide) (by decide) i2 (S.2.2.2.2 (.fieldLink RX1 19 "SensorBond$Challenge" "givers" "I") (by decide +kernel)) (gvk_i rfl rfl) dX1_addSample_73 ?_
        refine lv_iconst (v := 1) S.1 S.2.1 dX1_addSample_76 (by decide) ?_
        refine lv_aload_n S.1 S.2.1 dX1_addSample_77 rfl (lv_at hl 2 rfl) ?_
        refine g_getN S G 5 0 h5 (by decide) (by decide) i5 (gnf hF 4 rfl) (gvk_oi rfl rfl) dX1_addSample_78 ?_
        refine lv_ishl S.1 S.2.1 dX1_addSample_81 ?_
        refine lv_ior S.1 S.2.1 dX1_addSample_82 ?_
        refine g_put (ty := .int) S G 2 3 h2 (by decide) (by decide) i2 (S.2.2.2.2 (.fieldLink RX1 19 "SensorBond$Challenge" "givers" "I") (by decide +kernel)) rfl (by decide +kernel) rfl rfl (gw_i rfl) dX1_addSample_83 (fun H locs G => ?_)
        have G := gk_S rfl G
        exact g_vret S G hr hlk (by rw [sAdd, if_pos c_9, htg, ← hk1 2 r 2 (by decide), ← hk1 2 r 3 (by decide)]; rfl) (Nat.le_of_ble_eq_true rfl) (Nat.le_of_ble_eq_true rfl) dX1_addSample_86
      · refine lv_aload_n S.1 S.2.1 dX1_addSample_34 rfl (lv_at hl 3 rfl) ?_
        refine g_get S G 2 1 h2 (by decide) (by decide) i2 (S.2.2.2.2 (.fieldLink RX1 9 "SensorBond$Challenge" "samples" "[I") (by decide +kernel)) (gvk_or (j := _) rfl rfl (by omega)) dX1_addSample_35 ?_
        refine lv_iload_n S.1 S.2.1 dX1_addSample_38 rfl (lv_at hl 0 rfl) ?_
        refine lv_aload_n S.1 S.2.1 dX1_addSample_39 rfl (lv_at hl 3 rfl) ?_
        refine g_get S G 2 1 h2 (by decide) (by decide) i2 (S.2.2.2.2 (.fieldLink RX1 9 "SensorBond$Challenge" "samples" "[I") (by decide +kernel)) (gvk_or (j := _) rfl rfl (by omega)) dX1_addSample_40 ?_
        refine lv_iload_n S.1 S.2.1 dX1_addSample_43 rfl (lv_at hl 0 rfl) ?_
        refine lv_iconst (v := 1) S.1 S.2.1 dX1_addSample_44 (by decide) ?_
        refine lv_isub S.1 S.2.1 dX1_addSample_45 ?_
        refine k_iald S G 16 h16 rfl rfl rfl (nI_pred _) (show q < 4 by omega) dX1_addSample_46 ?_
        refine k_iast S G 16 h16 rfl rfl rfl rfl (show q + 1 < 4 by omega) dX1_addSample_47 (fun H locs G => ?_)
        refine lv_iinc (k := 0) (lv' := [(3, _), (2, _), (1, _), (0, _)]) S.1 S.2.1 dX1_addSample_48 hl rfl (nI_dec _) (by decide) rfl (fun ls hl => ?_)
        refine lv_goto (tgt := 18) S.1 S.2.1 dX1_addSample_51 (by decide) ?_
        rw [sShift, if_neg c_31] at hS
        exact ih_18 (upd3 κ1 16 r (q + 1) (κ1 16 r q), q) H locs ls ⟨by omega, fun f i k hf => (upd3_f hf).trans (hk1 f i k hf), hS⟩ (by show q < q + 1; omega) G (lv_sub hl [0, 1, 2, 3] rfl)
  · exact g_vret S G hr hlk (by rw [sAdd, if_neg c_9]) (Nat.le_of_ble_eq_true rfl) (Nat.le_of_ble_eq_true rfl) dX1_addSample_12
