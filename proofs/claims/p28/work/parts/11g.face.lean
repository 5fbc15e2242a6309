set_option maxHeartbeats 4000000 in
set_option maxRecDepth 100000 in
theorem c_X6_topUp (l : Launch) (hlf : l.stackTraces = false) (ids : gIds) (ad : gAd) (κ : gMem) (a n : Int32) (hV : cV ids)  : gXi l yX6_topUp wsX6_topUp ({ frames := 7, cells := 8, slots := 64, locals := 111 } : Room) 8 64 [.ref (ad 7 0), .int a, .int n] (ids, ad, gk κ) (fun q u => sTopUpT κ a n = 0 ∧ q = sTopUpK κ (tN a) n 5 (tN a) 3 ∧ u = (ids, ad, gk (sTopUpK κ (tN a) n))) (fun E u => xE (sTopUpT κ a n) E ∧ u = (ids, ad, gk (κ))) := by
  intro D aC A
  refine gx_of (cc := cX6_topUp) (maxL := 4) (ret := (some .int)) (by decide +kernel) rfl (Nat.le_of_ble_eq_true rfl) ?_
  intro p e s m below meth c ls S G hF hr hlk hex hl
  have hl : lv_has ls 4 [(0, _), (1, _), (2, _)] := hl
  have i5 : ∀ w ∈ wsX40, w ∈ wsX6_topUp := by decide +kernel
  refine lv_aload_n S.1 S.2.1 dX6_topUp_0 rfl (lv_at hl 0 rfl) ?_
  refine lv_iload_n S.1 S.2.1 dX6_topUp_1 rfl (lv_at hl 1 rfl) ?_
  refine gx_cVr S G hF hl 7 (hV 7 _ (by first | decide | (show _ < 1; omega))) (by decide) (c_X6_sensorAt l hlf ids ad _ _ hV) (cwV 1 S.2.2.2.2 gX6_topUp_X6_sensorAt rfl rfl rfl (by decide +kernel) ⟨Nat.le_of_ble_eq_true rfl, Nat.le_of_ble_eq_true rfl⟩) rfl rfl (Nat.le_of_ble_eq_true rfl) dX6_topUp_2 ⟨Nat.le_of_ble_eq_true rfl, Nat.le_of_ble_eq_true rfl⟩ (gx_pass hex hlk (fun E u h => ⟨by obtain ⟨h1, rfl, -⟩ := h; exact xE1 (by simp only [sTopUpT, if_pos h1]), h.2.2⟩) (Nat.le_of_ble_eq_true rfl) (Nat.le_of_ble_eq_true rfl)) (fun r_2 u_2 H locs hp_2 G => ?_)
  obtain ⟨c_2, rfl, rfl⟩ := hp_2
  have G : gS D aC A s ids ad (gk _) H locs := G
  obtain ⟨hx_2, hj_2⟩ := mIn_rng (m := 11) c_2 (by decide)
  refine lv_astore_n (lv' := [(3, _), (0, _), (1, _), (2, _)]) S.1 S.2.1 dX6_topUp_5 rfl hl (by decide) rfl (fun ls hl => ?_)
  refine lv_iload_n S.1 S.2.1 dX6_topUp_6 rfl (lv_at hl 3 rfl) ?_
  refine lv_iconst (v := 1) S.1 S.2.1 dX6_topUp_7 (by decide) ?_
  refine lv_icmp_ge (tgt := 21) S.1 S.2.1 dX6_topUp_8 (by decide) (fun c_8 => ?_) (fun c_8 => ?_)
  · refine lv_aload_n S.1 S.2.1 dX6_topUp_21 rfl (lv_at hl 0 rfl) ?_
    refine g_getN S G 5 4 (hV 5 _ (by first | decide | (show _ < 12; omega))) (by decide) (by decide) i5 (gn_9 hF) (gvk_i rfl rfl) dX6_topUp_22 ?_
    refine lv_iload_n S.1 S.2.1 dX6_topUp_25 rfl (lv_at hl 3 rfl) ?_
    refine lv_icmp_ge (tgt := 39) S.1 S.2.1 dX6_topUp_26 (by decide) (fun c_26 => ?_) (fun c_26 => ?_)
    · refine lv_aload_n S.1 S.2.1 dX6_topUp_39 rfl (lv_at hl 0 rfl) ?_
      refine lv_dup S.1 S.2.1 dX6_topUp_40 rfl ?_
      refine g_getN S G 5 4 (hV 5 _ (by first | decide | (show _ < 12; omega))) (by decide) (by decide) i5 (gn_9 hF) (gvk_i rfl rfl) dX6_topUp_41 ?_
      refine lv_iload_n S.1 S.2.1 dX6_topUp_44 rfl (lv_at hl 3 rfl) ?_
      refine lv_isub S.1 S.2.1 dX6_topUp_45 ?_
      refine g_putN (ty := .int) S G 5 4 (hV 5 _ (by first | decide | (show _ < 12; omega))) (by decide) (by decide) i5 (gn_9 hF) rfl (by decide +kernel) rfl rfl (gw_i rfl) dX6_topUp_46 (fun H locs G => ?_)
      have G := gk_S rfl G
      refine lv_aload_n S.1 S.2.1 dX6_topUp_49 rfl (lv_at hl 0 rfl) ?_
      refine lv_dup S.1 S.2.1 dX6_topUp_50 rfl ?_
      refine g_getN S G 5 3 (hV 5 _ (by first | decide | (show _ < 12; omega))) (by decide) (by decide) i5 (gn_8 hF) (gvk_i rfl rfl) dX6_topUp_51 ?_
      refine lv_iload_n S.1 S.2.1 dX6_topUp_54 rfl (lv_at hl 3 rfl) ?_
      refine lv_iadd S.1 S.2.1 dX6_topUp_55 ?_
      refine g_putN (ty := .int) S G 5 3 (hV 5 _ (by first | decide | (show _ < 12; omega))) (by decide) (by decide) i5 (gn_8 hF) rfl (by decide +kernel) rfl rfl (gw_i rfl) dX6_topUp_56 (fun H locs G => ?_)
      have G := gk_S rfl G
      refine lv_aload_n S.1 S.2.1 dX6_topUp_59 rfl (lv_at hl 0 rfl) ?_
      refine lv_dup S.1 S.2.1 dX6_topUp_60 rfl ?_
      refine g_getN S G 5 5 (hV 5 _ (by first | decide | (show _ < 12; omega))) (by decide) (by decide) i5 (gn_10 hF) (gvk_i rfl rfl) dX6_topUp_61 ?_
      refine lv_iload_n S.1 S.2.1 dX6_topUp_64 rfl (lv_at hl 3 rfl) ?_
      refine lv_iadd S.1 S.2.1 dX6_topUp_65 ?_
      refine g_putN (ty := .int) S G 5 5 (hV 5 _ (by first | decide | (show _ < 12; omega))) (by decide) (by decide) i5 (gn_10 hF) rfl (by decide +kernel) rfl rfl (gw_i rfl) dX6_topUp_66 (fun H locs G => ?_)
      have G := gk_S rfl G
      refine lv_aload_n S.1 S.2.1 dX6_topUp_69 rfl (lv_at hl 0 rfl) ?_
      refine g_getN S G 5 3 (hV 5 _ (by first | decide | (show _ < 12; omega))) (by decide) (by decide) i5 (gn_8 hF) (gvk_i rfl rfl) dX6_topUp_70 ?_
      refine vx_ret ?_
      exact g_iret S G hr hlk (⟨by simp only [sTopUpT, if_neg c_2, if_pos c_8, if_pos c_26], rfl, rfl⟩) (Nat.le_of_ble_eq_true rfl) (Nat.le_of_ble_eq_true rfl) dX6_topUp_73
    · exact g_throw (cls := "java/lang/IllegalStateException") (text := "the purse of the sensor is less") S G hF hlf hlk hex hl.1 rfl (by decide +kernel) (by decide +kernel) (by decide +kernel) (by decide +kernel) (by decide +kernel) (by decide +kernel) (by decide +kernel) (by decide +kernel) dX6_topUp_29 dX6_topUp_32 (Or.inl ⟨dX6_topUp_33, dX6_topUp_35, dX6_topUp_38⟩) (Nat.le_of_ble_eq_true rfl) (Nat.le_of_ble_eq_true rfl) (Nat.le_of_ble_eq_true rfl) (Nat.le_of_ble_eq_true rfl) (⟨xE3 (by simp only [sTopUpT, if_neg c_2, if_pos c_8, if_neg c_26]), rfl⟩) (Nat.le_of_ble_eq_true rfl) (Nat.le_of_ble_eq_true rfl)
  · exact g_throw (cls := "java/lang/IllegalArgumentException") (text := "the amount is below 1") S G hF hlf hlk hex hl.1 rfl (by decide +kernel) (by decide +kernel) (by decide +kernel) (by decide +kernel) (by decide +kernel) (by decide +kernel) (by decide +kernel) (by decide +kernel) dX6_topUp_11 dX6_topUp_14 (Or.inl ⟨dX6_topUp_15, dX6_topUp_17, dX6_topUp_20⟩) (Nat.le_of_ble_eq_true rfl) (Nat.le_of_ble_eq_true rfl) (Nat.le_of_ble_eq_true rfl) (Nat.le_of_ble_eq_true rfl) (⟨xE2 (by simp only [sTopUpT, if_neg c_2, if_neg c_8]), rfl⟩) (Nat.le_of_ble_eq_true rfl) (Nat.le_of_ble_eq_true rfl)
set_option maxHeartbeats 4000000 in
set_option maxRecDepth 100000 in
theorem c_X6_bondByCuts (l : Launch) (hlf : l.stackTraces = false) (ids : gIds) (ad : gAd) (κ : gMem) (x : Int32) (hV : cV ids) (hW : cWF ids κ)  : gXi l yX6_bondByCuts wsX6_bondByCuts ({ frames := 7, cells := 8, slots := 64, locals := 111 } : Room) 8 64 [.ref (ad 7 0), .int x] (ids, ad, gk κ) (fun q u => mOneT x 11 = 0 ∧ q = sCuts κ (tN x) (tN (κ 7 0 4)) ∧ u = (ids, ad, gk (κ))) (fun E u => xE (mOneT x 11) E ∧ u = (ids, ad, gk (κ))) := by
  intro D aC A
  refine gx_of (cc := cX6_bondByCuts) (maxL := 5) (ret := (some .int)) (by decide +kernel) rfl (Nat.le_of_ble_eq_true rfl) ?_
  intro p e s m below meth c ls S G hF hr hlk hex hl
  have hl : lv_has ls 5 [(0, _), (1, _)] := hl
  have i3 : ∀ w ∈ wsX20, w ∈ wsX6_bondByCuts := by decide +kernel
  have i5 : ∀ w ∈ wsX40, w ∈ wsX6_bondByCuts := by decide +kernel
  have i7 : ∀ w ∈ wsX60, w ∈ wsX6_bondByCuts := by decide +kernel
  refine lv_aload_n S.1 S.2.1 dX6_bondByCuts_0 rfl (lv_at hl 0 rfl) ?_
  refine lv_iload_n S.1 S.2.1 dX6_bondByCuts_1 rfl (lv_at hl 1 rfl) ?_
  refine gx_cVr S G hF hl 7 (hV 7 _ (by first | decide | (show _ < 1; omega))) (by decide) (c_X6_sensorAt l hlf ids ad _ _ hV) (cwV 1 S.2.2.2.2 gX6_bondByCuts_X6_sensorAt rfl rfl rfl (by decide +kernel) ⟨Nat.le_of_ble_eq_true rfl, Nat.le_of_ble_eq_true rfl⟩) rfl rfl (Nat.le_of_ble_eq_true rfl) dX6_bondByCuts_2 ⟨Nat.le_of_ble_eq_true rfl, Nat.le_of_ble_eq_true rfl⟩ (gx_pass hex hlk (fun E u h => ⟨by obtain ⟨h1, rfl, -⟩ := h; exact xE1 (by simp only [mOneT, if_pos h1]), h.2.2⟩) (Nat.le_of_ble_eq_true rfl) (Nat.le_of_ble_eq_true rfl)) (fun r_2 u_2 H locs hp_2 G => ?_)
  obtain ⟨c_2, rfl, rfl⟩ := hp_2
  have G : gS D aC A s ids ad (gk _) H locs := G
  obtain ⟨hx_2, hj_2⟩ := mIn_rng (m := 11) c_2 (by decide)
  refine lv_astore_n (lv' := [(2, _), (0, _), (1, _)]) S.1 S.2.1 dX6_bondByCuts_5 rfl hl (by decide) rfl (fun ls hl => ?_)
  refine lv_bipush (v := 100) S.1 S.2.1 dX6_bondByCuts_6 (by decide) ?_
  refine lv_aload_n S.1 S.2.1 dX6_bondByCuts_8 rfl (lv_at hl 0 rfl) ?_
  refine g_getN S G 5 5 (hV 5 _ (by first | decide | (show _ < 12; omega))) (by decide) (by decide) i5 (gn_10 hF) (gvk_i rfl rfl) dX6_bondByCuts_9 ?_
  refine lv_iadd S.1 S.2.1 dX6_bondByCuts_12 ?_
  refine lv_istore_n (lv' := [(3, _), (2, _), (0, _), (1, _)]) S.1 S.2.1 dX6_bondByCuts_13 rfl hl (by decide) rfl (fun ls hl => ?_)
  refine lv_iconst (v := 0) S.1 S.2.1 dX6_bondByCuts_14 (by decide) ?_
  refine lv_istore (lv' := [(4, _), (3, _), (2, _), (0, _), (1, _)]) S.1 S.2.1 dX6_bondByCuts_15 hl (by decide) rfl (fun ls hl => ?_)
  obtain ⟨hn, hn80⟩ := hW.cnt
  refine g_forg (tN (κ 7 0 4)) (fun k_17 => [(4, .int (nI k_17)), (3, .int (sCuts κ (tN x) k_17)), (2, .ref (ad 5 (tN x))), (1, .int x), (0, .ref (ad 7 0))]) ?_ G (lv_sub hl [0, 1, 2, 4, 3] rfl)
  intro k_17 H locs ls hk_17 G hl ih_17
  have hl : lv_has ls 5 [(4, _), (3, _), (2, _), (1, _), (0, _)] := hl
  refine lv_iload S.1 S.2.1 dX6_bondByCuts_17 (lv_at hl 0 rfl) ?_
  refine lv_aload_n S.1 S.2.1 dX6_bondByCuts_19 rfl (lv_at hl 4 rfl) ?_
  refine g_get S G 7 4 (hV 7 _ (by first | decide | (show _ < 1; omega))) (by decide) (by decide) i7 (S.2.2.2.2 (.fieldLink RX6 33 "SensorBond" "readingCount" "I") (by decide +kernel)) (gvk_i rfl rfl) dX6_bondByCuts_20 ?_
  refine g_top hn ?_
  refine lv_icmp_ge (tgt := 59) S.1 S.2.1 dX6_bondByCuts_23 (by decide) (fun c_23 => ?_) (fun c_23 => ?_)
  · have hkN_17 : k_17 = (tN (κ 7 0 4)) := g_exit c_23 hk_17 (by omega)
    subst hkN_17
    refine lv_iload_n S.1 S.2.1 dX6_bondByCuts_59 rfl (lv_at hl 1 rfl) ?_
    refine vx_ret ?_
    exact g_iret S G hr hlk (⟨by simp only [mOneT, if_neg c_2, if_pos c_23], rfl, rfl⟩) (Nat.le_of_ble_eq_true rfl) (Nat.le_of_ble_eq_true rfl) dX6_bondByCuts_60
  · have hlt_17 : k_17 < (tN (κ 7 0 4)) := g_stay c_23 hk_17 (by omega)
    have hR := hW.2.1 _ hlt_17
    have hs := hR.2.2.2.1
    refine lv_aload_n S.1 S.2.1 dX6_bondByCuts_26 rfl (lv_at hl 4 rfl) ?_
    refine g_get S G 7 3 (hV 7 _ (by first | decide | (show _ < 1; omega))) (by decide) (by decide) i7 (S.2.2.2.2 (.fieldLink RX6 29 "SensorBond" "readings" "[LSensorBond$Reading;") (by decide +kernel)) (gvk_or (j := 0) rfl rfl (by omega)) dX6_bondByCuts_27 ?_
    refine lv_iload S.1 S.2.1 dX6_bondByCuts_30 (lv_at hl 0 rfl) ?_
    refine g_aald S G 13 (hV 13 _ (by first | decide | (show _ < 1; omega))) rfl rfl rfl (show k_17 < 80 by omega) (gqk_r rfl rfl hR.1 (by omega)) dX6_bondByCuts_32 ?_
    refine g_getN S G 3 0 hR.2.1 (by decide) (by decide) i3 (gn_14 hF) (gvk_r rfl rfl hs.1 (by have := hs.2; omega)) dX6_bondByCuts_33 ?_
    refine lv_aload_n S.1 S.2.1 dX6_bondByCuts_36 rfl (lv_at hl 2 rfl) ?_
    refine g_acmp_ne (tgt := 53) S G 5 (hV 5 _ hs.2) (hV 5 _ (by show _ < 12; omega)) dX6_bondByCuts_37 (by decide) (fun c_37 => ?_) (fun c_37 => ?_)
    · refine lv_iinc (k := 0) (lv' := [(4, _), (3, _), (2, _), (1, _), (0, _)]) S.1 S.2.1 dX6_bondByCuts_53 hl rfl (g_inc _) (by decide) rfl (fun ls hl => ?_)
      refine lv_goto (tgt := 17) S.1 S.2.1 dX6_bondByCuts_56 (by decide) ?_
      have e : sCuts κ (tN x) (k_17 + 1) = sCuts κ (tN x) k_17 := by simp only [sCuts, if_neg c_2, if_neg c_23, if_neg c_37]
      exact ih_17 hlt_17 _ _ _ G (by rw [e]; exact lv_sub hl [0, 1, 2, 3, 4] rfl)
    · refine lv_iload_n S.1 S.2.1 dX6_bondByCuts_40 rfl (lv_at hl 1 rfl) ?_
      refine lv_aload_n S.1 S.2.1 dX6_bondByCuts_41 rfl (lv_at hl 4 rfl) ?_
      refine g_get S G 7 3 (hV 7 _ (by first | decide | (show _ < 1; omega))) (by decide) (by decide) i7 (S.2.2.2.2 (.fieldLink RX6 29 "SensorBond" "readings" "[LSensorBond$Reading;") (by decide +kernel)) (gvk_or (j := 0) rfl rfl (by omega)) dX6_bondByCuts_42 ?_
      refine lv_iload S.1 S.2.1 dX6_bondByCuts_45 (lv_at hl 0 rfl) ?_
      refine g_aald S G 13 (hV 13 _ (by first | decide | (show _ < 1; omega))) rfl rfl rfl (show k_17 < 80 by omega) (gqk_r rfl rfl hR.1 (by omega)) dX6_bondByCuts_47 ?_
      refine g_getN S G 3 8 hR.2.1 (by decide) (by decide) i3 (gn_22 hF) (gvk_i rfl rfl) dX6_bondByCuts_48 ?_
      refine lv_isub S.1 S.2.1 dX6_bondByCuts_51 ?_
      refine lv_istore_n (lv' := [(3, _), (4, _), (2, _), (1, _), (0, _)]) S.1 S.2.1 dX6_bondByCuts_52 rfl hl (by decide) rfl (fun ls hl => ?_)
      refine lv_iinc (k := 1) (lv' := [(4, _), (3, _), (2, _), (1, _), (0, _)]) S.1 S.2.1 dX6_bondByCuts_53 hl rfl (g_inc _) (by decide) rfl (fun ls hl => ?_)
      refine lv_goto (tgt := 17) S.1 S.2.1 dX6_bondByCuts_56 (by decide) ?_
      have e : sCuts κ (tN x) (k_17 + 1) = sCuts κ (tN x) k_17 - κ 3 k_17 8 := by simp only [sCuts, if_neg c_2, if_neg c_23, if_pos c_37]
      exact ih_17 hlt_17 _ _ _ G (by rw [e]; exact lv_sub hl [0, 1, 2, 3, 4] rfl)
set_option maxHeartbeats 4000000 in
set_option maxRecDepth 100000 in
theorem c_X6_mark (l : Launch) (hlf : l.stackTraces = false) (ids : gIds) (ad : gAd) (κ : gMem) (x : Int32) (hV : cV ids) (hW : cWF ids κ)  : gXi l yX6_mark wsX6_mark ({ frames := 7, cells := 8, slots := 64, locals := 111 } : Room) 8 64 [.ref (ad 7 0), .int x] (ids, ad, gk κ) (fun q u => mOneT x 11 = 0 ∧ q = sMark κ (tN x) (tN (κ 7 0 4)) ∧ u = (ids, ad, gk (κ))) (fun E u => xE (mOneT x 11) E ∧ u = (ids, ad, gk (κ))) := by
  intro D aC A
  refine gx_of (cc := cX6_mark) (maxL := 5) (ret := (some .int)) (by decide +kernel) rfl (Nat.le_of_ble_eq_true rfl) ?_
  intro p e s m below meth c ls S G hF hr hlk hex hl
  have hl : lv_has ls 5 [(0, _), (1, _)] := hl
  have i3 : ∀ w ∈ wsX20, w ∈ wsX6_mark := by decide +kernel
  have i7 : ∀ w ∈ wsX60, w ∈ wsX6_mark := by decide +kernel
  refine lv_aload_n S.1 S.2.1 dX6_mark_0 rfl (lv_at hl 0 rfl) ?_
  refine lv_iload_n S.1 S.2.1 dX6_mark_1 rfl (lv_at hl 1 rfl) ?_
  refine gx_cVr S G hF hl 7 (hV 7 _ (by first | decide | (show _ < 1; omega))) (by decide) (c_X6_sensorAt l hlf ids ad _ _ hV) (cwV 1 S.2.2.2.2 gX6_mark_X6_sensorAt rfl rfl rfl (by decide +kernel) ⟨Nat.le_of_ble_eq_true rfl, Nat.le_of_ble_eq_true rfl⟩) rfl rfl (Nat.le_of_ble_eq_true rfl) dX6_mark_2 ⟨Nat.le_of_ble_eq_true rfl, Nat.le_of_ble_eq_true rfl⟩ (gx_pass hex hlk (fun E u h => ⟨by obtain ⟨h1, rfl, -⟩ := h; exact xE1 (by simp only [mOneT, if_pos h1]), h.2.2⟩) (Nat.le_of_ble_eq_true rfl) (Nat.le_of_ble_eq_true rfl)) (fun r_2 u_2 H locs hp_2 G => ?_)
  obtain ⟨c_2, rfl, rfl⟩ := hp_2
  have G : gS D aC A s ids ad (gk _) H locs := G
  obtain ⟨hx_2, hj_2⟩ := mIn_rng (m := 11) c_2 (by decide)
  refine lv_astore_n (lv' := [(2, _), (0, _), (1, _)]) S.1 S.2.1 dX6_mark_5 rfl hl (by decide) rfl (fun ls hl => ?_)
  refine lv_iconst (v := 0) S.1 S.2.1 dX6_mark_6 (by decide) ?_
  refine lv_istore_n (lv' := [(3, _), (2, _), (0, _), (1, _)]) S.1 S.2.1 dX6_mark_7 rfl hl (by decide) rfl (fun ls hl => ?_)
  refine lv_iconst (v := 0) S.1 S.2.1 dX6_mark_8 (by decide) ?_
  refine lv_istore (lv' := [(4, _), (3, _), (2, _), (0, _), (1, _)]) S.1 S.2.1 dX6_mark_9 hl (by decide) rfl (fun ls hl => ?_)
  obtain ⟨hn, hn80⟩ := hW.cnt
  refine g_forg (tN (κ 7 0 4)) (fun k_11 => [(4, .int (nI k_11)), (3, .int (sMark κ (tN x) k_11)), (2, .ref (ad 5 (tN x))), (1, .int x), (0, .ref (ad 7 0))]) ?_ G (lv_sub hl [0, 1, 2, 4, 3] rfl)
  intro k_11 H locs ls hk_11 G hl ih_11
  have hl : lv_has ls 5 [(4, _), (3, _), (2, _), (1, _), (0, _)] := hl
  refine lv_iload S.1 S.2.1 dX6_mark_11 (lv_at hl 0 rfl) ?_
  refine lv_aload_n S.1 S.2.1 dX6_mark_13 rfl (lv_at hl 4 rfl) ?_
  refine g_get S G 7 4 (hV 7 _ (by first | decide | (show _ < 1; omega))) (by decide) (by decide) i7 (S.2.2.2.2 (.fieldLink RX6 33 "SensorBond" "readingCount" "I") (by decide +kernel)) (gvk_i rfl rfl) dX6_mark_14 ?_
  refine g_top hn ?_
  refine lv_icmp_ge (tgt := 56) S.1 S.2.1 dX6_mark_17 (by decide) (fun c_17 => ?_) (fun c_17 => ?_)
  · have hkN_11 : k_11 = (tN (κ 7 0 4)) := g_exit c_17 hk_11 (by omega)
    subst hkN_11
    refine lv_iload_n S.1 S.2.1 dX6_mark_56 rfl (lv_at hl 1 rfl) ?_
    refine vx_ret ?_
    exact g_iret S G hr hlk (⟨by simp only [mOneT, if_neg c_2, if_pos c_17], rfl, rfl⟩) (Nat.le_of_ble_eq_true rfl) (Nat.le_of_ble_eq_true rfl) dX6_mark_57
  · have hlt_11 : k_11 < (tN (κ 7 0 4)) := g_stay c_17 hk_11 (by omega)
    have hR := hW.2.1 _ hlt_11
    have hs := hR.2.2.2.1
    refine lv_aload_n S.1 S.2.1 dX6_mark_20 rfl (lv_at hl 4 rfl) ?_
    refine g_get S G 7 3 (hV 7 _ (by first | decide | (show _ < 1; omega))) (by decide) (by decide) i7 (S.2.2.2.2 (.fieldLink RX6 29 "SensorBond" "readings" "[LSensorBond$Reading;") (by decide +kernel)) (gvk_or (j := 0) rfl rfl (by omega)) dX6_mark_21 ?_
    refine lv_iload S.1 S.2.1 dX6_mark_24 (lv_at hl 0 rfl) ?_
    refine g_aald S G 13 (hV 13 _ (by first | decide | (show _ < 1; omega))) rfl rfl rfl (show k_11 < 80 by omega) (gqk_r rfl rfl hR.1 (by omega)) dX6_mark_26 ?_
    refine g_getN S G 3 0 hR.2.1 (by decide) (by decide) i3 (gn_14 hF) (gvk_r rfl rfl hs.1 (by have := hs.2; omega)) dX6_mark_27 ?_
    refine lv_aload_n S.1 S.2.1 dX6_mark_30 rfl (lv_at hl 2 rfl) ?_
    refine g_acmp_ne (tgt := 50) S G 5 (hV 5 _ hs.2) (hV 5 _ (by show _ < 12; omega)) dX6_mark_31 (by decide) (fun c_31 => ?_) (fun c_31 => ?_)
    · refine lv_iinc (k := 0) (lv' := [(4, _), (3, _), (2, _), (1, _), (0, _)]) S.1 S.2.1 dX6_mark_50 hl rfl (g_inc _) (by decide) rfl (fun ls hl => ?_)
      refine lv_goto (tgt := 11) S.1 S.2.1 dX6_mark_53 (by decide) ?_
      have e : sMark κ (tN x) (k_11 + 1) = sMark κ (tN x) k_11 := by simp only [sMark, if_neg c_2, if_neg c_17, if_neg c_31]
      exact ih_11 hlt_11 _ _ _ G (by rw [e]; exact lv_sub hl [0, 1, 2, 3, 4] rfl)
    · refine lv_iload_n S.1 S.2.1 dX6_mark_34 rfl (lv_at hl 1 rfl) ?_
      refine lv_aload_n S.1 S.2.1 dX6_mark_35 rfl (lv_at hl 4 rfl) ?_
      refine g_get S G 7 3 (hV 7 _ (by first | decide | (show _ < 1; omega))) (by decide) (by decide) i7 (S.2.2.2.2 (.fieldLink RX6 29 "SensorBond" "readings" "[LSensorBond$Reading;") (by decide +kernel)) (gvk_or (j := 0) rfl rfl (by omega)) dX6_mark_36 ?_
      refine lv_iload S.1 S.2.1 dX6_mark_39 (lv_at hl 0 rfl) ?_
      refine g_aald S G 13 (hV 13 _ (by first | decide | (show _ < 1; omega))) rfl rfl rfl (show k_11 < 80 by omega) (gqk_r rfl rfl hR.1 (by omega)) dX6_mark_41 ?_
      refine g_getN S G 3 3 hR.2.1 (by decide) (by decide) i3 (gn_17 hF) (gvk_i rfl rfl) dX6_mark_42 ?_
      refine g_cSi S G hF hl (c_X6_weightOf l ids ad _ _) (va_cwS 1 S.2.2.2.2 gX6_mark_X6_weightOf rfl rfl rfl (by decide +kernel) ⟨Nat.le_of_ble_eq_true rfl, Nat.le_of_ble_eq_true rfl⟩) rfl rfl (Nat.le_of_ble_eq_true rfl) dX6_mark_45 ⟨Nat.le_of_ble_eq_true rfl, Nat.le_of_ble_eq_true rfl⟩ (fun r_45 u_45 H locs hp_45 G => ?_)
      obtain ⟨rfl, rfl⟩ := hp_45
      have G : gS D aC A s ids ad (gk _) H locs := G
      refine lv_iadd S.1 S.2.1 dX6_mark_48 ?_
      refine lv_istore_n (lv' := [(3, _), (4, _), (2, _), (1, _), (0, _)]) S.1 S.2.1 dX6_mark_49 rfl hl (by decide) rfl (fun ls hl => ?_)
      refine lv_iinc (k := 1) (lv' := [(4, _), (3, _), (2, _), (1, _), (0, _)]) S.1 S.2.1 dX6_mark_50 hl rfl (g_inc _) (by decide) rfl (fun ls hl => ?_)
      refine lv_goto (tgt := 11) S.1 S.2.1 dX6_mark_53 (by decide) ?_
      have e : sMark κ (tN x) (k_11 + 1) = sMark κ (tN x) k_11 + sWeight (κ 3 k_11 3) := by simp only [sMark, if_neg c_2, if_neg c_17, if_pos c_31]
      exact ih_11 hlt_11 _ _ _ G (by rw [e]; exact lv_sub hl [0, 1, 2, 3, 4] rfl)
set_option maxHeartbeats 4000000 in
set_option maxRecDepth 100000 in
theorem c_X6_sample (l : Launch) (hlf : l.stackTraces = false) (ids : gIds) (ad : gAd) (κ : gMem) (a x v : Int32) (hV : cV ids) (hW : cWF ids κ)  : gXi l yX6_sample wsX6_sample ({ frames := 7, cells := 8, slots := 64, locals := 112 } : Room) 8 64 [.ref (ad 7 0), .int a, .int x, .int v] (ids, ad, gk κ) (fun q u => sSampleT κ a x v = 0 ∧ q = sSampleK κ (tN a) (tN x) v 3 (tN x) 3 ∧ u = (ids, ad, gk (sSampleK κ (tN a) (tN x) v))) (fun E u => xE (sSampleT κ a x v) E ∧ u = (ids, ad, gk (κ))) := by
  intro D aC A
  refine gx_of (cc := cX6_sample) (maxL := 7) (ret := (some .int)) (by decide +kernel) rfl (Nat.le_of_ble_eq_true rfl) ?_
  intro p e s m below meth c ls S G hF hr hlk hex hl
  have hl : lv_has ls 7 [(0, _), (1, _), (2, _), (3, _)] := hl
  have i2 : ∀ w ∈ wsX10, w ∈ wsX6_sample := by decide +kernel
  have i3 : ∀ w ∈ wsX20, w ∈ wsX6_sample := by decide +kernel
  have i5 : ∀ w ∈ wsX40, w ∈ wsX6_sample := by decide +kernel
  refine lv_aload_n S.1 S.2.1 dX6_sample_0 rfl (lv_at hl 0 rfl) ?_
  refine lv_iload_n S.1 S.2.1 dX6_sample_1 rfl (lv_at hl 1 rfl) ?_
  refine gx_cVr S G hF hl 7 (hV 7 _ (by first | decide | (show _ < 1; omega))) (by decide) (c_X6_sensorAt l hlf ids ad _ _ hV) (cwV 1 S.2.2.2.2 gX6_sample_X6_sensorAt rfl rfl rfl (by decide +kernel) ⟨Nat.le_of_ble_eq_true rfl, Nat.le_of_ble_eq_true rfl⟩) rfl rfl (Nat.le_of_ble_eq_true rfl) dX6_sample_2 ⟨Nat.le_of_ble_eq_true rfl, Nat.le_of_ble_eq_true rfl⟩ (gx_pass hex hlk (fun E u h => ⟨by obtain ⟨h1, rfl, -⟩ := h; exact xE1 (by simp only [sSampleT, if_pos h1]), h.2.2⟩) (Nat.le_of_ble_eq_true rfl) (Nat.le_of_ble_eq_true rfl)) (fun r_2 u_2 H locs hp_2 G => ?_)
  obtain ⟨c_2, rfl, rfl⟩ := hp_2
  have G : gS D aC A s ids ad (gk _) H locs := G
  obtain ⟨hx_2, hj_2⟩ := mIn_rng (m := 11) c_2 (by decide)
  refine lv_astore (lv' := [(4, _), (0, _), (1, _), (2, _), (3, _)]) S.1 S.2.1 dX6_sample_5 hl (by decide) rfl (fun ls hl => ?_)
  refine lv_aload_n S.1 S.2.1 dX6_sample_7 rfl (lv_at hl 1 rfl) ?_
  refine lv_iload_n S.1 S.2.1 dX6_sample_8 rfl (lv_at hl 3 rfl) ?_
  refine gx_cVr S G hF hl 7 (hV 7 _ (by first | decide | (show _ < 1; omega))) (by decide) (c_X6_readingAt l hlf ids ad _ _ hV hW) (cwV 1 S.2.2.2.2 gX6_sample_X6_readingAt rfl rfl rfl (by decide +kernel) ⟨Nat.le_of_ble_eq_true rfl, Nat.le_of_ble_eq_true rfl⟩) rfl rfl (Nat.le_of_ble_eq_true rfl) dX6_sample_9 ⟨Nat.le_of_ble_eq_true rfl, Nat.le_of_ble_eq_true rfl⟩ (gx_pass hex hlk (fun E u h => ⟨by obtain ⟨h1, rfl, -⟩ := h; exact xE1 (by simp only [sSampleT, if_neg c_2, if_pos h1]), h.2.2⟩) (Nat.le_of_ble_eq_true rfl) (Nat.le_of_ble_eq_true rfl)) (fun r_9 u_9 H locs hp_9 G => ?_)
  obtain ⟨c_9, rfl, rfl⟩ := hp_9
  have G : gS D aC A s ids ad (gk _) H locs := G
  obtain ⟨hn, hn80⟩ := hW.cnt
  obtain ⟨hx_9, hj_9⟩ := mIn_rd (n := tN (κ 7 0 4)) (by rw [← hn]; exact c_9) hn80
  have hR := hW.2.1 _ hj_9
  refine lv_astore (lv' := [(5, _), (4, _), (0, _), (1, _), (2, _), (3, _)]) S.1 S.2.1 dX6_sample_12 hl (by decide) rfl (fun ls hl => ?_)
  refine lv_iload_n S.1 S.2.1 dX6_sample_14 rfl (lv_at hl 5 rfl) ?_
  refine lv_iconst (v := 0) S.1 S.2.1 dX6_sample_15 (by decide) ?_
  refine lv_bipush (v := 99) S.1 S.2.1 dX6_sample_16 (by decide) ?_
  refine gx_cSv S G hF hl (c_X6_checkWithin l hlf ids ad _ _ _ _) (va_cwS 3 S.2.2.2.2 gX6_sample_X6_checkWithin rfl rfl rfl (by decide +kernel) ⟨Nat.le_of_ble_eq_true rfl, Nat.le_of_ble_eq_true rfl⟩) rfl rfl (Nat.le_of_ble_eq_true rfl) dX6_sample_18 ⟨Nat.le_of_ble_eq_true rfl, Nat.le_of_ble_eq_true rfl⟩ (gx_pass hex hlk (fun E u h => ⟨by obtain ⟨h1, rfl, -⟩ := h; exact xE2 (by simp only [sSampleT, if_neg c_2, if_neg c_9, if_pos h1]), h.2.2⟩) (Nat.le_of_ble_eq_true rfl) (Nat.le_of_ble_eq_true rfl)) (fun u_18 H locs hp_18 G => ?_)
  obtain ⟨c_18, rfl⟩ := hp_18
  have G : gS D aC A s ids ad (gk _) H locs := G
  by_cases h9 : κ 3 (tN x) 9 < 0
  · refine lv_aload S.1 S.2.1 dX6_sample_21 (lv_at hl 0 rfl) ?_
    have hs := hR.2.2.2.1
    refine g_getN S G 3 9 hR.2.1 (by decide) (by decide) i3 (gn_23 hF) (gvk_n rfl rfl h9) dX6_sample_23 ?_
    refine lv_astoreN (lv' := [(6, _), (5, _), (4, _), (0, _), (1, _), (2, _), (3, _)]) S.1 S.2.1 dX6_sample_26 hl (by decide) rfl (fun ls hl => ?_)
    refine lv_aloadN S.1 S.2.1 dX6_sample_28 (lv_at hl 0 rfl) ?_
    refine lv_ifnullN (tgt := 67) S.1 S.2.1 dX6_sample_30 (by decide) ?_
    exact g_throw (cls := "java/lang/IllegalStateException") (text := "the sensor can give no sample for the reading") S G hF hlf hlk hex hl.1 rfl (by decide +kernel) (by decide +kernel) (by decide +kernel) (by decide +kernel) (by decide +kernel) (by decide +kernel) (by decide +kernel) (by decide +kernel) dX6_sample_67 dX6_sample_70 (Or.inl ⟨dX6_sample_71, dX6_sample_73, dX6_sample_76⟩) (Nat.le_of_ble_eq_true rfl) (Nat.le_of_ble_eq_true rfl) (Nat.le_of_ble_eq_true rfl) (Nat.le_of_ble_eq_true rfl) (⟨xE3 (by simp only [sSampleT, if_neg c_2, if_neg c_9, if_neg c_18, if_pos h9]), rfl⟩) (Nat.le_of_ble_eq_true rfl) (Nat.le_of_ble_eq_true rfl)
  · refine lv_aload S.1 S.2.1 dX6_sample_21 (lv_at hl 0 rfl) ?_
    have hs := hR.2.2.2.1
    obtain ⟨h9r, h2, h16, hc, hct⟩ := hR.ch h9
    refine g_getN S G 3 9 hR.2.1 (by decide) (by decide) i3 (gn_23 hF) (gvk_r rfl rfl h9r (by omega)) dX6_sample_23 ?_
    refine lv_astore (lv' := [(6, _), (5, _), (4, _), (0, _), (1, _), (2, _), (3, _)]) S.1 S.2.1 dX6_sample_26 hl (by decide) rfl (fun ls hl => ?_)
    refine lv_aload S.1 S.2.1 dX6_sample_28 (lv_at hl 0 rfl) ?_
    refine lv_ifnull S.1 S.2.1 dX6_sample_30 ?_
    refine lv_aload S.1 S.2.1 dX6_sample_33 (lv_at hl 1 rfl) ?_
    refine g_getN S G 3 3 hR.2.1 (by decide) (by decide) i3 (gn_17 hF) (gvk_i rfl rfl) dX6_sample_35 ?_
    refine lv_iconst (v := 1) S.1 S.2.1 dX6_sample_38 (by decide) ?_
    refine lv_icmp_ne (tgt := 67) S.1 S.2.1 dX6_sample_39 (by decide) (fun c_39 => ?_) (fun c_39 => ?_)
    · exact g_throw (cls := "java/lang/IllegalStateException") (text := "the sensor can give no sample for the reading") S G hF hlf hlk hex hl.1 rfl (by decide +kernel) (by decide +kernel) (by decide +kernel) (by decide +kernel) (by decide +kernel) (by decide +kernel) (by decide +kernel) (by decide +kernel) dX6_sample_67 dX6_sample_70 (Or.inl ⟨dX6_sample_71, dX6_sample_73, dX6_sample_76⟩) (Nat.le_of_ble_eq_true rfl) (Nat.le_of_ble_eq_true rfl) (Nat.le_of_ble_eq_true rfl) (Nat.le_of_ble_eq_true rfl) (⟨xE3 (by simp only [sSampleT, if_neg c_2, if_neg c_9, if_neg c_18, if_neg h9, if_neg c_39]), rfl⟩) (Nat.le_of_ble_eq_true rfl) (Nat.le_of_ble_eq_true rfl)
    · refine lv_iload_n S.1 S.2.1 dX6_sample_42 rfl (lv_at hl 4 rfl) ?_
      refine lv_aload S.1 S.2.1 dX6_sample_43 (lv_at hl 1 rfl) ?_
      refine g_getN S G 3 0 hR.2.1 (by decide) (by decide) i3 (gn_14 hF) (gvk_r rfl rfl hs.1 (by have := hs.2; omega)) dX6_sample_45 ?_
      refine g_getN S G 5 0 (hV 5 _ hs.2) (by decide) (by decide) i5 (gn_5 hF) (gvk_oi rfl rfl) dX6_sample_48 ?_
      refine g_cSi S G hF hl (c_X6_areNeighbours l ids ad _ _ _) (va_cwS 2 S.2.2.2.2 gX6_sample_X6_areNeighbours rfl rfl rfl (by decide +kernel) ⟨Nat.le_of_ble_eq_true rfl, Nat.le_of_ble_eq_true rfl⟩) rfl rfl (Nat.le_of_ble_eq_true rfl) dX6_sample_51 ⟨Nat.le_of_ble_eq_true rfl, Nat.le_of_ble_eq_true rfl⟩ (fun r_51 u_51 H locs hp_51 G => ?_)
      obtain ⟨rfl, rfl⟩ := hp_51
      have G : gS D aC A s ids ad (gk _) H locs := G
      refine lv_if_eq (tgt := 67) S.1 S.2.1 dX6_sample_54 (by decide) (fun c_54 => ?_) (fun c_54 => ?_)
      · exact g_throw (cls := "java/lang/IllegalStateException") (text := "the sensor can give no sample for the reading") S G hF hlf hlk hex hl.1 rfl (by decide +kernel) (by decide +kernel) (by decide +kernel) (by decide +kernel) (by decide +kernel) (by decide +kernel) (by decide +kernel) (by decide +kernel) dX6_sample_67 dX6_sample_70 (Or.inl ⟨dX6_sample_71, dX6_sample_73, dX6_sample_76⟩) (Nat.le_of_ble_eq_true rfl) (Nat.le_of_ble_eq_true rfl) (Nat.le_of_ble_eq_true rfl) (Nat.le_of_ble_eq_true rfl) (⟨xE3 (by simp only [sSampleT, if_neg c_2, if_neg c_9, if_neg c_18, if_neg h9, if_pos c_39, if_pos c_54]), rfl⟩) (Nat.le_of_ble_eq_true rfl) (Nat.le_of_ble_eq_true rfl)
      · refine lv_aload S.1 S.2.1 dX6_sample_57 (lv_at hl 0 rfl) ?_
        refine lv_aload S.1 S.2.1 dX6_sample_59 (lv_at hl 2 rfl) ?_
        refine g_cNi S G hF hl 2 h2 (by decide) (c_X1_hasSampleOf l ids ad _ _ _ h2 (hV 5 _ (by show _ < 12; omega))) ⟨va_cnB 1 S.2.2.2.2 gX6_sample_X1_hasSampleOf_n183 rfl rfl rfl (gm_8 hF) (S.2.2.2.2 (.initialized RX1) (by decide +kernel)) (by decide +kernel) ⟨Nat.le_of_ble_eq_true rfl, Nat.le_of_ble_eq_true rfl⟩, S.2.2.2.2 (.instanceMethod yX1_hasSampleOf) (by decide +kernel), S.2.2.2.2 (.selects RX1 yX1_hasSampleOf yX1_hasSampleOf) (by decide +kernel)⟩ rfl rfl (Nat.le_of_ble_eq_true rfl) dX6_sample_61 ⟨Nat.le_of_ble_eq_true rfl, Nat.le_of_ble_eq_true rfl⟩ (fun r_61 u_61 H locs hp_61 G => ?_)
        obtain ⟨rfl, rfl⟩ := hp_61
        have G : gS D aC A s ids ad (gk _) H locs := G
        refine lv_if_eq (tgt := 77) S.1 S.2.1 dX6_sample_64 (by decide) (fun c_64 => ?_) (fun c_64 => ?_)
        · refine lv_aload S.1 S.2.1 dX6_sample_77 (lv_at hl 0 rfl) ?_
          refine lv_aload S.1 S.2.1 dX6_sample_79 (lv_at hl 2 rfl) ?_
          refine lv_iload_n S.1 S.2.1 dX6_sample_81 rfl (lv_at hl 6 rfl) ?_
          refine g_cNv S G hF hl 2 h2 (by decide) (c_X1_addSample l ids ad _ _ _ _ (hV 5 _ (by show _ < 12; omega)) (by omega) h2 h16 hct) ⟨va_cnB 2 S.2.2.2.2 gX6_sample_X1_addSample_n189 rfl rfl rfl (gm_9 hF) (S.2.2.2.2 (.initialized RX1) (by decide +kernel)) (by decide +kernel) ⟨Nat.le_of_ble_eq_true rfl, Nat.le_of_ble_eq_true rfl⟩, S.2.2.2.2 (.instanceMethod yX1_addSample) (by decide +kernel), S.2.2.2.2 (.selects RX1 yX1_addSample yX1_addSample) (by decide +kernel)⟩ rfl rfl (Nat.le_of_ble_eq_true rfl) dX6_sample_82 ⟨Nat.le_of_ble_eq_true rfl, Nat.le_of_ble_eq_true rfl⟩ (fun u_82 H locs hp_82 G => ?_)
          obtain rfl := hp_82
          have G : gS D aC A s ids ad (gk _) H locs := G
          have hr80 : tN x < 80 := by omega
          have hR := sAdd_Rd (r := tN x) (s := tN a) (v := v) hR
          have hs2 := hR.2.2.2.1
          have ks : sAdd κ (tN x) (tN a) v 3 (tN x) 0 = κ 3 (tN x) 0 := sAdd_keep (by decide) (by decide)
          have k9 : sAdd κ (tN x) (tN a) v 3 (tN x) 9 = κ 3 (tN x) 9 := sAdd_keep (by decide) (by decide)
          refine lv_aload S.1 S.2.1 dX6_sample_85 (lv_at hl 0 rfl) ?_
          refine g_getN S G 2 2 h2 (by decide) (by decide) i2 (gn_28 hF) (gvk_i rfl rfl) dX6_sample_87 ?_
          refine lv_aload S.1 S.2.1 dX6_sample_90 (lv_at hl 1 rfl) ?_
          refine g_getN S G 3 0 hR.2.1 (by decide) (by decide) i3 (gn_14 hF) (gvk_r rfl rfl hs2.1 (by have := hs2.2; omega)) dX6_sample_92 ?_
          refine g_getN S G 5 0 (hV 5 _ hs2.2) (by decide) (by decide) i5 (gn_5 hF) (gvk_oi rfl rfl) dX6_sample_95 ?_
          refine g_cSi S G hF hl (c_X6_countNeighbours l ids ad _ _) (va_cwS 1 S.2.2.2.2 gX6_sample_X6_countNeighbours rfl rfl rfl (by decide +kernel) ⟨Nat.le_of_ble_eq_true rfl, Nat.le_of_ble_eq_true rfl⟩) rfl rfl (Nat.le_of_ble_eq_true rfl) dX6_sample_98 ⟨Nat.le_of_ble_eq_true rfl, Nat.le_of_ble_eq_true rfl⟩ (fun r_98 u_98 H locs hp_98 G => ?_)
          obtain ⟨rfl, rfl⟩ := hp_98
          have G : gS D aC A s ids ad (gk _) H locs := G
          refine lv_icmp_ne (tgt := 112) S.1 S.2.1 dX6_sample_101 (by decide) (fun c_101 => ?_) (fun c_101 => ?_)
          · refine lv_aload S.1 S.2.1 dX6_sample_112 (lv_at hl 1 rfl) ?_
            refine g_getN S G 3 3 hR.2.1 (by decide) (by decide) i3 (gn_17 hF) (gvk_i rfl rfl) dX6_sample_114 ?_
            refine vx_ret ?_
            exact g_iret S G hr hlk (⟨by simp only [sSampleT, if_neg c_2, if_neg c_9, if_neg c_18, if_neg h9, if_pos c_39, if_neg c_54, if_pos c_64, if_neg c_101], by simp only [sSampleK, ← ks, if_neg c_101], by simp only [sSampleK, ← ks, if_neg c_101]⟩) (Nat.le_of_ble_eq_true rfl) (Nat.le_of_ble_eq_true rfl) dX6_sample_117
          · refine lv_aload_n S.1 S.2.1 dX6_sample_104 rfl (lv_at hl 3 rfl) ?_
            refine lv_aload S.1 S.2.1 dX6_sample_105 (lv_at hl 1 rfl) ?_
            refine lv_aload S.1 S.2.1 dX6_sample_107 (lv_at hl 0 rfl) ?_
            refine g_cVv S G hF hl 7 (hV 7 _ (by first | decide | (show _ < 1; omega))) (by decide) (c_X6_judge l ids ad _ _ hV hr80 hR (by rw [k9]; exact h9)) (cwV 2 S.2.2.2.2 gX6_sample_X6_judge rfl rfl rfl (by decide +kernel) ⟨Nat.le_of_ble_eq_true rfl, Nat.le_of_ble_eq_true rfl⟩) rfl rfl (Nat.le_of_ble_eq_true rfl) dX6_sample_109 ⟨Nat.le_of_ble_eq_true rfl, Nat.le_of_ble_eq_true rfl⟩ (fun u_109 H locs hp_109 G => ?_)
            obtain rfl := hp_109
            have G : gS D aC A s ids ad (gk _) H locs := G
            refine lv_aload S.1 S.2.1 dX6_sample_112 (lv_at hl 1 rfl) ?_
            refine g_getN S G 3 3 hR.2.1 (by decide) (by decide) i3 (gn_17 hF) (gvk_i rfl rfl) dX6_sample_114 ?_
            refine vx_ret ?_
            exact g_iret S G hr hlk (⟨by simp only [sSampleT, if_neg c_2, if_neg c_9, if_neg c_18, if_neg h9, if_pos c_39, if_neg c_54, if_pos c_64, if_pos c_101], by simp only [sSampleK, ← ks, if_pos c_101], by simp only [sSampleK, ← ks, if_pos c_101]⟩) (Nat.le_of_ble_eq_true rfl) (Nat.le_of_ble_eq_true rfl) dX6_sample_117
        · exact g_throw (cls := "java/lang/IllegalStateException") (text := "the sensor can give no sample for the reading") S G hF hlf hlk hex hl.1 rfl (by decide +kernel) (by decide +kernel) (by decide +kernel) (by decide +kernel) (by decide +kernel) (by decide +kernel) (by decide +kernel) (by decide +kernel) dX6_sample_67 dX6_sample_70 (Or.inl ⟨dX6_sample_71, dX6_sample_73, dX6_sample_76⟩) (Nat.le_of_ble_eq_true rfl) (Nat.le_of_ble_eq_true rfl) (Nat.le_of_ble_eq_true rfl) (Nat.le_of_ble_eq_true rfl) (⟨xE3 (by simp only [sSampleT, if_neg c_2, if_neg c_9, if_neg c_18, if_neg h9, if_pos c_39, if_neg c_54, if_neg c_64]), rfl⟩) (Nat.le_of_ble_eq_true rfl) (Nat.le_of_ble_eq_true rfl)
