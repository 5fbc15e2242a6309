set_option maxHeartbeats 4000000 in
set_option maxRecDepth 100000 in
theorem c_X6_checkWithin (l : Launch) (hlf : l.stackTraces = false) (ids : gIds) (ad : gAd) (κ : gMem) (n a b : Int32)  : gXv l yX6_checkWithin wsX6_checkWithin ({ frames := 6, cells := 1, slots := 6, locals := 90 } : Room) 1 6 [.int n, .int a, .int b] (ids, ad, gk κ) (fun u => ¬ mIn n a b = 0 ∧ u = (ids, ad, gk (κ))) (fun E u => mIn n a b = 0 ∧ E = "java/lang/IllegalArgumentException" ∧ u = (ids, ad, gk (κ))) := by
  intro D aC A
  refine gx_of (cc := cX6_checkWithin) (maxL := 3) (ret := none) (by decide +kernel) rfl (Nat.le_of_ble_eq_true rfl) ?_
  intro p e s m below meth c ls S G hF hr hlk hex hl
  have hl : lv_has ls 3 [(0, _), (1, _), (2, _)] := hl
  refine lv_iload_n S.1 S.2.1 dX6_checkWithin_0 rfl (lv_at hl 0 rfl) ?_
  refine lv_iload_n S.1 S.2.1 dX6_checkWithin_1 rfl (lv_at hl 1 rfl) ?_
  refine lv_icmp_lt (tgt := 10) S.1 S.2.1 dX6_checkWithin_2 (by decide) (fun c_2 => ?_) (fun c_2 => ?_)
  · exact g_throw (cls := "java/lang/IllegalArgumentException") (text := "a number is out of range") S G hF hlf hlk hex hl.1 rfl (by decide +kernel) (by decide +kernel) (by decide +kernel) (by decide +kernel) (by decide +kernel) (by decide +kernel) (by decide +kernel) (by decide +kernel) dX6_checkWithin_10 dX6_checkWithin_13 (Or.inr ⟨dX6_checkWithin_14, dX6_checkWithin_17, dX6_checkWithin_20⟩) (Nat.le_of_ble_eq_true rfl) (Nat.le_of_ble_eq_true rfl) (Nat.le_of_ble_eq_true rfl) (Nat.le_of_ble_eq_true rfl) (⟨mIn_lo c_2, rfl, rfl⟩) (Nat.le_of_ble_eq_true rfl) (Nat.le_of_ble_eq_true rfl)
  · refine lv_iload_n S.1 S.2.1 dX6_checkWithin_5 rfl (lv_at hl 0 rfl) ?_
    refine lv_iload_n S.1 S.2.1 dX6_checkWithin_6 rfl (lv_at hl 2 rfl) ?_
    refine lv_icmp_le (tgt := 21) S.1 S.2.1 dX6_checkWithin_7 (by decide) (fun c_7 => ?_) (fun c_7 => ?_)
    · refine vx_ret ?_
      exact g_vret S G hr hlk (⟨mIn_ok c_2 (Int32.not_lt.mpr c_7), rfl⟩) (Nat.le_of_ble_eq_true rfl) (Nat.le_of_ble_eq_true rfl) dX6_checkWithin_21
    · exact g_throw (cls := "java/lang/IllegalArgumentException") (text := "a number is out of range") S G hF hlf hlk hex hl.1 rfl (by decide +kernel) (by decide +kernel) (by decide +kernel) (by decide +kernel) (by decide +kernel) (by decide +kernel) (by decide +kernel) (by decide +kernel) dX6_checkWithin_10 dX6_checkWithin_13 (Or.inr ⟨dX6_checkWithin_14, dX6_checkWithin_17, dX6_checkWithin_20⟩) (Nat.le_of_ble_eq_true rfl) (Nat.le_of_ble_eq_true rfl) (Nat.le_of_ble_eq_true rfl) (Nat.le_of_ble_eq_true rfl) (⟨mIn_hi (i32_nle c_7), rfl, rfl⟩) (Nat.le_of_ble_eq_true rfl) (Nat.le_of_ble_eq_true rfl)
set_option maxHeartbeats 4000000 in
set_option maxRecDepth 100000 in
theorem c_X6_repeaterAt (l : Launch) (hlf : l.stackTraces = false) (ids : gIds) (ad : gAd) (κ : gMem) (x : Int32) (hV : cV ids)  : gXr l yX6_repeaterAt wsX6_repeaterAt ({ frames := 6, cells := 1, slots := 6, locals := 90 } : Room) 1 6 [.ref (ad 7 0), .int x] (ids, ad, gk κ) (fun q u => ¬ mIn x 0 5 = 0 ∧ q = ad 4 (tN x) ∧ u = (ids, ad, gk (κ))) (fun E u => mIn x 0 5 = 0 ∧ E = "java/lang/IndexOutOfBoundsException" ∧ u = (ids, ad, gk (κ))) := by
  intro D aC A
  refine gx_of (cc := cX6_repeaterAt) (maxL := 2) (ret := (some (.object "SensorBond$Repeater"))) (by decide +kernel) rfl (Nat.le_of_ble_eq_true rfl) ?_
  intro p e s m below meth c ls S G hF hr hlk hex hl
  have hl : lv_has ls 2 [(0, _), (1, _)] := hl
  have i7 : ∀ w ∈ wsX60, w ∈ wsX6_repeaterAt := by decide +kernel
  refine lv_iload_n S.1 S.2.1 dX6_repeaterAt_0 rfl (lv_at hl 1 rfl) ?_
  refine lv_if_lt (tgt := 10) S.1 S.2.1 dX6_repeaterAt_1 (by decide) (fun c_1 => ?_) (fun c_1 => ?_)
  · exact g_throw (cls := "java/lang/IndexOutOfBoundsException") (text := "there is no such repeater") S G hF hlf hlk hex hl.1 rfl (by decide +kernel) (by decide +kernel) (by decide +kernel) (by decide +kernel) (by decide +kernel) (by decide +kernel) (by decide +kernel) (by decide +kernel) dX6_repeaterAt_10 dX6_repeaterAt_13 (Or.inl ⟨dX6_repeaterAt_14, dX6_repeaterAt_16, dX6_repeaterAt_19⟩) (Nat.le_of_ble_eq_true rfl) (Nat.le_of_ble_eq_true rfl) (Nat.le_of_ble_eq_true rfl) (Nat.le_of_ble_eq_true rfl) (⟨mIn_lo c_1, rfl, rfl⟩) (Nat.le_of_ble_eq_true rfl) (Nat.le_of_ble_eq_true rfl)
  · refine lv_iload_n S.1 S.2.1 dX6_repeaterAt_4 rfl (lv_at hl 1 rfl) ?_
    refine lv_bipush (v := 6) S.1 S.2.1 dX6_repeaterAt_5 (by decide) ?_
    refine lv_icmp_lt (tgt := 20) S.1 S.2.1 dX6_repeaterAt_7 (by decide) (fun c_7 => ?_) (fun c_7 => ?_)
    · have hin : ¬ mIn x 0 5 = 0 := mIn_ok c_1 (i32_le5 c_7)
      obtain ⟨hx, hj⟩ := mIn_rng (m := 5) hin (by decide)
      refine lv_aload_n S.1 S.2.1 dX6_repeaterAt_20 rfl (lv_at hl 0 rfl) ?_
      refine g_get S G 7 0 (hV 7 _ (by first | decide | (show _ < 1; omega))) (by decide) (by decide) i7 (S.2.2.2.2 (.fieldLink RX6 11 "SensorBond" "repeaters" "[LSensorBond$Repeater;") (by decide +kernel)) (gvk_or (j := 0) rfl rfl (by omega)) dX6_repeaterAt_21 ?_
      refine lv_iload_n S.1 S.2.1 dX6_repeaterAt_24 rfl (lv_at hl 1 rfl) ?_
      refine g_aald S G 10 (hV 10 _ (by first | decide | (show _ < 1; omega))) rfl rfl hx (show tN x < 6 by omega) (gq_r (g := 4) rfl rfl (by omega)) dX6_repeaterAt_25 ?_
      refine vx_ret ?_
      exact g_aret S G hr hlk (Or.inl ⟨_, rfl⟩) (⟨hin, rfl, rfl⟩) (Nat.le_of_ble_eq_true rfl) (Nat.le_of_ble_eq_true rfl) dX6_repeaterAt_26
    · exact g_throw (cls := "java/lang/IndexOutOfBoundsException") (text := "there is no such repeater") S G hF hlf hlk hex hl.1 rfl (by decide +kernel) (by decide +kernel) (by decide +kernel) (by decide +kernel) (by decide +kernel) (by decide +kernel) (by decide +kernel) (by decide +kernel) dX6_repeaterAt_10 dX6_repeaterAt_13 (Or.inl ⟨dX6_repeaterAt_14, dX6_repeaterAt_16, dX6_repeaterAt_19⟩) (Nat.le_of_ble_eq_true rfl) (Nat.le_of_ble_eq_true rfl) (Nat.le_of_ble_eq_true rfl) (Nat.le_of_ble_eq_true rfl) (⟨mIn_hi (i32_gt5 c_7), rfl, rfl⟩) (Nat.le_of_ble_eq_true rfl) (Nat.le_of_ble_eq_true rfl)
set_option maxHeartbeats 4000000 in
set_option maxRecDepth 100000 in
theorem c_X6_sensorAt (l : Launch) (hlf : l.stackTraces = false) (ids : gIds) (ad : gAd) (κ : gMem) (x : Int32) (hV : cV ids)  : gXr l yX6_sensorAt wsX6_sensorAt ({ frames := 6, cells := 1, slots := 6, locals := 90 } : Room) 1 6 [.ref (ad 7 0), .int x] (ids, ad, gk κ) (fun q u => ¬ mIn x 0 11 = 0 ∧ q = ad 5 (tN x) ∧ u = (ids, ad, gk (κ))) (fun E u => mIn x 0 11 = 0 ∧ E = "java/lang/IndexOutOfBoundsException" ∧ u = (ids, ad, gk (κ))) := by
  intro D aC A
  refine gx_of (cc := cX6_sensorAt) (maxL := 2) (ret := (some (.object "SensorBond$Sensor"))) (by decide +kernel) rfl (Nat.le_of_ble_eq_true rfl) ?_
  intro p e s m below meth c ls S G hF hr hlk hex hl
  have hl : lv_has ls 2 [(0, _), (1, _)] := hl
  have i7 : ∀ w ∈ wsX60, w ∈ wsX6_sensorAt := by decide +kernel
  refine lv_iload_n S.1 S.2.1 dX6_sensorAt_0 rfl (lv_at hl 1 rfl) ?_
  refine lv_if_lt (tgt := 10) S.1 S.2.1 dX6_sensorAt_1 (by decide) (fun c_1 => ?_) (fun c_1 => ?_)
  · exact g_throw (cls := "java/lang/IndexOutOfBoundsException") (text := "there is no such sensor") S G hF hlf hlk hex hl.1 rfl (by decide +kernel) (by decide +kernel) (by decide +kernel) (by decide +kernel) (by decide +kernel) (by decide +kernel) (by decide +kernel) (by decide +kernel) dX6_sensorAt_10 dX6_sensorAt_13 (Or.inl ⟨dX6_sensorAt_14, dX6_sensorAt_16, dX6_sensorAt_19⟩) (Nat.le_of_ble_eq_true rfl) (Nat.le_of_ble_eq_true rfl) (Nat.le_of_ble_eq_true rfl) (Nat.le_of_ble_eq_true rfl) (⟨mIn_lo c_1, rfl, rfl⟩) (Nat.le_of_ble_eq_true rfl) (Nat.le_of_ble_eq_true rfl)
  · refine lv_iload_n S.1 S.2.1 dX6_sensorAt_4 rfl (lv_at hl 1 rfl) ?_
    refine lv_bipush (v := 12) S.1 S.2.1 dX6_sensorAt_5 (by decide) ?_
    refine lv_icmp_lt (tgt := 20) S.1 S.2.1 dX6_sensorAt_7 (by decide) (fun c_7 => ?_) (fun c_7 => ?_)
    · have hin : ¬ mIn x 0 11 = 0 := mIn_ok c_1 (i32_le11 c_7)
      obtain ⟨hx, hj⟩ := mIn_rng (m := 11) hin (by decide)
      refine lv_aload_n S.1 S.2.1 dX6_sensorAt_20 rfl (lv_at hl 0 rfl) ?_
      refine g_get S G 7 1 (hV 7 _ (by first | decide | (show _ < 1; omega))) (by decide) (by decide) i7 (S.2.2.2.2 (.fieldLink RX6 17 "SensorBond" "sensors" "[LSensorBond$Sensor;") (by decide +kernel)) (gvk_or (j := 0) rfl rfl (by omega)) dX6_sensorAt_21 ?_
      refine lv_iload_n S.1 S.2.1 dX6_sensorAt_24 rfl (lv_at hl 1 rfl) ?_
      refine g_aald S G 11 (hV 11 _ (by first | decide | (show _ < 1; omega))) rfl rfl hx (show tN x < 12 by omega) (gq_r (g := 5) rfl rfl (by omega)) dX6_sensorAt_25 ?_
      refine vx_ret ?_
      exact g_aret S G hr hlk (Or.inl ⟨_, rfl⟩) (⟨hin, rfl, rfl⟩) (Nat.le_of_ble_eq_true rfl) (Nat.le_of_ble_eq_true rfl) dX6_sensorAt_26
    · exact g_throw (cls := "java/lang/IndexOutOfBoundsException") (text := "there is no such sensor") S G hF hlf hlk hex hl.1 rfl (by decide +kernel) (by decide +kernel) (by decide +kernel) (by decide +kernel) (by decide +kernel) (by decide +kernel) (by decide +kernel) (by decide +kernel) dX6_sensorAt_10 dX6_sensorAt_13 (Or.inl ⟨dX6_sensorAt_14, dX6_sensorAt_16, dX6_sensorAt_19⟩) (Nat.le_of_ble_eq_true rfl) (Nat.le_of_ble_eq_true rfl) (Nat.le_of_ble_eq_true rfl) (Nat.le_of_ble_eq_true rfl) (⟨mIn_hi (i32_gt11 c_7), rfl, rfl⟩) (Nat.le_of_ble_eq_true rfl) (Nat.le_of_ble_eq_true rfl)
set_option maxHeartbeats 4000000 in
set_option maxRecDepth 100000 in
theorem c_X6_buyerAt (l : Launch) (hlf : l.stackTraces = false) (ids : gIds) (ad : gAd) (κ : gMem) (x : Int32) (hV : cV ids)  : gXr l yX6_buyerAt wsX6_buyerAt ({ frames := 6, cells := 1, slots := 6, locals := 90 } : Room) 1 6 [.ref (ad 7 0), .int x] (ids, ad, gk κ) (fun q u => ¬ mIn x 0 5 = 0 ∧ q = ad 1 (tN x) ∧ u = (ids, ad, gk (κ))) (fun E u => mIn x 0 5 = 0 ∧ E = "java/lang/IndexOutOfBoundsException" ∧ u = (ids, ad, gk (κ))) := by
  intro D aC A
  refine gx_of (cc := cX6_buyerAt) (maxL := 2) (ret := (some (.object "SensorBond$Buyer"))) (by decide +kernel) rfl (Nat.le_of_ble_eq_true rfl) ?_
  intro p e s m below meth c ls S G hF hr hlk hex hl
  have hl : lv_has ls 2 [(0, _), (1, _)] := hl
  have i7 : ∀ w ∈ wsX60, w ∈ wsX6_buyerAt := by decide +kernel
  refine lv_iload_n S.1 S.2.1 dX6_buyerAt_0 rfl (lv_at hl 1 rfl) ?_
  refine lv_if_lt (tgt := 10) S.1 S.2.1 dX6_buyerAt_1 (by decide) (fun c_1 => ?_) (fun c_1 => ?_)
  · exact g_throw (cls := "java/lang/IndexOutOfBoundsException") (text := "there is no such buyer") S G hF hlf hlk hex hl.1 rfl (by decide +kernel) (by decide +kernel) (by decide +kernel) (by decide +kernel) (by decide +kernel) (by decide +kernel) (by decide +kernel) (by decide +kernel) dX6_buyerAt_10 dX6_buyerAt_13 (Or.inr ⟨dX6_buyerAt_14, dX6_buyerAt_17, dX6_buyerAt_20⟩) (Nat.le_of_ble_eq_true rfl) (Nat.le_of_ble_eq_true rfl) (Nat.le_of_ble_eq_true rfl) (Nat.le_of_ble_eq_true rfl) (⟨mIn_lo c_1, rfl, rfl⟩) (Nat.le_of_ble_eq_true rfl) (Nat.le_of_ble_eq_true rfl)
  · refine lv_iload_n S.1 S.2.1 dX6_buyerAt_4 rfl (lv_at hl 1 rfl) ?_
    refine lv_bipush (v := 6) S.1 S.2.1 dX6_buyerAt_5 (by decide) ?_
    refine lv_icmp_lt (tgt := 21) S.1 S.2.1 dX6_buyerAt_7 (by decide) (fun c_7 => ?_) (fun c_7 => ?_)
    · have hin : ¬ mIn x 0 5 = 0 := mIn_ok c_1 (i32_le5 c_7)
      obtain ⟨hx, hj⟩ := mIn_rng (m := 5) hin (by decide)
      refine lv_aload_n S.1 S.2.1 dX6_buyerAt_21 rfl (lv_at hl 0 rfl) ?_
      refine g_get S G 7 2 (hV 7 _ (by first | decide | (show _ < 1; omega))) (by decide) (by decide) i7 (S.2.2.2.2 (.fieldLink RX6 23 "SensorBond" "buyers" "[LSensorBond$Buyer;") (by decide +kernel)) (gvk_or (j := 0) rfl rfl (by omega)) dX6_buyerAt_22 ?_
      refine lv_iload_n S.1 S.2.1 dX6_buyerAt_25 rfl (lv_at hl 1 rfl) ?_
      refine g_aald S G 12 (hV 12 _ (by first | decide | (show _ < 1; omega))) rfl rfl hx (show tN x < 6 by omega) (gq_r (g := 1) rfl rfl (by omega)) dX6_buyerAt_26 ?_
      refine vx_ret ?_
      exact g_aret S G hr hlk (Or.inl ⟨_, rfl⟩) (⟨hin, rfl, rfl⟩) (Nat.le_of_ble_eq_true rfl) (Nat.le_of_ble_eq_true rfl) dX6_buyerAt_27
    · exact g_throw (cls := "java/lang/IndexOutOfBoundsException") (text := "there is no such buyer") S G hF hlf hlk hex hl.1 rfl (by decide +kernel) (by decide +kernel) (by decide +kernel) (by decide +kernel) (by decide +kernel) (by decide +kernel) (by decide +kernel) (by decide +kernel) dX6_buyerAt_10 dX6_buyerAt_13 (Or.inr ⟨dX6_buyerAt_14, dX6_buyerAt_17, dX6_buyerAt_20⟩) (Nat.le_of_ble_eq_true rfl) (Nat.le_of_ble_eq_true rfl) (Nat.le_of_ble_eq_true rfl) (Nat.le_of_ble_eq_true rfl) (⟨mIn_hi (i32_gt5 c_7), rfl, rfl⟩) (Nat.le_of_ble_eq_true rfl) (Nat.le_of_ble_eq_true rfl)
set_option maxHeartbeats 4000000 in
set_option maxRecDepth 100000 in
theorem c_X6_readingAt (l : Launch) (hlf : l.stackTraces = false) (ids : gIds) (ad : gAd) (κ : gMem) (x : Int32) (hV : cV ids) (hW : cWF ids κ)  : gXr l yX6_readingAt wsX6_readingAt ({ frames := 6, cells := 1, slots := 6, locals := 90 } : Room) 1 6 [.ref (ad 7 0), .int x] (ids, ad, gk κ) (fun q u => ¬ mIn x 0 (κ 7 0 4 - 1) = 0 ∧ q = ad 3 (tN x) ∧ u = (ids, ad, gk (κ))) (fun E u => mIn x 0 (κ 7 0 4 - 1) = 0 ∧ E = "java/lang/IndexOutOfBoundsException" ∧ u = (ids, ad, gk (κ))) := by
  intro D aC A
  refine gx_of (cc := cX6_readingAt) (maxL := 2) (ret := (some (.object "SensorBond$Reading"))) (by decide +kernel) rfl (Nat.le_of_ble_eq_true rfl) ?_
  intro p e s m below meth c ls S G hF hr hlk hex hl
  have hl : lv_has ls 2 [(0, _), (1, _)] := hl
  have i7 : ∀ w ∈ wsX60, w ∈ wsX6_readingAt := by decide +kernel
  obtain ⟨hn, hn80⟩ := hW.cnt
  refine lv_iload_n S.1 S.2.1 dX6_readingAt_0 rfl (lv_at hl 1 rfl) ?_
  refine lv_if_lt (tgt := 12) S.1 S.2.1 dX6_readingAt_1 (by decide) (fun c_1 => ?_) (fun c_1 => ?_)
  · exact g_throw (cls := "java/lang/IndexOutOfBoundsException") (text := "there is no such reading") S G hF hlf hlk hex hl.1 rfl (by decide +kernel) (by decide +kernel) (by decide +kernel) (by decide +kernel) (by decide +kernel) (by decide +kernel) (by decide +kernel) (by decide +kernel) dX6_readingAt_12 dX6_readingAt_15 (Or.inr ⟨dX6_readingAt_16, dX6_readingAt_19, dX6_readingAt_22⟩) (Nat.le_of_ble_eq_true rfl) (Nat.le_of_ble_eq_true rfl) (Nat.le_of_ble_eq_true rfl) (Nat.le_of_ble_eq_true rfl) (⟨mIn_lo c_1, rfl, rfl⟩) (Nat.le_of_ble_eq_true rfl) (Nat.le_of_ble_eq_true rfl)
  · refine lv_iload_n S.1 S.2.1 dX6_readingAt_4 rfl (lv_at hl 1 rfl) ?_
    refine lv_aload_n S.1 S.2.1 dX6_readingAt_5 rfl (lv_at hl 0 rfl) ?_
    refine g_get S G 7 4 (hV 7 _ (by first | decide | (show _ < 1; omega))) (by decide) (by decide) i7 (S.2.2.2.2 (.fieldLink RX6 33 "SensorBond" "readingCount" "I") (by decide +kernel)) (gvk_i rfl rfl) dX6_readingAt_6 ?_
    refine lv_icmp_lt (tgt := 23) S.1 S.2.1 dX6_readingAt_9 (by decide) (fun c_9 => ?_) (fun c_9 => ?_)
    · have hin : ¬ mIn x 0 (κ 7 0 4 - 1) = 0 := mIn_ok c_1 (by rw [hn]; exact rd_lt hn80 (by rw [← hn]; exact c_9))
      obtain ⟨hx, hj⟩ := mIn_rd (n := tN (κ 7 0 4)) (by rw [← hn]; exact hin) hn80
      refine lv_aload_n S.1 S.2.1 dX6_readingAt_23 rfl (lv_at hl 0 rfl) ?_
      refine g_get S G 7 3 (hV 7 _ (by first | decide | (show _ < 1; omega))) (by decide) (by decide) i7 (S.2.2.2.2 (.fieldLink RX6 29 "SensorBond" "readings" "[LSensorBond$Reading;") (by decide +kernel)) (gvk_or (j := 0) rfl rfl (by omega)) dX6_readingAt_24 ?_
      refine lv_iload_n S.1 S.2.1 dX6_readingAt_27 rfl (lv_at hl 1 rfl) ?_
      refine g_aald S G 13 (hV 13 _ (by first | decide | (show _ < 1; omega))) rfl rfl hx (show tN x < 80 by omega) (gqk_r rfl rfl (hW.2.1 _ hj).1 (by omega)) dX6_readingAt_28 ?_
      refine vx_ret ?_
      exact g_aret S G hr hlk (Or.inl ⟨_, rfl⟩) (⟨hin, rfl, rfl⟩) (Nat.le_of_ble_eq_true rfl) (Nat.le_of_ble_eq_true rfl) dX6_readingAt_29
    · exact g_throw (cls := "java/lang/IndexOutOfBoundsException") (text := "there is no such reading") S G hF hlf hlk hex hl.1 rfl (by decide +kernel) (by decide +kernel) (by decide +kernel) (by decide +kernel) (by decide +kernel) (by decide +kernel) (by decide +kernel) (by decide +kernel) dX6_readingAt_12 dX6_readingAt_15 (Or.inr ⟨dX6_readingAt_16, dX6_readingAt_19, dX6_readingAt_22⟩) (Nat.le_of_ble_eq_true rfl) (Nat.le_of_ble_eq_true rfl) (Nat.le_of_ble_eq_true rfl) (Nat.le_of_ble_eq_true rfl) (⟨mIn_hi (by rw [hn]; exact rd_ge hn80 (by rw [← hn]; exact c_9)), rfl, rfl⟩) (Nat.le_of_ble_eq_true rfl) (Nat.le_of_ble_eq_true rfl)
set_option maxHeartbeats 4000000 in
set_option maxRecDepth 100000 in
theorem c_X6_areNeighbours (l : Launch) (ids : gIds) (ad : gAd) (κ : gMem) (a b : Int32)  : gMi l yX6_areNeighbours wsX6_areNeighbours ({ frames := 1, cells := 0, slots := 0, locals := 30 } : Room) 0 0 [.int a, .int b] (ids, ad, gk κ) (fun q u => q = sNb a b ∧ u = (ids, ad, gk (κ))) := by
  intro D aC A
  refine g_of (cc := cX6_areNeighbours) (maxL := 4) (ret := (some .boolean)) (by decide +kernel) rfl (Nat.le_of_ble_eq_true rfl) ?_
  intro p e s m below meth c ls S G hF hr hlk hnm hl
  have hl : lv_has ls 4 [(0, _), (1, _)] := hl
  refine lv_iload_n S.1 S.2.1 dX6_areNeighbours_0 rfl (lv_at hl 0 rfl) ?_
  refine lv_iconst (v := 4) S.1 S.2.1 dX6_areNeighbours_1 (by decide) ?_
  refine lv_idiv S.1 S.2.1 dX6_areNeighbours_2 (by decide) ?_
  refine lv_iload_n S.1 S.2.1 dX6_areNeighbours_3 rfl (lv_at hl 1 rfl) ?_
  refine lv_iconst (v := 4) S.1 S.2.1 dX6_areNeighbours_4 (by decide) ?_
  refine lv_idiv S.1 S.2.1 dX6_areNeighbours_5 (by decide) ?_
  refine lv_isub S.1 S.2.1 dX6_areNeighbours_6 ?_
  refine g_abs S hl (by decide +kernel) (by decide +kernel) (by decide +kernel) (by decide +kernel) (Nat.le_of_ble_eq_true rfl) (Nat.le_of_ble_eq_true rfl) (Nat.le_of_ble_eq_true rfl) (Nat.le_of_ble_eq_true rfl) dX6_areNeighbours_7 ?_
  refine g_top (show _ = sAbs (a / 4 - b / 4) from rfl) ?_
  refine lv_istore_n (lv' := [(2, _), (0, _), (1, _)]) S.1 S.2.1 dX6_areNeighbours_10 rfl hl (by decide) rfl (fun ls hl => ?_)
  refine lv_iload_n S.1 S.2.1 dX6_areNeighbours_11 rfl (lv_at hl 1 rfl) ?_
  refine lv_iconst (v := 4) S.1 S.2.1 dX6_areNeighbours_12 (by decide) ?_
  refine lv_irem S.1 S.2.1 dX6_areNeighbours_13 (by decide) ?_
  refine lv_iload_n S.1 S.2.1 dX6_areNeighbours_14 rfl (lv_at hl 2 rfl) ?_
  refine lv_iconst (v := 4) S.1 S.2.1 dX6_areNeighbours_15 (by decide) ?_
  refine lv_irem S.1 S.2.1 dX6_areNeighbours_16 (by decide) ?_
  refine lv_isub S.1 S.2.1 dX6_areNeighbours_17 ?_
  refine g_abs S hl (by decide +kernel) (by decide +kernel) (by decide +kernel) (by decide +kernel) (Nat.le_of_ble_eq_true rfl) (Nat.le_of_ble_eq_true rfl) (Nat.le_of_ble_eq_true rfl) (Nat.le_of_ble_eq_true rfl) dX6_areNeighbours_18 ?_
  refine g_top (show _ = sAbs (a - a / 4 * 4 - (b - b / 4 * 4)) from rfl) ?_
  refine lv_istore_n (lv' := [(3, _), (2, _), (0, _), (1, _)]) S.1 S.2.1 dX6_areNeighbours_21 rfl hl (by decide) rfl (fun ls hl => ?_)
  refine lv_iload_n S.1 S.2.1 dX6_areNeighbours_22 rfl (lv_at hl 1 rfl) ?_
  refine lv_iload_n S.1 S.2.1 dX6_areNeighbours_23 rfl (lv_at hl 0 rfl) ?_
  refine lv_iadd S.1 S.2.1 dX6_areNeighbours_24 ?_
  refine lv_iconst (v := 1) S.1 S.2.1 dX6_areNeighbours_25 (by decide) ?_
  refine lv_icmp_ne (tgt := 33) S.1 S.2.1 dX6_areNeighbours_26 (by decide) (fun c_26 => ?_) (fun c_26 => ?_)
  · refine lv_iconst (v := 0) S.1 S.2.1 dX6_areNeighbours_33 (by decide) ?_
    exact g_zret S G hr hlk (by decide) (⟨by simp only [sNb, if_neg c_26], rfl⟩) (Nat.le_of_ble_eq_true rfl) (Nat.le_of_ble_eq_true rfl) dX6_areNeighbours_34
  · refine lv_iconst (v := 1) S.1 S.2.1 dX6_areNeighbours_29 (by decide) ?_
    refine lv_goto (tgt := 34) S.1 S.2.1 dX6_areNeighbours_30 (by decide) ?_
    exact g_zret S G hr hlk (by decide) (⟨by simp only [sNb, if_pos c_26], rfl⟩) (Nat.le_of_ble_eq_true rfl) (Nat.le_of_ble_eq_true rfl) dX6_areNeighbours_34
set_option maxHeartbeats 4000000 in
set_option maxRecDepth 100000 in
theorem c_X6_countNeighbours (l : Launch) (ids : gIds) (ad : gAd) (κ : gMem) (a : Int32)  : gMi l yX6_countNeighbours wsX6_countNeighbours ({ frames := 2, cells := 0, slots := 0, locals := 53 } : Room) 0 0 [.int a] (ids, ad, gk κ) (fun q u => q = sNbs a 12 ∧ u = (ids, ad, gk (κ))) := by
  intro D aC A
  refine g_of (cc := cX6_countNeighbours) (maxL := 3) (ret := (some .int)) (by decide +kernel) rfl (Nat.le_of_ble_eq_true rfl) ?_
  intro p e s m below meth c ls S G hF hr hlk hnm hl
  have hl : lv_has ls 3 [(0, _)] := hl
  refine lv_iconst (v := 0) S.1 S.2.1 dX6_countNeighbours_0 (by decide) ?_
  refine lv_istore_n (lv' := [(1, _), (0, _)]) S.1 S.2.1 dX6_countNeighbours_1 rfl hl (by decide) rfl (fun ls hl => ?_)
  refine lv_iconst (v := 0) S.1 S.2.1 dX6_countNeighbours_2 (by decide) ?_
  refine lv_istore_n (lv' := [(2, _), (1, _), (0, _)]) S.1 S.2.1 dX6_countNeighbours_3 rfl hl (by decide) rfl (fun ls hl => ?_)
  refine g_forg 12 (fun k_4 => [(2, .int (nI k_4)), (1, .int (sNbs a k_4)), (0, .int a)]) ?_ G (lv_sub hl [0, 1, 2] rfl)
  intro k_4 H locs ls hk_4 G hl ih_4
  have hl : lv_has ls 3 [(2, _), (1, _), (0, _)] := hl
  refine lv_iload_n S.1 S.2.1 dX6_countNeighbours_4 rfl (lv_at hl 0 rfl) ?_
  refine lv_bipush (v := 12) S.1 S.2.1 dX6_countNeighbours_5 (by decide) ?_
  refine lv_icmp_ge (tgt := 27) S.1 S.2.1 dX6_countNeighbours_7 (by decide) (fun c_7 => ?_) (fun c_7 => ?_)
  · have hkN_4 : k_4 = 12 := g_exit c_7 hk_4 (by omega)
    subst hkN_4
    refine lv_iload_n S.1 S.2.1 dX6_countNeighbours_27 rfl (lv_at hl 1 rfl) ?_
    exact g_iret S G hr hlk (⟨rfl, rfl⟩) (Nat.le_of_ble_eq_true rfl) (Nat.le_of_ble_eq_true rfl) dX6_countNeighbours_28
  · have hlt_4 : k_4 < 12 := g_stay c_7 hk_4 (by omega)
    refine lv_iload_n S.1 S.2.1 dX6_countNeighbours_10 rfl (lv_at hl 2 rfl) ?_
    refine lv_iload_n S.1 S.2.1 dX6_countNeighbours_11 rfl (lv_at hl 0 rfl) ?_
    refine g_cSi S G hF hl (c_X6_areNeighbours l ids ad _ _ _) (va_cwS 2 S.2.2.2.2 gX6_countNeighbours_X6_areNeighbours rfl rfl rfl (by decide +kernel) ⟨Nat.le_of_ble_eq_true rfl, Nat.le_of_ble_eq_true rfl⟩) rfl rfl (Nat.le_of_ble_eq_true rfl) dX6_countNeighbours_12 ⟨Nat.le_of_ble_eq_true rfl, Nat.le_of_ble_eq_true rfl⟩ (fun r_12 u_12 H locs hp_12 G => ?_)
    obtain ⟨rfl, rfl⟩ := hp_12
    have G : gS D aC A s ids ad (gk _) H locs := G
    refine lv_if_eq (tgt := 21) S.1 S.2.1 dX6_countNeighbours_15 (by decide) (fun c_15 => ?_) (fun c_15 => ?_)
    · refine lv_iinc (k := 0) (lv' := [(2, _), (1, _), (0, _)]) S.1 S.2.1 dX6_countNeighbours_21 hl rfl (g_inc _) (by decide) rfl (fun ls hl => ?_)
      refine lv_goto (tgt := 4) S.1 S.2.1 dX6_countNeighbours_24 (by decide) ?_
      have e : sNbs a (k_4 + 1) = sNbs a k_4 := by simp only [sNbs, if_neg c_7, if_pos c_15]
      exact ih_4 hlt_4 _ _ _ G (by rw [e]; exact lv_sub hl [0, 1, 2] rfl)
    · refine lv_iinc (k := 1) (lv' := [(1, _), (2, _), (0, _)]) S.1 S.2.1 dX6_countNeighbours_18 hl rfl (show _ = sNbs a k_4 + 1 from rfl) (by decide) rfl (fun ls hl => ?_)
      refine lv_iinc (k := 1) (lv' := [(2, _), (1, _), (0, _)]) S.1 S.2.1 dX6_countNeighbours_21 hl rfl (g_inc _) (by decide) rfl (fun ls hl => ?_)
      refine lv_goto (tgt := 4) S.1 S.2.1 dX6_countNeighbours_24 (by decide) ?_
      have e : sNbs a (k_4 + 1) = sNbs a k_4 + 1 := by simp only [sNbs, if_neg c_7, if_neg c_15]
      exact ih_4 hlt_4 _ _ _ G (by rw [e]; exact lv_sub hl [0, 1, 2] rfl)
set_option maxHeartbeats 4000000 in
set_option maxRecDepth 100000 in
theorem c_X6_weightOf (l : Launch) (ids : gIds) (ad : gAd) (κ : gMem) (a : Int32)  : gMi l yX6_weightOf wsX6_weightOf ({ frames := 0, cells := 0, slots := 0, locals := 0 } : Room) 0 0 [.int a] (ids, ad, gk κ) (fun q u => q = sWeight a ∧ u = (ids, ad, gk (κ))) := by
  intro D aC A
  refine g_of (cc := cX6_weightOf) (maxL := 1) (ret := (some .int)) (by decide +kernel) rfl (Nat.le_of_ble_eq_true rfl) ?_
  intro p e s m below meth c ls S G hF hr hlk hnm hl
  have hl : lv_has ls 1 [(0, _)] := hl
  refine lv_iload_n S.1 S.2.1 dX6_weightOf_0 rfl (lv_at hl 0 rfl) ?_
  refine lv_iconst (v := 2) S.1 S.2.1 dX6_weightOf_1 (by decide) ?_
  refine lv_icmp_ne (tgt := 7) S.1 S.2.1 dX6_weightOf_2 (by decide) (fun c_2 => ?_) (fun c_2 => ?_)
  · refine lv_iload_n S.1 S.2.1 dX6_weightOf_7 rfl (lv_at hl 0 rfl) ?_
    refine lv_iconst (v := 3) S.1 S.2.1 dX6_weightOf_8 (by decide) ?_
    refine lv_icmp_ne (tgt := 17) S.1 S.2.1 dX6_weightOf_9 (by decide) (fun c_9 => ?_) (fun c_9 => ?_)
    · refine lv_iconst (v := 0) S.1 S.2.1 dX6_weightOf_17 (by decide) ?_
      exact g_iret S G hr hlk (⟨by simp only [sWeight, if_neg c_2, if_neg c_9], rfl⟩) (Nat.le_of_ble_eq_true rfl) (Nat.le_of_ble_eq_true rfl) dX6_weightOf_18
    · refine lv_bipush (v := (-3)) S.1 S.2.1 dX6_weightOf_12 (by decide) ?_
      refine lv_goto (tgt := 18) S.1 S.2.1 dX6_weightOf_14 (by decide) ?_
      exact g_iret S G hr hlk (⟨by simp only [sWeight, if_neg c_2, if_pos c_9], rfl⟩) (Nat.le_of_ble_eq_true rfl) (Nat.le_of_ble_eq_true rfl) dX6_weightOf_18
  · refine lv_iconst (v := 1) S.1 S.2.1 dX6_weightOf_5 (by decide) ?_
    exact g_iret S G hr hlk (⟨by simp only [sWeight, if_pos c_2], rfl⟩) (Nat.le_of_ble_eq_true rfl) (Nat.le_of_ble_eq_true rfl) dX6_weightOf_6
set_option maxHeartbeats 4000000 in
set_option maxRecDepth 100000 in
theorem c_X6_signOf (l : Launch) (ids : gIds) (ad : gAd) (κ : gMem) (a : Int32)  : gMi l yX6_signOf wsX6_signOf ({ frames := 0, cells := 0, slots := 0, locals := 0 } : Room) 0 0 [.int a] (ids, ad, gk κ) (fun q u => q = sSign a ∧ u = (ids, ad, gk (κ))) := by
  intro D aC A
  refine g_of (cc := cX6_signOf) (maxL := 1) (ret := (some .char)) (by decide +kernel) rfl (Nat.le_of_ble_eq_true rfl) ?_
  intro p e s m below meth c ls S G hF hr hlk hnm hl
  have hl : lv_has ls 1 [(0, _)] := hl
  refine lv_iload_n S.1 S.2.1 dX6_signOf_0 rfl (lv_at hl 0 rfl) ?_
  by_cases s_0 : a = 0
  · refine lv_tableIn (tgt := 32) S.1 S.2.1 dX6_signOf_1 (by rw [s_0]; decide) (by rw [s_0]; decide) (by rw [s_0]; rfl) (by decide) ?_
    refine lv_bipush (v := 46) S.1 S.2.1 dX6_signOf_32 (by decide) ?_
    exact g_zret S G hr hlk (by decide) (⟨by simp only [sSign, if_pos s_0], rfl⟩) (Nat.le_of_ble_eq_true rfl) (Nat.le_of_ble_eq_true rfl) dX6_signOf_34
  by_cases s_1 : a = 1
  · refine lv_tableIn (tgt := 35) S.1 S.2.1 dX6_signOf_1 (by rw [s_1]; decide) (by rw [s_1]; decide) (by rw [s_1]; rfl) (by decide) ?_
    refine lv_bipush (v := 63) S.1 S.2.1 dX6_signOf_35 (by decide) ?_
    exact g_zret S G hr hlk (by decide) (⟨by simp only [sSign, if_neg s_0, if_pos s_1], rfl⟩) (Nat.le_of_ble_eq_true rfl) (Nat.le_of_ble_eq_true rfl) dX6_signOf_37
  by_cases s_2 : a = 2
  · refine lv_tableIn (tgt := 38) S.1 S.2.1 dX6_signOf_1 (by rw [s_2]; decide) (by rw [s_2]; decide) (by rw [s_2]; rfl) (by decide) ?_
    refine lv_bipush (v := 43) S.1 S.2.1 dX6_signOf_38 (by decide) ?_
    exact g_zret S G hr hlk (by decide) (⟨by simp only [sSign, if_neg s_0, if_neg s_1, if_pos s_2], rfl⟩) (Nat.le_of_ble_eq_true rfl) (Nat.le_of_ble_eq_true rfl) dX6_signOf_40
  by_cases s_3 : a = 3
  · refine lv_tableIn (tgt := 41) S.1 S.2.1 dX6_signOf_1 (by rw [s_3]; decide) (by rw [s_3]; decide) (by rw [s_3]; rfl) (by decide) ?_
    refine lv_bipush (v := 45) S.1 S.2.1 dX6_signOf_41 (by decide) ?_
    exact g_zret S G hr hlk (by decide) (⟨by simp only [sSign, if_neg s_0, if_neg s_1, if_neg s_2, if_pos s_3], rfl⟩) (Nat.le_of_ble_eq_true rfl) (Nat.le_of_ble_eq_true rfl) dX6_signOf_43
  refine lv_tableOut (tgt := 44) S.1 S.2.1 dX6_signOf_1 (sw_out s_0 s_1 s_2 s_3) (by decide) ?_
  refine lv_bipush (v := 120) S.1 S.2.1 dX6_signOf_44 (by decide) ?_
  exact g_zret S G hr hlk (by decide) (⟨by simp only [sSign, if_neg s_0, if_neg s_1, if_neg s_2, if_neg s_3], rfl⟩) (Nat.le_of_ble_eq_true rfl) (Nat.le_of_ble_eq_true rfl) dX6_signOf_46
