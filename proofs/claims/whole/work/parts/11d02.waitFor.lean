set_option maxHeartbeats 4000000 in
set_option maxRecDepth 100000 in
theorem c_X6_waitFor (l : Launch) (ids : gIds) (ad : gAd) (κ : gMem) (r : Nat) (hV : cV ids) (h3 : (3, r) ∈ ids)  : gMv l yX6_waitFor wsX6_waitFor ({ frames := 1, cells := 0, slots := 0, locals := 30 } : Room) 0 0 [.ref (ad 7 0), .ref (ad 3 r)] (ids, ad, gk κ) (fun u => u = (ids, ad, gk (sWait κ r))) := by
  intro D aC A
  refine g_of (cc := cX6_waitFor) (maxL := 2) (ret := none) (by decide +kernel) rfl (Nat.le_of_ble_eq_true rfl) ?_
  intro p e s m below meth c ls S G hF hr hlk hnm hl
  have hl : lv_has ls 2 [(0, _), (1, _)] := hl
  have i3 : ∀ w ∈ wsX20, w ∈ wsX6_waitFor := by decide +kernel
  have i7 : ∀ w ∈ wsX60, w ∈ wsX6_waitFor := by decide +kernel
  refine lv_aload_n S.1 S.2.1 dX6_waitFor_0 rfl (lv_at hl 1 rfl) ?_
  refine lv_aload_n S.1 S.2.1 dX6_waitFor_1 rfl (lv_at hl 0 rfl) ?_
  refine g_get S G 7 6 (hV 7 _ (by first | decide | (show _ < 1; omega))) (by decide) (by decide) i7 (S.2.2.2.2 (.fieldLink RX6 40 "SensorBond" "tick" "I") (by decide +kernel)) (gvk_i rfl rfl) dX6_waitFor_2 ?_
  refine lv_iconst (v := 4) S.1 S.2.1 dX6_waitFor_5 (by decide) ?_
  refine lv_iadd S.1 S.2.1 dX6_waitFor_6 ?_
  refine g_putN (ty := .int) S G 3 4 h3 (by decide) (by decide) i3 (gnf hF 18 rfl) rfl (by decide +kernel) rfl rfl (gw_i rfl) dX6_waitFor_7 (fun H locs G => ?_)
  have G := gk_S rfl G
  refine lv_aload_n S.1 S.2.1 dX6_waitFor_10 rfl (lv_at hl 0 rfl) ?_
  refine lv_aload_n S.1 S.2.1 dX6_waitFor_11 rfl (lv_at hl 0 rfl) ?_
  refine g_get S G 7 7 (hV 7 _ (by first | decide | (show _ < 1; omega))) (by decide) (by decide) i7 (S.2.2.2.2 (.fieldLink RX6 43 "SensorBond" "busyUntil" "I") (by decide +kernel)) (gvk_i rfl rfl) dX6_waitFor_12 ?_
  refine lv_aload_n S.1 S.2.1 dX6_waitFor_15 rfl (lv_at hl 1 rfl) ?_
  refine g_getN S G 3 4 h3 (by decide) (by decide) i3 (gnf hF 18 rfl) (gvk_i rfl rfl) dX6_waitFor_16 ?_
  refine g_top upd3_s ?_
  refine g_max S hl (by decide +kernel) (by decide +kernel) (by decide +kernel) (by decide +kernel) (Nat.le_of_ble_eq_true rfl) (Nat.le_of_ble_eq_true rfl) (Nat.le_of_ble_eq_true rfl) (Nat.le_of_ble_eq_true rfl) dX6_waitFor_19 ?_
  refine g_put (ty := .int) S G 7 7 (hV 7 _ (by first | decide | (show _ < 1; omega))) (by decide) (by decide) i7 (S.2.2.2.2 (.fieldLink RX6 43 "SensorBond" "busyUntil" "I") (by decide +kernel)) rfl (by decide +kernel) rfl rfl (gw_i rfl) dX6_waitFor_22 (fun H locs G => ?_)
  have G := gk_S rfl G
  exact g_vret S G hr hlk (rfl) (Nat.le_of_ble_eq_true rfl) (Nat.le_of_ble_eq_true rfl) dX6_waitFor_25
