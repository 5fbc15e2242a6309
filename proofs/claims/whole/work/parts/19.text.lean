/-! ===== a text in the making: StringBuilder's methods ===== -/
def tEnc (x : Int32) : Int32 := if 255 < x then 0 else 1
set_option maxHeartbeats 4000000 in
set_option maxRecDepth 100000 in
theorem c_J1_canEncode_fc78d (l : Launch) (ids : gIds) (ad : gAd) (κ : gMem) (a : Int32)  : gMi l yJ1_canEncode_fc78d wsJ1_canEncode_fc78d ({ frames := 0, cells := 0, slots := 0, locals := 0 } : Room) 0 0 [.int a] (ids, ad, gk κ) (fun q u => q = tEnc a ∧ u = (ids, ad, gk (κ))) := by
  intro D aC A
  refine g_of (cc := cJ1_canEncode_fc78d) (maxL := 1) (ret := (some .boolean)) (by decide +kernel) rfl (Nat.le_of_ble_eq_true rfl) ?_
  intro p e s m below meth c ls S G hF hr hlk hnm hl
  have hl : lv_has ls 1 [(0, _)] := hl
  refine lv_iload_n S.1 S.2.1 dJ1_canEncode_fc78d_0 rfl (lv_at hl 0 rfl) ?_
  refine lv_sipush (v := 255) S.1 S.2.1 dJ1_canEncode_fc78d_1 (by decide) ?_
  refine lv_icmp_gt (tgt := 11) S.1 S.2.1 dJ1_canEncode_fc78d_4 (by decide) (fun c_4 => ?_) (fun c_4 => ?_)
  · refine lv_iconst (v := 0) S.1 S.2.1 dJ1_canEncode_fc78d_11 (by decide) ?_
    exact g_zret S G hr hlk (by decide) (⟨by simp only [tEnc, if_pos c_4], rfl⟩) (Nat.le_of_ble_eq_true rfl) (Nat.le_of_ble_eq_true rfl) dJ1_canEncode_fc78d_12
  · refine lv_iconst (v := 1) S.1 S.2.1 dJ1_canEncode_fc78d_7 (by decide) ?_
    refine lv_goto (tgt := 12) S.1 S.2.1 dJ1_canEncode_fc78d_8 (by decide) ?_
    exact g_zret S G hr hlk (by decide) (⟨by simp only [tEnc, if_neg c_4], rfl⟩) (Nat.le_of_ble_eq_true rfl) (Nat.le_of_ble_eq_true rfl) dJ1_canEncode_fc78d_12
set_option maxHeartbeats 4000000 in
set_option maxRecDepth 100000 in
theorem c_J5_length_8abf5 (l : Launch) (ids : gIds) (ad : gAd) (κ : gMem) (h0 : (0, 0) ∈ ids)  : gMi l yJ5_length_8abf5 wsJ5_length_8abf5 ({ frames := 0, cells := 0, slots := 0, locals := 0 } : Room) 0 0 [.ref (ad 0 0)] (ids, ad, gk κ) (fun q u => q = κ 0 0 3 ∧ u = (ids, ad, gk (κ))) := by
  intro D aC A
  refine g_of (cc := cJ5_length_8abf5) (maxL := 1) (ret := (some .int)) (by decide +kernel) rfl (Nat.le_of_ble_eq_true rfl) ?_
  intro p e s m below meth c ls S G hF hr hlk hnm hl
  have hl : lv_has ls 1 [(0, _)] := hl
  have i0 : ∀ w ∈ wsJ40, w ∈ wsJ5_length_8abf5 := by decide +kernel
  refine lv_aload_n S.1 S.2.1 dJ5_length_8abf5_0 rfl (lv_at hl 0 rfl) ?_
  refine g_get S G 0 3 h0 (by decide) (by decide) i0 (S.2.2.2.2 (.fieldLink RJ5 79 "java/lang/AbstractStringBuilder" "count" "I") (by decide +kernel)) (gvk_i rfl rfl) dJ5_length_8abf5_1 ?_
  exact g_iret S G hr hlk (⟨rfl, rfl⟩) (Nat.le_of_ble_eq_true rfl) (Nat.le_of_ble_eq_true rfl) dJ5_length_8abf5_4
