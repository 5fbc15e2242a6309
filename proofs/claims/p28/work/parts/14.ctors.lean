set_option maxHeartbeats 4000000 in
set_option maxRecDepth 100000 in
theorem c_X5_init (l : Launch) (ids : gIds) (ad : gAd) (κ : gMem) (w : Nat) (pr lf la : Int32) (h6 : (6, w) ∈ ids)  : gMv l yX5_init wsX5_init ({ frames := 1, cells := 0, slots := 0, locals := 12 } : Room) 0 0 [.ref (ad 6 w), .int pr, .int lf, .int la] (ids, ad, κ) (fun u => u = (ids, ad, updR κ 6 w (sNewW pr la lf))) := by
  intro D aC A
  refine g_of (cc := cX5_init) (maxL := 4) (ret := none) (by decide +kernel) rfl (Nat.le_of_ble_eq_true rfl) ?_
  intro p e s m below meth c ls S G hF hr hlk hnm hl
  have hl : lv_has ls 4 [(0, _), (1, _), (2, _), (3, _)] := hl
  have i6 : ∀ w ∈ wsX50, w ∈ wsX5_init := by decide +kernel
  refine lv_aload_n S.1 S.2.1 dX5_init_0 rfl (lv_at hl 0 rfl) ?_
  refine g_objInit S hl (by decide +kernel) (by decide +kernel) (by decide +kernel) (Nat.le_of_ble_eq_true rfl) (Nat.le_of_ble_eq_true rfl) dX5_init_1 ?_
  refine lv_aload_n S.1 S.2.1 dX5_init_4 rfl (lv_at hl 0 rfl) ?_
  refine lv_iload_n S.1 S.2.1 dX5_init_5 rfl (lv_at hl 1 rfl) ?_
  refine g_putF (ty := .int) S hnm G 6 0 h6 (by decide) (by decide) i6 (S.2.2.2.2 (.fieldLink RX5 7 "SensorBond$Window" "price" "I") (by decide +kernel)) rfl rfl (by decide +kernel) rfl rfl (gw_i rfl) dX5_init_6 (fun H locs G => ?_)
  refine lv_aload_n S.1 S.2.1 dX5_init_9 rfl (lv_at hl 0 rfl) ?_
  refine lv_iload_n S.1 S.2.1 dX5_init_10 rfl (lv_at hl 2 rfl) ?_
  refine g_put (ty := .int) S G 6 2 h6 (by decide) (by decide) i6 (S.2.2.2.2 (.fieldLink RX5 13 "SensorBond$Window" "left" "I") (by decide +kernel)) rfl (by decide +kernel) rfl rfl (gw_i rfl) dX5_init_11 (fun H locs G => ?_)
  refine lv_aload_n S.1 S.2.1 dX5_init_14 rfl (lv_at hl 0 rfl) ?_
  refine lv_iload_n S.1 S.2.1 dX5_init_15 rfl (lv_at hl 3 rfl) ?_
  refine g_putF (ty := .int) S hnm G 6 1 h6 (by decide) (by decide) i6 (S.2.2.2.2 (.fieldLink RX5 16 "SensorBond$Window" "last" "I") (by decide +kernel)) rfl rfl (by decide +kernel) rfl rfl (gw_i rfl) dX5_init_16 (fun H locs G => ?_)
  have G := G.conv (π' := updR κ 6 w (sNewW pr la lf)) (by
    rintro ⟨g, jj⟩ hx k hk
    dsimp only at hk ⊢
    by_cases h0 : g = 6 ∧ jj = w
    · obtain ⟨rfl, e0⟩ := h0
      subst e0
      have hk : k < 3 := hk
      rcases (by omega : k = 0 ∨ k = 1 ∨ k = 2) with rfl | rfl | rfl <;> simp [upd3, updR, gk, gOwn, sNewW]
    · simp only [updR_far h0, upd3_far h0])
  exact g_vret S G hr hlk (rfl) (Nat.le_of_ble_eq_true rfl) (Nat.le_of_ble_eq_true rfl) dX5_init_19
set_option maxHeartbeats 4000000 in
set_option maxRecDepth 100000 in
theorem c_X1_init (l : Launch) (ids : gIds) (ad : gAd) (κ : gMem) (r b : Nat) (h2 : (2, r) ∈ ids) (hr80 : r < 80) (hb : b < 6) (hn16 : (16, r) ∉ ids) (hf16 : gFree ids κ 16 r)  : gMv l yX1_init wsX1_init ({ frames := 1, cells := 1, slots := 4, locals := 12 } : Room) 1 4 [.ref (ad 2 r), .ref (ad 1 b)] (ids, ad, κ) (fun u => ∃ q, u = (ids ++ [(16, r)], updA ad 16 r q, updR (updR κ 16 r (fun _ => 0)) 2 r (fun k => if k = 0 then nI b else if k = 1 then nI r else 0))) := by
  intro D aC A
  refine g_of (cc := cX1_init) (maxL := 2) (ret := none) (by decide +kernel) rfl (Nat.le_of_ble_eq_true rfl) ?_
  intro p e s m below meth c ls S G hF hr hlk hnm hl
  have hl : lv_has ls 2 [(0, _), (1, _)] := hl
  have i2 : ∀ w ∈ wsX10, w ∈ wsX1_init := by decide +kernel
  refine lv_aload_n S.1 S.2.1 dX1_init_0 rfl (lv_at hl 0 rfl) ?_
  refine g_objInit S hl (by decide +kernel) (by decide +kernel) (by decide +kernel) (Nat.le_of_ble_eq_true rfl) (Nat.le_of_ble_eq_true rfl) dX1_init_1 ?_
  refine lv_aload_n S.1 S.2.1 dX1_init_4 rfl (lv_at hl 0 rfl) ?_
  refine lv_iconst (v := 4) S.1 S.2.1 dX1_init_5 (by decide) ?_
  refine g_newa S G 16 r rfl rfl rfl (by decide +kernel) hn16 hf16 rfl (Nat.le_of_ble_eq_true rfl) (Nat.le_of_ble_eq_true rfl) (Nat.le_of_ble_eq_true rfl) dX1_init_6 (fun q_6 H G => ?_)
  have h2 : (2, r) ∈ ids ++ [(16, r)] := List.mem_append_left _ h2
  refine g_putF (ty := (.array .int)) S hnm G 2 1 h2 (by decide) (by decide) i2 (S.2.2.2.2 (.fieldLink RX1 9 "SensorBond$Challenge" "samples" "[I") (by decide +kernel)) rfl rfl (by decide +kernel) rfl rfl (gw_r rfl (by omega)) dX1_init_8 (fun H locs G => ?_)
  refine lv_aload_n S.1 S.2.1 dX1_init_11 rfl (lv_at hl 0 rfl) ?_
  refine lv_iconst (v := 0) S.1 S.2.1 dX1_init_12 (by decide) ?_
  refine g_put (ty := .int) S G 2 2 h2 (by decide) (by decide) i2 (S.2.2.2.2 (.fieldLink RX1 15 "SensorBond$Challenge" "count" "I") (by decide +kernel)) rfl (by decide +kernel) rfl rfl (gw_i rfl) dX1_init_13 (fun H locs G => ?_)
  refine lv_aload_n S.1 S.2.1 dX1_init_16 rfl (lv_at hl 0 rfl) ?_
  refine lv_iconst (v := 0) S.1 S.2.1 dX1_init_17 (by decide) ?_
  refine g_put (ty := .int) S G 2 3 h2 (by decide) (by decide) i2 (S.2.2.2.2 (.fieldLink RX1 19 "SensorBond$Challenge" "givers" "I") (by decide +kernel)) rfl (by decide +kernel) rfl rfl (gw_i rfl) dX1_init_18 (fun H locs G => ?_)
  refine lv_aload_n S.1 S.2.1 dX1_init_21 rfl (lv_at hl 0 rfl) ?_
  refine lv_aload_n S.1 S.2.1 dX1_init_22 rfl (lv_at hl 1 rfl) ?_
  refine g_putF (ty := (.object "SensorBond$Buyer")) S hnm G 2 0 h2 (by decide) (by decide) i2 (S.2.2.2.2 (.fieldLink RX1 22 "SensorBond$Challenge" "challenger" "LSensorBond$Buyer;") (by decide +kernel)) rfl rfl (by decide +kernel) rfl rfl (gw_r rfl (by omega)) dX1_init_23 (fun H locs G => ?_)
  have G := G.conv (π' := updR (updR κ 16 r (fun _ => 0)) 2 r (fun k => if k = 0 then nI b else if k = 1 then nI r else 0)) (by
    rintro ⟨g, jj⟩ hx k hk
    dsimp only at hk ⊢
    by_cases h0 : g = 2 ∧ jj = r
    · obtain ⟨rfl, e0⟩ := h0
      subst e0
      have hk : k < 4 := hk
      rcases (by omega : k = 0 ∨ k = 1 ∨ k = 2 ∨ k = 3) with rfl | rfl | rfl | rfl <;> simp [upd3, updR, gk, gOwn, id]
    · simp only [updR_far h0, upd3_far h0])
  exact g_vret S G hr hlk (⟨_, rfl⟩) (Nat.le_of_ble_eq_true rfl) (Nat.le_of_ble_eq_true rfl) dX1_init_26
set_option maxHeartbeats 4000000 in
set_option maxRecDepth 100000 in
theorem c_X2_init (l : Launch) (ids : gIds) (ad : gAd) (κ : gMem) (r t : Nat) (v pr : Int32) (h3 : (3, r) ∈ ids) (hr80 : r < 80) (ht : t < 12) (hn15 : (15, r) ∉ ids) (hf15 : gFree ids κ 15 r)  : gMv l yX2_init wsX2_init ({ frames := 1, cells := 1, slots := 6, locals := 12 } : Room) 1 6 [.ref (ad 3 r), .ref (ad 5 t), .int v, .int pr] (ids, ad, κ) (fun u => ∃ q, u = (ids ++ [(15, r)], updA ad 15 r q, updR (updR κ 15 r (fun _ => 0)) 3 r (fun k => if k = 5 then nI r else sNewR t v pr k))) := by
  intro D aC A
  refine g_of (cc := cX2_init) (maxL := 4) (ret := none) (by decide +kernel) rfl (Nat.le_of_ble_eq_true rfl) ?_
  intro p e s m below meth c ls S G hF hr hlk hnm hl
  have hl : lv_has ls 4 [(0, _), (1, _), (2, _), (3, _)] := hl
  have i3 : ∀ w ∈ wsX20, w ∈ wsX2_init := by decide +kernel
  refine lv_aload_n S.1 S.2.1 dX2_init_0 rfl (lv_at hl 0 rfl) ?_
  refine g_objInit S hl (by decide +kernel) (by decide +kernel) (by decide +kernel) (Nat.le_of_ble_eq_true rfl) (Nat.le_of_ble_eq_true rfl) dX2_init_1 ?_
  refine lv_aload_n S.1 S.2.1 dX2_init_4 rfl (lv_at hl 0 rfl) ?_
  refine lv_iconst (v := (-1)) S.1 S.2.1 dX2_init_5 (by decide) ?_
  refine g_put (ty := .int) S G 3 4 h3 (by decide) (by decide) i3 (S.2.2.2.2 (.fieldLink RX2 9 "SensorBond$Reading" "due" "I") (by decide +kernel)) rfl (by decide +kernel) rfl rfl (gw_i rfl) dX2_init_6 (fun H locs G => ?_)
  refine lv_aload_n S.1 S.2.1 dX2_init_9 rfl (lv_at hl 0 rfl) ?_
  refine lv_bipush (v := 6) S.1 S.2.1 dX2_init_10 (by decide) ?_
  refine g_newa S G 15 r rfl rfl rfl (by decide +kernel) hn15 (hf15.upd (by decide)) rfl (Nat.le_of_ble_eq_true rfl) (Nat.le_of_ble_eq_true rfl) (Nat.le_of_ble_eq_true rfl) dX2_init_12 (fun q_12 H G => ?_)
  have h3 : (3, r) ∈ ids ++ [(15, r)] := List.mem_append_left _ h3
  refine g_putF (ty := (.array .int)) S hnm G 3 5 h3 (by decide) (by decide) i3 (S.2.2.2.2 (.fieldLink RX2 15 "SensorBond$Reading" "paid" "[I") (by decide +kernel)) rfl rfl (by decide +kernel) rfl rfl (gw_r rfl (by omega)) dX2_init_14 (fun H locs G => ?_)
  refine lv_aload_n S.1 S.2.1 dX2_init_17 rfl (lv_at hl 0 rfl) ?_
  refine lv_iconst (v := 0) S.1 S.2.1 dX2_init_18 (by decide) ?_
  refine g_put (ty := .int) S G 3 6 h3 (by decide) (by decide) i3 (S.2.2.2.2 (.fieldLink RX2 19 "SensorBond$Reading" "users" "I") (by decide +kernel)) rfl (by decide +kernel) rfl rfl (gw_i rfl) dX2_init_19 (fun H locs G => ?_)
  refine lv_aload_n S.1 S.2.1 dX2_init_22 rfl (lv_at hl 0 rfl) ?_
  refine lv_iconst (v := 0) S.1 S.2.1 dX2_init_23 (by decide) ?_
  refine g_put (ty := .int) S G 3 7 h3 (by decide) (by decide) i3 (S.2.2.2.2 (.fieldLink RX2 22 "SensorBond$Reading" "held" "I") (by decide +kernel)) rfl (by decide +kernel) rfl rfl (gw_i rfl) dX2_init_24 (fun H locs G => ?_)
  refine lv_aload_n S.1 S.2.1 dX2_init_27 rfl (lv_at hl 0 rfl) ?_
  refine lv_iconst (v := 0) S.1 S.2.1 dX2_init_28 (by decide) ?_
  refine g_put (ty := .int) S G 3 8 h3 (by decide) (by decide) i3 (S.2.2.2.2 (.fieldLink RX2 25 "SensorBond$Reading" "cut" "I") (by decide +kernel)) rfl (by decide +kernel) rfl rfl (gw_i rfl) dX2_init_29 (fun H locs G => ?_)
  refine lv_aload_n S.1 S.2.1 dX2_init_32 rfl (lv_at hl 0 rfl) ?_
  refine lv_null S.1 S.2.1 dX2_init_33 ?_
  refine g_put (ty := (.object "SensorBond$Challenge")) S G 3 9 h3 (by decide) (by decide) i3 (S.2.2.2.2 (.fieldLink RX2 28 "SensorBond$Reading" "challenge" "LSensorBond$Challenge;") (by decide +kernel)) rfl (by decide +kernel) rfl rfl (gw_n rfl) dX2_init_34 (fun H locs G => ?_)
  refine lv_aload_n S.1 S.2.1 dX2_init_37 rfl (lv_at hl 0 rfl) ?_
  refine lv_aload_n S.1 S.2.1 dX2_init_38 rfl (lv_at hl 1 rfl) ?_
  refine g_putF (ty := (.object "SensorBond$Sensor")) S hnm G 3 0 h3 (by decide) (by decide) i3 (S.2.2.2.2 (.fieldLink RX2 32 "SensorBond$Reading" "sensor" "LSensorBond$Sensor;") (by decide +kernel)) rfl rfl (by decide +kernel) rfl rfl (gw_r rfl (by omega)) dX2_init_39 (fun H locs G => ?_)
  refine lv_aload_n S.1 S.2.1 dX2_init_42 rfl (lv_at hl 0 rfl) ?_
  refine lv_iload_n S.1 S.2.1 dX2_init_43 rfl (lv_at hl 2 rfl) ?_
  refine g_putF (ty := .int) S hnm G 3 1 h3 (by decide) (by decide) i3 (S.2.2.2.2 (.fieldLink RX2 36 "SensorBond$Reading" "value" "I") (by decide +kernel)) rfl rfl (by decide +kernel) rfl rfl (gw_i rfl) dX2_init_44 (fun H locs G => ?_)
  refine lv_aload_n S.1 S.2.1 dX2_init_47 rfl (lv_at hl 0 rfl) ?_
  refine lv_iload_n S.1 S.2.1 dX2_init_48 rfl (lv_at hl 3 rfl) ?_
  refine g_putF (ty := .int) S hnm G 3 2 h3 (by decide) (by decide) i3 (S.2.2.2.2 (.fieldLink RX2 39 "SensorBond$Reading" "parts" "I") (by decide +kernel)) rfl rfl (by decide +kernel) rfl rfl (gw_i rfl) dX2_init_49 (fun H locs G => ?_)
  refine lv_aload_n S.1 S.2.1 dX2_init_52 rfl (lv_at hl 0 rfl) ?_
  refine lv_iload_n S.1 S.2.1 dX2_init_53 rfl (lv_at hl 3 rfl) ?_
  refine lv_iconst (v := 3) S.1 S.2.1 dX2_init_54 (by decide) ?_
  refine lv_icmp_lt (tgt := 62) S.1 S.2.1 dX2_init_55 (by decide) (fun c_55 => ?_) (fun c_55 => ?_)
  · refine lv_iconst (v := 4) S.1 S.2.1 dX2_init_62 (by decide) ?_
    refine g_put (ty := .int) S G 3 3 h3 (by decide) (by decide) i3 (S.2.2.2.2 (.fieldLink RX2 42 "SensorBond$Reading" "state" "I") (by decide +kernel)) rfl (by decide +kernel) rfl rfl (gw_i rfl) dX2_init_63 (fun H locs G => ?_)
    have G := G.conv (π' := updR (updR κ 15 r (fun _ => 0)) 3 r (fun k => if k = 5 then nI r else sNewR t v pr k)) (by
      rintro ⟨g, jj⟩ hx k hk
      dsimp only at hk ⊢
      by_cases h0 : g = 3 ∧ jj = r
      · obtain ⟨rfl, e0⟩ := h0
        subst e0
        have hk : k < 10 := hk
        rcases (by omega : k = 0 ∨ k = 1 ∨ k = 2 ∨ k = 3 ∨ k = 4 ∨ k = 5 ∨ k = 6 ∨ k = 7 ∨ k = 8 ∨ k = 9) with rfl | rfl | rfl | rfl | rfl | rfl | rfl | rfl | rfl | rfl <;> simp [upd3, updR, gk, gOwn, sNewR, if_pos c_55]
      · by_cases h1 : g = 15 ∧ jj = r
        · obtain ⟨rfl, e1⟩ := h1
          subst e1
          simp [upd3, updR, gk, gOwn, sNewR, if_pos c_55]
        · simp only [updR_far h0, upd3_far h0, updR_far h1, upd3_far h1])
    exact g_vret S G hr hlk (⟨_, rfl⟩) (Nat.le_of_ble_eq_true rfl) (Nat.le_of_ble_eq_true rfl) dX2_init_66
  · refine lv_iconst (v := 0) S.1 S.2.1 dX2_init_58 (by decide) ?_
    refine lv_goto (tgt := 63) S.1 S.2.1 dX2_init_59 (by decide) ?_
    refine g_put (ty := .int) S G 3 3 h3 (by decide) (by decide) i3 (S.2.2.2.2 (.fieldLink RX2 42 "SensorBond$Reading" "state" "I") (by decide +kernel)) rfl (by decide +kernel) rfl rfl (gw_i rfl) dX2_init_63 (fun H locs G => ?_)
    have G := G.conv (π' := updR (updR κ 15 r (fun _ => 0)) 3 r (fun k => if k = 5 then nI r else sNewR t v pr k)) (by
      rintro ⟨g, jj⟩ hx k hk
      dsimp only at hk ⊢
      by_cases h0 : g = 3 ∧ jj = r
      · obtain ⟨rfl, e0⟩ := h0
        subst e0
        have hk : k < 10 := hk
        rcases (by omega : k = 0 ∨ k = 1 ∨ k = 2 ∨ k = 3 ∨ k = 4 ∨ k = 5 ∨ k = 6 ∨ k = 7 ∨ k = 8 ∨ k = 9) with rfl | rfl | rfl | rfl | rfl | rfl | rfl | rfl | rfl | rfl <;> simp [upd3, updR, gk, gOwn, sNewR, if_neg c_55]
      · by_cases h1 : g = 15 ∧ jj = r
        · obtain ⟨rfl, e1⟩ := h1
          subst e1
          simp [upd3, updR, gk, gOwn, sNewR, if_neg c_55]
        · simp only [updR_far h0, upd3_far h0, updR_far h1, upd3_far h1])
    exact g_vret S G hr hlk (⟨_, rfl⟩) (Nat.le_of_ble_eq_true rfl) (Nat.le_of_ble_eq_true rfl) dX2_init_66
set_option maxHeartbeats 4000000 in
set_option maxRecDepth 100000 in
theorem c_X3_inith (l : Launch) (ids : gIds) (ad : gAd) (κ : gMem) (j : Nat) (n : Int32) (h4 : (4, j) ∈ ids)  : gMv l yX3_init wsX3_init ({ frames := 1, cells := 0, slots := 0, locals := 12 } : Room) 0 0 [.ref (ad 4 j), .int n, .null] (ids, ad, κ) (fun u => u = (ids, ad, updR κ 4 j (fun k => if k = 0 then n else if k = 1 then -1 else 0))) := by
  intro D aC A
  refine g_of (cc := cX3_init) (maxL := 3) (ret := none) (by decide +kernel) rfl (Nat.le_of_ble_eq_true rfl) ?_
  intro p e s m below meth c ls S G hF hr hlk hnm hl
  have hl : lv_has ls 3 [(0, _), (1, _), (2, _)] := hl
  have i4 : ∀ w ∈ wsX30, w ∈ wsX3_init := by decide +kernel
  refine lv_aload_n S.1 S.2.1 dX3_init_0 rfl (lv_at hl 0 rfl) ?_
  refine g_objInit S hl (by decide +kernel) (by decide +kernel) (by decide +kernel) (Nat.le_of_ble_eq_true rfl) (Nat.le_of_ble_eq_true rfl) dX3_init_1 ?_
  refine lv_aload_n S.1 S.2.1 dX3_init_4 rfl (lv_at hl 0 rfl) ?_
  refine lv_iconst (v := 0) S.1 S.2.1 dX3_init_5 (by decide) ?_
  refine g_put (ty := .int) S G 4 2 h4 (by decide) (by decide) i4 (S.2.2.2.2 (.fieldLink RX3 7 "SensorBond$Repeater" "lossEvery" "I") (by decide +kernel)) rfl (by decide +kernel) rfl rfl (gw_i rfl) dX3_init_6 (fun H locs G => ?_)
  refine lv_aload_n S.1 S.2.1 dX3_init_9 rfl (lv_at hl 0 rfl) ?_
  refine lv_iconst (v := 0) S.1 S.2.1 dX3_init_10 (by decide) ?_
  refine g_put (ty := .int) S G 4 3 h4 (by decide) (by decide) i4 (S.2.2.2.2 (.fieldLink RX3 13 "SensorBond$Repeater" "come" "I") (by decide +kernel)) rfl (by decide +kernel) rfl rfl (gw_i rfl) dX3_init_11 (fun H locs G => ?_)
  refine lv_aload_n S.1 S.2.1 dX3_init_14 rfl (lv_at hl 0 rfl) ?_
  refine lv_iload_n S.1 S.2.1 dX3_init_15 rfl (lv_at hl 1 rfl) ?_
  refine g_putF (ty := .int) S hnm G 4 0 h4 (by decide) (by decide) i4 (S.2.2.2.2 (.fieldLink RX3 16 "SensorBond$Repeater" "number" "I") (by decide +kernel)) rfl rfl (by decide +kernel) rfl rfl (gw_i rfl) dX3_init_16 (fun H locs G => ?_)
  refine lv_aload_n S.1 S.2.1 dX3_init_19 rfl (lv_at hl 0 rfl) ?_
  refine lv_aload_nN S.1 S.2.1 dX3_init_20 rfl (lv_at hl 2 rfl) ?_
  refine g_put (ty := (.object "SensorBond$Repeater")) S G 4 1 h4 (by decide) (by decide) i4 (S.2.2.2.2 (.fieldLink RX3 19 "SensorBond$Repeater" "on" "LSensorBond$Repeater;") (by decide +kernel)) rfl (by decide +kernel) rfl rfl (gw_n rfl) dX3_init_21 (fun H locs G => ?_)
  have G := G.conv (π' := updR κ 4 j (fun k => if k = 0 then n else if k = 1 then -1 else 0)) (by
    rintro ⟨g, jj⟩ hx k hk
    dsimp only at hk ⊢
    by_cases h0 : g = 4 ∧ jj = j
    · obtain ⟨rfl, e0⟩ := h0
      subst e0
      have hk : k < 4 := hk
      rcases (by omega : k = 0 ∨ k = 1 ∨ k = 2 ∨ k = 3) with rfl | rfl | rfl | rfl <;> simp [upd3, updR, gk, gOwn, id]
    · simp only [updR_far h0, upd3_far h0])
  exact g_vret S G hr hlk (rfl) (Nat.le_of_ble_eq_true rfl) (Nat.le_of_ble_eq_true rfl) dX3_init_24
set_option maxHeartbeats 4000000 in
set_option maxRecDepth 100000 in
theorem c_X3_init (l : Launch) (ids : gIds) (ad : gAd) (κ : gMem) (j : Nat) (n : Int32) (i : Nat) (h4 : (4, j) ∈ ids) (hi : i < 6)  : gMv l yX3_init wsX3_init ({ frames := 1, cells := 0, slots := 0, locals := 12 } : Room) 0 0 [.ref (ad 4 j), .int n, .ref (ad 4 i)] (ids, ad, κ) (fun u => u = (ids, ad, updR κ 4 j (fun k => if k = 0 then n else if k = 1 then nI i else 0))) := by
  intro D aC A
  refine g_of (cc := cX3_init) (maxL := 3) (ret := none) (by decide +kernel) rfl (Nat.le_of_ble_eq_true rfl) ?_
  intro p e s m below meth c ls S G hF hr hlk hnm hl
  have hl : lv_has ls 3 [(0, _), (1, _), (2, _)] := hl
  have i4 : ∀ w ∈ wsX30, w ∈ wsX3_init := by decide +kernel
  refine lv_aload_n S.1 S.2.1 dX3_init_0 rfl (lv_at hl 0 rfl) ?_
  refine g_objInit S hl (by decide +kernel) (by decide +kernel) (by decide +kernel) (Nat.le_of_ble_eq_true rfl) (Nat.le_of_ble_eq_true rfl) dX3_init_1 ?_
  refine lv_aload_n S.1 S.2.1 dX3_init_4 rfl (lv_at hl 0 rfl) ?_
  refine lv_iconst (v := 0) S.1 S.2.1 dX3_init_5 (by decide) ?_
  refine g_put (ty := .int) S G 4 2 h4 (by decide) (by decide) i4 (S.2.2.2.2 (.fieldLink RX3 7 "SensorBond$Repeater" "lossEvery" "I") (by decide +kernel)) rfl (by decide +kernel) rfl rfl (gw_i rfl) dX3_init_6 (fun H locs G => ?_)
  refine lv_aload_n S.1 S.2.1 dX3_init_9 rfl (lv_at hl 0 rfl) ?_
  refine lv_iconst (v := 0) S.1 S.2.1 dX3_init_10 (by decide) ?_
  refine g_put (ty := .int) S G 4 3 h4 (by decide) (by decide) i4 (S.2.2.2.2 (.fieldLink RX3 13 "SensorBond$Repeater" "come" "I") (by decide +kernel)) rfl (by decide +kernel) rfl rfl (gw_i rfl) dX3_init_11 (fun H locs G => ?_)
  refine lv_aload_n S.1 S.2.1 dX3_init_14 rfl (lv_at hl 0 rfl) ?_
  refine lv_iload_n S.1 S.2.1 dX3_init_15 rfl (lv_at hl 1 rfl) ?_
  refine g_putF (ty := .int) S hnm G 4 0 h4 (by decide) (by decide) i4 (S.2.2.2.2 (.fieldLink RX3 16 "SensorBond$Repeater" "number" "I") (by decide +kernel)) rfl rfl (by decide +kernel) rfl rfl (gw_i rfl) dX3_init_16 (fun H locs G => ?_)
  refine lv_aload_n S.1 S.2.1 dX3_init_19 rfl (lv_at hl 0 rfl) ?_
  refine lv_aload_n S.1 S.2.1 dX3_init_20 rfl (lv_at hl 2 rfl) ?_
  refine g_put (ty := (.object "SensorBond$Repeater")) S G 4 1 h4 (by decide) (by decide) i4 (S.2.2.2.2 (.fieldLink RX3 19 "SensorBond$Repeater" "on" "LSensorBond$Repeater;") (by decide +kernel)) rfl (by decide +kernel) rfl rfl (gw_r rfl (by omega)) dX3_init_21 (fun H locs G => ?_)
  have G := G.conv (π' := updR κ 4 j (fun k => if k = 0 then n else if k = 1 then nI i else 0)) (by
    rintro ⟨g, jj⟩ hx k hk
    dsimp only at hk ⊢
    by_cases h0 : g = 4 ∧ jj = j
    · obtain ⟨rfl, e0⟩ := h0
      subst e0
      have hk : k < 4 := hk
      rcases (by omega : k = 0 ∨ k = 1 ∨ k = 2 ∨ k = 3) with rfl | rfl | rfl | rfl <;> simp [upd3, updR, gk, gOwn, id]
    · simp only [updR_far h0, upd3_far h0])
  exact g_vret S G hr hlk (rfl) (Nat.le_of_ble_eq_true rfl) (Nat.le_of_ble_eq_true rfl) dX3_init_24
set_option maxHeartbeats 4000000 in
set_option maxRecDepth 100000 in
theorem c_X4_init (l : Launch) (ids : gIds) (ad : gAd) (κ : gMem) (j : Nat) (n : Int32) (i : Nat) (h5 : (5, j) ∈ ids) (hi : i < 6)  : gMv l yX4_init wsX4_init ({ frames := 1, cells := 0, slots := 0, locals := 12 } : Room) 0 0 [.ref (ad 5 j), .int n, .ref (ad 4 i)] (ids, ad, κ) (fun u => u = (ids, ad, updR κ 5 j (fun k => if k = 0 then n else if k = 1 then nI i else if k = 2 then 1 else if k = 3 then 100 else if k = 6 then -1 else 0))) := by
  intro D aC A
  refine g_of (cc := cX4_init) (maxL := 3) (ret := none) (by decide +kernel) rfl (Nat.le_of_ble_eq_true rfl) ?_
  intro p e s m below meth c ls S G hF hr hlk hnm hl
  have hl : lv_has ls 3 [(0, _), (1, _), (2, _)] := hl
  have i5 : ∀ w ∈ wsX40, w ∈ wsX4_init := by decide +kernel
  refine lv_aload_n S.1 S.2.1 dX4_init_0 rfl (lv_at hl 0 rfl) ?_
  refine g_objInit S hl (by decide +kernel) (by decide +kernel) (by decide +kernel) (Nat.le_of_ble_eq_true rfl) (Nat.le_of_ble_eq_true rfl) dX4_init_1 ?_
  refine lv_aload_n S.1 S.2.1 dX4_init_4 rfl (lv_at hl 0 rfl) ?_
  refine lv_iconst (v := 1) S.1 S.2.1 dX4_init_5 (by decide) ?_
  refine g_put (ty := .int) S G 5 2 h5 (by decide) (by decide) i5 (S.2.2.2.2 (.fieldLink RX4 9 "SensorBond$Sensor" "price" "I") (by decide +kernel)) rfl (by decide +kernel) rfl rfl (gw_i rfl) dX4_init_6 (fun H locs G => ?_)
  refine lv_aload_n S.1 S.2.1 dX4_init_9 rfl (lv_at hl 0 rfl) ?_
  refine lv_bipush (v := 100) S.1 S.2.1 dX4_init_10 (by decide) ?_
  refine g_put (ty := .int) S G 5 3 h5 (by decide) (by decide) i5 (S.2.2.2.2 (.fieldLink RX4 15 "SensorBond$Sensor" "bond" "I") (by decide +kernel)) rfl (by decide +kernel) rfl rfl (gw_i rfl) dX4_init_12 (fun H locs G => ?_)
  refine lv_aload_n S.1 S.2.1 dX4_init_15 rfl (lv_at hl 0 rfl) ?_
  refine lv_iconst (v := 0) S.1 S.2.1 dX4_init_16 (by decide) ?_
  refine g_put (ty := .int) S G 5 4 h5 (by decide) (by decide) i5 (S.2.2.2.2 (.fieldLink RX4 18 "SensorBond$Sensor" "purse" "I") (by decide +kernel)) rfl (by decide +kernel) rfl rfl (gw_i rfl) dX4_init_17 (fun H locs G => ?_)
  refine lv_aload_n S.1 S.2.1 dX4_init_20 rfl (lv_at hl 0 rfl) ?_
  refine lv_iconst (v := 0) S.1 S.2.1 dX4_init_21 (by decide) ?_
  refine g_put (ty := .int) S G 5 5 h5 (by decide) (by decide) i5 (S.2.2.2.2 (.fieldLink RX4 21 "SensorBond$Sensor" "put" "I") (by decide +kernel)) rfl (by decide +kernel) rfl rfl (gw_i rfl) dX4_init_22 (fun H locs G => ?_)
  refine lv_aload_n S.1 S.2.1 dX4_init_25 rfl (lv_at hl 0 rfl) ?_
  refine lv_iconst (v := (-1)) S.1 S.2.1 dX4_init_26 (by decide) ?_
  refine g_put (ty := .int) S G 5 6 h5 (by decide) (by decide) i5 (S.2.2.2.2 (.fieldLink RX4 24 "SensorBond$Sensor" "lastTold" "I") (by decide +kernel)) rfl (by decide +kernel) rfl rfl (gw_i rfl) dX4_init_27 (fun H locs G => ?_)
  refine lv_aload_n S.1 S.2.1 dX4_init_30 rfl (lv_at hl 0 rfl) ?_
  refine lv_iload_n S.1 S.2.1 dX4_init_31 rfl (lv_at hl 1 rfl) ?_
  refine g_putF (ty := .int) S hnm G 5 0 h5 (by decide) (by decide) i5 (S.2.2.2.2 (.fieldLink RX4 27 "SensorBond$Sensor" "number" "I") (by decide +kernel)) rfl rfl (by decide +kernel) rfl rfl (gw_i rfl) dX4_init_32 (fun H locs G => ?_)
  refine lv_aload_n S.1 S.2.1 dX4_init_35 rfl (lv_at hl 0 rfl) ?_
  refine lv_aload_n S.1 S.2.1 dX4_init_36 rfl (lv_at hl 2 rfl) ?_
  refine g_put (ty := (.object "SensorBond$Repeater")) S G 5 1 h5 (by decide) (by decide) i5 (S.2.2.2.2 (.fieldLink RX4 30 "SensorBond$Sensor" "repeater" "LSensorBond$Repeater;") (by decide +kernel)) rfl (by decide +kernel) rfl rfl (gw_r rfl (by omega)) dX4_init_37 (fun H locs G => ?_)
  have G := G.conv (π' := updR κ 5 j (fun k => if k = 0 then n else if k = 1 then nI i else if k = 2 then 1 else if k = 3 then 100 else if k = 6 then -1 else 0)) (by
    rintro ⟨g, jj⟩ hx k hk
    dsimp only at hk ⊢
    by_cases h0 : g = 5 ∧ jj = j
    · obtain ⟨rfl, e0⟩ := h0
      subst e0
      have hk : k < 7 := hk
      rcases (by omega : k = 0 ∨ k = 1 ∨ k = 2 ∨ k = 3 ∨ k = 4 ∨ k = 5 ∨ k = 6) with rfl | rfl | rfl | rfl | rfl | rfl | rfl <;> simp [upd3, updR, gk, gOwn, id]
    · simp only [updR_far h0, upd3_far h0])
  exact g_vret S G hr hlk (rfl) (Nat.le_of_ble_eq_true rfl) (Nat.le_of_ble_eq_true rfl) dX4_init_40
set_option maxHeartbeats 4000000 in
set_option maxRecDepth 100000 in
theorem c_X0_init (l : Launch) (ids : gIds) (ad : gAd) (κ : gMem) (b : Nat) (h1 : (1, b) ∈ ids) (hb : b < 6) (hn14 : (14, b) ∉ ids) (hf14 : gFree ids κ 14 b)  : gMv l yX0_init wsX0_init ({ frames := 1, cells := 1, slots := 12, locals := 12 } : Room) 1 12 [.ref (ad 1 b)] (ids, ad, κ) (fun u => ∃ q, u = (ids ++ [(14, b)], updA ad 14 b q, updR (updR κ 14 b (fun _ => -1)) 1 b (fun k => if k = 0 then 200 else nI b))) := by
  intro D aC A
  refine g_of (cc := cX0_init) (maxL := 1) (ret := none) (by decide +kernel) rfl (Nat.le_of_ble_eq_true rfl) ?_
  intro p e s m below meth c ls S G hF hr hlk hnm hl
  have hl : lv_has ls 1 [(0, _)] := hl
  have i1 : ∀ w ∈ wsX00, w ∈ wsX0_init := by decide +kernel
  refine lv_aload_n S.1 S.2.1 dX0_init_0 rfl (lv_at hl 0 rfl) ?_
  refine g_objInit S hl (by decide +kernel) (by decide +kernel) (by decide +kernel) (Nat.le_of_ble_eq_true rfl) (Nat.le_of_ble_eq_true rfl) dX0_init_1 ?_
  refine lv_aload_n S.1 S.2.1 dX0_init_4 rfl (lv_at hl 0 rfl) ?_
  refine lv_sipush (v := 200) S.1 S.2.1 dX0_init_5 (by decide) ?_
  refine g_put (ty := .int) S G 1 0 h1 (by decide) (by decide) i1 (S.2.2.2.2 (.fieldLink RX0 9 "SensorBond$Buyer" "purse" "I") (by decide +kernel)) rfl (by decide +kernel) rfl rfl (gw_i rfl) dX0_init_8 (fun H locs G => ?_)
  refine lv_aload_n S.1 S.2.1 dX0_init_11 rfl (lv_at hl 0 rfl) ?_
  refine lv_bipush (v := 12) S.1 S.2.1 dX0_init_12 (by decide) ?_
  refine g_newq S G 14 b rfl rfl (by decide +kernel) (hF.2.2.2.2.2.1 _ (by decide)) hn14 (hf14.upd (by decide)) rfl (Nat.le_of_ble_eq_true rfl) (Nat.le_of_ble_eq_true rfl) (Nat.le_of_ble_eq_true rfl) dX0_init_14 (fun q_14 H G => ?_)
  have h1 : (1, b) ∈ ids ++ [(14, b)] := List.mem_append_left _ h1
  refine g_putF (ty := (.array (.object "SensorBond$Window"))) S hnm G 1 1 h1 (by decide) (by decide) i1 (S.2.2.2.2 (.fieldLink RX0 17 "SensorBond$Buyer" "windows" "[LSensorBond$Window;") (by decide +kernel)) rfl rfl (by decide +kernel) rfl rfl (gw_r rfl (by omega)) dX0_init_17 (fun H locs G => ?_)
  have G := G.conv (π' := updR (updR κ 14 b (fun _ => -1)) 1 b (fun k => if k = 0 then 200 else nI b)) (by
    rintro ⟨g, jj⟩ hx k hk
    dsimp only at hk ⊢
    by_cases h0 : g = 1 ∧ jj = b
    · obtain ⟨rfl, e0⟩ := h0
      subst e0
      have hk : k < 2 := hk
      rcases (by omega : k = 0 ∨ k = 1) with rfl | rfl <;> simp [upd3, updR, gk, gOwn, id]
    · by_cases h1 : g = 14 ∧ jj = b
      · obtain ⟨rfl, e1⟩ := h1
        subst e1
        simp [upd3, updR, gk, gOwn, id]
      · simp only [updR_far h0, upd3_far h0, updR_far h1, upd3_far h1])
  exact g_vret S G hr hlk (⟨_, rfl⟩) (Nat.le_of_ble_eq_true rfl) (Nat.le_of_ble_eq_true rfl) dX0_init_20
