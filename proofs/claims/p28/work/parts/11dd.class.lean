set_option maxHeartbeats 4000000 in
set_option maxRecDepth 100000 in
theorem c_X6_passesHub (l : Launch) (ids : gIds) (ad : gAd) (κ : gMem) (j : Nat) (hj : j < 6) (hV : cV ids) (hW : cWF ids κ)  : gMi l yX6_passesHub wsX6_passesHub ({ frames := 1, cells := 0, slots := 0, locals := 20 } : Room) 0 0 [.ref (ad 4 j)] (ids, ad, gk κ) (fun q u => q = (sGoes 6 κ j).1 ∧ u = (ids, ad, gk ((sGoes 6 κ j).2))) := by
  intro D aC A
  refine g_of (cc := cX6_passesHub) (maxL := 2) (ret := (some .boolean)) (by decide +kernel) rfl (Nat.le_of_ble_eq_true rfl) ?_
  intro p e s m below meth c ls S G hF hr hlk hnm hl
  have hl : lv_has ls 2 [(0, _)] := hl
  have i4 : ∀ w ∈ wsX30, w ∈ wsX6_passesHub := by decide +kernel
  refine lv_aload_n S.1 S.2.1 dX6_passesHub_0 rfl (lv_at hl 0 rfl) ?_
  refine lv_astore_n (lv' := [(1, _), (0, _)]) S.1 S.2.1 dX6_passesHub_1 rfl hl (by decide) rfl (fun ls hl => ?_)
  obtain ⟨tg, htg⟩ : ∃ z, sGoes 6 κ j = z := ⟨_, rfl⟩
  rw [htg]
  refine g_while (σ := gMem × Nat × Nat) (fun y => y.2.1 < 6 ∧ y.2.1 < y.2.2 ∧ cWF ids y.1 ∧ sGoes y.2.2 y.1 y.2.1 = tg) (fun y => y.2.1) (fun y => y.1) (fun y => [(1, .ref (ad 4 y.2.1)), (0, .ref (ad 4 j))]) ?_ (κ, j, 6) ⟨hj, by omega, hW, htg⟩ G (lv_sub hl [0, 1] rfl)
  rintro ⟨κ1, i, n⟩ H locs ls ⟨hi6, hin, hW1, hG⟩ G hl ih_2
  dsimp only at hi6 hin hW1 hG G hl
  obtain ⟨n, rfl⟩ : ∃ q, n = q + 1 := ⟨n - 1, by omega⟩
  have hW2 : cWF ids (sCome κ1 i) := sCome_WF hW1
  have hl : lv_has ls 2 [(1, _), (0, _)] := hl
  refine lv_aload_n S.1 S.2.1 dX6_passesHub_2 rfl (lv_at hl 0 rfl) ?_
  refine lv_ifnull S.1 S.2.1 dX6_passesHub_3 ?_
  refine lv_aload_n S.1 S.2.1 dX6_passesHub_6 rfl (lv_at hl 0 rfl) ?_
  refine g_cNi S G hF hl 4 (hV 4 i hi6) (by decide) (c_X3_losesNext l ids ad _ _ (hV 4 i hi6)) ⟨va_cnB 0 S.2.2.2.2 gX6_passesHub_X3_losesNext_n266 rfl rfl rfl (gm_4 hF) (S.2.2.2.2 (.initialized RX3) (by decide +kernel)) (by decide +kernel) ⟨Nat.le_of_ble_eq_true rfl, Nat.le_of_ble_eq_true rfl⟩, S.2.2.2.2 (.instanceMethod yX3_losesNext) (by decide +kernel), S.2.2.2.2 (.selects RX3 yX3_losesNext yX3_losesNext) (by decide +kernel)⟩ rfl rfl (Nat.le_of_ble_eq_true rfl) dX6_passesHub_7 ⟨Nat.le_of_ble_eq_true rfl, Nat.le_of_ble_eq_true rfl⟩ (fun r_7 u_7 H locs hp_7 G => ?_)
  obtain ⟨rfl, rfl⟩ := hp_7
  have G : gS D aC A s ids ad (gk _) H locs := G
  refine lv_if_eq (tgt := 15) S.1 S.2.1 dX6_passesHub_10 (by decide) (fun c_10 => ?_) (fun c_10 => ?_)
  · refine lv_aload_n S.1 S.2.1 dX6_passesHub_15 rfl (lv_at hl 0 rfl) ?_
    by_cases h0 : i = 0
    · refine g_getN S G 4 1 (hV 4 i hi6) (by decide) (by decide) i4 (gn_1 hF) (gvk_n rfl rfl ((fun z (e : z = 0) => by rw [e]; exact hW2.hub : ∀ z, z = 0 → sCome κ1 i 4 z 1 < 0) i h0)) dX6_passesHub_16 ?_
      refine lv_astore_nN (lv' := [(1, _), (0, _)]) S.1 S.2.1 dX6_passesHub_19 rfl hl (by decide) rfl (fun ls hl => ?_)
      refine lv_goto (tgt := 2) S.1 S.2.1 dX6_passesHub_20 (by decide) ?_
      refine lv_aload_nN S.1 S.2.1 dX6_passesHub_2 rfl (lv_at hl 0 rfl) ?_
      refine lv_ifnullN (tgt := 23) S.1 S.2.1 dX6_passesHub_3 (by decide) ?_
      refine lv_iconst (v := 1) S.1 S.2.1 dX6_passesHub_23 (by decide) ?_
      exact g_zret S G hr hlk (by decide) (by simp only [sGoes, if_pos c_10, if_pos h0, if_pos trivial, if_true] at hG; rw [← hG]; exact ⟨rfl, rfl⟩) (Nat.le_of_ble_eq_true rfl) (Nat.le_of_ble_eq_true rfl) dX6_passesHub_24
    · have ho := hW2.on hi6 h0
      refine g_getN S G 4 1 (hV 4 i hi6) (by decide) (by decide) i4 (gn_1 hF) (gvk_r rfl rfl ho.1 (by have := ho.2; omega)) dX6_passesHub_16 ?_
      refine lv_astore_n (lv' := [(1, _), (0, _)]) S.1 S.2.1 dX6_passesHub_19 rfl hl (by decide) rfl (fun ls hl => ?_)
      refine lv_goto (tgt := 2) S.1 S.2.1 dX6_passesHub_20 (by decide) ?_
      have e := hG
      simp only [sGoes, if_pos c_10, if_neg h0] at e
      exact ih_2 (sCome κ1 i, tN (sCome κ1 i 4 i 1), n) H locs ls ⟨by have := ho.2; show tN (sCome κ1 i 4 i 1) < 6; omega, by have := ho.2; show tN (sCome κ1 i 4 i 1) < n; omega, hW2, e⟩ (by have := ho.2; show tN (sCome κ1 i 4 i 1) < i; omega) G (lv_sub hl [0, 1] rfl)
  · refine lv_iconst (v := 0) S.1 S.2.1 dX6_passesHub_13 (by decide) ?_
    exact g_zret S G hr hlk (by decide) (by simp only [sGoes, if_neg c_10] at hG; rw [← hG]; exact ⟨rfl, rfl⟩) (Nat.le_of_ble_eq_true rfl) (Nat.le_of_ble_eq_true rfl) dX6_passesHub_14
set_option maxHeartbeats 4000000 in
set_option maxRecDepth 100000 in
theorem c_X6_sendParts (l : Launch) (ids : gIds) (ad : gAd) (κ : gMem) (t : Nat) (hs : t < 12) (hV : cV ids) (hW : cWF ids κ)  : gMi l yX6_sendParts wsX6_sendParts ({ frames := 2, cells := 0, slots := 0, locals := 41 } : Room) 0 0 [.ref (ad 5 t)] (ids, ad, gk κ) (fun q u => q = sSent κ t 4 ∧ u = (ids, ad, gk (sSend κ t))) := by
  intro D aC A
  refine g_of (cc := cX6_sendParts) (maxL := 3) (ret := (some .int)) (by decide +kernel) rfl (Nat.le_of_ble_eq_true rfl) ?_
  intro p e s m below meth c ls S G hF hr hlk hnm hl
  have hl : lv_has ls 3 [(0, _)] := hl
  have i5 : ∀ w ∈ wsX40, w ∈ wsX6_sendParts := by decide +kernel
  refine lv_iconst (v := 0) S.1 S.2.1 dX6_sendParts_0 (by decide) ?_
  refine lv_istore_n (lv' := [(1, _), (0, _)]) S.1 S.2.1 dX6_sendParts_1 rfl hl (by decide) rfl (fun ls hl => ?_)
  refine lv_iconst (v := 0) S.1 S.2.1 dX6_sendParts_2 (by decide) ?_
  refine lv_istore_n (lv' := [(2, _), (1, _), (0, _)]) S.1 S.2.1 dX6_sendParts_3 rfl hl (by decide) rfl (fun ls hl => ?_)
  refine g_for (fun _ => sPart t) 4 (fun k_4 => [(2, .int (nI k_4)), (1, .int (sSent κ t k_4)), (0, .ref (ad 5 t))]) ?_ G (lv_sub hl [0, 1, 2] rfl)
  intro k_4 H locs ls hk_4 G hl ih_4
  have hl : lv_has ls 3 [(2, _), (1, _), (0, _)] := hl
  have hWk := sPart_it_WF (s := t) (k := k_4) hW
  have hp := hWk.rp hs
  refine lv_iload_n S.1 S.2.1 dX6_sendParts_4 rfl (lv_at hl 0 rfl) ?_
  refine lv_iconst (v := 4) S.1 S.2.1 dX6_sendParts_5 (by decide) ?_
  refine lv_icmp_ge (tgt := 28) S.1 S.2.1 dX6_sendParts_6 (by decide) (fun c_6 => ?_) (fun c_6 => ?_)
  · have hkN_4 : k_4 = 4 := g_exit c_6 hk_4 (by omega)
    subst hkN_4
    refine lv_iload_n S.1 S.2.1 dX6_sendParts_28 rfl (lv_at hl 1 rfl) ?_
    exact g_iret S G hr hlk (⟨rfl, rfl⟩) (Nat.le_of_ble_eq_true rfl) (Nat.le_of_ble_eq_true rfl) dX6_sendParts_29
  · have hlt_4 : k_4 < 4 := g_stay c_6 hk_4 (by omega)
    refine lv_aload_n S.1 S.2.1 dX6_sendParts_9 rfl (lv_at hl 2 rfl) ?_
    refine g_getN S G 5 1 (hV 5 _ (by first | decide | (show _ < 12; omega))) (by decide) (by decide) i5 (gn_6 hF) (gvk_r rfl rfl hp.1 (by have := hp.2; omega)) dX6_sendParts_10 ?_
    refine g_cSi S G hF hl (c_X6_passesHub l ids ad _ _ hp.2 hV hWk) (va_cwS 1 S.2.2.2.2 gX6_sendParts_X6_passesHub rfl rfl rfl (by decide +kernel) ⟨Nat.le_of_ble_eq_true rfl, Nat.le_of_ble_eq_true rfl⟩) rfl rfl (Nat.le_of_ble_eq_true rfl) dX6_sendParts_13 ⟨Nat.le_of_ble_eq_true rfl, Nat.le_of_ble_eq_true rfl⟩ (fun r_13 u_13 H locs hp_13 G => ?_)
    obtain ⟨rfl, rfl⟩ := hp_13
    have G : gS D aC A s ids ad (gk _) H locs := G
    refine lv_if_eq (tgt := 22) S.1 S.2.1 dX6_sendParts_16 (by decide) (fun c_16 => ?_) (fun c_16 => ?_)
    · refine lv_iinc (k := 0) (lv' := [(2, _), (1, _), (0, _)]) S.1 S.2.1 dX6_sendParts_22 hl rfl (g_inc _) (by decide) rfl (fun ls hl => ?_)
      refine lv_goto (tgt := 4) S.1 S.2.1 dX6_sendParts_25 (by decide) ?_
      have e : sSent κ t (k_4 + 1) = sSent κ t k_4 := by simp only [sSent, if_neg c_6, if_pos c_16]
      exact ih_4 hlt_4 _ _ _ G (by rw [e]; exact lv_sub hl [0, 1, 2] rfl)
    · refine lv_iinc (k := 1) (lv' := [(1, _), (2, _), (0, _)]) S.1 S.2.1 dX6_sendParts_19 hl rfl (show _ = sSent κ t k_4 + 1 from rfl) (by decide) rfl (fun ls hl => ?_)
      refine lv_iinc (k := 1) (lv' := [(2, _), (1, _), (0, _)]) S.1 S.2.1 dX6_sendParts_22 hl rfl (g_inc _) (by decide) rfl (fun ls hl => ?_)
      refine lv_goto (tgt := 4) S.1 S.2.1 dX6_sendParts_25 (by decide) ?_
      have e : sSent κ t (k_4 + 1) = sSent κ t k_4 + 1 := by simp only [sSent, if_neg c_6, if_neg c_16]
      exact ih_4 hlt_4 _ _ _ G (by rw [e]; exact lv_sub hl [0, 1, 2] rfl)
set_option maxHeartbeats 4000000 in
set_option maxRecDepth 100000 in
theorem c_X6_waitFor (l : Launch) (ids : gIds) (ad : gAd) (κ : gMem) (r : Nat) (hV : cV ids) (h3 : (3, r) ∈ ids)  : gMv l yX6_waitFor wsX6_waitFor ({ frames := 1, cells := 0, slots := 0, locals := 30 } : Room) 0 0 [.ref (ad 7 0), .ref (ad 3 r)] (ids, ad, gk κ) (fun u => u = (ids, ad, gk (sWait κ r))) := by
  intro D aC A
  refine g_of (cc := cX6_waitFor) (maxL := 2) (ret := none) (by decide +kernel) rfl (Nat.le_of_ble_eq_true rfl) ?_
  intro p e s m below meth c ls S G hF hr hlk hnm hl
  have hl : lv_has ls 2 [(0, _), (1, _)] := hl
  have i3 : ∀ w ∈ wsX20, w ∈ wsX6_waitFor := by decide +kernel
  have i7 : ∀ w ∈ wsX60, w ∈ wsX6_waitFor := by decide +kernel
  refine lv_aload_n S.1 S.2.1 dX6_waitFor_0 rfl (lv_at hl 1 rfl) ?_
  refine lv_aload_n S.1 S.2.1 dX6_waitFor_1 rfl (lv_at hl 0 rfl) ?_
  refine g_get S G 7 6 (hV 7 _ (by first | decide | (show _ < 1; omega))) (by decide) (by decide) i7 (S.2.2.2.2 (.fieldLink RX6 40 "SensorBond" "tick" "I") (by decide +kernel)) (gvk_i rfl rfl) dX6_waitFor_2 ?_
  refine lv_iconst (v := 4) S.1 S.2.1 dX6_waitFor_5 (by decide) ?_
  refine lv_iadd S.1 S.2.1 dX6_waitFor_6 ?_
  refine g_putN (ty := .int) S G 3 4 h3 (by decide) (by decide) i3 (gn_18 hF) rfl (by decide +kernel) rfl rfl (gw_i rfl) dX6_waitFor_7 (fun H locs G => ?_)
  have G := gk_S rfl G
  refine lv_aload_n S.1 S.2.1 dX6_waitFor_10 rfl (lv_at hl 0 rfl) ?_
  refine lv_aload_n S.1 S.2.1 dX6_waitFor_11 rfl (lv_at hl 0 rfl) ?_
  refine g_get S G 7 7 (hV 7 _ (by first | decide | (show _ < 1; omega))) (by decide) (by decide) i7 (S.2.2.2.2 (.fieldLink RX6 43 "SensorBond" "busyUntil" "I") (by decide +kernel)) (gvk_i rfl rfl) dX6_waitFor_12 ?_
  refine lv_aload_n S.1 S.2.1 dX6_waitFor_15 rfl (lv_at hl 1 rfl) ?_
  refine g_getN S G 3 4 h3 (by decide) (by decide) i3 (gn_18 hF) (gvk_i rfl rfl) dX6_waitFor_16 ?_
  refine g_top upd3_s ?_
  refine g_max S hl (by decide +kernel) (by decide +kernel) (by decide +kernel) (by decide +kernel) (Nat.le_of_ble_eq_true rfl) (Nat.le_of_ble_eq_true rfl) (Nat.le_of_ble_eq_true rfl) (Nat.le_of_ble_eq_true rfl) dX6_waitFor_19 ?_
  refine g_put (ty := .int) S G 7 7 (hV 7 _ (by first | decide | (show _ < 1; omega))) (by decide) (by decide) i7 (S.2.2.2.2 (.fieldLink RX6 43 "SensorBond" "busyUntil" "I") (by decide +kernel)) rfl (by decide +kernel) rfl rfl (gw_i rfl) dX6_waitFor_22 (fun H locs G => ?_)
  have G := gk_S rfl G
  exact g_vret S G hr hlk (rfl) (Nat.le_of_ble_eq_true rfl) (Nat.le_of_ble_eq_true rfl) dX6_waitFor_25
set_option maxHeartbeats 4000000 in
set_option maxRecDepth 100000 in
theorem c_X6_letWindowsUse (l : Launch) (ids : gIds) (ad : gAd) (κ : gMem) (r : Nat) (hV : cV ids) (hW : cWF ids κ) (hr80 : r < 80) (hR : cRd ids κ r)  : gMv l yX6_letWindowsUse wsX6_letWindowsUse ({ frames := 0, cells := 0, slots := 0, locals := 0 } : Room) 0 0 [.ref (ad 7 0), .ref (ad 3 r)] (ids, ad, gk κ) (fun u => u = (ids, ad, gk (sUses κ r))) := by
  intro D aC A
  refine g_of (cc := cX6_letWindowsUse) (maxL := 5) (ret := none) (by decide +kernel) rfl (Nat.le_of_ble_eq_true rfl) ?_
  intro p e s m below meth c ls S G hF hr hlk hnm hl
  have hl : lv_has ls 5 [(0, _), (1, _)] := hl
  have i1 : ∀ w ∈ wsX00, w ∈ wsX6_letWindowsUse := by decide +kernel
  have i3 : ∀ w ∈ wsX20, w ∈ wsX6_letWindowsUse := by decide +kernel
  have i5 : ∀ w ∈ wsX40, w ∈ wsX6_letWindowsUse := by decide +kernel
  have i6 : ∀ w ∈ wsX50, w ∈ wsX6_letWindowsUse := by decide +kernel
  have i7 : ∀ w ∈ wsX60, w ∈ wsX6_letWindowsUse := by decide +kernel
  obtain ⟨-, h3, h15, hs, -⟩ := id hR
  refine lv_aload_n S.1 S.2.1 dX6_letWindowsUse_0 rfl (lv_at hl 1 rfl) ?_
  refine g_getN S G 3 0 h3 (by decide) (by decide) i3 (gn_14 hF) (gvk_r rfl rfl hs.1 (by have := hs.2; omega)) dX6_letWindowsUse_1 ?_
  refine g_getN S G 5 0 (hV 5 _ hs.2) (by decide) (by decide) i5 (gn_5 hF) (gvk_oi rfl rfl) dX6_letWindowsUse_4 ?_
  refine lv_istore_n (lv' := [(2, _), (0, _), (1, _)]) S.1 S.2.1 dX6_letWindowsUse_7 rfl hl (by decide) rfl (fun ls hl => ?_)
  refine lv_iconst (v := 0) S.1 S.2.1 dX6_letWindowsUse_8 (by decide) ?_
  refine lv_istore_n (lv' := [(3, _), (2, _), (0, _), (1, _)]) S.1 S.2.1 dX6_letWindowsUse_9 rfl hl (by decide) rfl (fun ls hl => ?_)
  refine g_for (sUse r) 6 (fun k_10 => [(3, .int (nI k_10)), (2, .int (nI (tN (κ 3 r 0)))), (1, .ref (ad 3 r)), (0, .ref (ad 7 0))]) ?_ G (lv_sub hl [0, 1, 3, 2] rfl)
  intro k_10 H locs ls hk_10 G hl ih_10
  have hl : lv_has ls 5 [(3, _), (2, _), (1, _), (0, _)] := hl
  have he : gIt (sUse r) k_10 κ 3 r 0 = κ 3 r 0 := (cSame.it (fun _ _ => sUse_same) k_10 κ) 3 r 0 rfl
  have hWk := sUse_it_WF (r := r) (k := k_10) hW
  refine lv_iload_n S.1 S.2.1 dX6_letWindowsUse_10 rfl (lv_at hl 0 rfl) ?_
  refine lv_bipush (v := 6) S.1 S.2.1 dX6_letWindowsUse_11 (by decide) ?_
  refine lv_icmp_ge (tgt := 90) S.1 S.2.1 dX6_letWindowsUse_13 (by decide) (fun c_13 => ?_) (fun c_13 => ?_)
  · have hkN_10 : k_10 = 6 := g_exit c_13 hk_10 (by omega)
    subst hkN_10
    exact g_vret S G hr hlk (rfl) (Nat.le_of_ble_eq_true rfl) (Nat.le_of_ble_eq_true rfl) dX6_letWindowsUse_90
  · have hlt_10 : k_10 < 6 := g_stay c_13 hk_10 (by omega)
    by_cases hw : gIt (sUse r) k_10 κ 14 k_10 (tN (κ 3 r 0)) < 0
    · refine lv_aload_n S.1 S.2.1 dX6_letWindowsUse_16 rfl (lv_at hl 3 rfl) ?_
      refine g_get S G 7 2 (hV 7 _ (by first | decide | (show _ < 1; omega))) (by decide) (by decide) i7 (S.2.2.2.2 (.fieldLink RX6 23 "SensorBond" "buyers" "[LSensorBond$Buyer;") (by decide +kernel)) (gvk_or (j := 0) rfl rfl (by omega)) dX6_letWindowsUse_17 ?_
      refine lv_iload_n S.1 S.2.1 dX6_letWindowsUse_20 rfl (lv_at hl 0 rfl) ?_
      refine g_aald S G 12 (hV 12 _ (by first | decide | (show _ < 1; omega))) rfl rfl rfl (show _ < 6 by omega) (gq_r (g := 1) rfl rfl (by omega)) dX6_letWindowsUse_21 ?_
      refine g_getN S G 1 1 (hV 1 _ (by first | decide | (show _ < 6; omega))) (by decide) (by decide) i1 (gn_13 hF) (gvk_or (j := _) rfl rfl (by omega)) dX6_letWindowsUse_22 ?_
      refine lv_iload_n S.1 S.2.1 dX6_letWindowsUse_25 rfl (lv_at hl 1 rfl) ?_
      refine g_aald S G 14 (hV 14 _ (by first | decide | (show _ < 6; omega))) rfl rfl rfl (show _ < 12 from hs.2) (gqk_n rfl hw) dX6_letWindowsUse_26 ?_
      refine lv_astoreN (lv' := [(4, _), (3, _), (2, _), (1, _), (0, _)]) S.1 S.2.1 dX6_letWindowsUse_27 hl (by decide) rfl (fun ls hl => ?_)
      refine lv_aloadN S.1 S.2.1 dX6_letWindowsUse_29 (lv_at hl 0 rfl) ?_
      refine lv_ifnullN (tgt := 84) S.1 S.2.1 dX6_letWindowsUse_31 (by decide) ?_
      refine lv_iinc (k := 1) (lv' := [(3, _), (4, _), (2, _), (1, _), (0, _)]) S.1 S.2.1 dX6_letWindowsUse_84 hl rfl (g_inc _) (by decide) rfl (fun ls hl => ?_)
      refine lv_goto (tgt := 10) S.1 S.2.1 dX6_letWindowsUse_87 (by decide) ?_
      exact ih_10 hlt_10 H locs ls (by simp only [gIt]; rw [sUse, he, if_pos hw]; exact G) (lv_sub hl [0, 2, 3, 4] rfl)
    · refine lv_aload_n S.1 S.2.1 dX6_letWindowsUse_16 rfl (lv_at hl 3 rfl) ?_
      refine g_get S G 7 2 (hV 7 _ (by first | decide | (show _ < 1; omega))) (by decide) (by decide) i7 (S.2.2.2.2 (.fieldLink RX6 23 "SensorBond" "buyers" "[LSensorBond$Buyer;") (by decide +kernel)) (gvk_or (j := 0) rfl rfl (by omega)) dX6_letWindowsUse_17 ?_
      refine lv_iload_n S.1 S.2.1 dX6_letWindowsUse_20 rfl (lv_at hl 0 rfl) ?_
      refine g_aald S G 12 (hV 12 _ (by first | decide | (show _ < 1; omega))) rfl rfl rfl (show _ < 6 by omega) (gq_r (g := 1) rfl rfl (by omega)) dX6_letWindowsUse_21 ?_
      refine g_getN S G 1 1 (hV 1 _ (by first | decide | (show _ < 6; omega))) (by decide) (by decide) i1 (gn_13 hF) (gvk_or (j := _) rfl rfl (by omega)) dX6_letWindowsUse_22 ?_
      refine lv_iload_n S.1 S.2.1 dX6_letWindowsUse_25 rfl (lv_at hl 1 rfl) ?_
      obtain ⟨hw1, hw6⟩ := hWk.win hlt_10 hs.2 hw
      refine g_aald S G 14 (hV 14 _ (by first | decide | (show _ < 6; omega))) rfl rfl rfl (show _ < 12 from hs.2) (gqk_r rfl rfl hw1 (by have := hs.2; omega)) dX6_letWindowsUse_26 ?_
      refine lv_astore (lv' := [(4, _), (3, _), (2, _), (1, _), (0, _)]) S.1 S.2.1 dX6_letWindowsUse_27 hl (by decide) rfl (fun ls hl => ?_)
      refine lv_aload S.1 S.2.1 dX6_letWindowsUse_29 (lv_at hl 0 rfl) ?_
      refine lv_ifnull S.1 S.2.1 dX6_letWindowsUse_31 ?_
      refine lv_aload S.1 S.2.1 dX6_letWindowsUse_34 (lv_at hl 0 rfl) ?_
      refine lv_dup S.1 S.2.1 dX6_letWindowsUse_36 rfl ?_
      refine g_getN S G 6 2 hw6 (by decide) (by decide) i6 (gn_26 hF) (gvk_i rfl rfl) dX6_letWindowsUse_37 ?_
      refine lv_aload S.1 S.2.1 dX6_letWindowsUse_40 (lv_at hl 0 rfl) ?_
      refine g_getN S G 6 0 hw6 (by decide) (by decide) i6 (gn_24 hF) (gvk_i rfl rfl) dX6_letWindowsUse_42 ?_
      refine lv_isub S.1 S.2.1 dX6_letWindowsUse_45 ?_
      refine g_putN (ty := .int) S G 6 2 hw6 (by decide) (by decide) i6 (gn_26 hF) rfl (by decide +kernel) rfl rfl (gw_i rfl) dX6_letWindowsUse_46 (fun H locs G => ?_)
      have G := gk_S rfl G
      refine lv_aload_n S.1 S.2.1 dX6_letWindowsUse_49 rfl (lv_at hl 3 rfl) ?_
      refine g_getN S G 3 5 h3 (by decide) (by decide) i3 (gn_19 hF) (gvk_or (j := _) rfl rfl (by omega)) dX6_letWindowsUse_50 ?_
      refine lv_iload_n S.1 S.2.1 dX6_letWindowsUse_53 rfl (lv_at hl 1 rfl) ?_
      refine lv_aload S.1 S.2.1 dX6_letWindowsUse_54 (lv_at hl 0 rfl) ?_
      refine g_getN S G 6 0 hw6 (by decide) (by decide) i6 (gn_24 hF) (gvk_i rfl rfl) dX6_letWindowsUse_56 ?_
      refine k_iast S G 15 h15 rfl rfl rfl rfl (show _ < 6 by omega) dX6_letWindowsUse_59 (fun H locs G => ?_)
      refine lv_aload_n S.1 S.2.1 dX6_letWindowsUse_60 rfl (lv_at hl 3 rfl) ?_
      refine lv_dup S.1 S.2.1 dX6_letWindowsUse_61 rfl ?_
      refine g_getN S G 3 7 h3 (by decide) (by decide) i3 (gn_21 hF) (gvk_i rfl rfl) dX6_letWindowsUse_62 ?_
      refine lv_aload S.1 S.2.1 dX6_letWindowsUse_65 (lv_at hl 0 rfl) ?_
      refine g_getN S G 6 0 hw6 (by decide) (by decide) i6 (gn_24 hF) (gvk_i rfl rfl) dX6_letWindowsUse_67 ?_
      refine lv_iadd S.1 S.2.1 dX6_letWindowsUse_70 ?_
      refine g_putN (ty := .int) S G 3 7 h3 (by decide) (by decide) i3 (gn_21 hF) rfl (by decide +kernel) rfl rfl (gw_i rfl) dX6_letWindowsUse_71 (fun H locs G => ?_)
      have G := gk_S rfl G
      refine lv_aload_n S.1 S.2.1 dX6_letWindowsUse_74 rfl (lv_at hl 3 rfl) ?_
      refine lv_dup S.1 S.2.1 dX6_letWindowsUse_75 rfl ?_
      refine g_getN S G 3 6 h3 (by decide) (by decide) i3 (gn_20 hF) (gvk_i rfl rfl) dX6_letWindowsUse_76 ?_
      refine lv_iconst (v := 1) S.1 S.2.1 dX6_letWindowsUse_79 (by decide) ?_
      refine lv_iadd S.1 S.2.1 dX6_letWindowsUse_80 ?_
      refine g_putN (ty := .int) S G 3 6 h3 (by decide) (by decide) i3 (gn_20 hF) rfl (by decide +kernel) rfl rfl (gw_i rfl) dX6_letWindowsUse_81 (fun H locs G => ?_)
      have G := gk_S rfl G
      refine lv_iinc (k := 1) (lv' := [(3, _), (4, _), (2, _), (1, _), (0, _)]) S.1 S.2.1 dX6_letWindowsUse_84 hl rfl (g_inc _) (by decide) rfl (fun ls hl => ?_)
      refine lv_goto (tgt := 10) S.1 S.2.1 dX6_letWindowsUse_87 (by decide) ?_
      exact ih_10 hlt_10 H locs ls (by simp only [gIt]; rw [sUse, he, if_neg hw]; exact G) (lv_sub hl [0, 2, 3, 4] rfl)
set_option maxHeartbeats 4000000 in
set_option maxRecDepth 100000 in
theorem c_X6_letStand (l : Launch) (ids : gIds) (ad : gAd) (κ : gMem) (r : Nat) (hV : cV ids) (hr80 : r < 80) (hR : cRd ids κ r)  : gMv l yX6_letStand wsX6_letStand ({ frames := 0, cells := 0, slots := 0, locals := 0 } : Room) 0 0 [.ref (ad 3 r)] (ids, ad, gk κ) (fun u => u = (ids, ad, gk (sStand κ r))) := by
  intro D aC A
  refine g_of (cc := cX6_letStand) (maxL := 1) (ret := none) (by decide +kernel) rfl (Nat.le_of_ble_eq_true rfl) ?_
  intro p e s m below meth c ls S G hF hr hlk hnm hl
  have hl : lv_has ls 1 [(0, _)] := hl
  have i3 : ∀ w ∈ wsX20, w ∈ wsX6_letStand := by decide +kernel
  have i5 : ∀ w ∈ wsX40, w ∈ wsX6_letStand := by decide +kernel
  obtain ⟨-, h3, h15, hs, -⟩ := id hR
  refine lv_aload_n S.1 S.2.1 dX6_letStand_0 rfl (lv_at hl 0 rfl) ?_
  refine lv_iconst (v := 2) S.1 S.2.1 dX6_letStand_1 (by decide) ?_
  refine g_putN (ty := .int) S G 3 3 h3 (by decide) (by decide) i3 (gn_17 hF) rfl (by decide +kernel) rfl rfl (gw_i rfl) dX6_letStand_2 (fun H locs G => ?_)
  have G := gk_S rfl G
  refine lv_aload_n S.1 S.2.1 dX6_letStand_5 rfl (lv_at hl 0 rfl) ?_
  refine g_getN S G 3 0 h3 (by decide) (by decide) i3 (gn_14 hF) (gvk_r rfl rfl hs.1 (by have := hs.2; omega)) dX6_letStand_6 ?_
  refine lv_dup S.1 S.2.1 dX6_letStand_9 rfl ?_
  refine g_getN S G 5 4 (hV 5 _ (by have := hs.2; show _ < 12; omega)) (by decide) (by decide) i5 (gn_9 hF) (gvk_i rfl rfl) dX6_letStand_10 ?_
  refine lv_aload_n S.1 S.2.1 dX6_letStand_13 rfl (lv_at hl 0 rfl) ?_
  refine g_getN S G 3 7 h3 (by decide) (by decide) i3 (gn_21 hF) (gvk_i rfl rfl) dX6_letStand_14 ?_
  refine lv_iadd S.1 S.2.1 dX6_letStand_17 ?_
  refine g_putN (ty := .int) S G 5 4 (hV 5 _ (by have := hs.2; show _ < 12; omega)) (by decide) (by decide) i5 (gn_9 hF) rfl (by decide +kernel) rfl rfl (gw_i rfl) dX6_letStand_18 (fun H locs G => ?_)
  have G := gk_S rfl G
  refine lv_aload_n S.1 S.2.1 dX6_letStand_21 rfl (lv_at hl 0 rfl) ?_
  refine lv_iconst (v := 0) S.1 S.2.1 dX6_letStand_22 (by decide) ?_
  refine g_putN (ty := .int) S G 3 7 h3 (by decide) (by decide) i3 (gn_21 hF) rfl (by decide +kernel) rfl rfl (gw_i rfl) dX6_letStand_23 (fun H locs G => ?_)
  have G := gk_S rfl G
  exact g_vret S G hr hlk (rfl) (Nat.le_of_ble_eq_true rfl) (Nat.le_of_ble_eq_true rfl) dX6_letStand_26
set_option maxHeartbeats 4000000 in
set_option maxRecDepth 100000 in
theorem c_X6_payBack (l : Launch) (ids : gIds) (ad : gAd) (κ : gMem) (r : Nat) (hV : cV ids) (hr80 : r < 80) (hR : cRd ids κ r) (h9 : ¬ κ 3 r 9 < 0)  : gMv l yX6_payBack wsX6_payBack ({ frames := 0, cells := 0, slots := 0, locals := 0 } : Room) 0 0 [.ref (ad 7 0), .ref (ad 3 r), .ref (ad 2 r)] (ids, ad, gk κ) (fun u => u = (ids, ad, gk (sBack κ r))) := by
  intro D aC A
  refine g_of (cc := cX6_payBack) (maxL := 4) (ret := none) (by decide +kernel) rfl (Nat.le_of_ble_eq_true rfl) ?_
  intro p e s m below meth c ls S G hF hr hlk hnm hl
  have hl : lv_has ls 4 [(0, _), (1, _), (2, _)] := hl
  have i1 : ∀ w ∈ wsX00, w ∈ wsX6_payBack := by decide +kernel
  have i2 : ∀ w ∈ wsX10, w ∈ wsX6_payBack := by decide +kernel
  have i3 : ∀ w ∈ wsX20, w ∈ wsX6_payBack := by decide +kernel
  have i7 : ∀ w ∈ wsX60, w ∈ wsX6_payBack := by decide +kernel
  obtain ⟨h9r, h2, h16, hc, hct⟩ := hR.ch h9
  obtain ⟨-, h3, h15, hs, -⟩ := id hR
  refine lv_iconst (v := 0) S.1 S.2.1 dX6_payBack_0 (by decide) ?_
  refine lv_istore_n (lv' := [(3, _), (0, _), (1, _), (2, _)]) S.1 S.2.1 dX6_payBack_1 rfl hl (by decide) rfl (fun ls hl => ?_)
  refine g_for (sBack1 r) 6 (fun k_2 => [(3, .int (nI k_2)), (2, .ref (ad 2 r)), (1, .ref (ad 3 r)), (0, .ref (ad 7 0))]) ?_ G (lv_sub hl [0, 3, 2, 1] rfl)
  intro k_2 H locs ls hk_2 G hl ih_2
  have hl : lv_has ls 4 [(3, _), (2, _), (1, _), (0, _)] := hl
  refine lv_iload_n S.1 S.2.1 dX6_payBack_2 rfl (lv_at hl 0 rfl) ?_
  refine lv_bipush (v := 6) S.1 S.2.1 dX6_payBack_3 (by decide) ?_
  refine lv_icmp_ge (tgt := 34) S.1 S.2.1 dX6_payBack_5 (by decide) (fun c_5 => ?_) (fun c_5 => ?_)
  · have hkN_2 : k_2 = 6 := g_exit c_5 hk_2 (by omega)
    subst hkN_2
    refine lv_aload_n S.1 S.2.1 dX6_payBack_34 rfl (lv_at hl 2 rfl) ?_
    refine lv_iconst (v := 0) S.1 S.2.1 dX6_payBack_35 (by decide) ?_
    refine g_putN (ty := .int) S G 3 7 h3 (by decide) (by decide) i3 (gn_21 hF) rfl (by decide +kernel) rfl rfl (gw_i rfl) dX6_payBack_36 (fun H locs G => ?_)
    have G := gk_S rfl G
    refine lv_aload_n S.1 S.2.1 dX6_payBack_39 rfl (lv_at hl 1 rfl) ?_
    refine g_getN S G 2 0 h2 (by decide) (by decide) i2 (gn_27 hF) (gvk_r rfl rfl ((sBack1_it_keep (by decide)).trans hc.1 : gIt (sBack1 r) 6 κ 2 r 0 = _) (by have := hc.2; omega)) dX6_payBack_40 ?_
    refine lv_dup S.1 S.2.1 dX6_payBack_43 rfl ?_
    refine g_getN S G 1 0 (hV 1 _ (by have := hc.2; show _ < 6; omega)) (by decide) (by decide) i1 (gn_12 hF) (gvk_i rfl rfl) dX6_payBack_44 ?_
    refine lv_iconst (v := 4) S.1 S.2.1 dX6_payBack_47 (by decide) ?_
    refine lv_iadd S.1 S.2.1 dX6_payBack_48 ?_
    refine g_putN (ty := .int) S G 1 0 (hV 1 _ (by have := hc.2; show _ < 6; omega)) (by decide) (by decide) i1 (gn_12 hF) rfl (by decide +kernel) rfl rfl (gw_i rfl) dX6_payBack_49 (fun H locs G => ?_)
    have G := gk_S rfl G
    exact g_vret S G hr hlk (rfl) (Nat.le_of_ble_eq_true rfl) (Nat.le_of_ble_eq_true rfl) dX6_payBack_52
  · have hlt_2 : k_2 < 6 := g_stay c_5 hk_2 (by omega)
    refine lv_aload_n S.1 S.2.1 dX6_payBack_8 rfl (lv_at hl 3 rfl) ?_
    refine g_get S G 7 2 (hV 7 _ (by first | decide | (show _ < 1; omega))) (by decide) (by decide) i7 (S.2.2.2.2 (.fieldLink RX6 23 "SensorBond" "buyers" "[LSensorBond$Buyer;") (by decide +kernel)) (gvk_or (j := 0) rfl rfl (by omega)) dX6_payBack_9 ?_
    refine lv_iload_n S.1 S.2.1 dX6_payBack_12 rfl (lv_at hl 0 rfl) ?_
    refine g_aald S G 12 (hV 12 _ (by first | decide | (show _ < 1; omega))) rfl rfl rfl (show _ < 6 by omega) (gq_r (g := 1) rfl rfl (by omega)) dX6_payBack_13 ?_
    refine lv_dup S.1 S.2.1 dX6_payBack_14 rfl ?_
    refine g_getN S G 1 0 (hV 1 _ (by first | decide | (show _ < 6; omega))) (by decide) (by decide) i1 (gn_12 hF) (gvk_i rfl rfl) dX6_payBack_15 ?_
    refine lv_aload_n S.1 S.2.1 dX6_payBack_18 rfl (lv_at hl 2 rfl) ?_
    refine g_getN S G 3 5 h3 (by decide) (by decide) i3 (gn_19 hF) (gvk_or (j := _) rfl rfl (by omega)) dX6_payBack_19 ?_
    refine lv_iload_n S.1 S.2.1 dX6_payBack_22 rfl (lv_at hl 0 rfl) ?_
    refine k_iald S G 15 h15 rfl rfl rfl rfl (show _ < 6 by omega) dX6_payBack_23 ?_
    refine lv_iadd S.1 S.2.1 dX6_payBack_24 ?_
    refine g_putN (ty := .int) S G 1 0 (hV 1 _ (by first | decide | (show _ < 6; omega))) (by decide) (by decide) i1 (gn_12 hF) rfl (by decide +kernel) rfl rfl (gw_i rfl) dX6_payBack_25 (fun H locs G => ?_)
    have G := gk_S rfl G
    refine lv_iinc (k := 0) (lv' := [(3, _), (2, _), (1, _), (0, _)]) S.1 S.2.1 dX6_payBack_28 hl rfl (g_inc _) (by decide) rfl (fun ls hl => ?_)
    refine lv_goto (tgt := 2) S.1 S.2.1 dX6_payBack_31 (by decide) ?_
    exact ih_2 hlt_2 _ _ _ G (lv_sub hl [0, 1, 2, 3] rfl)
set_option maxHeartbeats 4000000 in
set_option maxRecDepth 100000 in
theorem c_X6_payUsers (l : Launch) (ids : gIds) (ad : gAd) (κ : gMem) (r : Nat) (h : Int32) (hV : cV ids) (hr80 : r < 80) (hR : cRd ids κ r)  : gMi l yX6_payUsers wsX6_payUsers ({ frames := 0, cells := 0, slots := 0, locals := 0 } : Room) 0 0 [.ref (ad 7 0), .ref (ad 3 r), .int h] (ids, ad, gk κ) (fun q u => q = sPayA κ r h ∧ u = (ids, ad, gk (sPayK κ r h))) := by
  intro D aC A
  refine g_of (cc := cX6_payUsers) (maxL := 5) (ret := (some .int)) (by decide +kernel) rfl (Nat.le_of_ble_eq_true rfl) ?_
  intro p e s m below meth c ls S G hF hr hlk hnm hl
  have hl : lv_has ls 5 [(0, _), (1, _), (2, _)] := hl
  have i1 : ∀ w ∈ wsX00, w ∈ wsX6_payUsers := by decide +kernel
  have i3 : ∀ w ∈ wsX20, w ∈ wsX6_payUsers := by decide +kernel
  have i7 : ∀ w ∈ wsX60, w ∈ wsX6_payUsers := by decide +kernel
  obtain ⟨-, h3, h15, hs, -⟩ := id hR
  refine lv_aload_n S.1 S.2.1 dX6_payUsers_0 rfl (lv_at hl 1 rfl) ?_
  refine g_getN S G 3 6 h3 (by decide) (by decide) i3 (gn_20 hF) (gvk_i rfl rfl) dX6_payUsers_1 ?_
  refine lv_if_ne (tgt := 9) S.1 S.2.1 dX6_payUsers_4 (by decide) (fun c_4 => ?_) (fun c_4 => ?_)
  · refine lv_iload_n S.1 S.2.1 dX6_payUsers_9 rfl (lv_at hl 2 rfl) ?_
    refine lv_aload_n S.1 S.2.1 dX6_payUsers_10 rfl (lv_at hl 1 rfl) ?_
    refine g_getN S G 3 6 h3 (by decide) (by decide) i3 (gn_20 hF) (gvk_i rfl rfl) dX6_payUsers_11 ?_
    refine lv_idiv S.1 S.2.1 dX6_payUsers_14 c_4 ?_
    refine lv_istore_n (lv' := [(3, _), (0, _), (1, _), (2, _)]) S.1 S.2.1 dX6_payUsers_15 rfl hl (by decide) rfl (fun ls hl => ?_)
    refine lv_iconst (v := 0) S.1 S.2.1 dX6_payUsers_16 (by decide) ?_
    refine lv_istore (lv' := [(4, _), (3, _), (0, _), (1, _), (2, _)]) S.1 S.2.1 dX6_payUsers_17 hl (by decide) rfl (fun ls hl => ?_)
    refine g_for (sPay1 r (h / κ 3 r 6)) 6 (fun k_19 => [(4, .int (nI k_19)), (3, .int (h / κ 3 r 6)), (2, .int h), (1, .ref (ad 3 r)), (0, .ref (ad 7 0))]) ?_ G (lv_sub hl [0, 1, 4, 3, 2] rfl)
    intro k_19 H locs ls hk_19 G hl ih_19
    have hl : lv_has ls 5 [(4, _), (3, _), (2, _), (1, _), (0, _)] := hl
    refine lv_iload S.1 S.2.1 dX6_payUsers_19 (lv_at hl 0 rfl) ?_
    refine lv_bipush (v := 6) S.1 S.2.1 dX6_payUsers_21 (by decide) ?_
    refine lv_icmp_ge (tgt := 58) S.1 S.2.1 dX6_payUsers_23 (by decide) (fun c_23 => ?_) (fun c_23 => ?_)
    · have hkN_19 : k_19 = 6 := g_exit c_23 hk_19 (by omega)
      subst hkN_19
      refine lv_iload_n S.1 S.2.1 dX6_payUsers_58 rfl (lv_at hl 1 rfl) ?_
      refine lv_aload_n S.1 S.2.1 dX6_payUsers_59 rfl (lv_at hl 3 rfl) ?_
      refine g_getN S G 3 6 h3 (by decide) (by decide) i3 (gn_20 hF) (gvk_i rfl rfl) dX6_payUsers_60 ?_
      refine g_top (sPay1_it_keep (by decide)) ?_
      refine lv_imul S.1 S.2.1 dX6_payUsers_63 ?_
      exact g_iret S G hr hlk (by simp only [sPayA, sPayK, if_neg c_4, if_pos c_23]; exact ⟨trivial, trivial⟩) (Nat.le_of_ble_eq_true rfl) (Nat.le_of_ble_eq_true rfl) dX6_payUsers_64
    · have hlt_19 : k_19 < 6 := g_stay c_23 hk_19 (by omega)
      refine lv_aload_n S.1 S.2.1 dX6_payUsers_26 rfl (lv_at hl 3 rfl) ?_
      refine g_getN S G 3 5 h3 (by decide) (by decide) i3 (gn_19 hF) (gvk_or (j := _) rfl rfl (by omega)) dX6_payUsers_27 ?_
      refine lv_iload S.1 S.2.1 dX6_payUsers_30 (lv_at hl 0 rfl) ?_
      refine k_iald S G 15 h15 rfl rfl rfl rfl (show _ < 6 by omega) dX6_payUsers_32 ?_
      refine lv_if_le (tgt := 52) S.1 S.2.1 dX6_payUsers_33 (by decide) (fun c_33 => ?_) (fun c_33 => ?_)
      · refine lv_iinc (k := 0) (lv' := [(4, _), (3, _), (2, _), (1, _), (0, _)]) S.1 S.2.1 dX6_payUsers_52 hl rfl (g_inc _) (by decide) rfl (fun ls hl => ?_)
        refine lv_goto (tgt := 19) S.1 S.2.1 dX6_payUsers_55 (by decide) ?_
        exact ih_19 hlt_19 H locs ls (by simp only [gIt]; rw [sPay1, if_pos c_33]; exact G) (lv_sub hl [0, 1, 2, 3, 4] rfl)
      · refine lv_aload_n S.1 S.2.1 dX6_payUsers_36 rfl (lv_at hl 4 rfl) ?_
        refine g_get S G 7 2 (hV 7 _ (by first | decide | (show _ < 1; omega))) (by decide) (by decide) i7 (S.2.2.2.2 (.fieldLink RX6 23 "SensorBond" "buyers" "[LSensorBond$Buyer;") (by decide +kernel)) (gvk_or (j := 0) rfl rfl (by omega)) dX6_payUsers_37 ?_
        refine lv_iload S.1 S.2.1 dX6_payUsers_40 (lv_at hl 0 rfl) ?_
        refine g_aald S G 12 (hV 12 _ (by first | decide | (show _ < 1; omega))) rfl rfl rfl (show _ < 6 by omega) (gq_r (g := 1) rfl rfl (by omega)) dX6_payUsers_42 ?_
        refine lv_dup S.1 S.2.1 dX6_payUsers_43 rfl ?_
        refine g_getN S G 1 0 (hV 1 _ (by first | decide | (show _ < 6; omega))) (by decide) (by decide) i1 (gn_12 hF) (gvk_i rfl rfl) dX6_payUsers_44 ?_
        refine lv_iload_n S.1 S.2.1 dX6_payUsers_47 rfl (lv_at hl 1 rfl) ?_
        refine lv_iadd S.1 S.2.1 dX6_payUsers_48 ?_
        refine g_putN (ty := .int) S G 1 0 (hV 1 _ (by first | decide | (show _ < 6; omega))) (by decide) (by decide) i1 (gn_12 hF) rfl (by decide +kernel) rfl rfl (gw_i rfl) dX6_payUsers_49 (fun H locs G => ?_)
        have G := gk_S rfl G
        refine lv_iinc (k := 0) (lv' := [(4, _), (3, _), (2, _), (1, _), (0, _)]) S.1 S.2.1 dX6_payUsers_52 hl rfl (g_inc _) (by decide) rfl (fun ls hl => ?_)
        refine lv_goto (tgt := 19) S.1 S.2.1 dX6_payUsers_55 (by decide) ?_
        exact ih_19 hlt_19 H locs ls (by simp only [gIt]; rw [sPay1, if_neg c_33]; exact G) (lv_sub hl [0, 1, 2, 3, 4] rfl)
  · refine lv_iconst (v := 0) S.1 S.2.1 dX6_payUsers_7 (by decide) ?_
    exact g_iret S G hr hlk (by simp only [sPayA, sPayK, if_pos c_4]; exact ⟨trivial, trivial⟩) (Nat.le_of_ble_eq_true rfl) (Nat.le_of_ble_eq_true rfl) dX6_payUsers_8
set_option maxHeartbeats 4000000 in
set_option maxRecDepth 100000 in
theorem c_X6_shareCut (l : Launch) (ids : gIds) (ad : gAd) (κ : gMem) (r : Nat) (hV : cV ids) (hr80 : r < 80) (hR : cRd ids κ r) (h9 : ¬ κ 3 r 9 < 0)  : gMv l yX6_shareCut wsX6_shareCut ({ frames := 1, cells := 0, slots := 0, locals := 60 } : Room) 0 0 [.ref (ad 7 0), .ref (ad 3 r), .ref (ad 2 r)] (ids, ad, gk κ) (fun u => u = (ids, ad, gk (sShare κ r))) := by
  intro D aC A
  refine g_of (cc := cX6_shareCut) (maxL := 6) (ret := none) (by decide +kernel) rfl (Nat.le_of_ble_eq_true rfl) ?_
  intro p e s m below meth c ls S G hF hr hlk hnm hl
  have hl : lv_has ls 6 [(0, _), (1, _), (2, _)] := hl
  have i1 : ∀ w ∈ wsX00, w ∈ wsX6_shareCut := by decide +kernel
  have i2 : ∀ w ∈ wsX10, w ∈ wsX6_shareCut := by decide +kernel
  have i3 : ∀ w ∈ wsX20, w ∈ wsX6_shareCut := by decide +kernel
  have i5 : ∀ w ∈ wsX40, w ∈ wsX6_shareCut := by decide +kernel
  have i7 : ∀ w ∈ wsX60, w ∈ wsX6_shareCut := by decide +kernel
  obtain ⟨h9r, h2, h16, hc, hct⟩ := hR.ch h9
  obtain ⟨-, h3, h15, hs, -⟩ := id hR
  refine lv_aload_n S.1 S.2.1 dX6_shareCut_0 rfl (lv_at hl 1 rfl) ?_
  refine g_getN S G 3 0 h3 (by decide) (by decide) i3 (gn_14 hF) (gvk_r rfl rfl hs.1 (by have := hs.2; omega)) dX6_shareCut_1 ?_
  refine lv_astore_n (lv' := [(3, _), (0, _), (1, _), (2, _)]) S.1 S.2.1 dX6_shareCut_4 rfl hl (by decide) rfl (fun ls hl => ?_)
  refine lv_aload_n S.1 S.2.1 dX6_shareCut_5 rfl (lv_at hl 0 rfl) ?_
  refine g_getN S G 5 3 (hV 5 _ (by have := hs.2; show _ < 12; omega)) (by decide) (by decide) i5 (gn_8 hF) (gvk_i rfl rfl) dX6_shareCut_6 ?_
  refine lv_iconst (v := 4) S.1 S.2.1 dX6_shareCut_9 (by decide) ?_
  refine lv_aload_n S.1 S.2.1 dX6_shareCut_10 rfl (lv_at hl 0 rfl) ?_
  refine g_getN S G 5 2 (hV 5 _ (by have := hs.2; show _ < 12; omega)) (by decide) (by decide) i5 (gn_7 hF) (gvk_i rfl rfl) dX6_shareCut_11 ?_
  refine lv_imul S.1 S.2.1 dX6_shareCut_14 ?_
  refine lv_aload_n S.1 S.2.1 dX6_shareCut_15 rfl (lv_at hl 2 rfl) ?_
  refine g_getN S G 3 6 h3 (by decide) (by decide) i3 (gn_20 hF) (gvk_i rfl rfl) dX6_shareCut_16 ?_
  refine lv_iconst (v := 1) S.1 S.2.1 dX6_shareCut_19 (by decide) ?_
  refine lv_iadd S.1 S.2.1 dX6_shareCut_20 ?_
  refine lv_imul S.1 S.2.1 dX6_shareCut_21 ?_
  refine g_min S hl (by decide +kernel) (by decide +kernel) (by decide +kernel) (by decide +kernel) (Nat.le_of_ble_eq_true rfl) (Nat.le_of_ble_eq_true rfl) (Nat.le_of_ble_eq_true rfl) (Nat.le_of_ble_eq_true rfl) dX6_shareCut_22 ?_
  refine g_top (show _ = sCut κ r from rfl) ?_
  refine lv_istore (lv' := [(4, _), (3, _), (0, _), (1, _), (2, _)]) S.1 S.2.1 dX6_shareCut_25 hl (by decide) rfl (fun ls hl => ?_)
  refine lv_aload_n S.1 S.2.1 dX6_shareCut_27 rfl (lv_at hl 1 rfl) ?_
  refine lv_dup S.1 S.2.1 dX6_shareCut_28 rfl ?_
  refine g_getN S G 5 3 (hV 5 _ (by have := hs.2; show _ < 12; omega)) (by decide) (by decide) i5 (gn_8 hF) (gvk_i rfl rfl) dX6_shareCut_29 ?_
  refine lv_iload S.1 S.2.1 dX6_shareCut_32 (lv_at hl 0 rfl) ?_
  refine lv_isub S.1 S.2.1 dX6_shareCut_34 ?_
  refine g_putN (ty := .int) S G 5 3 (hV 5 _ (by have := hs.2; show _ < 12; omega)) (by decide) (by decide) i5 (gn_8 hF) rfl (by decide +kernel) rfl rfl (gw_i rfl) dX6_shareCut_35 (fun H locs G => ?_)
  have G := gk_S rfl G
  refine lv_aload_n S.1 S.2.1 dX6_shareCut_38 rfl (lv_at hl 3 rfl) ?_
  refine lv_iload S.1 S.2.1 dX6_shareCut_39 (lv_at hl 0 rfl) ?_
  refine g_putN (ty := .int) S G 3 8 h3 (by decide) (by decide) i3 (gn_22 hF) rfl (by decide +kernel) rfl rfl (gw_i rfl) dX6_shareCut_41 (fun H locs G => ?_)
  have G := gk_S rfl G
  refine lv_iload S.1 S.2.1 dX6_shareCut_44 (lv_at hl 0 rfl) ?_
  refine lv_iconst (v := 4) S.1 S.2.1 dX6_shareCut_46 (by decide) ?_
  refine lv_idiv S.1 S.2.1 dX6_shareCut_47 (by decide) ?_
  refine lv_istore (lv' := [(5, _), (4, _), (3, _), (0, _), (1, _), (2, _)]) S.1 S.2.1 dX6_shareCut_48 hl (by decide) rfl (fun ls hl => ?_)
  refine lv_aload_n S.1 S.2.1 dX6_shareCut_50 rfl (lv_at hl 5 rfl) ?_
  refine g_getN S G 2 0 h2 (by decide) (by decide) i2 (gn_27 hF) (gvk_r rfl rfl hc.1 (by have := hc.2; omega)) dX6_shareCut_51 ?_
  refine lv_dup S.1 S.2.1 dX6_shareCut_54 rfl ?_
  refine g_getN S G 1 0 (hV 1 _ (by have := hc.2; show _ < 6; omega)) (by decide) (by decide) i1 (gn_12 hF) (gvk_i rfl rfl) dX6_shareCut_55 ?_
  refine lv_iload S.1 S.2.1 dX6_shareCut_58 (lv_at hl 0 rfl) ?_
  refine lv_iadd S.1 S.2.1 dX6_shareCut_60 ?_
  refine g_putN (ty := .int) S G 1 0 (hV 1 _ (by have := hc.2; show _ < 6; omega)) (by decide) (by decide) i1 (gn_12 hF) rfl (by decide +kernel) rfl rfl (gw_i rfl) dX6_shareCut_61 (fun H locs G => ?_)
  have G := gk_S rfl G
  have G : gS D aC A s ids ad (gk (sShare1 κ r)) H locs := G
  refine lv_aload_n S.1 S.2.1 dX6_shareCut_64 rfl (lv_at hl 3 rfl) ?_
  refine lv_dup S.1 S.2.1 dX6_shareCut_65 rfl ?_
  refine g_get S G 7 5 (hV 7 _ (by first | decide | (show _ < 1; omega))) (by decide) (by decide) i7 (S.2.2.2.2 (.fieldLink RX6 37 "SensorBond" "house" "I") (by decide +kernel)) (gvk_i rfl rfl) dX6_shareCut_66 ?_
  refine lv_iload S.1 S.2.1 dX6_shareCut_69 (lv_at hl 1 rfl) ?_
  refine lv_iload S.1 S.2.1 dX6_shareCut_71 (lv_at hl 0 rfl) ?_
  refine lv_isub S.1 S.2.1 dX6_shareCut_73 ?_
  refine lv_aload_n S.1 S.2.1 dX6_shareCut_74 rfl (lv_at hl 3 rfl) ?_
  refine lv_aload_n S.1 S.2.1 dX6_shareCut_75 rfl (lv_at hl 4 rfl) ?_
  refine lv_iload S.1 S.2.1 dX6_shareCut_76 (lv_at hl 1 rfl) ?_
  refine lv_iconst (v := 2) S.1 S.2.1 dX6_shareCut_78 (by decide) ?_
  refine lv_idiv S.1 S.2.1 dX6_shareCut_79 (by decide) ?_
  refine g_cVi S G hF hl 7 (hV 7 _ (by first | decide | (show _ < 1; omega))) (by decide) (c_X6_payUsers l ids ad _ _ _ hV hr80 (hR.to sShare1_same)) (cwV 2 S.2.2.2.2 gX6_shareCut_X6_payUsers rfl rfl rfl (by decide +kernel) ⟨Nat.le_of_ble_eq_true rfl, Nat.le_of_ble_eq_true rfl⟩) rfl rfl (Nat.le_of_ble_eq_true rfl) dX6_shareCut_80 ⟨Nat.le_of_ble_eq_true rfl, Nat.le_of_ble_eq_true rfl⟩ (fun r_80 u_80 H locs hp_80 G => ?_)
  obtain ⟨rfl, rfl⟩ := hp_80
  have G : gS D aC A s ids ad (gk _) H locs := G
  refine lv_isub S.1 S.2.1 dX6_shareCut_83 ?_
  refine lv_iadd S.1 S.2.1 dX6_shareCut_84 ?_
  refine g_put (ty := .int) S G 7 5 (hV 7 _ (by first | decide | (show _ < 1; omega))) (by decide) (by decide) i7 (S.2.2.2.2 (.fieldLink RX6 37 "SensorBond" "house" "I") (by decide +kernel)) rfl (by decide +kernel) rfl rfl (gw_i rfl) dX6_shareCut_85 (fun H locs G => ?_)
  have G := gk_S rfl G
  exact g_vret S G hr hlk (rfl) (Nat.le_of_ble_eq_true rfl) (Nat.le_of_ble_eq_true rfl) dX6_shareCut_88
set_option maxHeartbeats 4000000 in
set_option maxRecDepth 100000 in
theorem c_X6_judge (l : Launch) (ids : gIds) (ad : gAd) (κ : gMem) (r : Nat) (hV : cV ids) (hr80 : r < 80) (hR : cRd ids κ r) (h9 : ¬ κ 3 r 9 < 0)  : gMv l yX6_judge wsX6_judge ({ frames := 2, cells := 0, slots := 0, locals := 85 } : Room) 0 0 [.ref (ad 7 0), .ref (ad 3 r), .ref (ad 2 r)] (ids, ad, gk κ) (fun u => u = (ids, ad, gk (sJudge κ r))) := by
  intro D aC A
  refine g_of (cc := cX6_judge) (maxL := 3) (ret := none) (by decide +kernel) rfl (Nat.le_of_ble_eq_true rfl) ?_
  intro p e s m below meth c ls S G hF hr hlk hnm hl
  have hl : lv_has ls 3 [(0, _), (1, _), (2, _)] := hl
  have i3 : ∀ w ∈ wsX20, w ∈ wsX6_judge := by decide +kernel
  have i5 : ∀ w ∈ wsX40, w ∈ wsX6_judge := by decide +kernel
  obtain ⟨h9r, h2, h16, hc, hct⟩ := hR.ch h9
  obtain ⟨-, h3, h15, hs, -⟩ := id hR
  refine lv_aload_n S.1 S.2.1 dX6_judge_0 rfl (lv_at hl 2 rfl) ?_
  refine lv_aload_n S.1 S.2.1 dX6_judge_1 rfl (lv_at hl 1 rfl) ?_
  refine g_getN S G 3 1 h3 (by decide) (by decide) i3 (gn_15 hF) (gvk_i rfl rfl) dX6_judge_2 ?_
  refine g_cNi S G hF hl 2 h2 (by decide) (c_X1_refutes l ids ad _ _ _ hr80 h2 h16 hct) ⟨va_cnB 1 S.2.2.2.2 gX6_judge_X1_refutes_n294 rfl rfl rfl (gm_10 hF) (S.2.2.2.2 (.initialized RX1) (by decide +kernel)) (by decide +kernel) ⟨Nat.le_of_ble_eq_true rfl, Nat.le_of_ble_eq_true rfl⟩, S.2.2.2.2 (.instanceMethod yX1_refutes) (by decide +kernel), S.2.2.2.2 (.selects RX1 yX1_refutes yX1_refutes) (by decide +kernel)⟩ rfl rfl (Nat.le_of_ble_eq_true rfl) dX6_judge_5 ⟨Nat.le_of_ble_eq_true rfl, Nat.le_of_ble_eq_true rfl⟩ (fun r_5 u_5 H locs hp_5 G => ?_)
  obtain ⟨rfl, rfl⟩ := hp_5
  have G : gS D aC A s ids ad (gk _) H locs := G
  refine lv_if_eq (tgt := 31) S.1 S.2.1 dX6_judge_8 (by decide) (fun c_8 => ?_) (fun c_8 => ?_)
  · refine lv_aload_n S.1 S.2.1 dX6_judge_31 rfl (lv_at hl 1 rfl) ?_
    refine g_getN S G 3 0 h3 (by decide) (by decide) i3 (gn_14 hF) (gvk_r rfl rfl hs.1 (by have := hs.2; omega)) dX6_judge_32 ?_
    refine lv_dup S.1 S.2.1 dX6_judge_35 rfl ?_
    refine g_getN S G 5 4 (hV 5 _ (by have := hs.2; show _ < 12; omega)) (by decide) (by decide) i5 (gn_9 hF) (gvk_i rfl rfl) dX6_judge_36 ?_
    refine lv_iconst (v := 4) S.1 S.2.1 dX6_judge_39 (by decide) ?_
    refine lv_iadd S.1 S.2.1 dX6_judge_40 ?_
    refine g_putN (ty := .int) S G 5 4 (hV 5 _ (by have := hs.2; show _ < 12; omega)) (by decide) (by decide) i5 (gn_9 hF) rfl (by decide +kernel) rfl rfl (gw_i rfl) dX6_judge_41 (fun H locs G => ?_)
    have G := gk_S rfl G
    refine lv_aload_n S.1 S.2.1 dX6_judge_44 rfl (lv_at hl 1 rfl) ?_
    refine g_cSv S G hF hl (c_X6_letStand l ids ad _ _ hV hr80 (hR.to (cSame.upd rfl))) (va_cwS 1 S.2.2.2.2 gX6_judge_X6_letStand rfl rfl rfl (by decide +kernel) ⟨Nat.le_of_ble_eq_true rfl, Nat.le_of_ble_eq_true rfl⟩) rfl rfl (Nat.le_of_ble_eq_true rfl) dX6_judge_45 ⟨Nat.le_of_ble_eq_true rfl, Nat.le_of_ble_eq_true rfl⟩ (fun u_45 H locs hp_45 G => ?_)
    obtain rfl := hp_45
    have G : gS D aC A s ids ad (gk _) H locs := G
    exact g_vret S G hr hlk (by simp only [sJudge, if_pos c_8]) (Nat.le_of_ble_eq_true rfl) (Nat.le_of_ble_eq_true rfl) dX6_judge_48
  · refine lv_aload_n S.1 S.2.1 dX6_judge_11 rfl (lv_at hl 1 rfl) ?_
    refine lv_iconst (v := 3) S.1 S.2.1 dX6_judge_12 (by decide) ?_
    refine g_putN (ty := .int) S G 3 3 h3 (by decide) (by decide) i3 (gn_17 hF) rfl (by decide +kernel) rfl rfl (gw_i rfl) dX6_judge_13 (fun H locs G => ?_)
    have G := gk_S rfl G
    refine lv_aload_n S.1 S.2.1 dX6_judge_16 rfl (lv_at hl 0 rfl) ?_
    refine lv_aload_n S.1 S.2.1 dX6_judge_17 rfl (lv_at hl 1 rfl) ?_
    refine lv_aload_n S.1 S.2.1 dX6_judge_18 rfl (lv_at hl 2 rfl) ?_
    refine g_cVv S G hF hl 7 (hV 7 _ (by first | decide | (show _ < 1; omega))) (by decide) (c_X6_payBack l ids ad _ _ hV hr80 (hR.to (cSame.upd rfl)) h9) (cwV 2 S.2.2.2.2 gX6_judge_X6_payBack rfl rfl rfl (by decide +kernel) ⟨Nat.le_of_ble_eq_true rfl, Nat.le_of_ble_eq_true rfl⟩) rfl rfl (Nat.le_of_ble_eq_true rfl) dX6_judge_19 ⟨Nat.le_of_ble_eq_true rfl, Nat.le_of_ble_eq_true rfl⟩ (fun u_19 H locs hp_19 G => ?_)
    obtain rfl := hp_19
    have G : gS D aC A s ids ad (gk _) H locs := G
    refine lv_aload_n S.1 S.2.1 dX6_judge_22 rfl (lv_at hl 0 rfl) ?_
    refine lv_aload_n S.1 S.2.1 dX6_judge_23 rfl (lv_at hl 1 rfl) ?_
    refine lv_aload_n S.1 S.2.1 dX6_judge_24 rfl (lv_at hl 2 rfl) ?_
    refine g_cVv S G hF hl 7 (hV 7 _ (by first | decide | (show _ < 1; omega))) (by decide) (c_X6_shareCut l ids ad _ _ hV hr80 ((hR.to (cSame.upd (f := 3) (i := r) (k := 3) (x := 3) rfl)).to sBack_same) (by rw [sBack_same 3 r 9 rfl]; exact h9)) (cwV 2 S.2.2.2.2 gX6_judge_X6_shareCut rfl rfl rfl (by decide +kernel) ⟨Nat.le_of_ble_eq_true rfl, Nat.le_of_ble_eq_true rfl⟩) rfl rfl (Nat.le_of_ble_eq_true rfl) dX6_judge_25 ⟨Nat.le_of_ble_eq_true rfl, Nat.le_of_ble_eq_true rfl⟩ (fun u_25 H locs hp_25 G => ?_)
    obtain rfl := hp_25
    have G : gS D aC A s ids ad (gk _) H locs := G
    refine lv_goto (tgt := 48) S.1 S.2.1 dX6_judge_28 (by decide) ?_
    exact g_vret S G hr hlk (by simp only [sJudge, if_neg c_8]) (Nat.le_of_ble_eq_true rfl) (Nat.le_of_ble_eq_true rfl) dX6_judge_48
set_option maxHeartbeats 4000000 in
set_option maxRecDepth 100000 in
theorem c_X6_settle (l : Launch) (ids : gIds) (ad : gAd) (κ : gMem) (r : Nat) (hV : cV ids) (hr80 : r < 80) (hR : cRd ids κ r)  : gMv l yX6_settle wsX6_settle ({ frames := 3, cells := 0, slots := 0, locals := 107 } : Room) 0 0 [.ref (ad 7 0), .ref (ad 3 r)] (ids, ad, gk κ) (fun u => u = (ids, ad, gk (sSettle κ r))) := by
  intro D aC A
  refine g_of (cc := cX6_settle) (maxL := 3) (ret := none) (by decide +kernel) rfl (Nat.le_of_ble_eq_true rfl) ?_
  intro p e s m below meth c ls S G hF hr hlk hnm hl
  have hl : lv_has ls 3 [(0, _), (1, _)] := hl
  have i3 : ∀ w ∈ wsX20, w ∈ wsX6_settle := by decide +kernel
  obtain ⟨-, h3, h15, hs, -⟩ := id hR
  by_cases h9 : κ 3 r 9 < 0
  · refine lv_aload_n S.1 S.2.1 dX6_settle_0 rfl (lv_at hl 1 rfl) ?_
    refine g_getN S G 3 9 h3 (by decide) (by decide) i3 (gn_23 hF) (gvk_n rfl rfl h9) dX6_settle_1 ?_
    refine lv_astore_nN (lv' := [(2, _), (0, _), (1, _)]) S.1 S.2.1 dX6_settle_4 rfl hl (by decide) rfl (fun ls hl => ?_)
    refine lv_aload_nN S.1 S.2.1 dX6_settle_5 rfl (lv_at hl 0 rfl) ?_
    refine lv_ifnonnullN S.1 S.2.1 dX6_settle_6 ?_
    refine lv_aload_n S.1 S.2.1 dX6_settle_9 rfl (lv_at hl 2 rfl) ?_
    refine g_cSv S G hF hl (c_X6_letStand l ids ad _ _ hV hr80 hR) (va_cwS 1 S.2.2.2.2 gX6_settle_X6_letStand rfl rfl rfl (by decide +kernel) ⟨Nat.le_of_ble_eq_true rfl, Nat.le_of_ble_eq_true rfl⟩) rfl rfl (Nat.le_of_ble_eq_true rfl) dX6_settle_10 ⟨Nat.le_of_ble_eq_true rfl, Nat.le_of_ble_eq_true rfl⟩ (fun u_10 H locs hp_10 G => ?_)
    obtain rfl := hp_10
    have G : gS D aC A s ids ad (gk _) H locs := G
    refine lv_goto (tgt := 22) S.1 S.2.1 dX6_settle_13 (by decide) ?_
    exact g_vret S G hr hlk (by simp only [sSettle, if_pos h9]) (Nat.le_of_ble_eq_true rfl) (Nat.le_of_ble_eq_true rfl) dX6_settle_22
  · refine lv_aload_n S.1 S.2.1 dX6_settle_0 rfl (lv_at hl 1 rfl) ?_
    refine g_getN S G 3 9 h3 (by decide) (by decide) i3 (gn_23 hF) (gvk_r rfl rfl (hR.ch h9).1 (by omega)) dX6_settle_1 ?_
    refine lv_astore_n (lv' := [(2, _), (0, _), (1, _)]) S.1 S.2.1 dX6_settle_4 rfl hl (by decide) rfl (fun ls hl => ?_)
    refine lv_aload_n S.1 S.2.1 dX6_settle_5 rfl (lv_at hl 0 rfl) ?_
    refine lv_ifnonnull (tgt := 16) S.1 S.2.1 dX6_settle_6 (by decide) ?_
    refine lv_aload_n S.1 S.2.1 dX6_settle_16 rfl (lv_at hl 1 rfl) ?_
    refine lv_aload_n S.1 S.2.1 dX6_settle_17 rfl (lv_at hl 2 rfl) ?_
    refine lv_aload_n S.1 S.2.1 dX6_settle_18 rfl (lv_at hl 0 rfl) ?_
    refine g_cVv S G hF hl 7 (hV 7 _ (by first | decide | (show _ < 1; omega))) (by decide) (c_X6_judge l ids ad _ _ hV hr80 hR h9) (cwV 2 S.2.2.2.2 gX6_settle_X6_judge rfl rfl rfl (by decide +kernel) ⟨Nat.le_of_ble_eq_true rfl, Nat.le_of_ble_eq_true rfl⟩) rfl rfl (Nat.le_of_ble_eq_true rfl) dX6_settle_19 ⟨Nat.le_of_ble_eq_true rfl, Nat.le_of_ble_eq_true rfl⟩ (fun u_19 H locs hp_19 G => ?_)
    obtain rfl := hp_19
    have G : gS D aC A s ids ad (gk _) H locs := G
    exact g_vret S G hr hlk (by simp only [sSettle, if_neg h9]) (Nat.le_of_ble_eq_true rfl) (Nat.le_of_ble_eq_true rfl) dX6_settle_22
set_option maxHeartbeats 4000000 in
set_option maxRecDepth 100000 in
theorem c_X6_closeWindows (l : Launch) (ids : gIds) (ad : gAd) (κ : gMem) (b : Nat) (w : Int32) (hb : b < 6) (hV : cV ids) (hW : cWF ids κ)  : gMv l yX6_closeWindows wsX6_closeWindows ({ frames := 0, cells := 0, slots := 0, locals := 0 } : Room) 0 0 [.ref (ad 1 b), .int w] (ids, ad, gk κ) (fun u => u = (ids, ad, gk (sClose b w κ))) := by
  intro D aC A
  refine g_of (cc := cX6_closeWindows) (maxL := 4) (ret := none) (by decide +kernel) rfl (Nat.le_of_ble_eq_true rfl) ?_
  intro p e s m below meth c ls S G hF hr hlk hnm hl
  have hl : lv_has ls 4 [(0, _), (1, _)] := hl
  have i1 : ∀ w ∈ wsX00, w ∈ wsX6_closeWindows := by decide +kernel
  have i6 : ∀ w ∈ wsX50, w ∈ wsX6_closeWindows := by decide +kernel
  refine lv_iconst (v := 0) S.1 S.2.1 dX6_closeWindows_0 (by decide) ?_
  refine lv_istore_n (lv' := [(2, _), (0, _), (1, _)]) S.1 S.2.1 dX6_closeWindows_1 rfl hl (by decide) rfl (fun ls hl => ?_)
  refine g_for (sClose1 b w) 12 (fun k_2 => [(2, .int (nI k_2)), (1, .int w), (0, .ref (ad 1 b))]) ?_ G (lv_sub hl [0, 2, 1] rfl)
  intro k_2 H locs ls hk_2 G hl ih_2
  have hl : lv_has ls 4 [(2, _), (1, _), (0, _)] := hl
  have hWk := sClose1_it_WF (b := b) (e := w) (k := k_2) hW
  refine lv_iload_n S.1 S.2.1 dX6_closeWindows_2 rfl (lv_at hl 0 rfl) ?_
  refine lv_bipush (v := 12) S.1 S.2.1 dX6_closeWindows_3 (by decide) ?_
  refine lv_icmp_ge (tgt := 53) S.1 S.2.1 dX6_closeWindows_5 (by decide) (fun c_5 => ?_) (fun c_5 => ?_)
  · have hkN_2 : k_2 = 12 := g_exit c_5 hk_2 (by omega)
    subst hkN_2
    exact g_vret S G hr hlk (rfl) (Nat.le_of_ble_eq_true rfl) (Nat.le_of_ble_eq_true rfl) dX6_closeWindows_53
  · have hlt_2 : k_2 < 12 := g_stay c_5 hk_2 (by omega)
    by_cases hw : gIt (sClose1 b w) k_2 κ 14 b k_2 < 0
    · refine lv_aload_n S.1 S.2.1 dX6_closeWindows_8 rfl (lv_at hl 2 rfl) ?_
      refine g_getN S G 1 1 (hV 1 b hb) (by decide) (by decide) i1 (gn_13 hF) (gvk_or (j := _) rfl rfl (by omega)) dX6_closeWindows_9 ?_
      refine lv_iload_n S.1 S.2.1 dX6_closeWindows_12 rfl (lv_at hl 0 rfl) ?_
      refine g_aald S G 14 (hV 14 b hb) rfl rfl rfl (show _ < 12 by omega) (gqk_n rfl hw) dX6_closeWindows_13 ?_
      refine lv_astore_nN (lv' := [(3, _), (2, _), (1, _), (0, _)]) S.1 S.2.1 dX6_closeWindows_14 rfl hl (by decide) rfl (fun ls hl => ?_)
      refine lv_aload_nN S.1 S.2.1 dX6_closeWindows_15 rfl (lv_at hl 0 rfl) ?_
      refine lv_ifnullN (tgt := 47) S.1 S.2.1 dX6_closeWindows_16 (by decide) ?_
      refine lv_iinc (k := 1) (lv' := [(2, _), (3, _), (1, _), (0, _)]) S.1 S.2.1 dX6_closeWindows_47 hl rfl (g_inc _) (by decide) rfl (fun ls hl => ?_)
      refine lv_goto (tgt := 2) S.1 S.2.1 dX6_closeWindows_50 (by decide) ?_
      exact ih_2 hlt_2 H locs ls (by simp only [gIt]; rw [sClose1, if_pos hw]; exact G) (lv_sub hl [0, 2, 3] rfl)
    · refine lv_aload_n S.1 S.2.1 dX6_closeWindows_8 rfl (lv_at hl 2 rfl) ?_
      refine g_getN S G 1 1 (hV 1 b hb) (by decide) (by decide) i1 (gn_13 hF) (gvk_or (j := _) rfl rfl (by omega)) dX6_closeWindows_9 ?_
      refine lv_iload_n S.1 S.2.1 dX6_closeWindows_12 rfl (lv_at hl 0 rfl) ?_
      obtain ⟨hw1, hw6⟩ := hWk.win hb hlt_2 hw
      refine g_aald S G 14 (hV 14 b hb) rfl rfl rfl (show _ < 12 by omega) (gqk_r rfl rfl hw1 (by omega)) dX6_closeWindows_13 ?_
      refine lv_astore_n (lv' := [(3, _), (2, _), (1, _), (0, _)]) S.1 S.2.1 dX6_closeWindows_14 rfl hl (by decide) rfl (fun ls hl => ?_)
      refine lv_aload_n S.1 S.2.1 dX6_closeWindows_15 rfl (lv_at hl 0 rfl) ?_
      refine lv_ifnull S.1 S.2.1 dX6_closeWindows_16 ?_
      refine lv_aload_n S.1 S.2.1 dX6_closeWindows_19 rfl (lv_at hl 0 rfl) ?_
      refine g_getN S G 6 1 hw6 (by decide) (by decide) i6 (gn_25 hF) (gvk_i rfl rfl) dX6_closeWindows_20 ?_
      refine lv_iload_n S.1 S.2.1 dX6_closeWindows_23 rfl (lv_at hl 2 rfl) ?_
      refine lv_icmp_gt (tgt := 47) S.1 S.2.1 dX6_closeWindows_24 (by decide) (fun c_24 => ?_) (fun c_24 => ?_)
      · refine lv_iinc (k := 1) (lv' := [(2, _), (3, _), (1, _), (0, _)]) S.1 S.2.1 dX6_closeWindows_47 hl rfl (g_inc _) (by decide) rfl (fun ls hl => ?_)
        refine lv_goto (tgt := 2) S.1 S.2.1 dX6_closeWindows_50 (by decide) ?_
        exact ih_2 hlt_2 H locs ls (by simp only [gIt]; rw [sClose1, if_neg hw, if_neg (Int32.not_le.mpr c_24)]; exact G) (lv_sub hl [0, 2, 3] rfl)
      · refine lv_aload_n S.1 S.2.1 dX6_closeWindows_27 rfl (lv_at hl 3 rfl) ?_
        refine lv_dup S.1 S.2.1 dX6_closeWindows_28 rfl ?_
        refine g_getN S G 1 0 (hV 1 b hb) (by decide) (by decide) i1 (gn_12 hF) (gvk_i rfl rfl) dX6_closeWindows_29 ?_
        refine lv_aload_n S.1 S.2.1 dX6_closeWindows_32 rfl (lv_at hl 0 rfl) ?_
        refine g_getN S G 6 2 hw6 (by decide) (by decide) i6 (gn_26 hF) (gvk_i rfl rfl) dX6_closeWindows_33 ?_
        refine lv_iadd S.1 S.2.1 dX6_closeWindows_36 ?_
        refine g_putN (ty := .int) S G 1 0 (hV 1 b hb) (by decide) (by decide) i1 (gn_12 hF) rfl (by decide +kernel) rfl rfl (gw_i rfl) dX6_closeWindows_37 (fun H locs G => ?_)
        have G := gk_S rfl G
        refine lv_aload_n S.1 S.2.1 dX6_closeWindows_40 rfl (lv_at hl 3 rfl) ?_
        refine g_getN S G 1 1 (hV 1 b hb) (by decide) (by decide) i1 (gn_13 hF) (gvk_or (j := _) rfl rfl (by omega)) dX6_closeWindows_41 ?_
        refine lv_iload_n S.1 S.2.1 dX6_closeWindows_44 rfl (lv_at hl 1 rfl) ?_
        refine lv_null S.1 S.2.1 dX6_closeWindows_45 ?_
        refine k_aastN S G 14 (hV 14 b hb) rfl rfl rfl rfl (show _ < 12 by omega) dX6_closeWindows_46 (fun H locs G => ?_)
        refine lv_iinc (k := 1) (lv' := [(2, _), (3, _), (1, _), (0, _)]) S.1 S.2.1 dX6_closeWindows_47 hl rfl (g_inc _) (by decide) rfl (fun ls hl => ?_)
        refine lv_goto (tgt := 2) S.1 S.2.1 dX6_closeWindows_50 (by decide) ?_
        exact ih_2 hlt_2 H locs ls (by simp only [gIt]; rw [sClose1, if_neg hw, if_pos (i32_nlt c_24)]; exact G) (lv_sub hl [0, 2, 3] rfl)
