set_option maxHeartbeats 4000000 in
set_option maxRecDepth 100000 in
theorem c_X6_open (l : Launch) (hlf : l.stackTraces = false) (ids : gIds) (ad : gAd) (κ : gMem) (a b t : Int32) (hV : cV ids) (hW : cWF ids κ) (hI : cI ids κ)  : gXi l yX6_open wsX6_open ({ frames := 7, cells := 8, slots := 64, locals := 112 } : Room) 8 64 [.ref (ad 7 0), .int a, .int b, .int t] (ids, ad, gk κ) (fun q u => sOpenT κ a b t = 0 ∧ q = κ 7 0 6 + t - 1 ∧ ∃ q', u = (gDrop ids (6, 12 * tN a + tN b) ++ [(6, 12 * tN a + tN b)], updA ad 6 (12 * tN a + tN b) q', gk (sOpenK κ (tN a) (tN b) t))) (fun E u => xE (sOpenT κ a b t) E ∧ u = (ids, ad, gk (κ))) := by
  intro D aC A
  refine gx_of (cc := cX6_open) (maxL := 8) (ret := (some .int)) (by decide +kernel) rfl (Nat.le_of_ble_eq_true rfl) ?_
  intro p e s m below meth c ls S G hF hr hlk hex hl
  have hl : lv_has ls 8 [(0, _), (1, _), (2, _), (3, _)] := hl
  have i1 : ∀ w ∈ wsX00, w ∈ wsX6_open := by decide +kernel
  have i5 : ∀ w ∈ wsX40, w ∈ wsX6_open := by decide +kernel
  have i6 : ∀ w ∈ wsX50, w ∈ wsX6_open := by decide +kernel
  have i7 : ∀ w ∈ wsX60, w ∈ wsX6_open := by decide +kernel
  refine lv_aload_n S.1 S.2.1 dX6_open_0 rfl (lv_at hl 0 rfl) ?_
  refine lv_iload_n S.1 S.2.1 dX6_open_1 rfl (lv_at hl 1 rfl) ?_
  refine gx_cVr S G hF hl 7 (hV 7 _ (by first | decide | (show _ < 1; omega))) (by decide) (c_X6_buyerAt l hlf _ _ _ _ hV) (cwV 1 S.2.2.2.2 gX6_open_X6_buyerAt rfl rfl rfl (by decide +kernel) ⟨Nat.le_of_ble_eq_true rfl, Nat.le_of_ble_eq_true rfl⟩) rfl rfl (Nat.le_of_ble_eq_true rfl) dX6_open_2 ⟨Nat.le_of_ble_eq_true rfl, Nat.le_of_ble_eq_true rfl⟩ (gx_pass hex hlk (fun E u h => ⟨by obtain ⟨h1, rfl, -⟩ := h; exact xE1 (by simp only [sOpenT, if_pos h1]), h.2.2⟩) (Nat.le_of_ble_eq_true rfl) (Nat.le_of_ble_eq_true rfl)) (fun r_2 u_2 H locs hp_2 G => ?_)
  obtain ⟨c_2, rfl, rfl⟩ := hp_2
  have G : gS D aC A s _ _ (gk _) H locs := G
  obtain ⟨hx_2, hj_2⟩ := mIn_rng (m := 5) c_2 (by decide)
  refine lv_astore (lv' := [(4, _), (0, _), (1, _), (2, _), (3, _)]) S.1 S.2.1 dX6_open_5 hl (by decide) rfl (fun ls hl => ?_)
  refine lv_aload_n S.1 S.2.1 dX6_open_7 rfl (lv_at hl 1 rfl) ?_
  refine lv_iload_n S.1 S.2.1 dX6_open_8 rfl (lv_at hl 3 rfl) ?_
  refine gx_cVr S G hF hl 7 (hV 7 _ (by first | decide | (show _ < 1; omega))) (by decide) (c_X6_sensorAt l hlf _ _ _ _ hV) (cwV 1 S.2.2.2.2 gX6_open_X6_sensorAt rfl rfl rfl (by decide +kernel) ⟨Nat.le_of_ble_eq_true rfl, Nat.le_of_ble_eq_true rfl⟩) rfl rfl (Nat.le_of_ble_eq_true rfl) dX6_open_9 ⟨Nat.le_of_ble_eq_true rfl, Nat.le_of_ble_eq_true rfl⟩ (gx_pass hex hlk (fun E u h => ⟨by obtain ⟨h1, rfl, -⟩ := h; exact xE1 (by simp only [sOpenT, if_neg c_2, if_pos h1]), h.2.2⟩) (Nat.le_of_ble_eq_true rfl) (Nat.le_of_ble_eq_true rfl)) (fun r_9 u_9 H locs hp_9 G => ?_)
  obtain ⟨c_9, rfl, rfl⟩ := hp_9
  have G : gS D aC A s _ _ (gk _) H locs := G
  obtain ⟨hx_9, hj_9⟩ := mIn_rng (m := 11) c_9 (by decide)
  refine lv_astore (lv' := [(5, _), (4, _), (0, _), (1, _), (2, _), (3, _)]) S.1 S.2.1 dX6_open_12 hl (by decide) rfl (fun ls hl => ?_)
  refine lv_iload_n S.1 S.2.1 dX6_open_14 rfl (lv_at hl 5 rfl) ?_
  refine lv_iconst (v := 1) S.1 S.2.1 dX6_open_15 (by decide) ?_
  refine lv_bipush (v := 20) S.1 S.2.1 dX6_open_16 (by decide) ?_
  refine gx_cSv S G hF hl (c_X6_checkWithin l hlf _ _ _ _ _ _) (va_cwS 3 S.2.2.2.2 gX6_open_X6_checkWithin rfl rfl rfl (by decide +kernel) ⟨Nat.le_of_ble_eq_true rfl, Nat.le_of_ble_eq_true rfl⟩) rfl rfl (Nat.le_of_ble_eq_true rfl) dX6_open_18 ⟨Nat.le_of_ble_eq_true rfl, Nat.le_of_ble_eq_true rfl⟩ (gx_pass hex hlk (fun E u h => ⟨by obtain ⟨h1, rfl, -⟩ := h; exact xE2 (by simp only [sOpenT, if_neg c_2, if_neg c_9, if_pos h1]), h.2.2⟩) (Nat.le_of_ble_eq_true rfl) (Nat.le_of_ble_eq_true rfl)) (fun u_18 H locs hp_18 G => ?_)
  obtain ⟨c_18, rfl⟩ := hp_18
  have G : gS D aC A s _ _ (gk _) H locs := G
  refine lv_aload S.1 S.2.1 dX6_open_21 (lv_at hl 0 rfl) ?_
  refine g_getN S G 5 2 (hV 5 _ (by first | decide | (show _ < 12; omega))) (by decide) (by decide) i5 (gn_7 hF) (gvk_i rfl rfl) dX6_open_23 ?_
  refine lv_iload_n S.1 S.2.1 dX6_open_26 rfl (lv_at hl 5 rfl) ?_
  refine lv_imul S.1 S.2.1 dX6_open_27 ?_
  by_cases hw : κ 14 (tN a) (tN b) < 0
  · refine lv_istore (lv' := [(6, _), (5, _), (4, _), (0, _), (1, _), (2, _), (3, _)]) S.1 S.2.1 dX6_open_28 hl (by decide) rfl (fun ls hl => ?_)
    refine lv_aload S.1 S.2.1 dX6_open_30 (lv_at hl 2 rfl) ?_
    refine g_getN S G 1 1 (hV 1 _ (by first | decide | (show _ < 6; omega))) (by decide) (by decide) i1 (gn_13 hF) (gvk_or (j := _) rfl rfl (by omega)) dX6_open_32 ?_
    refine lv_iload_n S.1 S.2.1 dX6_open_35 rfl (lv_at hl 5 rfl) ?_
    refine g_aald S G 14 (hV 14 _ (by first | decide | (show _ < 6; omega))) rfl rfl hx_9 (show tN b < 12 by omega) (gqk_n rfl hw) dX6_open_36 ?_
    refine lv_ifnonnullN S.1 S.2.1 dX6_open_37 ?_
    refine lv_aload S.1 S.2.1 dX6_open_40 (lv_at hl 2 rfl) ?_
    refine g_getN S G 1 0 (hV 1 _ (by first | decide | (show _ < 6; omega))) (by decide) (by decide) i1 (gn_12 hF) (gvk_i rfl rfl) dX6_open_42 ?_
    refine lv_iload S.1 S.2.1 dX6_open_45 (lv_at hl 0 rfl) ?_
    refine lv_icmp_ge (tgt := 60) S.1 S.2.1 dX6_open_47 (by decide) (fun c_47 => ?_) (fun c_47 => ?_)
    · refine lv_aload_n S.1 S.2.1 dX6_open_60 rfl (lv_at hl 3 rfl) ?_
      refine g_get S G 7 6 (hV 7 _ (by first | decide | (show _ < 1; omega))) (by decide) (by decide) i7 (S.2.2.2.2 (.fieldLink RX6 40 "SensorBond" "tick" "I") (by decide +kernel)) (gvk_i rfl rfl) dX6_open_61 ?_
      refine lv_iload_n S.1 S.2.1 dX6_open_64 rfl (lv_at hl 6 rfl) ?_
      refine lv_iadd S.1 S.2.1 dX6_open_65 ?_
      refine lv_iconst (v := 1) S.1 S.2.1 dX6_open_66 (by decide) ?_
      refine lv_isub S.1 S.2.1 dX6_open_67 ?_
      refine lv_istore (lv' := [(7, _), (6, _), (5, _), (4, _), (0, _), (1, _), (2, _), (3, _)]) S.1 S.2.1 dX6_open_68 hl (by decide) rfl (fun ls hl => ?_)
      obtain ⟨hn6, hf6⟩ := hI.free6 hW (upd3 κ 1 (tN a) 0 (κ 1 (tN a) 0 - κ 5 (tN b) 2 * t)) (show tN a < 6 by omega) (show tN b < 12 by omega) hw (fun _ _ => rfl)
      refine lv_aload S.1 S.2.1 dX6_open_70 (lv_at hl 3 rfl) ?_
      refine lv_dup S.1 S.2.1 dX6_open_72 rfl ?_
      refine g_getN S G 1 0 (hV 1 _ (by first | decide | (show _ < 6; omega))) (by decide) (by decide) i1 (gn_12 hF) (gvk_i rfl rfl) dX6_open_73 ?_
      refine lv_iload S.1 S.2.1 dX6_open_76 (lv_at hl 1 rfl) ?_
      refine lv_isub S.1 S.2.1 dX6_open_78 ?_
      refine g_putN (ty := .int) S G 1 0 (hV 1 _ (by first | decide | (show _ < 6; omega))) (by decide) (by decide) i1 (gn_12 hF) rfl (by decide +kernel) rfl rfl (gw_i rfl) dX6_open_79 (fun H locs G => ?_)
      have G := gk_S rfl G
      refine lv_aload S.1 S.2.1 dX6_open_82 (lv_at hl 3 rfl) ?_
      refine g_getN S G 1 1 (hV 1 _ (by first | decide | (show _ < 6; omega))) (by decide) (by decide) i1 (gn_13 hF) (gvk_or (j := _) rfl rfl (by omega)) dX6_open_84 ?_
      refine lv_iload_n S.1 S.2.1 dX6_open_87 rfl (lv_at hl 6 rfl) ?_
      have G := G.drop (6, 12 * tN a + tN b)
      have hVd : cV (gDrop ids (6, 12 * tN a + tN b)) := hV.drop
      refine g_new S G 6 (12 * tN a + tN b) (by decide) i6 (by decide +kernel) (by decide +kernel) (by decide +kernel) hn6 hf6 (Nat.le_of_ble_eq_true rfl) (Nat.le_of_ble_eq_true rfl) dX6_open_88 (fun q_88 H G => ?_)
      have h6 : (6, 12 * tN a + tN b) ∈ gDrop ids (6, 12 * tN a + tN b) ++ [(6, 12 * tN a + tN b)] := List.mem_append_right _ List.mem_cons_self
      have hV2 : cV (gDrop ids (6, 12 * tN a + tN b) ++ [(6, 12 * tN a + tN b)]) := hVd.app _
      refine lv_dup S.1 S.2.1 dX6_open_91 rfl ?_
      refine lv_aload S.1 S.2.1 dX6_open_92 (lv_at hl 2 rfl) ?_
      refine g_getN S G 5 2 (hV2 5 _ (by first | decide | (show _ < 12; omega))) (by decide) (by decide) i5 (gn_7 hF) (gvk_i rfl rfl) dX6_open_94 ?_
      refine lv_iload S.1 S.2.1 dX6_open_97 (lv_at hl 1 rfl) ?_
      refine lv_iload S.1 S.2.1 dX6_open_99 (lv_at hl 0 rfl) ?_
      refine g_cJv S G hF hl _ (c_X5_init l _ _ _ _ _ _ _ h6) ⟨va_cnB 3 S.2.2.2.2 gX6_open_X5_init_n147 rfl rfl rfl (gm_6 hF) (S.2.2.2.2 (.initialized RX5) (by decide +kernel)) (by decide +kernel) ⟨Nat.le_of_ble_eq_true rfl, Nat.le_of_ble_eq_true rfl⟩, rfl, S.2.2.2.2 (.instanceMethod yX5_init) (by decide +kernel)⟩ rfl rfl (Nat.le_of_ble_eq_true rfl) dX6_open_101 ⟨Nat.le_of_ble_eq_true rfl, Nat.le_of_ble_eq_true rfl⟩ (fun u_101 H locs hp_101 G => ?_)
      obtain rfl := hp_101
      have G := G.conv (π' := gk (updR (upd3 κ 1 (tN a) 0 (κ 1 (tN a) 0 - κ 5 (tN b) 2 * t)) 6 (12 * tN a + tN b) (sNewW (κ 5 (tN b) 2) (κ 7 0 6 + t - 1) (κ 5 (tN b) 2 * t)))) (by
        rintro ⟨g, jj⟩ hx k hk
        dsimp only at hk ⊢
        by_cases h0 : g = 6 ∧ jj = (12 * tN a + tN b)
        · obtain ⟨rfl, e0⟩ := h0
          subst e0
          have hk : k < 3 := hk
          rcases (by omega : k = 0 ∨ k = 1 ∨ k = 2) with rfl | rfl | rfl <;> simp [upd3, updR, gk, gOwn, sNewW]
        · simp only [updR_far h0, upd3_far h0, gk])
      refine k_aast S G 14 6 (hV2 14 _ (by first | decide | (show _ < 6; omega))) h6 (by decide) (by omega) rfl rfl rfl rfl hx_9 (show tN b < 12 by omega) dX6_open_104 (fun H locs G => ?_)
      refine lv_aload_n S.1 S.2.1 dX6_open_105 rfl (lv_at hl 4 rfl) ?_
      refine lv_aload_n S.1 S.2.1 dX6_open_106 rfl (lv_at hl 4 rfl) ?_
      refine g_get S G 7 7 (hV2 7 _ (by first | decide | (show _ < 1; omega))) (by decide) (by decide) i7 (S.2.2.2.2 (.fieldLink RX6 43 "SensorBond" "busyUntil" "I") (by decide +kernel)) (gvk_i rfl rfl) dX6_open_107 ?_
      refine lv_iload S.1 S.2.1 dX6_open_110 (lv_at hl 0 rfl) ?_
      refine g_max S hl (by decide +kernel) (by decide +kernel) (by decide +kernel) (by decide +kernel) (Nat.le_of_ble_eq_true rfl) (Nat.le_of_ble_eq_true rfl) (Nat.le_of_ble_eq_true rfl) (Nat.le_of_ble_eq_true rfl) dX6_open_112 ?_
      refine g_put (ty := .int) S G 7 7 (hV2 7 _ (by first | decide | (show _ < 1; omega))) (by decide) (by decide) i7 (S.2.2.2.2 (.fieldLink RX6 43 "SensorBond" "busyUntil" "I") (by decide +kernel)) rfl (by decide +kernel) rfl rfl (gw_i rfl) dX6_open_115 (fun H locs G => ?_)
      have G := gk_S rfl G
      refine lv_iload S.1 S.2.1 dX6_open_118 (lv_at hl 0 rfl) ?_
      refine vx_ret ?_
      exact g_iret S G hr hlk (⟨by simp only [sOpenT, if_neg c_2, if_neg c_9, if_neg c_18, if_pos hw, if_pos c_47], rfl, _, rfl⟩) (Nat.le_of_ble_eq_true rfl) (Nat.le_of_ble_eq_true rfl) dX6_open_120
    · exact g_throw (cls := "java/lang/IllegalStateException") (text := "the buyer has a window on the sensor, or its purse is too small") S G hF hlf hlk hex hl.1 rfl (by decide +kernel) (by decide +kernel) (by decide +kernel) (by decide +kernel) (by decide +kernel) (by decide +kernel) (by decide +kernel) (by decide +kernel) dX6_open_50 dX6_open_53 (Or.inl ⟨dX6_open_54, dX6_open_56, dX6_open_59⟩) (Nat.le_of_ble_eq_true rfl) (Nat.le_of_ble_eq_true rfl) (Nat.le_of_ble_eq_true rfl) (Nat.le_of_ble_eq_true rfl) (⟨xE3 (by simp only [sOpenT, if_neg c_2, if_neg c_9, if_neg c_18, if_pos hw, if_neg c_47]), rfl⟩) (Nat.le_of_ble_eq_true rfl) (Nat.le_of_ble_eq_true rfl)
  · obtain ⟨hw1, hw6⟩ := hW.win (show tN a < 6 by omega) (show tN b < 12 by omega) hw
    refine lv_istore (lv' := [(6, _), (5, _), (4, _), (0, _), (1, _), (2, _), (3, _)]) S.1 S.2.1 dX6_open_28 hl (by decide) rfl (fun ls hl => ?_)
    refine lv_aload S.1 S.2.1 dX6_open_30 (lv_at hl 2 rfl) ?_
    refine g_getN S G 1 1 (hV 1 _ (by first | decide | (show _ < 6; omega))) (by decide) (by decide) i1 (gn_13 hF) (gvk_or (j := _) rfl rfl (by omega)) dX6_open_32 ?_
    refine lv_iload_n S.1 S.2.1 dX6_open_35 rfl (lv_at hl 5 rfl) ?_
    refine g_aald S G 14 (hV 14 _ (by first | decide | (show _ < 6; omega))) rfl rfl hx_9 (show tN b < 12 by omega) (gqk_r rfl rfl hw1 (by omega)) dX6_open_36 ?_
    refine lv_ifnonnull (tgt := 50) S.1 S.2.1 dX6_open_37 (by decide) ?_
    exact g_throw (cls := "java/lang/IllegalStateException") (text := "the buyer has a window on the sensor, or its purse is too small") S G hF hlf hlk hex hl.1 rfl (by decide +kernel) (by decide +kernel) (by decide +kernel) (by decide +kernel) (by decide +kernel) (by decide +kernel) (by decide +kernel) (by decide +kernel) dX6_open_50 dX6_open_53 (Or.inl ⟨dX6_open_54, dX6_open_56, dX6_open_59⟩) (Nat.le_of_ble_eq_true rfl) (Nat.le_of_ble_eq_true rfl) (Nat.le_of_ble_eq_true rfl) (Nat.le_of_ble_eq_true rfl) (⟨xE3 (by simp only [sOpenT, if_neg c_2, if_neg c_9, if_neg c_18, if_neg hw]), rfl⟩) (Nat.le_of_ble_eq_true rfl) (Nat.le_of_ble_eq_true rfl)
