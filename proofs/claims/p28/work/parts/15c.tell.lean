set_option maxHeartbeats 4000000 in
set_option maxRecDepth 100000 in
theorem c_X6_tell (l : Launch) (hlf : l.stackTraces = false) (ids : gIds) (ad : gAd) (κ : gMem) (a v : Int32) (hV : cV ids) (hW : cWF ids κ) (hI : cI ids κ)  : gXi l yX6_tell wsX6_tell ({ frames := 7, cells := 8, slots := 64, locals := 112 } : Room) 8 64 [.ref (ad 7 0), .int a, .int v] (ids, ad, gk κ) (fun q u => sTellT κ a v = 0 ∧ q = κ 7 0 4 ∧ ∃ q1 q2, u = ((ids ++ [(3, tN (κ 7 0 4))]) ++ [(15, tN (κ 7 0 4))], updA (updA ad 3 (tN (κ 7 0 4)) q1) 15 (tN (κ 7 0 4)) q2, gk (sTellK κ (tN a) (tN (κ 7 0 4)) v))) (fun E u => xE (sTellT κ a v) E ∧ u = (ids, ad, gk (κ))) := by
  intro D aC A
  refine gx_of (cc := cX6_tell) (maxL := 6) (ret := (some .int)) (by decide +kernel) rfl (Nat.le_of_ble_eq_true rfl) ?_
  intro p e s m below meth c ls S G hF hr hlk hex hl
  have hl : lv_has ls 6 [(0, _), (1, _), (2, _)] := hl
  have i3 : ∀ w ∈ wsX20, w ∈ wsX6_tell := by decide +kernel
  have i5 : ∀ w ∈ wsX40, w ∈ wsX6_tell := by decide +kernel
  have i7 : ∀ w ∈ wsX60, w ∈ wsX6_tell := by decide +kernel
  refine lv_aload_n S.1 S.2.1 dX6_tell_0 rfl (lv_at hl 0 rfl) ?_
  refine lv_iload_n S.1 S.2.1 dX6_tell_1 rfl (lv_at hl 1 rfl) ?_
  refine gx_cVr S G hF hl 7 (hV 7 _ (by first | decide | (show _ < 1; omega))) (by decide) (c_X6_sensorAt l hlf _ _ _ _ hV) (cwV 1 S.2.2.2.2 gX6_tell_X6_sensorAt rfl rfl rfl (by decide +kernel) ⟨Nat.le_of_ble_eq_true rfl, Nat.le_of_ble_eq_true rfl⟩) rfl rfl (Nat.le_of_ble_eq_true rfl) dX6_tell_2 ⟨Nat.le_of_ble_eq_true rfl, Nat.le_of_ble_eq_true rfl⟩ (gx_pass hex hlk (fun E u h => ⟨by obtain ⟨h1, rfl, -⟩ := h; exact xE1 (by simp only [sTellT, if_pos h1]), h.2.2⟩) (Nat.le_of_ble_eq_true rfl) (Nat.le_of_ble_eq_true rfl)) (fun r_2 u_2 H locs hp_2 G => ?_)
  obtain ⟨c_2, rfl, rfl⟩ := hp_2
  have G : gS D aC A s _ _ (gk _) H locs := G
  obtain ⟨hx_2, hj_2⟩ := mIn_rng (m := 11) c_2 (by decide)
  refine lv_astore_n (lv' := [(3, _), (0, _), (1, _), (2, _)]) S.1 S.2.1 dX6_tell_5 rfl hl (by decide) rfl (fun ls hl => ?_)
  refine lv_iload_n S.1 S.2.1 dX6_tell_6 rfl (lv_at hl 3 rfl) ?_
  refine lv_iconst (v := 0) S.1 S.2.1 dX6_tell_7 (by decide) ?_
  refine lv_bipush (v := 99) S.1 S.2.1 dX6_tell_8 (by decide) ?_
  refine gx_cSv S G hF hl (c_X6_checkWithin l hlf _ _ _ _ _ _) (va_cwS 3 S.2.2.2.2 gX6_tell_X6_checkWithin rfl rfl rfl (by decide +kernel) ⟨Nat.le_of_ble_eq_true rfl, Nat.le_of_ble_eq_true rfl⟩) rfl rfl (Nat.le_of_ble_eq_true rfl) dX6_tell_10 ⟨Nat.le_of_ble_eq_true rfl, Nat.le_of_ble_eq_true rfl⟩ (gx_pass hex hlk (fun E u h => ⟨by obtain ⟨h1, rfl, -⟩ := h; exact xE2 (by simp only [sTellT, if_neg c_2, if_pos h1]), h.2.2⟩) (Nat.le_of_ble_eq_true rfl) (Nat.le_of_ble_eq_true rfl)) (fun u_10 H locs hp_10 G => ?_)
  obtain ⟨c_10, rfl⟩ := hp_10
  have G : gS D aC A s _ _ (gk _) H locs := G
  refine lv_aload_n S.1 S.2.1 dX6_tell_13 rfl (lv_at hl 0 rfl) ?_
  refine g_getN S G 5 3 (hV 5 _ (by first | decide | (show _ < 12; omega))) (by decide) (by decide) i5 (gn_8 hF) (gvk_i rfl rfl) dX6_tell_14 ?_
  refine lv_bipush (v := 20) S.1 S.2.1 dX6_tell_17 (by decide) ?_
  refine lv_icmp_lt (tgt := 42) S.1 S.2.1 dX6_tell_19 (by decide) (fun c_19 => ?_) (fun c_19 => ?_)
  · exact g_throw (cls := "java/lang/IllegalStateException") (text := "the sensor can tell nothing now") S G hF hlf hlk hex hl.1 rfl (by decide +kernel) (by decide +kernel) (by decide +kernel) (by decide +kernel) (by decide +kernel) (by decide +kernel) (by decide +kernel) (by decide +kernel) dX6_tell_42 dX6_tell_45 (Or.inl ⟨dX6_tell_46, dX6_tell_48, dX6_tell_51⟩) (Nat.le_of_ble_eq_true rfl) (Nat.le_of_ble_eq_true rfl) (Nat.le_of_ble_eq_true rfl) (Nat.le_of_ble_eq_true rfl) (⟨xE3 (by simp only [sTellT, if_neg c_2, if_neg c_10, if_pos c_19]), rfl⟩) (Nat.le_of_ble_eq_true rfl) (Nat.le_of_ble_eq_true rfl)
  · refine lv_aload_n S.1 S.2.1 dX6_tell_22 rfl (lv_at hl 0 rfl) ?_
    refine g_getN S G 5 6 (hV 5 _ (by first | decide | (show _ < 12; omega))) (by decide) (by decide) i5 (gn_11 hF) (gvk_i rfl rfl) dX6_tell_23 ?_
    refine lv_aload_n S.1 S.2.1 dX6_tell_26 rfl (lv_at hl 1 rfl) ?_
    refine g_get S G 7 6 (hV 7 _ (by first | decide | (show _ < 1; omega))) (by decide) (by decide) i7 (S.2.2.2.2 (.fieldLink RX6 40 "SensorBond" "tick" "I") (by decide +kernel)) (gvk_i rfl rfl) dX6_tell_27 ?_
    refine lv_icmp_eq (tgt := 42) S.1 S.2.1 dX6_tell_30 (by decide) (fun c_30 => ?_) (fun c_30 => ?_)
    · exact g_throw (cls := "java/lang/IllegalStateException") (text := "the sensor can tell nothing now") S G hF hlf hlk hex hl.1 rfl (by decide +kernel) (by decide +kernel) (by decide +kernel) (by decide +kernel) (by decide +kernel) (by decide +kernel) (by decide +kernel) (by decide +kernel) dX6_tell_42 dX6_tell_45 (Or.inl ⟨dX6_tell_46, dX6_tell_48, dX6_tell_51⟩) (Nat.le_of_ble_eq_true rfl) (Nat.le_of_ble_eq_true rfl) (Nat.le_of_ble_eq_true rfl) (Nat.le_of_ble_eq_true rfl) (⟨xE3 (by simp only [sTellT, if_neg c_2, if_neg c_10, if_neg c_19, if_pos c_30]), rfl⟩) (Nat.le_of_ble_eq_true rfl) (Nat.le_of_ble_eq_true rfl)
    · refine lv_aload_n S.1 S.2.1 dX6_tell_33 rfl (lv_at hl 1 rfl) ?_
      refine g_get S G 7 4 (hV 7 _ (by first | decide | (show _ < 1; omega))) (by decide) (by decide) i7 (S.2.2.2.2 (.fieldLink RX6 33 "SensorBond" "readingCount" "I") (by decide +kernel)) (gvk_i rfl rfl) dX6_tell_34 ?_
      refine lv_bipush (v := 80) S.1 S.2.1 dX6_tell_37 (by decide) ?_
      refine lv_icmp_lt (tgt := 52) S.1 S.2.1 dX6_tell_39 (by decide) (fun c_39 => ?_) (fun c_39 => ?_)
      · obtain ⟨hn, hn80⟩ := hW.cnt
        have hr80 : tN (κ 7 0 4) < 80 := by
          have := (nI_ltI (show tN (κ 7 0 4) < 2 ^ 31 by omega) (show 80 < 2 ^ 31 by decide)).mp (show nI (tN (κ 7 0 4)) < nI 80 by rw [← hn]; exact c_39)
          exact this
        have hta : tN a < 12 := by omega
        have hWa : cWF ids (upd3 κ 5 (tN a) 6 (κ 7 0 6)) := hW.upd rfl
        obtain ⟨hn3, hf3⟩ := hI.free3 hW (upd3 κ 5 (tN a) 6 (κ 7 0 6)) (fun _ => rfl)
        obtain ⟨hn15, hf15⟩ := hI.free15 hW (sTell1 κ (tN a))
        have hc1 : sTell1 κ (tN a) 7 0 4 = κ 7 0 4 := sTell1_keep (by decide) (by decide)
        refine lv_aload_n S.1 S.2.1 dX6_tell_52 rfl (lv_at hl 0 rfl) ?_
        refine lv_aload_n S.1 S.2.1 dX6_tell_53 rfl (lv_at hl 1 rfl) ?_
        refine g_get S G 7 6 (hV 7 _ (by first | decide | (show _ < 1; omega))) (by decide) (by decide) i7 (S.2.2.2.2 (.fieldLink RX6 40 "SensorBond" "tick" "I") (by decide +kernel)) (gvk_i rfl rfl) dX6_tell_54 ?_
        refine g_putN (ty := .int) S G 5 6 (hV 5 _ (by first | decide | (show _ < 12; omega))) (by decide) (by decide) i5 (gn_11 hF) rfl (by decide +kernel) rfl rfl (gw_i rfl) dX6_tell_57 (fun H locs G => ?_)
        have G := gk_S rfl G
        refine g_new S G 3 (tN (κ 7 0 4)) (by decide) i3 (by decide +kernel) (by decide +kernel) (by decide +kernel) hn3 hf3 (Nat.le_of_ble_eq_true rfl) (Nat.le_of_ble_eq_true rfl) dX6_tell_60 (fun q_60 H G => ?_)
        have h3 : (3, tN (κ 7 0 4)) ∈ ids ++ [(3, tN (κ 7 0 4))] := List.mem_append_right _ List.mem_cons_self
        refine lv_dup S.1 S.2.1 dX6_tell_63 rfl ?_
        refine lv_aload_n S.1 S.2.1 dX6_tell_64 rfl (lv_at hl 0 rfl) ?_
        refine lv_iload_n S.1 S.2.1 dX6_tell_65 rfl (lv_at hl 3 rfl) ?_
        refine lv_aload_n S.1 S.2.1 dX6_tell_66 rfl (lv_at hl 0 rfl) ?_
        refine g_cSiV (f := 3) (i := (tN (κ 7 0 4))) S G hF hl (c_X6_sendParts l _ _ _ _ hta hV hWa) (va_cwS 1 S.2.2.2.2 gX6_tell_X6_sendParts rfl rfl rfl (by decide +kernel) ⟨Nat.le_of_ble_eq_true rfl, Nat.le_of_ble_eq_true rfl⟩) rfl rfl (Nat.le_of_ble_eq_true rfl) dX6_tell_67 ⟨Nat.le_of_ble_eq_true rfl, Nat.le_of_ble_eq_true rfl⟩ (fun H locs G => ?_)
        refine g_cJv S G hF hl _ (c_X2_init l _ _ _ _ _ _ _ h3 hr80 hta hn15 hf15) ⟨va_cnB 3 S.2.2.2.2 gX6_tell_X2_init_n121 rfl rfl rfl (gm_5 hF) (S.2.2.2.2 (.initialized RX2) (by decide +kernel)) (by decide +kernel) ⟨Nat.le_of_ble_eq_true rfl, Nat.le_of_ble_eq_true rfl⟩, rfl, S.2.2.2.2 (.instanceMethod yX2_init) (by decide +kernel)⟩ rfl rfl (Nat.le_of_ble_eq_true rfl) dX6_tell_70 ⟨Nat.le_of_ble_eq_true rfl, Nat.le_of_ble_eq_true rfl⟩ (fun u_70 H locs hp_70 G => ?_)
        obtain ⟨q_70, rfl⟩ := hp_70
        have h3 : (3, tN (κ 7 0 4)) ∈ (ids ++ [(3, tN (κ 7 0 4))]) ++ [(15, tN (κ 7 0 4))] := List.mem_append_left _ h3
        have hV2 : cV ((ids ++ [(3, tN (κ 7 0 4))]) ++ [(15, tN (κ 7 0 4))]) := (hV.app _).app _
        have G := G.conv (π' := gk (updR (updR (sTell1 κ (tN a)) 3 (tN (κ 7 0 4)) (sNewR (tN a) v (sSent (upd3 κ 5 (tN a) 6 (κ 7 0 6)) (tN a) 4))) 15 (tN (κ 7 0 4)) (fun _ => 0))) (by
          rintro ⟨g, jj⟩ hx k hk
          dsimp only at hk ⊢
          by_cases h0 : g = 3 ∧ jj = (tN (κ 7 0 4))
          · obtain ⟨rfl, e0⟩ := h0
            subst e0
            have hk : k < 10 := hk
            rcases (by omega : k = 0 ∨ k = 1 ∨ k = 2 ∨ k = 3 ∨ k = 4 ∨ k = 5 ∨ k = 6 ∨ k = 7 ∨ k = 8 ∨ k = 9) with rfl | rfl | rfl | rfl | rfl | rfl | rfl | rfl | rfl | rfl <;> simp [upd3, updR, gk, gOwn, sNewR]
          · by_cases h1 : g = 15 ∧ jj = (tN (κ 7 0 4))
            · obtain ⟨rfl, e1⟩ := h1
              subst e1
              simp [upd3, updR, gk, gOwn, sNewR]
            · simp only [updR_far h0, upd3_far h0, updR_far h1, upd3_far h1, gk, sTell1])
        refine lv_astore (lv' := [(4, _), (3, _), (0, _), (1, _), (2, _)]) S.1 S.2.1 dX6_tell_73 hl (by decide) rfl (fun ls hl => ?_)
        refine lv_aload_n S.1 S.2.1 dX6_tell_75 rfl (lv_at hl 2 rfl) ?_
        refine g_get S G 7 4 (hV2 7 _ (by first | decide | (show _ < 1; omega))) (by decide) (by decide) i7 (S.2.2.2.2 (.fieldLink RX6 33 "SensorBond" "readingCount" "I") (by decide +kernel)) (gvk_i rfl rfl) dX6_tell_76 ?_
        refine lv_istore (lv' := [(5, _), (4, _), (3, _), (0, _), (1, _), (2, _)]) S.1 S.2.1 dX6_tell_79 hl (by decide) rfl (fun ls hl => ?_)
        refine lv_aload_n S.1 S.2.1 dX6_tell_81 rfl (lv_at hl 3 rfl) ?_
        refine g_get S G 7 3 (hV2 7 _ (by first | decide | (show _ < 1; omega))) (by decide) (by decide) i7 (S.2.2.2.2 (.fieldLink RX6 29 "SensorBond" "readings" "[LSensorBond$Reading;") (by decide +kernel)) (gvk_or (j := 0) rfl rfl (by omega)) dX6_tell_82 ?_
        refine lv_iload S.1 S.2.1 dX6_tell_85 (lv_at hl 0 rfl) ?_
        refine lv_aload S.1 S.2.1 dX6_tell_87 (lv_at hl 1 rfl) ?_
        refine k_aast S G 13 3 (hV2 13 _ (by first | decide | (show _ < 1; omega))) h3 (by decide) (by omega) rfl rfl rfl rfl (hc1.trans hn) (show tN (κ 7 0 4) < 80 by omega) dX6_tell_89 (fun H locs G => ?_)
        refine lv_aload_n S.1 S.2.1 dX6_tell_90 rfl (lv_at hl 3 rfl) ?_
        refine lv_dup S.1 S.2.1 dX6_tell_91 rfl ?_
        refine g_get S G 7 4 (hV2 7 _ (by first | decide | (show _ < 1; omega))) (by decide) (by decide) i7 (S.2.2.2.2 (.fieldLink RX6 33 "SensorBond" "readingCount" "I") (by decide +kernel)) (gvk_i rfl rfl) dX6_tell_92 ?_
        refine lv_iconst (v := 1) S.1 S.2.1 dX6_tell_95 (by decide) ?_
        refine lv_iadd S.1 S.2.1 dX6_tell_96 ?_
        refine g_put (ty := .int) S G 7 4 (hV2 7 _ (by first | decide | (show _ < 1; omega))) (by decide) (by decide) i7 (S.2.2.2.2 (.fieldLink RX6 33 "SensorBond" "readingCount" "I") (by decide +kernel)) rfl (by decide +kernel) rfl rfl (gw_i rfl) dX6_tell_97 (fun H locs G => ?_)
        have G := gk_S rfl G
        have G : gS D aC A s _ _ (gk (sTell2 (sTell1 κ (tN a)) (tN a) (tN (κ 7 0 4)) v (sSent (upd3 κ 5 (tN a) 6 (κ 7 0 6)) (tN a) 4))) H locs := G
        refine lv_aload S.1 S.2.1 dX6_tell_100 (lv_at hl 1 rfl) ?_
        refine g_getN S G 3 3 h3 (by decide) (by decide) i3 (gn_17 hF) (gvk_i rfl rfl) dX6_tell_102 ?_
        by_cases hp3 : (sSent (upd3 κ 5 (tN a) 6 (κ 7 0 6)) (tN a) 4) < 3
        · refine g_top (show _ = (4 : Int32) by rw [sTell2, upd3_f (by decide), upd3_f (by decide), updR_far (by omega), updR_s]; simp only [sNewR, if_pos hp3]; rfl) ?_
          refine lv_if_ne (tgt := 120) S.1 S.2.1 dX6_tell_105 (by decide) (fun c_105 => ?_) (fun c_105 => ?_)
          · refine lv_iload S.1 S.2.1 dX6_tell_120 (lv_at hl 0 rfl) ?_
            refine vx_ret ?_
            exact g_iret S G hr hlk (⟨by simp only [sTellT, if_neg c_2, if_neg c_10, if_neg c_19, if_neg c_30, if_pos c_39], hc1, _, _, by simp only [sTellK, if_pos hp3]; rfl⟩) (Nat.le_of_ble_eq_true rfl) (Nat.le_of_ble_eq_true rfl) dX6_tell_122
          · exact absurd c_105 (by decide)
        · refine g_top (show _ = (0 : Int32) by rw [sTell2, upd3_f (by decide), upd3_f (by decide), updR_far (by omega), updR_s]; simp only [sNewR, if_neg hp3]; rfl) ?_
          refine lv_if_ne (tgt := 120) S.1 S.2.1 dX6_tell_105 (by decide) (fun c_105 => ?_) (fun c_105 => ?_)
          · exact absurd c_105 (by decide)
          · have hW2 := sTell2_WF (v := v) (p := (sSent (upd3 κ 5 (tN a) 6 (κ 7 0 6)) (tN a) 4)) (sTell1_WF (s := tN a) hW) (hc1.trans hn) hr80 hta
            have hW3 := hW2.to (sWait_same (r := tN (κ 7 0 4)))
            refine lv_aload_n S.1 S.2.1 dX6_tell_108 rfl (lv_at hl 3 rfl) ?_
            refine lv_aload S.1 S.2.1 dX6_tell_109 (lv_at hl 1 rfl) ?_
            refine g_cVv S G hF hl 7 (hV2 7 _ (by first | decide | (show _ < 1; omega))) (by decide) (c_X6_waitFor l _ _ _ _ hV2 h3) (cwV 1 S.2.2.2.2 gX6_tell_X6_waitFor rfl rfl rfl (by decide +kernel) ⟨Nat.le_of_ble_eq_true rfl, Nat.le_of_ble_eq_true rfl⟩) rfl rfl (Nat.le_of_ble_eq_true rfl) dX6_tell_111 ⟨Nat.le_of_ble_eq_true rfl, Nat.le_of_ble_eq_true rfl⟩ (fun u_111 H locs hp_111 G => ?_)
            obtain rfl := hp_111
            have G : gS D aC A s _ _ (gk _) H locs := G
            have hR3 := hW3.2.1 (tN (κ 7 0 4)) (by
              show tN (sTell2 (sTell1 κ (tN a)) (tN a) (tN (κ 7 0 4)) v (sSent (upd3 κ 5 (tN a) 6 (κ 7 0 6)) (tN a) 4) 7 0 4) > tN (κ 7 0 4)
              rw [sTell2, upd3_s, hc1, hn, nI_1, tN_nI (by omega), tN_nI (by omega)]
              omega)
            refine lv_aload_n S.1 S.2.1 dX6_tell_114 rfl (lv_at hl 3 rfl) ?_
            refine lv_aload S.1 S.2.1 dX6_tell_115 (lv_at hl 1 rfl) ?_
            refine g_cVv S G hF hl 7 (hV2 7 _ (by first | decide | (show _ < 1; omega))) (by decide) (c_X6_letWindowsUse l _ _ _ _ hV2 hW3 hr80 hR3) (cwV 1 S.2.2.2.2 gX6_tell_X6_letWindowsUse rfl rfl rfl (by decide +kernel) ⟨Nat.le_of_ble_eq_true rfl, Nat.le_of_ble_eq_true rfl⟩) rfl rfl (Nat.le_of_ble_eq_true rfl) dX6_tell_117 ⟨Nat.le_of_ble_eq_true rfl, Nat.le_of_ble_eq_true rfl⟩ (fun u_117 H locs hp_117 G => ?_)
            obtain rfl := hp_117
            have G : gS D aC A s _ _ (gk _) H locs := G
            refine lv_iload S.1 S.2.1 dX6_tell_120 (lv_at hl 0 rfl) ?_
            refine vx_ret ?_
            exact g_iret S G hr hlk (⟨by simp only [sTellT, if_neg c_2, if_neg c_10, if_neg c_19, if_neg c_30, if_pos c_39], hc1, _, _, by simp only [sTellK, if_neg hp3]; rfl⟩) (Nat.le_of_ble_eq_true rfl) (Nat.le_of_ble_eq_true rfl) dX6_tell_122
      · exact g_throw (cls := "java/lang/IllegalStateException") (text := "the sensor can tell nothing now") S G hF hlf hlk hex hl.1 rfl (by decide +kernel) (by decide +kernel) (by decide +kernel) (by decide +kernel) (by decide +kernel) (by decide +kernel) (by decide +kernel) (by decide +kernel) dX6_tell_42 dX6_tell_45 (Or.inl ⟨dX6_tell_46, dX6_tell_48, dX6_tell_51⟩) (Nat.le_of_ble_eq_true rfl) (Nat.le_of_ble_eq_true rfl) (Nat.le_of_ble_eq_true rfl) (Nat.le_of_ble_eq_true rfl) (⟨xE3 (by simp only [sTellT, if_neg c_2, if_neg c_10, if_neg c_19, if_neg c_30, if_neg c_39]), rfl⟩) (Nat.le_of_ble_eq_true rfl) (Nat.le_of_ble_eq_true rfl)
