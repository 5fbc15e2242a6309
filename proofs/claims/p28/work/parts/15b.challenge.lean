set_option maxHeartbeats 4000000 in
set_option maxRecDepth 100000 in
theorem c_X6_challenge (l : Launch) (hlf : l.stackTraces = false) (ids : gIds) (ad : gAd) (κ : gMem) (a x : Int32) (hV : cV ids) (hW : cWF ids κ) (hI : cI ids κ) (hfr : tN x < tN (κ 7 0 4) → κ 3 (tN x) 3 = 0 → κ 3 (tN x) 9 < 0)  : gXi l yX6_challenge wsX6_challenge ({ frames := 7, cells := 8, slots := 64, locals := 111 } : Room) 8 64 [.ref (ad 7 0), .int a, .int x] (ids, ad, gk κ) (fun q u => sChallengeT κ a x = 0 ∧ q = sNbs (nI (tN (κ 3 (tN x) 0))) 12 ∧ ∃ q1 q2, u = ((ids ++ [(2, tN x)]) ++ [(16, tN x)], updA (updA ad 2 (tN x) q1) 16 (tN x) q2, gk (sChallengeK κ (tN a) (tN x)))) (fun E u => xE (sChallengeT κ a x) E ∧ u = (ids, ad, gk (κ))) := by
  intro D aC A
  refine gx_of (cc := cX6_challenge) (maxL := 5) (ret := (some .int)) (by decide +kernel) rfl (Nat.le_of_ble_eq_true rfl) ?_
  intro p e s m below meth c ls S G hF hr hlk hex hl
  have hl : lv_has ls 5 [(0, _), (1, _), (2, _)] := hl
  have i1 : ∀ w ∈ wsX00, w ∈ wsX6_challenge := by decide +kernel
  have i2 : ∀ w ∈ wsX10, w ∈ wsX6_challenge := by decide +kernel
  have i3 : ∀ w ∈ wsX20, w ∈ wsX6_challenge := by decide +kernel
  have i5 : ∀ w ∈ wsX40, w ∈ wsX6_challenge := by decide +kernel
  refine lv_aload_n S.1 S.2.1 dX6_challenge_0 rfl (lv_at hl 0 rfl) ?_
  refine lv_iload_n S.1 S.2.1 dX6_challenge_1 rfl (lv_at hl 1 rfl) ?_
  refine gx_cVr S G hF hl 7 (hV 7 _ (by first | decide | (show _ < 1; omega))) (by decide) (c_X6_buyerAt l hlf _ _ _ _ hV) (cwV 1 S.2.2.2.2 gX6_challenge_X6_buyerAt rfl rfl rfl (by decide +kernel) ⟨Nat.le_of_ble_eq_true rfl, Nat.le_of_ble_eq_true rfl⟩) rfl rfl (Nat.le_of_ble_eq_true rfl) dX6_challenge_2 ⟨Nat.le_of_ble_eq_true rfl, Nat.le_of_ble_eq_true rfl⟩ (gx_pass hex hlk (fun E u h => ⟨by obtain ⟨h1, rfl, -⟩ := h; exact xE1 (by simp only [sChallengeT, if_pos h1]), h.2.2⟩) (Nat.le_of_ble_eq_true rfl) (Nat.le_of_ble_eq_true rfl)) (fun r_2 u_2 H locs hp_2 G => ?_)
  obtain ⟨c_2, rfl, rfl⟩ := hp_2
  have G : gS D aC A s _ _ (gk _) H locs := G
  obtain ⟨hx_2, hj_2⟩ := mIn_rng (m := 5) c_2 (by decide)
  refine lv_astore_n (lv' := [(3, _), (0, _), (1, _), (2, _)]) S.1 S.2.1 dX6_challenge_5 rfl hl (by decide) rfl (fun ls hl => ?_)
  refine lv_aload_n S.1 S.2.1 dX6_challenge_6 rfl (lv_at hl 1 rfl) ?_
  refine lv_iload_n S.1 S.2.1 dX6_challenge_7 rfl (lv_at hl 3 rfl) ?_
  refine gx_cVr S G hF hl 7 (hV 7 _ (by first | decide | (show _ < 1; omega))) (by decide) (c_X6_readingAt l hlf _ _ _ _ hV hW) (cwV 1 S.2.2.2.2 gX6_challenge_X6_readingAt rfl rfl rfl (by decide +kernel) ⟨Nat.le_of_ble_eq_true rfl, Nat.le_of_ble_eq_true rfl⟩) rfl rfl (Nat.le_of_ble_eq_true rfl) dX6_challenge_8 ⟨Nat.le_of_ble_eq_true rfl, Nat.le_of_ble_eq_true rfl⟩ (gx_pass hex hlk (fun E u h => ⟨by obtain ⟨h1, rfl, -⟩ := h; exact xE1 (by simp only [sChallengeT, if_neg c_2, if_pos h1]), h.2.2⟩) (Nat.le_of_ble_eq_true rfl) (Nat.le_of_ble_eq_true rfl)) (fun r_8 u_8 H locs hp_8 G => ?_)
  obtain ⟨c_8, rfl, rfl⟩ := hp_8
  have G : gS D aC A s _ _ (gk _) H locs := G
  obtain ⟨hn, hn80⟩ := hW.cnt
  obtain ⟨hx_8, hj_8⟩ := mIn_rd (n := tN (κ 7 0 4)) (by rw [← hn]; exact c_8) hn80
  have hR := hW.2.1 _ hj_8
  refine lv_astore (lv' := [(4, _), (3, _), (0, _), (1, _), (2, _)]) S.1 S.2.1 dX6_challenge_11 hl (by decide) rfl (fun ls hl => ?_)
  refine lv_aload S.1 S.2.1 dX6_challenge_13 (lv_at hl 0 rfl) ?_
  refine g_getN S G 3 3 hR.2.1 (by decide) (by decide) i3 (gn_17 hF) (gvk_i rfl rfl) dX6_challenge_15 ?_
  refine lv_if_ne (tgt := 29) S.1 S.2.1 dX6_challenge_18 (by decide) (fun c_18 => ?_) (fun c_18 => ?_)
  · exact g_throw (cls := "java/lang/IllegalStateException") (text := "the reading is not FRESH, or the purse of the buyer is too small") S G hF hlf hlk hex hl.1 rfl (by decide +kernel) (by decide +kernel) (by decide +kernel) (by decide +kernel) (by decide +kernel) (by decide +kernel) (by decide +kernel) (by decide +kernel) dX6_challenge_29 dX6_challenge_32 (Or.inl ⟨dX6_challenge_33, dX6_challenge_35, dX6_challenge_38⟩) (Nat.le_of_ble_eq_true rfl) (Nat.le_of_ble_eq_true rfl) (Nat.le_of_ble_eq_true rfl) (Nat.le_of_ble_eq_true rfl) (⟨xE3 (by simp only [sChallengeT, if_neg c_2, if_neg c_8, if_neg c_18]), rfl⟩) (Nat.le_of_ble_eq_true rfl) (Nat.le_of_ble_eq_true rfl)
  · refine lv_aload_n S.1 S.2.1 dX6_challenge_21 rfl (lv_at hl 1 rfl) ?_
    refine g_getN S G 1 0 (hV 1 _ (by first | decide | (show _ < 6; omega))) (by decide) (by decide) i1 (gn_12 hF) (gvk_i rfl rfl) dX6_challenge_22 ?_
    refine lv_iconst (v := 4) S.1 S.2.1 dX6_challenge_25 (by decide) ?_
    refine lv_icmp_ge (tgt := 39) S.1 S.2.1 dX6_challenge_26 (by decide) (fun c_26 => ?_) (fun c_26 => ?_)
    · have h9 := hfr hj_8 c_18
      have hr80 : tN x < 80 := by omega
      have hs := hR.2.2.2.1
      have h3 := hR.2.1
      obtain ⟨hn2, hf2⟩ := hI.free2 hW (upd3 (upd3 κ 1 (tN a) 0 (κ 1 (tN a) 0 - 4)) 3 (tN x) 3 1) hr80 h9 (fun _ => rfl)
      obtain ⟨hn16, hf16⟩ := hI.free16 hW (upd3 (upd3 κ 1 (tN a) 0 (κ 1 (tN a) 0 - 4)) 3 (tN x) 3 1) hr80 h9
      refine lv_aload_n S.1 S.2.1 dX6_challenge_39 rfl (lv_at hl 1 rfl) ?_
      refine lv_dup S.1 S.2.1 dX6_challenge_40 rfl ?_
      refine g_getN S G 1 0 (hV 1 _ (by first | decide | (show _ < 6; omega))) (by decide) (by decide) i1 (gn_12 hF) (gvk_i rfl rfl) dX6_challenge_41 ?_
      refine lv_iconst (v := 4) S.1 S.2.1 dX6_challenge_44 (by decide) ?_
      refine lv_isub S.1 S.2.1 dX6_challenge_45 ?_
      refine g_putN (ty := .int) S G 1 0 (hV 1 _ (by first | decide | (show _ < 6; omega))) (by decide) (by decide) i1 (gn_12 hF) rfl (by decide +kernel) rfl rfl (gw_i rfl) dX6_challenge_46 (fun H locs G => ?_)
      have G := gk_S rfl G
      refine lv_aload S.1 S.2.1 dX6_challenge_49 (lv_at hl 0 rfl) ?_
      refine lv_iconst (v := 1) S.1 S.2.1 dX6_challenge_51 (by decide) ?_
      refine g_putN (ty := .int) S G 3 3 hR.2.1 (by decide) (by decide) i3 (gn_17 hF) rfl (by decide +kernel) rfl rfl (gw_i rfl) dX6_challenge_52 (fun H locs G => ?_)
      have G := gk_S rfl G
      refine lv_aload S.1 S.2.1 dX6_challenge_55 (lv_at hl 0 rfl) ?_
      refine g_new S G 2 (tN x) (by decide) i2 (by decide +kernel) (by decide +kernel) (by decide +kernel) hn2 hf2 (Nat.le_of_ble_eq_true rfl) (Nat.le_of_ble_eq_true rfl) dX6_challenge_57 (fun q_57 H G => ?_)
      have h2 : (2, tN x) ∈ ids ++ [(2, tN x)] := List.mem_append_right _ List.mem_cons_self
      refine lv_dup S.1 S.2.1 dX6_challenge_60 rfl ?_
      refine lv_aload_n S.1 S.2.1 dX6_challenge_61 rfl (lv_at hl 1 rfl) ?_
      refine g_cJv S G hF hl _ (c_X1_init l _ _ _ _ _ h2 hr80 (show tN a < 6 by omega) hn16 hf16) ⟨va_cnB 1 S.2.2.2.2 gX6_challenge_X1_init_n163 rfl rfl rfl (gm_7 hF) (S.2.2.2.2 (.initialized RX1) (by decide +kernel)) (by decide +kernel) ⟨Nat.le_of_ble_eq_true rfl, Nat.le_of_ble_eq_true rfl⟩, rfl, S.2.2.2.2 (.instanceMethod yX1_init) (by decide +kernel)⟩ rfl rfl (Nat.le_of_ble_eq_true rfl) dX6_challenge_62 ⟨Nat.le_of_ble_eq_true rfl, Nat.le_of_ble_eq_true rfl⟩ (fun u_62 H locs hp_62 G => ?_)
      obtain ⟨q_62, rfl⟩ := hp_62
      have h3 : (3, tN x) ∈ (ids ++ [(2, tN x)]) ++ [(16, tN x)] := List.mem_append_left _ (List.mem_append_left _ h3)
      have hV2 : cV ((ids ++ [(2, tN x)]) ++ [(16, tN x)]) := (hV.app _).app _
      have G := G.conv (π' := gk (updR (updR (upd3 (upd3 κ 1 (tN a) 0 (κ 1 (tN a) 0 - 4)) 3 (tN x) 3 1) 2 (tN x) (sNewC (tN a))) 16 (tN x) (fun _ => 0))) (by
        rintro ⟨g, jj⟩ hx k hk
        dsimp only at hk ⊢
        by_cases h0 : g = 2 ∧ jj = (tN x)
        · obtain ⟨rfl, e0⟩ := h0
          subst e0
          have hk : k < 4 := hk
          rcases (by omega : k = 0 ∨ k = 1 ∨ k = 2 ∨ k = 3) with rfl | rfl | rfl | rfl <;> simp [upd3, updR, gk, gOwn, sNewC]
        · by_cases h1 : g = 16 ∧ jj = (tN x)
          · obtain ⟨rfl, e1⟩ := h1
            subst e1
            simp [upd3, updR, gk, gOwn, sNewC]
          · simp only [updR_far h0, upd3_far h0, updR_far h1, upd3_far h1, gk])
      refine g_putN (ty := (.object "SensorBond$Challenge")) S G 3 9 h3 (by decide) (by decide) i3 (gn_23 hF) rfl (by decide +kernel) rfl rfl (gw_r rfl (by omega)) dX6_challenge_65 (fun H locs G => ?_)
      have G := gk_S rfl G
      refine lv_aload_n S.1 S.2.1 dX6_challenge_68 rfl (lv_at hl 2 rfl) ?_
      refine lv_aload S.1 S.2.1 dX6_challenge_69 (lv_at hl 0 rfl) ?_
      refine g_cVv S G hF hl 7 (hV2 7 _ (by first | decide | (show _ < 1; omega))) (by decide) (c_X6_waitFor l _ _ _ _ hV2 h3) (cwV 1 S.2.2.2.2 gX6_challenge_X6_waitFor rfl rfl rfl (by decide +kernel) ⟨Nat.le_of_ble_eq_true rfl, Nat.le_of_ble_eq_true rfl⟩) rfl rfl (Nat.le_of_ble_eq_true rfl) dX6_challenge_71 ⟨Nat.le_of_ble_eq_true rfl, Nat.le_of_ble_eq_true rfl⟩ (fun u_71 H locs hp_71 G => ?_)
      obtain rfl := hp_71
      have G : gS D aC A s _ _ (gk _) H locs := G
      refine lv_aload S.1 S.2.1 dX6_challenge_74 (lv_at hl 0 rfl) ?_
      refine g_getN S G 3 0 h3 (by decide) (by decide) i3 (gn_14 hF) (gvk_r rfl rfl hs.1 (by have := hs.2; omega)) dX6_challenge_76 ?_
      refine g_getN S G 5 0 (hV2 5 _ hs.2) (by decide) (by decide) i5 (gn_5 hF) (gvk_oi rfl rfl) dX6_challenge_79 ?_
      refine g_cSi S G hF hl (c_X6_countNeighbours l _ _ _ _) (va_cwS 1 S.2.2.2.2 gX6_challenge_X6_countNeighbours rfl rfl rfl (by decide +kernel) ⟨Nat.le_of_ble_eq_true rfl, Nat.le_of_ble_eq_true rfl⟩) rfl rfl (Nat.le_of_ble_eq_true rfl) dX6_challenge_82 ⟨Nat.le_of_ble_eq_true rfl, Nat.le_of_ble_eq_true rfl⟩ (fun r_82 u_82 H locs hp_82 G => ?_)
      obtain ⟨rfl, rfl⟩ := hp_82
      have G : gS D aC A s _ _ (gk _) H locs := G
      refine vx_ret ?_
      exact g_iret S G hr hlk (⟨by simp only [sChallengeT, if_neg c_2, if_neg c_8, if_pos c_18, if_pos c_26], rfl, _, _, rfl⟩) (Nat.le_of_ble_eq_true rfl) (Nat.le_of_ble_eq_true rfl) dX6_challenge_85
    · exact g_throw (cls := "java/lang/IllegalStateException") (text := "the reading is not FRESH, or the purse of the buyer is too small") S G hF hlf hlk hex hl.1 rfl (by decide +kernel) (by decide +kernel) (by decide +kernel) (by decide +kernel) (by decide +kernel) (by decide +kernel) (by decide +kernel) (by decide +kernel) dX6_challenge_29 dX6_challenge_32 (Or.inl ⟨dX6_challenge_33, dX6_challenge_35, dX6_challenge_38⟩) (Nat.le_of_ble_eq_true rfl) (Nat.le_of_ble_eq_true rfl) (Nat.le_of_ble_eq_true rfl) (Nat.le_of_ble_eq_true rfl) (⟨xE3 (by simp only [sChallengeT, if_neg c_2, if_neg c_8, if_pos c_18, if_neg c_26]), rfl⟩) (Nat.le_of_ble_eq_true rfl) (Nat.le_of_ble_eq_true rfl)
