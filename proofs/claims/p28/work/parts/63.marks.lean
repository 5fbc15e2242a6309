/-! ===== the law's checks: marks ===== -/
set_option maxHeartbeats 4000000 in
set_option maxRecDepth 100000 in
theorem c_L_areMarks (l : Launch) (ids : gIds) (ad : gAd) (κ : gMem) (N B : Nat) (J : PL N B ids κ) (hN : N ≤ 62)  : gMi l yL_areMarks wsL_areMarks ({ frames := 2, cells := 0, slots := 0, locals := 45 } : Room) 0 0 [.ref (ad 7 0), .ref (ad 20 0), .ref (ad 21 0)] (ids, ad, gk κ) (fun q u => q = 1 ∧ u = (ids, ad, gk (κ))) := by
  intro D aC A
  refine g_of (cc := cL_areMarks) (maxL := 7) (ret := (some .boolean)) (by decide +kernel) rfl (Nat.le_of_ble_eq_true rfl) ?_
  intro p e s m below meth c ls S G hF hr hlk hnm hl
  have hl : lv_has ls 7 [(0, _), (1, _), (2, _)] := hl
  have hV := J.1.1
  have hW := J.1.2.1
  obtain ⟨h20, h21, h22⟩ := J.2.2.1
  obtain ⟨hn, hn80⟩ := hW.cnt
  have hc0 := J.2.1.1
  have hc1 := J.2.1.2.1
  have hvs : ∀ r, r < tN (κ 7 0 4) → κ 20 0 r &&& 15 = nI (tN (κ 3 r 0)) ∧ tN (κ 3 r 0) < 12 := fun r hr => by
    obtain ⟨s, v, S, P, U, st, τ, b1, b2, b3, b4, b5, b6, b7, b8, b9, b10, b11, b12, b13, b14, b15⟩ := J.rd hr
    rw [b14, b9, tN_nI (by omega)]
    exact ⟨enc_s (by omega) (by omega) (by omega) (by omega), b1⟩
  have hN6 := J.2.2.2.1
  refine lv_iconst (v := 1) S.1 S.2.1 dL_areMarks_0 (by decide) ?_
  refine lv_istore_n (lv' := [(3, _), (0, _), (1, _), (2, _)]) S.1 S.2.1 dL_areMarks_1 rfl hl (by decide) rfl (fun ls hl => ?_)
  refine lv_iconst (v := 0) S.1 S.2.1 dL_areMarks_2 (by decide) ?_
  refine lv_istore (lv' := [(4, _), (3, _), (0, _), (1, _), (2, _)]) S.1 S.2.1 dL_areMarks_3 hl (by decide) rfl (fun ls hl => ?_)
  refine g_forg 12 (fun k_5 => [(4, .int (nI k_5)), (3, .int 1), (2, .ref (ad 21 0)), (1, .ref (ad 20 0)), (0, .ref (ad 7 0))]) ?_ G (lv_sub hl [0, 1, 4, 3, 2] rfl)
  intro k_5 H locs ls hk_5 G hl ih_5
  have hl : lv_has ls 7 [(4, _), (3, _), (2, _), (1, _), (0, _)] := hl
  refine lv_iload S.1 S.2.1 dL_areMarks_5 (lv_at hl 0 rfl) ?_
  refine lv_bipush (v := 12) S.1 S.2.1 dL_areMarks_7 (by decide) ?_
  refine lv_icmp_ge (tgt := 110) S.1 S.2.1 dL_areMarks_9 (by decide) (fun c_9 => ?_) (fun c_9 => ?_)
  · have hkN_5 : k_5 = 12 := g_exit c_9 hk_5 (by omega)
    subst hkN_5
    refine lv_iload_n S.1 S.2.1 dL_areMarks_110 rfl (lv_at hl 1 rfl) ?_
    exact g_zret S G hr hlk (by decide) (⟨rfl, rfl⟩) (Nat.le_of_ble_eq_true rfl) (Nat.le_of_ble_eq_true rfl) dL_areMarks_111
  · have hlt_5 : k_5 < 12 := g_stay c_9 hk_5 (by omega)
    refine lv_iload_n S.1 S.2.1 dL_areMarks_12 rfl (lv_at hl 1 rfl) ?_
    refine lv_if_eq (tgt := 110) S.1 S.2.1 dL_areMarks_13 (by decide) (fun c_13 => ?_) (fun c_13 => ?_)
    · exact absurd c_13 (by decide)
    · refine lv_iconst (v := 0) S.1 S.2.1 dL_areMarks_16 (by decide) ?_
      refine lv_istore (lv' := [(5, _), (4, _), (3, _), (2, _), (1, _), (0, _)]) S.1 S.2.1 dL_areMarks_17 hl (by decide) rfl (fun ls hl => ?_)
      refine lv_iconst (v := 0) S.1 S.2.1 dL_areMarks_19 (by decide) ?_
      refine lv_istore (lv' := [(6, _), (5, _), (4, _), (3, _), (2, _), (1, _), (0, _)]) S.1 S.2.1 dL_areMarks_20 hl (by decide) rfl (fun ls hl => ?_)
      refine g_forg (tN (κ 7 0 4)) (fun k_22 => [(6, .int (nI k_22)), (5, .int (sMark κ k_5 k_22)), (4, .int (nI k_5)), (3, .int 1), (2, .ref (ad 21 0)), (1, .ref (ad 20 0)), (0, .ref (ad 7 0))]) ?_ G (lv_sub hl [0, 1, 2, 3, 4, 5, 6] rfl)
      intro k_22 H locs ls hk_22 G hl ih_22
      have hl : lv_has ls 7 [(6, _), (5, _), (4, _), (3, _), (2, _), (1, _), (0, _)] := hl
      refine lv_iload S.1 S.2.1 dL_areMarks_22 (lv_at hl 0 rfl) ?_
      refine lv_aload_n S.1 S.2.1 dL_areMarks_24 rfl (lv_at hl 4 rfl) ?_
      refine lv_iconst (v := 1) S.1 S.2.1 dL_areMarks_25 (by decide) ?_
      refine k_iald S G 21 h21 rfl rfl rfl rfl (show 1 < 2 by decide) dL_areMarks_26 ?_
      refine g_top (hc1.trans hn) ?_
      refine lv_icmp_ge (tgt := 87) S.1 S.2.1 dL_areMarks_27 (by decide) (fun c_27 => ?_) (fun c_27 => ?_)
      · have hkN_22 : k_22 = (tN (κ 7 0 4)) := g_exit c_27 hk_22 (by omega)
        subst hkN_22
        refine lv_aload_n S.1 S.2.1 dL_areMarks_87 rfl (lv_at hl 6 rfl) ?_
        refine lv_iload S.1 S.2.1 dL_areMarks_88 (lv_at hl 2 rfl) ?_
        refine g_cVi S G hF hl 7 (hV 7 _ (by first | decide | (show _ < 1; omega))) (by decide) (c_X6_markk l ids ad _ _ hV hW hlt_5) (cwV 1 S.2.2.2.2 gL_areMarks_X6_mark rfl rfl rfl (by decide +kernel) ⟨Nat.le_of_ble_eq_true rfl, Nat.le_of_ble_eq_true rfl⟩) rfl rfl (Nat.le_of_ble_eq_true rfl) dL_areMarks_90 ⟨Nat.le_of_ble_eq_true rfl, Nat.le_of_ble_eq_true rfl⟩ (fun r_90 u_90 H locs hp_90 G => ?_)
        obtain ⟨rfl, rfl⟩ := hp_90
        have G : gS D aC A s ids ad (gk _) H locs := G
        refine lv_iload S.1 S.2.1 dL_areMarks_93 (lv_at hl 1 rfl) ?_
        refine lv_icmp_ne (tgt := 102) S.1 S.2.1 dL_areMarks_95 (by decide) (fun c_95 => ?_) (fun c_95 => ?_)
        · exact absurd rfl c_95
        · refine lv_iconst (v := 1) S.1 S.2.1 dL_areMarks_98 (by decide) ?_
          refine lv_goto (tgt := 103) S.1 S.2.1 dL_areMarks_99 (by decide) ?_
          refine lv_istore_n (lv' := [(3, _), (6, _), (5, _), (4, _), (2, _), (1, _), (0, _)]) S.1 S.2.1 dL_areMarks_103 rfl hl (by decide) rfl (fun ls hl => ?_)
          refine lv_iinc (k := 3) (lv' := [(4, _), (3, _), (6, _), (5, _), (2, _), (1, _), (0, _)]) S.1 S.2.1 dL_areMarks_104 hl rfl (g_inc _) (by decide) rfl (fun ls hl => ?_)
          refine lv_goto (tgt := 5) S.1 S.2.1 dL_areMarks_107 (by decide) ?_
          exact ih_5 hlt_5 _ _ _ G (lv_sub hl [0, 1, 4, 5, 6] rfl)
      · have hlt_22 : k_22 < (tN (κ 7 0 4)) := g_stay c_27 hk_22 (by omega)
        refine lv_iload S.1 S.2.1 dL_areMarks_30 (lv_at hl 1 rfl) ?_
        refine lv_aload_n S.1 S.2.1 dL_areMarks_32 rfl (lv_at hl 5 rfl) ?_
        refine lv_iload S.1 S.2.1 dL_areMarks_33 (lv_at hl 0 rfl) ?_
        refine k_iald S G 20 h20 rfl rfl rfl rfl (show _ < 64 by omega) dL_areMarks_35 ?_
        refine lv_bipush (v := 15) S.1 S.2.1 dL_areMarks_36 (by decide) ?_
        refine lv_iand S.1 S.2.1 dL_areMarks_38 ?_
        refine g_top (hvs _ hlt_22).1 ?_
        refine lv_iload S.1 S.2.1 dL_areMarks_39 (lv_at hl 2 rfl) ?_
        refine lv_icmp_eq (tgt := 48) S.1 S.2.1 dL_areMarks_41 (by decide) (fun c_41 => ?_) (fun c_41 => ?_)
        · have h12 := (hvs _ hlt_22).2
          refine lv_aload_n S.1 S.2.1 dL_areMarks_48 rfl (lv_at hl 6 rfl) ?_
          refine lv_iload S.1 S.2.1 dL_areMarks_49 (lv_at hl 0 rfl) ?_
          refine g_cVi S G hF hl 7 (hV 7 _ (by first | decide | (show _ < 1; omega))) (by decide) (c_X6_stateOfk l ids ad _ _ hV hW hlt_22) (cwV 1 S.2.2.2.2 gL_areMarks_X6_stateOf rfl rfl rfl (by decide +kernel) ⟨Nat.le_of_ble_eq_true rfl, Nat.le_of_ble_eq_true rfl⟩) rfl rfl (Nat.le_of_ble_eq_true rfl) dL_areMarks_51 ⟨Nat.le_of_ble_eq_true rfl, Nat.le_of_ble_eq_true rfl⟩ (fun r_51 u_51 H locs hp_51 G => ?_)
          obtain ⟨rfl, rfl⟩ := hp_51
          have G : gS D aC A s ids ad (gk _) H locs := G
          refine lv_iconst (v := 2) S.1 S.2.1 dL_areMarks_54 (by decide) ?_
          refine lv_icmp_ne (tgt := 62) S.1 S.2.1 dL_areMarks_55 (by decide) (fun c_55 => ?_) (fun c_55 => ?_)
          · refine lv_aload_n S.1 S.2.1 dL_areMarks_62 rfl (lv_at hl 6 rfl) ?_
            refine lv_iload S.1 S.2.1 dL_areMarks_63 (lv_at hl 0 rfl) ?_
            refine g_cVi S G hF hl 7 (hV 7 _ (by first | decide | (show _ < 1; omega))) (by decide) (c_X6_stateOfk l ids ad _ _ hV hW hlt_22) (cwV 1 S.2.2.2.2 gL_areMarks_X6_stateOf rfl rfl rfl (by decide +kernel) ⟨Nat.le_of_ble_eq_true rfl, Nat.le_of_ble_eq_true rfl⟩) rfl rfl (Nat.le_of_ble_eq_true rfl) dL_areMarks_65 ⟨Nat.le_of_ble_eq_true rfl, Nat.le_of_ble_eq_true rfl⟩ (fun r_65 u_65 H locs hp_65 G => ?_)
            obtain ⟨rfl, rfl⟩ := hp_65
            have G : gS D aC A s ids ad (gk _) H locs := G
            refine lv_iconst (v := 3) S.1 S.2.1 dL_areMarks_68 (by decide) ?_
            refine lv_icmp_ne (tgt := 77) S.1 S.2.1 dL_areMarks_69 (by decide) (fun c_69 => ?_) (fun c_69 => ?_)
            · refine lv_iconst (v := 0) S.1 S.2.1 dL_areMarks_77 (by decide) ?_
              refine lv_iadd S.1 S.2.1 dL_areMarks_78 ?_
              refine lv_istore (lv' := [(5, _), (6, _), (4, _), (3, _), (2, _), (1, _), (0, _)]) S.1 S.2.1 dL_areMarks_79 hl (by decide) rfl (fun ls hl => ?_)
              refine lv_iinc (k := 1) (lv' := [(6, _), (5, _), (4, _), (3, _), (2, _), (1, _), (0, _)]) S.1 S.2.1 dL_areMarks_81 hl rfl (g_inc _) (by decide) rfl (fun ls hl => ?_)
              refine lv_goto (tgt := 22) S.1 S.2.1 dL_areMarks_84 (by decide) ?_
              have es : tN (κ 3 k_22 0) = k_5 := nI_inj (by rw [← c_41]) (by omega) (by omega)
              have e : sMark κ k_5 (k_22 + 1) = sMark κ k_5 k_22 + 0 := by rw [sMark, if_pos es, sWeight, if_neg c_55, if_neg c_69]
              exact ih_22 hlt_22 _ _ _ G (by rw [e]; exact lv_sub hl [0, 1, 2, 3, 4, 5, 6] rfl)
            · refine lv_bipush (v := (-3)) S.1 S.2.1 dL_areMarks_72 (by decide) ?_
              refine lv_goto (tgt := 78) S.1 S.2.1 dL_areMarks_74 (by decide) ?_
              refine lv_iadd S.1 S.2.1 dL_areMarks_78 ?_
              refine lv_istore (lv' := [(5, _), (6, _), (4, _), (3, _), (2, _), (1, _), (0, _)]) S.1 S.2.1 dL_areMarks_79 hl (by decide) rfl (fun ls hl => ?_)
              refine lv_iinc (k := 1) (lv' := [(6, _), (5, _), (4, _), (3, _), (2, _), (1, _), (0, _)]) S.1 S.2.1 dL_areMarks_81 hl rfl (g_inc _) (by decide) rfl (fun ls hl => ?_)
              refine lv_goto (tgt := 22) S.1 S.2.1 dL_areMarks_84 (by decide) ?_
              have es : tN (κ 3 k_22 0) = k_5 := nI_inj (by rw [← c_41]) (by omega) (by omega)
              have e : sMark κ k_5 (k_22 + 1) = sMark κ k_5 k_22 + (-3) := by rw [sMark, if_pos es, sWeight, if_neg c_55, if_pos c_69]
              exact ih_22 hlt_22 _ _ _ G (by rw [e]; exact lv_sub hl [0, 1, 2, 3, 4, 5, 6] rfl)
          · refine lv_iconst (v := 1) S.1 S.2.1 dL_areMarks_58 (by decide) ?_
            refine lv_goto (tgt := 78) S.1 S.2.1 dL_areMarks_59 (by decide) ?_
            refine lv_iadd S.1 S.2.1 dL_areMarks_78 ?_
            refine lv_istore (lv' := [(5, _), (6, _), (4, _), (3, _), (2, _), (1, _), (0, _)]) S.1 S.2.1 dL_areMarks_79 hl (by decide) rfl (fun ls hl => ?_)
            refine lv_iinc (k := 1) (lv' := [(6, _), (5, _), (4, _), (3, _), (2, _), (1, _), (0, _)]) S.1 S.2.1 dL_areMarks_81 hl rfl (g_inc _) (by decide) rfl (fun ls hl => ?_)
            refine lv_goto (tgt := 22) S.1 S.2.1 dL_areMarks_84 (by decide) ?_
            have es : tN (κ 3 k_22 0) = k_5 := nI_inj (by rw [← c_41]) (by omega) (by omega)
            have e : sMark κ k_5 (k_22 + 1) = sMark κ k_5 k_22 + 1 := by rw [sMark, if_pos es, sWeight, if_pos c_55]
            exact ih_22 hlt_22 _ _ _ G (by rw [e]; exact lv_sub hl [0, 1, 2, 3, 4, 5, 6] rfl)
        · have h12 := (hvs _ hlt_22).2
          refine lv_iconst (v := 0) S.1 S.2.1 dL_areMarks_44 (by decide) ?_
          refine lv_goto (tgt := 78) S.1 S.2.1 dL_areMarks_45 (by decide) ?_
          refine lv_iadd S.1 S.2.1 dL_areMarks_78 ?_
          refine lv_istore (lv' := [(5, _), (6, _), (4, _), (3, _), (2, _), (1, _), (0, _)]) S.1 S.2.1 dL_areMarks_79 hl (by decide) rfl (fun ls hl => ?_)
          refine lv_iinc (k := 1) (lv' := [(6, _), (5, _), (4, _), (3, _), (2, _), (1, _), (0, _)]) S.1 S.2.1 dL_areMarks_81 hl rfl (g_inc _) (by decide) rfl (fun ls hl => ?_)
          refine lv_goto (tgt := 22) S.1 S.2.1 dL_areMarks_84 (by decide) ?_
          have es : ¬ tN (κ 3 k_22 0) = k_5 := fun z => c_41 (by rw [z])
          have e : sMark κ k_5 (k_22 + 1) = sMark κ k_5 k_22 + 0 := by rw [sMark, if_neg es, Int32.add_zero]
          exact ih_22 hlt_22 _ _ _ G (by rw [e]; exact lv_sub hl [0, 1, 2, 3, 4, 5, 6] rfl)
