set_option maxHeartbeats 4000000 in
set_option maxRecDepth 100000 in
theorem c_X7_tell (l : Launch) (ids : gIds) (ad : gAd) (κ : gMem) (a v : Int32) (hV : mV ids) (hW : mWF κ)  : gMi l yX7_tell wsX7_tell ({ frames := 2, cells := 0, slots := 0, locals := 42 } : Room) 0 0 [.ref (ad 8 0), .int a, .int v] (ids, ad, gk κ) (fun r u => r = (if mTellT κ a v = 0 then κ 8 0 16 else 0) ∧ u = (ids, ad, gk (if mTellT κ a v = 0 then mTellK (mCan κ 0) a (tN (κ 8 0 16)) v else mCan κ (mTellT κ a v)))) := by
  intro D aC A
  refine g_of (cc := cX7_tell) (maxL := 8) (ret := (some .int)) (by decide +kernel) rfl (Nat.le_of_ble_eq_true rfl) ?_
  intro p e s m below meth c ls S G hF hr hlk hnm hl
  have hl : lv_has ls 8 [(0, _), (1, _), (2, _)] := hl
  have i8 : ∀ w ∈ wsX70, w ∈ wsX7_tell := by decide +kernel
  refine lv_iload_n S.1 S.2.1 dX7_tell_0 rfl (lv_at hl 1 rfl) ?_
  refine g_cSi S G hF hl (c_X7_isSensor l ids ad _ _) (va_cwS 1 S.2.2.2.2 gX7_tell_X7_isSensor rfl rfl rfl (by decide +kernel) ⟨Nat.le_of_ble_eq_true rfl, Nat.le_of_ble_eq_true rfl⟩) rfl rfl (Nat.le_of_ble_eq_true rfl) dX7_tell_1 ⟨Nat.le_of_ble_eq_true rfl, Nat.le_of_ble_eq_true rfl⟩ (fun r_1 u_1 H locs hp_1 G => ?_)
  obtain ⟨rfl, rfl⟩ := hp_1
  have G : gS D aC A s ids ad (gk _) H locs := G
  refine lv_istore_n (lv' := [(3, _), (0, _), (1, _), (2, _)]) S.1 S.2.1 dX7_tell_4 rfl hl (by decide) rfl (fun ls hl => ?_)
  refine lv_iload_n S.1 S.2.1 dX7_tell_5 rfl (lv_at hl 0 rfl) ?_
  refine lv_if_eq (tgt := 46) S.1 S.2.1 dX7_tell_6 (by decide) (fun c_6 => ?_) (fun c_6 => ?_)
  · refine lv_iconst (v := 0) S.1 S.2.1 dX7_tell_46 (by decide) ?_
    have hB : mBad κ a = 0 := by simp only [mBad, if_pos c_6]
    refine lv_istore (lv' := [(4, _), (3, _), (0, _), (1, _), (2, _)]) S.1 S.2.1 dX7_tell_47 hl (by decide) rfl (fun ls hl => ?_)
    refine lv_aload_n S.1 S.2.1 dX7_tell_49 rfl (lv_at hl 2 rfl) ?_
    refine lv_iload_n S.1 S.2.1 dX7_tell_50 rfl (lv_at hl 1 rfl) ?_
    refine lv_if_ne (tgt := 58) S.1 S.2.1 dX7_tell_51 (by decide) (fun c_51 => ?_) (fun c_51 => ?_)
    · exact absurd c_6 c_51
    · refine lv_iconst (v := 1) S.1 S.2.1 dX7_tell_54 (by decide) ?_
      refine lv_goto (tgt := 79) S.1 S.2.1 dX7_tell_55 (by decide) ?_
      have hT : mTellT κ a v = 1 := by simp only [mTellT, hB, if_pos c_6] <;> decide
      refine g_cVi S G hF hl 8 (hV 8 _ (by first | decide | (show _ < 1; omega))) (by decide) (c_X7_can l ids ad _ _ hV) (cwV 1 S.2.2.2.2 gX7_tell_X7_can rfl rfl rfl (by decide +kernel) ⟨Nat.le_of_ble_eq_true rfl, Nat.le_of_ble_eq_true rfl⟩) rfl rfl (Nat.le_of_ble_eq_true rfl) dX7_tell_79 ⟨Nat.le_of_ble_eq_true rfl, Nat.le_of_ble_eq_true rfl⟩ (fun r_79 u_79 H locs hp_79 G => ?_)
      obtain ⟨rfl, rfl⟩ := hp_79
      have G : gS D aC A s ids ad (gk _) H locs := G
      refine lv_if_ne (tgt := 87) S.1 S.2.1 dX7_tell_82 (by decide) (fun c_82 => ?_) (fun c_82 => ?_)
      · exact absurd c_82 (by decide)
      · refine lv_iconst (v := 0) S.1 S.2.1 dX7_tell_85 (by decide) ?_
        exact g_iret S G hr hlk (by rw [hT]; exact ⟨(if_neg (by decide)).symm, congrArg (fun z => (ids, ad, gk z)) (if_neg (by decide)).symm⟩) (Nat.le_of_ble_eq_true rfl) (Nat.le_of_ble_eq_true rfl) dX7_tell_86
  · obtain ⟨ha1, ha2⟩ := mIn_rng (m := 11) c_6 (by decide)
    refine lv_aload_n S.1 S.2.1 dX7_tell_9 rfl (lv_at hl 1 rfl) ?_
    refine g_get S G 8 6 (hV 8 _ (by first | decide | (show _ < 1; omega))) (by decide) (by decide) i8 (S.2.2.2.2 (.fieldLink RX7 25 "SensorBondModel" "bond" "[I") (by decide +kernel)) (gvk_or (j := 0) rfl rfl (by omega)) dX7_tell_10 ?_
    refine lv_iload_n S.1 S.2.1 dX7_tell_13 rfl (lv_at hl 2 rfl) ?_
    refine k_iald S G 26 (hV 26 _ (by first | decide | (show _ < 1; omega))) rfl rfl rfl ha1 (show tN a < 12 by omega) dX7_tell_14 ?_
    refine lv_bipush (v := 20) S.1 S.2.1 dX7_tell_15 (by decide) ?_
    refine lv_icmp_lt (tgt := 42) S.1 S.2.1 dX7_tell_17 (by decide) (fun c_17 => ?_) (fun c_17 => ?_)
    · refine lv_iconst (v := 1) S.1 S.2.1 dX7_tell_42 (by decide) ?_
      refine lv_goto (tgt := 47) S.1 S.2.1 dX7_tell_43 (by decide) ?_
      have hB : mBad κ a = 1 := by simp only [mBad, if_neg c_6, if_pos c_17]
      refine lv_istore (lv' := [(4, _), (3, _), (0, _), (1, _), (2, _)]) S.1 S.2.1 dX7_tell_47 hl (by decide) rfl (fun ls hl => ?_)
      refine lv_aload_n S.1 S.2.1 dX7_tell_49 rfl (lv_at hl 2 rfl) ?_
      refine lv_iload_n S.1 S.2.1 dX7_tell_50 rfl (lv_at hl 1 rfl) ?_
      refine lv_if_ne (tgt := 58) S.1 S.2.1 dX7_tell_51 (by decide) (fun c_51 => ?_) (fun c_51 => ?_)
      · refine lv_iload_n S.1 S.2.1 dX7_tell_58 rfl (lv_at hl 4 rfl) ?_
        refine g_cSi S G hF hl (c_X7_isValue l ids ad _ _) (va_cwS 1 S.2.2.2.2 gX7_tell_X7_isValue rfl rfl rfl (by decide +kernel) ⟨Nat.le_of_ble_eq_true rfl, Nat.le_of_ble_eq_true rfl⟩) rfl rfl (Nat.le_of_ble_eq_true rfl) dX7_tell_59 ⟨Nat.le_of_ble_eq_true rfl, Nat.le_of_ble_eq_true rfl⟩ (fun r_59 u_59 H locs hp_59 G => ?_)
        obtain ⟨rfl, rfl⟩ := hp_59
        have G : gS D aC A s ids ad (gk _) H locs := G
        refine lv_if_ne (tgt := 69) S.1 S.2.1 dX7_tell_62 (by decide) (fun c_62 => ?_) (fun c_62 => ?_)
        · refine lv_iload S.1 S.2.1 dX7_tell_69 (lv_at hl 0 rfl) ?_
          refine lv_if_eq (tgt := 78) S.1 S.2.1 dX7_tell_71 (by decide) (fun c_71 => ?_) (fun c_71 => ?_)
          · exact absurd c_71 (by decide)
          · refine lv_iconst (v := 3) S.1 S.2.1 dX7_tell_74 (by decide) ?_
            refine lv_goto (tgt := 79) S.1 S.2.1 dX7_tell_75 (by decide) ?_
            have hT : mTellT κ a v = 3 := by simp only [mTellT, hB, if_neg c_6, if_pos c_17, if_neg c_62] <;> decide
            refine g_cVi S G hF hl 8 (hV 8 _ (by first | decide | (show _ < 1; omega))) (by decide) (c_X7_can l ids ad _ _ hV) (cwV 1 S.2.2.2.2 gX7_tell_X7_can rfl rfl rfl (by decide +kernel) ⟨Nat.le_of_ble_eq_true rfl, Nat.le_of_ble_eq_true rfl⟩) rfl rfl (Nat.le_of_ble_eq_true rfl) dX7_tell_79 ⟨Nat.le_of_ble_eq_true rfl, Nat.le_of_ble_eq_true rfl⟩ (fun r_79 u_79 H locs hp_79 G => ?_)
            obtain ⟨rfl, rfl⟩ := hp_79
            have G : gS D aC A s ids ad (gk _) H locs := G
            refine lv_if_ne (tgt := 87) S.1 S.2.1 dX7_tell_82 (by decide) (fun c_82 => ?_) (fun c_82 => ?_)
            · exact absurd c_82 (by decide)
            · refine lv_iconst (v := 0) S.1 S.2.1 dX7_tell_85 (by decide) ?_
              exact g_iret S G hr hlk (by rw [hT]; exact ⟨(if_neg (by decide)).symm, congrArg (fun z => (ids, ad, gk z)) (if_neg (by decide)).symm⟩) (Nat.le_of_ble_eq_true rfl) (Nat.le_of_ble_eq_true rfl) dX7_tell_86
        · refine lv_iconst (v := 2) S.1 S.2.1 dX7_tell_65 (by decide) ?_
          refine lv_goto (tgt := 79) S.1 S.2.1 dX7_tell_66 (by decide) ?_
          have hT : mTellT κ a v = 2 := by simp only [mTellT, hB, if_neg c_6, if_pos c_17, if_pos c_62] <;> decide
          refine g_cVi S G hF hl 8 (hV 8 _ (by first | decide | (show _ < 1; omega))) (by decide) (c_X7_can l ids ad _ _ hV) (cwV 1 S.2.2.2.2 gX7_tell_X7_can rfl rfl rfl (by decide +kernel) ⟨Nat.le_of_ble_eq_true rfl, Nat.le_of_ble_eq_true rfl⟩) rfl rfl (Nat.le_of_ble_eq_true rfl) dX7_tell_79 ⟨Nat.le_of_ble_eq_true rfl, Nat.le_of_ble_eq_true rfl⟩ (fun r_79 u_79 H locs hp_79 G => ?_)
          obtain ⟨rfl, rfl⟩ := hp_79
          have G : gS D aC A s ids ad (gk _) H locs := G
          refine lv_if_ne (tgt := 87) S.1 S.2.1 dX7_tell_82 (by decide) (fun c_82 => ?_) (fun c_82 => ?_)
          · exact absurd c_82 (by decide)
          · refine lv_iconst (v := 0) S.1 S.2.1 dX7_tell_85 (by decide) ?_
            exact g_iret S G hr hlk (by rw [hT]; exact ⟨(if_neg (by decide)).symm, congrArg (fun z => (ids, ad, gk z)) (if_neg (by decide)).symm⟩) (Nat.le_of_ble_eq_true rfl) (Nat.le_of_ble_eq_true rfl) dX7_tell_86
      · exact absurd c_51 c_6
    · refine lv_aload_n S.1 S.2.1 dX7_tell_20 rfl (lv_at hl 1 rfl) ?_
      refine g_get S G 8 9 (hV 8 _ (by first | decide | (show _ < 1; omega))) (by decide) (by decide) i8 (S.2.2.2.2 (.fieldLink RX7 34 "SensorBondModel" "toldIn" "[I") (by decide +kernel)) (gvk_or (j := 0) rfl rfl (by omega)) dX7_tell_21 ?_
      refine lv_iload_n S.1 S.2.1 dX7_tell_24 rfl (lv_at hl 2 rfl) ?_
      refine k_iald S G 29 (hV 29 _ (by first | decide | (show _ < 1; omega))) rfl rfl rfl ha1 (show tN a < 12 by omega) dX7_tell_25 ?_
      refine lv_aload_n S.1 S.2.1 dX7_tell_26 rfl (lv_at hl 1 rfl) ?_
      refine g_get S G 8 0 (hV 8 _ (by first | decide | (show _ < 1; omega))) (by decide) (by decide) i8 (S.2.2.2.2 (.fieldLink RX7 109 "SensorBondModel" "tick" "I") (by decide +kernel)) (gvk_i rfl rfl) dX7_tell_27 ?_
      refine lv_icmp_eq (tgt := 42) S.1 S.2.1 dX7_tell_30 (by decide) (fun c_30 => ?_) (fun c_30 => ?_)
      · refine lv_iconst (v := 1) S.1 S.2.1 dX7_tell_42 (by decide) ?_
        refine lv_goto (tgt := 47) S.1 S.2.1 dX7_tell_43 (by decide) ?_
        have hB : mBad κ a = 1 := by simp only [mBad, if_neg c_6, if_neg c_17, if_pos c_30]
        refine lv_istore (lv' := [(4, _), (3, _), (0, _), (1, _), (2, _)]) S.1 S.2.1 dX7_tell_47 hl (by decide) rfl (fun ls hl => ?_)
        refine lv_aload_n S.1 S.2.1 dX7_tell_49 rfl (lv_at hl 2 rfl) ?_
        refine lv_iload_n S.1 S.2.1 dX7_tell_50 rfl (lv_at hl 1 rfl) ?_
        refine lv_if_ne (tgt := 58) S.1 S.2.1 dX7_tell_51 (by decide) (fun c_51 => ?_) (fun c_51 => ?_)
        · refine lv_iload_n S.1 S.2.1 dX7_tell_58 rfl (lv_at hl 4 rfl) ?_
          refine g_cSi S G hF hl (c_X7_isValue l ids ad _ _) (va_cwS 1 S.2.2.2.2 gX7_tell_X7_isValue rfl rfl rfl (by decide +kernel) ⟨Nat.le_of_ble_eq_true rfl, Nat.le_of_ble_eq_true rfl⟩) rfl rfl (Nat.le_of_ble_eq_true rfl) dX7_tell_59 ⟨Nat.le_of_ble_eq_true rfl, Nat.le_of_ble_eq_true rfl⟩ (fun r_59 u_59 H locs hp_59 G => ?_)
          obtain ⟨rfl, rfl⟩ := hp_59
          have G : gS D aC A s ids ad (gk _) H locs := G
          refine lv_if_ne (tgt := 69) S.1 S.2.1 dX7_tell_62 (by decide) (fun c_62 => ?_) (fun c_62 => ?_)
          · refine lv_iload S.1 S.2.1 dX7_tell_69 (lv_at hl 0 rfl) ?_
            refine lv_if_eq (tgt := 78) S.1 S.2.1 dX7_tell_71 (by decide) (fun c_71 => ?_) (fun c_71 => ?_)
            · exact absurd c_71 (by decide)
            · refine lv_iconst (v := 3) S.1 S.2.1 dX7_tell_74 (by decide) ?_
              refine lv_goto (tgt := 79) S.1 S.2.1 dX7_tell_75 (by decide) ?_
              have hT : mTellT κ a v = 3 := by simp only [mTellT, hB, if_neg c_6, if_neg c_17, if_pos c_30, if_neg c_62] <;> decide
              refine g_cVi S G hF hl 8 (hV 8 _ (by first | decide | (show _ < 1; omega))) (by decide) (c_X7_can l ids ad _ _ hV) (cwV 1 S.2.2.2.2 gX7_tell_X7_can rfl rfl rfl (by decide +kernel) ⟨Nat.le_of_ble_eq_true rfl, Nat.le_of_ble_eq_true rfl⟩) rfl rfl (Nat.le_of_ble_eq_true rfl) dX7_tell_79 ⟨Nat.le_of_ble_eq_true rfl, Nat.le_of_ble_eq_true rfl⟩ (fun r_79 u_79 H locs hp_79 G => ?_)
              obtain ⟨rfl, rfl⟩ := hp_79
              have G : gS D aC A s ids ad (gk _) H locs := G
              refine lv_if_ne (tgt := 87) S.1 S.2.1 dX7_tell_82 (by decide) (fun c_82 => ?_) (fun c_82 => ?_)
              · exact absurd c_82 (by decide)
              · refine lv_iconst (v := 0) S.1 S.2.1 dX7_tell_85 (by decide) ?_
                exact g_iret S G hr hlk (by rw [hT]; exact ⟨(if_neg (by decide)).symm, congrArg (fun z => (ids, ad, gk z)) (if_neg (by decide)).symm⟩) (Nat.le_of_ble_eq_true rfl) (Nat.le_of_ble_eq_true rfl) dX7_tell_86
          · refine lv_iconst (v := 2) S.1 S.2.1 dX7_tell_65 (by decide) ?_
            refine lv_goto (tgt := 79) S.1 S.2.1 dX7_tell_66 (by decide) ?_
            have hT : mTellT κ a v = 2 := by simp only [mTellT, hB, if_neg c_6, if_neg c_17, if_pos c_30, if_pos c_62] <;> decide
            refine g_cVi S G hF hl 8 (hV 8 _ (by first | decide | (show _ < 1; omega))) (by decide) (c_X7_can l ids ad _ _ hV) (cwV 1 S.2.2.2.2 gX7_tell_X7_can rfl rfl rfl (by decide +kernel) ⟨Nat.le_of_ble_eq_true rfl, Nat.le_of_ble_eq_true rfl⟩) rfl rfl (Nat.le_of_ble_eq_true rfl) dX7_tell_79 ⟨Nat.le_of_ble_eq_true rfl, Nat.le_of_ble_eq_true rfl⟩ (fun r_79 u_79 H locs hp_79 G => ?_)
            obtain ⟨rfl, rfl⟩ := hp_79
            have G : gS D aC A s ids ad (gk _) H locs := G
            refine lv_if_ne (tgt := 87) S.1 S.2.1 dX7_tell_82 (by decide) (fun c_82 => ?_) (fun c_82 => ?_)
            · exact absurd c_82 (by decide)
            · refine lv_iconst (v := 0) S.1 S.2.1 dX7_tell_85 (by decide) ?_
              exact g_iret S G hr hlk (by rw [hT]; exact ⟨(if_neg (by decide)).symm, congrArg (fun z => (ids, ad, gk z)) (if_neg (by decide)).symm⟩) (Nat.le_of_ble_eq_true rfl) (Nat.le_of_ble_eq_true rfl) dX7_tell_86
        · exact absurd c_51 c_6
      · refine lv_aload_n S.1 S.2.1 dX7_tell_33 rfl (lv_at hl 1 rfl) ?_
        refine g_get S G 8 16 (hV 8 _ (by first | decide | (show _ < 1; omega))) (by decide) (by decide) i8 (S.2.2.2.2 (.fieldLink RX7 88 "SensorBondModel" "readings" "I") (by decide +kernel)) (gvk_i rfl rfl) dX7_tell_34 ?_
        refine lv_bipush (v := 80) S.1 S.2.1 dX7_tell_37 (by decide) ?_
        refine lv_icmp_ne (tgt := 46) S.1 S.2.1 dX7_tell_39 (by decide) (fun c_39 => ?_) (fun c_39 => ?_)
        · refine lv_iconst (v := 0) S.1 S.2.1 dX7_tell_46 (by decide) ?_
          have hB : mBad κ a = 0 := by simp only [mBad, if_neg c_6, if_neg c_17, if_neg c_30, if_neg c_39]
          refine lv_istore (lv' := [(4, _), (3, _), (0, _), (1, _), (2, _)]) S.1 S.2.1 dX7_tell_47 hl (by decide) rfl (fun ls hl => ?_)
          refine lv_aload_n S.1 S.2.1 dX7_tell_49 rfl (lv_at hl 2 rfl) ?_
          refine lv_iload_n S.1 S.2.1 dX7_tell_50 rfl (lv_at hl 1 rfl) ?_
          refine lv_if_ne (tgt := 58) S.1 S.2.1 dX7_tell_51 (by decide) (fun c_51 => ?_) (fun c_51 => ?_)
          · refine lv_iload_n S.1 S.2.1 dX7_tell_58 rfl (lv_at hl 4 rfl) ?_
            refine g_cSi S G hF hl (c_X7_isValue l ids ad _ _) (va_cwS 1 S.2.2.2.2 gX7_tell_X7_isValue rfl rfl rfl (by decide +kernel) ⟨Nat.le_of_ble_eq_true rfl, Nat.le_of_ble_eq_true rfl⟩) rfl rfl (Nat.le_of_ble_eq_true rfl) dX7_tell_59 ⟨Nat.le_of_ble_eq_true rfl, Nat.le_of_ble_eq_true rfl⟩ (fun r_59 u_59 H locs hp_59 G => ?_)
            obtain ⟨rfl, rfl⟩ := hp_59
            have G : gS D aC A s ids ad (gk _) H locs := G
            refine lv_if_ne (tgt := 69) S.1 S.2.1 dX7_tell_62 (by decide) (fun c_62 => ?_) (fun c_62 => ?_)
            · refine lv_iload S.1 S.2.1 dX7_tell_69 (lv_at hl 0 rfl) ?_
              refine lv_if_eq (tgt := 78) S.1 S.2.1 dX7_tell_71 (by decide) (fun c_71 => ?_) (fun c_71 => ?_)
              · refine lv_iconst (v := 0) S.1 S.2.1 dX7_tell_78 (by decide) ?_
                have hT : mTellT κ a v = 0 := by simp only [mTellT, hB, if_neg c_6, if_neg c_17, if_neg c_30, if_neg c_39, if_neg c_62] <;> decide
                refine g_cVi S G hF hl 8 (hV 8 _ (by first | decide | (show _ < 1; omega))) (by decide) (c_X7_can l ids ad _ _ hV) (cwV 1 S.2.2.2.2 gX7_tell_X7_can rfl rfl rfl (by decide +kernel) ⟨Nat.le_of_ble_eq_true rfl, Nat.le_of_ble_eq_true rfl⟩) rfl rfl (Nat.le_of_ble_eq_true rfl) dX7_tell_79 ⟨Nat.le_of_ble_eq_true rfl, Nat.le_of_ble_eq_true rfl⟩ (fun r_79 u_79 H locs hp_79 G => ?_)
                obtain ⟨rfl, rfl⟩ := hp_79
                have G : gS D aC A s ids ad (gk _) H locs := G
                refine lv_if_ne (tgt := 87) S.1 S.2.1 dX7_tell_82 (by decide) (fun c_82 => ?_) (fun c_82 => ?_)
                · obtain ⟨hn, hn80⟩ := hW.rd
                  have hnn : tN (κ 8 0 16) < 80 := by
                    rcases Nat.lt_or_ge (tN (κ 8 0 16)) 80 with h | h
                    · exact h
                    · exact absurd (hn.trans (by rw [show tN (κ 8 0 16) = 80 by omega]; rfl)) c_39
                  refine lv_aload_n S.1 S.2.1 dX7_tell_87 rfl (lv_at hl 2 rfl) ?_
                  refine g_get S G 8 16 (hV 8 _ (by first | decide | (show _ < 1; omega))) (by decide) (by decide) i8 (S.2.2.2.2 (.fieldLink RX7 88 "SensorBondModel" "readings" "I") (by decide +kernel)) (gvk_i rfl rfl) dX7_tell_88 ?_
                  refine g_top (show _ = nI (tN (κ 8 0 16)) from hn) ?_
                  refine lv_istore (lv' := [(5, _), (4, _), (3, _), (0, _), (1, _), (2, _)]) S.1 S.2.1 dX7_tell_91 hl (by decide) rfl (fun ls hl => ?_)
                  refine lv_aload_n S.1 S.2.1 dX7_tell_93 rfl (lv_at hl 3 rfl) ?_
                  refine lv_dup S.1 S.2.1 dX7_tell_94 rfl ?_
                  refine g_get S G 8 16 (hV 8 _ (by first | decide | (show _ < 1; omega))) (by decide) (by decide) i8 (S.2.2.2.2 (.fieldLink RX7 88 "SensorBondModel" "readings" "I") (by decide +kernel)) (gvk_i rfl rfl) dX7_tell_95 ?_
                  refine lv_iconst (v := 1) S.1 S.2.1 dX7_tell_98 (by decide) ?_
                  refine lv_iadd S.1 S.2.1 dX7_tell_99 ?_
                  refine g_put (ty := .int) S G 8 16 (hV 8 _ (by first | decide | (show _ < 1; omega))) (by decide) (by decide) i8 (S.2.2.2.2 (.fieldLink RX7 88 "SensorBondModel" "readings" "I") (by decide +kernel)) rfl (by decide +kernel) rfl rfl (gw_i rfl) dX7_tell_100 (fun H locs G => ?_)
                  have G := gk_S rfl G
                  refine lv_aload_n S.1 S.2.1 dX7_tell_103 rfl (lv_at hl 3 rfl) ?_
                  refine g_get S G 8 17 (hV 8 _ (by first | decide | (show _ < 1; omega))) (by decide) (by decide) i8 (S.2.2.2.2 (.fieldLink RX7 53 "SensorBondModel" "by" "[I") (by decide +kernel)) (gvk_or (j := 0) rfl rfl (by omega)) dX7_tell_104 ?_
                  refine lv_iload S.1 S.2.1 dX7_tell_107 (lv_at hl 0 rfl) ?_
                  refine lv_iload_n S.1 S.2.1 dX7_tell_109 rfl (lv_at hl 4 rfl) ?_
                  refine k_iast S G 37 (hV 37 _ (by first | decide | (show _ < 1; omega))) rfl rfl rfl rfl (show (tN (κ 8 0 16)) < 80 by omega) dX7_tell_110 (fun H locs G => ?_)
                  refine lv_aload_n S.1 S.2.1 dX7_tell_111 rfl (lv_at hl 3 rfl) ?_
                  refine g_get S G 8 18 (hV 8 _ (by first | decide | (show _ < 1; omega))) (by decide) (by decide) i8 (S.2.2.2.2 (.fieldLink RX7 56 "SensorBondModel" "value" "[I") (by decide +kernel)) (gvk_or (j := 0) rfl rfl (by omega)) dX7_tell_112 ?_
                  refine lv_iload S.1 S.2.1 dX7_tell_115 (lv_at hl 0 rfl) ?_
                  refine lv_iload_n S.1 S.2.1 dX7_tell_117 rfl (lv_at hl 5 rfl) ?_
                  refine k_iast S G 38 (hV 38 _ (by first | decide | (show _ < 1; omega))) rfl rfl rfl rfl (show (tN (κ 8 0 16)) < 80 by omega) dX7_tell_118 (fun H locs G => ?_)
                  refine lv_aload_n S.1 S.2.1 dX7_tell_119 rfl (lv_at hl 3 rfl) ?_
                  refine g_get S G 8 21 (hV 8 _ (by first | decide | (show _ < 1; omega))) (by decide) (by decide) i8 (S.2.2.2.2 (.fieldLink RX7 65 "SensorBondModel" "since" "[I") (by decide +kernel)) (gvk_or (j := 0) rfl rfl (by omega)) dX7_tell_120 ?_
                  refine lv_iload S.1 S.2.1 dX7_tell_123 (lv_at hl 0 rfl) ?_
                  refine lv_aload_n S.1 S.2.1 dX7_tell_125 rfl (lv_at hl 3 rfl) ?_
                  refine g_get S G 8 0 (hV 8 _ (by first | decide | (show _ < 1; omega))) (by decide) (by decide) i8 (S.2.2.2.2 (.fieldLink RX7 109 "SensorBondModel" "tick" "I") (by decide +kernel)) (gvk_i rfl rfl) dX7_tell_126 ?_
                  refine k_iast S G 41 (hV 41 _ (by first | decide | (show _ < 1; omega))) rfl rfl rfl rfl (show (tN (κ 8 0 16)) < 80 by omega) dX7_tell_129 (fun H locs G => ?_)
                  refine lv_aload_n S.1 S.2.1 dX7_tell_130 rfl (lv_at hl 3 rfl) ?_
                  refine g_get S G 8 9 (hV 8 _ (by first | decide | (show _ < 1; omega))) (by decide) (by decide) i8 (S.2.2.2.2 (.fieldLink RX7 34 "SensorBondModel" "toldIn" "[I") (by decide +kernel)) (gvk_or (j := 0) rfl rfl (by omega)) dX7_tell_131 ?_
                  refine lv_iload_n S.1 S.2.1 dX7_tell_134 rfl (lv_at hl 4 rfl) ?_
                  refine lv_aload_n S.1 S.2.1 dX7_tell_135 rfl (lv_at hl 3 rfl) ?_
                  refine g_get S G 8 0 (hV 8 _ (by first | decide | (show _ < 1; omega))) (by decide) (by decide) i8 (S.2.2.2.2 (.fieldLink RX7 109 "SensorBondModel" "tick" "I") (by decide +kernel)) (gvk_i rfl rfl) dX7_tell_136 ?_
                  refine k_iast S G 29 (hV 29 _ (by first | decide | (show _ < 1; omega))) rfl rfl rfl ha1 (show tN a < 12 by omega) dX7_tell_139 (fun H locs G => ?_)
                  have G : gS D aC A s ids ad (gk (mTell1 (mCan κ 0) a (tN (κ 8 0 16)) v)) H locs := G
                  have hW1 : mWF (mTell1 (mCan κ 0) a (tN (κ 8 0 16)) v) := mTell1_WF (mCan_WF hW) ha1 (by omega) hn hnn
                  refine lv_iconst (v := 0) S.1 S.2.1 dX7_tell_140 (by decide) ?_
                  refine lv_istore (lv' := [(6, _), (5, _), (4, _), (3, _), (0, _), (1, _), (2, _)]) S.1 S.2.1 dX7_tell_141 hl (by decide) rfl (fun ls hl => ?_)
                  refine g_for (fun _ => mPart (tN a) (tN (κ 8 0 16))) 4 (fun k_143 => [(6, .int (nI k_143)), (5, .int (nI (tN (κ 8 0 16)))), (2, .int v), (1, .int a), (0, .ref (ad 8 0))]) ?_ G (lv_sub hl [0, 1, 6, 5, 4] rfl)
                  intro k_143 H locs ls hk_143 G hl ih_143
                  have hl : lv_has ls 8 [(6, _), (5, _), (2, _), (1, _), (0, _)] := hl
                  refine lv_iload S.1 S.2.1 dX7_tell_143 (lv_at hl 0 rfl) ?_
                  refine lv_iconst (v := 4) S.1 S.2.1 dX7_tell_145 (by decide) ?_
                  refine lv_icmp_ge (tgt := 183) S.1 S.2.1 dX7_tell_146 (by decide) (fun c_146 => ?_) (fun c_146 => ?_)
                  · have hkN_143 : k_143 = 4 := g_exit c_146 hk_143 (by omega)
                    subst hkN_143
                    have G : gS D aC A s ids ad (gk (mTell2 (mTell1 (mCan κ 0) a (tN (κ 8 0 16)) v) (tN a) (tN (κ 8 0 16)))) H locs := G
                    refine lv_aload_n S.1 S.2.1 dX7_tell_183 rfl (lv_at hl 4 rfl) ?_
                    refine g_get S G 8 19 (hV 8 _ (by first | decide | (show _ < 1; omega))) (by decide) (by decide) i8 (S.2.2.2.2 (.fieldLink RX7 59 "SensorBondModel" "state" "[I") (by decide +kernel)) (gvk_or (j := 0) rfl rfl (by omega)) dX7_tell_184 ?_
                    refine lv_iload S.1 S.2.1 dX7_tell_187 (lv_at hl 1 rfl) ?_
                    refine lv_aload_n S.1 S.2.1 dX7_tell_189 rfl (lv_at hl 4 rfl) ?_
                    refine g_get S G 8 20 (hV 8 _ (by first | decide | (show _ < 1; omega))) (by decide) (by decide) i8 (S.2.2.2.2 (.fieldLink RX7 62 "SensorBondModel" "passed" "[I") (by decide +kernel)) (gvk_or (j := 0) rfl rfl (by omega)) dX7_tell_190 ?_
                    refine lv_iload S.1 S.2.1 dX7_tell_193 (lv_at hl 1 rfl) ?_
                    refine k_iald S G 40 (hV 40 _ (by first | decide | (show _ < 1; omega))) rfl rfl rfl rfl (show (tN (κ 8 0 16)) < 80 by omega) dX7_tell_195 ?_
                    refine lv_iconst (v := 2) S.1 S.2.1 dX7_tell_196 (by decide) ?_
                    refine lv_icmp_le (tgt := 204) S.1 S.2.1 dX7_tell_197 (by decide) (fun c_197 => ?_) (fun c_197 => ?_)
                    · refine lv_iconst (v := 4) S.1 S.2.1 dX7_tell_204 (by decide) ?_
                      refine k_iast S G 39 (hV 39 _ (by first | decide | (show _ < 1; omega))) rfl rfl rfl rfl (show (tN (κ 8 0 16)) < 80 by omega) dX7_tell_205 (fun H locs G => ?_)
                      refine lv_iconst (v := 0) S.1 S.2.1 dX7_tell_206 (by decide) ?_
                      refine lv_istore (lv' := [(6, _), (5, _), (2, _), (1, _), (0, _)]) S.1 S.2.1 dX7_tell_207 hl (by decide) rfl (fun ls hl => ?_)
                      refine lv_iload S.1 S.2.1 dX7_tell_209 (lv_at hl 0 rfl) ?_
                      refine lv_bipush (v := 6) S.1 S.2.1 dX7_tell_211 (by decide) ?_
                      refine lv_icmp_ge (tgt := 302) S.1 S.2.1 dX7_tell_213 (by decide) (fun c_213 => ?_) (fun c_213 => ?_)
                      · exact absurd c_213 (by decide)
                      · refine lv_aload_n S.1 S.2.1 dX7_tell_216 rfl (lv_at hl 4 rfl) ?_
                        refine g_get S G 8 19 (hV 8 _ (by first | decide | (show _ < 1; omega))) (by decide) (by decide) i8 (S.2.2.2.2 (.fieldLink RX7 59 "SensorBondModel" "state" "[I") (by decide +kernel)) (gvk_or (j := 0) rfl rfl (by omega)) dX7_tell_217 ?_
                        refine lv_iload S.1 S.2.1 dX7_tell_220 (lv_at hl 1 rfl) ?_
                        refine k_iald S G 39 (hV 39 _ (by first | decide | (show _ < 1; omega))) rfl rfl rfl rfl (show (tN (κ 8 0 16)) < 80 by omega) dX7_tell_222 ?_
                        refine lv_if_ne (tgt := 302) S.1 S.2.1 dX7_tell_223 (by decide) (fun c_223 => ?_) (fun c_223 => ?_)
                        · refine lv_iload S.1 S.2.1 dX7_tell_302 (lv_at hl 1 rfl) ?_
                          exact g_iret S G hr hlk (by
                                have e3 : mTell3 (mTell2 (mTell1 (mCan κ 0) a (tN (κ 8 0 16)) v) (tN a) (tN (κ 8 0 16))) (tN (κ 8 0 16)) = upd3 (mTell2 (mTell1 (mCan κ 0) a (tN (κ 8 0 16)) v) (tN a) (tN (κ 8 0 16))) 39 0 (tN (κ 8 0 16)) 4 := by simp only [mTell3, if_pos c_197]
                                have eK : mTellK (mCan κ 0) a (tN (κ 8 0 16)) v = upd3 (mTell2 (mTell1 (mCan κ 0) a (tN (κ 8 0 16)) v) (tN a) (tN (κ 8 0 16))) 39 0 (tN (κ 8 0 16)) 4 := by rw [mTellK, e3, mTell4, if_neg (fun z : (upd3 (mTell2 (mTell1 (mCan κ 0) a (tN (κ 8 0 16)) v) (tN a) (tN (κ 8 0 16))) 39 0 (tN (κ 8 0 16)) 4) 39 0 (tN (κ 8 0 16)) = 0 => absurd (upd3_s.symm.trans z) (by decide))]
                                rw [hT, eK]
                                exact ⟨hn.symm.trans (if_pos rfl).symm, congrArg (fun z => (ids, ad, gk z)) (if_pos rfl).symm⟩) (Nat.le_of_ble_eq_true rfl) (Nat.le_of_ble_eq_true rfl) dX7_tell_304
                        · exact absurd (upd3_s.symm.trans c_223) (by decide)
                    · refine lv_iconst (v := 0) S.1 S.2.1 dX7_tell_200 (by decide) ?_
                      refine lv_goto (tgt := 205) S.1 S.2.1 dX7_tell_201 (by decide) ?_
                      refine k_iast S G 39 (hV 39 _ (by first | decide | (show _ < 1; omega))) rfl rfl rfl rfl (show (tN (κ 8 0 16)) < 80 by omega) dX7_tell_205 (fun H locs G => ?_)
                      refine lv_iconst (v := 0) S.1 S.2.1 dX7_tell_206 (by decide) ?_
                      refine lv_istore (lv' := [(6, _), (5, _), (2, _), (1, _), (0, _)]) S.1 S.2.1 dX7_tell_207 hl (by decide) rfl (fun ls hl => ?_)
                      refine g_for (mUse (tN a) (tN (κ 8 0 16))) 6 (fun k_209 => [(6, .int (nI k_209)), (5, .int (nI (tN (κ 8 0 16)))), (2, .int v), (1, .int a), (0, .ref (ad 8 0))]) ?_ G (lv_sub hl [0, 1, 2, 3, 4] rfl)
                      intro k_209 H locs ls hk_209 G hl ih_209
                      have hl : lv_has ls 8 [(6, _), (5, _), (2, _), (1, _), (0, _)] := hl
                      refine lv_iload S.1 S.2.1 dX7_tell_209 (lv_at hl 0 rfl) ?_
                      refine lv_bipush (v := 6) S.1 S.2.1 dX7_tell_211 (by decide) ?_
                      refine lv_icmp_ge (tgt := 302) S.1 S.2.1 dX7_tell_213 (by decide) (fun c_213 => ?_) (fun c_213 => ?_)
                      · have hkN_209 : k_209 = 6 := g_exit c_213 hk_209 (by omega)
                        subst hkN_209
                        refine lv_iload S.1 S.2.1 dX7_tell_302 (lv_at hl 1 rfl) ?_
                        exact g_iret S G hr hlk (by
                              have e3 : mTell3 (mTell2 (mTell1 (mCan κ 0) a (tN (κ 8 0 16)) v) (tN a) (tN (κ 8 0 16))) (tN (κ 8 0 16)) = upd3 (mTell2 (mTell1 (mCan κ 0) a (tN (κ 8 0 16)) v) (tN a) (tN (κ 8 0 16))) 39 0 (tN (κ 8 0 16)) 0 := by simp only [mTell3, if_neg c_197]
                              have eK : mTellK (mCan κ 0) a (tN (κ 8 0 16)) v = gIt (mUse (tN a) (tN (κ 8 0 16))) 6 (upd3 (mTell2 (mTell1 (mCan κ 0) a (tN (κ 8 0 16)) v) (tN a) (tN (κ 8 0 16))) 39 0 (tN (κ 8 0 16)) 0) := by rw [mTellK, e3, mTell4, if_pos (upd3_s : (upd3 (mTell2 (mTell1 (mCan κ 0) a (tN (κ 8 0 16)) v) (tN a) (tN (κ 8 0 16))) 39 0 (tN (κ 8 0 16)) 0) 39 0 (tN (κ 8 0 16)) = 0)]
                              rw [hT, eK]
                              exact ⟨hn.symm.trans (if_pos rfl).symm, congrArg (fun z => (ids, ad, gk z)) (if_pos rfl).symm⟩) (Nat.le_of_ble_eq_true rfl) (Nat.le_of_ble_eq_true rfl) dX7_tell_304
                      · have hlt_209 : k_209 < 6 := g_stay c_213 hk_209 (by omega)
                        refine lv_aload_n S.1 S.2.1 dX7_tell_216 rfl (lv_at hl 4 rfl) ?_
                        refine g_get S G 8 19 (hV 8 _ (by first | decide | (show _ < 1; omega))) (by decide) (by decide) i8 (S.2.2.2.2 (.fieldLink RX7 59 "SensorBondModel" "state" "[I") (by decide +kernel)) (gvk_or (j := 0) rfl rfl (by omega)) dX7_tell_217 ?_
                        refine lv_iload S.1 S.2.1 dX7_tell_220 (lv_at hl 1 rfl) ?_
                        refine k_iald S G 39 (hV 39 _ (by first | decide | (show _ < 1; omega))) rfl rfl rfl rfl (show (tN (κ 8 0 16)) < 80 by omega) dX7_tell_222 ?_
                        refine lv_if_ne (tgt := 302) S.1 S.2.1 dX7_tell_223 (by decide) (fun c_223 => ?_) (fun c_223 => ?_)
                        · exact absurd ((gIt_keep (fun _ _ => mUse_keep (by decide) (by decide) (by decide)) k_209 _).trans upd3_s) c_223
                        · refine lv_bipush (v := 12) S.1 S.2.1 dX7_tell_226 (by decide) ?_
                          refine lv_iload S.1 S.2.1 dX7_tell_228 (lv_at hl 0 rfl) ?_
                          refine lv_imul S.1 S.2.1 dX7_tell_230 ?_
                          refine lv_iload_n S.1 S.2.1 dX7_tell_231 rfl (lv_at hl 3 rfl) ?_
                          refine lv_iadd S.1 S.2.1 dX7_tell_232 ?_
                          refine lv_istore (lv' := [(7, _), (6, _), (5, _), (2, _), (1, _), (0, _)]) S.1 S.2.1 dX7_tell_233 hl (by decide) rfl (fun ls hl => ?_)
                          refine lv_aload_n S.1 S.2.1 dX7_tell_235 rfl (lv_at hl 5 rfl) ?_
                          refine g_get S G 8 12 (hV 8 _ (by first | decide | (show _ < 1; omega))) (by decide) (by decide) i8 (S.2.2.2.2 (.fieldLink RX7 40 "SensorBondModel" "isOpen" "[Z") (by decide +kernel)) (gvk_or (j := 0) rfl rfl (by omega)) dX7_tell_236 ?_
                          refine lv_iload S.1 S.2.1 dX7_tell_239 (lv_at hl 0 rfl) ?_
                          refine k_zald S G 32 (hV 32 _ (by first | decide | (show _ < 1; omega))) rfl rfl rfl (g_lin (a := 12) rfl ha1) (show 12 * k_209 + tN a < 72 by omega) dX7_tell_241 ?_
                          refine lv_if_eq (tgt := 296) S.1 S.2.1 dX7_tell_242 (by decide) (fun c_242 => ?_) (fun c_242 => ?_)
                          · refine lv_iinc (k := 1) (lv' := [(6, _), (7, _), (5, _), (2, _), (1, _), (0, _)]) S.1 S.2.1 dX7_tell_296 hl rfl (g_inc _) (by decide) rfl (fun ls hl => ?_)
                            refine lv_goto (tgt := 209) S.1 S.2.1 dX7_tell_299 (by decide) ?_
                            have e : mUse (tN a) (tN (κ 8 0 16)) k_209 (gIt (mUse (tN a) (tN (κ 8 0 16))) k_209 (upd3 (mTell2 (mTell1 (mCan κ 0) a (tN (κ 8 0 16)) v) (tN a) (tN (κ 8 0 16))) 39 0 (tN (κ 8 0 16)) 0)) = (gIt (mUse (tN a) (tN (κ 8 0 16))) k_209 (upd3 (mTell2 (mTell1 (mCan κ 0) a (tN (κ 8 0 16)) v) (tN a) (tN (κ 8 0 16))) 39 0 (tN (κ 8 0 16)) 0)) := by simp only [mUse, if_neg c_6, if_neg c_17, if_neg c_30, if_neg c_39, if_neg c_62, if_pos c_146, if_neg c_197, if_neg c_213, if_pos c_242]
                            exact ih_209 hlt_209 H locs ls (by simp only [gIt]; rw [e]; exact G) (lv_sub hl [0, 2, 3, 4, 5] rfl)
                          · refine lv_aload_n S.1 S.2.1 dX7_tell_245 rfl (lv_at hl 5 rfl) ?_
                            refine g_get S G 8 15 (hV 8 _ (by first | decide | (show _ < 1; omega))) (by decide) (by decide) i8 (S.2.2.2.2 (.fieldLink RX7 50 "SensorBondModel" "aside" "[I") (by decide +kernel)) (gvk_or (j := 0) rfl rfl (by omega)) dX7_tell_246 ?_
                            refine lv_iload S.1 S.2.1 dX7_tell_249 (lv_at hl 0 rfl) ?_
                            refine lv_dup2_11 S.1 S.2.1 dX7_tell_251 rfl rfl ?_
                            refine k_iald S G 35 (hV 35 _ (by first | decide | (show _ < 1; omega))) rfl rfl rfl (g_lin (a := 12) rfl ha1) (show 12 * k_209 + tN a < 72 by omega) dX7_tell_252 ?_
                            refine lv_aload_n S.1 S.2.1 dX7_tell_253 rfl (lv_at hl 5 rfl) ?_
                            refine g_get S G 8 14 (hV 8 _ (by first | decide | (show _ < 1; omega))) (by decide) (by decide) i8 (S.2.2.2.2 (.fieldLink RX7 47 "SensorBondModel" "windowPrice" "[I") (by decide +kernel)) (gvk_or (j := 0) rfl rfl (by omega)) dX7_tell_254 ?_
                            refine lv_iload S.1 S.2.1 dX7_tell_257 (lv_at hl 0 rfl) ?_
                            refine k_iald S G 34 (hV 34 _ (by first | decide | (show _ < 1; omega))) rfl rfl rfl (g_lin (a := 12) rfl ha1) (show 12 * k_209 + tN a < 72 by omega) dX7_tell_259 ?_
                            refine lv_isub S.1 S.2.1 dX7_tell_260 ?_
                            refine k_iast S G 35 (hV 35 _ (by first | decide | (show _ < 1; omega))) rfl rfl rfl (g_lin (a := 12) rfl ha1) (show 12 * k_209 + tN a < 72 by omega) dX7_tell_261 (fun H locs G => ?_)
                            refine lv_aload_n S.1 S.2.1 dX7_tell_262 rfl (lv_at hl 5 rfl) ?_
                            refine g_get S G 8 23 (hV 8 _ (by first | decide | (show _ < 1; omega))) (by decide) (by decide) i8 (S.2.2.2.2 (.fieldLink RX7 71 "SensorBondModel" "held" "[I") (by decide +kernel)) (gvk_or (j := 0) rfl rfl (by omega)) dX7_tell_263 ?_
                            refine lv_bipush (v := 6) S.1 S.2.1 dX7_tell_266 (by decide) ?_
                            refine lv_iload S.1 S.2.1 dX7_tell_268 (lv_at hl 2 rfl) ?_
                            refine lv_imul S.1 S.2.1 dX7_tell_270 ?_
                            refine lv_iload S.1 S.2.1 dX7_tell_271 (lv_at hl 1 rfl) ?_
                            refine lv_iadd S.1 S.2.1 dX7_tell_273 ?_
                            refine lv_aload_n S.1 S.2.1 dX7_tell_274 rfl (lv_at hl 5 rfl) ?_
                            refine g_get S G 8 14 (hV 8 _ (by first | decide | (show _ < 1; omega))) (by decide) (by decide) i8 (S.2.2.2.2 (.fieldLink RX7 47 "SensorBondModel" "windowPrice" "[I") (by decide +kernel)) (gvk_or (j := 0) rfl rfl (by omega)) dX7_tell_275 ?_
                            refine lv_iload S.1 S.2.1 dX7_tell_278 (lv_at hl 0 rfl) ?_
                            refine k_iald S G 34 (hV 34 _ (by first | decide | (show _ < 1; omega))) rfl rfl rfl (g_lin (a := 12) rfl ha1) (show 12 * k_209 + tN a < 72 by omega) dX7_tell_280 ?_
                            refine k_iast S G 43 (hV 43 _ (by first | decide | (show _ < 1; omega))) rfl rfl rfl (g_lin (a := 6) rfl rfl) (show 6 * (tN (κ 8 0 16)) + k_209 < 480 by omega) dX7_tell_281 (fun H locs G => ?_)
                            refine lv_aload_n S.1 S.2.1 dX7_tell_282 rfl (lv_at hl 5 rfl) ?_
                            refine g_get S G 8 24 (hV 8 _ (by first | decide | (show _ < 1; omega))) (by decide) (by decide) i8 (S.2.2.2.2 (.fieldLink RX7 74 "SensorBondModel" "usedBy" "[I") (by decide +kernel)) (gvk_or (j := 0) rfl rfl (by omega)) dX7_tell_283 ?_
                            refine lv_iload S.1 S.2.1 dX7_tell_286 (lv_at hl 2 rfl) ?_
                            refine lv_dup2_11 S.1 S.2.1 dX7_tell_288 rfl rfl ?_
                            refine k_iald S G 44 (hV 44 _ (by first | decide | (show _ < 1; omega))) rfl rfl rfl rfl (show (tN (κ 8 0 16)) < 80 by omega) dX7_tell_289 ?_
                            refine lv_iconst (v := 1) S.1 S.2.1 dX7_tell_290 (by decide) ?_
                            refine lv_iload S.1 S.2.1 dX7_tell_291 (lv_at hl 1 rfl) ?_
                            refine lv_ishl S.1 S.2.1 dX7_tell_293 ?_
                            refine lv_ior S.1 S.2.1 dX7_tell_294 ?_
                            refine k_iast S G 44 (hV 44 _ (by first | decide | (show _ < 1; omega))) rfl rfl rfl rfl (show (tN (κ 8 0 16)) < 80 by omega) dX7_tell_295 (fun H locs G => ?_)
                            refine lv_iinc (k := 1) (lv' := [(6, _), (7, _), (5, _), (2, _), (1, _), (0, _)]) S.1 S.2.1 dX7_tell_296 hl rfl (g_inc _) (by decide) rfl (fun ls hl => ?_)
                            refine lv_goto (tgt := 209) S.1 S.2.1 dX7_tell_299 (by decide) ?_
                            have e : mUse (tN a) (tN (κ 8 0 16)) k_209 (gIt (mUse (tN a) (tN (κ 8 0 16))) k_209 (upd3 (mTell2 (mTell1 (mCan κ 0) a (tN (κ 8 0 16)) v) (tN a) (tN (κ 8 0 16))) 39 0 (tN (κ 8 0 16)) 0)) = upd3 (upd3 (upd3 (gIt (mUse (tN a) (tN (κ 8 0 16))) k_209 (upd3 (mTell2 (mTell1 (mCan κ 0) a (tN (κ 8 0 16)) v) (tN a) (tN (κ 8 0 16))) 39 0 (tN (κ 8 0 16)) 0)) 35 0 (12 * k_209 + tN a) ((gIt (mUse (tN a) (tN (κ 8 0 16))) k_209 (upd3 (mTell2 (mTell1 (mCan κ 0) a (tN (κ 8 0 16)) v) (tN a) (tN (κ 8 0 16))) 39 0 (tN (κ 8 0 16)) 0)) 35 0 (12 * k_209 + tN a) - (gIt (mUse (tN a) (tN (κ 8 0 16))) k_209 (upd3 (mTell2 (mTell1 (mCan κ 0) a (tN (κ 8 0 16)) v) (tN a) (tN (κ 8 0 16))) 39 0 (tN (κ 8 0 16)) 0)) 34 0 (12 * k_209 + tN a))) 43 0 (6 * (tN (κ 8 0 16)) + k_209) ((gIt (mUse (tN a) (tN (κ 8 0 16))) k_209 (upd3 (mTell2 (mTell1 (mCan κ 0) a (tN (κ 8 0 16)) v) (tN a) (tN (κ 8 0 16))) 39 0 (tN (κ 8 0 16)) 0)) 34 0 (12 * k_209 + tN a))) 44 0 (tN (κ 8 0 16)) ((gIt (mUse (tN a) (tN (κ 8 0 16))) k_209 (upd3 (mTell2 (mTell1 (mCan κ 0) a (tN (κ 8 0 16)) v) (tN a) (tN (κ 8 0 16))) 39 0 (tN (κ 8 0 16)) 0)) 44 0 (tN (κ 8 0 16)) ||| (1 <<< (nI k_209 &&& 31))) := by simp only [mUse, if_neg c_6, if_neg c_17, if_neg c_30, if_neg c_39, if_neg c_62, if_pos c_146, if_neg c_197, if_neg c_213, if_neg c_242]
                            exact ih_209 hlt_209 H locs ls (by simp only [gIt]; rw [e]; exact G) (lv_sub hl [0, 2, 3, 4, 5] rfl)
                  · have hlt_143 : k_143 < 4 := g_stay c_146 hk_143 (by omega)
                    have hW2 : mWF (gIt (fun _ => mPart (tN a) (tN (κ 8 0 16))) k_143 (mTell1 (mCan κ 0) a (tN (κ 8 0 16)) v)) := mPart_it_WF hW1
                    obtain ⟨hat1, hat2⟩ := hW2.at' (k := tN a) (by omega)
                    refine lv_aload_n S.1 S.2.1 dX7_tell_149 rfl (lv_at hl 4 rfl) ?_
                    refine g_get S G 8 20 (hV 8 _ (by first | decide | (show _ < 1; omega))) (by decide) (by decide) i8 (S.2.2.2.2 (.fieldLink RX7 62 "SensorBondModel" "passed" "[I") (by decide +kernel)) (gvk_or (j := 0) rfl rfl (by omega)) dX7_tell_150 ?_
                    refine lv_iload S.1 S.2.1 dX7_tell_153 (lv_at hl 1 rfl) ?_
                    refine lv_dup2_11 S.1 S.2.1 dX7_tell_155 rfl rfl ?_
                    refine k_iald S G 40 (hV 40 _ (by first | decide | (show _ < 1; omega))) rfl rfl rfl rfl (show (tN (κ 8 0 16)) < 80 by omega) dX7_tell_156 ?_
                    refine lv_aload_n S.1 S.2.1 dX7_tell_157 rfl (lv_at hl 4 rfl) ?_
                    refine lv_aload_n S.1 S.2.1 dX7_tell_158 rfl (lv_at hl 4 rfl) ?_
                    refine g_get S G 8 5 (hV 8 _ (by first | decide | (show _ < 1; omega))) (by decide) (by decide) i8 (S.2.2.2.2 (.fieldLink RX7 22 "SensorBondModel" "attached" "[I") (by decide +kernel)) (gvk_or (j := 0) rfl rfl (by omega)) dX7_tell_159 ?_
                    refine lv_iload_n S.1 S.2.1 dX7_tell_162 rfl (lv_at hl 3 rfl) ?_
                    refine k_iald S G 25 (hV 25 _ (by first | decide | (show _ < 1; omega))) rfl rfl rfl ha1 (show tN a < 12 by omega) dX7_tell_163 ?_
                    refine g_cVi S G hF hl 8 (hV 8 _ (by first | decide | (show _ < 1; omega))) (by decide) (c_X7_goes l ids ad _ _ hat1 hat2 hV hW2) (cwV 1 S.2.2.2.2 gX7_tell_X7_goes rfl rfl rfl (by decide +kernel) ⟨Nat.le_of_ble_eq_true rfl, Nat.le_of_ble_eq_true rfl⟩) rfl rfl (Nat.le_of_ble_eq_true rfl) dX7_tell_164 ⟨Nat.le_of_ble_eq_true rfl, Nat.le_of_ble_eq_true rfl⟩ (fun r_164 u_164 H locs hp_164 G => ?_)
                    obtain ⟨rfl, rfl⟩ := hp_164
                    have G : gS D aC A s ids ad (gk _) H locs := G
                    refine lv_if_eq (tgt := 174) S.1 S.2.1 dX7_tell_167 (by decide) (fun c_167 => ?_) (fun c_167 => ?_)
                    · refine lv_iconst (v := 0) S.1 S.2.1 dX7_tell_174 (by decide) ?_
                      refine lv_iadd S.1 S.2.1 dX7_tell_175 ?_
                      refine k_iast S G 40 (hV 40 _ (by first | decide | (show _ < 1; omega))) rfl rfl rfl rfl (show (tN (κ 8 0 16)) < 80 by omega) dX7_tell_176 (fun H locs G => ?_)
                      refine lv_iinc (k := 0) (lv' := [(6, _), (5, _), (2, _), (1, _), (0, _)]) S.1 S.2.1 dX7_tell_177 hl rfl (g_inc _) (by decide) rfl (fun ls hl => ?_)
                      refine lv_goto (tgt := 143) S.1 S.2.1 dX7_tell_180 (by decide) ?_
                      have e : mPart (tN a) (tN (κ 8 0 16)) (gIt (fun _ => mPart (tN a) (tN (κ 8 0 16))) k_143 (mTell1 (mCan κ 0) a (tN (κ 8 0 16)) v)) = upd3 (mGoes 6 (gIt (fun _ => mPart (tN a) (tN (κ 8 0 16))) k_143 (mTell1 (mCan κ 0) a (tN (κ 8 0 16)) v)) (tN ((gIt (fun _ => mPart (tN a) (tN (κ 8 0 16))) k_143 (mTell1 (mCan κ 0) a (tN (κ 8 0 16)) v)) 25 0 (tN a)))).2 40 0 (tN (κ 8 0 16)) ((gIt (fun _ => mPart (tN a) (tN (κ 8 0 16))) k_143 (mTell1 (mCan κ 0) a (tN (κ 8 0 16)) v)) 40 0 (tN (κ 8 0 16)) + 0) := by simp only [mPart, if_neg c_6, if_neg c_17, if_neg c_30, if_neg c_39, if_neg c_62, if_neg c_146, if_pos c_167]
                      exact ih_143 hlt_143 H locs ls (by simp only [gIt]; rw [e]; exact G) (lv_sub hl [0, 1, 2, 3, 4] rfl)
                    · refine lv_iconst (v := 1) S.1 S.2.1 dX7_tell_170 (by decide) ?_
                      refine lv_goto (tgt := 175) S.1 S.2.1 dX7_tell_171 (by decide) ?_
                      refine lv_iadd S.1 S.2.1 dX7_tell_175 ?_
                      refine k_iast S G 40 (hV 40 _ (by first | decide | (show _ < 1; omega))) rfl rfl rfl rfl (show (tN (κ 8 0 16)) < 80 by omega) dX7_tell_176 (fun H locs G => ?_)
                      refine lv_iinc (k := 0) (lv' := [(6, _), (5, _), (2, _), (1, _), (0, _)]) S.1 S.2.1 dX7_tell_177 hl rfl (g_inc _) (by decide) rfl (fun ls hl => ?_)
                      refine lv_goto (tgt := 143) S.1 S.2.1 dX7_tell_180 (by decide) ?_
                      have e : mPart (tN a) (tN (κ 8 0 16)) (gIt (fun _ => mPart (tN a) (tN (κ 8 0 16))) k_143 (mTell1 (mCan κ 0) a (tN (κ 8 0 16)) v)) = upd3 (mGoes 6 (gIt (fun _ => mPart (tN a) (tN (κ 8 0 16))) k_143 (mTell1 (mCan κ 0) a (tN (κ 8 0 16)) v)) (tN ((gIt (fun _ => mPart (tN a) (tN (κ 8 0 16))) k_143 (mTell1 (mCan κ 0) a (tN (κ 8 0 16)) v)) 25 0 (tN a)))).2 40 0 (tN (κ 8 0 16)) ((gIt (fun _ => mPart (tN a) (tN (κ 8 0 16))) k_143 (mTell1 (mCan κ 0) a (tN (κ 8 0 16)) v)) 40 0 (tN (κ 8 0 16)) + 1) := by simp only [mPart, if_neg c_6, if_neg c_17, if_neg c_30, if_neg c_39, if_neg c_62, if_neg c_146, if_neg c_167]
                      exact ih_143 hlt_143 H locs ls (by simp only [gIt]; rw [e]; exact G) (lv_sub hl [0, 1, 2, 3, 4] rfl)
                · exact absurd c_82 (by decide)
              · exact absurd c_71 (by decide)
            · refine lv_iconst (v := 2) S.1 S.2.1 dX7_tell_65 (by decide) ?_
              refine lv_goto (tgt := 79) S.1 S.2.1 dX7_tell_66 (by decide) ?_
              have hT : mTellT κ a v = 2 := by simp only [mTellT, hB, if_neg c_6, if_neg c_17, if_neg c_30, if_neg c_39, if_pos c_62] <;> decide
              refine g_cVi S G hF hl 8 (hV 8 _ (by first | decide | (show _ < 1; omega))) (by decide) (c_X7_can l ids ad _ _ hV) (cwV 1 S.2.2.2.2 gX7_tell_X7_can rfl rfl rfl (by decide +kernel) ⟨Nat.le_of_ble_eq_true rfl, Nat.le_of_ble_eq_true rfl⟩) rfl rfl (Nat.le_of_ble_eq_true rfl) dX7_tell_79 ⟨Nat.le_of_ble_eq_true rfl, Nat.le_of_ble_eq_true rfl⟩ (fun r_79 u_79 H locs hp_79 G => ?_)
              obtain ⟨rfl, rfl⟩ := hp_79
              have G : gS D aC A s ids ad (gk _) H locs := G
              refine lv_if_ne (tgt := 87) S.1 S.2.1 dX7_tell_82 (by decide) (fun c_82 => ?_) (fun c_82 => ?_)
              · exact absurd c_82 (by decide)
              · refine lv_iconst (v := 0) S.1 S.2.1 dX7_tell_85 (by decide) ?_
                exact g_iret S G hr hlk (by rw [hT]; exact ⟨(if_neg (by decide)).symm, congrArg (fun z => (ids, ad, gk z)) (if_neg (by decide)).symm⟩) (Nat.le_of_ble_eq_true rfl) (Nat.le_of_ble_eq_true rfl) dX7_tell_86
          · exact absurd c_51 c_6
        · refine lv_iconst (v := 1) S.1 S.2.1 dX7_tell_42 (by decide) ?_
          refine lv_goto (tgt := 47) S.1 S.2.1 dX7_tell_43 (by decide) ?_
          have hB : mBad κ a = 1 := by simp only [mBad, if_neg c_6, if_neg c_17, if_neg c_30, if_pos c_39]
          refine lv_istore (lv' := [(4, _), (3, _), (0, _), (1, _), (2, _)]) S.1 S.2.1 dX7_tell_47 hl (by decide) rfl (fun ls hl => ?_)
          refine lv_aload_n S.1 S.2.1 dX7_tell_49 rfl (lv_at hl 2 rfl) ?_
          refine lv_iload_n S.1 S.2.1 dX7_tell_50 rfl (lv_at hl 1 rfl) ?_
          refine lv_if_ne (tgt := 58) S.1 S.2.1 dX7_tell_51 (by decide) (fun c_51 => ?_) (fun c_51 => ?_)
          · refine lv_iload_n S.1 S.2.1 dX7_tell_58 rfl (lv_at hl 4 rfl) ?_
            refine g_cSi S G hF hl (c_X7_isValue l ids ad _ _) (va_cwS 1 S.2.2.2.2 gX7_tell_X7_isValue rfl rfl rfl (by decide +kernel) ⟨Nat.le_of_ble_eq_true rfl, Nat.le_of_ble_eq_true rfl⟩) rfl rfl (Nat.le_of_ble_eq_true rfl) dX7_tell_59 ⟨Nat.le_of_ble_eq_true rfl, Nat.le_of_ble_eq_true rfl⟩ (fun r_59 u_59 H locs hp_59 G => ?_)
            obtain ⟨rfl, rfl⟩ := hp_59
            have G : gS D aC A s ids ad (gk _) H locs := G
            refine lv_if_ne (tgt := 69) S.1 S.2.1 dX7_tell_62 (by decide) (fun c_62 => ?_) (fun c_62 => ?_)
            · refine lv_iload S.1 S.2.1 dX7_tell_69 (lv_at hl 0 rfl) ?_
              refine lv_if_eq (tgt := 78) S.1 S.2.1 dX7_tell_71 (by decide) (fun c_71 => ?_) (fun c_71 => ?_)
              · exact absurd c_71 (by decide)
              · refine lv_iconst (v := 3) S.1 S.2.1 dX7_tell_74 (by decide) ?_
                refine lv_goto (tgt := 79) S.1 S.2.1 dX7_tell_75 (by decide) ?_
                have hT : mTellT κ a v = 3 := by simp only [mTellT, hB, if_neg c_6, if_neg c_17, if_neg c_30, if_pos c_39, if_neg c_62] <;> decide
                refine g_cVi S G hF hl 8 (hV 8 _ (by first | decide | (show _ < 1; omega))) (by decide) (c_X7_can l ids ad _ _ hV) (cwV 1 S.2.2.2.2 gX7_tell_X7_can rfl rfl rfl (by decide +kernel) ⟨Nat.le_of_ble_eq_true rfl, Nat.le_of_ble_eq_true rfl⟩) rfl rfl (Nat.le_of_ble_eq_true rfl) dX7_tell_79 ⟨Nat.le_of_ble_eq_true rfl, Nat.le_of_ble_eq_true rfl⟩ (fun r_79 u_79 H locs hp_79 G => ?_)
                obtain ⟨rfl, rfl⟩ := hp_79
                have G : gS D aC A s ids ad (gk _) H locs := G
                refine lv_if_ne (tgt := 87) S.1 S.2.1 dX7_tell_82 (by decide) (fun c_82 => ?_) (fun c_82 => ?_)
                · exact absurd c_82 (by decide)
                · refine lv_iconst (v := 0) S.1 S.2.1 dX7_tell_85 (by decide) ?_
                  exact g_iret S G hr hlk (by rw [hT]; exact ⟨(if_neg (by decide)).symm, congrArg (fun z => (ids, ad, gk z)) (if_neg (by decide)).symm⟩) (Nat.le_of_ble_eq_true rfl) (Nat.le_of_ble_eq_true rfl) dX7_tell_86
            · refine lv_iconst (v := 2) S.1 S.2.1 dX7_tell_65 (by decide) ?_
              refine lv_goto (tgt := 79) S.1 S.2.1 dX7_tell_66 (by decide) ?_
              have hT : mTellT κ a v = 2 := by simp only [mTellT, hB, if_neg c_6, if_neg c_17, if_neg c_30, if_pos c_39, if_pos c_62] <;> decide
              refine g_cVi S G hF hl 8 (hV 8 _ (by first | decide | (show _ < 1; omega))) (by decide) (c_X7_can l ids ad _ _ hV) (cwV 1 S.2.2.2.2 gX7_tell_X7_can rfl rfl rfl (by decide +kernel) ⟨Nat.le_of_ble_eq_true rfl, Nat.le_of_ble_eq_true rfl⟩) rfl rfl (Nat.le_of_ble_eq_true rfl) dX7_tell_79 ⟨Nat.le_of_ble_eq_true rfl, Nat.le_of_ble_eq_true rfl⟩ (fun r_79 u_79 H locs hp_79 G => ?_)
              obtain ⟨rfl, rfl⟩ := hp_79
              have G : gS D aC A s ids ad (gk _) H locs := G
              refine lv_if_ne (tgt := 87) S.1 S.2.1 dX7_tell_82 (by decide) (fun c_82 => ?_) (fun c_82 => ?_)
              · exact absurd c_82 (by decide)
              · refine lv_iconst (v := 0) S.1 S.2.1 dX7_tell_85 (by decide) ?_
                exact g_iret S G hr hlk (by rw [hT]; exact ⟨(if_neg (by decide)).symm, congrArg (fun z => (ids, ad, gk z)) (if_neg (by decide)).symm⟩) (Nat.le_of_ble_eq_true rfl) (Nat.le_of_ble_eq_true rfl) dX7_tell_86
          · exact absurd c_51 c_6
set_option maxHeartbeats 4000000 in
set_option maxRecDepth 100000 in
theorem c_X7_open (l : Launch) (ids : gIds) (ad : gAd) (κ : gMem) (b a t : Int32) (hV : mV ids) (hW : mWF κ)  : gMi l yX7_open wsX7_open ({ frames := 2, cells := 0, slots := 0, locals := 42 } : Room) 0 0 [.ref (ad 8 0), .int b, .int a, .int t] (ids, ad, gk κ) (fun r u => r = (if mOpenT κ b a t = 0 then κ 8 0 0 + t - 1 else 0) ∧ u = (ids, ad, gk (if mOpenT κ b a t = 0 then mOpenK (mCan κ 0) (tN b) (tN a) t else mCan κ (mOpenT κ b a t)))) := by
  intro D aC A
  refine g_of (cc := cX7_open) (maxL := 7) (ret := (some .int)) (by decide +kernel) rfl (Nat.le_of_ble_eq_true rfl) ?_
  intro p e s m below meth c ls S G hF hr hlk hnm hl
  have hl : lv_has ls 7 [(0, _), (1, _), (2, _), (3, _)] := hl
  have i8 : ∀ w ∈ wsX70, w ∈ wsX7_open := by decide +kernel
  refine lv_iload_n S.1 S.2.1 dX7_open_0 rfl (lv_at hl 1 rfl) ?_
  refine g_cSi S G hF hl (c_X7_isBuyer l ids ad _ _) (va_cwS 1 S.2.2.2.2 gX7_open_X7_isBuyer rfl rfl rfl (by decide +kernel) ⟨Nat.le_of_ble_eq_true rfl, Nat.le_of_ble_eq_true rfl⟩) rfl rfl (Nat.le_of_ble_eq_true rfl) dX7_open_1 ⟨Nat.le_of_ble_eq_true rfl, Nat.le_of_ble_eq_true rfl⟩ (fun r_1 u_1 H locs hp_1 G => ?_)
  obtain ⟨rfl, rfl⟩ := hp_1
  have G : gS D aC A s ids ad (gk _) H locs := G
  refine lv_if_eq (tgt := 18) S.1 S.2.1 dX7_open_4 (by decide) (fun c_4 => ?_) (fun c_4 => ?_)
  · refine lv_iconst (v := 0) S.1 S.2.1 dX7_open_18 (by decide) ?_
    refine lv_istore (lv' := [(4, _), (0, _), (1, _), (2, _), (3, _)]) S.1 S.2.1 dX7_open_19 hl (by decide) rfl (fun ls hl => ?_)
    refine lv_iload_n S.1 S.2.1 dX7_open_21 rfl (lv_at hl 4 rfl) ?_
    refine lv_iconst (v := 1) S.1 S.2.1 dX7_open_22 (by decide) ?_
    refine lv_bipush (v := 20) S.1 S.2.1 dX7_open_23 (by decide) ?_
    refine g_cSi S G hF hl (c_X7_isIn l ids ad _ _ _ _) (va_cwS 3 S.2.2.2.2 gX7_open_X7_isIn rfl rfl rfl (by decide +kernel) ⟨Nat.le_of_ble_eq_true rfl, Nat.le_of_ble_eq_true rfl⟩) rfl rfl (Nat.le_of_ble_eq_true rfl) dX7_open_25 ⟨Nat.le_of_ble_eq_true rfl, Nat.le_of_ble_eq_true rfl⟩ (fun r_25 u_25 H locs hp_25 G => ?_)
    obtain ⟨rfl, rfl⟩ := hp_25
    have G : gS D aC A s ids ad (gk _) H locs := G
    refine lv_istore (lv' := [(5, _), (4, _), (0, _), (1, _), (2, _), (3, _)]) S.1 S.2.1 dX7_open_28 hl (by decide) rfl (fun ls hl => ?_)
    refine lv_aload_n S.1 S.2.1 dX7_open_30 rfl (lv_at hl 2 rfl) ?_
    refine lv_iload S.1 S.2.1 dX7_open_31 (lv_at hl 1 rfl) ?_
    refine lv_if_ne (tgt := 40) S.1 S.2.1 dX7_open_33 (by decide) (fun c_33 => ?_) (fun c_33 => ?_)
    · exact absurd c_33 (by decide)
    · refine lv_iconst (v := 1) S.1 S.2.1 dX7_open_36 (by decide) ?_
      refine lv_goto (tgt := 85) S.1 S.2.1 dX7_open_37 (by decide) ?_
      have hT : mOpenT κ b a t = 1 := by simp only [mOpenT, if_pos c_4] <;> decide
      refine g_cVi S G hF hl 8 (hV 8 _ (by first | decide | (show _ < 1; omega))) (by decide) (c_X7_can l ids ad _ _ hV) (cwV 1 S.2.2.2.2 gX7_open_X7_can rfl rfl rfl (by decide +kernel) ⟨Nat.le_of_ble_eq_true rfl, Nat.le_of_ble_eq_true rfl⟩) rfl rfl (Nat.le_of_ble_eq_true rfl) dX7_open_85 ⟨Nat.le_of_ble_eq_true rfl, Nat.le_of_ble_eq_true rfl⟩ (fun r_85 u_85 H locs hp_85 G => ?_)
      obtain ⟨rfl, rfl⟩ := hp_85
      have G : gS D aC A s ids ad (gk _) H locs := G
      refine lv_if_ne (tgt := 93) S.1 S.2.1 dX7_open_88 (by decide) (fun c_88 => ?_) (fun c_88 => ?_)
      · exact absurd c_88 (by decide)
      · refine lv_iconst (v := 0) S.1 S.2.1 dX7_open_91 (by decide) ?_
        exact g_iret S G hr hlk (by rw [hT]; exact ⟨(if_neg (by decide)).symm, congrArg (fun z => (ids, ad, gk z)) (if_neg (by decide)).symm⟩) (Nat.le_of_ble_eq_true rfl) (Nat.le_of_ble_eq_true rfl) dX7_open_92
  · refine lv_iload_n S.1 S.2.1 dX7_open_7 rfl (lv_at hl 2 rfl) ?_
    refine g_cSi S G hF hl (c_X7_isSensor l ids ad _ _) (va_cwS 1 S.2.2.2.2 gX7_open_X7_isSensor rfl rfl rfl (by decide +kernel) ⟨Nat.le_of_ble_eq_true rfl, Nat.le_of_ble_eq_true rfl⟩) rfl rfl (Nat.le_of_ble_eq_true rfl) dX7_open_8 ⟨Nat.le_of_ble_eq_true rfl, Nat.le_of_ble_eq_true rfl⟩ (fun r_8 u_8 H locs hp_8 G => ?_)
    obtain ⟨rfl, rfl⟩ := hp_8
    have G : gS D aC A s ids ad (gk _) H locs := G
    refine lv_if_eq (tgt := 18) S.1 S.2.1 dX7_open_11 (by decide) (fun c_11 => ?_) (fun c_11 => ?_)
    · refine lv_iconst (v := 0) S.1 S.2.1 dX7_open_18 (by decide) ?_
      refine lv_istore (lv' := [(4, _), (0, _), (1, _), (2, _), (3, _)]) S.1 S.2.1 dX7_open_19 hl (by decide) rfl (fun ls hl => ?_)
      refine lv_iload_n S.1 S.2.1 dX7_open_21 rfl (lv_at hl 4 rfl) ?_
      refine lv_iconst (v := 1) S.1 S.2.1 dX7_open_22 (by decide) ?_
      refine lv_bipush (v := 20) S.1 S.2.1 dX7_open_23 (by decide) ?_
      refine g_cSi S G hF hl (c_X7_isIn l ids ad _ _ _ _) (va_cwS 3 S.2.2.2.2 gX7_open_X7_isIn rfl rfl rfl (by decide +kernel) ⟨Nat.le_of_ble_eq_true rfl, Nat.le_of_ble_eq_true rfl⟩) rfl rfl (Nat.le_of_ble_eq_true rfl) dX7_open_25 ⟨Nat.le_of_ble_eq_true rfl, Nat.le_of_ble_eq_true rfl⟩ (fun r_25 u_25 H locs hp_25 G => ?_)
      obtain ⟨rfl, rfl⟩ := hp_25
      have G : gS D aC A s ids ad (gk _) H locs := G
      refine lv_istore (lv' := [(5, _), (4, _), (0, _), (1, _), (2, _), (3, _)]) S.1 S.2.1 dX7_open_28 hl (by decide) rfl (fun ls hl => ?_)
      refine lv_aload_n S.1 S.2.1 dX7_open_30 rfl (lv_at hl 2 rfl) ?_
      refine lv_iload S.1 S.2.1 dX7_open_31 (lv_at hl 1 rfl) ?_
      refine lv_if_ne (tgt := 40) S.1 S.2.1 dX7_open_33 (by decide) (fun c_33 => ?_) (fun c_33 => ?_)
      · exact absurd c_33 (by decide)
      · refine lv_iconst (v := 1) S.1 S.2.1 dX7_open_36 (by decide) ?_
        refine lv_goto (tgt := 85) S.1 S.2.1 dX7_open_37 (by decide) ?_
        have hT : mOpenT κ b a t = 1 := by simp only [mOpenT, if_neg c_4, if_pos c_11] <;> decide
        refine g_cVi S G hF hl 8 (hV 8 _ (by first | decide | (show _ < 1; omega))) (by decide) (c_X7_can l ids ad _ _ hV) (cwV 1 S.2.2.2.2 gX7_open_X7_can rfl rfl rfl (by decide +kernel) ⟨Nat.le_of_ble_eq_true rfl, Nat.le_of_ble_eq_true rfl⟩) rfl rfl (Nat.le_of_ble_eq_true rfl) dX7_open_85 ⟨Nat.le_of_ble_eq_true rfl, Nat.le_of_ble_eq_true rfl⟩ (fun r_85 u_85 H locs hp_85 G => ?_)
        obtain ⟨rfl, rfl⟩ := hp_85
        have G : gS D aC A s ids ad (gk _) H locs := G
        refine lv_if_ne (tgt := 93) S.1 S.2.1 dX7_open_88 (by decide) (fun c_88 => ?_) (fun c_88 => ?_)
        · exact absurd c_88 (by decide)
        · refine lv_iconst (v := 0) S.1 S.2.1 dX7_open_91 (by decide) ?_
          exact g_iret S G hr hlk (by rw [hT]; exact ⟨(if_neg (by decide)).symm, congrArg (fun z => (ids, ad, gk z)) (if_neg (by decide)).symm⟩) (Nat.le_of_ble_eq_true rfl) (Nat.le_of_ble_eq_true rfl) dX7_open_92
    · obtain ⟨hb1, hb2⟩ := mIn_rng (m := 5) c_4 (by decide)
      obtain ⟨hs1, hs2⟩ := mIn_rng (m := 11) c_11 (by decide)
      refine lv_iconst (v := 1) S.1 S.2.1 dX7_open_14 (by decide) ?_
      refine lv_goto (tgt := 19) S.1 S.2.1 dX7_open_15 (by decide) ?_
      refine lv_istore (lv' := [(4, _), (0, _), (1, _), (2, _), (3, _)]) S.1 S.2.1 dX7_open_19 hl (by decide) rfl (fun ls hl => ?_)
      refine lv_iload_n S.1 S.2.1 dX7_open_21 rfl (lv_at hl 4 rfl) ?_
      refine lv_iconst (v := 1) S.1 S.2.1 dX7_open_22 (by decide) ?_
      refine lv_bipush (v := 20) S.1 S.2.1 dX7_open_23 (by decide) ?_
      refine g_cSi S G hF hl (c_X7_isIn l ids ad _ _ _ _) (va_cwS 3 S.2.2.2.2 gX7_open_X7_isIn rfl rfl rfl (by decide +kernel) ⟨Nat.le_of_ble_eq_true rfl, Nat.le_of_ble_eq_true rfl⟩) rfl rfl (Nat.le_of_ble_eq_true rfl) dX7_open_25 ⟨Nat.le_of_ble_eq_true rfl, Nat.le_of_ble_eq_true rfl⟩ (fun r_25 u_25 H locs hp_25 G => ?_)
      obtain ⟨rfl, rfl⟩ := hp_25
      have G : gS D aC A s ids ad (gk _) H locs := G
      refine lv_istore (lv' := [(5, _), (4, _), (0, _), (1, _), (2, _), (3, _)]) S.1 S.2.1 dX7_open_28 hl (by decide) rfl (fun ls hl => ?_)
      refine lv_aload_n S.1 S.2.1 dX7_open_30 rfl (lv_at hl 2 rfl) ?_
      refine lv_iload S.1 S.2.1 dX7_open_31 (lv_at hl 1 rfl) ?_
      refine lv_if_ne (tgt := 40) S.1 S.2.1 dX7_open_33 (by decide) (fun c_33 => ?_) (fun c_33 => ?_)
      · refine lv_iload S.1 S.2.1 dX7_open_40 (lv_at hl 0 rfl) ?_
        refine lv_if_ne (tgt := 49) S.1 S.2.1 dX7_open_42 (by decide) (fun c_42 => ?_) (fun c_42 => ?_)
        · refine lv_aload_n S.1 S.2.1 dX7_open_49 rfl (lv_at hl 2 rfl) ?_
          refine g_get S G 8 12 (hV 8 _ (by first | decide | (show _ < 1; omega))) (by decide) (by decide) i8 (S.2.2.2.2 (.fieldLink RX7 40 "SensorBondModel" "isOpen" "[Z") (by decide +kernel)) (gvk_or (j := 0) rfl rfl (by omega)) dX7_open_50 ?_
          refine lv_bipush (v := 12) S.1 S.2.1 dX7_open_53 (by decide) ?_
          refine lv_iload_n S.1 S.2.1 dX7_open_55 rfl (lv_at hl 3 rfl) ?_
          refine lv_imul S.1 S.2.1 dX7_open_56 ?_
          refine lv_iload_n S.1 S.2.1 dX7_open_57 rfl (lv_at hl 4 rfl) ?_
          refine lv_iadd S.1 S.2.1 dX7_open_58 ?_
          refine k_zald S G 32 (hV 32 _ (by first | decide | (show _ < 1; omega))) rfl rfl rfl (g_lin (a := 12) hb1 hs1) (show 12 * tN b + tN a < 72 by omega) dX7_open_59 ?_
          refine lv_if_ne (tgt := 80) S.1 S.2.1 dX7_open_60 (by decide) (fun c_60 => ?_) (fun c_60 => ?_)
          · refine lv_iconst (v := 3) S.1 S.2.1 dX7_open_80 (by decide) ?_
            refine lv_goto (tgt := 85) S.1 S.2.1 dX7_open_81 (by decide) ?_
            have hT : mOpenT κ b a t = 3 := by simp only [mOpenT, if_neg c_4, if_neg c_11, if_neg c_42, if_neg c_60] <;> decide
            refine g_cVi S G hF hl 8 (hV 8 _ (by first | decide | (show _ < 1; omega))) (by decide) (c_X7_can l ids ad _ _ hV) (cwV 1 S.2.2.2.2 gX7_open_X7_can rfl rfl rfl (by decide +kernel) ⟨Nat.le_of_ble_eq_true rfl, Nat.le_of_ble_eq_true rfl⟩) rfl rfl (Nat.le_of_ble_eq_true rfl) dX7_open_85 ⟨Nat.le_of_ble_eq_true rfl, Nat.le_of_ble_eq_true rfl⟩ (fun r_85 u_85 H locs hp_85 G => ?_)
            obtain ⟨rfl, rfl⟩ := hp_85
            have G : gS D aC A s ids ad (gk _) H locs := G
            refine lv_if_ne (tgt := 93) S.1 S.2.1 dX7_open_88 (by decide) (fun c_88 => ?_) (fun c_88 => ?_)
            · exact absurd c_88 (by decide)
            · refine lv_iconst (v := 0) S.1 S.2.1 dX7_open_91 (by decide) ?_
              exact g_iret S G hr hlk (by rw [hT]; exact ⟨(if_neg (by decide)).symm, congrArg (fun z => (ids, ad, gk z)) (if_neg (by decide)).symm⟩) (Nat.le_of_ble_eq_true rfl) (Nat.le_of_ble_eq_true rfl) dX7_open_92
          · refine lv_aload_n S.1 S.2.1 dX7_open_63 rfl (lv_at hl 2 rfl) ?_
            refine g_get S G 8 10 (hV 8 _ (by first | decide | (show _ < 1; omega))) (by decide) (by decide) i8 (S.2.2.2.2 (.fieldLink RX7 37 "SensorBondModel" "purse" "[I") (by decide +kernel)) (gvk_or (j := 0) rfl rfl (by omega)) dX7_open_64 ?_
            refine lv_iload_n S.1 S.2.1 dX7_open_67 rfl (lv_at hl 3 rfl) ?_
            refine k_iald S G 30 (hV 30 _ (by first | decide | (show _ < 1; omega))) rfl rfl rfl hb1 (show tN b < 6 by omega) dX7_open_68 ?_
            refine lv_iload_n S.1 S.2.1 dX7_open_69 rfl (lv_at hl 5 rfl) ?_
            refine lv_aload_n S.1 S.2.1 dX7_open_70 rfl (lv_at hl 2 rfl) ?_
            refine g_get S G 8 8 (hV 8 _ (by first | decide | (show _ < 1; omega))) (by decide) (by decide) i8 (S.2.2.2.2 (.fieldLink RX7 31 "SensorBondModel" "price" "[I") (by decide +kernel)) (gvk_or (j := 0) rfl rfl (by omega)) dX7_open_71 ?_
            refine lv_iload_n S.1 S.2.1 dX7_open_74 rfl (lv_at hl 4 rfl) ?_
            refine k_iald S G 28 (hV 28 _ (by first | decide | (show _ < 1; omega))) rfl rfl rfl hs1 (show tN a < 12 by omega) dX7_open_75 ?_
            refine lv_imul S.1 S.2.1 dX7_open_76 ?_
            refine lv_icmp_ge (tgt := 84) S.1 S.2.1 dX7_open_77 (by decide) (fun c_77 => ?_) (fun c_77 => ?_)
            · refine lv_iconst (v := 0) S.1 S.2.1 dX7_open_84 (by decide) ?_
              have hT : mOpenT κ b a t = 0 := by simp only [mOpenT, if_neg c_4, if_neg c_11, if_neg c_42, if_pos c_60, if_pos c_77] <;> decide
              refine g_cVi S G hF hl 8 (hV 8 _ (by first | decide | (show _ < 1; omega))) (by decide) (c_X7_can l ids ad _ _ hV) (cwV 1 S.2.2.2.2 gX7_open_X7_can rfl rfl rfl (by decide +kernel) ⟨Nat.le_of_ble_eq_true rfl, Nat.le_of_ble_eq_true rfl⟩) rfl rfl (Nat.le_of_ble_eq_true rfl) dX7_open_85 ⟨Nat.le_of_ble_eq_true rfl, Nat.le_of_ble_eq_true rfl⟩ (fun r_85 u_85 H locs hp_85 G => ?_)
              obtain ⟨rfl, rfl⟩ := hp_85
              have G : gS D aC A s ids ad (gk _) H locs := G
              refine lv_if_ne (tgt := 93) S.1 S.2.1 dX7_open_88 (by decide) (fun c_88 => ?_) (fun c_88 => ?_)
              · refine lv_bipush (v := 12) S.1 S.2.1 dX7_open_93 (by decide) ?_
                refine lv_iload_n S.1 S.2.1 dX7_open_95 rfl (lv_at hl 3 rfl) ?_
                refine lv_imul S.1 S.2.1 dX7_open_96 ?_
                refine lv_iload_n S.1 S.2.1 dX7_open_97 rfl (lv_at hl 4 rfl) ?_
                refine lv_iadd S.1 S.2.1 dX7_open_98 ?_
                refine lv_istore (lv' := [(6, _), (5, _), (4, _), (0, _), (1, _), (2, _), (3, _)]) S.1 S.2.1 dX7_open_99 hl (by decide) rfl (fun ls hl => ?_)
                refine lv_aload_n S.1 S.2.1 dX7_open_101 rfl (lv_at hl 3 rfl) ?_
                refine g_get S G 8 12 (hV 8 _ (by first | decide | (show _ < 1; omega))) (by decide) (by decide) i8 (S.2.2.2.2 (.fieldLink RX7 40 "SensorBondModel" "isOpen" "[Z") (by decide +kernel)) (gvk_or (j := 0) rfl rfl (by omega)) dX7_open_102 ?_
                refine lv_iload S.1 S.2.1 dX7_open_105 (lv_at hl 0 rfl) ?_
                refine lv_iconst (v := 1) S.1 S.2.1 dX7_open_107 (by decide) ?_
                refine k_zast S G 32 (hV 32 _ (by first | decide | (show _ < 1; omega))) rfl rfl rfl (g_lin (a := 12) hb1 hs1) (show 12 * tN b + tN a < 72 by omega) rfl dX7_open_108 (fun H locs G => ?_)
                refine lv_aload_n S.1 S.2.1 dX7_open_109 rfl (lv_at hl 3 rfl) ?_
                refine g_get S G 8 13 (hV 8 _ (by first | decide | (show _ < 1; omega))) (by decide) (by decide) i8 (S.2.2.2.2 (.fieldLink RX7 44 "SensorBondModel" "lastTick" "[I") (by decide +kernel)) (gvk_or (j := 0) rfl rfl (by omega)) dX7_open_110 ?_
                refine lv_iload S.1 S.2.1 dX7_open_113 (lv_at hl 0 rfl) ?_
                refine lv_aload_n S.1 S.2.1 dX7_open_115 rfl (lv_at hl 3 rfl) ?_
                refine g_get S G 8 0 (hV 8 _ (by first | decide | (show _ < 1; omega))) (by decide) (by decide) i8 (S.2.2.2.2 (.fieldLink RX7 109 "SensorBondModel" "tick" "I") (by decide +kernel)) (gvk_i rfl rfl) dX7_open_116 ?_
                refine lv_iload_n S.1 S.2.1 dX7_open_119 rfl (lv_at hl 6 rfl) ?_
                refine lv_iadd S.1 S.2.1 dX7_open_120 ?_
                refine lv_iconst (v := 1) S.1 S.2.1 dX7_open_121 (by decide) ?_
                refine lv_isub S.1 S.2.1 dX7_open_122 ?_
                refine k_iast S G 33 (hV 33 _ (by first | decide | (show _ < 1; omega))) rfl rfl rfl (g_lin (a := 12) hb1 hs1) (show 12 * tN b + tN a < 72 by omega) dX7_open_123 (fun H locs G => ?_)
                refine lv_aload_n S.1 S.2.1 dX7_open_124 rfl (lv_at hl 3 rfl) ?_
                refine g_get S G 8 14 (hV 8 _ (by first | decide | (show _ < 1; omega))) (by decide) (by decide) i8 (S.2.2.2.2 (.fieldLink RX7 47 "SensorBondModel" "windowPrice" "[I") (by decide +kernel)) (gvk_or (j := 0) rfl rfl (by omega)) dX7_open_125 ?_
                refine lv_iload S.1 S.2.1 dX7_open_128 (lv_at hl 0 rfl) ?_
                refine lv_aload_n S.1 S.2.1 dX7_open_130 rfl (lv_at hl 3 rfl) ?_
                refine g_get S G 8 8 (hV 8 _ (by first | decide | (show _ < 1; omega))) (by decide) (by decide) i8 (S.2.2.2.2 (.fieldLink RX7 31 "SensorBondModel" "price" "[I") (by decide +kernel)) (gvk_or (j := 0) rfl rfl (by omega)) dX7_open_131 ?_
                refine lv_iload_n S.1 S.2.1 dX7_open_134 rfl (lv_at hl 5 rfl) ?_
                refine k_iald S G 28 (hV 28 _ (by first | decide | (show _ < 1; omega))) rfl rfl rfl hs1 (show tN a < 12 by omega) dX7_open_135 ?_
                refine k_iast S G 34 (hV 34 _ (by first | decide | (show _ < 1; omega))) rfl rfl rfl (g_lin (a := 12) hb1 hs1) (show 12 * tN b + tN a < 72 by omega) dX7_open_136 (fun H locs G => ?_)
                refine lv_aload_n S.1 S.2.1 dX7_open_137 rfl (lv_at hl 3 rfl) ?_
                refine g_get S G 8 15 (hV 8 _ (by first | decide | (show _ < 1; omega))) (by decide) (by decide) i8 (S.2.2.2.2 (.fieldLink RX7 50 "SensorBondModel" "aside" "[I") (by decide +kernel)) (gvk_or (j := 0) rfl rfl (by omega)) dX7_open_138 ?_
                refine lv_iload S.1 S.2.1 dX7_open_141 (lv_at hl 0 rfl) ?_
                refine lv_iload_n S.1 S.2.1 dX7_open_143 rfl (lv_at hl 6 rfl) ?_
                refine lv_aload_n S.1 S.2.1 dX7_open_144 rfl (lv_at hl 3 rfl) ?_
                refine g_get S G 8 8 (hV 8 _ (by first | decide | (show _ < 1; omega))) (by decide) (by decide) i8 (S.2.2.2.2 (.fieldLink RX7 31 "SensorBondModel" "price" "[I") (by decide +kernel)) (gvk_or (j := 0) rfl rfl (by omega)) dX7_open_145 ?_
                refine lv_iload_n S.1 S.2.1 dX7_open_148 rfl (lv_at hl 5 rfl) ?_
                refine k_iald S G 28 (hV 28 _ (by first | decide | (show _ < 1; omega))) rfl rfl rfl hs1 (show tN a < 12 by omega) dX7_open_149 ?_
                refine lv_imul S.1 S.2.1 dX7_open_150 ?_
                refine k_iast S G 35 (hV 35 _ (by first | decide | (show _ < 1; omega))) rfl rfl rfl (g_lin (a := 12) hb1 hs1) (show 12 * tN b + tN a < 72 by omega) dX7_open_151 (fun H locs G => ?_)
                refine lv_aload_n S.1 S.2.1 dX7_open_152 rfl (lv_at hl 3 rfl) ?_
                refine g_get S G 8 10 (hV 8 _ (by first | decide | (show _ < 1; omega))) (by decide) (by decide) i8 (S.2.2.2.2 (.fieldLink RX7 37 "SensorBondModel" "purse" "[I") (by decide +kernel)) (gvk_or (j := 0) rfl rfl (by omega)) dX7_open_153 ?_
                refine lv_iload_n S.1 S.2.1 dX7_open_156 rfl (lv_at hl 4 rfl) ?_
                refine lv_dup2_11 S.1 S.2.1 dX7_open_157 rfl rfl ?_
                refine k_iald S G 30 (hV 30 _ (by first | decide | (show _ < 1; omega))) rfl rfl rfl hb1 (show tN b < 6 by omega) dX7_open_158 ?_
                refine lv_iload_n S.1 S.2.1 dX7_open_159 rfl (lv_at hl 6 rfl) ?_
                refine lv_aload_n S.1 S.2.1 dX7_open_160 rfl (lv_at hl 3 rfl) ?_
                refine g_get S G 8 8 (hV 8 _ (by first | decide | (show _ < 1; omega))) (by decide) (by decide) i8 (S.2.2.2.2 (.fieldLink RX7 31 "SensorBondModel" "price" "[I") (by decide +kernel)) (gvk_or (j := 0) rfl rfl (by omega)) dX7_open_161 ?_
                refine lv_iload_n S.1 S.2.1 dX7_open_164 rfl (lv_at hl 5 rfl) ?_
                refine k_iald S G 28 (hV 28 _ (by first | decide | (show _ < 1; omega))) rfl rfl rfl hs1 (show tN a < 12 by omega) dX7_open_165 ?_
                refine lv_imul S.1 S.2.1 dX7_open_166 ?_
                refine lv_isub S.1 S.2.1 dX7_open_167 ?_
                refine k_iast S G 30 (hV 30 _ (by first | decide | (show _ < 1; omega))) rfl rfl rfl hb1 (show tN b < 6 by omega) dX7_open_168 (fun H locs G => ?_)
                refine lv_aload_n S.1 S.2.1 dX7_open_169 rfl (lv_at hl 3 rfl) ?_
                refine g_get S G 8 13 (hV 8 _ (by first | decide | (show _ < 1; omega))) (by decide) (by decide) i8 (S.2.2.2.2 (.fieldLink RX7 44 "SensorBondModel" "lastTick" "[I") (by decide +kernel)) (gvk_or (j := 0) rfl rfl (by omega)) dX7_open_170 ?_
                refine lv_iload S.1 S.2.1 dX7_open_173 (lv_at hl 0 rfl) ?_
                refine k_iald S G 33 (hV 33 _ (by first | decide | (show _ < 1; omega))) rfl rfl rfl (g_lin (a := 12) hb1 hs1) (show 12 * tN b + tN a < 72 by omega) dX7_open_175 ?_
                refine g_top (show _ = κ 8 0 0 + t - 1 by simp (config := { decide := true }) only [upd3_f, upd3_s]; rfl) ?_
                exact g_iret S G hr hlk (by rw [hT]; exact ⟨(if_pos rfl).symm, congrArg (fun z => (ids, ad, gk z)) (if_pos rfl).symm⟩) (Nat.le_of_ble_eq_true rfl) (Nat.le_of_ble_eq_true rfl) dX7_open_176
              · exact absurd c_88 (by decide)
            · refine lv_iconst (v := 3) S.1 S.2.1 dX7_open_80 (by decide) ?_
              refine lv_goto (tgt := 85) S.1 S.2.1 dX7_open_81 (by decide) ?_
              have hT : mOpenT κ b a t = 3 := by simp only [mOpenT, if_neg c_4, if_neg c_11, if_neg c_42, if_pos c_60, if_neg c_77] <;> decide
              refine g_cVi S G hF hl 8 (hV 8 _ (by first | decide | (show _ < 1; omega))) (by decide) (c_X7_can l ids ad _ _ hV) (cwV 1 S.2.2.2.2 gX7_open_X7_can rfl rfl rfl (by decide +kernel) ⟨Nat.le_of_ble_eq_true rfl, Nat.le_of_ble_eq_true rfl⟩) rfl rfl (Nat.le_of_ble_eq_true rfl) dX7_open_85 ⟨Nat.le_of_ble_eq_true rfl, Nat.le_of_ble_eq_true rfl⟩ (fun r_85 u_85 H locs hp_85 G => ?_)
              obtain ⟨rfl, rfl⟩ := hp_85
              have G : gS D aC A s ids ad (gk _) H locs := G
              refine lv_if_ne (tgt := 93) S.1 S.2.1 dX7_open_88 (by decide) (fun c_88 => ?_) (fun c_88 => ?_)
              · exact absurd c_88 (by decide)
              · refine lv_iconst (v := 0) S.1 S.2.1 dX7_open_91 (by decide) ?_
                exact g_iret S G hr hlk (by rw [hT]; exact ⟨(if_neg (by decide)).symm, congrArg (fun z => (ids, ad, gk z)) (if_neg (by decide)).symm⟩) (Nat.le_of_ble_eq_true rfl) (Nat.le_of_ble_eq_true rfl) dX7_open_92
        · refine lv_iconst (v := 2) S.1 S.2.1 dX7_open_45 (by decide) ?_
          refine lv_goto (tgt := 85) S.1 S.2.1 dX7_open_46 (by decide) ?_
          have hT : mOpenT κ b a t = 2 := by simp only [mOpenT, if_neg c_4, if_neg c_11, if_pos c_42] <;> decide
          refine g_cVi S G hF hl 8 (hV 8 _ (by first | decide | (show _ < 1; omega))) (by decide) (c_X7_can l ids ad _ _ hV) (cwV 1 S.2.2.2.2 gX7_open_X7_can rfl rfl rfl (by decide +kernel) ⟨Nat.le_of_ble_eq_true rfl, Nat.le_of_ble_eq_true rfl⟩) rfl rfl (Nat.le_of_ble_eq_true rfl) dX7_open_85 ⟨Nat.le_of_ble_eq_true rfl, Nat.le_of_ble_eq_true rfl⟩ (fun r_85 u_85 H locs hp_85 G => ?_)
          obtain ⟨rfl, rfl⟩ := hp_85
          have G : gS D aC A s ids ad (gk _) H locs := G
          refine lv_if_ne (tgt := 93) S.1 S.2.1 dX7_open_88 (by decide) (fun c_88 => ?_) (fun c_88 => ?_)
          · exact absurd c_88 (by decide)
          · refine lv_iconst (v := 0) S.1 S.2.1 dX7_open_91 (by decide) ?_
            exact g_iret S G hr hlk (by rw [hT]; exact ⟨(if_neg (by decide)).symm, congrArg (fun z => (ids, ad, gk z)) (if_neg (by decide)).symm⟩) (Nat.le_of_ble_eq_true rfl) (Nat.le_of_ble_eq_true rfl) dX7_open_92
      · exact absurd c_33 (by decide)
set_option maxHeartbeats 4000000 in
set_option maxRecDepth 100000 in
theorem c_X7_challenge (l : Launch) (ids : gIds) (ad : gAd) (κ : gMem) (b x : Int32) (hV : mV ids) (hW : mWF κ)  : gMi l yX7_challenge wsX7_challenge ({ frames := 3, cells := 0, slots := 0, locals := 66 } : Room) 0 0 [.ref (ad 8 0), .int b, .int x] (ids, ad, gk κ) (fun r u => r = (if mChallengeT κ b x = 0 then mNbs (κ 37 0 (tN x)) 12 else 0) ∧ u = (ids, ad, gk (if mChallengeT κ b x = 0 then mChallengeK (mCan κ 0) b (tN x) else mCan κ (mChallengeT κ b x)))) := by
  intro D aC A
  refine g_of (cc := cX7_challenge) (maxL := 4) (ret := (some .int)) (by decide +kernel) rfl (Nat.le_of_ble_eq_true rfl) ?_
  intro p e s m below meth c ls S G hF hr hlk hnm hl
  have hl : lv_has ls 4 [(0, _), (1, _), (2, _)] := hl
  have i8 : ∀ w ∈ wsX70, w ∈ wsX7_challenge := by decide +kernel
  refine lv_iload_n S.1 S.2.1 dX7_challenge_0 rfl (lv_at hl 1 rfl) ?_
  refine g_cSi S G hF hl (c_X7_isBuyer l ids ad _ _) (va_cwS 1 S.2.2.2.2 gX7_challenge_X7_isBuyer rfl rfl rfl (by decide +kernel) ⟨Nat.le_of_ble_eq_true rfl, Nat.le_of_ble_eq_true rfl⟩) rfl rfl (Nat.le_of_ble_eq_true rfl) dX7_challenge_1 ⟨Nat.le_of_ble_eq_true rfl, Nat.le_of_ble_eq_true rfl⟩ (fun r_1 u_1 H locs hp_1 G => ?_)
  obtain ⟨rfl, rfl⟩ := hp_1
  have G : gS D aC A s ids ad (gk _) H locs := G
  refine lv_if_eq (tgt := 19) S.1 S.2.1 dX7_challenge_4 (by decide) (fun c_4 => ?_) (fun c_4 => ?_)
  · refine lv_iconst (v := 0) S.1 S.2.1 dX7_challenge_19 (by decide) ?_
    refine lv_istore_n (lv' := [(3, _), (0, _), (1, _), (2, _)]) S.1 S.2.1 dX7_challenge_20 rfl hl (by decide) rfl (fun ls hl => ?_)
    refine lv_aload_n S.1 S.2.1 dX7_challenge_21 rfl (lv_at hl 1 rfl) ?_
    refine lv_iload_n S.1 S.2.1 dX7_challenge_22 rfl (lv_at hl 0 rfl) ?_
    refine lv_if_ne (tgt := 30) S.1 S.2.1 dX7_challenge_23 (by decide) (fun c_23 => ?_) (fun c_23 => ?_)
    · exact absurd c_23 (by decide)
    · refine lv_iconst (v := 1) S.1 S.2.1 dX7_challenge_26 (by decide) ?_
      refine lv_goto (tgt := 54) S.1 S.2.1 dX7_challenge_27 (by decide) ?_
      have hT : mChallengeT κ b x = 1 := by simp only [mChallengeT, if_pos c_4] <;> decide
      refine g_cVi S G hF hl 8 (hV 8 _ (by first | decide | (show _ < 1; omega))) (by decide) (c_X7_can l ids ad _ _ hV) (cwV 1 S.2.2.2.2 gX7_challenge_X7_can rfl rfl rfl (by decide +kernel) ⟨Nat.le_of_ble_eq_true rfl, Nat.le_of_ble_eq_true rfl⟩) rfl rfl (Nat.le_of_ble_eq_true rfl) dX7_challenge_54 ⟨Nat.le_of_ble_eq_true rfl, Nat.le_of_ble_eq_true rfl⟩ (fun r_54 u_54 H locs hp_54 G => ?_)
      obtain ⟨rfl, rfl⟩ := hp_54
      have G : gS D aC A s ids ad (gk _) H locs := G
      refine lv_if_ne (tgt := 62) S.1 S.2.1 dX7_challenge_57 (by decide) (fun c_57 => ?_) (fun c_57 => ?_)
      · exact absurd c_57 (by decide)
      · refine lv_iconst (v := 0) S.1 S.2.1 dX7_challenge_60 (by decide) ?_
        exact g_iret S G hr hlk (by rw [hT]; exact ⟨(if_neg (by decide)).symm, congrArg (fun z => (ids, ad, gk z)) (if_neg (by decide)).symm⟩) (Nat.le_of_ble_eq_true rfl) (Nat.le_of_ble_eq_true rfl) dX7_challenge_61
  · refine lv_aload_n S.1 S.2.1 dX7_challenge_7 rfl (lv_at hl 0 rfl) ?_
    refine lv_iload_n S.1 S.2.1 dX7_challenge_8 rfl (lv_at hl 2 rfl) ?_
    refine g_cVi S G hF hl 8 (hV 8 _ (by first | decide | (show _ < 1; omega))) (by decide) (c_X7_isReading l ids ad _ _ hV) (cwV 1 S.2.2.2.2 gX7_challenge_X7_isReading rfl rfl rfl (by decide +kernel) ⟨Nat.le_of_ble_eq_true rfl, Nat.le_of_ble_eq_true rfl⟩) rfl rfl (Nat.le_of_ble_eq_true rfl) dX7_challenge_9 ⟨Nat.le_of_ble_eq_true rfl, Nat.le_of_ble_eq_true rfl⟩ (fun r_9 u_9 H locs hp_9 G => ?_)
    obtain ⟨rfl, rfl⟩ := hp_9
    have G : gS D aC A s ids ad (gk _) H locs := G
    refine lv_if_eq (tgt := 19) S.1 S.2.1 dX7_challenge_12 (by decide) (fun c_12 => ?_) (fun c_12 => ?_)
    · refine lv_iconst (v := 0) S.1 S.2.1 dX7_challenge_19 (by decide) ?_
      refine lv_istore_n (lv' := [(3, _), (0, _), (1, _), (2, _)]) S.1 S.2.1 dX7_challenge_20 rfl hl (by decide) rfl (fun ls hl => ?_)
      refine lv_aload_n S.1 S.2.1 dX7_challenge_21 rfl (lv_at hl 1 rfl) ?_
      refine lv_iload_n S.1 S.2.1 dX7_challenge_22 rfl (lv_at hl 0 rfl) ?_
      refine lv_if_ne (tgt := 30) S.1 S.2.1 dX7_challenge_23 (by decide) (fun c_23 => ?_) (fun c_23 => ?_)
      · exact absurd c_23 (by decide)
      · refine lv_iconst (v := 1) S.1 S.2.1 dX7_challenge_26 (by decide) ?_
        refine lv_goto (tgt := 54) S.1 S.2.1 dX7_challenge_27 (by decide) ?_
        have hT : mChallengeT κ b x = 1 := by simp only [mChallengeT, if_neg c_4, if_pos c_12] <;> decide
        refine g_cVi S G hF hl 8 (hV 8 _ (by first | decide | (show _ < 1; omega))) (by decide) (c_X7_can l ids ad _ _ hV) (cwV 1 S.2.2.2.2 gX7_challenge_X7_can rfl rfl rfl (by decide +kernel) ⟨Nat.le_of_ble_eq_true rfl, Nat.le_of_ble_eq_true rfl⟩) rfl rfl (Nat.le_of_ble_eq_true rfl) dX7_challenge_54 ⟨Nat.le_of_ble_eq_true rfl, Nat.le_of_ble_eq_true rfl⟩ (fun r_54 u_54 H locs hp_54 G => ?_)
        obtain ⟨rfl, rfl⟩ := hp_54
        have G : gS D aC A s ids ad (gk _) H locs := G
        refine lv_if_ne (tgt := 62) S.1 S.2.1 dX7_challenge_57 (by decide) (fun c_57 => ?_) (fun c_57 => ?_)
        · exact absurd c_57 (by decide)
        · refine lv_iconst (v := 0) S.1 S.2.1 dX7_challenge_60 (by decide) ?_
          exact g_iret S G hr hlk (by rw [hT]; exact ⟨(if_neg (by decide)).symm, congrArg (fun z => (ids, ad, gk z)) (if_neg (by decide)).symm⟩) (Nat.le_of_ble_eq_true rfl) (Nat.le_of_ble_eq_true rfl) dX7_challenge_61
    · obtain ⟨hb1, hb2⟩ := mIn_rng (m := 5) c_4 (by decide)
      obtain ⟨hn, hn80⟩ := hW.rd
      obtain ⟨hx, hxn⟩ := mIn_rd (n := tN (κ 8 0 16)) (by rw [← hn]; exact c_12) hn80
      refine lv_iconst (v := 1) S.1 S.2.1 dX7_challenge_15 (by decide) ?_
      refine lv_goto (tgt := 20) S.1 S.2.1 dX7_challenge_16 (by decide) ?_
      refine lv_istore_n (lv' := [(3, _), (0, _), (1, _), (2, _)]) S.1 S.2.1 dX7_challenge_20 rfl hl (by decide) rfl (fun ls hl => ?_)
      refine lv_aload_n S.1 S.2.1 dX7_challenge_21 rfl (lv_at hl 1 rfl) ?_
      refine lv_iload_n S.1 S.2.1 dX7_challenge_22 rfl (lv_at hl 0 rfl) ?_
      refine lv_if_ne (tgt := 30) S.1 S.2.1 dX7_challenge_23 (by decide) (fun c_23 => ?_) (fun c_23 => ?_)
      · refine lv_aload_n S.1 S.2.1 dX7_challenge_30 rfl (lv_at hl 1 rfl) ?_
        refine g_get S G 8 19 (hV 8 _ (by first | decide | (show _ < 1; omega))) (by decide) (by decide) i8 (S.2.2.2.2 (.fieldLink RX7 59 "SensorBondModel" "state" "[I") (by decide +kernel)) (gvk_or (j := 0) rfl rfl (by omega)) dX7_challenge_31 ?_
        refine lv_iload_n S.1 S.2.1 dX7_challenge_34 rfl (lv_at hl 3 rfl) ?_
        refine k_iald S G 39 (hV 39 _ (by first | decide | (show _ < 1; omega))) rfl rfl rfl hx (show tN x < 80 by omega) dX7_challenge_35 ?_
        refine lv_if_ne (tgt := 49) S.1 S.2.1 dX7_challenge_36 (by decide) (fun c_36 => ?_) (fun c_36 => ?_)
        · refine lv_iconst (v := 2) S.1 S.2.1 dX7_challenge_49 (by decide) ?_
          refine lv_goto (tgt := 54) S.1 S.2.1 dX7_challenge_50 (by decide) ?_
          have hT : mChallengeT κ b x = 2 := by simp only [mChallengeT, if_neg c_4, if_neg c_12, if_neg c_36] <;> decide
          refine g_cVi S G hF hl 8 (hV 8 _ (by first | decide | (show _ < 1; omega))) (by decide) (c_X7_can l ids ad _ _ hV) (cwV 1 S.2.2.2.2 gX7_challenge_X7_can rfl rfl rfl (by decide +kernel) ⟨Nat.le_of_ble_eq_true rfl, Nat.le_of_ble_eq_true rfl⟩) rfl rfl (Nat.le_of_ble_eq_true rfl) dX7_challenge_54 ⟨Nat.le_of_ble_eq_true rfl, Nat.le_of_ble_eq_true rfl⟩ (fun r_54 u_54 H locs hp_54 G => ?_)
          obtain ⟨rfl, rfl⟩ := hp_54
          have G : gS D aC A s ids ad (gk _) H locs := G
          refine lv_if_ne (tgt := 62) S.1 S.2.1 dX7_challenge_57 (by decide) (fun c_57 => ?_) (fun c_57 => ?_)
          · exact absurd c_57 (by decide)
          · refine lv_iconst (v := 0) S.1 S.2.1 dX7_challenge_60 (by decide) ?_
            exact g_iret S G hr hlk (by rw [hT]; exact ⟨(if_neg (by decide)).symm, congrArg (fun z => (ids, ad, gk z)) (if_neg (by decide)).symm⟩) (Nat.le_of_ble_eq_true rfl) (Nat.le_of_ble_eq_true rfl) dX7_challenge_61
        · refine lv_aload_n S.1 S.2.1 dX7_challenge_39 rfl (lv_at hl 1 rfl) ?_
          refine g_get S G 8 10 (hV 8 _ (by first | decide | (show _ < 1; omega))) (by decide) (by decide) i8 (S.2.2.2.2 (.fieldLink RX7 37 "SensorBondModel" "purse" "[I") (by decide +kernel)) (gvk_or (j := 0) rfl rfl (by omega)) dX7_challenge_40 ?_
          refine lv_iload_n S.1 S.2.1 dX7_challenge_43 rfl (lv_at hl 2 rfl) ?_
          refine k_iald S G 30 (hV 30 _ (by first | decide | (show _ < 1; omega))) rfl rfl rfl hb1 (show tN b < 6 by omega) dX7_challenge_44 ?_
          refine lv_iconst (v := 4) S.1 S.2.1 dX7_challenge_45 (by decide) ?_
          refine lv_icmp_ge (tgt := 53) S.1 S.2.1 dX7_challenge_46 (by decide) (fun c_46 => ?_) (fun c_46 => ?_)
          · refine lv_iconst (v := 0) S.1 S.2.1 dX7_challenge_53 (by decide) ?_
            have hT : mChallengeT κ b x = 0 := by simp only [mChallengeT, if_neg c_4, if_neg c_12, if_pos c_36, if_pos c_46] <;> decide
            refine g_cVi S G hF hl 8 (hV 8 _ (by first | decide | (show _ < 1; omega))) (by decide) (c_X7_can l ids ad _ _ hV) (cwV 1 S.2.2.2.2 gX7_challenge_X7_can rfl rfl rfl (by decide +kernel) ⟨Nat.le_of_ble_eq_true rfl, Nat.le_of_ble_eq_true rfl⟩) rfl rfl (Nat.le_of_ble_eq_true rfl) dX7_challenge_54 ⟨Nat.le_of_ble_eq_true rfl, Nat.le_of_ble_eq_true rfl⟩ (fun r_54 u_54 H locs hp_54 G => ?_)
            obtain ⟨rfl, rfl⟩ := hp_54
            have G : gS D aC A s ids ad (gk _) H locs := G
            refine lv_if_ne (tgt := 62) S.1 S.2.1 dX7_challenge_57 (by decide) (fun c_57 => ?_) (fun c_57 => ?_)
            · refine lv_aload_n S.1 S.2.1 dX7_challenge_62 rfl (lv_at hl 1 rfl) ?_
              refine g_get S G 8 10 (hV 8 _ (by first | decide | (show _ < 1; omega))) (by decide) (by decide) i8 (S.2.2.2.2 (.fieldLink RX7 37 "SensorBondModel" "purse" "[I") (by decide +kernel)) (gvk_or (j := 0) rfl rfl (by omega)) dX7_challenge_63 ?_
              refine lv_iload_n S.1 S.2.1 dX7_challenge_66 rfl (lv_at hl 2 rfl) ?_
              refine lv_dup2_11 S.1 S.2.1 dX7_challenge_67 rfl rfl ?_
              refine k_iald S G 30 (hV 30 _ (by first | decide | (show _ < 1; omega))) rfl rfl rfl hb1 (show tN b < 6 by omega) dX7_challenge_68 ?_
              refine lv_iconst (v := 4) S.1 S.2.1 dX7_challenge_69 (by decide) ?_
              refine lv_isub S.1 S.2.1 dX7_challenge_70 ?_
              refine k_iast S G 30 (hV 30 _ (by first | decide | (show _ < 1; omega))) rfl rfl rfl hb1 (show tN b < 6 by omega) dX7_challenge_71 (fun H locs G => ?_)
              refine lv_aload_n S.1 S.2.1 dX7_challenge_72 rfl (lv_at hl 1 rfl) ?_
              refine g_get S G 8 19 (hV 8 _ (by first | decide | (show _ < 1; omega))) (by decide) (by decide) i8 (S.2.2.2.2 (.fieldLink RX7 59 "SensorBondModel" "state" "[I") (by decide +kernel)) (gvk_or (j := 0) rfl rfl (by omega)) dX7_challenge_73 ?_
              refine lv_iload_n S.1 S.2.1 dX7_challenge_76 rfl (lv_at hl 3 rfl) ?_
              refine lv_iconst (v := 1) S.1 S.2.1 dX7_challenge_77 (by decide) ?_
              refine k_iast S G 39 (hV 39 _ (by first | decide | (show _ < 1; omega))) rfl rfl rfl hx (show tN x < 80 by omega) dX7_challenge_78 (fun H locs G => ?_)
              refine lv_aload_n S.1 S.2.1 dX7_challenge_79 rfl (lv_at hl 1 rfl) ?_
              refine g_get S G 8 22 (hV 8 _ (by first | decide | (show _ < 1; omega))) (by decide) (by decide) i8 (S.2.2.2.2 (.fieldLink RX7 68 "SensorBondModel" "challenger" "[I") (by decide +kernel)) (gvk_or (j := 0) rfl rfl (by omega)) dX7_challenge_80 ?_
              refine lv_iload_n S.1 S.2.1 dX7_challenge_83 rfl (lv_at hl 3 rfl) ?_
              refine lv_iload_n S.1 S.2.1 dX7_challenge_84 rfl (lv_at hl 2 rfl) ?_
              refine k_iast S G 42 (hV 42 _ (by first | decide | (show _ < 1; omega))) rfl rfl rfl hx (show tN x < 80 by omega) dX7_challenge_85 (fun H locs G => ?_)
              refine lv_aload_n S.1 S.2.1 dX7_challenge_86 rfl (lv_at hl 1 rfl) ?_
              refine g_get S G 8 21 (hV 8 _ (by first | decide | (show _ < 1; omega))) (by decide) (by decide) i8 (S.2.2.2.2 (.fieldLink RX7 65 "SensorBondModel" "since" "[I") (by decide +kernel)) (gvk_or (j := 0) rfl rfl (by omega)) dX7_challenge_87 ?_
              refine lv_iload_n S.1 S.2.1 dX7_challenge_90 rfl (lv_at hl 3 rfl) ?_
              refine lv_aload_n S.1 S.2.1 dX7_challenge_91 rfl (lv_at hl 1 rfl) ?_
              refine g_get S G 8 0 (hV 8 _ (by first | decide | (show _ < 1; omega))) (by decide) (by decide) i8 (S.2.2.2.2 (.fieldLink RX7 109 "SensorBondModel" "tick" "I") (by decide +kernel)) (gvk_i rfl rfl) dX7_challenge_92 ?_
              refine k_iast S G 41 (hV 41 _ (by first | decide | (show _ < 1; omega))) rfl rfl rfl hx (show tN x < 80 by omega) dX7_challenge_95 (fun H locs G => ?_)
              refine lv_aload_n S.1 S.2.1 dX7_challenge_96 rfl (lv_at hl 1 rfl) ?_
              refine g_get S G 8 17 (hV 8 _ (by first | decide | (show _ < 1; omega))) (by decide) (by decide) i8 (S.2.2.2.2 (.fieldLink RX7 53 "SensorBondModel" "by" "[I") (by decide +kernel)) (gvk_or (j := 0) rfl rfl (by omega)) dX7_challenge_97 ?_
              refine lv_iload_n S.1 S.2.1 dX7_challenge_100 rfl (lv_at hl 3 rfl) ?_
              refine k_iald S G 37 (hV 37 _ (by first | decide | (show _ < 1; omega))) rfl rfl rfl hx (show tN x < 80 by omega) dX7_challenge_101 ?_
              refine g_cSi S G hF hl (c_X7_neighboursOf l ids ad _ _) (va_cwS 1 S.2.2.2.2 gX7_challenge_X7_neighboursOf rfl rfl rfl (by decide +kernel) ⟨Nat.le_of_ble_eq_true rfl, Nat.le_of_ble_eq_true rfl⟩) rfl rfl (Nat.le_of_ble_eq_true rfl) dX7_challenge_102 ⟨Nat.le_of_ble_eq_true rfl, Nat.le_of_ble_eq_true rfl⟩ (fun r_102 u_102 H locs hp_102 G => ?_)
              obtain ⟨rfl, rfl⟩ := hp_102
              have G : gS D aC A s ids ad (gk _) H locs := G
              exact g_iret S G hr hlk (by rw [hT]; exact ⟨(if_pos rfl).symm, congrArg (fun z => (ids, ad, gk z)) (if_pos rfl).symm⟩) (Nat.le_of_ble_eq_true rfl) (Nat.le_of_ble_eq_true rfl) dX7_challenge_105
            · exact absurd c_57 (by decide)
          · refine lv_iconst (v := 2) S.1 S.2.1 dX7_challenge_49 (by decide) ?_
            refine lv_goto (tgt := 54) S.1 S.2.1 dX7_challenge_50 (by decide) ?_
            have hT : mChallengeT κ b x = 2 := by simp only [mChallengeT, if_neg c_4, if_neg c_12, if_pos c_36, if_neg c_46] <;> decide
            refine g_cVi S G hF hl 8 (hV 8 _ (by first | decide | (show _ < 1; omega))) (by decide) (c_X7_can l ids ad _ _ hV) (cwV 1 S.2.2.2.2 gX7_challenge_X7_can rfl rfl rfl (by decide +kernel) ⟨Nat.le_of_ble_eq_true rfl, Nat.le_of_ble_eq_true rfl⟩) rfl rfl (Nat.le_of_ble_eq_true rfl) dX7_challenge_54 ⟨Nat.le_of_ble_eq_true rfl, Nat.le_of_ble_eq_true rfl⟩ (fun r_54 u_54 H locs hp_54 G => ?_)
            obtain ⟨rfl, rfl⟩ := hp_54
            have G : gS D aC A s ids ad (gk _) H locs := G
            refine lv_if_ne (tgt := 62) S.1 S.2.1 dX7_challenge_57 (by decide) (fun c_57 => ?_) (fun c_57 => ?_)
            · exact absurd c_57 (by decide)
            · refine lv_iconst (v := 0) S.1 S.2.1 dX7_challenge_60 (by decide) ?_
              exact g_iret S G hr hlk (by rw [hT]; exact ⟨(if_neg (by decide)).symm, congrArg (fun z => (ids, ad, gk z)) (if_neg (by decide)).symm⟩) (Nat.le_of_ble_eq_true rfl) (Nat.le_of_ble_eq_true rfl) dX7_challenge_61
      · exact absurd c_23 (by decide)
set_option maxHeartbeats 4000000 in
set_option maxRecDepth 100000 in
theorem c_X7_sample (l : Launch) (ids : gIds) (ad : gAd) (κ : gMem) (a x v : Int32) (hV : mV ids) (hW : mWF κ)  : gMi l yX7_sample wsX7_sample ({ frames := 3, cells := 0, slots := 0, locals := 73 } : Room) 0 0 [.ref (ad 8 0), .int a, .int x, .int v] (ids, ad, gk κ) (fun r u => r = (if mSampleT κ a x v = 0 then mSampleK (mCan κ 0) (tN a) (tN x) v 39 0 (tN x) else 0) ∧ u = (ids, ad, gk (if mSampleT κ a x v = 0 then mSampleK (mCan κ 0) (tN a) (tN x) v else mCan κ (mSampleT κ a x v)))) := by
  intro D aC A
  refine g_of (cc := cX7_sample) (maxL := 6) (ret := (some .int)) (by decide +kernel) rfl (Nat.le_of_ble_eq_true rfl) ?_
  intro p e s m below meth c ls S G hF hr hlk hnm hl
  have hl : lv_has ls 6 [(0, _), (1, _), (2, _), (3, _)] := hl
  have i8 : ∀ w ∈ wsX70, w ∈ wsX7_sample := by decide +kernel
  refine lv_iload_n S.1 S.2.1 dX7_sample_0 rfl (lv_at hl 1 rfl) ?_
  refine g_cSi S G hF hl (c_X7_isSensor l ids ad _ _) (va_cwS 1 S.2.2.2.2 gX7_sample_X7_isSensor rfl rfl rfl (by decide +kernel) ⟨Nat.le_of_ble_eq_true rfl, Nat.le_of_ble_eq_true rfl⟩) rfl rfl (Nat.le_of_ble_eq_true rfl) dX7_sample_1 ⟨Nat.le_of_ble_eq_true rfl, Nat.le_of_ble_eq_true rfl⟩ (fun r_1 u_1 H locs hp_1 G => ?_)
  obtain ⟨rfl, rfl⟩ := hp_1
  have G : gS D aC A s ids ad (gk _) H locs := G
  refine lv_if_eq (tgt := 19) S.1 S.2.1 dX7_sample_4 (by decide) (fun c_4 => ?_) (fun c_4 => ?_)
  · refine lv_iconst (v := 0) S.1 S.2.1 dX7_sample_19 (by decide) ?_
    refine lv_istore (lv' := [(4, _), (0, _), (1, _), (2, _), (3, _)]) S.1 S.2.1 dX7_sample_20 hl (by decide) rfl (fun ls hl => ?_)
    refine lv_iload S.1 S.2.1 dX7_sample_22 (lv_at hl 0 rfl) ?_
    refine lv_if_eq (tgt := 69) S.1 S.2.1 dX7_sample_24 (by decide) (fun c_24 => ?_) (fun c_24 => ?_)
    · refine lv_iconst (v := 0) S.1 S.2.1 dX7_sample_69 (by decide) ?_
      have hB : mSampleC κ a x = 0 := by simp only [mSampleC, if_pos c_4]
      refine lv_istore (lv' := [(5, _), (4, _), (0, _), (1, _), (2, _), (3, _)]) S.1 S.2.1 dX7_sample_70 hl (by decide) rfl (fun ls hl => ?_)
      refine lv_aload_n S.1 S.2.1 dX7_sample_72 rfl (lv_at hl 2 rfl) ?_
      refine lv_iload S.1 S.2.1 dX7_sample_73 (lv_at hl 1 rfl) ?_
      refine lv_if_ne (tgt := 82) S.1 S.2.1 dX7_sample_75 (by decide) (fun c_75 => ?_) (fun c_75 => ?_)
      · exact absurd c_75 (by decide)
      · refine lv_iconst (v := 1) S.1 S.2.1 dX7_sample_78 (by decide) ?_
        refine lv_goto (tgt := 103) S.1 S.2.1 dX7_sample_79 (by decide) ?_
        have hT : mSampleT κ a x v = 1 := by simp only [mSampleT, hB, if_pos c_4] <;> decide
        refine g_cVi S G hF hl 8 (hV 8 _ (by first | decide | (show _ < 1; omega))) (by decide) (c_X7_can l ids ad _ _ hV) (cwV 1 S.2.2.2.2 gX7_sample_X7_can rfl rfl rfl (by decide +kernel) ⟨Nat.le_of_ble_eq_true rfl, Nat.le_of_ble_eq_true rfl⟩) rfl rfl (Nat.le_of_ble_eq_true rfl) dX7_sample_103 ⟨Nat.le_of_ble_eq_true rfl, Nat.le_of_ble_eq_true rfl⟩ (fun r_103 u_103 H locs hp_103 G => ?_)
        obtain ⟨rfl, rfl⟩ := hp_103
        have G : gS D aC A s ids ad (gk _) H locs := G
        refine lv_if_ne (tgt := 111) S.1 S.2.1 dX7_sample_106 (by decide) (fun c_106 => ?_) (fun c_106 => ?_)
        · exact absurd c_106 (by decide)
        · refine lv_iconst (v := 0) S.1 S.2.1 dX7_sample_109 (by decide) ?_
          exact g_iret S G hr hlk (by rw [hT]; exact ⟨(if_neg (by decide)).symm, congrArg (fun z => (ids, ad, gk z)) (if_neg (by decide)).symm⟩) (Nat.le_of_ble_eq_true rfl) (Nat.le_of_ble_eq_true rfl) dX7_sample_110
    · exact absurd c_24 (by decide)
  · refine lv_aload_n S.1 S.2.1 dX7_sample_7 rfl (lv_at hl 0 rfl) ?_
    refine lv_iload_n S.1 S.2.1 dX7_sample_8 rfl (lv_at hl 2 rfl) ?_
    refine g_cVi S G hF hl 8 (hV 8 _ (by first | decide | (show _ < 1; omega))) (by decide) (c_X7_isReading l ids ad _ _ hV) (cwV 1 S.2.2.2.2 gX7_sample_X7_isReading rfl rfl rfl (by decide +kernel) ⟨Nat.le_of_ble_eq_true rfl, Nat.le_of_ble_eq_true rfl⟩) rfl rfl (Nat.le_of_ble_eq_true rfl) dX7_sample_9 ⟨Nat.le_of_ble_eq_true rfl, Nat.le_of_ble_eq_true rfl⟩ (fun r_9 u_9 H locs hp_9 G => ?_)
    obtain ⟨rfl, rfl⟩ := hp_9
    have G : gS D aC A s ids ad (gk _) H locs := G
    refine lv_if_eq (tgt := 19) S.1 S.2.1 dX7_sample_12 (by decide) (fun c_12 => ?_) (fun c_12 => ?_)
    · refine lv_iconst (v := 0) S.1 S.2.1 dX7_sample_19 (by decide) ?_
      refine lv_istore (lv' := [(4, _), (0, _), (1, _), (2, _), (3, _)]) S.1 S.2.1 dX7_sample_20 hl (by decide) rfl (fun ls hl => ?_)
      refine lv_iload S.1 S.2.1 dX7_sample_22 (lv_at hl 0 rfl) ?_
      refine lv_if_eq (tgt := 69) S.1 S.2.1 dX7_sample_24 (by decide) (fun c_24 => ?_) (fun c_24 => ?_)
      · refine lv_iconst (v := 0) S.1 S.2.1 dX7_sample_69 (by decide) ?_
        have hB : mSampleC κ a x = 0 := by simp only [mSampleC, if_neg c_4, if_pos c_12]
        refine lv_istore (lv' := [(5, _), (4, _), (0, _), (1, _), (2, _), (3, _)]) S.1 S.2.1 dX7_sample_70 hl (by decide) rfl (fun ls hl => ?_)
        refine lv_aload_n S.1 S.2.1 dX7_sample_72 rfl (lv_at hl 2 rfl) ?_
        refine lv_iload S.1 S.2.1 dX7_sample_73 (lv_at hl 1 rfl) ?_
        refine lv_if_ne (tgt := 82) S.1 S.2.1 dX7_sample_75 (by decide) (fun c_75 => ?_) (fun c_75 => ?_)
        · exact absurd c_75 (by decide)
        · refine lv_iconst (v := 1) S.1 S.2.1 dX7_sample_78 (by decide) ?_
          refine lv_goto (tgt := 103) S.1 S.2.1 dX7_sample_79 (by decide) ?_
          have hT : mSampleT κ a x v = 1 := by simp only [mSampleT, hB, if_neg c_4, if_pos c_12] <;> decide
          refine g_cVi S G hF hl 8 (hV 8 _ (by first | decide | (show _ < 1; omega))) (by decide) (c_X7_can l ids ad _ _ hV) (cwV 1 S.2.2.2.2 gX7_sample_X7_can rfl rfl rfl (by decide +kernel) ⟨Nat.le_of_ble_eq_true rfl, Nat.le_of_ble_eq_true rfl⟩) rfl rfl (Nat.le_of_ble_eq_true rfl) dX7_sample_103 ⟨Nat.le_of_ble_eq_true rfl, Nat.le_of_ble_eq_true rfl⟩ (fun r_103 u_103 H locs hp_103 G => ?_)
          obtain ⟨rfl, rfl⟩ := hp_103
          have G : gS D aC A s ids ad (gk _) H locs := G
          refine lv_if_ne (tgt := 111) S.1 S.2.1 dX7_sample_106 (by decide) (fun c_106 => ?_) (fun c_106 => ?_)
          · exact absurd c_106 (by decide)
          · refine lv_iconst (v := 0) S.1 S.2.1 dX7_sample_109 (by decide) ?_
            exact g_iret S G hr hlk (by rw [hT]; exact ⟨(if_neg (by decide)).symm, congrArg (fun z => (ids, ad, gk z)) (if_neg (by decide)).symm⟩) (Nat.le_of_ble_eq_true rfl) (Nat.le_of_ble_eq_true rfl) dX7_sample_110
      · exact absurd c_24 (by decide)
    · obtain ⟨hs1, hs2⟩ := mIn_rng (m := 11) c_4 (by decide)
      obtain ⟨hn, hn80⟩ := hW.rd
      obtain ⟨hx, hxn⟩ := mIn_rd (n := tN (κ 8 0 16)) (by rw [← hn]; exact c_12) hn80
      have hr80 : tN x < 80 := by omega
      refine lv_iconst (v := 1) S.1 S.2.1 dX7_sample_15 (by decide) ?_
      refine lv_goto (tgt := 20) S.1 S.2.1 dX7_sample_16 (by decide) ?_
      refine lv_istore (lv' := [(4, _), (0, _), (1, _), (2, _), (3, _)]) S.1 S.2.1 dX7_sample_20 hl (by decide) rfl (fun ls hl => ?_)
      refine lv_iload S.1 S.2.1 dX7_sample_22 (lv_at hl 0 rfl) ?_
      refine lv_if_eq (tgt := 69) S.1 S.2.1 dX7_sample_24 (by decide) (fun c_24 => ?_) (fun c_24 => ?_)
      · exact absurd c_24 (by decide)
      · refine lv_aload_n S.1 S.2.1 dX7_sample_27 rfl (lv_at hl 1 rfl) ?_
        refine g_get S G 8 19 (hV 8 _ (by first | decide | (show _ < 1; omega))) (by decide) (by decide) i8 (S.2.2.2.2 (.fieldLink RX7 59 "SensorBondModel" "state" "[I") (by decide +kernel)) (gvk_or (j := 0) rfl rfl (by omega)) dX7_sample_28 ?_
        refine lv_iload_n S.1 S.2.1 dX7_sample_31 rfl (lv_at hl 3 rfl) ?_
        refine k_iald S G 39 (hV 39 _ (by first | decide | (show _ < 1; omega))) rfl rfl rfl hx (show tN x < 80 by omega) dX7_sample_32 ?_
        refine lv_iconst (v := 1) S.1 S.2.1 dX7_sample_33 (by decide) ?_
        refine lv_icmp_ne (tgt := 69) S.1 S.2.1 dX7_sample_34 (by decide) (fun c_34 => ?_) (fun c_34 => ?_)
        · refine lv_iconst (v := 0) S.1 S.2.1 dX7_sample_69 (by decide) ?_
          have hB : mSampleC κ a x = 0 := by simp only [mSampleC, if_neg c_4, if_neg c_12, if_neg c_34]
          refine lv_istore (lv' := [(5, _), (4, _), (0, _), (1, _), (2, _), (3, _)]) S.1 S.2.1 dX7_sample_70 hl (by decide) rfl (fun ls hl => ?_)
          refine lv_aload_n S.1 S.2.1 dX7_sample_72 rfl (lv_at hl 2 rfl) ?_
          refine lv_iload S.1 S.2.1 dX7_sample_73 (lv_at hl 1 rfl) ?_
          refine lv_if_ne (tgt := 82) S.1 S.2.1 dX7_sample_75 (by decide) (fun c_75 => ?_) (fun c_75 => ?_)
          · refine lv_iload_n S.1 S.2.1 dX7_sample_82 rfl (lv_at hl 5 rfl) ?_
            refine g_cSi S G hF hl (c_X7_isValue l ids ad _ _) (va_cwS 1 S.2.2.2.2 gX7_sample_X7_isValue rfl rfl rfl (by decide +kernel) ⟨Nat.le_of_ble_eq_true rfl, Nat.le_of_ble_eq_true rfl⟩) rfl rfl (Nat.le_of_ble_eq_true rfl) dX7_sample_83 ⟨Nat.le_of_ble_eq_true rfl, Nat.le_of_ble_eq_true rfl⟩ (fun r_83 u_83 H locs hp_83 G => ?_)
            obtain ⟨rfl, rfl⟩ := hp_83
            have G : gS D aC A s ids ad (gk _) H locs := G
            refine lv_if_ne (tgt := 93) S.1 S.2.1 dX7_sample_86 (by decide) (fun c_86 => ?_) (fun c_86 => ?_)
            · refine lv_iload S.1 S.2.1 dX7_sample_93 (lv_at hl 0 rfl) ?_
              refine lv_if_eq (tgt := 102) S.1 S.2.1 dX7_sample_95 (by decide) (fun c_95 => ?_) (fun c_95 => ?_)
              · refine lv_iconst (v := 3) S.1 S.2.1 dX7_sample_102 (by decide) ?_
                have hT : mSampleT κ a x v = 3 := by simp only [mSampleT, hB, if_neg c_4, if_neg c_12, if_neg c_34, if_neg c_86] <;> decide
                refine g_cVi S G hF hl 8 (hV 8 _ (by first | decide | (show _ < 1; omega))) (by decide) (c_X7_can l ids ad _ _ hV) (cwV 1 S.2.2.2.2 gX7_sample_X7_can rfl rfl rfl (by decide +kernel) ⟨Nat.le_of_ble_eq_true rfl, Nat.le_of_ble_eq_true rfl⟩) rfl rfl (Nat.le_of_ble_eq_true rfl) dX7_sample_103 ⟨Nat.le_of_ble_eq_true rfl, Nat.le_of_ble_eq_true rfl⟩ (fun r_103 u_103 H locs hp_103 G => ?_)
                obtain ⟨rfl, rfl⟩ := hp_103
                have G : gS D aC A s ids ad (gk _) H locs := G
                refine lv_if_ne (tgt := 111) S.1 S.2.1 dX7_sample_106 (by decide) (fun c_106 => ?_) (fun c_106 => ?_)
                · exact absurd c_106 (by decide)
                · refine lv_iconst (v := 0) S.1 S.2.1 dX7_sample_109 (by decide) ?_
                  exact g_iret S G hr hlk (by rw [hT]; exact ⟨(if_neg (by decide)).symm, congrArg (fun z => (ids, ad, gk z)) (if_neg (by decide)).symm⟩) (Nat.le_of_ble_eq_true rfl) (Nat.le_of_ble_eq_true rfl) dX7_sample_110
              · exact absurd c_95 (by decide)
            · refine lv_iconst (v := 2) S.1 S.2.1 dX7_sample_89 (by decide) ?_
              refine lv_goto (tgt := 103) S.1 S.2.1 dX7_sample_90 (by decide) ?_
              have hT : mSampleT κ a x v = 2 := by simp only [mSampleT, hB, if_neg c_4, if_neg c_12, if_neg c_34, if_pos c_86] <;> decide
              refine g_cVi S G hF hl 8 (hV 8 _ (by first | decide | (show _ < 1; omega))) (by decide) (c_X7_can l ids ad _ _ hV) (cwV 1 S.2.2.2.2 gX7_sample_X7_can rfl rfl rfl (by decide +kernel) ⟨Nat.le_of_ble_eq_true rfl, Nat.le_of_ble_eq_true rfl⟩) rfl rfl (Nat.le_of_ble_eq_true rfl) dX7_sample_103 ⟨Nat.le_of_ble_eq_true rfl, Nat.le_of_ble_eq_true rfl⟩ (fun r_103 u_103 H locs hp_103 G => ?_)
              obtain ⟨rfl, rfl⟩ := hp_103
              have G : gS D aC A s ids ad (gk _) H locs := G
              refine lv_if_ne (tgt := 111) S.1 S.2.1 dX7_sample_106 (by decide) (fun c_106 => ?_) (fun c_106 => ?_)
              · exact absurd c_106 (by decide)
              · refine lv_iconst (v := 0) S.1 S.2.1 dX7_sample_109 (by decide) ?_
                exact g_iret S G hr hlk (by rw [hT]; exact ⟨(if_neg (by decide)).symm, congrArg (fun z => (ids, ad, gk z)) (if_neg (by decide)).symm⟩) (Nat.le_of_ble_eq_true rfl) (Nat.le_of_ble_eq_true rfl) dX7_sample_110
          · exact absurd c_75 (by decide)
        · refine lv_iload_n S.1 S.2.1 dX7_sample_37 rfl (lv_at hl 2 rfl) ?_
          refine lv_aload_n S.1 S.2.1 dX7_sample_38 rfl (lv_at hl 1 rfl) ?_
          refine g_get S G 8 17 (hV 8 _ (by first | decide | (show _ < 1; omega))) (by decide) (by decide) i8 (S.2.2.2.2 (.fieldLink RX7 53 "SensorBondModel" "by" "[I") (by decide +kernel)) (gvk_or (j := 0) rfl rfl (by omega)) dX7_sample_39 ?_
          refine lv_iload_n S.1 S.2.1 dX7_sample_42 rfl (lv_at hl 3 rfl) ?_
          refine k_iald S G 37 (hV 37 _ (by first | decide | (show _ < 1; omega))) rfl rfl rfl hx (show tN x < 80 by omega) dX7_sample_43 ?_
          refine g_cSi S G hF hl (c_X7_areNeighbours l ids ad _ _ _) (va_cwS 2 S.2.2.2.2 gX7_sample_X7_areNeighbours rfl rfl rfl (by decide +kernel) ⟨Nat.le_of_ble_eq_true rfl, Nat.le_of_ble_eq_true rfl⟩) rfl rfl (Nat.le_of_ble_eq_true rfl) dX7_sample_44 ⟨Nat.le_of_ble_eq_true rfl, Nat.le_of_ble_eq_true rfl⟩ (fun r_44 u_44 H locs hp_44 G => ?_)
          obtain ⟨rfl, rfl⟩ := hp_44
          have G : gS D aC A s ids ad (gk _) H locs := G
          refine lv_if_eq (tgt := 69) S.1 S.2.1 dX7_sample_47 (by decide) (fun c_47 => ?_) (fun c_47 => ?_)
          · refine lv_iconst (v := 0) S.1 S.2.1 dX7_sample_69 (by decide) ?_
            have hB : mSampleC κ a x = 0 := by simp only [mSampleC, if_neg c_4, if_neg c_12, if_pos c_34, if_pos c_47]
            refine lv_istore (lv' := [(5, _), (4, _), (0, _), (1, _), (2, _), (3, _)]) S.1 S.2.1 dX7_sample_70 hl (by decide) rfl (fun ls hl => ?_)
            refine lv_aload_n S.1 S.2.1 dX7_sample_72 rfl (lv_at hl 2 rfl) ?_
            refine lv_iload S.1 S.2.1 dX7_sample_73 (lv_at hl 1 rfl) ?_
            refine lv_if_ne (tgt := 82) S.1 S.2.1 dX7_sample_75 (by decide) (fun c_75 => ?_) (fun c_75 => ?_)
            · refine lv_iload_n S.1 S.2.1 dX7_sample_82 rfl (lv_at hl 5 rfl) ?_
              refine g_cSi S G hF hl (c_X7_isValue l ids ad _ _) (va_cwS 1 S.2.2.2.2 gX7_sample_X7_isValue rfl rfl rfl (by decide +kernel) ⟨Nat.le_of_ble_eq_true rfl, Nat.le_of_ble_eq_true rfl⟩) rfl rfl (Nat.le_of_ble_eq_true rfl) dX7_sample_83 ⟨Nat.le_of_ble_eq_true rfl, Nat.le_of_ble_eq_true rfl⟩ (fun r_83 u_83 H locs hp_83 G => ?_)
              obtain ⟨rfl, rfl⟩ := hp_83
              have G : gS D aC A s ids ad (gk _) H locs := G
              refine lv_if_ne (tgt := 93) S.1 S.2.1 dX7_sample_86 (by decide) (fun c_86 => ?_) (fun c_86 => ?_)
              · refine lv_iload S.1 S.2.1 dX7_sample_93 (lv_at hl 0 rfl) ?_
                refine lv_if_eq (tgt := 102) S.1 S.2.1 dX7_sample_95 (by decide) (fun c_95 => ?_) (fun c_95 => ?_)
                · refine lv_iconst (v := 3) S.1 S.2.1 dX7_sample_102 (by decide) ?_
                  have hT : mSampleT κ a x v = 3 := by simp only [mSampleT, hB, if_neg c_4, if_neg c_12, if_pos c_34, if_pos c_47, if_neg c_86] <;> decide
                  refine g_cVi S G hF hl 8 (hV 8 _ (by first | decide | (show _ < 1; omega))) (by decide) (c_X7_can l ids ad _ _ hV) (cwV 1 S.2.2.2.2 gX7_sample_X7_can rfl rfl rfl (by decide +kernel) ⟨Nat.le_of_ble_eq_true rfl, Nat.le_of_ble_eq_true rfl⟩) rfl rfl (Nat.le_of_ble_eq_true rfl) dX7_sample_103 ⟨Nat.le_of_ble_eq_true rfl, Nat.le_of_ble_eq_true rfl⟩ (fun r_103 u_103 H locs hp_103 G => ?_)
                  obtain ⟨rfl, rfl⟩ := hp_103
                  have G : gS D aC A s ids ad (gk _) H locs := G
                  refine lv_if_ne (tgt := 111) S.1 S.2.1 dX7_sample_106 (by decide) (fun c_106 => ?_) (fun c_106 => ?_)
                  · exact absurd c_106 (by decide)
                  · refine lv_iconst (v := 0) S.1 S.2.1 dX7_sample_109 (by decide) ?_
                    exact g_iret S G hr hlk (by rw [hT]; exact ⟨(if_neg (by decide)).symm, congrArg (fun z => (ids, ad, gk z)) (if_neg (by decide)).symm⟩) (Nat.le_of_ble_eq_true rfl) (Nat.le_of_ble_eq_true rfl) dX7_sample_110
                · exact absurd c_95 (by decide)
              · refine lv_iconst (v := 2) S.1 S.2.1 dX7_sample_89 (by decide) ?_
                refine lv_goto (tgt := 103) S.1 S.2.1 dX7_sample_90 (by decide) ?_
                have hT : mSampleT κ a x v = 2 := by simp only [mSampleT, hB, if_neg c_4, if_neg c_12, if_pos c_34, if_pos c_47, if_pos c_86] <;> decide
                refine g_cVi S G hF hl 8 (hV 8 _ (by first | decide | (show _ < 1; omega))) (by decide) (c_X7_can l ids ad _ _ hV) (cwV 1 S.2.2.2.2 gX7_sample_X7_can rfl rfl rfl (by decide +kernel) ⟨Nat.le_of_ble_eq_true rfl, Nat.le_of_ble_eq_true rfl⟩) rfl rfl (Nat.le_of_ble_eq_true rfl) dX7_sample_103 ⟨Nat.le_of_ble_eq_true rfl, Nat.le_of_ble_eq_true rfl⟩ (fun r_103 u_103 H locs hp_103 G => ?_)
                obtain ⟨rfl, rfl⟩ := hp_103
                have G : gS D aC A s ids ad (gk _) H locs := G
                refine lv_if_ne (tgt := 111) S.1 S.2.1 dX7_sample_106 (by decide) (fun c_106 => ?_) (fun c_106 => ?_)
                · exact absurd c_106 (by decide)
                · refine lv_iconst (v := 0) S.1 S.2.1 dX7_sample_109 (by decide) ?_
                  exact g_iret S G hr hlk (by rw [hT]; exact ⟨(if_neg (by decide)).symm, congrArg (fun z => (ids, ad, gk z)) (if_neg (by decide)).symm⟩) (Nat.le_of_ble_eq_true rfl) (Nat.le_of_ble_eq_true rfl) dX7_sample_110
            · exact absurd c_75 (by decide)
          · refine lv_aload_n S.1 S.2.1 dX7_sample_50 rfl (lv_at hl 1 rfl) ?_
            refine g_get S G 8 25 (hV 8 _ (by first | decide | (show _ < 1; omega))) (by decide) (by decide) i8 (S.2.2.2.2 (.fieldLink RX7 77 "SensorBondModel" "samples" "[I") (by decide +kernel)) (gvk_or (j := 0) rfl rfl (by omega)) dX7_sample_51 ?_
            refine lv_bipush (v := 12) S.1 S.2.1 dX7_sample_54 (by decide) ?_
            refine lv_iload_n S.1 S.2.1 dX7_sample_56 rfl (lv_at hl 3 rfl) ?_
            refine lv_imul S.1 S.2.1 dX7_sample_57 ?_
            refine lv_iload_n S.1 S.2.1 dX7_sample_58 rfl (lv_at hl 2 rfl) ?_
            refine lv_iadd S.1 S.2.1 dX7_sample_59 ?_
            refine k_iald S G 45 (hV 45 _ (by first | decide | (show _ < 1; omega))) rfl rfl rfl (g_lin (a := 12) hx hs1) (show 12 * tN x + tN a < 960 by omega) dX7_sample_60 ?_
            refine lv_iconst (v := (-1)) S.1 S.2.1 dX7_sample_61 (by decide) ?_
            refine lv_icmp_ne (tgt := 69) S.1 S.2.1 dX7_sample_62 (by decide) (fun c_62 => ?_) (fun c_62 => ?_)
            · refine lv_iconst (v := 0) S.1 S.2.1 dX7_sample_69 (by decide) ?_
              have hB : mSampleC κ a x = 0 := by simp only [mSampleC, if_neg c_4, if_neg c_12, if_pos c_34, if_neg c_47, if_neg c_62]
              refine lv_istore (lv' := [(5, _), (4, _), (0, _), (1, _), (2, _), (3, _)]) S.1 S.2.1 dX7_sample_70 hl (by decide) rfl (fun ls hl => ?_)
              refine lv_aload_n S.1 S.2.1 dX7_sample_72 rfl (lv_at hl 2 rfl) ?_
              refine lv_iload S.1 S.2.1 dX7_sample_73 (lv_at hl 1 rfl) ?_
              refine lv_if_ne (tgt := 82) S.1 S.2.1 dX7_sample_75 (by decide) (fun c_75 => ?_) (fun c_75 => ?_)
              · refine lv_iload_n S.1 S.2.1 dX7_sample_82 rfl (lv_at hl 5 rfl) ?_
                refine g_cSi S G hF hl (c_X7_isValue l ids ad _ _) (va_cwS 1 S.2.2.2.2 gX7_sample_X7_isValue rfl rfl rfl (by decide +kernel) ⟨Nat.le_of_ble_eq_true rfl, Nat.le_of_ble_eq_true rfl⟩) rfl rfl (Nat.le_of_ble_eq_true rfl) dX7_sample_83 ⟨Nat.le_of_ble_eq_true rfl, Nat.le_of_ble_eq_true rfl⟩ (fun r_83 u_83 H locs hp_83 G => ?_)
                obtain ⟨rfl, rfl⟩ := hp_83
                have G : gS D aC A s ids ad (gk _) H locs := G
                refine lv_if_ne (tgt := 93) S.1 S.2.1 dX7_sample_86 (by decide) (fun c_86 => ?_) (fun c_86 => ?_)
                · refine lv_iload S.1 S.2.1 dX7_sample_93 (lv_at hl 0 rfl) ?_
                  refine lv_if_eq (tgt := 102) S.1 S.2.1 dX7_sample_95 (by decide) (fun c_95 => ?_) (fun c_95 => ?_)
                  · refine lv_iconst (v := 3) S.1 S.2.1 dX7_sample_102 (by decide) ?_
                    have hT : mSampleT κ a x v = 3 := by simp only [mSampleT, hB, if_neg c_4, if_neg c_12, if_pos c_34, if_neg c_47, if_neg c_62, if_neg c_86] <;> decide
                    refine g_cVi S G hF hl 8 (hV 8 _ (by first | decide | (show _ < 1; omega))) (by decide) (c_X7_can l ids ad _ _ hV) (cwV 1 S.2.2.2.2 gX7_sample_X7_can rfl rfl rfl (by decide +kernel) ⟨Nat.le_of_ble_eq_true rfl, Nat.le_of_ble_eq_true rfl⟩) rfl rfl (Nat.le_of_ble_eq_true rfl) dX7_sample_103 ⟨Nat.le_of_ble_eq_true rfl, Nat.le_of_ble_eq_true rfl⟩ (fun r_103 u_103 H locs hp_103 G => ?_)
                    obtain ⟨rfl, rfl⟩ := hp_103
                    have G : gS D aC A s ids ad (gk _) H locs := G
                    refine lv_if_ne (tgt := 111) S.1 S.2.1 dX7_sample_106 (by decide) (fun c_106 => ?_) (fun c_106 => ?_)
                    · exact absurd c_106 (by decide)
                    · refine lv_iconst (v := 0) S.1 S.2.1 dX7_sample_109 (by decide) ?_
                      exact g_iret S G hr hlk (by rw [hT]; exact ⟨(if_neg (by decide)).symm, congrArg (fun z => (ids, ad, gk z)) (if_neg (by decide)).symm⟩) (Nat.le_of_ble_eq_true rfl) (Nat.le_of_ble_eq_true rfl) dX7_sample_110
                  · exact absurd c_95 (by decide)
                · refine lv_iconst (v := 2) S.1 S.2.1 dX7_sample_89 (by decide) ?_
                  refine lv_goto (tgt := 103) S.1 S.2.1 dX7_sample_90 (by decide) ?_
                  have hT : mSampleT κ a x v = 2 := by simp only [mSampleT, hB, if_neg c_4, if_neg c_12, if_pos c_34, if_neg c_47, if_neg c_62, if_pos c_86] <;> decide
                  refine g_cVi S G hF hl 8 (hV 8 _ (by first | decide | (show _ < 1; omega))) (by decide) (c_X7_can l ids ad _ _ hV) (cwV 1 S.2.2.2.2 gX7_sample_X7_can rfl rfl rfl (by decide +kernel) ⟨Nat.le_of_ble_eq_true rfl, Nat.le_of_ble_eq_true rfl⟩) rfl rfl (Nat.le_of_ble_eq_true rfl) dX7_sample_103 ⟨Nat.le_of_ble_eq_true rfl, Nat.le_of_ble_eq_true rfl⟩ (fun r_103 u_103 H locs hp_103 G => ?_)
                  obtain ⟨rfl, rfl⟩ := hp_103
                  have G : gS D aC A s ids ad (gk _) H locs := G
                  refine lv_if_ne (tgt := 111) S.1 S.2.1 dX7_sample_106 (by decide) (fun c_106 => ?_) (fun c_106 => ?_)
                  · exact absurd c_106 (by decide)
                  · refine lv_iconst (v := 0) S.1 S.2.1 dX7_sample_109 (by decide) ?_
                    exact g_iret S G hr hlk (by rw [hT]; exact ⟨(if_neg (by decide)).symm, congrArg (fun z => (ids, ad, gk z)) (if_neg (by decide)).symm⟩) (Nat.le_of_ble_eq_true rfl) (Nat.le_of_ble_eq_true rfl) dX7_sample_110
              · exact absurd c_75 (by decide)
            · refine lv_iconst (v := 1) S.1 S.2.1 dX7_sample_65 (by decide) ?_
              refine lv_goto (tgt := 70) S.1 S.2.1 dX7_sample_66 (by decide) ?_
              have hB : mSampleC κ a x = 1 := by simp only [mSampleC, if_neg c_4, if_neg c_12, if_pos c_34, if_neg c_47, if_pos c_62]
              refine lv_istore (lv' := [(5, _), (4, _), (0, _), (1, _), (2, _), (3, _)]) S.1 S.2.1 dX7_sample_70 hl (by decide) rfl (fun ls hl => ?_)
              refine lv_aload_n S.1 S.2.1 dX7_sample_72 rfl (lv_at hl 2 rfl) ?_
              refine lv_iload S.1 S.2.1 dX7_sample_73 (lv_at hl 1 rfl) ?_
              refine lv_if_ne (tgt := 82) S.1 S.2.1 dX7_sample_75 (by decide) (fun c_75 => ?_) (fun c_75 => ?_)
              · refine lv_iload_n S.1 S.2.1 dX7_sample_82 rfl (lv_at hl 5 rfl) ?_
                refine g_cSi S G hF hl (c_X7_isValue l ids ad _ _) (va_cwS 1 S.2.2.2.2 gX7_sample_X7_isValue rfl rfl rfl (by decide +kernel) ⟨Nat.le_of_ble_eq_true rfl, Nat.le_of_ble_eq_true rfl⟩) rfl rfl (Nat.le_of_ble_eq_true rfl) dX7_sample_83 ⟨Nat.le_of_ble_eq_true rfl, Nat.le_of_ble_eq_true rfl⟩ (fun r_83 u_83 H locs hp_83 G => ?_)
                obtain ⟨rfl, rfl⟩ := hp_83
                have G : gS D aC A s ids ad (gk _) H locs := G
                refine lv_if_ne (tgt := 93) S.1 S.2.1 dX7_sample_86 (by decide) (fun c_86 => ?_) (fun c_86 => ?_)
                · refine lv_iload S.1 S.2.1 dX7_sample_93 (lv_at hl 0 rfl) ?_
                  refine lv_if_eq (tgt := 102) S.1 S.2.1 dX7_sample_95 (by decide) (fun c_95 => ?_) (fun c_95 => ?_)
                  · exact absurd c_95 (by decide)
                  · refine lv_iconst (v := 0) S.1 S.2.1 dX7_sample_98 (by decide) ?_
                    refine lv_goto (tgt := 103) S.1 S.2.1 dX7_sample_99 (by decide) ?_
                    have hT : mSampleT κ a x v = 0 := by simp only [mSampleT, hB, if_neg c_4, if_neg c_12, if_pos c_34, if_neg c_47, if_pos c_62, if_neg c_86] <;> decide
                    refine g_cVi S G hF hl 8 (hV 8 _ (by first | decide | (show _ < 1; omega))) (by decide) (c_X7_can l ids ad _ _ hV) (cwV 1 S.2.2.2.2 gX7_sample_X7_can rfl rfl rfl (by decide +kernel) ⟨Nat.le_of_ble_eq_true rfl, Nat.le_of_ble_eq_true rfl⟩) rfl rfl (Nat.le_of_ble_eq_true rfl) dX7_sample_103 ⟨Nat.le_of_ble_eq_true rfl, Nat.le_of_ble_eq_true rfl⟩ (fun r_103 u_103 H locs hp_103 G => ?_)
                    obtain ⟨rfl, rfl⟩ := hp_103
                    have G : gS D aC A s ids ad (gk _) H locs := G
                    refine lv_if_ne (tgt := 111) S.1 S.2.1 dX7_sample_106 (by decide) (fun c_106 => ?_) (fun c_106 => ?_)
                    · refine lv_aload_n S.1 S.2.1 dX7_sample_111 rfl (lv_at hl 2 rfl) ?_
                      refine g_get S G 8 25 (hV 8 _ (by first | decide | (show _ < 1; omega))) (by decide) (by decide) i8 (S.2.2.2.2 (.fieldLink RX7 77 "SensorBondModel" "samples" "[I") (by decide +kernel)) (gvk_or (j := 0) rfl rfl (by omega)) dX7_sample_112 ?_
                      refine lv_bipush (v := 12) S.1 S.2.1 dX7_sample_115 (by decide) ?_
                      refine lv_iload_n S.1 S.2.1 dX7_sample_117 rfl (lv_at hl 4 rfl) ?_
                      refine lv_imul S.1 S.2.1 dX7_sample_118 ?_
                      refine lv_iload_n S.1 S.2.1 dX7_sample_119 rfl (lv_at hl 3 rfl) ?_
                      refine lv_iadd S.1 S.2.1 dX7_sample_120 ?_
                      refine lv_iload_n S.1 S.2.1 dX7_sample_121 rfl (lv_at hl 5 rfl) ?_
                      refine k_iast S G 45 (hV 45 _ (by first | decide | (show _ < 1; omega))) rfl rfl rfl (g_lin (a := 12) hx hs1) (show 12 * tN x + tN a < 960 by omega) dX7_sample_122 (fun H locs G => ?_)
                      have hW1 : mWF (upd3 (mCan κ 0) 45 0 (12 * tN x + tN a) v) := (mCan_WF hW).upd (by decide) (by decide) (by decide) (by decide) (Or.inl (by decide))
                      refine lv_aload_n S.1 S.2.1 dX7_sample_123 rfl (lv_at hl 2 rfl) ?_
                      refine lv_iload_n S.1 S.2.1 dX7_sample_124 rfl (lv_at hl 4 rfl) ?_
                      refine g_cVi S G hF hl 8 (hV 8 _ (by first | decide | (show _ < 1; omega))) (by decide) (c_X7_samplesFor l ids ad _ _ hx hr80 hV) (cwV 1 S.2.2.2.2 gX7_sample_X7_samplesFor rfl rfl rfl (by decide +kernel) ⟨Nat.le_of_ble_eq_true rfl, Nat.le_of_ble_eq_true rfl⟩) rfl rfl (Nat.le_of_ble_eq_true rfl) dX7_sample_125 ⟨Nat.le_of_ble_eq_true rfl, Nat.le_of_ble_eq_true rfl⟩ (fun r_125 u_125 H locs hp_125 G => ?_)
                      obtain ⟨rfl, rfl⟩ := hp_125
                      have G : gS D aC A s ids ad (gk _) H locs := G
                      refine lv_aload_n S.1 S.2.1 dX7_sample_128 rfl (lv_at hl 2 rfl) ?_
                      refine g_get S G 8 17 (hV 8 _ (by first | decide | (show _ < 1; omega))) (by decide) (by decide) i8 (S.2.2.2.2 (.fieldLink RX7 53 "SensorBondModel" "by" "[I") (by decide +kernel)) (gvk_or (j := 0) rfl rfl (by omega)) dX7_sample_129 ?_
                      refine lv_iload_n S.1 S.2.1 dX7_sample_132 rfl (lv_at hl 4 rfl) ?_
                      refine k_iald S G 37 (hV 37 _ (by first | decide | (show _ < 1; omega))) rfl rfl rfl hx (show tN x < 80 by omega) dX7_sample_133 ?_
                      refine g_cSi S G hF hl (c_X7_neighboursOf l ids ad _ _) (va_cwS 1 S.2.2.2.2 gX7_sample_X7_neighboursOf rfl rfl rfl (by decide +kernel) ⟨Nat.le_of_ble_eq_true rfl, Nat.le_of_ble_eq_true rfl⟩) rfl rfl (Nat.le_of_ble_eq_true rfl) dX7_sample_134 ⟨Nat.le_of_ble_eq_true rfl, Nat.le_of_ble_eq_true rfl⟩ (fun r_134 u_134 H locs hp_134 G => ?_)
                      obtain ⟨rfl, rfl⟩ := hp_134
                      have G : gS D aC A s ids ad (gk _) H locs := G
                      refine lv_icmp_ne (tgt := 145) S.1 S.2.1 dX7_sample_137 (by decide) (fun c_137 => ?_) (fun c_137 => ?_)
                      · have eK : mSampleK (mCan κ 0) (tN a) (tN x) v = upd3 (mCan κ 0) 45 0 (12 * tN x + tN a) v := by
                          rw [mSampleK]
                          exact if_neg c_137
                        rw [← eK] at G
                        refine lv_aload_n S.1 S.2.1 dX7_sample_145 rfl (lv_at hl 2 rfl) ?_
                        refine g_get S G 8 19 (hV 8 _ (by first | decide | (show _ < 1; omega))) (by decide) (by decide) i8 (S.2.2.2.2 (.fieldLink RX7 59 "SensorBondModel" "state" "[I") (by decide +kernel)) (gvk_or (j := 0) rfl rfl (by omega)) dX7_sample_146 ?_
                        refine lv_iload_n S.1 S.2.1 dX7_sample_149 rfl (lv_at hl 4 rfl) ?_
                        refine k_iald S G 39 (hV 39 _ (by first | decide | (show _ < 1; omega))) rfl rfl rfl hx (show tN x < 80 by omega) dX7_sample_150 ?_
                        exact g_iret S G hr hlk (by rw [hT]; exact ⟨(if_pos rfl).symm, congrArg (fun z => (ids, ad, gk z)) (if_pos rfl).symm⟩) (Nat.le_of_ble_eq_true rfl) (Nat.le_of_ble_eq_true rfl) dX7_sample_151
                      · refine lv_aload_n S.1 S.2.1 dX7_sample_140 rfl (lv_at hl 2 rfl) ?_
                        refine lv_iload_n S.1 S.2.1 dX7_sample_141 rfl (lv_at hl 4 rfl) ?_
                        refine g_cVv S G hF hl 8 (hV 8 _ (by first | decide | (show _ < 1; omega))) (by decide) (c_X7_judges l ids ad _ _ hx hr80 hV hW1) (cwV 1 S.2.2.2.2 gX7_sample_X7_judges rfl rfl rfl (by decide +kernel) ⟨Nat.le_of_ble_eq_true rfl, Nat.le_of_ble_eq_true rfl⟩) rfl rfl (Nat.le_of_ble_eq_true rfl) dX7_sample_142 ⟨Nat.le_of_ble_eq_true rfl, Nat.le_of_ble_eq_true rfl⟩ (fun u_142 H locs hp_142 G => ?_)
                        obtain rfl := hp_142
                        have G : gS D aC A s ids ad (gk _) H locs := G
                        have eK : mSampleK (mCan κ 0) (tN a) (tN x) v = mJudges (upd3 (mCan κ 0) 45 0 (12 * tN x + tN a) v) (tN x) := by
                          rw [mSampleK]
                          exact if_pos c_137
                        rw [← eK] at G
                        refine lv_aload_n S.1 S.2.1 dX7_sample_145 rfl (lv_at hl 2 rfl) ?_
                        refine g_get S G 8 19 (hV 8 _ (by first | decide | (show _ < 1; omega))) (by decide) (by decide) i8 (S.2.2.2.2 (.fieldLink RX7 59 "SensorBondModel" "state" "[I") (by decide +kernel)) (gvk_or (j := 0) rfl rfl (by omega)) dX7_sample_146 ?_
                        refine lv_iload_n S.1 S.2.1 dX7_sample_149 rfl (lv_at hl 4 rfl) ?_
                        refine k_iald S G 39 (hV 39 _ (by first | decide | (show _ < 1; omega))) rfl rfl rfl hx (show tN x < 80 by omega) dX7_sample_150 ?_
                        exact g_iret S G hr hlk (by rw [hT]; exact ⟨(if_pos rfl).symm, congrArg (fun z => (ids, ad, gk z)) (if_pos rfl).symm⟩) (Nat.le_of_ble_eq_true rfl) (Nat.le_of_ble_eq_true rfl) dX7_sample_151
                    · exact absurd c_106 (by decide)
                · refine lv_iconst (v := 2) S.1 S.2.1 dX7_sample_89 (by decide) ?_
                  refine lv_goto (tgt := 103) S.1 S.2.1 dX7_sample_90 (by decide) ?_
                  have hT : mSampleT κ a x v = 2 := by simp only [mSampleT, hB, if_neg c_4, if_neg c_12, if_pos c_34, if_neg c_47, if_pos c_62, if_pos c_86] <;> decide
                  refine g_cVi S G hF hl 8 (hV 8 _ (by first | decide | (show _ < 1; omega))) (by decide) (c_X7_can l ids ad _ _ hV) (cwV 1 S.2.2.2.2 gX7_sample_X7_can rfl rfl rfl (by decide +kernel) ⟨Nat.le_of_ble_eq_true rfl, Nat.le_of_ble_eq_true rfl⟩) rfl rfl (Nat.le_of_ble_eq_true rfl) dX7_sample_103 ⟨Nat.le_of_ble_eq_true rfl, Nat.le_of_ble_eq_true rfl⟩ (fun r_103 u_103 H locs hp_103 G => ?_)
                  obtain ⟨rfl, rfl⟩ := hp_103
                  have G : gS D aC A s ids ad (gk _) H locs := G
                  refine lv_if_ne (tgt := 111) S.1 S.2.1 dX7_sample_106 (by decide) (fun c_106 => ?_) (fun c_106 => ?_)
                  · exact absurd c_106 (by decide)
                  · refine lv_iconst (v := 0) S.1 S.2.1 dX7_sample_109 (by decide) ?_
                    exact g_iret S G hr hlk (by rw [hT]; exact ⟨(if_neg (by decide)).symm, congrArg (fun z => (ids, ad, gk z)) (if_neg (by decide)).symm⟩) (Nat.le_of_ble_eq_true rfl) (Nat.le_of_ble_eq_true rfl) dX7_sample_110
              · exact absurd c_75 (by decide)
set_option maxHeartbeats 4000000 in
set_option maxRecDepth 100000 in
theorem c_X7_ends (l : Launch) (ids : gIds) (ad : gAd) (κ : gMem) (hV : mV ids) (hW : mWF κ)  : gMv l yX7_ends wsX7_ends ({ frames := 3, cells := 0, slots := 0, locals := 73 } : Room) 0 0 [.ref (ad 8 0)] (ids, ad, gk κ) (fun u => u = (ids, ad, gk (mEnds (tN (κ 8 0 16)) κ))) := by
  intro D aC A
  refine g_of (cc := cX7_ends) (maxL := 3) (ret := none) (by decide +kernel) rfl (Nat.le_of_ble_eq_true rfl) ?_
  intro p e s m below meth c ls S G hF hr hlk hnm hl
  have hl : lv_has ls 3 [(0, _)] := hl
  have i8 : ∀ w ∈ wsX70, w ∈ wsX7_ends := by decide +kernel
  obtain ⟨hn, hn80⟩ := hW.rd
  refine lv_iconst (v := 0) S.1 S.2.1 dX7_ends_0 (by decide) ?_
  refine lv_istore_n (lv' := [(1, _), (0, _)]) S.1 S.2.1 dX7_ends_1 rfl hl (by decide) rfl (fun ls hl => ?_)
  refine g_for mEnd1 (tN (κ 8 0 16)) (fun k_2 => [(1, .int (nI k_2)), (0, .ref (ad 8 0))]) ?_ G (lv_sub hl [0, 1] rfl)
  intro k_2 H locs ls hk_2 G hl ih_2
  have hl : lv_has ls 3 [(1, _), (0, _)] := hl
  refine lv_iload_n S.1 S.2.1 dX7_ends_2 rfl (lv_at hl 0 rfl) ?_
  refine lv_aload_n S.1 S.2.1 dX7_ends_3 rfl (lv_at hl 1 rfl) ?_
  refine g_get S G 8 16 (hV 8 _ (by first | decide | (show _ < 1; omega))) (by decide) (by decide) i8 (S.2.2.2.2 (.fieldLink RX7 88 "SensorBondModel" "readings" "I") (by decide +kernel)) (gvk_i rfl rfl) dX7_ends_4 ?_
  refine g_top (show _ = nI (tN (κ 8 0 16)) from (gIt_keep (fun _ _ => mEnd1_keep (by decide) (by decide) (by decide) (by decide) (by decide) (Or.inr (by decide))) k_2 κ).trans hn) ?_
  refine lv_icmp_ge (tgt := 77) S.1 S.2.1 dX7_ends_7 (by decide) (fun c_7 => ?_) (fun c_7 => ?_)
  · have hkN_2 : k_2 = (tN (κ 8 0 16)) := g_exit c_7 hk_2 (by omega)
    subst hkN_2
    refine lv_iconst (v := 0) S.1 S.2.1 dX7_ends_77 (by decide) ?_
    refine lv_istore_n (lv' := [(1, _), (0, _)]) S.1 S.2.1 dX7_ends_78 rfl hl (by decide) rfl (fun ls hl => ?_)
    refine g_for mEnd2 72 (fun k_79 => [(1, .int (nI k_79)), (0, .ref (ad 8 0))]) ?_ G (lv_sub hl [0, 1] rfl)
    intro k_79 H locs ls hk_79 G hl ih_79
    have hl : lv_has ls 3 [(1, _), (0, _)] := hl
    refine lv_iload_n S.1 S.2.1 dX7_ends_79 rfl (lv_at hl 0 rfl) ?_
    refine lv_bipush (v := 72) S.1 S.2.1 dX7_ends_80 (by decide) ?_
    refine lv_icmp_ge (tgt := 145) S.1 S.2.1 dX7_ends_82 (by decide) (fun c_82 => ?_) (fun c_82 => ?_)
    · have hkN_79 : k_79 = 72 := g_exit c_82 hk_79 (by omega)
      subst hkN_79
      refine lv_aload_n S.1 S.2.1 dX7_ends_145 rfl (lv_at hl 1 rfl) ?_
      refine lv_dup S.1 S.2.1 dX7_ends_146 rfl ?_
      refine g_get S G 8 0 (hV 8 _ (by first | decide | (show _ < 1; omega))) (by decide) (by decide) i8 (S.2.2.2.2 (.fieldLink RX7 109 "SensorBondModel" "tick" "I") (by decide +kernel)) (gvk_i rfl rfl) dX7_ends_147 ?_
      refine lv_iconst (v := 1) S.1 S.2.1 dX7_ends_150 (by decide) ?_
      refine lv_iadd S.1 S.2.1 dX7_ends_151 ?_
      refine g_put (ty := .int) S G 8 0 (hV 8 _ (by first | decide | (show _ < 1; omega))) (by decide) (by decide) i8 (S.2.2.2.2 (.fieldLink RX7 109 "SensorBondModel" "tick" "I") (by decide +kernel)) rfl (by decide +kernel) rfl rfl (gw_i rfl) dX7_ends_152 (fun H locs G => ?_)
      have G := gk_S rfl G
      exact g_vret S G hr hlk (rfl) (Nat.le_of_ble_eq_true rfl) (Nat.le_of_ble_eq_true rfl) dX7_ends_155
    · have hlt_79 : k_79 < 72 := g_stay c_82 hk_79 (by omega)
      refine lv_aload_n S.1 S.2.1 dX7_ends_85 rfl (lv_at hl 1 rfl) ?_
      refine g_get S G 8 12 (hV 8 _ (by first | decide | (show _ < 1; omega))) (by decide) (by decide) i8 (S.2.2.2.2 (.fieldLink RX7 40 "SensorBondModel" "isOpen" "[Z") (by decide +kernel)) (gvk_or (j := 0) rfl rfl (by omega)) dX7_ends_86 ?_
      refine lv_iload_n S.1 S.2.1 dX7_ends_89 rfl (lv_at hl 0 rfl) ?_
      refine k_zald S G 32 (hV 32 _ (by first | decide | (show _ < 1; omega))) rfl rfl rfl rfl (show k_79 < 72 by omega) dX7_ends_90 ?_
      refine lv_if_eq (tgt := 139) S.1 S.2.1 dX7_ends_91 (by decide) (fun c_91 => ?_) (fun c_91 => ?_)
      · refine lv_iinc (k := 0) (lv' := [(1, _), (0, _)]) S.1 S.2.1 dX7_ends_139 hl rfl (g_inc _) (by decide) rfl (fun ls hl => ?_)
        refine lv_goto (tgt := 79) S.1 S.2.1 dX7_ends_142 (by decide) ?_
        have e : mEnd2 k_79 (gIt mEnd2 k_79 (gIt mEnd1 (tN (κ 8 0 16)) κ)) = (gIt mEnd2 k_79 (gIt mEnd1 (tN (κ 8 0 16)) κ)) := by simp only [mEnd2, if_pos c_7, if_neg c_82, if_pos c_91]
        exact ih_79 hlt_79 H locs ls (by simp only [gIt]; rw [e]; exact G) (lv_sub hl [0, 1] rfl)
      · refine lv_aload_n S.1 S.2.1 dX7_ends_94 rfl (lv_at hl 1 rfl) ?_
        refine g_get S G 8 13 (hV 8 _ (by first | decide | (show _ < 1; omega))) (by decide) (by decide) i8 (S.2.2.2.2 (.fieldLink RX7 44 "SensorBondModel" "lastTick" "[I") (by decide +kernel)) (gvk_or (j := 0) rfl rfl (by omega)) dX7_ends_95 ?_
        refine lv_iload_n S.1 S.2.1 dX7_ends_98 rfl (lv_at hl 0 rfl) ?_
        refine k_iald S G 33 (hV 33 _ (by first | decide | (show _ < 1; omega))) rfl rfl rfl rfl (show _ < 72 by omega) dX7_ends_99 ?_
        refine lv_aload_n S.1 S.2.1 dX7_ends_100 rfl (lv_at hl 1 rfl) ?_
        refine g_get S G 8 0 (hV 8 _ (by first | decide | (show _ < 1; omega))) (by decide) (by decide) i8 (S.2.2.2.2 (.fieldLink RX7 109 "SensorBondModel" "tick" "I") (by decide +kernel)) (gvk_i rfl rfl) dX7_ends_101 ?_
        refine lv_icmp_ne (tgt := 139) S.1 S.2.1 dX7_ends_104 (by decide) (fun c_104 => ?_) (fun c_104 => ?_)
        · refine lv_iinc (k := 0) (lv' := [(1, _), (0, _)]) S.1 S.2.1 dX7_ends_139 hl rfl (g_inc _) (by decide) rfl (fun ls hl => ?_)
          refine lv_goto (tgt := 79) S.1 S.2.1 dX7_ends_142 (by decide) ?_
          have e : mEnd2 k_79 (gIt mEnd2 k_79 (gIt mEnd1 (tN (κ 8 0 16)) κ)) = (gIt mEnd2 k_79 (gIt mEnd1 (tN (κ 8 0 16)) κ)) := by simp only [mEnd2, if_pos c_7, if_neg c_82, if_neg c_91, if_neg c_104]
          exact ih_79 hlt_79 H locs ls (by simp only [gIt]; rw [e]; exact G) (lv_sub hl [0, 1] rfl)
        · refine lv_aload_n S.1 S.2.1 dX7_ends_107 rfl (lv_at hl 1 rfl) ?_
          refine g_get S G 8 12 (hV 8 _ (by first | decide | (show _ < 1; omega))) (by decide) (by decide) i8 (S.2.2.2.2 (.fieldLink RX7 40 "SensorBondModel" "isOpen" "[Z") (by decide +kernel)) (gvk_or (j := 0) rfl rfl (by omega)) dX7_ends_108 ?_
          refine lv_iload_n S.1 S.2.1 dX7_ends_111 rfl (lv_at hl 0 rfl) ?_
          refine lv_iconst (v := 0) S.1 S.2.1 dX7_ends_112 (by decide) ?_
          refine k_zast S G 32 (hV 32 _ (by first | decide | (show _ < 1; omega))) rfl rfl rfl rfl (show k_79 < 72 by omega) rfl dX7_ends_113 (fun H locs G => ?_)
          refine lv_aload_n S.1 S.2.1 dX7_ends_114 rfl (lv_at hl 1 rfl) ?_
          refine g_get S G 8 10 (hV 8 _ (by first | decide | (show _ < 1; omega))) (by decide) (by decide) i8 (S.2.2.2.2 (.fieldLink RX7 37 "SensorBondModel" "purse" "[I") (by decide +kernel)) (gvk_or (j := 0) rfl rfl (by omega)) dX7_ends_115 ?_
          refine lv_iload_n S.1 S.2.1 dX7_ends_118 rfl (lv_at hl 0 rfl) ?_
          refine lv_bipush (v := 12) S.1 S.2.1 dX7_ends_119 (by decide) ?_
          refine lv_idiv S.1 S.2.1 dX7_ends_121 (by decide) ?_
          refine lv_dup2_11 S.1 S.2.1 dX7_ends_122 rfl rfl ?_
          refine k_iald S G 30 (hV 30 _ (by first | decide | (show _ < 1; omega))) rfl rfl rfl (pk_div (by omega) (by decide) (by decide)) (show k_79 / 12 < 6 by omega) dX7_ends_123 ?_
          refine lv_aload_n S.1 S.2.1 dX7_ends_124 rfl (lv_at hl 1 rfl) ?_
          refine g_get S G 8 15 (hV 8 _ (by first | decide | (show _ < 1; omega))) (by decide) (by decide) i8 (S.2.2.2.2 (.fieldLink RX7 50 "SensorBondModel" "aside" "[I") (by decide +kernel)) (gvk_or (j := 0) rfl rfl (by omega)) dX7_ends_125 ?_
          refine lv_iload_n S.1 S.2.1 dX7_ends_128 rfl (lv_at hl 0 rfl) ?_
          refine k_iald S G 35 (hV 35 _ (by first | decide | (show _ < 1; omega))) rfl rfl rfl rfl (show k_79 < 72 by omega) dX7_ends_129 ?_
          refine lv_iadd S.1 S.2.1 dX7_ends_130 ?_
          refine k_iast S G 30 (hV 30 _ (by first | decide | (show _ < 1; omega))) rfl rfl rfl (pk_div (by omega) (by decide) (by decide)) (show k_79 / 12 < 6 by omega) dX7_ends_131 (fun H locs G => ?_)
          refine lv_aload_n S.1 S.2.1 dX7_ends_132 rfl (lv_at hl 1 rfl) ?_
          refine g_get S G 8 15 (hV 8 _ (by first | decide | (show _ < 1; omega))) (by decide) (by decide) i8 (S.2.2.2.2 (.fieldLink RX7 50 "SensorBondModel" "aside" "[I") (by decide +kernel)) (gvk_or (j := 0) rfl rfl (by omega)) dX7_ends_133 ?_
          refine lv_iload_n S.1 S.2.1 dX7_ends_136 rfl (lv_at hl 0 rfl) ?_
          refine lv_iconst (v := 0) S.1 S.2.1 dX7_ends_137 (by decide) ?_
          refine k_iast S G 35 (hV 35 _ (by first | decide | (show _ < 1; omega))) rfl rfl rfl rfl (show k_79 < 72 by omega) dX7_ends_138 (fun H locs G => ?_)
          refine lv_iinc (k := 0) (lv' := [(1, _), (0, _)]) S.1 S.2.1 dX7_ends_139 hl rfl (g_inc _) (by decide) rfl (fun ls hl => ?_)
          refine lv_goto (tgt := 79) S.1 S.2.1 dX7_ends_142 (by decide) ?_
          have e : mEnd2 k_79 (gIt mEnd2 k_79 (gIt mEnd1 (tN (κ 8 0 16)) κ)) = upd3 (upd3 (upd3 (gIt mEnd2 k_79 (gIt mEnd1 (tN (κ 8 0 16)) κ)) 32 0 k_79 0) 30 0 (k_79 / 12) ((gIt mEnd2 k_79 (gIt mEnd1 (tN (κ 8 0 16)) κ)) 30 0 (k_79 / 12) + (gIt mEnd2 k_79 (gIt mEnd1 (tN (κ 8 0 16)) κ)) 35 0 k_79)) 35 0 k_79 0 := by simp only [mEnd2, if_pos c_7, if_neg c_82, if_neg c_91, if_pos c_104]
          exact ih_79 hlt_79 H locs ls (by simp only [gIt]; rw [e]; exact G) (lv_sub hl [0, 1] rfl)
  · have hlt_2 : k_2 < tN (κ 8 0 16) := g_stay c_7 hk_2 (by omega)
    have nI_tN_k : nI k_2 = nI (tN (nI k_2)) := nI_tN (by omega)
    have hr_k : tN (nI k_2) < 80 := by rw [tN_nI (by omega)]; omega
    have hW1 : mWF (gIt mEnd1 k_2 κ) := mEnd1_it_WF hW
    refine lv_aload_n S.1 S.2.1 dX7_ends_10 rfl (lv_at hl 1 rfl) ?_
    refine g_get S G 8 0 (hV 8 _ (by first | decide | (show _ < 1; omega))) (by decide) (by decide) i8 (S.2.2.2.2 (.fieldLink RX7 109 "SensorBondModel" "tick" "I") (by decide +kernel)) (gvk_i rfl rfl) dX7_ends_11 ?_
    refine lv_aload_n S.1 S.2.1 dX7_ends_14 rfl (lv_at hl 1 rfl) ?_
    refine g_get S G 8 21 (hV 8 _ (by first | decide | (show _ < 1; omega))) (by decide) (by decide) i8 (S.2.2.2.2 (.fieldLink RX7 65 "SensorBondModel" "since" "[I") (by decide +kernel)) (gvk_or (j := 0) rfl rfl (by omega)) dX7_ends_15 ?_
    refine lv_iload_n S.1 S.2.1 dX7_ends_18 rfl (lv_at hl 0 rfl) ?_
    refine k_iald S G 41 (hV 41 _ (by first | decide | (show _ < 1; omega))) rfl rfl rfl rfl (show k_2 < 80 by omega) dX7_ends_19 ?_
    refine lv_isub S.1 S.2.1 dX7_ends_20 ?_
    refine lv_iconst (v := 4) S.1 S.2.1 dX7_ends_21 (by decide) ?_
    refine lv_icmp_ne (tgt := 29) S.1 S.2.1 dX7_ends_22 (by decide) (fun c_22 => ?_) (fun c_22 => ?_)
    · refine lv_iconst (v := 0) S.1 S.2.1 dX7_ends_29 (by decide) ?_
      refine lv_istore_n (lv' := [(2, _), (1, _), (0, _)]) S.1 S.2.1 dX7_ends_30 rfl hl (by decide) rfl (fun ls hl => ?_)
      refine lv_iload_n S.1 S.2.1 dX7_ends_31 rfl (lv_at hl 0 rfl) ?_
      refine lv_if_eq (tgt := 53) S.1 S.2.1 dX7_ends_32 (by decide) (fun c_32 => ?_) (fun c_32 => ?_)
      · refine lv_iload_n S.1 S.2.1 dX7_ends_53 rfl (lv_at hl 0 rfl) ?_
        refine lv_if_eq (tgt := 71) S.1 S.2.1 dX7_ends_54 (by decide) (fun c_54 => ?_) (fun c_54 => ?_)
        · refine lv_iinc (k := 1) (lv' := [(1, _), (2, _), (0, _)]) S.1 S.2.1 dX7_ends_71 hl rfl (g_inc _) (by decide) rfl (fun ls hl => ?_)
          refine lv_goto (tgt := 2) S.1 S.2.1 dX7_ends_74 (by decide) ?_
          have e : mEnd1 k_2 (gIt mEnd1 k_2 κ) = (gIt mEnd1 k_2 κ) := by simp only [mEnd1, if_neg c_7, if_neg c_22]
          exact ih_2 hlt_2 H locs ls (by simp only [gIt]; rw [e]; exact G) (lv_sub hl [0, 2] rfl)
        · exact absurd c_54 (by decide)
      · exact absurd c_32 (by decide)
    · refine lv_iconst (v := 1) S.1 S.2.1 dX7_ends_25 (by decide) ?_
      refine lv_goto (tgt := 30) S.1 S.2.1 dX7_ends_26 (by decide) ?_
      refine lv_istore_n (lv' := [(2, _), (1, _), (0, _)]) S.1 S.2.1 dX7_ends_30 rfl hl (by decide) rfl (fun ls hl => ?_)
      refine lv_iload_n S.1 S.2.1 dX7_ends_31 rfl (lv_at hl 0 rfl) ?_
      refine lv_if_eq (tgt := 53) S.1 S.2.1 dX7_ends_32 (by decide) (fun c_32 => ?_) (fun c_32 => ?_)
      · exact absurd c_32 (by decide)
      · refine lv_aload_n S.1 S.2.1 dX7_ends_35 rfl (lv_at hl 2 rfl) ?_
        refine g_get S G 8 19 (hV 8 _ (by first | decide | (show _ < 1; omega))) (by decide) (by decide) i8 (S.2.2.2.2 (.fieldLink RX7 59 "SensorBondModel" "state" "[I") (by decide +kernel)) (gvk_or (j := 0) rfl rfl (by omega)) dX7_ends_36 ?_
        refine lv_iload_n S.1 S.2.1 dX7_ends_39 rfl (lv_at hl 1 rfl) ?_
        refine k_iald S G 39 (hV 39 _ (by first | decide | (show _ < 1; omega))) rfl rfl rfl rfl (show k_2 < 80 by omega) dX7_ends_40 ?_
        refine lv_iconst (v := 1) S.1 S.2.1 dX7_ends_41 (by decide) ?_
        refine lv_icmp_ne (tgt := 53) S.1 S.2.1 dX7_ends_42 (by decide) (fun c_42 => ?_) (fun c_42 => ?_)
        · refine lv_iload_n S.1 S.2.1 dX7_ends_53 rfl (lv_at hl 0 rfl) ?_
          refine lv_if_eq (tgt := 71) S.1 S.2.1 dX7_ends_54 (by decide) (fun c_54 => ?_) (fun c_54 => ?_)
          · exact absurd c_54 (by decide)
          · refine lv_aload_n S.1 S.2.1 dX7_ends_57 rfl (lv_at hl 2 rfl) ?_
            refine g_get S G 8 19 (hV 8 _ (by first | decide | (show _ < 1; omega))) (by decide) (by decide) i8 (S.2.2.2.2 (.fieldLink RX7 59 "SensorBondModel" "state" "[I") (by decide +kernel)) (gvk_or (j := 0) rfl rfl (by omega)) dX7_ends_58 ?_
            refine lv_iload_n S.1 S.2.1 dX7_ends_61 rfl (lv_at hl 1 rfl) ?_
            refine k_iald S G 39 (hV 39 _ (by first | decide | (show _ < 1; omega))) rfl rfl rfl rfl (show k_2 < 80 by omega) dX7_ends_62 ?_
            refine lv_if_ne (tgt := 71) S.1 S.2.1 dX7_ends_63 (by decide) (fun c_63 => ?_) (fun c_63 => ?_)
            · refine lv_iinc (k := 1) (lv' := [(1, _), (2, _), (0, _)]) S.1 S.2.1 dX7_ends_71 hl rfl (g_inc _) (by decide) rfl (fun ls hl => ?_)
              refine lv_goto (tgt := 2) S.1 S.2.1 dX7_ends_74 (by decide) ?_
              have e : mEnd1 k_2 (gIt mEnd1 k_2 κ) = (gIt mEnd1 k_2 κ) := by simp only [mEnd1, if_neg c_7, if_pos c_22, if_neg c_42, if_neg c_63]
              exact ih_2 hlt_2 H locs ls (by simp only [gIt]; rw [e]; exact G) (lv_sub hl [0, 2] rfl)
            · refine lv_aload_n S.1 S.2.1 dX7_ends_66 rfl (lv_at hl 2 rfl) ?_
              refine lv_iload_n S.1 S.2.1 dX7_ends_67 rfl (lv_at hl 1 rfl) ?_
              refine g_cVv S G hF hl 8 (hV 8 _ (by first | decide | (show _ < 1; omega))) (by decide) (c_X7_stands l ids ad _ _ nI_tN_k hr_k hV hW1) (cwV 1 S.2.2.2.2 gX7_ends_X7_stands rfl rfl rfl (by decide +kernel) ⟨Nat.le_of_ble_eq_true rfl, Nat.le_of_ble_eq_true rfl⟩) rfl rfl (Nat.le_of_ble_eq_true rfl) dX7_ends_68 ⟨Nat.le_of_ble_eq_true rfl, Nat.le_of_ble_eq_true rfl⟩ (fun u_68 H locs hp_68 G => ?_)
              obtain rfl := hp_68
              have G : gS D aC A s ids ad (gk _) H locs := G
              refine lv_iinc (k := 1) (lv' := [(1, _), (2, _), (0, _)]) S.1 S.2.1 dX7_ends_71 hl rfl (g_inc _) (by decide) rfl (fun ls hl => ?_)
              refine lv_goto (tgt := 2) S.1 S.2.1 dX7_ends_74 (by decide) ?_
              have e : mEnd1 k_2 (gIt mEnd1 k_2 κ) = mStands (gIt mEnd1 k_2 κ) k_2 := by simp only [mEnd1, if_neg c_7, if_pos c_22, if_neg c_42, if_pos c_63]
              rw [tN_nI (by omega)] at G
              exact ih_2 hlt_2 H locs ls (by simp only [gIt]; rw [e]; exact G) (lv_sub hl [0, 2] rfl)
        · refine lv_aload_n S.1 S.2.1 dX7_ends_45 rfl (lv_at hl 2 rfl) ?_
          refine lv_iload_n S.1 S.2.1 dX7_ends_46 rfl (lv_at hl 1 rfl) ?_
          refine g_cVv S G hF hl 8 (hV 8 _ (by first | decide | (show _ < 1; omega))) (by decide) (c_X7_judges l ids ad _ _ nI_tN_k hr_k hV hW1) (cwV 1 S.2.2.2.2 gX7_ends_X7_judges rfl rfl rfl (by decide +kernel) ⟨Nat.le_of_ble_eq_true rfl, Nat.le_of_ble_eq_true rfl⟩) rfl rfl (Nat.le_of_ble_eq_true rfl) dX7_ends_47 ⟨Nat.le_of_ble_eq_true rfl, Nat.le_of_ble_eq_true rfl⟩ (fun u_47 H locs hp_47 G => ?_)
          obtain rfl := hp_47
          have G : gS D aC A s ids ad (gk _) H locs := G
          refine lv_goto (tgt := 71) S.1 S.2.1 dX7_ends_50 (by decide) ?_
          refine lv_iinc (k := 1) (lv' := [(1, _), (2, _), (0, _)]) S.1 S.2.1 dX7_ends_71 hl rfl (g_inc _) (by decide) rfl (fun ls hl => ?_)
          refine lv_goto (tgt := 2) S.1 S.2.1 dX7_ends_74 (by decide) ?_
          have e : mEnd1 k_2 (gIt mEnd1 k_2 κ) = mJudges (gIt mEnd1 k_2 κ) k_2 := by simp only [mEnd1, if_neg c_7, if_pos c_22, if_pos c_42]
          rw [tN_nI (by omega)] at G
          exact ih_2 hlt_2 H locs ls (by simp only [gIt]; rw [e]; exact G) (lv_sub hl [0, 2] rfl)
set_option maxHeartbeats 4000000 in
set_option maxRecDepth 100000 in
theorem c_X7_advance (l : Launch) (ids : gIds) (ad : gAd) (κ : gMem) (t : Int32) (hV : mV ids) (hW : mWF κ)  : gMi l yX7_advance wsX7_advance ({ frames := 4, cells := 0, slots := 0, locals := 95 } : Room) 0 0 [.ref (ad 8 0), .int t] (ids, ad, gk κ) (fun r u => r = (if mAdvT κ t = 0 then mAdvK (mCan κ 0) (tN t) 8 0 0 else 0) ∧ u = (ids, ad, gk (if mAdvT κ t = 0 then mAdvK (mCan κ 0) (tN t) else mCan κ (mAdvT κ t)))) := by
  intro D aC A
  refine g_of (cc := cX7_advance) (maxL := 3) (ret := (some .int)) (by decide +kernel) rfl (Nat.le_of_ble_eq_true rfl) ?_
  intro p e s m below meth c ls S G hF hr hlk hnm hl
  have hl : lv_has ls 3 [(0, _), (1, _)] := hl
  have i8 : ∀ w ∈ wsX70, w ∈ wsX7_advance := by decide +kernel
  refine lv_aload_n S.1 S.2.1 dX7_advance_0 rfl (lv_at hl 0 rfl) ?_
  refine lv_iload_n S.1 S.2.1 dX7_advance_1 rfl (lv_at hl 1 rfl) ?_
  refine lv_iconst (v := 1) S.1 S.2.1 dX7_advance_2 (by decide) ?_
  refine lv_bipush (v := 100) S.1 S.2.1 dX7_advance_3 (by decide) ?_
  refine g_cSi S G hF hl (c_X7_isIn l ids ad _ _ _ _) (va_cwS 3 S.2.2.2.2 gX7_advance_X7_isIn rfl rfl rfl (by decide +kernel) ⟨Nat.le_of_ble_eq_true rfl, Nat.le_of_ble_eq_true rfl⟩) rfl rfl (Nat.le_of_ble_eq_true rfl) dX7_advance_5 ⟨Nat.le_of_ble_eq_true rfl, Nat.le_of_ble_eq_true rfl⟩ (fun r_5 u_5 H locs hp_5 G => ?_)
  obtain ⟨rfl, rfl⟩ := hp_5
  have G : gS D aC A s ids ad (gk _) H locs := G
  refine lv_if_ne (tgt := 15) S.1 S.2.1 dX7_advance_8 (by decide) (fun c_8 => ?_) (fun c_8 => ?_)
  · obtain ⟨ht1, ht2, -⟩ := mIn_rng' (m := 100) c_8 (by decide) (by decide)
    refine lv_aload_n S.1 S.2.1 dX7_advance_15 rfl (lv_at hl 0 rfl) ?_
    refine g_get S G 8 0 (hV 8 _ (by first | decide | (show _ < 1; omega))) (by decide) (by decide) i8 (S.2.2.2.2 (.fieldLink RX7 109 "SensorBondModel" "tick" "I") (by decide +kernel)) (gvk_i rfl rfl) dX7_advance_16 ?_
    refine lv_iload_n S.1 S.2.1 dX7_advance_19 rfl (lv_at hl 1 rfl) ?_
    refine lv_iadd S.1 S.2.1 dX7_advance_20 ?_
    refine lv_sipush (v := 10000) S.1 S.2.1 dX7_advance_21 (by decide) ?_
    refine lv_icmp_le (tgt := 31) S.1 S.2.1 dX7_advance_24 (by decide) (fun c_24 => ?_) (fun c_24 => ?_)
    · refine lv_iconst (v := 0) S.1 S.2.1 dX7_advance_31 (by decide) ?_
      have hT : mAdvT κ t = 0 := by simp only [mAdvT, if_neg c_8, if_pos c_24] <;> decide
      refine g_cVi S G hF hl 8 (hV 8 _ (by first | decide | (show _ < 1; omega))) (by decide) (c_X7_can l ids ad _ _ hV) (cwV 1 S.2.2.2.2 gX7_advance_X7_can rfl rfl rfl (by decide +kernel) ⟨Nat.le_of_ble_eq_true rfl, Nat.le_of_ble_eq_true rfl⟩) rfl rfl (Nat.le_of_ble_eq_true rfl) dX7_advance_32 ⟨Nat.le_of_ble_eq_true rfl, Nat.le_of_ble_eq_true rfl⟩ (fun r_32 u_32 H locs hp_32 G => ?_)
      obtain ⟨rfl, rfl⟩ := hp_32
      have G : gS D aC A s ids ad (gk _) H locs := G
      refine lv_if_ne (tgt := 40) S.1 S.2.1 dX7_advance_35 (by decide) (fun c_35 => ?_) (fun c_35 => ?_)
      · refine lv_iconst (v := 0) S.1 S.2.1 dX7_advance_40 (by decide) ?_
        refine lv_istore_n (lv' := [(2, _), (0, _), (1, _)]) S.1 S.2.1 dX7_advance_41 rfl hl (by decide) rfl (fun ls hl => ?_)
        refine g_for (fun _ κ => mEnds (tN (κ 8 0 16)) κ) (tN t) (fun k_42 => [(2, .int (nI k_42)), (1, .int t), (0, .ref (ad 8 0))]) ?_ G (lv_sub hl [0, 2, 1] rfl)
        intro k_42 H locs ls hk_42 G hl ih_42
        have hl : lv_has ls 3 [(2, _), (1, _), (0, _)] := hl
        refine lv_iload_n S.1 S.2.1 dX7_advance_42 rfl (lv_at hl 0 rfl) ?_
        refine lv_iload_n S.1 S.2.1 dX7_advance_43 rfl (lv_at hl 1 rfl) ?_
        refine lv_icmp_ge (tgt := 57) S.1 S.2.1 dX7_advance_44 (by decide) (fun c_44 => ?_) (fun c_44 => ?_)
        · have hkN_42 : k_42 = tN t := g_exit (by rw [← ht1]; exact c_44) hk_42 (by omega)
          subst hkN_42
          refine lv_aload_n S.1 S.2.1 dX7_advance_57 rfl (lv_at hl 2 rfl) ?_
          refine g_get S G 8 0 (hV 8 _ (by first | decide | (show _ < 1; omega))) (by decide) (by decide) i8 (S.2.2.2.2 (.fieldLink RX7 109 "SensorBondModel" "tick" "I") (by decide +kernel)) (gvk_i rfl rfl) dX7_advance_58 ?_
          exact g_iret S G hr hlk (by rw [hT]; exact ⟨(if_pos rfl).symm, congrArg (fun z => (ids, ad, gk z)) (if_pos rfl).symm⟩) (Nat.le_of_ble_eq_true rfl) (Nat.le_of_ble_eq_true rfl) dX7_advance_61
        · have hlt_42 : k_42 < tN t := g_stay (by rw [← ht1]; exact c_44) hk_42 (by omega)
          have hW1 : mWF (gIt (fun _ κ => mEnds (tN (κ 8 0 16)) κ) k_42 (mCan κ 0)) := mAdv_it_WF (mCan_WF hW)
          refine lv_aload_n S.1 S.2.1 dX7_advance_47 rfl (lv_at hl 2 rfl) ?_
          refine g_cVv S G hF hl 8 (hV 8 _ (by first | decide | (show _ < 1; omega))) (by decide) (c_X7_ends l ids ad _ hV hW1) (cwV 0 S.2.2.2.2 gX7_advance_X7_ends rfl rfl rfl (by decide +kernel) ⟨Nat.le_of_ble_eq_true rfl, Nat.le_of_ble_eq_true rfl⟩) rfl rfl (Nat.le_of_ble_eq_true rfl) dX7_advance_48 ⟨Nat.le_of_ble_eq_true rfl, Nat.le_of_ble_eq_true rfl⟩ (fun u_48 H locs hp_48 G => ?_)
          obtain rfl := hp_48
          have G : gS D aC A s ids ad (gk _) H locs := G
          refine lv_iinc (k := 0) (lv' := [(2, _), (1, _), (0, _)]) S.1 S.2.1 dX7_advance_51 hl rfl (g_inc _) (by decide) rfl (fun ls hl => ?_)
          refine lv_goto (tgt := 42) S.1 S.2.1 dX7_advance_54 (by decide) ?_
          exact ih_42 hlt_42 _ _ _ G (lv_sub hl [0, 1, 2] rfl)
      · exact absurd c_35 (by decide)
    · refine lv_iconst (v := 2) S.1 S.2.1 dX7_advance_27 (by decide) ?_
      refine lv_goto (tgt := 32) S.1 S.2.1 dX7_advance_28 (by decide) ?_
      have hT : mAdvT κ t = 2 := by simp only [mAdvT, if_neg c_8, if_neg c_24] <;> decide
      refine g_cVi S G hF hl 8 (hV 8 _ (by first | decide | (show _ < 1; omega))) (by decide) (c_X7_can l ids ad _ _ hV) (cwV 1 S.2.2.2.2 gX7_advance_X7_can rfl rfl rfl (by decide +kernel) ⟨Nat.le_of_ble_eq_true rfl, Nat.le_of_ble_eq_true rfl⟩) rfl rfl (Nat.le_of_ble_eq_true rfl) dX7_advance_32 ⟨Nat.le_of_ble_eq_true rfl, Nat.le_of_ble_eq_true rfl⟩ (fun r_32 u_32 H locs hp_32 G => ?_)
      obtain ⟨rfl, rfl⟩ := hp_32
      have G : gS D aC A s ids ad (gk _) H locs := G
      refine lv_if_ne (tgt := 40) S.1 S.2.1 dX7_advance_35 (by decide) (fun c_35 => ?_) (fun c_35 => ?_)
      · exact absurd c_35 (by decide)
      · refine lv_iconst (v := 0) S.1 S.2.1 dX7_advance_38 (by decide) ?_
        exact g_iret S G hr hlk (by rw [hT]; exact ⟨(if_neg (by decide)).symm, congrArg (fun z => (ids, ad, gk z)) (if_neg (by decide)).symm⟩) (Nat.le_of_ble_eq_true rfl) (Nat.le_of_ble_eq_true rfl) dX7_advance_39
  · refine lv_iconst (v := 1) S.1 S.2.1 dX7_advance_11 (by decide) ?_
    refine lv_goto (tgt := 32) S.1 S.2.1 dX7_advance_12 (by decide) ?_
    have hT : mAdvT κ t = 1 := by simp only [mAdvT, if_pos c_8] <;> decide
    refine g_cVi S G hF hl 8 (hV 8 _ (by first | decide | (show _ < 1; omega))) (by decide) (c_X7_can l ids ad _ _ hV) (cwV 1 S.2.2.2.2 gX7_advance_X7_can rfl rfl rfl (by decide +kernel) ⟨Nat.le_of_ble_eq_true rfl, Nat.le_of_ble_eq_true rfl⟩) rfl rfl (Nat.le_of_ble_eq_true rfl) dX7_advance_32 ⟨Nat.le_of_ble_eq_true rfl, Nat.le_of_ble_eq_true rfl⟩ (fun r_32 u_32 H locs hp_32 G => ?_)
    obtain ⟨rfl, rfl⟩ := hp_32
    have G : gS D aC A s ids ad (gk _) H locs := G
    refine lv_if_ne (tgt := 40) S.1 S.2.1 dX7_advance_35 (by decide) (fun c_35 => ?_) (fun c_35 => ?_)
    · exact absurd c_35 (by decide)
    · refine lv_iconst (v := 0) S.1 S.2.1 dX7_advance_38 (by decide) ?_
      exact g_iret S G hr hlk (by rw [hT]; exact ⟨(if_neg (by decide)).symm, congrArg (fun z => (ids, ad, gk z)) (if_neg (by decide)).symm⟩) (Nat.le_of_ble_eq_true rfl) (Nat.le_of_ble_eq_true rfl) dX7_advance_39
