set_option maxHeartbeats 4000000 in
set_option maxRecDepth 100000 in
theorem c_X7_neighboursOf (l : Launch) (ids : gIds) (ad : gAd) (κ : gMem) (a : Int32)  : gMi l yX7_neighboursOf wsX7_neighboursOf ({ frames := 2, cells := 0, slots := 0, locals := 44 } : Room) 0 0 [.int a] (ids, ad, gk κ) (fun r u => r = mNbs a 12 ∧ u = (ids, ad, gk (κ))) := by
  intro D aC A
  refine g_of (cc := cX7_neighboursOf) (maxL := 3) (ret := (some .int)) (by decide +kernel) rfl (Nat.le_of_ble_eq_true rfl) ?_
  intro p e s m below meth c ls S G hF hr hlk hnm hl
  have hl : lv_has ls 3 [(0, _)] := hl
  refine lv_iconst (v := 0) S.1 S.2.1 dX7_neighboursOf_0 (by decide) ?_
  refine lv_istore_n (lv' := [(1, _), (0, _)]) S.1 S.2.1 dX7_neighboursOf_1 rfl hl (by decide) rfl (fun ls hl => ?_)
  refine lv_iconst (v := 0) S.1 S.2.1 dX7_neighboursOf_2 (by decide) ?_
  refine lv_istore_n (lv' := [(2, _), (1, _), (0, _)]) S.1 S.2.1 dX7_neighboursOf_3 rfl hl (by decide) rfl (fun ls hl => ?_)
  refine g_forg 12 (fun k_4 => [(2, .int (nI k_4)), (1, .int (mNbs a k_4)), (0, .int a)]) ?_ G (lv_sub hl [0, 1, 2] rfl)
  intro k_4 H locs ls hk_4 G hl ih_4
  have hl : lv_has ls 3 [(2, _), (1, _), (0, _)] := hl
  refine lv_iload_n S.1 S.2.1 dX7_neighboursOf_4 rfl (lv_at hl 0 rfl) ?_
  refine lv_bipush (v := 12) S.1 S.2.1 dX7_neighboursOf_5 (by decide) ?_
  refine lv_icmp_ge (tgt := 32) S.1 S.2.1 dX7_neighboursOf_7 (by decide) (fun c_7 => ?_) (fun c_7 => ?_)
  · have hkN_4 : k_4 = 12 := g_exit c_7 hk_4 (by omega)
    subst hkN_4
    refine lv_iload_n S.1 S.2.1 dX7_neighboursOf_32 rfl (lv_at hl 1 rfl) ?_
    exact g_iret S G hr hlk (⟨rfl, rfl⟩) (Nat.le_of_ble_eq_true rfl) (Nat.le_of_ble_eq_true rfl) dX7_neighboursOf_33
  · have hlt_4 : k_4 < 12 := g_stay c_7 hk_4 (by omega)
    refine lv_iload_n S.1 S.2.1 dX7_neighboursOf_10 rfl (lv_at hl 1 rfl) ?_
    refine lv_iload_n S.1 S.2.1 dX7_neighboursOf_11 rfl (lv_at hl 2 rfl) ?_
    refine lv_iload_n S.1 S.2.1 dX7_neighboursOf_12 rfl (lv_at hl 0 rfl) ?_
    refine g_cSi S G hF hl (c_X7_areNeighbours l ids ad _ _ _) (va_cwS 2 S.2.2.2.2 gX7_neighboursOf_X7_areNeighbours rfl rfl rfl (by decide +kernel) ⟨Nat.le_of_ble_eq_true rfl, Nat.le_of_ble_eq_true rfl⟩) rfl rfl (Nat.le_of_ble_eq_true rfl) dX7_neighboursOf_13 ⟨Nat.le_of_ble_eq_true rfl, Nat.le_of_ble_eq_true rfl⟩ (fun r_13 u_13 H locs hp_13 G => ?_)
    obtain ⟨rfl, rfl⟩ := hp_13
    have G : gS D aC A s ids ad (gk _) H locs := G
    refine lv_if_eq (tgt := 23) S.1 S.2.1 dX7_neighboursOf_16 (by decide) (fun c_16 => ?_) (fun c_16 => ?_)
    · refine lv_iconst (v := 0) S.1 S.2.1 dX7_neighboursOf_23 (by decide) ?_
      refine lv_iadd S.1 S.2.1 dX7_neighboursOf_24 ?_
      refine g_top (show mNbs a k_4 + 0 = mNbs a (k_4 + 1) by simp only [mNbs, if_neg c_7, if_pos c_16]) ?_
      refine lv_istore_n (lv' := [(1, _), (2, _), (0, _)]) S.1 S.2.1 dX7_neighboursOf_25 rfl hl (by decide) rfl (fun ls hl => ?_)
      refine lv_iinc (k := 1) (lv' := [(2, _), (1, _), (0, _)]) S.1 S.2.1 dX7_neighboursOf_26 hl rfl (g_inc _) (by decide) rfl (fun ls hl => ?_)
      refine lv_goto (tgt := 4) S.1 S.2.1 dX7_neighboursOf_29 (by decide) ?_
      exact ih_4 hlt_4 _ _ _ G (lv_sub hl [0, 1, 2] rfl)
    · refine lv_iconst (v := 1) S.1 S.2.1 dX7_neighboursOf_19 (by decide) ?_
      refine lv_goto (tgt := 24) S.1 S.2.1 dX7_neighboursOf_20 (by decide) ?_
      refine lv_iadd S.1 S.2.1 dX7_neighboursOf_24 ?_
      refine g_top (show mNbs a k_4 + 1 = mNbs a (k_4 + 1) by simp only [mNbs, if_neg c_7, if_neg c_16]) ?_
      refine lv_istore_n (lv' := [(1, _), (2, _), (0, _)]) S.1 S.2.1 dX7_neighboursOf_25 rfl hl (by decide) rfl (fun ls hl => ?_)
      refine lv_iinc (k := 1) (lv' := [(2, _), (1, _), (0, _)]) S.1 S.2.1 dX7_neighboursOf_26 hl rfl (g_inc _) (by decide) rfl (fun ls hl => ?_)
      refine lv_goto (tgt := 4) S.1 S.2.1 dX7_neighboursOf_29 (by decide) ?_
      exact ih_4 hlt_4 _ _ _ G (lv_sub hl [0, 1, 2] rfl)
set_option maxHeartbeats 4000000 in
set_option maxRecDepth 100000 in
theorem c_X7_hang (l : Launch) (ids : gIds) (ad : gAd) (κ : gMem) (a b : Int32) (hV : mV ids) (hW : mWF κ)  : gMi l yX7_hang wsX7_hang ({ frames := 1, cells := 0, slots := 0, locals := 22 } : Room) 0 0 [.ref (ad 8 0), .int a, .int b] (ids, ad, gk κ) (fun r u => r = (if mHangT a b = 0 then κ 21 0 (tN a) else 0) ∧ u = (ids, ad, gk (if mHangT a b = 0 then upd3 (mCan κ 0) 21 0 (tN a) b else mCan κ (mHangT a b)))) := by
  intro D aC A
  refine g_of (cc := cX7_hang) (maxL := 4) (ret := (some .int)) (by decide +kernel) rfl (Nat.le_of_ble_eq_true rfl) ?_
  intro p e s m below meth c ls S G hF hr hlk hnm hl
  have hl : lv_has ls 4 [(0, _), (1, _), (2, _)] := hl
  have i8 : ∀ w ∈ wsX70, w ∈ wsX7_hang := by decide +kernel
  refine lv_aload_n S.1 S.2.1 dX7_hang_0 rfl (lv_at hl 0 rfl) ?_
  refine lv_iload_n S.1 S.2.1 dX7_hang_1 rfl (lv_at hl 1 rfl) ?_
  refine lv_iconst (v := 1) S.1 S.2.1 dX7_hang_2 (by decide) ?_
  refine lv_iconst (v := 5) S.1 S.2.1 dX7_hang_3 (by decide) ?_
  refine g_cSi S G hF hl (c_X7_isIn l ids ad _ _ _ _) (va_cwS 3 S.2.2.2.2 gX7_hang_X7_isIn rfl rfl rfl (by decide +kernel) ⟨Nat.le_of_ble_eq_true rfl, Nat.le_of_ble_eq_true rfl⟩) rfl rfl (Nat.le_of_ble_eq_true rfl) dX7_hang_4 ⟨Nat.le_of_ble_eq_true rfl, Nat.le_of_ble_eq_true rfl⟩ (fun r_4 u_4 H locs hp_4 G => ?_)
  obtain ⟨rfl, rfl⟩ := hp_4
  have G : gS D aC A s ids ad (gk _) H locs := G
  refine lv_if_eq (tgt := 25) S.1 S.2.1 dX7_hang_7 (by decide) (fun c_7 => ?_) (fun c_7 => ?_)
  · refine lv_iconst (v := 1) S.1 S.2.1 dX7_hang_25 (by decide) ?_
    have hT : mHangT a b = 1 := by simp only [mHangT, if_pos c_7] <;> decide
    refine g_cVi S G hF hl 8 (hV 8 _ (by first | decide | (show _ < 1; omega))) (by decide) (c_X7_can l ids ad _ _ hV) (cwV 1 S.2.2.2.2 gX7_hang_X7_can rfl rfl rfl (by decide +kernel) ⟨Nat.le_of_ble_eq_true rfl, Nat.le_of_ble_eq_true rfl⟩) rfl rfl (Nat.le_of_ble_eq_true rfl) dX7_hang_26 ⟨Nat.le_of_ble_eq_true rfl, Nat.le_of_ble_eq_true rfl⟩ (fun r_26 u_26 H locs hp_26 G => ?_)
    obtain ⟨rfl, rfl⟩ := hp_26
    have G : gS D aC A s ids ad (gk _) H locs := G
    refine lv_if_ne (tgt := 34) S.1 S.2.1 dX7_hang_29 (by decide) (fun c_29 => ?_) (fun c_29 => ?_)
    · exact absurd c_29 (by decide)
    · refine lv_iconst (v := 0) S.1 S.2.1 dX7_hang_32 (by decide) ?_
      exact g_iret S G hr hlk (by rw [hT]; exact ⟨(if_neg (by decide)).symm, congrArg (fun z => (ids, ad, gk z)) (if_neg (by decide)).symm⟩) (Nat.le_of_ble_eq_true rfl) (Nat.le_of_ble_eq_true rfl) dX7_hang_33
  · refine lv_iload_n S.1 S.2.1 dX7_hang_10 rfl (lv_at hl 2 rfl) ?_
    refine lv_iconst (v := 0) S.1 S.2.1 dX7_hang_11 (by decide) ?_
    refine lv_iload_n S.1 S.2.1 dX7_hang_12 rfl (lv_at hl 1 rfl) ?_
    refine lv_iconst (v := 1) S.1 S.2.1 dX7_hang_13 (by decide) ?_
    refine lv_isub S.1 S.2.1 dX7_hang_14 ?_
    refine g_cSi S G hF hl (c_X7_isIn l ids ad _ _ _ _) (va_cwS 3 S.2.2.2.2 gX7_hang_X7_isIn rfl rfl rfl (by decide +kernel) ⟨Nat.le_of_ble_eq_true rfl, Nat.le_of_ble_eq_true rfl⟩) rfl rfl (Nat.le_of_ble_eq_true rfl) dX7_hang_15 ⟨Nat.le_of_ble_eq_true rfl, Nat.le_of_ble_eq_true rfl⟩ (fun r_15 u_15 H locs hp_15 G => ?_)
    obtain ⟨rfl, rfl⟩ := hp_15
    have G : gS D aC A s ids ad (gk _) H locs := G
    refine lv_if_eq (tgt := 25) S.1 S.2.1 dX7_hang_18 (by decide) (fun c_18 => ?_) (fun c_18 => ?_)
    · refine lv_iconst (v := 1) S.1 S.2.1 dX7_hang_25 (by decide) ?_
      have hT : mHangT a b = 1 := by simp only [mHangT, if_neg c_7, if_pos c_18] <;> decide
      refine g_cVi S G hF hl 8 (hV 8 _ (by first | decide | (show _ < 1; omega))) (by decide) (c_X7_can l ids ad _ _ hV) (cwV 1 S.2.2.2.2 gX7_hang_X7_can rfl rfl rfl (by decide +kernel) ⟨Nat.le_of_ble_eq_true rfl, Nat.le_of_ble_eq_true rfl⟩) rfl rfl (Nat.le_of_ble_eq_true rfl) dX7_hang_26 ⟨Nat.le_of_ble_eq_true rfl, Nat.le_of_ble_eq_true rfl⟩ (fun r_26 u_26 H locs hp_26 G => ?_)
      obtain ⟨rfl, rfl⟩ := hp_26
      have G : gS D aC A s ids ad (gk _) H locs := G
      refine lv_if_ne (tgt := 34) S.1 S.2.1 dX7_hang_29 (by decide) (fun c_29 => ?_) (fun c_29 => ?_)
      · exact absurd c_29 (by decide)
      · refine lv_iconst (v := 0) S.1 S.2.1 dX7_hang_32 (by decide) ?_
        exact g_iret S G hr hlk (by rw [hT]; exact ⟨(if_neg (by decide)).symm, congrArg (fun z => (ids, ad, gk z)) (if_neg (by decide)).symm⟩) (Nat.le_of_ble_eq_true rfl) (Nat.le_of_ble_eq_true rfl) dX7_hang_33
    · refine lv_iconst (v := 0) S.1 S.2.1 dX7_hang_21 (by decide) ?_
      refine lv_goto (tgt := 26) S.1 S.2.1 dX7_hang_22 (by decide) ?_
      have hT : mHangT a b = 0 := by simp only [mHangT, if_neg c_7, if_neg c_18] <;> decide
      refine g_cVi S G hF hl 8 (hV 8 _ (by first | decide | (show _ < 1; omega))) (by decide) (c_X7_can l ids ad _ _ hV) (cwV 1 S.2.2.2.2 gX7_hang_X7_can rfl rfl rfl (by decide +kernel) ⟨Nat.le_of_ble_eq_true rfl, Nat.le_of_ble_eq_true rfl⟩) rfl rfl (Nat.le_of_ble_eq_true rfl) dX7_hang_26 ⟨Nat.le_of_ble_eq_true rfl, Nat.le_of_ble_eq_true rfl⟩ (fun r_26 u_26 H locs hp_26 G => ?_)
      obtain ⟨rfl, rfl⟩ := hp_26
      have G : gS D aC A s ids ad (gk _) H locs := G
      refine lv_if_ne (tgt := 34) S.1 S.2.1 dX7_hang_29 (by decide) (fun c_29 => ?_) (fun c_29 => ?_)
      · obtain ⟨hx, hj, -⟩ := mIn_rng' (m := 5) c_7 (by decide) (by decide)
        refine lv_aload_n S.1 S.2.1 dX7_hang_34 rfl (lv_at hl 0 rfl) ?_
        refine g_get S G 8 1 (hV 8 _ (by first | decide | (show _ < 1; omega))) (by decide) (by decide) i8 (S.2.2.2.2 (.fieldLink RX7 7 "SensorBondModel" "hangsOn" "[I") (by decide +kernel)) (gvk_or (j := 0) rfl rfl (by omega)) dX7_hang_35 ?_
        refine lv_iload_n S.1 S.2.1 dX7_hang_38 rfl (lv_at hl 1 rfl) ?_
        refine k_iald S G 21 (hV 21 _ (by first | decide | (show _ < 1; omega))) rfl rfl rfl hx (show tN a < 6 by omega) dX7_hang_39 ?_
        refine lv_istore_n (lv' := [(3, _), (0, _), (1, _), (2, _)]) S.1 S.2.1 dX7_hang_40 rfl hl (by decide) rfl (fun ls hl => ?_)
        refine lv_aload_n S.1 S.2.1 dX7_hang_41 rfl (lv_at hl 1 rfl) ?_
        refine g_get S G 8 1 (hV 8 _ (by first | decide | (show _ < 1; omega))) (by decide) (by decide) i8 (S.2.2.2.2 (.fieldLink RX7 7 "SensorBondModel" "hangsOn" "[I") (by decide +kernel)) (gvk_or (j := 0) rfl rfl (by omega)) dX7_hang_42 ?_
        refine lv_iload_n S.1 S.2.1 dX7_hang_45 rfl (lv_at hl 2 rfl) ?_
        refine lv_iload_n S.1 S.2.1 dX7_hang_46 rfl (lv_at hl 3 rfl) ?_
        refine k_iast S G 21 (hV 21 _ (by first | decide | (show _ < 1; omega))) rfl rfl rfl hx (show tN a < 6 by omega) dX7_hang_47 (fun H locs G => ?_)
        refine lv_iload_n S.1 S.2.1 dX7_hang_48 rfl (lv_at hl 0 rfl) ?_
        exact g_iret S G hr hlk (by rw [hT]; exact ⟨(if_pos rfl).symm, congrArg (fun z => (ids, ad, gk z)) (if_pos rfl).symm⟩) (Nat.le_of_ble_eq_true rfl) (Nat.le_of_ble_eq_true rfl) dX7_hang_49
      · exact absurd c_29 (by decide)
set_option maxHeartbeats 4000000 in
set_option maxRecDepth 100000 in
theorem c_X7_attach (l : Launch) (ids : gIds) (ad : gAd) (κ : gMem) (a b : Int32) (hV : mV ids) (hW : mWF κ)  : gMi l yX7_attach wsX7_attach ({ frames := 2, cells := 0, slots := 0, locals := 42 } : Room) 0 0 [.ref (ad 8 0), .int a, .int b] (ids, ad, gk κ) (fun r u => r = (if mAttachT a b = 0 then κ 25 0 (tN a) else 0) ∧ u = (ids, ad, gk (if mAttachT a b = 0 then upd3 (mCan κ 0) 25 0 (tN a) b else mCan κ (mAttachT a b)))) := by
  intro D aC A
  refine g_of (cc := cX7_attach) (maxL := 4) (ret := (some .int)) (by decide +kernel) rfl (Nat.le_of_ble_eq_true rfl) ?_
  intro p e s m below meth c ls S G hF hr hlk hnm hl
  have hl : lv_has ls 4 [(0, _), (1, _), (2, _)] := hl
  have i8 : ∀ w ∈ wsX70, w ∈ wsX7_attach := by decide +kernel
  refine lv_aload_n S.1 S.2.1 dX7_attach_0 rfl (lv_at hl 0 rfl) ?_
  refine lv_iload_n S.1 S.2.1 dX7_attach_1 rfl (lv_at hl 1 rfl) ?_
  refine g_cSi S G hF hl (c_X7_isSensor l ids ad _ _) (va_cwS 1 S.2.2.2.2 gX7_attach_X7_isSensor rfl rfl rfl (by decide +kernel) ⟨Nat.le_of_ble_eq_true rfl, Nat.le_of_ble_eq_true rfl⟩) rfl rfl (Nat.le_of_ble_eq_true rfl) dX7_attach_2 ⟨Nat.le_of_ble_eq_true rfl, Nat.le_of_ble_eq_true rfl⟩ (fun r_2 u_2 H locs hp_2 G => ?_)
  obtain ⟨rfl, rfl⟩ := hp_2
  have G : gS D aC A s ids ad (gk _) H locs := G
  refine lv_if_eq (tgt := 19) S.1 S.2.1 dX7_attach_5 (by decide) (fun c_5 => ?_) (fun c_5 => ?_)
  · refine lv_iconst (v := 1) S.1 S.2.1 dX7_attach_19 (by decide) ?_
    have hT : mAttachT a b = 1 := by simp only [mAttachT, if_pos c_5] <;> decide
    refine g_cVi S G hF hl 8 (hV 8 _ (by first | decide | (show _ < 1; omega))) (by decide) (c_X7_can l ids ad _ _ hV) (cwV 1 S.2.2.2.2 gX7_attach_X7_can rfl rfl rfl (by decide +kernel) ⟨Nat.le_of_ble_eq_true rfl, Nat.le_of_ble_eq_true rfl⟩) rfl rfl (Nat.le_of_ble_eq_true rfl) dX7_attach_20 ⟨Nat.le_of_ble_eq_true rfl, Nat.le_of_ble_eq_true rfl⟩ (fun r_20 u_20 H locs hp_20 G => ?_)
    obtain ⟨rfl, rfl⟩ := hp_20
    have G : gS D aC A s ids ad (gk _) H locs := G
    refine lv_if_ne (tgt := 28) S.1 S.2.1 dX7_attach_23 (by decide) (fun c_23 => ?_) (fun c_23 => ?_)
    · exact absurd c_23 (by decide)
    · refine lv_iconst (v := 0) S.1 S.2.1 dX7_attach_26 (by decide) ?_
      exact g_iret S G hr hlk (by rw [hT]; exact ⟨(if_neg (by decide)).symm, congrArg (fun z => (ids, ad, gk z)) (if_neg (by decide)).symm⟩) (Nat.le_of_ble_eq_true rfl) (Nat.le_of_ble_eq_true rfl) dX7_attach_27
  · refine lv_iload_n S.1 S.2.1 dX7_attach_8 rfl (lv_at hl 2 rfl) ?_
    refine g_cSi S G hF hl (c_X7_isRepeater l ids ad _ _) (va_cwS 1 S.2.2.2.2 gX7_attach_X7_isRepeater rfl rfl rfl (by decide +kernel) ⟨Nat.le_of_ble_eq_true rfl, Nat.le_of_ble_eq_true rfl⟩) rfl rfl (Nat.le_of_ble_eq_true rfl) dX7_attach_9 ⟨Nat.le_of_ble_eq_true rfl, Nat.le_of_ble_eq_true rfl⟩ (fun r_9 u_9 H locs hp_9 G => ?_)
    obtain ⟨rfl, rfl⟩ := hp_9
    have G : gS D aC A s ids ad (gk _) H locs := G
    refine lv_if_eq (tgt := 19) S.1 S.2.1 dX7_attach_12 (by decide) (fun c_12 => ?_) (fun c_12 => ?_)
    · refine lv_iconst (v := 1) S.1 S.2.1 dX7_attach_19 (by decide) ?_
      have hT : mAttachT a b = 1 := by simp only [mAttachT, if_neg c_5, if_pos c_12] <;> decide
      refine g_cVi S G hF hl 8 (hV 8 _ (by first | decide | (show _ < 1; omega))) (by decide) (c_X7_can l ids ad _ _ hV) (cwV 1 S.2.2.2.2 gX7_attach_X7_can rfl rfl rfl (by decide +kernel) ⟨Nat.le_of_ble_eq_true rfl, Nat.le_of_ble_eq_true rfl⟩) rfl rfl (Nat.le_of_ble_eq_true rfl) dX7_attach_20 ⟨Nat.le_of_ble_eq_true rfl, Nat.le_of_ble_eq_true rfl⟩ (fun r_20 u_20 H locs hp_20 G => ?_)
      obtain ⟨rfl, rfl⟩ := hp_20
      have G : gS D aC A s ids ad (gk _) H locs := G
      refine lv_if_ne (tgt := 28) S.1 S.2.1 dX7_attach_23 (by decide) (fun c_23 => ?_) (fun c_23 => ?_)
      · exact absurd c_23 (by decide)
      · refine lv_iconst (v := 0) S.1 S.2.1 dX7_attach_26 (by decide) ?_
        exact g_iret S G hr hlk (by rw [hT]; exact ⟨(if_neg (by decide)).symm, congrArg (fun z => (ids, ad, gk z)) (if_neg (by decide)).symm⟩) (Nat.le_of_ble_eq_true rfl) (Nat.le_of_ble_eq_true rfl) dX7_attach_27
    · refine lv_iconst (v := 0) S.1 S.2.1 dX7_attach_15 (by decide) ?_
      refine lv_goto (tgt := 20) S.1 S.2.1 dX7_attach_16 (by decide) ?_
      have hT : mAttachT a b = 0 := by simp only [mAttachT, if_neg c_5, if_neg c_12] <;> decide
      refine g_cVi S G hF hl 8 (hV 8 _ (by first | decide | (show _ < 1; omega))) (by decide) (c_X7_can l ids ad _ _ hV) (cwV 1 S.2.2.2.2 gX7_attach_X7_can rfl rfl rfl (by decide +kernel) ⟨Nat.le_of_ble_eq_true rfl, Nat.le_of_ble_eq_true rfl⟩) rfl rfl (Nat.le_of_ble_eq_true rfl) dX7_attach_20 ⟨Nat.le_of_ble_eq_true rfl, Nat.le_of_ble_eq_true rfl⟩ (fun r_20 u_20 H locs hp_20 G => ?_)
      obtain ⟨rfl, rfl⟩ := hp_20
      have G : gS D aC A s ids ad (gk _) H locs := G
      refine lv_if_ne (tgt := 28) S.1 S.2.1 dX7_attach_23 (by decide) (fun c_23 => ?_) (fun c_23 => ?_)
      · obtain ⟨hx, hj⟩ := mIn_rng (m := 11) c_5 (by decide)
        refine lv_aload_n S.1 S.2.1 dX7_attach_28 rfl (lv_at hl 0 rfl) ?_
        refine g_get S G 8 5 (hV 8 _ (by first | decide | (show _ < 1; omega))) (by decide) (by decide) i8 (S.2.2.2.2 (.fieldLink RX7 22 "SensorBondModel" "attached" "[I") (by decide +kernel)) (gvk_or (j := 0) rfl rfl (by omega)) dX7_attach_29 ?_
        refine lv_iload_n S.1 S.2.1 dX7_attach_32 rfl (lv_at hl 1 rfl) ?_
        refine k_iald S G 25 (hV 25 _ (by first | decide | (show _ < 1; omega))) rfl rfl rfl hx (show tN a < 12 by omega) dX7_attach_33 ?_
        refine lv_istore_n (lv' := [(3, _), (0, _), (1, _), (2, _)]) S.1 S.2.1 dX7_attach_34 rfl hl (by decide) rfl (fun ls hl => ?_)
        refine lv_aload_n S.1 S.2.1 dX7_attach_35 rfl (lv_at hl 1 rfl) ?_
        refine g_get S G 8 5 (hV 8 _ (by first | decide | (show _ < 1; omega))) (by decide) (by decide) i8 (S.2.2.2.2 (.fieldLink RX7 22 "SensorBondModel" "attached" "[I") (by decide +kernel)) (gvk_or (j := 0) rfl rfl (by omega)) dX7_attach_36 ?_
        refine lv_iload_n S.1 S.2.1 dX7_attach_39 rfl (lv_at hl 2 rfl) ?_
        refine lv_iload_n S.1 S.2.1 dX7_attach_40 rfl (lv_at hl 3 rfl) ?_
        refine k_iast S G 25 (hV 25 _ (by first | decide | (show _ < 1; omega))) rfl rfl rfl hx (show tN a < 12 by omega) dX7_attach_41 (fun H locs G => ?_)
        refine lv_iload_n S.1 S.2.1 dX7_attach_42 rfl (lv_at hl 0 rfl) ?_
        exact g_iret S G hr hlk (by rw [hT]; exact ⟨(if_pos rfl).symm, congrArg (fun z => (ids, ad, gk z)) (if_pos rfl).symm⟩) (Nat.le_of_ble_eq_true rfl) (Nat.le_of_ble_eq_true rfl) dX7_attach_43
      · exact absurd c_23 (by decide)
set_option maxHeartbeats 4000000 in
set_option maxRecDepth 100000 in
theorem c_X7_setLoss (l : Launch) (ids : gIds) (ad : gAd) (κ : gMem) (a b : Int32) (hV : mV ids) (hW : mWF κ)  : gMi l yX7_setLoss wsX7_setLoss ({ frames := 2, cells := 0, slots := 0, locals := 42 } : Room) 0 0 [.ref (ad 8 0), .int a, .int b] (ids, ad, gk κ) (fun r u => r = (if mSetLossT a b = 0 then κ 24 0 (tN a) else 0) ∧ u = (ids, ad, gk (if mSetLossT a b = 0 then mSetLossK (mCan κ 0) (tN a) b else mCan κ (mSetLossT a b)))) := by
  intro D aC A
  refine g_of (cc := cX7_setLoss) (maxL := 4) (ret := (some .int)) (by decide +kernel) rfl (Nat.le_of_ble_eq_true rfl) ?_
  intro p e s m below meth c ls S G hF hr hlk hnm hl
  have hl : lv_has ls 4 [(0, _), (1, _), (2, _)] := hl
  have i8 : ∀ w ∈ wsX70, w ∈ wsX7_setLoss := by decide +kernel
  refine lv_aload_n S.1 S.2.1 dX7_setLoss_0 rfl (lv_at hl 0 rfl) ?_
  refine lv_iload_n S.1 S.2.1 dX7_setLoss_1 rfl (lv_at hl 1 rfl) ?_
  refine g_cSi S G hF hl (c_X7_isRepeater l ids ad _ _) (va_cwS 1 S.2.2.2.2 gX7_setLoss_X7_isRepeater rfl rfl rfl (by decide +kernel) ⟨Nat.le_of_ble_eq_true rfl, Nat.le_of_ble_eq_true rfl⟩) rfl rfl (Nat.le_of_ble_eq_true rfl) dX7_setLoss_2 ⟨Nat.le_of_ble_eq_true rfl, Nat.le_of_ble_eq_true rfl⟩ (fun r_2 u_2 H locs hp_2 G => ?_)
  obtain ⟨rfl, rfl⟩ := hp_2
  have G : gS D aC A s ids ad (gk _) H locs := G
  refine lv_if_ne (tgt := 12) S.1 S.2.1 dX7_setLoss_5 (by decide) (fun c_5 => ?_) (fun c_5 => ?_)
  · refine lv_iload_n S.1 S.2.1 dX7_setLoss_12 rfl (lv_at hl 2 rfl) ?_
    refine lv_if_eq (tgt := 26) S.1 S.2.1 dX7_setLoss_13 (by decide) (fun c_13 => ?_) (fun c_13 => ?_)
    · refine lv_iconst (v := 0) S.1 S.2.1 dX7_setLoss_26 (by decide) ?_
      refine lv_goto (tgt := 31) S.1 S.2.1 dX7_setLoss_27 (by decide) ?_
      have hT : mSetLossT a b = 0 := by simp only [mSetLossT, if_neg c_5, if_pos c_13] <;> decide
      refine g_cVi S G hF hl 8 (hV 8 _ (by first | decide | (show _ < 1; omega))) (by decide) (c_X7_can l ids ad _ _ hV) (cwV 1 S.2.2.2.2 gX7_setLoss_X7_can rfl rfl rfl (by decide +kernel) ⟨Nat.le_of_ble_eq_true rfl, Nat.le_of_ble_eq_true rfl⟩) rfl rfl (Nat.le_of_ble_eq_true rfl) dX7_setLoss_31 ⟨Nat.le_of_ble_eq_true rfl, Nat.le_of_ble_eq_true rfl⟩ (fun r_31 u_31 H locs hp_31 G => ?_)
      obtain ⟨rfl, rfl⟩ := hp_31
      have G : gS D aC A s ids ad (gk _) H locs := G
      refine lv_if_ne (tgt := 39) S.1 S.2.1 dX7_setLoss_34 (by decide) (fun c_34 => ?_) (fun c_34 => ?_)
      · obtain ⟨hx, hj⟩ := mIn_rng (m := 5) c_5 (by decide)
        refine lv_aload_n S.1 S.2.1 dX7_setLoss_39 rfl (lv_at hl 0 rfl) ?_
        refine g_get S G 8 4 (hV 8 _ (by first | decide | (show _ < 1; omega))) (by decide) (by decide) i8 (S.2.2.2.2 (.fieldLink RX7 19 "SensorBondModel" "gone" "[I") (by decide +kernel)) (gvk_or (j := 0) rfl rfl (by omega)) dX7_setLoss_40 ?_
        refine lv_iload_n S.1 S.2.1 dX7_setLoss_43 rfl (lv_at hl 1 rfl) ?_
        refine k_iald S G 24 (hV 24 _ (by first | decide | (show _ < 1; omega))) rfl rfl rfl hx (show tN a < 6 by omega) dX7_setLoss_44 ?_
        refine lv_istore_n (lv' := [(3, _), (0, _), (1, _), (2, _)]) S.1 S.2.1 dX7_setLoss_45 rfl hl (by decide) rfl (fun ls hl => ?_)
        refine lv_aload_n S.1 S.2.1 dX7_setLoss_46 rfl (lv_at hl 1 rfl) ?_
        refine g_get S G 8 2 (hV 8 _ (by first | decide | (show _ < 1; omega))) (by decide) (by decide) i8 (S.2.2.2.2 (.fieldLink RX7 13 "SensorBondModel" "lossOf" "[I") (by decide +kernel)) (gvk_or (j := 0) rfl rfl (by omega)) dX7_setLoss_47 ?_
        refine lv_iload_n S.1 S.2.1 dX7_setLoss_50 rfl (lv_at hl 2 rfl) ?_
        refine lv_iload_n S.1 S.2.1 dX7_setLoss_51 rfl (lv_at hl 3 rfl) ?_
        refine k_iast S G 22 (hV 22 _ (by first | decide | (show _ < 1; omega))) rfl rfl rfl hx (show tN a < 6 by omega) dX7_setLoss_52 (fun H locs G => ?_)
        refine lv_aload_n S.1 S.2.1 dX7_setLoss_53 rfl (lv_at hl 1 rfl) ?_
        refine g_get S G 8 3 (hV 8 _ (by first | decide | (show _ < 1; omega))) (by decide) (by decide) i8 (S.2.2.2.2 (.fieldLink RX7 16 "SensorBondModel" "came" "[I") (by decide +kernel)) (gvk_or (j := 0) rfl rfl (by omega)) dX7_setLoss_54 ?_
        refine lv_iload_n S.1 S.2.1 dX7_setLoss_57 rfl (lv_at hl 2 rfl) ?_
        refine lv_iconst (v := 0) S.1 S.2.1 dX7_setLoss_58 (by decide) ?_
        refine k_iast S G 23 (hV 23 _ (by first | decide | (show _ < 1; omega))) rfl rfl rfl hx (show tN a < 6 by omega) dX7_setLoss_59 (fun H locs G => ?_)
        refine lv_aload_n S.1 S.2.1 dX7_setLoss_60 rfl (lv_at hl 1 rfl) ?_
        refine g_get S G 8 4 (hV 8 _ (by first | decide | (show _ < 1; omega))) (by decide) (by decide) i8 (S.2.2.2.2 (.fieldLink RX7 19 "SensorBondModel" "gone" "[I") (by decide +kernel)) (gvk_or (j := 0) rfl rfl (by omega)) dX7_setLoss_61 ?_
        refine lv_iload_n S.1 S.2.1 dX7_setLoss_64 rfl (lv_at hl 2 rfl) ?_
        refine lv_iconst (v := 0) S.1 S.2.1 dX7_setLoss_65 (by decide) ?_
        refine k_iast S G 24 (hV 24 _ (by first | decide | (show _ < 1; omega))) rfl rfl rfl hx (show tN a < 6 by omega) dX7_setLoss_66 (fun H locs G => ?_)
        refine lv_iload_n S.1 S.2.1 dX7_setLoss_67 rfl (lv_at hl 0 rfl) ?_
        exact g_iret S G hr hlk (by rw [hT]; exact ⟨(if_pos rfl).symm, congrArg (fun z => (ids, ad, gk z)) (if_pos rfl).symm⟩) (Nat.le_of_ble_eq_true rfl) (Nat.le_of_ble_eq_true rfl) dX7_setLoss_68
      · exact absurd c_34 (by decide)
    · refine lv_iload_n S.1 S.2.1 dX7_setLoss_16 rfl (lv_at hl 2 rfl) ?_
      refine lv_iconst (v := 2) S.1 S.2.1 dX7_setLoss_17 (by decide) ?_
      refine lv_bipush (v := 9) S.1 S.2.1 dX7_setLoss_18 (by decide) ?_
      refine g_cSi S G hF hl (c_X7_isIn l ids ad _ _ _ _) (va_cwS 3 S.2.2.2.2 gX7_setLoss_X7_isIn rfl rfl rfl (by decide +kernel) ⟨Nat.le_of_ble_eq_true rfl, Nat.le_of_ble_eq_true rfl⟩) rfl rfl (Nat.le_of_ble_eq_true rfl) dX7_setLoss_20 ⟨Nat.le_of_ble_eq_true rfl, Nat.le_of_ble_eq_true rfl⟩ (fun r_20 u_20 H locs hp_20 G => ?_)
      obtain ⟨rfl, rfl⟩ := hp_20
      have G : gS D aC A s ids ad (gk _) H locs := G
      refine lv_if_eq (tgt := 30) S.1 S.2.1 dX7_setLoss_23 (by decide) (fun c_23 => ?_) (fun c_23 => ?_)
      · refine lv_iconst (v := 2) S.1 S.2.1 dX7_setLoss_30 (by decide) ?_
        have hT : mSetLossT a b = 2 := by simp only [mSetLossT, if_neg c_5, if_neg c_13, if_pos c_23] <;> decide
        refine g_cVi S G hF hl 8 (hV 8 _ (by first | decide | (show _ < 1; omega))) (by decide) (c_X7_can l ids ad _ _ hV) (cwV 1 S.2.2.2.2 gX7_setLoss_X7_can rfl rfl rfl (by decide +kernel) ⟨Nat.le_of_ble_eq_true rfl, Nat.le_of_ble_eq_true rfl⟩) rfl rfl (Nat.le_of_ble_eq_true rfl) dX7_setLoss_31 ⟨Nat.le_of_ble_eq_true rfl, Nat.le_of_ble_eq_true rfl⟩ (fun r_31 u_31 H locs hp_31 G => ?_)
        obtain ⟨rfl, rfl⟩ := hp_31
        have G : gS D aC A s ids ad (gk _) H locs := G
        refine lv_if_ne (tgt := 39) S.1 S.2.1 dX7_setLoss_34 (by decide) (fun c_34 => ?_) (fun c_34 => ?_)
        · exact absurd c_34 (by decide)
        · refine lv_iconst (v := 0) S.1 S.2.1 dX7_setLoss_37 (by decide) ?_
          exact g_iret S G hr hlk (by rw [hT]; exact ⟨(if_neg (by decide)).symm, congrArg (fun z => (ids, ad, gk z)) (if_neg (by decide)).symm⟩) (Nat.le_of_ble_eq_true rfl) (Nat.le_of_ble_eq_true rfl) dX7_setLoss_38
      · refine lv_iconst (v := 0) S.1 S.2.1 dX7_setLoss_26 (by decide) ?_
        refine lv_goto (tgt := 31) S.1 S.2.1 dX7_setLoss_27 (by decide) ?_
        have hT : mSetLossT a b = 0 := by simp only [mSetLossT, if_neg c_5, if_neg c_13, if_neg c_23] <;> decide
        refine g_cVi S G hF hl 8 (hV 8 _ (by first | decide | (show _ < 1; omega))) (by decide) (c_X7_can l ids ad _ _ hV) (cwV 1 S.2.2.2.2 gX7_setLoss_X7_can rfl rfl rfl (by decide +kernel) ⟨Nat.le_of_ble_eq_true rfl, Nat.le_of_ble_eq_true rfl⟩) rfl rfl (Nat.le_of_ble_eq_true rfl) dX7_setLoss_31 ⟨Nat.le_of_ble_eq_true rfl, Nat.le_of_ble_eq_true rfl⟩ (fun r_31 u_31 H locs hp_31 G => ?_)
        obtain ⟨rfl, rfl⟩ := hp_31
        have G : gS D aC A s ids ad (gk _) H locs := G
        refine lv_if_ne (tgt := 39) S.1 S.2.1 dX7_setLoss_34 (by decide) (fun c_34 => ?_) (fun c_34 => ?_)
        · obtain ⟨hx, hj⟩ := mIn_rng (m := 5) c_5 (by decide)
          refine lv_aload_n S.1 S.2.1 dX7_setLoss_39 rfl (lv_at hl 0 rfl) ?_
          refine g_get S G 8 4 (hV 8 _ (by first | decide | (show _ < 1; omega))) (by decide) (by decide) i8 (S.2.2.2.2 (.fieldLink RX7 19 "SensorBondModel" "gone" "[I") (by decide +kernel)) (gvk_or (j := 0) rfl rfl (by omega)) dX7_setLoss_40 ?_
          refine lv_iload_n S.1 S.2.1 dX7_setLoss_43 rfl (lv_at hl 1 rfl) ?_
          refine k_iald S G 24 (hV 24 _ (by first | decide | (show _ < 1; omega))) rfl rfl rfl hx (show tN a < 6 by omega) dX7_setLoss_44 ?_
          refine lv_istore_n (lv' := [(3, _), (0, _), (1, _), (2, _)]) S.1 S.2.1 dX7_setLoss_45 rfl hl (by decide) rfl (fun ls hl => ?_)
          refine lv_aload_n S.1 S.2.1 dX7_setLoss_46 rfl (lv_at hl 1 rfl) ?_
          refine g_get S G 8 2 (hV 8 _ (by first | decide | (show _ < 1; omega))) (by decide) (by decide) i8 (S.2.2.2.2 (.fieldLink RX7 13 "SensorBondModel" "lossOf" "[I") (by decide +kernel)) (gvk_or (j := 0) rfl rfl (by omega)) dX7_setLoss_47 ?_
          refine lv_iload_n S.1 S.2.1 dX7_setLoss_50 rfl (lv_at hl 2 rfl) ?_
          refine lv_iload_n S.1 S.2.1 dX7_setLoss_51 rfl (lv_at hl 3 rfl) ?_
          refine k_iast S G 22 (hV 22 _ (by first | decide | (show _ < 1; omega))) rfl rfl rfl hx (show tN a < 6 by omega) dX7_setLoss_52 (fun H locs G => ?_)
          refine lv_aload_n S.1 S.2.1 dX7_setLoss_53 rfl (lv_at hl 1 rfl) ?_
          refine g_get S G 8 3 (hV 8 _ (by first | decide | (show _ < 1; omega))) (by decide) (by decide) i8 (S.2.2.2.2 (.fieldLink RX7 16 "SensorBondModel" "came" "[I") (by decide +kernel)) (gvk_or (j := 0) rfl rfl (by omega)) dX7_setLoss_54 ?_
          refine lv_iload_n S.1 S.2.1 dX7_setLoss_57 rfl (lv_at hl 2 rfl) ?_
          refine lv_iconst (v := 0) S.1 S.2.1 dX7_setLoss_58 (by decide) ?_
          refine k_iast S G 23 (hV 23 _ (by first | decide | (show _ < 1; omega))) rfl rfl rfl hx (show tN a < 6 by omega) dX7_setLoss_59 (fun H locs G => ?_)
          refine lv_aload_n S.1 S.2.1 dX7_setLoss_60 rfl (lv_at hl 1 rfl) ?_
          refine g_get S G 8 4 (hV 8 _ (by first | decide | (show _ < 1; omega))) (by decide) (by decide) i8 (S.2.2.2.2 (.fieldLink RX7 19 "SensorBondModel" "gone" "[I") (by decide +kernel)) (gvk_or (j := 0) rfl rfl (by omega)) dX7_setLoss_61 ?_
          refine lv_iload_n S.1 S.2.1 dX7_setLoss_64 rfl (lv_at hl 2 rfl) ?_
          refine lv_iconst (v := 0) S.1 S.2.1 dX7_setLoss_65 (by decide) ?_
          refine k_iast S G 24 (hV 24 _ (by first | decide | (show _ < 1; omega))) rfl rfl rfl hx (show tN a < 6 by omega) dX7_setLoss_66 (fun H locs G => ?_)
          refine lv_iload_n S.1 S.2.1 dX7_setLoss_67 rfl (lv_at hl 0 rfl) ?_
          exact g_iret S G hr hlk (by rw [hT]; exact ⟨(if_pos rfl).symm, congrArg (fun z => (ids, ad, gk z)) (if_pos rfl).symm⟩) (Nat.le_of_ble_eq_true rfl) (Nat.le_of_ble_eq_true rfl) dX7_setLoss_68
        · exact absurd c_34 (by decide)
  · refine lv_iconst (v := 1) S.1 S.2.1 dX7_setLoss_8 (by decide) ?_
    refine lv_goto (tgt := 31) S.1 S.2.1 dX7_setLoss_9 (by decide) ?_
    have hT : mSetLossT a b = 1 := by simp only [mSetLossT, if_pos c_5] <;> decide
    refine g_cVi S G hF hl 8 (hV 8 _ (by first | decide | (show _ < 1; omega))) (by decide) (c_X7_can l ids ad _ _ hV) (cwV 1 S.2.2.2.2 gX7_setLoss_X7_can rfl rfl rfl (by decide +kernel) ⟨Nat.le_of_ble_eq_true rfl, Nat.le_of_ble_eq_true rfl⟩) rfl rfl (Nat.le_of_ble_eq_true rfl) dX7_setLoss_31 ⟨Nat.le_of_ble_eq_true rfl, Nat.le_of_ble_eq_true rfl⟩ (fun r_31 u_31 H locs hp_31 G => ?_)
    obtain ⟨rfl, rfl⟩ := hp_31
    have G : gS D aC A s ids ad (gk _) H locs := G
    refine lv_if_ne (tgt := 39) S.1 S.2.1 dX7_setLoss_34 (by decide) (fun c_34 => ?_) (fun c_34 => ?_)
    · exact absurd c_34 (by decide)
    · refine lv_iconst (v := 0) S.1 S.2.1 dX7_setLoss_37 (by decide) ?_
      exact g_iret S G hr hlk (by rw [hT]; exact ⟨(if_neg (by decide)).symm, congrArg (fun z => (ids, ad, gk z)) (if_neg (by decide)).symm⟩) (Nat.le_of_ble_eq_true rfl) (Nat.le_of_ble_eq_true rfl) dX7_setLoss_38
set_option maxHeartbeats 4000000 in
set_option maxRecDepth 100000 in
theorem c_X7_setPrice (l : Launch) (ids : gIds) (ad : gAd) (κ : gMem) (a b : Int32) (hV : mV ids) (hW : mWF κ)  : gMi l yX7_setPrice wsX7_setPrice ({ frames := 2, cells := 0, slots := 0, locals := 42 } : Room) 0 0 [.ref (ad 8 0), .int a, .int b] (ids, ad, gk κ) (fun r u => r = (if mSetPriceT a b = 0 then κ 28 0 (tN a) else 0) ∧ u = (ids, ad, gk (if mSetPriceT a b = 0 then upd3 (mCan κ 0) 28 0 (tN a) b else mCan κ (mSetPriceT a b)))) := by
  intro D aC A
  refine g_of (cc := cX7_setPrice) (maxL := 4) (ret := (some .int)) (by decide +kernel) rfl (Nat.le_of_ble_eq_true rfl) ?_
  intro p e s m below meth c ls S G hF hr hlk hnm hl
  have hl : lv_has ls 4 [(0, _), (1, _), (2, _)] := hl
  have i8 : ∀ w ∈ wsX70, w ∈ wsX7_setPrice := by decide +kernel
  refine lv_aload_n S.1 S.2.1 dX7_setPrice_0 rfl (lv_at hl 0 rfl) ?_
  refine lv_iload_n S.1 S.2.1 dX7_setPrice_1 rfl (lv_at hl 1 rfl) ?_
  refine g_cSi S G hF hl (c_X7_isSensor l ids ad _ _) (va_cwS 1 S.2.2.2.2 gX7_setPrice_X7_isSensor rfl rfl rfl (by decide +kernel) ⟨Nat.le_of_ble_eq_true rfl, Nat.le_of_ble_eq_true rfl⟩) rfl rfl (Nat.le_of_ble_eq_true rfl) dX7_setPrice_2 ⟨Nat.le_of_ble_eq_true rfl, Nat.le_of_ble_eq_true rfl⟩ (fun r_2 u_2 H locs hp_2 G => ?_)
  obtain ⟨rfl, rfl⟩ := hp_2
  have G : gS D aC A s ids ad (gk _) H locs := G
  refine lv_if_ne (tgt := 12) S.1 S.2.1 dX7_setPrice_5 (by decide) (fun c_5 => ?_) (fun c_5 => ?_)
  · refine lv_iload_n S.1 S.2.1 dX7_setPrice_12 rfl (lv_at hl 2 rfl) ?_
    refine lv_iconst (v := 1) S.1 S.2.1 dX7_setPrice_13 (by decide) ?_
    refine lv_bipush (v := 20) S.1 S.2.1 dX7_setPrice_14 (by decide) ?_
    refine g_cSi S G hF hl (c_X7_isIn l ids ad _ _ _ _) (va_cwS 3 S.2.2.2.2 gX7_setPrice_X7_isIn rfl rfl rfl (by decide +kernel) ⟨Nat.le_of_ble_eq_true rfl, Nat.le_of_ble_eq_true rfl⟩) rfl rfl (Nat.le_of_ble_eq_true rfl) dX7_setPrice_16 ⟨Nat.le_of_ble_eq_true rfl, Nat.le_of_ble_eq_true rfl⟩ (fun r_16 u_16 H locs hp_16 G => ?_)
    obtain ⟨rfl, rfl⟩ := hp_16
    have G : gS D aC A s ids ad (gk _) H locs := G
    refine lv_if_eq (tgt := 26) S.1 S.2.1 dX7_setPrice_19 (by decide) (fun c_19 => ?_) (fun c_19 => ?_)
    · refine lv_iconst (v := 2) S.1 S.2.1 dX7_setPrice_26 (by decide) ?_
      have hT : mSetPriceT a b = 2 := by simp only [mSetPriceT, if_neg c_5, if_pos c_19] <;> decide
      refine g_cVi S G hF hl 8 (hV 8 _ (by first | decide | (show _ < 1; omega))) (by decide) (c_X7_can l ids ad _ _ hV) (cwV 1 S.2.2.2.2 gX7_setPrice_X7_can rfl rfl rfl (by decide +kernel) ⟨Nat.le_of_ble_eq_true rfl, Nat.le_of_ble_eq_true rfl⟩) rfl rfl (Nat.le_of_ble_eq_true rfl) dX7_setPrice_27 ⟨Nat.le_of_ble_eq_true rfl, Nat.le_of_ble_eq_true rfl⟩ (fun r_27 u_27 H locs hp_27 G => ?_)
      obtain ⟨rfl, rfl⟩ := hp_27
      have G : gS D aC A s ids ad (gk _) H locs := G
      refine lv_if_ne (tgt := 35) S.1 S.2.1 dX7_setPrice_30 (by decide) (fun c_30 => ?_) (fun c_30 => ?_)
      · exact absurd c_30 (by decide)
      · refine lv_iconst (v := 0) S.1 S.2.1 dX7_setPrice_33 (by decide) ?_
        exact g_iret S G hr hlk (by rw [hT]; exact ⟨(if_neg (by decide)).symm, congrArg (fun z => (ids, ad, gk z)) (if_neg (by decide)).symm⟩) (Nat.le_of_ble_eq_true rfl) (Nat.le_of_ble_eq_true rfl) dX7_setPrice_34
    · refine lv_iconst (v := 0) S.1 S.2.1 dX7_setPrice_22 (by decide) ?_
      refine lv_goto (tgt := 27) S.1 S.2.1 dX7_setPrice_23 (by decide) ?_
      have hT : mSetPriceT a b = 0 := by simp only [mSetPriceT, if_neg c_5, if_neg c_19] <;> decide
      refine g_cVi S G hF hl 8 (hV 8 _ (by first | decide | (show _ < 1; omega))) (by decide) (c_X7_can l ids ad _ _ hV) (cwV 1 S.2.2.2.2 gX7_setPrice_X7_can rfl rfl rfl (by decide +kernel) ⟨Nat.le_of_ble_eq_true rfl, Nat.le_of_ble_eq_true rfl⟩) rfl rfl (Nat.le_of_ble_eq_true rfl) dX7_setPrice_27 ⟨Nat.le_of_ble_eq_true rfl, Nat.le_of_ble_eq_true rfl⟩ (fun r_27 u_27 H locs hp_27 G => ?_)
      obtain ⟨rfl, rfl⟩ := hp_27
      have G : gS D aC A s ids ad (gk _) H locs := G
      refine lv_if_ne (tgt := 35) S.1 S.2.1 dX7_setPrice_30 (by decide) (fun c_30 => ?_) (fun c_30 => ?_)
      · obtain ⟨hx, hj⟩ := mIn_rng (m := 11) c_5 (by decide)
        refine lv_aload_n S.1 S.2.1 dX7_setPrice_35 rfl (lv_at hl 0 rfl) ?_
        refine g_get S G 8 8 (hV 8 _ (by first | decide | (show _ < 1; omega))) (by decide) (by decide) i8 (S.2.2.2.2 (.fieldLink RX7 31 "SensorBondModel" "price" "[I") (by decide +kernel)) (gvk_or (j := 0) rfl rfl (by omega)) dX7_setPrice_36 ?_
        refine lv_iload_n S.1 S.2.1 dX7_setPrice_39 rfl (lv_at hl 1 rfl) ?_
        refine k_iald S G 28 (hV 28 _ (by first | decide | (show _ < 1; omega))) rfl rfl rfl hx (show tN a < 12 by omega) dX7_setPrice_40 ?_
        refine lv_istore_n (lv' := [(3, _), (0, _), (1, _), (2, _)]) S.1 S.2.1 dX7_setPrice_41 rfl hl (by decide) rfl (fun ls hl => ?_)
        refine lv_aload_n S.1 S.2.1 dX7_setPrice_42 rfl (lv_at hl 1 rfl) ?_
        refine g_get S G 8 8 (hV 8 _ (by first | decide | (show _ < 1; omega))) (by decide) (by decide) i8 (S.2.2.2.2 (.fieldLink RX7 31 "SensorBondModel" "price" "[I") (by decide +kernel)) (gvk_or (j := 0) rfl rfl (by omega)) dX7_setPrice_43 ?_
        refine lv_iload_n S.1 S.2.1 dX7_setPrice_46 rfl (lv_at hl 2 rfl) ?_
        refine lv_iload_n S.1 S.2.1 dX7_setPrice_47 rfl (lv_at hl 3 rfl) ?_
        refine k_iast S G 28 (hV 28 _ (by first | decide | (show _ < 1; omega))) rfl rfl rfl hx (show tN a < 12 by omega) dX7_setPrice_48 (fun H locs G => ?_)
        refine lv_iload_n S.1 S.2.1 dX7_setPrice_49 rfl (lv_at hl 0 rfl) ?_
        exact g_iret S G hr hlk (by rw [hT]; exact ⟨(if_pos rfl).symm, congrArg (fun z => (ids, ad, gk z)) (if_pos rfl).symm⟩) (Nat.le_of_ble_eq_true rfl) (Nat.le_of_ble_eq_true rfl) dX7_setPrice_50
      · exact absurd c_30 (by decide)
  · refine lv_iconst (v := 1) S.1 S.2.1 dX7_setPrice_8 (by decide) ?_
    refine lv_goto (tgt := 27) S.1 S.2.1 dX7_setPrice_9 (by decide) ?_
    have hT : mSetPriceT a b = 1 := by simp only [mSetPriceT, if_pos c_5] <;> decide
    refine g_cVi S G hF hl 8 (hV 8 _ (by first | decide | (show _ < 1; omega))) (by decide) (c_X7_can l ids ad _ _ hV) (cwV 1 S.2.2.2.2 gX7_setPrice_X7_can rfl rfl rfl (by decide +kernel) ⟨Nat.le_of_ble_eq_true rfl, Nat.le_of_ble_eq_true rfl⟩) rfl rfl (Nat.le_of_ble_eq_true rfl) dX7_setPrice_27 ⟨Nat.le_of_ble_eq_true rfl, Nat.le_of_ble_eq_true rfl⟩ (fun r_27 u_27 H locs hp_27 G => ?_)
    obtain ⟨rfl, rfl⟩ := hp_27
    have G : gS D aC A s ids ad (gk _) H locs := G
    refine lv_if_ne (tgt := 35) S.1 S.2.1 dX7_setPrice_30 (by decide) (fun c_30 => ?_) (fun c_30 => ?_)
    · exact absurd c_30 (by decide)
    · refine lv_iconst (v := 0) S.1 S.2.1 dX7_setPrice_33 (by decide) ?_
      exact g_iret S G hr hlk (by rw [hT]; exact ⟨(if_neg (by decide)).symm, congrArg (fun z => (ids, ad, gk z)) (if_neg (by decide)).symm⟩) (Nat.le_of_ble_eq_true rfl) (Nat.le_of_ble_eq_true rfl) dX7_setPrice_34
set_option maxHeartbeats 4000000 in
set_option maxRecDepth 100000 in
theorem c_X7_topUp (l : Launch) (ids : gIds) (ad : gAd) (κ : gMem) (a b : Int32) (hV : mV ids) (hW : mWF κ)  : gMi l yX7_topUp wsX7_topUp ({ frames := 2, cells := 0, slots := 0, locals := 42 } : Room) 0 0 [.ref (ad 8 0), .int a, .int b] (ids, ad, gk κ) (fun r u => r = (if mTopUpT κ a b = 0 then κ 26 0 (tN a) + b else 0) ∧ u = (ids, ad, gk (if mTopUpT κ a b = 0 then mTopUpK (mCan κ 0) (tN a) b else mCan κ (mTopUpT κ a b)))) := by
  intro D aC A
  refine g_of (cc := cX7_topUp) (maxL := 3) (ret := (some .int)) (by decide +kernel) rfl (Nat.le_of_ble_eq_true rfl) ?_
  intro p e s m below meth c ls S G hF hr hlk hnm hl
  have hl : lv_has ls 3 [(0, _), (1, _), (2, _)] := hl
  have i8 : ∀ w ∈ wsX70, w ∈ wsX7_topUp := by decide +kernel
  refine lv_aload_n S.1 S.2.1 dX7_topUp_0 rfl (lv_at hl 0 rfl) ?_
  refine lv_iload_n S.1 S.2.1 dX7_topUp_1 rfl (lv_at hl 1 rfl) ?_
  refine g_cSi S G hF hl (c_X7_isSensor l ids ad _ _) (va_cwS 1 S.2.2.2.2 gX7_topUp_X7_isSensor rfl rfl rfl (by decide +kernel) ⟨Nat.le_of_ble_eq_true rfl, Nat.le_of_ble_eq_true rfl⟩) rfl rfl (Nat.le_of_ble_eq_true rfl) dX7_topUp_2 ⟨Nat.le_of_ble_eq_true rfl, Nat.le_of_ble_eq_true rfl⟩ (fun r_2 u_2 H locs hp_2 G => ?_)
  obtain ⟨rfl, rfl⟩ := hp_2
  have G : gS D aC A s ids ad (gk _) H locs := G
  refine lv_if_ne (tgt := 12) S.1 S.2.1 dX7_topUp_5 (by decide) (fun c_5 => ?_) (fun c_5 => ?_)
  · refine lv_iload_n S.1 S.2.1 dX7_topUp_12 rfl (lv_at hl 2 rfl) ?_
    refine lv_iconst (v := 1) S.1 S.2.1 dX7_topUp_13 (by decide) ?_
    refine lv_icmp_ge (tgt := 21) S.1 S.2.1 dX7_topUp_14 (by decide) (fun c_14 => ?_) (fun c_14 => ?_)
    · obtain ⟨hx, hj⟩ := mIn_rng (m := 11) c_5 (by decide)
      refine lv_aload_n S.1 S.2.1 dX7_topUp_21 rfl (lv_at hl 0 rfl) ?_
      refine g_get S G 8 7 (hV 8 _ (by first | decide | (show _ < 1; omega))) (by decide) (by decide) i8 (S.2.2.2.2 (.fieldLink RX7 28 "SensorBondModel" "earned" "[I") (by decide +kernel)) (gvk_or (j := 0) rfl rfl (by omega)) dX7_topUp_22 ?_
      refine lv_iload_n S.1 S.2.1 dX7_topUp_25 rfl (lv_at hl 1 rfl) ?_
      refine k_iald S G 27 (hV 27 _ (by first | decide | (show _ < 1; omega))) rfl rfl rfl hx (show tN a < 12 by omega) dX7_topUp_26 ?_
      refine lv_iload_n S.1 S.2.1 dX7_topUp_27 rfl (lv_at hl 2 rfl) ?_
      refine lv_icmp_ge (tgt := 35) S.1 S.2.1 dX7_topUp_28 (by decide) (fun c_28 => ?_) (fun c_28 => ?_)
      · refine lv_iconst (v := 0) S.1 S.2.1 dX7_topUp_35 (by decide) ?_
        have hT : mTopUpT κ a b = 0 := by simp only [mTopUpT, if_neg c_5, if_pos c_14, if_pos c_28] <;> decide
        refine g_cVi S G hF hl 8 (hV 8 _ (by first | decide | (show _ < 1; omega))) (by decide) (c_X7_can l ids ad _ _ hV) (cwV 1 S.2.2.2.2 gX7_topUp_X7_can rfl rfl rfl (by decide +kernel) ⟨Nat.le_of_ble_eq_true rfl, Nat.le_of_ble_eq_true rfl⟩) rfl rfl (Nat.le_of_ble_eq_true rfl) dX7_topUp_36 ⟨Nat.le_of_ble_eq_true rfl, Nat.le_of_ble_eq_true rfl⟩ (fun r_36 u_36 H locs hp_36 G => ?_)
        obtain ⟨rfl, rfl⟩ := hp_36
        have G : gS D aC A s ids ad (gk _) H locs := G
        refine lv_if_ne (tgt := 44) S.1 S.2.1 dX7_topUp_39 (by decide) (fun c_39 => ?_) (fun c_39 => ?_)
        · refine lv_aload_n S.1 S.2.1 dX7_topUp_44 rfl (lv_at hl 0 rfl) ?_
          refine g_get S G 8 7 (hV 8 _ (by first | decide | (show _ < 1; omega))) (by decide) (by decide) i8 (S.2.2.2.2 (.fieldLink RX7 28 "SensorBondModel" "earned" "[I") (by decide +kernel)) (gvk_or (j := 0) rfl rfl (by omega)) dX7_topUp_45 ?_
          refine lv_iload_n S.1 S.2.1 dX7_topUp_48 rfl (lv_at hl 1 rfl) ?_
          refine lv_dup2_11 S.1 S.2.1 dX7_topUp_49 rfl rfl ?_
          refine k_iald S G 27 (hV 27 _ (by first | decide | (show _ < 1; omega))) rfl rfl rfl hx (show tN a < 12 by omega) dX7_topUp_50 ?_
          refine lv_iload_n S.1 S.2.1 dX7_topUp_51 rfl (lv_at hl 2 rfl) ?_
          refine lv_isub S.1 S.2.1 dX7_topUp_52 ?_
          refine k_iast S G 27 (hV 27 _ (by first | decide | (show _ < 1; omega))) rfl rfl rfl hx (show tN a < 12 by omega) dX7_topUp_53 (fun H locs G => ?_)
          refine lv_aload_n S.1 S.2.1 dX7_topUp_54 rfl (lv_at hl 0 rfl) ?_
          refine g_get S G 8 6 (hV 8 _ (by first | decide | (show _ < 1; omega))) (by decide) (by decide) i8 (S.2.2.2.2 (.fieldLink RX7 25 "SensorBondModel" "bond" "[I") (by decide +kernel)) (gvk_or (j := 0) rfl rfl (by omega)) dX7_topUp_55 ?_
          refine lv_iload_n S.1 S.2.1 dX7_topUp_58 rfl (lv_at hl 1 rfl) ?_
          refine lv_dup2_11 S.1 S.2.1 dX7_topUp_59 rfl rfl ?_
          refine k_iald S G 26 (hV 26 _ (by first | decide | (show _ < 1; omega))) rfl rfl rfl hx (show tN a < 12 by omega) dX7_topUp_60 ?_
          refine lv_iload_n S.1 S.2.1 dX7_topUp_61 rfl (lv_at hl 2 rfl) ?_
          refine lv_iadd S.1 S.2.1 dX7_topUp_62 ?_
          refine k_iast S G 26 (hV 26 _ (by first | decide | (show _ < 1; omega))) rfl rfl rfl hx (show tN a < 12 by omega) dX7_topUp_63 (fun H locs G => ?_)
          refine lv_aload_n S.1 S.2.1 dX7_topUp_64 rfl (lv_at hl 0 rfl) ?_
          refine g_get S G 8 6 (hV 8 _ (by first | decide | (show _ < 1; omega))) (by decide) (by decide) i8 (S.2.2.2.2 (.fieldLink RX7 25 "SensorBondModel" "bond" "[I") (by decide +kernel)) (gvk_or (j := 0) rfl rfl (by omega)) dX7_topUp_65 ?_
          refine lv_iload_n S.1 S.2.1 dX7_topUp_68 rfl (lv_at hl 1 rfl) ?_
          refine k_iald S G 26 (hV 26 _ (by first | decide | (show _ < 1; omega))) rfl rfl rfl hx (show tN a < 12 by omega) dX7_topUp_69 ?_
          exact g_iret S G hr hlk (by rw [hT, upd3_s]; exact ⟨(if_pos rfl).symm, congrArg (fun z => (ids, ad, gk z)) (if_pos rfl).symm⟩) (Nat.le_of_ble_eq_true rfl) (Nat.le_of_ble_eq_true rfl) dX7_topUp_70
        · exact absurd c_39 (by decide)
      · refine lv_iconst (v := 3) S.1 S.2.1 dX7_topUp_31 (by decide) ?_
        refine lv_goto (tgt := 36) S.1 S.2.1 dX7_topUp_32 (by decide) ?_
        have hT : mTopUpT κ a b = 3 := by simp only [mTopUpT, if_neg c_5, if_pos c_14, if_neg c_28] <;> decide
        refine g_cVi S G hF hl 8 (hV 8 _ (by first | decide | (show _ < 1; omega))) (by decide) (c_X7_can l ids ad _ _ hV) (cwV 1 S.2.2.2.2 gX7_topUp_X7_can rfl rfl rfl (by decide +kernel) ⟨Nat.le_of_ble_eq_true rfl, Nat.le_of_ble_eq_true rfl⟩) rfl rfl (Nat.le_of_ble_eq_true rfl) dX7_topUp_36 ⟨Nat.le_of_ble_eq_true rfl, Nat.le_of_ble_eq_true rfl⟩ (fun r_36 u_36 H locs hp_36 G => ?_)
        obtain ⟨rfl, rfl⟩ := hp_36
        have G : gS D aC A s ids ad (gk _) H locs := G
        refine lv_if_ne (tgt := 44) S.1 S.2.1 dX7_topUp_39 (by decide) (fun c_39 => ?_) (fun c_39 => ?_)
        · exact absurd c_39 (by decide)
        · refine lv_iconst (v := 0) S.1 S.2.1 dX7_topUp_42 (by decide) ?_
          exact g_iret S G hr hlk (by rw [hT]; exact ⟨(if_neg (by decide)).symm, congrArg (fun z => (ids, ad, gk z)) (if_neg (by decide)).symm⟩) (Nat.le_of_ble_eq_true rfl) (Nat.le_of_ble_eq_true rfl) dX7_topUp_43
    · refine lv_iconst (v := 2) S.1 S.2.1 dX7_topUp_17 (by decide) ?_
      refine lv_goto (tgt := 36) S.1 S.2.1 dX7_topUp_18 (by decide) ?_
      have hT : mTopUpT κ a b = 2 := by simp only [mTopUpT, if_neg c_5, if_neg c_14] <;> decide
      refine g_cVi S G hF hl 8 (hV 8 _ (by first | decide | (show _ < 1; omega))) (by decide) (c_X7_can l ids ad _ _ hV) (cwV 1 S.2.2.2.2 gX7_topUp_X7_can rfl rfl rfl (by decide +kernel) ⟨Nat.le_of_ble_eq_true rfl, Nat.le_of_ble_eq_true rfl⟩) rfl rfl (Nat.le_of_ble_eq_true rfl) dX7_topUp_36 ⟨Nat.le_of_ble_eq_true rfl, Nat.le_of_ble_eq_true rfl⟩ (fun r_36 u_36 H locs hp_36 G => ?_)
      obtain ⟨rfl, rfl⟩ := hp_36
      have G : gS D aC A s ids ad (gk _) H locs := G
      refine lv_if_ne (tgt := 44) S.1 S.2.1 dX7_topUp_39 (by decide) (fun c_39 => ?_) (fun c_39 => ?_)
      · exact absurd c_39 (by decide)
      · refine lv_iconst (v := 0) S.1 S.2.1 dX7_topUp_42 (by decide) ?_
        exact g_iret S G hr hlk (by rw [hT]; exact ⟨(if_neg (by decide)).symm, congrArg (fun z => (ids, ad, gk z)) (if_neg (by decide)).symm⟩) (Nat.le_of_ble_eq_true rfl) (Nat.le_of_ble_eq_true rfl) dX7_topUp_43
  · refine lv_iconst (v := 1) S.1 S.2.1 dX7_topUp_8 (by decide) ?_
    refine lv_goto (tgt := 36) S.1 S.2.1 dX7_topUp_9 (by decide) ?_
    have hT : mTopUpT κ a b = 1 := by simp only [mTopUpT, if_pos c_5] <;> decide
    refine g_cVi S G hF hl 8 (hV 8 _ (by first | decide | (show _ < 1; omega))) (by decide) (c_X7_can l ids ad _ _ hV) (cwV 1 S.2.2.2.2 gX7_topUp_X7_can rfl rfl rfl (by decide +kernel) ⟨Nat.le_of_ble_eq_true rfl, Nat.le_of_ble_eq_true rfl⟩) rfl rfl (Nat.le_of_ble_eq_true rfl) dX7_topUp_36 ⟨Nat.le_of_ble_eq_true rfl, Nat.le_of_ble_eq_true rfl⟩ (fun r_36 u_36 H locs hp_36 G => ?_)
    obtain ⟨rfl, rfl⟩ := hp_36
    have G : gS D aC A s ids ad (gk _) H locs := G
    refine lv_if_ne (tgt := 44) S.1 S.2.1 dX7_topUp_39 (by decide) (fun c_39 => ?_) (fun c_39 => ?_)
    · exact absurd c_39 (by decide)
    · refine lv_iconst (v := 0) S.1 S.2.1 dX7_topUp_42 (by decide) ?_
      exact g_iret S G hr hlk (by rw [hT]; exact ⟨(if_neg (by decide)).symm, congrArg (fun z => (ids, ad, gk z)) (if_neg (by decide)).symm⟩) (Nat.le_of_ble_eq_true rfl) (Nat.le_of_ble_eq_true rfl) dX7_topUp_43
set_option maxHeartbeats 4000000 in
set_option maxRecDepth 100000 in
theorem c_X7_goes (l : Launch) (ids : gIds) (ad : gAd) (κ : gMem) (x : Int32) (hx : x = nI (tN x)) (hj : tN x < 6) (hV : mV ids) (hW : mWF κ)  : gMi l yX7_goes wsX7_goes ({ frames := 0, cells := 0, slots := 0, locals := 0 } : Room) 0 0 [.ref (ad 8 0), .int x] (ids, ad, gk κ) (fun r u => r = (mGoes 6 κ (tN x)).1 ∧ u = (ids, ad, gk ((mGoes 6 κ (tN x)).2))) := by
  intro D aC A
  refine g_of (cc := cX7_goes) (maxL := 3) (ret := (some .boolean)) (by decide +kernel) rfl (Nat.le_of_ble_eq_true rfl) ?_
  intro p e s m below meth c ls S G hF hr hlk hnm hl
  have hl : lv_has ls 3 [(0, _), (1, _)] := hl
  have i8 : ∀ w ∈ wsX70, w ∈ wsX7_goes := by decide +kernel
  refine lv_iload_n S.1 S.2.1 dX7_goes_0 rfl (lv_at hl 1 rfl) ?_
  refine lv_istore_n (lv' := [(2, _), (0, _), (1, _)]) S.1 S.2.1 dX7_goes_1 rfl hl (by decide) rfl (fun ls hl => ?_)
  obtain ⟨tg, htg⟩ : ∃ z, mGoes 6 κ (tN x) = z := ⟨_, rfl⟩
  rw [htg]
  refine g_while (σ := gMem × Nat × Nat) (fun y => y.2.1 < 6 ∧ y.2.1 < y.2.2 ∧ mWF y.1 ∧ mGoes y.2.2 y.1 y.2.1 = tg) (fun y => y.2.1) (fun y => y.1) (fun y => [(2, .int (nI y.2.1)), (1, .int x), (0, .ref (ad 8 0))]) ?_ (κ, tN x, 6) ⟨hj, by omega, hW, htg⟩ G (by rw [← hx]; exact lv_sub hl [0, 2, 1] rfl)
  rintro ⟨κ1, j, n⟩ H locs ls ⟨hj6, hjn, hW1, hG⟩ G hl ih_2
  dsimp only at hj6 hjn hW1 hG G hl
  obtain ⟨n, rfl⟩ : ∃ q, n = q + 1 := ⟨n - 1, by omega⟩
  have hl : lv_has ls 3 [(2, _), (1, _), (0, _)] := hl
  refine lv_iload_n S.1 S.2.1 dX7_goes_2 rfl (lv_at hl 0 rfl) ?_
  refine lv_iconst (v := (-1)) S.1 S.2.1 dX7_goes_3 (by decide) ?_
  refine lv_icmp_eq (tgt := 72) S.1 S.2.1 dX7_goes_4 (by decide) (fun c_4 => ?_) (fun c_4 => ?_)
  · exact absurd c_4 (g_nm1 (by omega))
  · refine lv_aload_n S.1 S.2.1 dX7_goes_7 rfl (lv_at hl 2 rfl) ?_
    refine g_get S G 8 3 (hV 8 _ (by first | decide | (show _ < 1; omega))) (by decide) (by decide) i8 (S.2.2.2.2 (.fieldLink RX7 16 "SensorBondModel" "came" "[I") (by decide +kernel)) (gvk_or (j := 0) rfl rfl (by omega)) dX7_goes_8 ?_
    refine lv_iload_n S.1 S.2.1 dX7_goes_11 rfl (lv_at hl 0 rfl) ?_
    refine lv_dup2_11 S.1 S.2.1 dX7_goes_12 rfl rfl ?_
    refine k_iald S G 23 (hV 23 _ (by first | decide | (show _ < 1; omega))) rfl rfl rfl rfl (show j < 6 by omega) dX7_goes_13 ?_
    refine lv_iconst (v := 1) S.1 S.2.1 dX7_goes_14 (by decide) ?_
    refine lv_iadd S.1 S.2.1 dX7_goes_15 ?_
    refine k_iast S G 23 (hV 23 _ (by first | decide | (show _ < 1; omega))) rfl rfl rfl rfl (show j < 6 by omega) dX7_goes_16 (fun H locs G => ?_)
    have G : gS D aC A s ids ad (gk (mPass κ1 j)) H locs := G
    refine lv_aload_n S.1 S.2.1 dX7_goes_17 rfl (lv_at hl 2 rfl) ?_
    refine g_get S G 8 2 (hV 8 _ (by first | decide | (show _ < 1; omega))) (by decide) (by decide) i8 (S.2.2.2.2 (.fieldLink RX7 13 "SensorBondModel" "lossOf" "[I") (by decide +kernel)) (gvk_or (j := 0) rfl rfl (by omega)) dX7_goes_18 ?_
    refine lv_iload_n S.1 S.2.1 dX7_goes_21 rfl (lv_at hl 0 rfl) ?_
    refine k_iald S G 22 (hV 22 _ (by first | decide | (show _ < 1; omega))) rfl rfl rfl rfl (show j < 6 by omega) dX7_goes_22 ?_
    refine lv_if_le (tgt := 54) S.1 S.2.1 dX7_goes_23 (by decide) (fun c_23 => ?_) (fun c_23 => ?_)
    · refine lv_iload_n S.1 S.2.1 dX7_goes_54 rfl (lv_at hl 0 rfl) ?_
      refine lv_if_ne (tgt := 62) S.1 S.2.1 dX7_goes_55 (by decide) (fun c_55 => ?_) (fun c_55 => ?_)
      · refine lv_aload_n S.1 S.2.1 dX7_goes_62 rfl (lv_at hl 2 rfl) ?_
        refine g_get S G 8 1 (hV 8 _ (by first | decide | (show _ < 1; omega))) (by decide) (by decide) i8 (S.2.2.2.2 (.fieldLink RX7 7 "SensorBondModel" "hangsOn" "[I") (by decide +kernel)) (gvk_or (j := 0) rfl rfl (by omega)) dX7_goes_63 ?_
        refine lv_iload_n S.1 S.2.1 dX7_goes_66 rfl (lv_at hl 0 rfl) ?_
        refine k_iald S G 21 (hV 21 _ (by first | decide | (show _ < 1; omega))) rfl rfl rfl rfl (show j < 6 by omega) dX7_goes_67 ?_
        refine lv_istore_n (lv' := [(2, _), (1, _), (0, _)]) S.1 S.2.1 dX7_goes_68 rfl hl (by decide) rfl (fun ls hl => ?_)
        refine lv_goto (tgt := 2) S.1 S.2.1 dX7_goes_69 (by decide) ?_
        have e := hG
        simp only [mGoes, if_pos c_23, if_neg c_55] at e
        have h0 : j ≠ 0 := fun z => c_55 (by rw [z]; rfl)
        obtain ⟨g1, g2⟩ := hW1.on hj6 h0
        have hl2 : lv_has ls 3 [(2, .int (nI (tN (κ1 21 0 j)))), (1, .int x), (0, .ref (ad 8 0))] := by rw [← g1]; exact lv_sub hl [0, 1, 2] rfl
        refine ih_2 (mPass κ1 j, tN (mPass κ1 j 21 0 j), n) H locs ls ⟨?_, ?_, ?_, e⟩ ?_ G hl2
        · exact Nat.lt_trans g2 hj6
        · show tN (κ1 21 0 j) < n
          omega
        · exact hW1.upd (by decide) (by decide) (by decide) (by decide) (Or.inl (by decide))
        · exact g2
      · refine lv_iconst (v := (-1)) S.1 S.2.1 dX7_goes_58 (by decide) ?_
        refine lv_goto (tgt := 68) S.1 S.2.1 dX7_goes_59 (by decide) ?_
        refine lv_istore_n (lv' := [(2, _), (1, _), (0, _)]) S.1 S.2.1 dX7_goes_68 rfl hl (by decide) rfl (fun ls hl => ?_)
        refine lv_goto (tgt := 2) S.1 S.2.1 dX7_goes_69 (by decide) ?_
        refine lv_iload_n S.1 S.2.1 dX7_goes_2 rfl (lv_at hl 0 rfl) ?_
        refine lv_iconst (v := (-1)) S.1 S.2.1 dX7_goes_3 (by decide) ?_
        refine lv_icmp_eq (tgt := 72) S.1 S.2.1 dX7_goes_4 (by decide) (fun c_4 => ?_) (fun c_4 => ?_)
        · refine lv_iconst (v := 1) S.1 S.2.1 dX7_goes_72 (by decide) ?_
          exact g_zret S G hr hlk (by decide) (by have e := hG; simp only [mGoes, if_pos c_23, if_pos c_55] at e; exact ⟨congrArg Prod.fst e, congrArg (fun z => (ids, ad, gk z.2)) e⟩) (Nat.le_of_ble_eq_true rfl) (Nat.le_of_ble_eq_true rfl) dX7_goes_73
        · exact absurd c_4 (by decide)
    · refine lv_aload_n S.1 S.2.1 dX7_goes_26 rfl (lv_at hl 2 rfl) ?_
      refine g_get S G 8 3 (hV 8 _ (by first | decide | (show _ < 1; omega))) (by decide) (by decide) i8 (S.2.2.2.2 (.fieldLink RX7 16 "SensorBondModel" "came" "[I") (by decide +kernel)) (gvk_or (j := 0) rfl rfl (by omega)) dX7_goes_27 ?_
      refine lv_iload_n S.1 S.2.1 dX7_goes_30 rfl (lv_at hl 0 rfl) ?_
      refine k_iald S G 23 (hV 23 _ (by first | decide | (show _ < 1; omega))) rfl rfl rfl rfl (show j < 6 by omega) dX7_goes_31 ?_
      refine lv_aload_n S.1 S.2.1 dX7_goes_32 rfl (lv_at hl 2 rfl) ?_
      refine g_get S G 8 2 (hV 8 _ (by first | decide | (show _ < 1; omega))) (by decide) (by decide) i8 (S.2.2.2.2 (.fieldLink RX7 13 "SensorBondModel" "lossOf" "[I") (by decide +kernel)) (gvk_or (j := 0) rfl rfl (by omega)) dX7_goes_33 ?_
      refine lv_iload_n S.1 S.2.1 dX7_goes_36 rfl (lv_at hl 0 rfl) ?_
      refine k_iald S G 22 (hV 22 _ (by first | decide | (show _ < 1; omega))) rfl rfl rfl rfl (show j < 6 by omega) dX7_goes_37 ?_
      refine lv_irem S.1 S.2.1 dX7_goes_38 (fun z => c_23 (by rw [z]; decide)) ?_
      refine lv_if_ne (tgt := 54) S.1 S.2.1 dX7_goes_39 (by decide) (fun c_39 => ?_) (fun c_39 => ?_)
      · refine lv_iload_n S.1 S.2.1 dX7_goes_54 rfl (lv_at hl 0 rfl) ?_
        refine lv_if_ne (tgt := 62) S.1 S.2.1 dX7_goes_55 (by decide) (fun c_55 => ?_) (fun c_55 => ?_)
        · refine lv_aload_n S.1 S.2.1 dX7_goes_62 rfl (lv_at hl 2 rfl) ?_
          refine g_get S G 8 1 (hV 8 _ (by first | decide | (show _ < 1; omega))) (by decide) (by decide) i8 (S.2.2.2.2 (.fieldLink RX7 7 "SensorBondModel" "hangsOn" "[I") (by decide +kernel)) (gvk_or (j := 0) rfl rfl (by omega)) dX7_goes_63 ?_
          refine lv_iload_n S.1 S.2.1 dX7_goes_66 rfl (lv_at hl 0 rfl) ?_
          refine k_iald S G 21 (hV 21 _ (by first | decide | (show _ < 1; omega))) rfl rfl rfl rfl (show j < 6 by omega) dX7_goes_67 ?_
          refine lv_istore_n (lv' := [(2, _), (1, _), (0, _)]) S.1 S.2.1 dX7_goes_68 rfl hl (by decide) rfl (fun ls hl => ?_)
          refine lv_goto (tgt := 2) S.1 S.2.1 dX7_goes_69 (by decide) ?_
          have e := hG
          simp only [mGoes, if_neg c_23, if_neg c_39, if_neg c_55] at e
          have h0 : j ≠ 0 := fun z => c_55 (by rw [z]; rfl)
          obtain ⟨g1, g2⟩ := hW1.on hj6 h0
          have hl2 : lv_has ls 3 [(2, .int (nI (tN (κ1 21 0 j)))), (1, .int x), (0, .ref (ad 8 0))] := by rw [← g1]; exact lv_sub hl [0, 1, 2] rfl
          refine ih_2 (mPass κ1 j, tN (mPass κ1 j 21 0 j), n) H locs ls ⟨?_, ?_, ?_, e⟩ ?_ G hl2
          · exact Nat.lt_trans g2 hj6
          · show tN (κ1 21 0 j) < n
            omega
          · exact hW1.upd (by decide) (by decide) (by decide) (by decide) (Or.inl (by decide))
          · exact g2
        · refine lv_iconst (v := (-1)) S.1 S.2.1 dX7_goes_58 (by decide) ?_
          refine lv_goto (tgt := 68) S.1 S.2.1 dX7_goes_59 (by decide) ?_
          refine lv_istore_n (lv' := [(2, _), (1, _), (0, _)]) S.1 S.2.1 dX7_goes_68 rfl hl (by decide) rfl (fun ls hl => ?_)
          refine lv_goto (tgt := 2) S.1 S.2.1 dX7_goes_69 (by decide) ?_
          refine lv_iload_n S.1 S.2.1 dX7_goes_2 rfl (lv_at hl 0 rfl) ?_
          refine lv_iconst (v := (-1)) S.1 S.2.1 dX7_goes_3 (by decide) ?_
          refine lv_icmp_eq (tgt := 72) S.1 S.2.1 dX7_goes_4 (by decide) (fun c_4 => ?_) (fun c_4 => ?_)
          · refine lv_iconst (v := 1) S.1 S.2.1 dX7_goes_72 (by decide) ?_
            exact g_zret S G hr hlk (by decide) (by have e := hG; simp only [mGoes, if_neg c_23, if_neg c_39, if_pos c_55] at e; exact ⟨congrArg Prod.fst e, congrArg (fun z => (ids, ad, gk z.2)) e⟩) (Nat.le_of_ble_eq_true rfl) (Nat.le_of_ble_eq_true rfl) dX7_goes_73
          · exact absurd c_4 (by decide)
      · refine lv_aload_n S.1 S.2.1 dX7_goes_42 rfl (lv_at hl 2 rfl) ?_
        refine g_get S G 8 4 (hV 8 _ (by first | decide | (show _ < 1; omega))) (by decide) (by decide) i8 (S.2.2.2.2 (.fieldLink RX7 19 "SensorBondModel" "gone" "[I") (by decide +kernel)) (gvk_or (j := 0) rfl rfl (by omega)) dX7_goes_43 ?_
        refine lv_iload_n S.1 S.2.1 dX7_goes_46 rfl (lv_at hl 0 rfl) ?_
        refine lv_dup2_11 S.1 S.2.1 dX7_goes_47 rfl rfl ?_
        refine k_iald S G 24 (hV 24 _ (by first | decide | (show _ < 1; omega))) rfl rfl rfl rfl (show j < 6 by omega) dX7_goes_48 ?_
        refine lv_iconst (v := 1) S.1 S.2.1 dX7_goes_49 (by decide) ?_
        refine lv_iadd S.1 S.2.1 dX7_goes_50 ?_
        refine k_iast S G 24 (hV 24 _ (by first | decide | (show _ < 1; omega))) rfl rfl rfl rfl (show j < 6 by omega) dX7_goes_51 (fun H locs G => ?_)
        refine lv_iconst (v := 0) S.1 S.2.1 dX7_goes_52 (by decide) ?_
        exact g_zret S G hr hlk (by decide) (by have e := hG; simp only [mGoes, if_neg c_23, if_pos c_39] at e; exact ⟨congrArg Prod.fst e, congrArg (fun z => (ids, ad, gk z.2)) e⟩) (Nat.le_of_ble_eq_true rfl) (Nat.le_of_ble_eq_true rfl) dX7_goes_53
