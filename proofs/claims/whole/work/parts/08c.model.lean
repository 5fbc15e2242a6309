set_option maxHeartbeats 4000000 in
set_option maxRecDepth 100000 in
theorem c_X7_size (l : Launch) (ids : gIds) (ad : gAd) (κ : gMem) (a : Int32)  : gMi l yX7_size wsX7_size ({ frames := 0, cells := 0, slots := 0, locals := 0 } : Room) 0 0 [.int a] (ids, ad, gk κ) (fun r u => r = mSize a 6 ∧ u = (ids, ad, gk (κ))) := by
  intro D aC A
  refine g_of (cc := cX7_size) (maxL := 3) (ret := (some .int)) (by decide +kernel) rfl (Nat.le_of_ble_eq_true rfl) ?_
  intro p e s m below meth c ls S G hF hr hlk hnm hl
  have hl : lv_has ls 3 [(0, _)] := hl
  refine lv_iconst (v := 0) S.1 S.2.1 dX7_size_0 (by decide) ?_
  refine lv_istore_n (lv' := [(1, _), (0, _)]) S.1 S.2.1 dX7_size_1 rfl hl (by decide) rfl (fun ls hl => ?_)
  refine lv_iconst (v := 0) S.1 S.2.1 dX7_size_2 (by decide) ?_
  refine lv_istore_n (lv' := [(2, _), (1, _), (0, _)]) S.1 S.2.1 dX7_size_3 rfl hl (by decide) rfl (fun ls hl => ?_)
  refine g_forc 6 (fun k_4 => [(2, .int (nI k_4)), (1, .int (mSize a k_4)), (0, .int a)]) ?_ (lv_sub hl [0, 1, 2] rfl)
  intro k_4 ls hk_4 hl ih_4
  have hl : lv_has ls 3 [(2, _), (1, _), (0, _)] := hl
  refine lv_iload_n S.1 S.2.1 dX7_size_4 rfl (lv_at hl 0 rfl) ?_
  refine lv_bipush (v := 6) S.1 S.2.1 dX7_size_5 (by decide) ?_
  refine lv_icmp_ge (tgt := 24) S.1 S.2.1 dX7_size_7 (by decide) (fun c_7 => ?_) (fun c_7 => ?_)
  · have hkN_4 : k_4 = 6 := g_exit c_7 hk_4 (by omega)
    subst hkN_4
    refine lv_iload_n S.1 S.2.1 dX7_size_24 rfl (lv_at hl 1 rfl) ?_
    exact g_iret S G hr hlk (⟨rfl, rfl⟩) (Nat.le_of_ble_eq_true rfl) (Nat.le_of_ble_eq_true rfl) dX7_size_25
  · have hlt_4 : k_4 < 6 := g_stay c_7 hk_4 (by omega)
    refine lv_iload_n S.1 S.2.1 dX7_size_10 rfl (lv_at hl 1 rfl) ?_
    refine lv_iload_n S.1 S.2.1 dX7_size_11 rfl (lv_at hl 2 rfl) ?_
    refine lv_iload_n S.1 S.2.1 dX7_size_12 rfl (lv_at hl 0 rfl) ?_
    refine lv_ishr S.1 S.2.1 dX7_size_13 ?_
    refine lv_iconst (v := 1) S.1 S.2.1 dX7_size_14 (by decide) ?_
    refine lv_iand S.1 S.2.1 dX7_size_15 ?_
    refine lv_iadd S.1 S.2.1 dX7_size_16 ?_
    refine lv_istore_n (lv' := [(1, _), (2, _), (0, _)]) S.1 S.2.1 dX7_size_17 rfl hl (by decide) rfl (fun ls hl => ?_)
    refine lv_iinc (k := 1) (lv' := [(2, _), (1, _), (0, _)]) S.1 S.2.1 dX7_size_18 hl rfl (g_inc _) (by decide) rfl (fun ls hl => ?_)
    refine lv_goto (tgt := 4) S.1 S.2.1 dX7_size_21 (by decide) ?_
    exact ih_4 hlt_4 _ (lv_sub hl [0, 1, 2] rfl)
set_option maxHeartbeats 4000000 in
set_option maxRecDepth 100000 in
theorem c_X7_samplesFor (l : Launch) (ids : gIds) (ad : gAd) (κ : gMem) (x : Int32) (hx : x = nI (tN x)) (hr80 : tN x < 80) (hV : mV ids)  : gMi l yX7_samplesFor wsX7_samplesFor ({ frames := 0, cells := 0, slots := 0, locals := 0 } : Room) 0 0 [.ref (ad 8 0), .int x] (ids, ad, gk κ) (fun r u => r = mSmp κ (tN x) 12 ∧ u = (ids, ad, gk (κ))) := by
  intro D aC A
  refine g_of (cc := cX7_samplesFor) (maxL := 4) (ret := (some .int)) (by decide +kernel) rfl (Nat.le_of_ble_eq_true rfl) ?_
  intro p e s m below meth c ls S G hF hr hlk hnm hl
  have hl : lv_has ls 4 [(0, _), (1, _)] := hl
  have i8 : ∀ w ∈ wsX70, w ∈ wsX7_samplesFor := by decide +kernel
  refine lv_iconst (v := 0) S.1 S.2.1 dX7_samplesFor_0 (by decide) ?_
  refine lv_istore_n (lv' := [(2, _), (0, _), (1, _)]) S.1 S.2.1 dX7_samplesFor_1 rfl hl (by decide) rfl (fun ls hl => ?_)
  refine lv_bipush (v := 12) S.1 S.2.1 dX7_samplesFor_2 (by decide) ?_
  refine lv_iload_n S.1 S.2.1 dX7_samplesFor_4 rfl (lv_at hl 2 rfl) ?_
  refine lv_imul S.1 S.2.1 dX7_samplesFor_5 ?_
  refine g_top (g_mul (a := 12) hx) ?_
  refine lv_istore_n (lv' := [(3, _), (2, _), (0, _), (1, _)]) S.1 S.2.1 dX7_samplesFor_6 rfl hl (by decide) rfl (fun ls hl => ?_)
  refine g_forc 12 (fun k_7 => [(3, .int (nI (12 * tN x + k_7))), (2, .int (mSmp κ (tN x) k_7)), (1, .int x), (0, .ref (ad 8 0))]) ?_ (lv_sub hl [0, 1, 3, 2] rfl)
  intro k_7 ls hk_7 hl ih_7
  have hl : lv_has ls 4 [(3, _), (2, _), (1, _), (0, _)] := hl
  refine lv_iload_n S.1 S.2.1 dX7_samplesFor_7 rfl (lv_at hl 0 rfl) ?_
  refine lv_bipush (v := 12) S.1 S.2.1 dX7_samplesFor_8 (by decide) ?_
  refine lv_iload_n S.1 S.2.1 dX7_samplesFor_10 rfl (lv_at hl 2 rfl) ?_
  refine lv_imul S.1 S.2.1 dX7_samplesFor_11 ?_
  refine lv_bipush (v := 12) S.1 S.2.1 dX7_samplesFor_12 (by decide) ?_
  refine lv_iadd S.1 S.2.1 dX7_samplesFor_14 ?_
  refine lv_icmp_ge (tgt := 42) S.1 S.2.1 dX7_samplesFor_15 (by decide) (fun c_15 => ?_) (fun c_15 => ?_)
  · have hkN_7 : k_7 = 12 := by
      have := g_exit (k := 12 * tN x + k_7) (N := 12 * tN x + 12) (by rw [← g_lin (a := 12) hx (rfl : (12 : Int32) = nI 12)]; exact c_15) (by omega) (by omega)
      omega
    subst hkN_7
    refine lv_iload_n S.1 S.2.1 dX7_samplesFor_42 rfl (lv_at hl 1 rfl) ?_
    exact g_iret S G hr hlk (⟨rfl, rfl⟩) (Nat.le_of_ble_eq_true rfl) (Nat.le_of_ble_eq_true rfl) dX7_samplesFor_43
  · have hlt_7 : k_7 < 12 := by
      have := g_stay (k := 12 * tN x + k_7) (N := 12 * tN x + 12) (by rw [← g_lin (a := 12) hx (rfl : (12 : Int32) = nI 12)]; exact c_15) (by omega) (by omega)
      omega
    refine lv_iload_n S.1 S.2.1 dX7_samplesFor_18 rfl (lv_at hl 1 rfl) ?_
    refine lv_aload_n S.1 S.2.1 dX7_samplesFor_19 rfl (lv_at hl 3 rfl) ?_
    refine g_get S G 8 25 (hV 8 _ (by first | decide | (show _ < 1; omega))) (by decide) (by decide) i8 (S.2.2.2.2 (.fieldLink RX7 77 "SensorBondModel" "samples" "[I") (by decide +kernel)) (gvk_or (j := 0) rfl rfl (by omega)) dX7_samplesFor_20 ?_
    refine lv_iload_n S.1 S.2.1 dX7_samplesFor_23 rfl (lv_at hl 0 rfl) ?_
    refine k_iald S G 45 (hV 45 _ (by first | decide | (show _ < 1; omega))) rfl rfl rfl rfl (show 12 * tN x + k_7 < 960 by omega) dX7_samplesFor_24 ?_
    refine lv_iconst (v := (-1)) S.1 S.2.1 dX7_samplesFor_25 (by decide) ?_
    refine lv_icmp_ne (tgt := 33) S.1 S.2.1 dX7_samplesFor_26 (by decide) (fun c_26 => ?_) (fun c_26 => ?_)
    · refine lv_iconst (v := 1) S.1 S.2.1 dX7_samplesFor_33 (by decide) ?_
      refine lv_iadd S.1 S.2.1 dX7_samplesFor_34 ?_
      refine g_top (show mSmp κ (tN x) k_7 + 1 = mSmp κ (tN x) (k_7 + 1) by simp only [mSmp, if_neg c_15, if_neg c_26]) ?_
      refine lv_istore_n (lv' := [(2, _), (3, _), (1, _), (0, _)]) S.1 S.2.1 dX7_samplesFor_35 rfl hl (by decide) rfl (fun ls hl => ?_)
      refine lv_iinc (k := 1) (lv' := [(3, _), (2, _), (1, _), (0, _)]) S.1 S.2.1 dX7_samplesFor_36 hl rfl (g_inc _) (by decide) rfl (fun ls hl => ?_)
      refine lv_goto (tgt := 7) S.1 S.2.1 dX7_samplesFor_39 (by decide) ?_
      exact ih_7 hlt_7 _ (lv_sub hl [0, 1, 2, 3] rfl)
    · refine lv_iconst (v := 0) S.1 S.2.1 dX7_samplesFor_29 (by decide) ?_
      refine lv_goto (tgt := 34) S.1 S.2.1 dX7_samplesFor_30 (by decide) ?_
      refine lv_iadd S.1 S.2.1 dX7_samplesFor_34 ?_
      refine g_top (show mSmp κ (tN x) k_7 + 0 = mSmp κ (tN x) (k_7 + 1) by simp only [mSmp, if_neg c_15, if_pos c_26]) ?_
      refine lv_istore_n (lv' := [(2, _), (3, _), (1, _), (0, _)]) S.1 S.2.1 dX7_samplesFor_35 rfl hl (by decide) rfl (fun ls hl => ?_)
      refine lv_iinc (k := 1) (lv' := [(3, _), (2, _), (1, _), (0, _)]) S.1 S.2.1 dX7_samplesFor_36 hl rfl (g_inc _) (by decide) rfl (fun ls hl => ?_)
      refine lv_goto (tgt := 7) S.1 S.2.1 dX7_samplesFor_39 (by decide) ?_
      exact ih_7 hlt_7 _ (lv_sub hl [0, 1, 2, 3] rfl)
set_option maxHeartbeats 4000000 in
set_option maxRecDepth 100000 in
theorem c_X7_middleOf (l : Launch) (ids : gIds) (ad : gAd) (κ : gMem) (x : Int32) (hx : x = nI (tN x)) (hr80 : tN x < 80) (hV : mV ids)  : gMi l yX7_middleOf wsX7_middleOf ({ frames := 1, cells := 0, slots := 0, locals := 23 } : Room) 0 0 [.ref (ad 8 0), .int x] (ids, ad, gk κ) (fun r u => r = mMiddle κ (tN x) ∧ u = (ids, ad, gk (κ))) := by
  intro D aC A
  refine g_of (cc := cX7_middleOf) (maxL := 9) (ret := (some .int)) (by decide +kernel) rfl (Nat.le_of_ble_eq_true rfl) ?_
  intro p e s m below meth c ls S G hF hr hlk hnm hl
  have hl : lv_has ls 9 [(0, _), (1, _)] := hl
  have i8 : ∀ w ∈ wsX70, w ∈ wsX7_middleOf := by decide +kernel
  refine lv_aload_n S.1 S.2.1 dX7_middleOf_0 rfl (lv_at hl 0 rfl) ?_
  refine lv_iload_n S.1 S.2.1 dX7_middleOf_1 rfl (lv_at hl 1 rfl) ?_
  refine g_cVi S G hF hl 8 (hV 8 _ (by first | decide | (show _ < 1; omega))) (by decide) (c_X7_samplesFor l ids ad _ _ hx hr80 hV) (cwV 1 S.2.2.2.2 gX7_middleOf_X7_samplesFor rfl rfl rfl (by decide +kernel) ⟨Nat.le_of_ble_eq_true rfl, Nat.le_of_ble_eq_true rfl⟩) rfl rfl (Nat.le_of_ble_eq_true rfl) dX7_middleOf_2 ⟨Nat.le_of_ble_eq_true rfl, Nat.le_of_ble_eq_true rfl⟩ (fun r_2 u_2 H locs hp_2 G => ?_)
  obtain ⟨rfl, rfl⟩ := hp_2
  have G : gS D aC A s ids ad (gk _) H locs := G
  refine lv_istore_n (lv' := [(2, _), (0, _), (1, _)]) S.1 S.2.1 dX7_middleOf_5 rfl hl (by decide) rfl (fun ls hl => ?_)
  refine lv_iconst (v := (-1)) S.1 S.2.1 dX7_middleOf_6 (by decide) ?_
  refine lv_istore_n (lv' := [(3, _), (2, _), (0, _), (1, _)]) S.1 S.2.1 dX7_middleOf_7 rfl hl (by decide) rfl (fun ls hl => ?_)
  refine lv_iconst (v := 0) S.1 S.2.1 dX7_middleOf_8 (by decide) ?_
  refine lv_istore (lv' := [(4, _), (3, _), (2, _), (0, _), (1, _)]) S.1 S.2.1 dX7_middleOf_9 hl (by decide) rfl (fun ls hl => ?_)
  refine g_forc 12 (fun k_11 => [(4, .int (nI k_11)), (3, .int (mFound κ (tN x) k_11)), (2, .int (mSmp κ (tN x) 12)), (1, .int x), (0, .ref (ad 8 0))]) ?_ (lv_sub hl [0, 1, 2, 4, 3] rfl)
  intro k_11 ls hk_11 hl ih_11
  have hl : lv_has ls 9 [(4, _), (3, _), (2, _), (1, _), (0, _)] := hl
  refine lv_iload S.1 S.2.1 dX7_middleOf_11 (lv_at hl 0 rfl) ?_
  refine lv_bipush (v := 12) S.1 S.2.1 dX7_middleOf_13 (by decide) ?_
  refine lv_icmp_ge (tgt := 131) S.1 S.2.1 dX7_middleOf_15 (by decide) (fun c_15 => ?_) (fun c_15 => ?_)
  · have hkN_11 : k_11 = 12 := g_exit c_15 hk_11 (by omega)
    subst hkN_11
    refine lv_iload_n S.1 S.2.1 dX7_middleOf_131 rfl (lv_at hl 1 rfl) ?_
    exact g_iret S G hr hlk (⟨rfl, rfl⟩) (Nat.le_of_ble_eq_true rfl) (Nat.le_of_ble_eq_true rfl) dX7_middleOf_132
  · have hlt_11 : k_11 < 12 := g_stay c_15 hk_11 (by omega)
    refine lv_aload_n S.1 S.2.1 dX7_middleOf_18 rfl (lv_at hl 4 rfl) ?_
    refine g_get S G 8 25 (hV 8 _ (by first | decide | (show _ < 1; omega))) (by decide) (by decide) i8 (S.2.2.2.2 (.fieldLink RX7 77 "SensorBondModel" "samples" "[I") (by decide +kernel)) (gvk_or (j := 0) rfl rfl (by omega)) dX7_middleOf_19 ?_
    refine lv_bipush (v := 12) S.1 S.2.1 dX7_middleOf_22 (by decide) ?_
    refine lv_iload_n S.1 S.2.1 dX7_middleOf_24 rfl (lv_at hl 3 rfl) ?_
    refine lv_imul S.1 S.2.1 dX7_middleOf_25 ?_
    refine lv_iload S.1 S.2.1 dX7_middleOf_26 (lv_at hl 0 rfl) ?_
    refine lv_iadd S.1 S.2.1 dX7_middleOf_28 ?_
    refine k_iald S G 45 (hV 45 _ (by first | decide | (show _ < 1; omega))) rfl rfl rfl (g_lin (a := 12) hx rfl) (show 12 * tN x + k_11 < 960 by omega) dX7_middleOf_29 ?_
    refine lv_istore (lv' := [(5, _), (4, _), (3, _), (2, _), (1, _), (0, _)]) S.1 S.2.1 dX7_middleOf_30 hl (by decide) rfl (fun ls hl => ?_)
    refine lv_iconst (v := 0) S.1 S.2.1 dX7_middleOf_32 (by decide) ?_
    refine lv_istore (lv' := [(6, _), (5, _), (4, _), (3, _), (2, _), (1, _), (0, _)]) S.1 S.2.1 dX7_middleOf_33 hl (by decide) rfl (fun ls hl => ?_)
    refine lv_iconst (v := 0) S.1 S.2.1 dX7_middleOf_35 (by decide) ?_
    refine lv_istore (lv' := [(7, _), (6, _), (5, _), (4, _), (3, _), (2, _), (1, _), (0, _)]) S.1 S.2.1 dX7_middleOf_36 hl (by decide) rfl (fun ls hl => ?_)
    refine g_forc 12 (fun k_38 => [(7, .int (nI k_38)), (6, .int (mAhead κ (tN x) k_11 k_38)), (5, .int (κ 45 0 (12 * tN x + k_11))), (4, .int (nI k_11)), (3, .int (mFound κ (tN x) k_11)), (2, .int (mSmp κ (tN x) 12)), (1, .int x), (0, .ref (ad 8 0))]) ?_ (lv_sub hl [0, 1, 2, 3, 4, 5, 6, 7] rfl)
    intro k_38 ls hk_38 hl ih_38
    have hl : lv_has ls 9 [(7, _), (6, _), (5, _), (4, _), (3, _), (2, _), (1, _), (0, _)] := hl
    refine lv_iload S.1 S.2.1 dX7_middleOf_38 (lv_at hl 0 rfl) ?_
    refine lv_bipush (v := 12) S.1 S.2.1 dX7_middleOf_40 (by decide) ?_
    refine lv_icmp_ge (tgt := 102) S.1 S.2.1 dX7_middleOf_42 (by decide) (fun c_42 => ?_) (fun c_42 => ?_)
    · have hkN_38 : k_38 = 12 := g_exit c_42 hk_38 (by omega)
      subst hkN_38
      refine lv_iload S.1 S.2.1 dX7_middleOf_102 (lv_at hl 2 rfl) ?_
      refine lv_iconst (v := (-1)) S.1 S.2.1 dX7_middleOf_104 (by decide) ?_
      refine lv_icmp_eq (tgt := 123) S.1 S.2.1 dX7_middleOf_105 (by decide) (fun c_105 => ?_) (fun c_105 => ?_)
      · refine lv_iload_n S.1 S.2.1 dX7_middleOf_123 rfl (lv_at hl 4 rfl) ?_
        refine g_top (show _ = mFound κ (tN x) (k_11 + 1) by simp only [mFound, if_neg c_15, if_pos c_42, if_pos c_105]) ?_
        refine lv_istore_n (lv' := [(3, _), (7, _), (6, _), (5, _), (4, _), (2, _), (1, _), (0, _)]) S.1 S.2.1 dX7_middleOf_124 rfl hl (by decide) rfl (fun ls hl => ?_)
        refine lv_iinc (k := 4) (lv' := [(4, _), (3, _), (7, _), (6, _), (5, _), (2, _), (1, _), (0, _)]) S.1 S.2.1 dX7_middleOf_125 hl rfl (g_inc _) (by decide) rfl (fun ls hl => ?_)
        refine lv_goto (tgt := 11) S.1 S.2.1 dX7_middleOf_128 (by decide) ?_
        exact ih_11 hlt_11 _ (lv_sub hl [0, 1, 5, 6, 7] rfl)
      · refine lv_iload S.1 S.2.1 dX7_middleOf_108 (lv_at hl 1 rfl) ?_
        refine lv_iload_n S.1 S.2.1 dX7_middleOf_110 rfl (lv_at hl 5 rfl) ?_
        refine lv_iconst (v := 1) S.1 S.2.1 dX7_middleOf_111 (by decide) ?_
        refine lv_isub S.1 S.2.1 dX7_middleOf_112 ?_
        refine lv_iconst (v := 2) S.1 S.2.1 dX7_middleOf_113 (by decide) ?_
        refine lv_idiv S.1 S.2.1 dX7_middleOf_114 (by decide) ?_
        refine lv_icmp_ne (tgt := 123) S.1 S.2.1 dX7_middleOf_115 (by decide) (fun c_115 => ?_) (fun c_115 => ?_)
        · refine lv_iload_n S.1 S.2.1 dX7_middleOf_123 rfl (lv_at hl 4 rfl) ?_
          refine g_top (show _ = mFound κ (tN x) (k_11 + 1) by simp only [mFound, if_neg c_15, if_pos c_42, if_neg c_105, if_neg c_115]) ?_
          refine lv_istore_n (lv' := [(3, _), (7, _), (6, _), (5, _), (4, _), (2, _), (1, _), (0, _)]) S.1 S.2.1 dX7_middleOf_124 rfl hl (by decide) rfl (fun ls hl => ?_)
          refine lv_iinc (k := 4) (lv' := [(4, _), (3, _), (7, _), (6, _), (5, _), (2, _), (1, _), (0, _)]) S.1 S.2.1 dX7_middleOf_125 hl rfl (g_inc _) (by decide) rfl (fun ls hl => ?_)
          refine lv_goto (tgt := 11) S.1 S.2.1 dX7_middleOf_128 (by decide) ?_
          exact ih_11 hlt_11 _ (lv_sub hl [0, 1, 5, 6, 7] rfl)
        · refine lv_iload S.1 S.2.1 dX7_middleOf_118 (lv_at hl 2 rfl) ?_
          refine lv_goto (tgt := 124) S.1 S.2.1 dX7_middleOf_120 (by decide) ?_
          refine g_top (show _ = mFound κ (tN x) (k_11 + 1) by simp only [mFound, if_neg c_15, if_pos c_42, if_neg c_105, if_pos c_115]) ?_
          refine lv_istore_n (lv' := [(3, _), (7, _), (6, _), (5, _), (4, _), (2, _), (1, _), (0, _)]) S.1 S.2.1 dX7_middleOf_124 rfl hl (by decide) rfl (fun ls hl => ?_)
          refine lv_iinc (k := 4) (lv' := [(4, _), (3, _), (7, _), (6, _), (5, _), (2, _), (1, _), (0, _)]) S.1 S.2.1 dX7_middleOf_125 hl rfl (g_inc _) (by decide) rfl (fun ls hl => ?_)
          refine lv_goto (tgt := 11) S.1 S.2.1 dX7_middleOf_128 (by decide) ?_
          exact ih_11 hlt_11 _ (lv_sub hl [0, 1, 5, 6, 7] rfl)
    · have hlt_38 : k_38 < 12 := g_stay c_42 hk_38 (by omega)
      refine lv_aload_n S.1 S.2.1 dX7_middleOf_45 rfl (lv_at hl 7 rfl) ?_
      refine g_get S G 8 25 (hV 8 _ (by first | decide | (show _ < 1; omega))) (by decide) (by decide) i8 (S.2.2.2.2 (.fieldLink RX7 77 "SensorBondModel" "samples" "[I") (by decide +kernel)) (gvk_or (j := 0) rfl rfl (by omega)) dX7_middleOf_46 ?_
      refine lv_bipush (v := 12) S.1 S.2.1 dX7_middleOf_49 (by decide) ?_
      refine lv_iload_n S.1 S.2.1 dX7_middleOf_51 rfl (lv_at hl 6 rfl) ?_
      refine lv_imul S.1 S.2.1 dX7_middleOf_52 ?_
      refine lv_iload S.1 S.2.1 dX7_middleOf_53 (lv_at hl 0 rfl) ?_
      refine lv_iadd S.1 S.2.1 dX7_middleOf_55 ?_
      refine k_iald S G 45 (hV 45 _ (by first | decide | (show _ < 1; omega))) rfl rfl rfl (g_lin (a := 12) hx rfl) (show 12 * tN x + k_38 < 960 by omega) dX7_middleOf_56 ?_
      refine lv_istore (lv' := [(8, _), (7, _), (6, _), (5, _), (4, _), (3, _), (2, _), (1, _), (0, _)]) S.1 S.2.1 dX7_middleOf_57 hl (by decide) rfl (fun ls hl => ?_)
      refine lv_iload S.1 S.2.1 dX7_middleOf_59 (lv_at hl 2 rfl) ?_
      refine lv_iload S.1 S.2.1 dX7_middleOf_61 (lv_at hl 0 rfl) ?_
      refine lv_iconst (v := (-1)) S.1 S.2.1 dX7_middleOf_63 (by decide) ?_
      refine lv_icmp_eq (tgt := 92) S.1 S.2.1 dX7_middleOf_64 (by decide) (fun c_64 => ?_) (fun c_64 => ?_)
      · refine lv_iconst (v := 0) S.1 S.2.1 dX7_middleOf_92 (by decide) ?_
        refine lv_iadd S.1 S.2.1 dX7_middleOf_93 ?_
        refine g_top (show mAhead κ (tN x) k_11 k_38 + 0 = mAhead κ (tN x) k_11 (k_38 + 1) by simp only [mAhead, if_neg c_15, if_neg c_42, if_pos c_64]) ?_
        refine lv_istore (lv' := [(6, _), (8, _), (7, _), (5, _), (4, _), (3, _), (2, _), (1, _), (0, _)]) S.1 S.2.1 dX7_middleOf_94 hl (by decide) rfl (fun ls hl => ?_)
        refine lv_iinc (k := 2) (lv' := [(7, _), (6, _), (8, _), (5, _), (4, _), (3, _), (2, _), (1, _), (0, _)]) S.1 S.2.1 dX7_middleOf_96 hl rfl (g_inc _) (by decide) rfl (fun ls hl => ?_)
        refine lv_goto (tgt := 38) S.1 S.2.1 dX7_middleOf_99 (by decide) ?_
        exact ih_38 hlt_38 _ (lv_sub hl [0, 1, 3, 4, 5, 6, 7, 8] rfl)
      · refine lv_iload S.1 S.2.1 dX7_middleOf_67 (lv_at hl 0 rfl) ?_
        refine lv_iload S.1 S.2.1 dX7_middleOf_69 (lv_at hl 3 rfl) ?_
        refine lv_icmp_lt (tgt := 88) S.1 S.2.1 dX7_middleOf_71 (by decide) (fun c_71 => ?_) (fun c_71 => ?_)
        · refine lv_iconst (v := 1) S.1 S.2.1 dX7_middleOf_88 (by decide) ?_
          refine lv_goto (tgt := 93) S.1 S.2.1 dX7_middleOf_89 (by decide) ?_
          refine lv_iadd S.1 S.2.1 dX7_middleOf_93 ?_
          refine g_top (show mAhead κ (tN x) k_11 k_38 + 1 = mAhead κ (tN x) k_11 (k_38 + 1) by simp only [mAhead, if_neg c_15, if_neg c_42, if_neg c_64, if_pos c_71]) ?_
          refine lv_istore (lv' := [(6, _), (8, _), (7, _), (5, _), (4, _), (3, _), (2, _), (1, _), (0, _)]) S.1 S.2.1 dX7_middleOf_94 hl (by decide) rfl (fun ls hl => ?_)
          refine lv_iinc (k := 2) (lv' := [(7, _), (6, _), (8, _), (5, _), (4, _), (3, _), (2, _), (1, _), (0, _)]) S.1 S.2.1 dX7_middleOf_96 hl rfl (g_inc _) (by decide) rfl (fun ls hl => ?_)
          refine lv_goto (tgt := 38) S.1 S.2.1 dX7_middleOf_99 (by decide) ?_
          exact ih_38 hlt_38 _ (lv_sub hl [0, 1, 3, 4, 5, 6, 7, 8] rfl)
        · refine lv_iload S.1 S.2.1 dX7_middleOf_74 (lv_at hl 0 rfl) ?_
          refine lv_iload S.1 S.2.1 dX7_middleOf_76 (lv_at hl 3 rfl) ?_
          refine lv_icmp_ne (tgt := 92) S.1 S.2.1 dX7_middleOf_78 (by decide) (fun c_78 => ?_) (fun c_78 => ?_)
          · refine lv_iconst (v := 0) S.1 S.2.1 dX7_middleOf_92 (by decide) ?_
            refine lv_iadd S.1 S.2.1 dX7_middleOf_93 ?_
            refine g_top (show mAhead κ (tN x) k_11 k_38 + 0 = mAhead κ (tN x) k_11 (k_38 + 1) by simp only [mAhead, if_neg c_15, if_neg c_42, if_neg c_64, if_neg c_71, if_neg c_78]) ?_
            refine lv_istore (lv' := [(6, _), (8, _), (7, _), (5, _), (4, _), (3, _), (2, _), (1, _), (0, _)]) S.1 S.2.1 dX7_middleOf_94 hl (by decide) rfl (fun ls hl => ?_)
            refine lv_iinc (k := 2) (lv' := [(7, _), (6, _), (8, _), (5, _), (4, _), (3, _), (2, _), (1, _), (0, _)]) S.1 S.2.1 dX7_middleOf_96 hl rfl (g_inc _) (by decide) rfl (fun ls hl => ?_)
            refine lv_goto (tgt := 38) S.1 S.2.1 dX7_middleOf_99 (by decide) ?_
            exact ih_38 hlt_38 _ (lv_sub hl [0, 1, 3, 4, 5, 6, 7, 8] rfl)
          · refine lv_iload S.1 S.2.1 dX7_middleOf_81 (lv_at hl 1 rfl) ?_
            refine lv_iload S.1 S.2.1 dX7_middleOf_83 (lv_at hl 4 rfl) ?_
            refine lv_icmp_ge (tgt := 92) S.1 S.2.1 dX7_middleOf_85 (by decide) (fun c_85 => ?_) (fun c_85 => ?_)
            · refine lv_iconst (v := 0) S.1 S.2.1 dX7_middleOf_92 (by decide) ?_
              refine lv_iadd S.1 S.2.1 dX7_middleOf_93 ?_
              refine g_top (show mAhead κ (tN x) k_11 k_38 + 0 = mAhead κ (tN x) k_11 (k_38 + 1) by simp only [mAhead, if_neg c_15, if_neg c_42, if_neg c_64, if_neg c_71, if_pos c_78, if_pos c_85]) ?_
              refine lv_istore (lv' := [(6, _), (8, _), (7, _), (5, _), (4, _), (3, _), (2, _), (1, _), (0, _)]) S.1 S.2.1 dX7_middleOf_94 hl (by decide) rfl (fun ls hl => ?_)
              refine lv_iinc (k := 2) (lv' := [(7, _), (6, _), (8, _), (5, _), (4, _), (3, _), (2, _), (1, _), (0, _)]) S.1 S.2.1 dX7_middleOf_96 hl rfl (g_inc _) (by decide) rfl (fun ls hl => ?_)
              refine lv_goto (tgt := 38) S.1 S.2.1 dX7_middleOf_99 (by decide) ?_
              exact ih_38 hlt_38 _ (lv_sub hl [0, 1, 3, 4, 5, 6, 7, 8] rfl)
            · refine lv_iconst (v := 1) S.1 S.2.1 dX7_middleOf_88 (by decide) ?_
              refine lv_goto (tgt := 93) S.1 S.2.1 dX7_middleOf_89 (by decide) ?_
              refine lv_iadd S.1 S.2.1 dX7_middleOf_93 ?_
              refine g_top (show mAhead κ (tN x) k_11 k_38 + 1 = mAhead κ (tN x) k_11 (k_38 + 1) by simp only [mAhead, if_neg c_15, if_neg c_42, if_neg c_64, if_neg c_71, if_pos c_78, if_neg c_85]) ?_
              refine lv_istore (lv' := [(6, _), (8, _), (7, _), (5, _), (4, _), (3, _), (2, _), (1, _), (0, _)]) S.1 S.2.1 dX7_middleOf_94 hl (by decide) rfl (fun ls hl => ?_)
              refine lv_iinc (k := 2) (lv' := [(7, _), (6, _), (8, _), (5, _), (4, _), (3, _), (2, _), (1, _), (0, _)]) S.1 S.2.1 dX7_middleOf_96 hl rfl (g_inc _) (by decide) rfl (fun ls hl => ?_)
              refine lv_goto (tgt := 38) S.1 S.2.1 dX7_middleOf_99 (by decide) ?_
              exact ih_38 hlt_38 _ (lv_sub hl [0, 1, 3, 4, 5, 6, 7, 8] rfl)
set_option maxHeartbeats 4000000 in
set_option maxRecDepth 100000 in
theorem c_X7_stands (l : Launch) (ids : gIds) (ad : gAd) (κ : gMem) (x : Int32) (hx : x = nI (tN x)) (hr80 : tN x < 80) (hV : mV ids) (hW : mWF κ)  : gMv l yX7_stands wsX7_stands ({ frames := 0, cells := 0, slots := 0, locals := 0 } : Room) 0 0 [.ref (ad 8 0), .int x] (ids, ad, gk κ) (fun u => u = (ids, ad, gk (mStands κ (tN x)))) := by
  intro D aC A
  refine g_of (cc := cX7_stands) (maxL := 3) (ret := none) (by decide +kernel) rfl (Nat.le_of_ble_eq_true rfl) ?_
  intro p e s m below meth c ls S G hF hr hlk hnm hl
  have hl : lv_has ls 3 [(0, _), (1, _)] := hl
  have i8 : ∀ w ∈ wsX70, w ∈ wsX7_stands := by decide +kernel
  refine lv_aload_n S.1 S.2.1 dX7_stands_0 rfl (lv_at hl 0 rfl) ?_
  refine g_get S G 8 19 (hV 8 _ (by first | decide | (show _ < 1; omega))) (by decide) (by decide) i8 (S.2.2.2.2 (.fieldLink RX7 59 "SensorBondModel" "state" "[I") (by decide +kernel)) (gvk_or (j := 0) rfl rfl (by omega)) dX7_stands_1 ?_
  refine lv_iload_n S.1 S.2.1 dX7_stands_4 rfl (lv_at hl 1 rfl) ?_
  refine lv_iconst (v := 2) S.1 S.2.1 dX7_stands_5 (by decide) ?_
  refine k_iast S G 39 (hV 39 _ (by first | decide | (show _ < 1; omega))) rfl rfl rfl hx (show tN x < 80 by omega) dX7_stands_6 (fun H locs G => ?_)
  refine lv_iconst (v := 0) S.1 S.2.1 dX7_stands_7 (by decide) ?_
  refine lv_istore_n (lv' := [(2, _), (0, _), (1, _)]) S.1 S.2.1 dX7_stands_8 rfl hl (by decide) rfl (fun ls hl => ?_)
  refine g_for (mStB (tN x)) 6 (fun k_9 => [(2, .int (nI k_9)), (1, .int x), (0, .ref (ad 8 0))]) ?_ G (lv_sub hl [0, 2, 1] rfl)
  intro k_9 H locs ls hk_9 G hl ih_9
  have hl : lv_has ls 3 [(2, _), (1, _), (0, _)] := hl
  refine lv_iload_n S.1 S.2.1 dX7_stands_9 rfl (lv_at hl 0 rfl) ?_
  refine lv_bipush (v := 6) S.1 S.2.1 dX7_stands_10 (by decide) ?_
  refine lv_icmp_ge (tgt := 58) S.1 S.2.1 dX7_stands_12 (by decide) (fun c_12 => ?_) (fun c_12 => ?_)
  · have hkN_9 : k_9 = 6 := g_exit c_12 hk_9 (by omega)
    subst hkN_9
    exact g_vret S G hr hlk (rfl) (Nat.le_of_ble_eq_true rfl) (Nat.le_of_ble_eq_true rfl) dX7_stands_58
  · have hlt_9 : k_9 < 6 := g_stay c_12 hk_9 (by omega)
    refine lv_aload_n S.1 S.2.1 dX7_stands_15 rfl (lv_at hl 2 rfl) ?_
    obtain ⟨hb1, hb2⟩ := (mStB_it_WF (r := tN x) (k := k_9) (hW.upd (f := 39) (i := 0) (k := tN x) (x := 2) (by decide) (by decide) (by decide) (by decide) (Or.inl (by decide)))).by' hr80
    refine g_get S G 8 7 (hV 8 _ (by first | decide | (show _ < 1; omega))) (by decide) (by decide) i8 (S.2.2.2.2 (.fieldLink RX7 28 "SensorBondModel" "earned" "[I") (by decide +kernel)) (gvk_or (j := 0) rfl rfl (by omega)) dX7_stands_16 ?_
    refine lv_aload_n S.1 S.2.1 dX7_stands_19 rfl (lv_at hl 2 rfl) ?_
    refine g_get S G 8 17 (hV 8 _ (by first | decide | (show _ < 1; omega))) (by decide) (by decide) i8 (S.2.2.2.2 (.fieldLink RX7 53 "SensorBondModel" "by" "[I") (by decide +kernel)) (gvk_or (j := 0) rfl rfl (by omega)) dX7_stands_20 ?_
    refine lv_iload_n S.1 S.2.1 dX7_stands_23 rfl (lv_at hl 1 rfl) ?_
    refine k_iald S G 37 (hV 37 _ (by first | decide | (show _ < 1; omega))) rfl rfl rfl hx (show tN x < 80 by omega) dX7_stands_24 ?_
    refine lv_dup2_11 S.1 S.2.1 dX7_stands_25 rfl rfl ?_
    refine k_iald S G 27 (hV 27 _ (by first | decide | (show _ < 1; omega))) rfl rfl rfl hb1 (show tN (gIt (mStB (tN x)) k_9 (upd3 κ 39 0 (tN x) 2) 37 0 (tN x)) < 12 by omega) dX7_stands_26 ?_
    refine lv_aload_n S.1 S.2.1 dX7_stands_27 rfl (lv_at hl 2 rfl) ?_
    refine g_get S G 8 23 (hV 8 _ (by first | decide | (show _ < 1; omega))) (by decide) (by decide) i8 (S.2.2.2.2 (.fieldLink RX7 71 "SensorBondModel" "held" "[I") (by decide +kernel)) (gvk_or (j := 0) rfl rfl (by omega)) dX7_stands_28 ?_
    refine lv_bipush (v := 6) S.1 S.2.1 dX7_stands_31 (by decide) ?_
    refine lv_iload_n S.1 S.2.1 dX7_stands_33 rfl (lv_at hl 1 rfl) ?_
    refine lv_imul S.1 S.2.1 dX7_stands_34 ?_
    refine lv_iload_n S.1 S.2.1 dX7_stands_35 rfl (lv_at hl 0 rfl) ?_
    refine lv_iadd S.1 S.2.1 dX7_stands_36 ?_
    refine k_iald S G 43 (hV 43 _ (by first | decide | (show _ < 1; omega))) rfl rfl rfl (g_lin (a := 6) hx rfl) (show 6 * tN x + k_9 < 480 by omega) dX7_stands_37 ?_
    refine lv_iadd S.1 S.2.1 dX7_stands_38 ?_
    refine k_iast S G 27 (hV 27 _ (by first | decide | (show _ < 1; omega))) rfl rfl rfl hb1 (show tN (gIt (mStB (tN x)) k_9 (upd3 κ 39 0 (tN x) 2) 37 0 (tN x)) < 12 by omega) dX7_stands_39 (fun H locs G => ?_)
    refine lv_aload_n S.1 S.2.1 dX7_stands_40 rfl (lv_at hl 2 rfl) ?_
    refine g_get S G 8 23 (hV 8 _ (by first | decide | (show _ < 1; omega))) (by decide) (by decide) i8 (S.2.2.2.2 (.fieldLink RX7 71 "SensorBondModel" "held" "[I") (by decide +kernel)) (gvk_or (j := 0) rfl rfl (by omega)) dX7_stands_41 ?_
    refine lv_bipush (v := 6) S.1 S.2.1 dX7_stands_44 (by decide) ?_
    refine lv_iload_n S.1 S.2.1 dX7_stands_46 rfl (lv_at hl 1 rfl) ?_
    refine lv_imul S.1 S.2.1 dX7_stands_47 ?_
    refine lv_iload_n S.1 S.2.1 dX7_stands_48 rfl (lv_at hl 0 rfl) ?_
    refine lv_iadd S.1 S.2.1 dX7_stands_49 ?_
    refine lv_iconst (v := 0) S.1 S.2.1 dX7_stands_50 (by decide) ?_
    refine k_iast S G 43 (hV 43 _ (by first | decide | (show _ < 1; omega))) rfl rfl rfl (g_lin (a := 6) hx rfl) (show 6 * tN x + k_9 < 480 by omega) dX7_stands_51 (fun H locs G => ?_)
    refine lv_iinc (k := 0) (lv' := [(2, _), (1, _), (0, _)]) S.1 S.2.1 dX7_stands_52 hl rfl (g_inc _) (by decide) rfl (fun ls hl => ?_)
    refine lv_goto (tgt := 9) S.1 S.2.1 dX7_stands_55 (by decide) ?_
    exact ih_9 hlt_9 _ _ _ G (lv_sub hl [0, 1, 2] rfl)
set_option maxHeartbeats 4000000 in
set_option maxRecDepth 100000 in
theorem c_X7_lies (l : Launch) (ids : gIds) (ad : gAd) (κ : gMem) (x : Int32) (hx : x = nI (tN x)) (hr80 : tN x < 80) (hV : mV ids) (hW : mWF κ)  : gMv l yX7_lies wsX7_lies ({ frames := 1, cells := 0, slots := 0, locals := 22 } : Room) 0 0 [.ref (ad 8 0), .int x] (ids, ad, gk κ) (fun u => u = (ids, ad, gk (mLies κ (tN x)))) := by
  intro D aC A
  refine g_of (cc := cX7_lies) (maxL := 8) (ret := none) (by decide +kernel) rfl (Nat.le_of_ble_eq_true rfl) ?_
  intro p e s m below meth c ls S G hF hr hlk hnm hl
  have hl : lv_has ls 8 [(0, _), (1, _)] := hl
  have i8 : ∀ w ∈ wsX70, w ∈ wsX7_lies := by decide +kernel
  obtain ⟨hb1, hb2⟩ := hW.by' hr80
  obtain ⟨hd1, hd2⟩ := hW.ch hr80
  refine lv_aload_n S.1 S.2.1 dX7_lies_0 rfl (lv_at hl 0 rfl) ?_
  refine g_get S G 8 17 (hV 8 _ (by first | decide | (show _ < 1; omega))) (by decide) (by decide) i8 (S.2.2.2.2 (.fieldLink RX7 53 "SensorBondModel" "by" "[I") (by decide +kernel)) (gvk_or (j := 0) rfl rfl (by omega)) dX7_lies_1 ?_
  refine lv_iload_n S.1 S.2.1 dX7_lies_4 rfl (lv_at hl 1 rfl) ?_
  refine k_iald S G 37 (hV 37 _ (by first | decide | (show _ < 1; omega))) rfl rfl rfl hx (show tN x < 80 by omega) dX7_lies_5 ?_
  refine lv_istore_n (lv' := [(2, _), (0, _), (1, _)]) S.1 S.2.1 dX7_lies_6 rfl hl (by decide) rfl (fun ls hl => ?_)
  refine lv_aload_n S.1 S.2.1 dX7_lies_7 rfl (lv_at hl 1 rfl) ?_
  refine g_get S G 8 24 (hV 8 _ (by first | decide | (show _ < 1; omega))) (by decide) (by decide) i8 (S.2.2.2.2 (.fieldLink RX7 74 "SensorBondModel" "usedBy" "[I") (by decide +kernel)) (gvk_or (j := 0) rfl rfl (by omega)) dX7_lies_8 ?_
  refine lv_iload_n S.1 S.2.1 dX7_lies_11 rfl (lv_at hl 2 rfl) ?_
  refine k_iald S G 44 (hV 44 _ (by first | decide | (show _ < 1; omega))) rfl rfl rfl hx (show tN x < 80 by omega) dX7_lies_12 ?_
  refine g_cSi S G hF hl (c_X7_size l ids ad _ _) (va_cwS 1 S.2.2.2.2 gX7_lies_X7_size rfl rfl rfl (by decide +kernel) ⟨Nat.le_of_ble_eq_true rfl, Nat.le_of_ble_eq_true rfl⟩) rfl rfl (Nat.le_of_ble_eq_true rfl) dX7_lies_13 ⟨Nat.le_of_ble_eq_true rfl, Nat.le_of_ble_eq_true rfl⟩ (fun r_13 u_13 H locs hp_13 G => ?_)
  obtain ⟨rfl, rfl⟩ := hp_13
  have G : gS D aC A s ids ad (gk _) H locs := G
  refine lv_istore_n (lv' := [(3, _), (2, _), (0, _), (1, _)]) S.1 S.2.1 dX7_lies_16 rfl hl (by decide) rfl (fun ls hl => ?_)
  refine lv_iconst (v := 4) S.1 S.2.1 dX7_lies_17 (by decide) ?_
  refine lv_aload_n S.1 S.2.1 dX7_lies_18 rfl (lv_at hl 2 rfl) ?_
  refine g_get S G 8 8 (hV 8 _ (by first | decide | (show _ < 1; omega))) (by decide) (by decide) i8 (S.2.2.2.2 (.fieldLink RX7 31 "SensorBondModel" "price" "[I") (by decide +kernel)) (gvk_or (j := 0) rfl rfl (by omega)) dX7_lies_19 ?_
  refine lv_iload_n S.1 S.2.1 dX7_lies_22 rfl (lv_at hl 1 rfl) ?_
  refine k_iald S G 28 (hV 28 _ (by first | decide | (show _ < 1; omega))) rfl rfl rfl hb1 (show tN (κ 37 0 (tN x)) < 12 by omega) dX7_lies_23 ?_
  refine lv_imul S.1 S.2.1 dX7_lies_24 ?_
  refine lv_iload_n S.1 S.2.1 dX7_lies_25 rfl (lv_at hl 0 rfl) ?_
  refine lv_iconst (v := 1) S.1 S.2.1 dX7_lies_26 (by decide) ?_
  refine lv_iadd S.1 S.2.1 dX7_lies_27 ?_
  refine lv_imul S.1 S.2.1 dX7_lies_28 ?_
  refine lv_istore (lv' := [(4, _), (3, _), (2, _), (0, _), (1, _)]) S.1 S.2.1 dX7_lies_29 hl (by decide) rfl (fun ls hl => ?_)
  refine lv_iload S.1 S.2.1 dX7_lies_31 (lv_at hl 0 rfl) ?_
  refine lv_aload_n S.1 S.2.1 dX7_lies_33 rfl (lv_at hl 3 rfl) ?_
  refine g_get S G 8 6 (hV 8 _ (by first | decide | (show _ < 1; omega))) (by decide) (by decide) i8 (S.2.2.2.2 (.fieldLink RX7 25 "SensorBondModel" "bond" "[I") (by decide +kernel)) (gvk_or (j := 0) rfl rfl (by omega)) dX7_lies_34 ?_
  refine lv_iload_n S.1 S.2.1 dX7_lies_37 rfl (lv_at hl 2 rfl) ?_
  refine k_iald S G 26 (hV 26 _ (by first | decide | (show _ < 1; omega))) rfl rfl rfl hb1 (show tN (κ 37 0 (tN x)) < 12 by omega) dX7_lies_38 ?_
  refine lv_icmp_ge (tgt := 47) S.1 S.2.1 dX7_lies_39 (by decide) (fun c_39 => ?_) (fun c_39 => ?_)
  · refine lv_aload_n S.1 S.2.1 dX7_lies_47 rfl (lv_at hl 3 rfl) ?_
    refine g_get S G 8 6 (hV 8 _ (by first | decide | (show _ < 1; omega))) (by decide) (by decide) i8 (S.2.2.2.2 (.fieldLink RX7 25 "SensorBondModel" "bond" "[I") (by decide +kernel)) (gvk_or (j := 0) rfl rfl (by omega)) dX7_lies_48 ?_
    refine lv_iload_n S.1 S.2.1 dX7_lies_51 rfl (lv_at hl 2 rfl) ?_
    refine k_iald S G 26 (hV 26 _ (by first | decide | (show _ < 1; omega))) rfl rfl rfl hb1 (show tN (κ 37 0 (tN x)) < 12 by omega) dX7_lies_52 ?_
    refine g_top (show _ = mCut κ (tN x) by simp only [mCut, if_pos c_39]) ?_
    refine lv_istore (lv' := [(5, _), (4, _), (3, _), (2, _), (0, _), (1, _)]) S.1 S.2.1 dX7_lies_53 hl (by decide) rfl (fun ls hl => ?_)
    refine lv_iload S.1 S.2.1 dX7_lies_55 (lv_at hl 0 rfl) ?_
    refine lv_iload S.1 S.2.1 dX7_lies_57 (lv_at hl 0 rfl) ?_
    refine lv_iconst (v := 4) S.1 S.2.1 dX7_lies_59 (by decide) ?_
    refine lv_idiv S.1 S.2.1 dX7_lies_60 (by decide) ?_
    refine lv_isub S.1 S.2.1 dX7_lies_61 ?_
    refine lv_istore (lv' := [(6, _), (5, _), (4, _), (3, _), (2, _), (0, _), (1, _)]) S.1 S.2.1 dX7_lies_62 hl (by decide) rfl (fun ls hl => ?_)
    refine lv_aload_n S.1 S.2.1 dX7_lies_64 rfl (lv_at hl 5 rfl) ?_
    refine g_get S G 8 19 (hV 8 _ (by first | decide | (show _ < 1; omega))) (by decide) (by decide) i8 (S.2.2.2.2 (.fieldLink RX7 59 "SensorBondModel" "state" "[I") (by decide +kernel)) (gvk_or (j := 0) rfl rfl (by omega)) dX7_lies_65 ?_
    refine lv_iload_n S.1 S.2.1 dX7_lies_68 rfl (lv_at hl 6 rfl) ?_
    refine lv_iconst (v := 3) S.1 S.2.1 dX7_lies_69 (by decide) ?_
    refine k_iast S G 39 (hV 39 _ (by first | decide | (show _ < 1; omega))) rfl rfl rfl hx (show tN x < 80 by omega) dX7_lies_70 (fun H locs G => ?_)
    refine lv_aload_n S.1 S.2.1 dX7_lies_71 rfl (lv_at hl 5 rfl) ?_
    refine g_get S G 8 6 (hV 8 _ (by first | decide | (show _ < 1; omega))) (by decide) (by decide) i8 (S.2.2.2.2 (.fieldLink RX7 25 "SensorBondModel" "bond" "[I") (by decide +kernel)) (gvk_or (j := 0) rfl rfl (by omega)) dX7_lies_72 ?_
    refine lv_iload_n S.1 S.2.1 dX7_lies_75 rfl (lv_at hl 4 rfl) ?_
    refine lv_dup2_11 S.1 S.2.1 dX7_lies_76 rfl rfl ?_
    refine k_iald S G 26 (hV 26 _ (by first | decide | (show _ < 1; omega))) rfl rfl rfl hb1 (show tN (κ 37 0 (tN x)) < 12 by omega) dX7_lies_77 ?_
    refine lv_iload S.1 S.2.1 dX7_lies_78 (lv_at hl 1 rfl) ?_
    refine lv_isub S.1 S.2.1 dX7_lies_80 ?_
    refine k_iast S G 26 (hV 26 _ (by first | decide | (show _ < 1; omega))) rfl rfl rfl hb1 (show tN (κ 37 0 (tN x)) < 12 by omega) dX7_lies_81 (fun H locs G => ?_)
    refine lv_aload_n S.1 S.2.1 dX7_lies_82 rfl (lv_at hl 5 rfl) ?_
    refine g_get S G 8 10 (hV 8 _ (by first | decide | (show _ < 1; omega))) (by decide) (by decide) i8 (S.2.2.2.2 (.fieldLink RX7 37 "SensorBondModel" "purse" "[I") (by decide +kernel)) (gvk_or (j := 0) rfl rfl (by omega)) dX7_lies_83 ?_
    refine lv_aload_n S.1 S.2.1 dX7_lies_86 rfl (lv_at hl 5 rfl) ?_
    refine g_get S G 8 22 (hV 8 _ (by first | decide | (show _ < 1; omega))) (by decide) (by decide) i8 (S.2.2.2.2 (.fieldLink RX7 68 "SensorBondModel" "challenger" "[I") (by decide +kernel)) (gvk_or (j := 0) rfl rfl (by omega)) dX7_lies_87 ?_
    refine lv_iload_n S.1 S.2.1 dX7_lies_90 rfl (lv_at hl 6 rfl) ?_
    refine k_iald S G 42 (hV 42 _ (by first | decide | (show _ < 1; omega))) rfl rfl rfl hx (show tN x < 80 by omega) dX7_lies_91 ?_
    refine lv_dup2_11 S.1 S.2.1 dX7_lies_92 rfl rfl ?_
    refine k_iald S G 30 (hV 30 _ (by first | decide | (show _ < 1; omega))) rfl rfl rfl hd1 (show tN (κ 42 0 (tN x)) < 6 by omega) dX7_lies_93 ?_
    refine lv_iconst (v := 4) S.1 S.2.1 dX7_lies_94 (by decide) ?_
    refine lv_iload S.1 S.2.1 dX7_lies_95 (lv_at hl 1 rfl) ?_
    refine lv_iconst (v := 4) S.1 S.2.1 dX7_lies_97 (by decide) ?_
    refine lv_idiv S.1 S.2.1 dX7_lies_98 (by decide) ?_
    refine lv_iadd S.1 S.2.1 dX7_lies_99 ?_
    refine lv_iadd S.1 S.2.1 dX7_lies_100 ?_
    refine k_iast S G 30 (hV 30 _ (by first | decide | (show _ < 1; omega))) rfl rfl rfl hd1 (show tN (κ 42 0 (tN x)) < 6 by omega) dX7_lies_101 (fun H locs G => ?_)
    have G : gS D aC A s ids ad (gk (mLies1 κ (tN x))) H locs := G
    refine lv_iconst (v := 0) S.1 S.2.1 dX7_lies_102 (by decide) ?_
    refine lv_istore (lv' := [(7, _), (6, _), (5, _), (4, _), (3, _), (2, _), (0, _), (1, _)]) S.1 S.2.1 dX7_lies_103 hl (by decide) rfl (fun ls hl => ?_)
    refine g_for (mPay (tN x) (κ 44 0 (tN x)) (mCut κ (tN x))) 6 (fun k_105 => [(7, .int (nI k_105)), (6, .int (mLeft (κ 44 0 (tN x)) (mCut κ (tN x)) k_105)), (5, .int (mCut κ (tN x))), (3, .int (mSize (κ 44 0 (tN x)) 6)), (1, .int x), (0, .ref (ad 8 0))]) ?_ G (lv_sub hl [0, 1, 2, 4, 7, 6] rfl)
    intro k_105 H locs ls hk_105 G hl ih_105
    have hl : lv_has ls 8 [(7, _), (6, _), (5, _), (3, _), (1, _), (0, _)] := hl
    refine lv_iload S.1 S.2.1 dX7_lies_105 (lv_at hl 0 rfl) ?_
    refine lv_bipush (v := 6) S.1 S.2.1 dX7_lies_107 (by decide) ?_
    refine lv_icmp_ge (tgt := 186) S.1 S.2.1 dX7_lies_109 (by decide) (fun c_109 => ?_) (fun c_109 => ?_)
    · have hkN_105 : k_105 = 6 := g_exit c_109 hk_105 (by omega)
      subst hkN_105
      have G : gS D aC A s ids ad (gk (mLies2 (mLies1 κ (tN x)) (tN x) (κ 44 0 (tN x)) (mCut κ (tN x)))) H locs := G
      refine lv_aload_n S.1 S.2.1 dX7_lies_186 rfl (lv_at hl 5 rfl) ?_
      refine lv_dup S.1 S.2.1 dX7_lies_187 rfl ?_
      refine g_get S G 8 11 (hV 8 _ (by first | decide | (show _ < 1; omega))) (by decide) (by decide) i8 (S.2.2.2.2 (.fieldLink RX7 134 "SensorBondModel" "house" "I") (by decide +kernel)) (gvk_i rfl rfl) dX7_lies_188 ?_
      refine lv_iload S.1 S.2.1 dX7_lies_191 (lv_at hl 1 rfl) ?_
      refine lv_iadd S.1 S.2.1 dX7_lies_193 ?_
      refine g_put (ty := .int) S G 8 11 (hV 8 _ (by first | decide | (show _ < 1; omega))) (by decide) (by decide) i8 (S.2.2.2.2 (.fieldLink RX7 134 "SensorBondModel" "house" "I") (by decide +kernel)) rfl (by decide +kernel) rfl rfl (gw_i rfl) dX7_lies_194 (fun H locs G => ?_)
      have G := gk_S rfl G
      exact g_vret S G hr hlk (rfl) (Nat.le_of_ble_eq_true rfl) (Nat.le_of_ble_eq_true rfl) dX7_lies_197
    · have hlt_105 : k_105 < 6 := g_stay c_109 hk_105 (by omega)
      have hu : (gIt (mPay (tN x) (κ 44 0 (tN x)) (mCut κ (tN x))) k_105 (mLies1 κ (tN x))) 44 0 (tN x) = κ 44 0 (tN x) := gIt_keep (fun _ _ => mPay_keep (by decide) (by decide)) k_105 _
      refine lv_aload_n S.1 S.2.1 dX7_lies_112 rfl (lv_at hl 5 rfl) ?_
      refine g_get S G 8 24 (hV 8 _ (by first | decide | (show _ < 1; omega))) (by decide) (by decide) i8 (S.2.2.2.2 (.fieldLink RX7 74 "SensorBondModel" "usedBy" "[I") (by decide +kernel)) (gvk_or (j := 0) rfl rfl (by omega)) dX7_lies_113 ?_
      refine lv_iload_n S.1 S.2.1 dX7_lies_116 rfl (lv_at hl 4 rfl) ?_
      refine k_iald S G 44 (hV 44 _ (by first | decide | (show _ < 1; omega))) rfl rfl rfl hx (show tN x < 80 by omega) dX7_lies_117 ?_
      refine g_top hu ?_
      refine lv_iload S.1 S.2.1 dX7_lies_118 (lv_at hl 0 rfl) ?_
      refine lv_ishr S.1 S.2.1 dX7_lies_120 ?_
      refine lv_iconst (v := 1) S.1 S.2.1 dX7_lies_121 (by decide) ?_
      refine lv_iand S.1 S.2.1 dX7_lies_122 ?_
      refine lv_iconst (v := 1) S.1 S.2.1 dX7_lies_123 (by decide) ?_
      refine lv_icmp_ne (tgt := 180) S.1 S.2.1 dX7_lies_124 (by decide) (fun c_124 => ?_) (fun c_124 => ?_)
      · refine lv_iinc (k := 0) (lv' := [(7, _), (6, _), (5, _), (3, _), (1, _), (0, _)]) S.1 S.2.1 dX7_lies_180 hl rfl (g_inc _) (by decide) rfl (fun ls hl => ?_)
        refine lv_goto (tgt := 105) S.1 S.2.1 dX7_lies_183 (by decide) ?_
        have e : mPay (tN x) (κ 44 0 (tN x)) (mCut κ (tN x)) k_105 (gIt (mPay (tN x) (κ 44 0 (tN x)) (mCut κ (tN x))) k_105 (mLies1 κ (tN x))) = (gIt (mPay (tN x) (κ 44 0 (tN x)) (mCut κ (tN x))) k_105 (mLies1 κ (tN x))) := by simp only [mPay, if_pos c_39, if_neg c_109, if_neg c_124]
        have hl : lv_has ls 8 [(7, .int (nI (k_105 + 1))), (6, .int (mLeft (κ 44 0 (tN x)) (mCut κ (tN x)) (k_105 + 1))), (5, .int (mCut κ (tN x))), (3, .int (mSize (κ 44 0 (tN x)) 6)), (1, .int x), (0, .ref (ad 8 0))] := by
          simp only [mLeft, if_pos c_39, if_neg c_109, if_neg c_124]
          exact lv_sub hl [0, 1, 2, 3, 4, 5] rfl
        exact ih_105 hlt_105 H locs ls (by simp only [gIt]; rw [e]; exact G) hl
      · refine lv_aload_n S.1 S.2.1 dX7_lies_127 rfl (lv_at hl 5 rfl) ?_
        refine g_get S G 8 10 (hV 8 _ (by first | decide | (show _ < 1; omega))) (by decide) (by decide) i8 (S.2.2.2.2 (.fieldLink RX7 37 "SensorBondModel" "purse" "[I") (by decide +kernel)) (gvk_or (j := 0) rfl rfl (by omega)) dX7_lies_128 ?_
        refine lv_iload S.1 S.2.1 dX7_lies_131 (lv_at hl 0 rfl) ?_
        refine lv_dup2_11 S.1 S.2.1 dX7_lies_133 rfl rfl ?_
        refine k_iald S G 30 (hV 30 _ (by first | decide | (show _ < 1; omega))) rfl rfl rfl rfl (show k_105 < 6 by omega) dX7_lies_134 ?_
        refine lv_aload_n S.1 S.2.1 dX7_lies_135 rfl (lv_at hl 5 rfl) ?_
        refine g_get S G 8 23 (hV 8 _ (by first | decide | (show _ < 1; omega))) (by decide) (by decide) i8 (S.2.2.2.2 (.fieldLink RX7 71 "SensorBondModel" "held" "[I") (by decide +kernel)) (gvk_or (j := 0) rfl rfl (by omega)) dX7_lies_136 ?_
        refine lv_bipush (v := 6) S.1 S.2.1 dX7_lies_139 (by decide) ?_
        refine lv_iload_n S.1 S.2.1 dX7_lies_141 rfl (lv_at hl 4 rfl) ?_
        refine lv_imul S.1 S.2.1 dX7_lies_142 ?_
        refine lv_iload S.1 S.2.1 dX7_lies_143 (lv_at hl 0 rfl) ?_
        refine lv_iadd S.1 S.2.1 dX7_lies_145 ?_
        refine k_iald S G 43 (hV 43 _ (by first | decide | (show _ < 1; omega))) rfl rfl rfl (g_lin (a := 6) hx rfl) (show 6 * tN x + k_105 < 480 by omega) dX7_lies_146 ?_
        refine lv_iload S.1 S.2.1 dX7_lies_147 (lv_at hl 2 rfl) ?_
        refine lv_iconst (v := 2) S.1 S.2.1 dX7_lies_149 (by decide) ?_
        refine lv_idiv S.1 S.2.1 dX7_lies_150 (by decide) ?_
        refine lv_iload_n S.1 S.2.1 dX7_lies_151 rfl (lv_at hl 3 rfl) ?_
        refine lv_idiv S.1 S.2.1 dX7_lies_152 (mSize_ne hlt_105 c_124) ?_
        refine lv_iadd S.1 S.2.1 dX7_lies_153 ?_
        refine lv_iadd S.1 S.2.1 dX7_lies_154 ?_
        refine k_iast S G 30 (hV 30 _ (by first | decide | (show _ < 1; omega))) rfl rfl rfl rfl (show k_105 < 6 by omega) dX7_lies_155 (fun H locs G => ?_)
        refine lv_aload_n S.1 S.2.1 dX7_lies_156 rfl (lv_at hl 5 rfl) ?_
        refine g_get S G 8 23 (hV 8 _ (by first | decide | (show _ < 1; omega))) (by decide) (by decide) i8 (S.2.2.2.2 (.fieldLink RX7 71 "SensorBondModel" "held" "[I") (by decide +kernel)) (gvk_or (j := 0) rfl rfl (by omega)) dX7_lies_157 ?_
        refine lv_bipush (v := 6) S.1 S.2.1 dX7_lies_160 (by decide) ?_
        refine lv_iload_n S.1 S.2.1 dX7_lies_162 rfl (lv_at hl 4 rfl) ?_
        refine lv_imul S.1 S.2.1 dX7_lies_163 ?_
        refine lv_iload S.1 S.2.1 dX7_lies_164 (lv_at hl 0 rfl) ?_
        refine lv_iadd S.1 S.2.1 dX7_lies_166 ?_
        refine lv_iconst (v := 0) S.1 S.2.1 dX7_lies_167 (by decide) ?_
        refine k_iast S G 43 (hV 43 _ (by first | decide | (show _ < 1; omega))) rfl rfl rfl (g_lin (a := 6) hx rfl) (show 6 * tN x + k_105 < 480 by omega) dX7_lies_168 (fun H locs G => ?_)
        refine lv_iload S.1 S.2.1 dX7_lies_169 (lv_at hl 1 rfl) ?_
        refine lv_iload S.1 S.2.1 dX7_lies_171 (lv_at hl 2 rfl) ?_
        refine lv_iconst (v := 2) S.1 S.2.1 dX7_lies_173 (by decide) ?_
        refine lv_idiv S.1 S.2.1 dX7_lies_174 (by decide) ?_
        refine lv_iload_n S.1 S.2.1 dX7_lies_175 rfl (lv_at hl 3 rfl) ?_
        refine lv_idiv S.1 S.2.1 dX7_lies_176 (mSize_ne hlt_105 c_124) ?_
        refine lv_isub S.1 S.2.1 dX7_lies_177 ?_
        refine g_top (show _ = mLeft (κ 44 0 (tN x)) (mCut κ (tN x)) (k_105 + 1) by simp only [mLeft, if_pos c_39, if_neg c_109, if_pos c_124]) ?_
        refine lv_istore (lv' := [(6, _), (7, _), (5, _), (3, _), (1, _), (0, _)]) S.1 S.2.1 dX7_lies_178 hl (by decide) rfl (fun ls hl => ?_)
        refine lv_iinc (k := 1) (lv' := [(7, _), (6, _), (5, _), (3, _), (1, _), (0, _)]) S.1 S.2.1 dX7_lies_180 hl rfl (g_inc _) (by decide) rfl (fun ls hl => ?_)
        refine lv_goto (tgt := 105) S.1 S.2.1 dX7_lies_183 (by decide) ?_
        have e : mPay (tN x) (κ 44 0 (tN x)) (mCut κ (tN x)) k_105 (gIt (mPay (tN x) (κ 44 0 (tN x)) (mCut κ (tN x))) k_105 (mLies1 κ (tN x))) = upd3 (upd3 (gIt (mPay (tN x) (κ 44 0 (tN x)) (mCut κ (tN x))) k_105 (mLies1 κ (tN x))) 30 0 k_105 ((gIt (mPay (tN x) (κ 44 0 (tN x)) (mCut κ (tN x))) k_105 (mLies1 κ (tN x))) 30 0 k_105 + ((gIt (mPay (tN x) (κ 44 0 (tN x)) (mCut κ (tN x))) k_105 (mLies1 κ (tN x))) 43 0 (6 * tN x + k_105) + mCut κ (tN x) / 2 / mSize (κ 44 0 (tN x)) 6))) 43 0 (6 * tN x + k_105) 0 := by simp only [mPay, if_pos c_39, if_neg c_109, if_pos c_124]
        exact ih_105 hlt_105 H locs ls (by simp only [gIt]; rw [e]; exact G) (lv_sub hl [0, 1, 2, 3, 4, 5] rfl)
  · refine lv_iload S.1 S.2.1 dX7_lies_42 (lv_at hl 0 rfl) ?_
    refine lv_goto (tgt := 53) S.1 S.2.1 dX7_lies_44 (by decide) ?_
    refine g_top (show _ = mCut κ (tN x) by simp only [mCut, if_neg c_39]) ?_
    refine lv_istore (lv' := [(5, _), (4, _), (3, _), (2, _), (0, _), (1, _)]) S.1 S.2.1 dX7_lies_53 hl (by decide) rfl (fun ls hl => ?_)
    refine lv_iload S.1 S.2.1 dX7_lies_55 (lv_at hl 0 rfl) ?_
    refine lv_iload S.1 S.2.1 dX7_lies_57 (lv_at hl 0 rfl) ?_
    refine lv_iconst (v := 4) S.1 S.2.1 dX7_lies_59 (by decide) ?_
    refine lv_idiv S.1 S.2.1 dX7_lies_60 (by decide) ?_
    refine lv_isub S.1 S.2.1 dX7_lies_61 ?_
    refine lv_istore (lv' := [(6, _), (5, _), (4, _), (3, _), (2, _), (0, _), (1, _)]) S.1 S.2.1 dX7_lies_62 hl (by decide) rfl (fun ls hl => ?_)
    refine lv_aload_n S.1 S.2.1 dX7_lies_64 rfl (lv_at hl 5 rfl) ?_
    refine g_get S G 8 19 (hV 8 _ (by first | decide | (show _ < 1; omega))) (by decide) (by decide) i8 (S.2.2.2.2 (.fieldLink RX7 59 "SensorBondModel" "state" "[I") (by decide +kernel)) (gvk_or (j := 0) rfl rfl (by omega)) dX7_lies_65 ?_
    refine lv_iload_n S.1 S.2.1 dX7_lies_68 rfl (lv_at hl 6 rfl) ?_
    refine lv_iconst (v := 3) S.1 S.2.1 dX7_lies_69 (by decide) ?_
    refine k_iast S G 39 (hV 39 _ (by first | decide | (show _ < 1; omega))) rfl rfl rfl hx (show tN x < 80 by omega) dX7_lies_70 (fun H locs G => ?_)
    refine lv_aload_n S.1 S.2.1 dX7_lies_71 rfl (lv_at hl 5 rfl) ?_
    refine g_get S G 8 6 (hV 8 _ (by first | decide | (show _ < 1; omega))) (by decide) (by decide) i8 (S.2.2.2.2 (.fieldLink RX7 25 "SensorBondModel" "bond" "[I") (by decide +kernel)) (gvk_or (j := 0) rfl rfl (by omega)) dX7_lies_72 ?_
    refine lv_iload_n S.1 S.2.1 dX7_lies_75 rfl (lv_at hl 4 rfl) ?_
    refine lv_dup2_11 S.1 S.2.1 dX7_lies_76 rfl rfl ?_
    refine k_iald S G 26 (hV 26 _ (by first | decide | (show _ < 1; omega))) rfl rfl rfl hb1 (show tN (κ 37 0 (tN x)) < 12 by omega) dX7_lies_77 ?_
    refine lv_iload S.1 S.2.1 dX7_lies_78 (lv_at hl 1 rfl) ?_
    refine lv_isub S.1 S.2.1 dX7_lies_80 ?_
    refine k_iast S G 26 (hV 26 _ (by first | decide | (show _ < 1; omega))) rfl rfl rfl hb1 (show tN (κ 37 0 (tN x)) < 12 by omega) dX7_lies_81 (fun H locs G => ?_)
    refine lv_aload_n S.1 S.2.1 dX7_lies_82 rfl (lv_at hl 5 rfl) ?_
    refine g_get S G 8 10 (hV 8 _ (by first | decide | (show _ < 1; omega))) (by decide) (by decide) i8 (S.2.2.2.2 (.fieldLink RX7 37 "SensorBondModel" "purse" "[I") (by decide +kernel)) (gvk_or (j := 0) rfl rfl (by omega)) dX7_lies_83 ?_
    refine lv_aload_n S.1 S.2.1 dX7_lies_86 rfl (lv_at hl 5 rfl) ?_
    refine g_get S G 8 22 (hV 8 _ (by first | decide | (show _ < 1; omega))) (by decide) (by decide) i8 (S.2.2.2.2 (.fieldLink RX7 68 "SensorBondModel" "challenger" "[I") (by decide +kernel)) (gvk_or (j := 0) rfl rfl (by omega)) dX7_lies_87 ?_
    refine lv_iload_n S.1 S.2.1 dX7_lies_90 rfl (lv_at hl 6 rfl) ?_
    refine k_iald S G 42 (hV 42 _ (by first | decide | (show _ < 1; omega))) rfl rfl rfl hx (show tN x < 80 by omega) dX7_lies_91 ?_
    refine lv_dup2_11 S.1 S.2.1 dX7_lies_92 rfl rfl ?_
    refine k_iald S G 30 (hV 30 _ (by first | decide | (show _ < 1; omega))) rfl rfl rfl hd1 (show tN (κ 42 0 (tN x)) < 6 by omega) dX7_lies_93 ?_
    refine lv_iconst (v := 4) S.1 S.2.1 dX7_lies_94 (by decide) ?_
    refine lv_iload S.1 S.2.1 dX7_lies_95 (lv_at hl 1 rfl) ?_
    refine lv_iconst (v := 4) S.1 S.2.1 dX7_lies_97 (by decide) ?_
    refine lv_idiv S.1 S.2.1 dX7_lies_98 (by decide) ?_
    refine lv_iadd S.1 S.2.1 dX7_lies_99 ?_
    refine lv_iadd S.1 S.2.1 dX7_lies_100 ?_
    refine k_iast S G 30 (hV 30 _ (by first | decide | (show _ < 1; omega))) rfl rfl rfl hd1 (show tN (κ 42 0 (tN x)) < 6 by omega) dX7_lies_101 (fun H locs G => ?_)
    have G : gS D aC A s ids ad (gk (mLies1 κ (tN x))) H locs := G
    refine lv_iconst (v := 0) S.1 S.2.1 dX7_lies_102 (by decide) ?_
    refine lv_istore (lv' := [(7, _), (6, _), (5, _), (4, _), (3, _), (2, _), (0, _), (1, _)]) S.1 S.2.1 dX7_lies_103 hl (by decide) rfl (fun ls hl => ?_)
    refine g_for (mPay (tN x) (κ 44 0 (tN x)) (mCut κ (tN x))) 6 (fun k_105 => [(7, .int (nI k_105)), (6, .int (mLeft (κ 44 0 (tN x)) (mCut κ (tN x)) k_105)), (5, .int (mCut κ (tN x))), (3, .int (mSize (κ 44 0 (tN x)) 6)), (1, .int x), (0, .ref (ad 8 0))]) ?_ G (lv_sub hl [0, 1, 2, 4, 7, 6] rfl)
    intro k_105 H locs ls hk_105 G hl ih_105
    have hl : lv_has ls 8 [(7, _), (6, _), (5, _), (3, _), (1, _), (0, _)] := hl
    refine lv_iload S.1 S.2.1 dX7_lies_105 (lv_at hl 0 rfl) ?_
    refine lv_bipush (v := 6) S.1 S.2.1 dX7_lies_107 (by decide) ?_
    refine lv_icmp_ge (tgt := 186) S.1 S.2.1 dX7_lies_109 (by decide) (fun c_109 => ?_) (fun c_109 => ?_)
    · have hkN_105 : k_105 = 6 := g_exit c_109 hk_105 (by omega)
      subst hkN_105
      have G : gS D aC A s ids ad (gk (mLies2 (mLies1 κ (tN x)) (tN x) (κ 44 0 (tN x)) (mCut κ (tN x)))) H locs := G
      refine lv_aload_n S.1 S.2.1 dX7_lies_186 rfl (lv_at hl 5 rfl) ?_
      refine lv_dup S.1 S.2.1 dX7_lies_187 rfl ?_
      refine g_get S G 8 11 (hV 8 _ (by first | decide | (show _ < 1; omega))) (by decide) (by decide) i8 (S.2.2.2.2 (.fieldLink RX7 134 "SensorBondModel" "house" "I") (by decide +kernel)) (gvk_i rfl rfl) dX7_lies_188 ?_
      refine lv_iload S.1 S.2.1 dX7_lies_191 (lv_at hl 1 rfl) ?_
      refine lv_iadd S.1 S.2.1 dX7_lies_193 ?_
      refine g_put (ty := .int) S G 8 11 (hV 8 _ (by first | decide | (show _ < 1; omega))) (by decide) (by decide) i8 (S.2.2.2.2 (.fieldLink RX7 134 "SensorBondModel" "house" "I") (by decide +kernel)) rfl (by decide +kernel) rfl rfl (gw_i rfl) dX7_lies_194 (fun H locs G => ?_)
      have G := gk_S rfl G
      exact g_vret S G hr hlk (rfl) (Nat.le_of_ble_eq_true rfl) (Nat.le_of_ble_eq_true rfl) dX7_lies_197
    · have hlt_105 : k_105 < 6 := g_stay c_109 hk_105 (by omega)
      have hu : (gIt (mPay (tN x) (κ 44 0 (tN x)) (mCut κ (tN x))) k_105 (mLies1 κ (tN x))) 44 0 (tN x) = κ 44 0 (tN x) := gIt_keep (fun _ _ => mPay_keep (by decide) (by decide)) k_105 _
      refine lv_aload_n S.1 S.2.1 dX7_lies_112 rfl (lv_at hl 5 rfl) ?_
      refine g_get S G 8 24 (hV 8 _ (by first | decide | (show _ < 1; omega))) (by decide) (by decide) i8 (S.2.2.2.2 (.fieldLink RX7 74 "SensorBondModel" "usedBy" "[I") (by decide +kernel)) (gvk_or (j := 0) rfl rfl (by omega)) dX7_lies_113 ?_
      refine lv_iload_n S.1 S.2.1 dX7_lies_116 rfl (lv_at hl 4 rfl) ?_
      refine k_iald S G 44 (hV 44 _ (by first | decide | (show _ < 1; omega))) rfl rfl rfl hx (show tN x < 80 by omega) dX7_lies_117 ?_
      refine g_top hu ?_
      refine lv_iload S.1 S.2.1 dX7_lies_118 (lv_at hl 0 rfl) ?_
      refine lv_ishr S.1 S.2.1 dX7_lies_120 ?_
      refine lv_iconst (v := 1) S.1 S.2.1 dX7_lies_121 (by decide) ?_
      refine lv_iand S.1 S.2.1 dX7_lies_122 ?_
      refine lv_iconst (v := 1) S.1 S.2.1 dX7_lies_123 (by decide) ?_
      refine lv_icmp_ne (tgt := 180) S.1 S.2.1 dX7_lies_124 (by decide) (fun c_124 => ?_) (fun c_124 => ?_)
      · refine lv_iinc (k := 0) (lv' := [(7, _), (6, _), (5, _), (3, _), (1, _), (0, _)]) S.1 S.2.1 dX7_lies_180 hl rfl (g_inc _) (by decide) rfl (fun ls hl => ?_)
        refine lv_goto (tgt := 105) S.1 S.2.1 dX7_lies_183 (by decide) ?_
        have e : mPay (tN x) (κ 44 0 (tN x)) (mCut κ (tN x)) k_105 (gIt (mPay (tN x) (κ 44 0 (tN x)) (mCut κ (tN x))) k_105 (mLies1 κ (tN x))) = (gIt (mPay (tN x) (κ 44 0 (tN x)) (mCut κ (tN x))) k_105 (mLies1 κ (tN x))) := by simp only [mPay, if_neg c_39, if_neg c_109, if_neg c_124]
        have hl : lv_has ls 8 [(7, .int (nI (k_105 + 1))), (6, .int (mLeft (κ 44 0 (tN x)) (mCut κ (tN x)) (k_105 + 1))), (5, .int (mCut κ (tN x))), (3, .int (mSize (κ 44 0 (tN x)) 6)), (1, .int x), (0, .ref (ad 8 0))] := by
          simp only [mLeft, if_neg c_39, if_neg c_109, if_neg c_124]
          exact lv_sub hl [0, 1, 2, 3, 4, 5] rfl
        exact ih_105 hlt_105 H locs ls (by simp only [gIt]; rw [e]; exact G) hl
      · refine lv_aload_n S.1 S.2.1 dX7_lies_127 rfl (lv_at hl 5 rfl) ?_
        refine g_get S G 8 10 (hV 8 _ (by first | decide | (show _ < 1; omega))) (by decide) (by decide) i8 (S.2.2.2.2 (.fieldLink RX7 37 "SensorBondModel" "purse" "[I") (by decide +kernel)) (gvk_or (j := 0) rfl rfl (by omega)) dX7_lies_128 ?_
        refine lv_iload S.1 S.2.1 dX7_lies_131 (lv_at hl 0 rfl) ?_
        refine lv_dup2_11 S.1 S.2.1 dX7_lies_133 rfl rfl ?_
        refine k_iald S G 30 (hV 30 _ (by first | decide | (show _ < 1; omega))) rfl rfl rfl rfl (show k_105 < 6 by omega) dX7_lies_134 ?_
        refine lv_aload_n S.1 S.2.1 dX7_lies_135 rfl (lv_at hl 5 rfl) ?_
        refine g_get S G 8 23 (hV 8 _ (by first | decide | (show _ < 1; omega))) (by decide) (by decide) i8 (S.2.2.2.2 (.fieldLink RX7 71 "SensorBondModel" "held" "[I") (by decide +kernel)) (gvk_or (j := 0) rfl rfl (by omega)) dX7_lies_136 ?_
        refine lv_bipush (v := 6) S.1 S.2.1 dX7_lies_139 (by decide) ?_
        refine lv_iload_n S.1 S.2.1 dX7_lies_141 rfl (lv_at hl 4 rfl) ?_
        refine lv_imul S.1 S.2.1 dX7_lies_142 ?_
        refine lv_iload S.1 S.2.1 dX7_lies_143 (lv_at hl 0 rfl) ?_
        refine lv_iadd S.1 S.2.1 dX7_lies_145 ?_
        refine k_iald S G 43 (hV 43 _ (by first | decide | (show _ < 1; omega))) rfl rfl rfl (g_lin (a := 6) hx rfl) (show 6 * tN x + k_105 < 480 by omega) dX7_lies_146 ?_
        refine lv_iload S.1 S.2.1 dX7_lies_147 (lv_at hl 2 rfl) ?_
        refine lv_iconst (v := 2) S.1 S.2.1 dX7_lies_149 (by decide) ?_
        refine lv_idiv S.1 S.2.1 dX7_lies_150 (by decide) ?_
        refine lv_iload_n S.1 S.2.1 dX7_lies_151 rfl (lv_at hl 3 rfl) ?_
        refine lv_idiv S.1 S.2.1 dX7_lies_152 (mSize_ne hlt_105 c_124) ?_
        refine lv_iadd S.1 S.2.1 dX7_lies_153 ?_
        refine lv_iadd S.1 S.2.1 dX7_lies_154 ?_
        refine k_iast S G 30 (hV 30 _ (by first | decide | (show _ < 1; omega))) rfl rfl rfl rfl (show k_105 < 6 by omega) dX7_lies_155 (fun H locs G => ?_)
        refine lv_aload_n S.1 S.2.1 dX7_lies_156 rfl (lv_at hl 5 rfl) ?_
        refine g_get S G 8 23 (hV 8 _ (by first | decide | (show _ < 1; omega))) (by decide) (by decide) i8 (S.2.2.2.2 (.fieldLink RX7 71 "SensorBondModel" "held" "[I") (by decide +kernel)) (gvk_or (j := 0) rfl rfl (by omega)) dX7_lies_157 ?_
        refine lv_bipush (v := 6) S.1 S.2.1 dX7_lies_160 (by decide) ?_
        refine lv_iload_n S.1 S.2.1 dX7_lies_162 rfl (lv_at hl 4 rfl) ?_
        refine lv_imul S.1 S.2.1 dX7_lies_163 ?_
        refine lv_iload S.1 S.2.1 dX7_lies_164 (lv_at hl 0 rfl) ?_
        refine lv_iadd S.1 S.2.1 dX7_lies_166 ?_
        refine lv_iconst (v := 0) S.1 S.2.1 dX7_lies_167 (by decide) ?_
        refine k_iast S G 43 (hV 43 _ (by first | decide | (show _ < 1; omega))) rfl rfl rfl (g_lin (a := 6) hx rfl) (show 6 * tN x + k_105 < 480 by omega) dX7_lies_168 (fun H locs G => ?_)
        refine lv_iload S.1 S.2.1 dX7_lies_169 (lv_at hl 1 rfl) ?_
        refine lv_iload S.1 S.2.1 dX7_lies_171 (lv_at hl 2 rfl) ?_
        refine lv_iconst (v := 2) S.1 S.2.1 dX7_lies_173 (by decide) ?_
        refine lv_idiv S.1 S.2.1 dX7_lies_174 (by decide) ?_
        refine lv_iload_n S.1 S.2.1 dX7_lies_175 rfl (lv_at hl 3 rfl) ?_
        refine lv_idiv S.1 S.2.1 dX7_lies_176 (mSize_ne hlt_105 c_124) ?_
        refine lv_isub S.1 S.2.1 dX7_lies_177 ?_
        refine g_top (show _ = mLeft (κ 44 0 (tN x)) (mCut κ (tN x)) (k_105 + 1) by simp only [mLeft, if_neg c_39, if_neg c_109, if_pos c_124]) ?_
        refine lv_istore (lv' := [(6, _), (7, _), (5, _), (3, _), (1, _), (0, _)]) S.1 S.2.1 dX7_lies_178 hl (by decide) rfl (fun ls hl => ?_)
        refine lv_iinc (k := 1) (lv' := [(7, _), (6, _), (5, _), (3, _), (1, _), (0, _)]) S.1 S.2.1 dX7_lies_180 hl rfl (g_inc _) (by decide) rfl (fun ls hl => ?_)
        refine lv_goto (tgt := 105) S.1 S.2.1 dX7_lies_183 (by decide) ?_
        have e : mPay (tN x) (κ 44 0 (tN x)) (mCut κ (tN x)) k_105 (gIt (mPay (tN x) (κ 44 0 (tN x)) (mCut κ (tN x))) k_105 (mLies1 κ (tN x))) = upd3 (upd3 (gIt (mPay (tN x) (κ 44 0 (tN x)) (mCut κ (tN x))) k_105 (mLies1 κ (tN x))) 30 0 k_105 ((gIt (mPay (tN x) (κ 44 0 (tN x)) (mCut κ (tN x))) k_105 (mLies1 κ (tN x))) 30 0 k_105 + ((gIt (mPay (tN x) (κ 44 0 (tN x)) (mCut κ (tN x))) k_105 (mLies1 κ (tN x))) 43 0 (6 * tN x + k_105) + mCut κ (tN x) / 2 / mSize (κ 44 0 (tN x)) 6))) 43 0 (6 * tN x + k_105) 0 := by simp only [mPay, if_neg c_39, if_neg c_109, if_pos c_124]
        exact ih_105 hlt_105 H locs ls (by simp only [gIt]; rw [e]; exact G) (lv_sub hl [0, 1, 2, 3, 4, 5] rfl)
set_option maxHeartbeats 4000000 in
set_option maxRecDepth 100000 in
theorem c_X7_judges (l : Launch) (ids : gIds) (ad : gAd) (κ : gMem) (x : Int32) (hx : x = nI (tN x)) (hr80 : tN x < 80) (hV : mV ids) (hW : mWF κ)  : gMv l yX7_judges wsX7_judges ({ frames := 2, cells := 0, slots := 0, locals := 51 } : Room) 0 0 [.ref (ad 8 0), .int x] (ids, ad, gk κ) (fun u => u = (ids, ad, gk (mJudges κ (tN x)))) := by
  intro D aC A
  refine g_of (cc := cX7_judges) (maxL := 3) (ret := none) (by decide +kernel) rfl (Nat.le_of_ble_eq_true rfl) ?_
  intro p e s m below meth c ls S G hF hr hlk hnm hl
  have hl : lv_has ls 3 [(0, _), (1, _)] := hl
  have i8 : ∀ w ∈ wsX70, w ∈ wsX7_judges := by decide +kernel
  refine lv_aload_n S.1 S.2.1 dX7_judges_0 rfl (lv_at hl 0 rfl) ?_
  refine lv_iload_n S.1 S.2.1 dX7_judges_1 rfl (lv_at hl 1 rfl) ?_
  refine g_cVi S G hF hl 8 (hV 8 _ (by first | decide | (show _ < 1; omega))) (by decide) (c_X7_middleOf l ids ad _ _ hx hr80 hV) (cwV 1 S.2.2.2.2 gX7_judges_X7_middleOf rfl rfl rfl (by decide +kernel) ⟨Nat.le_of_ble_eq_true rfl, Nat.le_of_ble_eq_true rfl⟩) rfl rfl (Nat.le_of_ble_eq_true rfl) dX7_judges_2 ⟨Nat.le_of_ble_eq_true rfl, Nat.le_of_ble_eq_true rfl⟩ (fun r_2 u_2 H locs hp_2 G => ?_)
  obtain ⟨rfl, rfl⟩ := hp_2
  have G : gS D aC A s ids ad (gk _) H locs := G
  refine lv_istore_n (lv' := [(2, _), (0, _), (1, _)]) S.1 S.2.1 dX7_judges_5 rfl hl (by decide) rfl (fun ls hl => ?_)
  refine lv_iload_n S.1 S.2.1 dX7_judges_6 rfl (lv_at hl 0 rfl) ?_
  refine lv_iconst (v := (-1)) S.1 S.2.1 dX7_judges_7 (by decide) ?_
  refine lv_icmp_eq (tgt := 33) S.1 S.2.1 dX7_judges_8 (by decide) (fun c_8 => ?_) (fun c_8 => ?_)
  · refine lv_aload_n S.1 S.2.1 dX7_judges_33 rfl (lv_at hl 1 rfl) ?_
    refine lv_iload_n S.1 S.2.1 dX7_judges_34 rfl (lv_at hl 2 rfl) ?_
    refine g_cVv S G hF hl 8 (hV 8 _ (by first | decide | (show _ < 1; omega))) (by decide) (c_X7_stands l ids ad _ _ hx hr80 hV hW) (cwV 1 S.2.2.2.2 gX7_judges_X7_stands rfl rfl rfl (by decide +kernel) ⟨Nat.le_of_ble_eq_true rfl, Nat.le_of_ble_eq_true rfl⟩) rfl rfl (Nat.le_of_ble_eq_true rfl) dX7_judges_35 ⟨Nat.le_of_ble_eq_true rfl, Nat.le_of_ble_eq_true rfl⟩ (fun u_35 H locs hp_35 G => ?_)
    obtain rfl := hp_35
    have G : gS D aC A s ids ad (gk _) H locs := G
    obtain ⟨hb1, hb2⟩ := (mStands_WF (r := tN x) hW).by' hr80
    refine lv_aload_n S.1 S.2.1 dX7_judges_38 rfl (lv_at hl 1 rfl) ?_
    refine g_get S G 8 7 (hV 8 _ (by first | decide | (show _ < 1; omega))) (by decide) (by decide) i8 (S.2.2.2.2 (.fieldLink RX7 28 "SensorBondModel" "earned" "[I") (by decide +kernel)) (gvk_or (j := 0) rfl rfl (by omega)) dX7_judges_39 ?_
    refine lv_aload_n S.1 S.2.1 dX7_judges_42 rfl (lv_at hl 1 rfl) ?_
    refine g_get S G 8 17 (hV 8 _ (by first | decide | (show _ < 1; omega))) (by decide) (by decide) i8 (S.2.2.2.2 (.fieldLink RX7 53 "SensorBondModel" "by" "[I") (by decide +kernel)) (gvk_or (j := 0) rfl rfl (by omega)) dX7_judges_43 ?_
    refine lv_iload_n S.1 S.2.1 dX7_judges_46 rfl (lv_at hl 2 rfl) ?_
    refine k_iald S G 37 (hV 37 _ (by first | decide | (show _ < 1; omega))) rfl rfl rfl hx (show tN x < 80 by omega) dX7_judges_47 ?_
    refine lv_dup2_11 S.1 S.2.1 dX7_judges_48 rfl rfl ?_
    refine k_iald S G 27 (hV 27 _ (by first | decide | (show _ < 1; omega))) rfl rfl rfl hb1 (show tN (mStands κ (tN x) 37 0 (tN x)) < 12 by omega) dX7_judges_49 ?_
    refine lv_iconst (v := 4) S.1 S.2.1 dX7_judges_50 (by decide) ?_
    refine lv_iadd S.1 S.2.1 dX7_judges_51 ?_
    refine k_iast S G 27 (hV 27 _ (by first | decide | (show _ < 1; omega))) rfl rfl rfl hb1 (show tN (mStands κ (tN x) 37 0 (tN x)) < 12 by omega) dX7_judges_52 (fun H locs G => ?_)
    exact g_vret S G hr hlk (by simp only [mJudges, if_pos c_8]) (Nat.le_of_ble_eq_true rfl) (Nat.le_of_ble_eq_true rfl) dX7_judges_53
  · refine lv_aload_n S.1 S.2.1 dX7_judges_11 rfl (lv_at hl 1 rfl) ?_
    refine g_get S G 8 18 (hV 8 _ (by first | decide | (show _ < 1; omega))) (by decide) (by decide) i8 (S.2.2.2.2 (.fieldLink RX7 56 "SensorBondModel" "value" "[I") (by decide +kernel)) (gvk_or (j := 0) rfl rfl (by omega)) dX7_judges_12 ?_
    refine lv_iload_n S.1 S.2.1 dX7_judges_15 rfl (lv_at hl 2 rfl) ?_
    refine k_iald S G 38 (hV 38 _ (by first | decide | (show _ < 1; omega))) rfl rfl rfl hx (show tN x < 80 by omega) dX7_judges_16 ?_
    refine lv_iload_n S.1 S.2.1 dX7_judges_17 rfl (lv_at hl 0 rfl) ?_
    refine g_cSi S G hF hl (c_X7_apart l ids ad _ _ _) (va_cwS 2 S.2.2.2.2 gX7_judges_X7_apart rfl rfl rfl (by decide +kernel) ⟨Nat.le_of_ble_eq_true rfl, Nat.le_of_ble_eq_true rfl⟩) rfl rfl (Nat.le_of_ble_eq_true rfl) dX7_judges_18 ⟨Nat.le_of_ble_eq_true rfl, Nat.le_of_ble_eq_true rfl⟩ (fun r_18 u_18 H locs hp_18 G => ?_)
    obtain ⟨rfl, rfl⟩ := hp_18
    have G : gS D aC A s ids ad (gk _) H locs := G
    refine lv_iconst (v := 5) S.1 S.2.1 dX7_judges_21 (by decide) ?_
    refine lv_icmp_le (tgt := 33) S.1 S.2.1 dX7_judges_22 (by decide) (fun c_22 => ?_) (fun c_22 => ?_)
    · refine lv_aload_n S.1 S.2.1 dX7_judges_33 rfl (lv_at hl 1 rfl) ?_
      refine lv_iload_n S.1 S.2.1 dX7_judges_34 rfl (lv_at hl 2 rfl) ?_
      refine g_cVv S G hF hl 8 (hV 8 _ (by first | decide | (show _ < 1; omega))) (by decide) (c_X7_stands l ids ad _ _ hx hr80 hV hW) (cwV 1 S.2.2.2.2 gX7_judges_X7_stands rfl rfl rfl (by decide +kernel) ⟨Nat.le_of_ble_eq_true rfl, Nat.le_of_ble_eq_true rfl⟩) rfl rfl (Nat.le_of_ble_eq_true rfl) dX7_judges_35 ⟨Nat.le_of_ble_eq_true rfl, Nat.le_of_ble_eq_true rfl⟩ (fun u_35 H locs hp_35 G => ?_)
      obtain rfl := hp_35
      have G : gS D aC A s ids ad (gk _) H locs := G
      obtain ⟨hb1, hb2⟩ := (mStands_WF (r := tN x) hW).by' hr80
      refine lv_aload_n S.1 S.2.1 dX7_judges_38 rfl (lv_at hl 1 rfl) ?_
      refine g_get S G 8 7 (hV 8 _ (by first | decide | (show _ < 1; omega))) (by decide) (by decide) i8 (S.2.2.2.2 (.fieldLink RX7 28 "SensorBondModel" "earned" "[I") (by decide +kernel)) (gvk_or (j := 0) rfl rfl (by omega)) dX7_judges_39 ?_
      refine lv_aload_n S.1 S.2.1 dX7_judges_42 rfl (lv_at hl 1 rfl) ?_
      refine g_get S G 8 17 (hV 8 _ (by first | decide | (show _ < 1; omega))) (by decide) (by decide) i8 (S.2.2.2.2 (.fieldLink RX7 53 "SensorBondModel" "by" "[I") (by decide +kernel)) (gvk_or (j := 0) rfl rfl (by omega)) dX7_judges_43 ?_
      refine lv_iload_n S.1 S.2.1 dX7_judges_46 rfl (lv_at hl 2 rfl) ?_
      refine k_iald S G 37 (hV 37 _ (by first | decide | (show _ < 1; omega))) rfl rfl rfl hx (show tN x < 80 by omega) dX7_judges_47 ?_
      refine lv_dup2_11 S.1 S.2.1 dX7_judges_48 rfl rfl ?_
      refine k_iald S G 27 (hV 27 _ (by first | decide | (show _ < 1; omega))) rfl rfl rfl hb1 (show tN (mStands κ (tN x) 37 0 (tN x)) < 12 by omega) dX7_judges_49 ?_
      refine lv_iconst (v := 4) S.1 S.2.1 dX7_judges_50 (by decide) ?_
      refine lv_iadd S.1 S.2.1 dX7_judges_51 ?_
      refine k_iast S G 27 (hV 27 _ (by first | decide | (show _ < 1; omega))) rfl rfl rfl hb1 (show tN (mStands κ (tN x) 37 0 (tN x)) < 12 by omega) dX7_judges_52 (fun H locs G => ?_)
      exact g_vret S G hr hlk (by simp only [mJudges, if_neg c_8, if_pos c_22]) (Nat.le_of_ble_eq_true rfl) (Nat.le_of_ble_eq_true rfl) dX7_judges_53
    · refine lv_aload_n S.1 S.2.1 dX7_judges_25 rfl (lv_at hl 1 rfl) ?_
      refine lv_iload_n S.1 S.2.1 dX7_judges_26 rfl (lv_at hl 2 rfl) ?_
      refine g_cVv S G hF hl 8 (hV 8 _ (by first | decide | (show _ < 1; omega))) (by decide) (c_X7_lies l ids ad _ _ hx hr80 hV hW) (cwV 1 S.2.2.2.2 gX7_judges_X7_lies rfl rfl rfl (by decide +kernel) ⟨Nat.le_of_ble_eq_true rfl, Nat.le_of_ble_eq_true rfl⟩) rfl rfl (Nat.le_of_ble_eq_true rfl) dX7_judges_27 ⟨Nat.le_of_ble_eq_true rfl, Nat.le_of_ble_eq_true rfl⟩ (fun u_27 H locs hp_27 G => ?_)
      obtain rfl := hp_27
      have G : gS D aC A s ids ad (gk _) H locs := G
      refine lv_goto (tgt := 53) S.1 S.2.1 dX7_judges_30 (by decide) ?_
      exact g_vret S G hr hlk (by simp only [mJudges, if_neg c_8, if_neg c_22]) (Nat.le_of_ble_eq_true rfl) (Nat.le_of_ble_eq_true rfl) dX7_judges_53
