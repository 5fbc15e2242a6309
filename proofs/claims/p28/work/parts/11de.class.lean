set_option maxHeartbeats 4000000 in
set_option maxRecDepth 100000 in
theorem c_X6_endTick (l : Launch) (ids : gIds) (ad : gAd) (κ : gMem) (w : Int32) (hV : cV ids) (hW : cWF ids κ)  : gMv l yX6_endTick wsX6_endTick ({ frames := 4, cells := 0, slots := 0, locals := 129 } : Room) 0 0 [.ref (ad 7 0), .int w] (ids, ad, gk κ) (fun u => u = (ids, ad, gk (sEnd κ w))) := by
  intro D aC A
  refine g_of (cc := cX6_endTick) (maxL := 3) (ret := none) (by decide +kernel) rfl (Nat.le_of_ble_eq_true rfl) ?_
  intro p e s m below meth c ls S G hF hr hlk hnm hl
  have hl : lv_has ls 3 [(0, _), (1, _)] := hl
  have i3 : ∀ w ∈ wsX20, w ∈ wsX6_endTick := by decide +kernel
  have i7 : ∀ w ∈ wsX60, w ∈ wsX6_endTick := by decide +kernel
  obtain ⟨hn, hn80⟩ := hW.cnt
  refine lv_iconst (v := 0) S.1 S.2.1 dX6_endTick_0 (by decide) ?_
  refine lv_istore_n (lv' := [(2, _), (0, _), (1, _)]) S.1 S.2.1 dX6_endTick_1 rfl hl (by decide) rfl (fun ls hl => ?_)
  refine g_for (sEnd1 w) (tN (κ 7 0 4)) (fun k_2 => [(2, .int (nI k_2)), (1, .int w), (0, .ref (ad 7 0))]) ?_ G (lv_sub hl [0, 2, 1] rfl)
  intro k_2 H locs ls hk_2 G hl ih_2
  have hl : lv_has ls 3 [(2, _), (1, _), (0, _)] := hl
  have hsm := sEnd1_it_same (n := k_2) (e := w) (κ := κ)
  have hWk := hW.to hsm
  have hcn := hsm.cnt
  refine lv_iload_n S.1 S.2.1 dX6_endTick_2 rfl (lv_at hl 0 rfl) ?_
  refine lv_aload_n S.1 S.2.1 dX6_endTick_3 rfl (lv_at hl 2 rfl) ?_
  refine g_get S G 7 4 (hV 7 _ (by first | decide | (show _ < 1; omega))) (by decide) (by decide) i7 (S.2.2.2.2 (.fieldLink RX6 33 "SensorBond" "readingCount" "I") (by decide +kernel)) (gvk_i rfl rfl) dX6_endTick_4 ?_
  refine g_top (hcn.trans hn) ?_
  refine lv_icmp_ge (tgt := 51) S.1 S.2.1 dX6_endTick_7 (by decide) (fun c_7 => ?_) (fun c_7 => ?_)
  · have hkN_2 : k_2 = (tN (κ 7 0 4)) := g_exit c_7 hk_2 (by omega)
    subst hkN_2
    refine lv_iconst (v := 0) S.1 S.2.1 dX6_endTick_51 (by decide) ?_
    refine lv_istore_n (lv' := [(2, _), (1, _), (0, _)]) S.1 S.2.1 dX6_endTick_52 rfl hl (by decide) rfl (fun ls hl => ?_)
    refine g_for (fun b => sClose b w) 6 (fun k_53 => [(2, .int (nI k_53)), (1, .int w), (0, .ref (ad 7 0))]) ?_ G (lv_sub hl [0, 1, 2] rfl)
    intro k_53 H locs ls hk_53 G hl ih_53
    have hl : lv_has ls 3 [(2, _), (1, _), (0, _)] := hl
    refine lv_iload_n S.1 S.2.1 dX6_endTick_53 rfl (lv_at hl 0 rfl) ?_
    refine lv_bipush (v := 6) S.1 S.2.1 dX6_endTick_54 (by decide) ?_
    refine lv_icmp_ge (tgt := 75) S.1 S.2.1 dX6_endTick_56 (by decide) (fun c_56 => ?_) (fun c_56 => ?_)
    · have hkN_53 : k_53 = 6 := g_exit c_56 hk_53 (by omega)
      subst hkN_53
      exact g_vret S G hr hlk (rfl) (Nat.le_of_ble_eq_true rfl) (Nat.le_of_ble_eq_true rfl) dX6_endTick_75
    · have hlt_53 : k_53 < 6 := g_stay c_56 hk_53 (by omega)
      refine lv_aload_n S.1 S.2.1 dX6_endTick_59 rfl (lv_at hl 2 rfl) ?_
      refine g_get S G 7 2 (hV 7 _ (by first | decide | (show _ < 1; omega))) (by decide) (by decide) i7 (S.2.2.2.2 (.fieldLink RX6 23 "SensorBond" "buyers" "[LSensorBond$Buyer;") (by decide +kernel)) (gvk_or (j := 0) rfl rfl (by omega)) dX6_endTick_60 ?_
      refine lv_iload_n S.1 S.2.1 dX6_endTick_63 rfl (lv_at hl 0 rfl) ?_
      refine g_aald S G 12 (hV 12 _ (by first | decide | (show _ < 1; omega))) rfl rfl rfl (show _ < 6 by omega) (gq_r (g := 1) rfl rfl (by omega)) dX6_endTick_64 ?_
      refine lv_iload_n S.1 S.2.1 dX6_endTick_65 rfl (lv_at hl 1 rfl) ?_
      refine g_cSv S G hF hl (c_X6_closeWindows l ids ad _ _ _ hlt_53 hV (sClose_it_WF (hW.to sEnd1_it_same))) (va_cwS 2 S.2.2.2.2 gX6_endTick_X6_closeWindows rfl rfl rfl (by decide +kernel) ⟨Nat.le_of_ble_eq_true rfl, Nat.le_of_ble_eq_true rfl⟩) rfl rfl (Nat.le_of_ble_eq_true rfl) dX6_endTick_66 ⟨Nat.le_of_ble_eq_true rfl, Nat.le_of_ble_eq_true rfl⟩ (fun u_66 H locs hp_66 G => ?_)
      obtain rfl := hp_66
      have G : gS D aC A s ids ad (gk _) H locs := G
      refine lv_iinc (k := 0) (lv' := [(2, _), (1, _), (0, _)]) S.1 S.2.1 dX6_endTick_69 hl rfl (g_inc _) (by decide) rfl (fun ls hl => ?_)
      refine lv_goto (tgt := 53) S.1 S.2.1 dX6_endTick_72 (by decide) ?_
      exact ih_53 hlt_53 H locs ls (by simp only [gIt]; exact G) (lv_sub hl [0, 1, 2] rfl)
  · have hlt_2 : k_2 < (tN (κ 7 0 4)) := g_stay c_7 hk_2 (by omega)
    refine lv_aload_n S.1 S.2.1 dX6_endTick_10 rfl (lv_at hl 2 rfl) ?_
    refine g_get S G 7 3 (hV 7 _ (by first | decide | (show _ < 1; omega))) (by decide) (by decide) i7 (S.2.2.2.2 (.fieldLink RX6 29 "SensorBond" "readings" "[LSensorBond$Reading;") (by decide +kernel)) (gvk_or (j := 0) rfl rfl (by omega)) dX6_endTick_11 ?_
    refine lv_iload_n S.1 S.2.1 dX6_endTick_14 rfl (lv_at hl 0 rfl) ?_
    refine g_aald S G 13 (hV 13 _ (by first | decide | (show _ < 1; omega))) rfl rfl rfl (show k_2 < 80 by omega) (gqk_r rfl rfl (hWk.2.1 _ (by rw [hcn]; exact hlt_2)).1 (by omega)) dX6_endTick_15 ?_
    refine g_cNi S G hF hl 3 (hWk.2.1 _ (by rw [hcn]; exact hlt_2)).2.1 (by decide) (c_X2_isOpen l ids ad _ _ (hWk.2.1 _ (by rw [hcn]; exact hlt_2)).2.1) ⟨va_cnB 0 S.2.2.2.2 gX6_endTick_X2_isOpen_n278 rfl rfl rfl (gm_11 hF) (S.2.2.2.2 (.initialized RX2) (by decide +kernel)) (by decide +kernel) ⟨Nat.le_of_ble_eq_true rfl, Nat.le_of_ble_eq_true rfl⟩, S.2.2.2.2 (.instanceMethod yX2_isOpen) (by decide +kernel), S.2.2.2.2 (.selects RX2 yX2_isOpen yX2_isOpen) (by decide +kernel)⟩ rfl rfl (Nat.le_of_ble_eq_true rfl) dX6_endTick_16 ⟨Nat.le_of_ble_eq_true rfl, Nat.le_of_ble_eq_true rfl⟩ (fun r_16 u_16 H locs hp_16 G => ?_)
    obtain ⟨rfl, rfl⟩ := hp_16
    have G : gS D aC A s ids ad (gk _) H locs := G
    refine lv_if_eq (tgt := 45) S.1 S.2.1 dX6_endTick_19 (by decide) (fun c_19 => ?_) (fun c_19 => ?_)
    · refine lv_iinc (k := 0) (lv' := [(2, _), (1, _), (0, _)]) S.1 S.2.1 dX6_endTick_45 hl rfl (g_inc _) (by decide) rfl (fun ls hl => ?_)
      refine lv_goto (tgt := 2) S.1 S.2.1 dX6_endTick_48 (by decide) ?_
      exact ih_2 hlt_2 H locs ls (by simp only [gIt]; rw [sEnd1, if_pos c_19]; exact G) (lv_sub hl [0, 1, 2] rfl)
    · refine lv_aload_n S.1 S.2.1 dX6_endTick_22 rfl (lv_at hl 2 rfl) ?_
      refine g_get S G 7 3 (hV 7 _ (by first | decide | (show _ < 1; omega))) (by decide) (by decide) i7 (S.2.2.2.2 (.fieldLink RX6 29 "SensorBond" "readings" "[LSensorBond$Reading;") (by decide +kernel)) (gvk_or (j := 0) rfl rfl (by omega)) dX6_endTick_23 ?_
      refine lv_iload_n S.1 S.2.1 dX6_endTick_26 rfl (lv_at hl 0 rfl) ?_
      refine g_aald S G 13 (hV 13 _ (by first | decide | (show _ < 1; omega))) rfl rfl rfl (show k_2 < 80 by omega) (gqk_r rfl rfl (hWk.2.1 _ (by rw [hcn]; exact hlt_2)).1 (by omega)) dX6_endTick_27 ?_
      refine g_getN S G 3 4 (hWk.2.1 _ (by rw [hcn]; exact hlt_2)).2.1 (by decide) (by decide) i3 (gn_18 hF) (gvk_i rfl rfl) dX6_endTick_28 ?_
      refine lv_iload_n S.1 S.2.1 dX6_endTick_31 rfl (lv_at hl 1 rfl) ?_
      refine lv_icmp_gt (tgt := 45) S.1 S.2.1 dX6_endTick_32 (by decide) (fun c_32 => ?_) (fun c_32 => ?_)
      · refine lv_iinc (k := 0) (lv' := [(2, _), (1, _), (0, _)]) S.1 S.2.1 dX6_endTick_45 hl rfl (g_inc _) (by decide) rfl (fun ls hl => ?_)
        refine lv_goto (tgt := 2) S.1 S.2.1 dX6_endTick_48 (by decide) ?_
        exact ih_2 hlt_2 H locs ls (by simp only [gIt]; rw [sEnd1, if_neg c_19, if_neg (Int32.not_le.mpr c_32)]; exact G) (lv_sub hl [0, 1, 2] rfl)
      · refine lv_aload_n S.1 S.2.1 dX6_endTick_35 rfl (lv_at hl 2 rfl) ?_
        refine lv_aload_n S.1 S.2.1 dX6_endTick_36 rfl (lv_at hl 2 rfl) ?_
        refine g_get S G 7 3 (hV 7 _ (by first | decide | (show _ < 1; omega))) (by decide) (by decide) i7 (S.2.2.2.2 (.fieldLink RX6 29 "SensorBond" "readings" "[LSensorBond$Reading;") (by decide +kernel)) (gvk_or (j := 0) rfl rfl (by omega)) dX6_endTick_37 ?_
        refine lv_iload_n S.1 S.2.1 dX6_endTick_40 rfl (lv_at hl 0 rfl) ?_
        refine g_aald S G 13 (hV 13 _ (by first | decide | (show _ < 1; omega))) rfl rfl rfl (show k_2 < 80 by omega) (gqk_r rfl rfl (hWk.2.1 _ (by rw [hcn]; exact hlt_2)).1 (by omega)) dX6_endTick_41 ?_
        refine g_cVv S G hF hl 7 (hV 7 _ (by first | decide | (show _ < 1; omega))) (by decide) (c_X6_settle l ids ad _ _ hV (by omega) (hWk.2.1 _ (by rw [hcn]; exact hlt_2))) (cwV 1 S.2.2.2.2 gX6_endTick_X6_settle rfl rfl rfl (by decide +kernel) ⟨Nat.le_of_ble_eq_true rfl, Nat.le_of_ble_eq_true rfl⟩) rfl rfl (Nat.le_of_ble_eq_true rfl) dX6_endTick_42 ⟨Nat.le_of_ble_eq_true rfl, Nat.le_of_ble_eq_true rfl⟩ (fun u_42 H locs hp_42 G => ?_)
        obtain rfl := hp_42
        have G : gS D aC A s ids ad (gk _) H locs := G
        refine lv_iinc (k := 0) (lv' := [(2, _), (1, _), (0, _)]) S.1 S.2.1 dX6_endTick_45 hl rfl (g_inc _) (by decide) rfl (fun ls hl => ?_)
        refine lv_goto (tgt := 2) S.1 S.2.1 dX6_endTick_48 (by decide) ?_
        exact ih_2 hlt_2 H locs ls (by simp only [gIt]; rw [sEnd1, if_neg c_19, if_pos (i32_nlt c_32)]; exact G) (lv_sub hl [0, 1, 2] rfl)
