set_option maxHeartbeats 4000000 in
set_option maxRecDepth 100000 in
theorem c_X6_letWindowsUse (l : Launch) (ids : gIds) (ad : gAd) (κ : gMem) (r : Nat) (hV : cV ids) (hW : cWF ids κ) (hr80 : r < 80) (hR : cRd ids κ r)  : gMv l yX6_letWindowsUse wsX6_letWindowsUse ({ frames := 0, cells := 0, slots := 0, locals := 0 } : Room) 0 0 [.ref (ad 7 0), .ref (ad 3 r)] (ids, ad, gk κ) (fun u => u = (ids, ad, gk (sUses κ r))) := by
  intro D aC A
  refine g_of (cc := cX6_letWindowsUse) (maxL := 5) (ret := none) (by decide +kernel) rfl (Nat.le_of_ble_eq_true rfl) ?_
  intro p e s m below meth c ls S G hF hr hlk hnm hl
  have hl : lv_has ls 5 [(0, _), (1, _)] := hl
  have i1 : ∀ w ∈ wsX00, w ∈ wsX6_letWindowsUse := by decide +kernel
  have i3 : ∀ w ∈ wsX20, w ∈ wsX6_letWindowsUse := by decide +kernel
  have i5 : ∀ w ∈ wsX40, w ∈ wsX6_letWindowsUse := by decide +kernel
  have i7 : ∀ w ∈ wsX60, w ∈ wsX6_letWindowsUse := by decide +kernel
  obtain ⟨-, h3, h15, hs, -⟩ := id hR
  refine lv_aload_n S.1 S.2.1 dX6_letWindowsUse_0 rfl (lv_at hl 1 rfl) ?_
  refine g_getN S G 3 0 h3 (by decide) (by decide) i3 (gnf hF 14 rfl) (gvk_r rfl rfl hs.1 (by have := hs.2; omega)) dX6_letWindowsUse_1 ?_
  refine g_getN S G 5 0 (hV 5 _ (by first | decide | (show _ < 12; omega))) (by decide) (by decide) i5 (gnf hF 5 rfl) (gvk_oi rfl rfl) dX6_letWindowsUse_4 ?_
  refine lv_istore_n (lv' := [(2, _), (0, _), (1, _)]) S.1 S.2.1 dX6_letWindowsUse_7 rfl hl (by decide) rfl (fun ls hl => ?_)
  refine lv_iconst (v := 0) S.1 S.2.1 dX6_letWindowsUse_8 (by decide) ?_
  refine lv_istore_n (lv' := [(3, _), (2, _), (0, _), (1, _)]) S.1 S.2.1 dX6_letWindowsUse_9 rfl hl (by decide) rfl (fun ls hl => ?_)
  refine g_for (sUse r) 6 (fun k_10 => [(3, .int (nI k_10)), (2, .int (nI (tN (κ 3 r 0)))), (1, .ref (ad 3 r)), (0, .ref (ad 7 0))]) ?_ G (lv_sub hl [0, 1, 3, 2] rfl)
  intro k_10 H locs ls hk_10 G hl ih_10
  have hl : lv_has ls 5 [(3, _), (2, _), (1, _), (0, _)] := hl
  have he : gIt (sUse r) k_10 κ 3 r 0 = κ 3 r 0 := (cSame.it (fun _ _ => sUse_same) k_10 κ) 3 r 0 rfl
  have hWk := sUse_it_WF (r := r) (k := k_10) hW
  refine lv_iload_n S.1 S.2.1 dX6_letWindowsUse_10 rfl (lv_at hl 0 rfl) ?_
  refine lv_bipush (v := 6) S.1 S.2.1 dX6_letWindowsUse_11 (by decide) ?_
  refine lv_icmp_ge (tgt := 90) S.1 S.2.1 dX6_letWindowsUse_13 (by decide) (fun c_13 => ?_) (fun c_13 => ?_)
  · have hkN_10 : k_10 = 6 := g_exit c_13 hk_10 (by omega)
    subst hkN_10
    exact g_vret S G hr hlk (rfl) (Nat.le_of_ble_eq_true rfl) (Nat.le_of_ble_eq_true rfl) dX6_letWindowsUse_90
  · have hlt_10 : k_10 < 6 := g_stay c_13 hk_10 (by omega)
    by_cases hw : gIt (sUse r) k_10 κ 14 k_10 (tN (κ 3 r 0)) < 0
    · refine lv_aload_n S.1 S.2.1 dX6_letWindowsUse_16 rfl (lv_at hl 3 rfl) ?_
      refine g_get S G 7 2 (hV 7 _ (by first | decide | (show _ < 1; omega))) (by decide) (by decide) i7 (S.2.2.2.2 (.fieldLink RX6 23 "SensorBond" "buyers" "[LSensorBond$Buyer;") (by decide +kernel)) (gvk_or (j := 0) rfl rfl (by omega)) dX6_letWindowsUse_17 ?_
      refine lv_iload_n S.1 S.2.1 dX6_letWindowsUse_20 rfl (lv_at hl 0 rfl) ?_
      refine g_aald S G 12 (hV 12 _ (by first | decide | (show _ < 1; omega))) rfl rfl rfl (show _ < 6 by omega) (gq_r (g := 1) rfl rfl (by omega)) dX6_letWindowsUse_21 ?_
      refine g_getN S G 1 1 (hV 1 _ (by first | decide | (show _ < 6; omega))) (by decide) (by decide) i1 (gnf hF 13 rfl) (gvk_or (j := _) rfl rfl (by omega)) dX6_letWindowsUse_22 ?_
      refine lv_iload_n S.1 S.2.1 dX6_letWindowsUse_25 rfl (lv_at hl 1 rfl) ?_
      refine g_aald S G 14 (hV 14 _ (by first | decide | (show _ < 6; omega))) rfl rfl rfl (show _ < 12 from hs.2) (gqk_n rfl hw) dX6_letWindowsUse_26 ?_
      refine lv_astoreN (lv' := [(4, _), (3, _), (2, _), (1, _), (0, _)]) S.1 S.2.1 dX6_letWindowsUse_27 hl (by decide) rfl (fun ls hl => ?_)
      refine lv_aloadN S.1 S.2.1 dX6_letWindowsUse_29 (lv_at hl 0 rfl) ?_
      refine lv_ifnullN (tgt := 84) S.1 S.2.1 dX6_letWindowsUse_31 (by decide) ?_
      refine lv_iinc (k := 1) (lv' := [(3, _), (4, _), (2, _), (1, _), (0, _)]) S.1 S.2.1 dX6_letWindowsUse_84 hl rfl (g_inc _) (by decide) rfl (fun ls hl => ?_)
      refine lv_goto (tgt := 10) S.1 S.2.1 dX6_letWindowsUse_87 (by decide) ?_
      exact ih_10 hlt_10 H locs ls (by simp only [gIt]; rw [sUse, he, if_pos hw]; exact G) (lv_sub hl [0, 2, 3, 4] rfl)
    · refine lv_aload_n S.1 S.2.1 dX6_letWindowsUse_16 rfl (lv_at hl 3 rfl) ?_
      refine g_get S G 7 2 (hV 7 _ (by first | decide | (show _ < 1; omega))) (by decide) (by decide) i7 (S.2.2.2.2 (.fieldLink RX6 23 "SensorBond" "buyers" "[LSensorBond$Buyer;") (by decide +kernel)) (gvk_or (j := 0) rfl rfl (by omega)) dX6_letWindowsUse_17 ?_
      refine lv_iload_n S.1 S.2.1 dX6_letWindowsUse_20 rfl (lv_at hl 0 rfl) ?_
      refine g_aald S G 12 (hV 12 _ (by first | decide | (show _ < 1; omega))) rfl rfl rfl (show _ < 6 by omega) (gq_r (g := 1) rfl rfl (by omega)) dX6_letWindowsUse_21 ?_
      refine g_getN S G 1 1 (hV 1 _ (by first | decide | (show _ < 6; omega))) (by decide) (by decide) i1 (gnf hF 13 rfl) (gvk_or (j := _) rfl rfl (by omega)) dX6_letWindowsUse_22 ?_
      refine lv_iload_n S.1 S.2.1 dX6_letWindowsUse_25 rfl (lv_at hl 1 rfl) ?_
      obtain ⟨hw1, hw6⟩ := hWk.win hlt_10 hs.2 hw
      refine g_aald S G 14 (hV 14 _ (by first | decide | (show _ < 6; omega))) rfl rfl rfl (show _ < 12 from hs.2) (gqk_r rfl rfl hw1 (by have := hs.2; omega)) dX6_letWindowsUse_26 ?_
      refine lv_astore (lv' := [(4, _), (3, _), (2, _), (1, _), (0, _)]) S.1 S.2.1 dX6_letWindowsUse_27 hl (by decide) rfl (fun ls hl => ?_)
      refine lv_aload S.1 S.2.1 dX6_letWindowsUse_29 (lv_at hl 0 rfl) ?_
      refine lv_ifnull S.1 S.2.1 dX6_letWindowsUse_31 ?_
      sorry
