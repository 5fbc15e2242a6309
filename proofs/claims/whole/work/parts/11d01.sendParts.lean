set_option maxHeartbeats 4000000 in
set_option maxRecDepth 100000 in
theorem c_X6_sendParts (l : Launch) (ids : gIds) (ad : gAd) (κ : gMem) (t : Nat) (hs : t < 12) (hV : cV ids) (hW : cWF ids κ)  : gMi l yX6_sendParts wsX6_sendParts ({ frames := 2, cells := 0, slots := 0, locals := 41 } : Room) 0 0 [.ref (ad 5 t)] (ids, ad, gk κ) (fun q u => q = sSent κ t 4 ∧ u = (ids, ad, gk (sSend κ t))) := by
  intro D aC A
  refine g_of (cc := cX6_sendParts) (maxL := 3) (ret := (some .int)) (by decide +kernel) rfl (Nat.le_of_ble_eq_true rfl) ?_
  intro p e s m below meth c ls S G hF hr hlk hnm hl
  have hl : lv_has ls 3 [(0, _)] := hl
  have i5 : ∀ w ∈ wsX40, w ∈ wsX6_sendParts := by decide +kernel
  refine lv_iconst (v := 0) S.1 S.2.1 dX6_sendParts_0 (by decide) ?_
  refine lv_istore_n (lv' := [(1, _), (0, _)]) S.1 S.2.1 dX6_sendParts_1 rfl hl (by decide) rfl (fun ls hl => ?_)
  refine lv_iconst (v := 0) S.1 S.2.1 dX6_sendParts_2 (by decide) ?_
  refine lv_istore_n (lv' := [(2, _), (1, _), (0, _)]) S.1 S.2.1 dX6_sendParts_3 rfl hl (by decide) rfl (fun ls hl => ?_)
  refine g_for (fun _ => sPart t) 4 (fun k_4 => [(2, .int (nI k_4)), (1, .int (sSent κ t k_4)), (0, .ref (ad 5 t))]) ?_ G (lv_sub hl [0, 1, 2] rfl)
  intro k_4 H locs ls hk_4 G hl ih_4
  have hl : lv_has ls 3 [(2, _), (1, _), (0, _)] := hl
  have hWk := sPart_it_WF (s := t) (k := k_4) hW
  have hp := hWk.rp hs
  refine lv_iload_n S.1 S.2.1 dX6_sendParts_4 rfl (lv_at hl 0 rfl) ?_
  refine lv_iconst (v := 4) S.1 S.2.1 dX6_sendParts_5 (by decide) ?_
  refine lv_icmp_ge (tgt := 28) S.1 S.2.1 dX6_sendParts_6 (by decide) (fun c_6 => ?_) (fun c_6 => ?_)
  · have hkN_4 : k_4 = 4 := g_exit c_6 hk_4 (by omega)
    subst hkN_4
    refine lv_iload_n S.1 S.2.1 dX6_sendParts_28 rfl (lv_at hl 1 rfl) ?_
    exact g_iret S G hr hlk (⟨rfl, rfl⟩) (Nat.le_of_ble_eq_true rfl) (Nat.le_of_ble_eq_true rfl) dX6_sendParts_29
  · have hlt_4 : k_4 < 4 := g_stay c_6 hk_4 (by omega)
    refine lv_aload_n S.1 S.2.1 dX6_sendParts_9 rfl (lv_at hl 2 rfl) ?_
    refine g_getN S G 5 1 (hV 5 _ (by first | decide | (show _ < 12; omega))) (by decide) (by decide) i5 (gnf hF 6 rfl) (gvk_r rfl rfl hp.1 (by have := hp.2; omega)) dX6_sendParts_10 ?_
    refine g_cSi S G hF hl (c_X6_passesHub l ids ad _ _ hp.2 hV hWk) (va_cwS 1 S.2.2.2.2 gX6_sendParts_X6_passesHub rfl rfl rfl (by decide +kernel) ⟨Nat.le_of_ble_eq_true rfl, Nat.le_of_ble_eq_true rfl⟩) rfl rfl (Nat.le_of_ble_eq_true rfl) dX6_sendParts_13 ⟨Nat.le_of_ble_eq_true rfl, Nat.le_of_ble_eq_true rfl⟩ (fun r_13 u_13 H locs hp_13 G => ?_)
    obtain ⟨rfl, rfl⟩ := hp_13
    have G : gS D aC A s ids ad (gk _) H locs := G
    refine lv_if_eq (tgt := 22) S.1 S.2.1 dX6_sendParts_16 (by decide) (fun c_16 => ?_) (fun c_16 => ?_)
    · refine lv_iinc (k := 0) (lv' := [(2, _), (1, _), (0, _)]) S.1 S.2.1 dX6_sendParts_22 hl rfl (g_inc _) (by decide) rfl (fun ls hl => ?_)
      refine lv_goto (tgt := 4) S.1 S.2.1 dX6_sendParts_25 (by decide) ?_
      have e : sSent κ t (k_4 + 1) = sSent κ t k_4 := by simp only [sSent, if_neg c_6, if_pos c_16]
      exact ih_4 hlt_4 _ _ _ G (by rw [e]; exact lv_sub hl [0, 1, 2] rfl)
    · refine lv_iinc (k := 1) (lv' := [(1, _), (2, _), (0, _)]) S.1 S.2.1 dX6_sendParts_19 hl rfl (show _ = sSent κ t k_4 + 1 from rfl) (by decide) rfl (fun ls hl => ?_)
      refine lv_iinc (k := 1) (lv' := [(2, _), (1, _), (0, _)]) S.1 S.2.1 dX6_sendParts_22 hl rfl (g_inc _) (by decide) rfl (fun ls hl => ?_)
      refine lv_goto (tgt := 4) S.1 S.2.1 dX6_sendParts_25 (by decide) ?_
      have e : sSent κ t (k_4 + 1) = sSent κ t k_4 + 1 := by simp only [sSent, if_neg c_6, if_neg c_16]
      exact ih_4 hlt_4 _ _ _ G (by rw [e]; exact lv_sub hl [0, 1, 2] rfl)
