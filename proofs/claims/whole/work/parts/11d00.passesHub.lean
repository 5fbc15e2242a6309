set_option maxHeartbeats 4000000 in
set_option maxRecDepth 100000 in
theorem c_X6_passesHub (l : Launch) (ids : gIds) (ad : gAd) (κ : gMem) (j : Nat) (hj : j < 6) (hV : cV ids) (hW : cWF ids κ)  : gMi l yX6_passesHub wsX6_passesHub ({ frames := 1, cells := 0, slots := 0, locals := 20 } : Room) 0 0 [.ref (ad 4 j)] (ids, ad, gk κ) (fun q u => q = (sGoes 6 κ j).1 ∧ u = (ids, ad, gk ((sGoes 6 κ j).2))) := by
  intro D aC A
  refine g_of (cc := cX6_passesHub) (maxL := 2) (ret := (some .boolean)) (by decide +kernel) rfl (Nat.le_of_ble_eq_true rfl) ?_
  intro p e s m below meth c ls S G hF hr hlk hnm hl
  have hl : lv_has ls 2 [(0, _)] := hl
  have i4 : ∀ w ∈ wsX30, w ∈ wsX6_passesHub := by decide +kernel
  refine lv_aload_n S.1 S.2.1 dX6_passesHub_0 rfl (lv_at hl 0 rfl) ?_
  refine lv_astore_n (lv' := [(1, _), (0, _)]) S.1 S.2.1 dX6_passesHub_1 rfl hl (by decide) rfl (fun ls hl => ?_)
  obtain ⟨tg, htg⟩ : ∃ z, sGoes 6 κ j = z := ⟨_, rfl⟩
  rw [htg]
  refine g_while (σ := gMem × Nat × Nat) (fun y => y.2.1 < 6 ∧ y.2.1 < y.2.2 ∧ cWF ids y.1 ∧ sGoes y.2.2 y.1 y.2.1 = tg) (fun y => y.2.1) (fun y => y.1) (fun y => [(1, .ref (ad 4 y.2.1)), (0, .ref (ad 4 j))]) ?_ (κ, j, 6) ⟨hj, by omega, hW, htg⟩ G (lv_sub hl [0, 1] rfl)
  rintro ⟨κ1, i, n⟩ H locs ls ⟨hi6, hin, hW1, hG⟩ G hl ih_2
  dsimp only at hi6 hin hW1 hG G hl
  obtain ⟨n, rfl⟩ : ∃ q, n = q + 1 := ⟨n - 1, by omega⟩
  have hW2 : cWF ids (sCome κ1 i) := sCome_WF hW1
  have hl : lv_has ls 2 [(1, _), (0, _)] := hl
  refine lv_aload_n S.1 S.2.1 dX6_passesHub_2 rfl (lv_at hl 0 rfl) ?_
  refine lv_ifnull S.1 S.2.1 dX6_passesHub_3 ?_
  refine lv_aload_n S.1 S.2.1 dX6_passesHub_6 rfl (lv_at hl 0 rfl) ?_
  refine g_cNi S G hF hl 4 (hV 4 i hi6) (by decide) (c_X3_losesNext l ids ad _ _ (hV 4 i hi6)) ⟨va_cnB 0 S.2.2.2.2 gX6_passesHub_X3_losesNext_n266 rfl rfl rfl (gnm hF 4 rfl) (S.2.2.2.2 (.initialized RX3) (by decide +kernel)) (by decide +kernel) ⟨Nat.le_of_ble_eq_true rfl, Nat.le_of_ble_eq_true rfl⟩, S.2.2.2.2 (.instanceMethod yX3_losesNext) (by decide +kernel), S.2.2.2.2 (.selects RX3 yX3_losesNext yX3_losesNext) (by decide +kernel)⟩ rfl rfl (Nat.le_of_ble_eq_true rfl) dX6_passesHub_7 ⟨Nat.le_of_ble_eq_true rfl, Nat.le_of_ble_eq_true rfl⟩ (fun r_7 u_7 H locs hp_7 G => ?_)
  obtain ⟨rfl, rfl⟩ := hp_7
  have G : gS D aC A s ids ad (gk _) H locs := G
  refine lv_if_eq (tgt := 15) S.1 S.2.1 dX6_passesHub_10 (by decide) (fun c_10 => ?_) (fun c_10 => ?_)
  · refine lv_aload_n S.1 S.2.1 dX6_passesHub_15 rfl (lv_at hl 0 rfl) ?_
    by_cases h0 : i = 0
    · refine g_getN S G 4 1 (hV 4 i hi6) (by decide) (by decide) i4 (gnf hF 1 rfl) (gvk_n rfl rfl ((fun z (e : z = 0) => by rw [e]; exact hW2.hub : ∀ z, z = 0 → sCome κ1 i 4 z 1 < 0) i h0)) dX6_passesHub_16 ?_
      refine lv_astore_nN (lv' := [(1, _), (0, _)]) S.1 S.2.1 dX6_passesHub_19 rfl hl (by decide) rfl (fun ls hl => ?_)
      refine lv_goto (tgt := 2) S.1 S.2.1 dX6_passesHub_20 (by decide) ?_
      refine lv_aload_nN S.1 S.2.1 dX6_passesHub_2 rfl (lv_at hl 0 rfl) ?_
      refine lv_ifnullN (tgt := 23) S.1 S.2.1 dX6_passesHub_3 (by decide) ?_
      refine lv_iconst (v := 1) S.1 S.2.1 dX6_passesHub_23 (by decide) ?_
      exact g_zret S G hr hlk (by decide) (by simp only [sGoes, if_pos c_10, if_pos h0, if_pos trivial, if_true] at hG; rw [← hG]; exact ⟨rfl, rfl⟩) (Nat.le_of_ble_eq_true rfl) (Nat.le_of_ble_eq_true rfl) dX6_passesHub_24
    · have ho := hW2.on hi6 h0
      refine g_getN S G 4 1 (hV 4 i hi6) (by decide) (by decide) i4 (gnf hF 1 rfl) (gvk_r rfl rfl ho.1 (by have := ho.2; omega)) dX6_passesHub_16 ?_
      refine lv_astore_n (lv' := [(1, _), (0, _)]) S.1 S.2.1 dX6_passesHub_19 rfl hl (by decide) rfl (fun ls hl => ?_)
      refine lv_goto (tgt := 2) S.1 S.2.1 dX6_passesHub_20 (by decide) ?_
      have e := hG
      simp only [sGoes, if_pos c_10, if_neg h0] at e
      exact ih_2 (sCome κ1 i, tN (sCome κ1 i 4 i 1), n) H locs ls ⟨by have := ho.2; show tN (sCome κ1 i 4 i 1) < 6; omega, by have := ho.2; show tN (sCome κ1 i 4 i 1) < n; omega, hW2, e⟩ (by have := ho.2; show tN (sCome κ1 i 4 i 1) < i; omega) G (lv_sub hl [0, 1] rfl)
  · refine lv_iconst (v := 0) S.1 S.2.1 dX6_passesHub_13 (by decide) ?_
    exact g_zret S G hr hlk (by decide) (by simp only [sGoes, if_neg c_10] at hG; rw [← hG]; exact ⟨rfl, rfl⟩) (Nat.le_of_ble_eq_true rfl) (Nat.le_of_ble_eq_true rfl) dX6_passesHub_14
