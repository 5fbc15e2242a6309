set_option maxHeartbeats 4000000 in
set_option maxRecDepth 100000 in
theorem c_X6_advance (l : Launch) (hlf : l.stackTraces = false) (ids : gIds) (ad : gAd) (κ : gMem) (t : Int32) (hV : cV ids) (hW : cWF ids κ) (htk : ixL (κ 7 0 6) 10001)  : gXi l yX6_advance wsX6_advance ({ frames := 7, cells := 8, slots := 64, locals := 151 } : Room) 8 64 [.ref (ad 7 0), .int t] (ids, ad, gk κ) (fun q u => sAdvT κ t = 0 ∧ q = sAdvK κ t 7 0 6 ∧ u = (ids, ad, gk (sAdvK κ t))) (fun E u => xE (sAdvT κ t) E ∧ u = (ids, ad, gk (κ))) := by
  intro D aC A
  refine gx_of (cc := cX6_advance) (maxL := 4) (ret := (some .int)) (by decide +kernel) rfl (Nat.le_of_ble_eq_true rfl) ?_
  intro p e s m below meth c ls S G hF hr hlk hex hl
  have hl : lv_has ls 4 [(0, _), (1, _)] := hl
  have i7 : ∀ w ∈ wsX60, w ∈ wsX6_advance := by decide +kernel
  refine lv_iload_n S.1 S.2.1 dX6_advance_0 rfl (lv_at hl 1 rfl) ?_
  refine lv_iconst (v := 1) S.1 S.2.1 dX6_advance_1 (by decide) ?_
  refine lv_bipush (v := 100) S.1 S.2.1 dX6_advance_2 (by decide) ?_
  refine gx_cSv S G hF hl (c_X6_checkWithin l hlf ids ad _ _ _ _) (va_cwS 3 S.2.2.2.2 gX6_advance_X6_checkWithin rfl rfl rfl (by decide +kernel) ⟨Nat.le_of_ble_eq_true rfl, Nat.le_of_ble_eq_true rfl⟩) rfl rfl (Nat.le_of_ble_eq_true rfl) dX6_advance_4 ⟨Nat.le_of_ble_eq_true rfl, Nat.le_of_ble_eq_true rfl⟩ (gx_pass hex hlk (fun E u h => ⟨by obtain ⟨h1, rfl, -⟩ := h; exact xE2 (by simp only [sAdvT, if_pos h1]), h.2.2⟩) (Nat.le_of_ble_eq_true rfl) (Nat.le_of_ble_eq_true rfl)) (fun u_4 H locs hp_4 G => ?_)
  obtain ⟨c_4, rfl⟩ := hp_4
  have G : gS D aC A s ids ad (gk _) H locs := G
  refine lv_aload_n S.1 S.2.1 dX6_advance_7 rfl (lv_at hl 0 rfl) ?_
  refine g_get S G 7 6 (hV 7 _ (by first | decide | (show _ < 1; omega))) (by decide) (by decide) i7 (S.2.2.2.2 (.fieldLink RX6 40 "SensorBond" "tick" "I") (by decide +kernel)) (gvk_i rfl rfl) dX6_advance_8 ?_
  refine lv_iload_n S.1 S.2.1 dX6_advance_11 rfl (lv_at hl 1 rfl) ?_
  refine lv_iadd S.1 S.2.1 dX6_advance_12 ?_
  refine lv_istore_n (lv' := [(2, _), (0, _), (1, _)]) S.1 S.2.1 dX6_advance_13 rfl hl (by decide) rfl (fun ls hl => ?_)
  refine lv_iload_n S.1 S.2.1 dX6_advance_14 rfl (lv_at hl 0 rfl) ?_
  refine lv_sipush (v := 10000) S.1 S.2.1 dX6_advance_15 (by decide) ?_
  refine lv_icmp_le (tgt := 31) S.1 S.2.1 dX6_advance_18 (by decide) (fun c_18 => ?_) (fun c_18 => ?_)
  · refine lv_aload_n S.1 S.2.1 dX6_advance_31 rfl (lv_at hl 1 rfl) ?_
    refine g_get S G 7 6 (hV 7 _ (by first | decide | (show _ < 1; omega))) (by decide) (by decide) i7 (S.2.2.2.2 (.fieldLink RX6 40 "SensorBond" "tick" "I") (by decide +kernel)) (gvk_i rfl rfl) dX6_advance_32 ?_
    refine lv_istore_n (lv' := [(3, _), (2, _), (0, _), (1, _)]) S.1 S.2.1 dX6_advance_35 rfl hl (by decide) rfl (fun ls hl => ?_)
    obtain ⟨ht1, ht2, ht3⟩ := mIn_rng' (m := 100) c_4 (by decide) (by decide)
    obtain ⟨k0, hk0, ek0⟩ := ixL_ex htk
    obtain ⟨tg, htg⟩ : ∃ z, sAdvI 101 κ (κ 7 0 6) (κ 7 0 6 + t) = z := ⟨_, rfl⟩
    have et : κ 7 0 6 + t = nI (k0 + tN t) := by rw [ek0, ht1, nI_add, tN_nI (by omega)]
    refine g_while (σ := gMem × Nat) (fun y => y.2 ≤ tN t ∧ cWF ids y.1 ∧ sAdvI (101 - y.2) y.1 (nI (k0 + y.2)) (κ 7 0 6 + t) = tg) (fun y => 101 - y.2) (fun y => y.1) (fun y => [(3, .int (nI (k0 + y.2))), (2, .int (κ 7 0 6 + t)), (1, .int t), (0, .ref (ad 7 0))]) ?_ (κ, 0) ⟨by omega, hW, by rw [← htg, ek0]; rfl⟩ G (by show lv_has ls 4 [(3, .int (nI (k0 + 0))), _, _, _]; rw [Nat.add_zero, ← ek0]; exact lv_sub hl [0, 1, 3, 2] rfl)
    rintro ⟨κ1, i⟩ H locs ls ⟨hi, hW1, hS⟩ G hl ih_36
    dsimp only at hi hW1 hS G hl
    obtain ⟨n, hn⟩ : ∃ q, 101 - i = q + 1 := ⟨100 - i, by omega⟩
    rw [hn, sAdvI] at hS
    have hl : lv_has ls 4 [(3, _), (2, _), (1, _), (0, _)] := hl
    refine lv_iload_n S.1 S.2.1 dX6_advance_36 rfl (lv_at hl 0 rfl) ?_
    refine lv_iload_n S.1 S.2.1 dX6_advance_37 rfl (lv_at hl 1 rfl) ?_
    refine lv_icmp_ge (tgt := 60) S.1 S.2.1 dX6_advance_38 (by decide) (fun c_38 => ?_) (fun c_38 => ?_)
    · rw [if_pos c_38] at hS
      subst hS
      refine lv_aload_n S.1 S.2.1 dX6_advance_60 rfl (lv_at hl 3 rfl) ?_
      refine lv_iload_n S.1 S.2.1 dX6_advance_61 rfl (lv_at hl 1 rfl) ?_
      refine g_put (ty := .int) S G 7 6 (hV 7 _ (by first | decide | (show _ < 1; omega))) (by decide) (by decide) i7 (S.2.2.2.2 (.fieldLink RX6 40 "SensorBond" "tick" "I") (by decide +kernel)) rfl (by decide +kernel) rfl rfl (gw_i rfl) dX6_advance_62 (fun H locs G => ?_)
      have G := gk_S rfl G
      refine lv_aload_n S.1 S.2.1 dX6_advance_65 rfl (lv_at hl 3 rfl) ?_
      refine g_get S G 7 6 (hV 7 _ (by first | decide | (show _ < 1; omega))) (by decide) (by decide) i7 (S.2.2.2.2 (.fieldLink RX6 40 "SensorBond" "tick" "I") (by decide +kernel)) (gvk_i rfl rfl) dX6_advance_66 ?_
      refine vx_ret ?_
      exact g_iret S G hr hlk (⟨by simp only [sAdvT, if_neg c_4, if_pos c_18], by simp only [sAdvK, upd3_s], by simp only [sAdvK, htg]⟩) (Nat.le_of_ble_eq_true rfl) (Nat.le_of_ble_eq_true rfl) dX6_advance_69
    · refine lv_iload_n S.1 S.2.1 dX6_advance_41 rfl (lv_at hl 0 rfl) ?_
      refine lv_aload_n S.1 S.2.1 dX6_advance_42 rfl (lv_at hl 3 rfl) ?_
      refine g_get S G 7 7 (hV 7 _ (by first | decide | (show _ < 1; omega))) (by decide) (by decide) i7 (S.2.2.2.2 (.fieldLink RX6 43 "SensorBond" "busyUntil" "I") (by decide +kernel)) (gvk_i rfl rfl) dX6_advance_43 ?_
      refine lv_icmp_gt (tgt := 60) S.1 S.2.1 dX6_advance_46 (by decide) (fun c_46 => ?_) (fun c_46 => ?_)
      · rw [if_neg c_38, if_pos c_46] at hS
        subst hS
        refine lv_aload_n S.1 S.2.1 dX6_advance_60 rfl (lv_at hl 3 rfl) ?_
        refine lv_iload_n S.1 S.2.1 dX6_advance_61 rfl (lv_at hl 1 rfl) ?_
        refine g_put (ty := .int) S G 7 6 (hV 7 _ (by first | decide | (show _ < 1; omega))) (by decide) (by decide) i7 (S.2.2.2.2 (.fieldLink RX6 40 "SensorBond" "tick" "I") (by decide +kernel)) rfl (by decide +kernel) rfl rfl (gw_i rfl) dX6_advance_62 (fun H locs G => ?_)
        have G := gk_S rfl G
        refine lv_aload_n S.1 S.2.1 dX6_advance_65 rfl (lv_at hl 3 rfl) ?_
        refine g_get S G 7 6 (hV 7 _ (by first | decide | (show _ < 1; omega))) (by decide) (by decide) i7 (S.2.2.2.2 (.fieldLink RX6 40 "SensorBond" "tick" "I") (by decide +kernel)) (gvk_i rfl rfl) dX6_advance_66 ?_
        refine vx_ret ?_
        exact g_iret S G hr hlk (⟨by simp only [sAdvT, if_neg c_4, if_pos c_18], by simp only [sAdvK, upd3_s], by simp only [sAdvK, htg]⟩) (Nat.le_of_ble_eq_true rfl) (Nat.le_of_ble_eq_true rfl) dX6_advance_69
      · refine lv_aload_n S.1 S.2.1 dX6_advance_49 rfl (lv_at hl 3 rfl) ?_
        refine lv_iload_n S.1 S.2.1 dX6_advance_50 rfl (lv_at hl 0 rfl) ?_
        refine g_cVv S G hF hl 7 (hV 7 _ (by first | decide | (show _ < 1; omega))) (by decide) (c_X6_endTick l ids ad _ _ hV hW1) (cwV 1 S.2.2.2.2 gX6_advance_X6_endTick rfl rfl rfl (by decide +kernel) ⟨Nat.le_of_ble_eq_true rfl, Nat.le_of_ble_eq_true rfl⟩) rfl rfl (Nat.le_of_ble_eq_true rfl) dX6_advance_51 ⟨Nat.le_of_ble_eq_true rfl, Nat.le_of_ble_eq_true rfl⟩ (fun u_51 H locs hp_51 G => ?_)
        obtain rfl := hp_51
        have G : gS D aC A s ids ad (gk _) H locs := G
        refine lv_iinc (k := 0) (lv' := [(3, _), (2, _), (1, _), (0, _)]) S.1 S.2.1 dX6_advance_54 hl rfl (by rw [← Nat.add_assoc]; exact g_inc _ : nI (k0 + i) + Int32.ofInt 1 = nI (k0 + (i + 1))) (by decide) rfl (fun ls hl => ?_)
        refine lv_goto (tgt := 36) S.1 S.2.1 dX6_advance_57 (by decide) ?_
        rw [if_neg c_38, if_neg c_46] at hS
        have hlt : i < tN t := by have := (nI_ltI (by omega) (by omega)).mp (show nI (k0 + i) < nI (k0 + tN t) by rw [← et]; exact i32_nle c_38); omega
        have e1 : 101 - (i + 1) = n := by omega
        have hS' : sAdvI (101 - (i + 1)) (sEnd κ1 (nI (k0 + i))) (nI (k0 + (i + 1))) (κ 7 0 6 + t) = tg := by rw [e1, ← Nat.add_assoc, ← nI_1]; exact hS
        have hi' : i + 1 ≤ tN t := by omega
        have hm : 101 - (i + 1) < 101 - i := by omega
        have hW' : cWF ids (sEnd κ1 (nI (k0 + i))) := sEnd_WF hW1
        refine ih_36 (sEnd κ1 (nI (k0 + i)), i + 1) H locs ls ?_ ?_ ?_ ?_
        · dsimp only; exact ⟨hi', hW', hS'⟩
        · dsimp only; exact hm
        · dsimp only; exact G
        · dsimp only; exact lv_sub hl [0, 1, 2, 3] rfl
  · exact g_throw (cls := "java/lang/IllegalStateException") (text := "the tick would be too high") S G hF hlf hlk hex hl.1 rfl (by decide +kernel) (by decide +kernel) (by decide +kernel) (by decide +kernel) (by decide +kernel) (by decide +kernel) (by decide +kernel) (by decide +kernel) dX6_advance_21 dX6_advance_24 (Or.inl ⟨dX6_advance_25, dX6_advance_27, dX6_advance_30⟩) (Nat.le_of_ble_eq_true rfl) (Nat.le_of_ble_eq_true rfl) (Nat.le_of_ble_eq_true rfl) (Nat.le_of_ble_eq_true rfl) (⟨xE3 (by simp only [sAdvT, if_neg c_4, if_neg c_18]), rfl⟩) (Nat.le_of_ble_eq_true rfl) (Nat.le_of_ble_eq_true rfl)
