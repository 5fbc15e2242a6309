/-! ===== the law opens, challenges, samples ===== -/
theorem nI_n108 {w : Nat} (h : w < 2 ^ 31) : ¬ nI w = -108 := fun z => nI_pos h (by rw [z]; decide)
theorem ix_rng {z : Int32} (h0 : 0 ≤ z) (h : z ≤ 99) : ∃ w : Nat, w < 100 ∧ z = nI w := by
  have e0 : (0 : Int32).toInt = 0 := by decide +kernel
  have e1 : (99 : Int32).toInt = 99 := by decide +kernel
  rw [Int32.le_iff_toInt_le, e0] at h0
  rw [Int32.le_iff_toInt_le, e1] at h
  refine ⟨z.toInt.toNat, by omega, ?_⟩
  rw [← Int32.toInt_inj, nI_toInt (by omega)]
  omega
set_option maxHeartbeats 4000000 in
set_option maxRecDepth 100000 in
theorem c_L_opens (l : Launch) (ids : gIds) (ad : gAd) (κ : gMem) (X Y : Nat) (hlf : l.stackTraces = false) (N B : Nat) (J : PL N B ids κ) (hN : N ≤ 61) (hX : X < 2 ^ 30) (hY : Y < 2 ^ 30)  : gMi l yL_opens wsL_opens ({ frames := 9, cells := 8, slots := 64, locals := 164 } : Room) 8 64 [.ref (ad 7 0), .int (nI X), .int (nI Y), .ref (ad 21 0)] (ids, ad, gk κ) (fun q u => q = 1 ∧ ∃ (ids' : gIds) (ad' : gAd) (κ' : gMem), u = (ids', ad', gk κ') ∧ PL (N + 1) B ids' κ' ∧ ad' 7 0 = ad 7 0 ∧ ad' 20 0 = ad 20 0 ∧ ad' 21 0 = ad 21 0 ∧ ad' 22 0 = ad 22 0) := by
  intro D aC A
  refine g_of (cc := cL_opens) (maxL := 11) (ret := (some .boolean)) (by decide +kernel) rfl (Nat.le_of_ble_eq_true rfl) ?_
  intro p e s m below meth c ls S G hF hr hlk hnm hl
  have hl : lv_has ls 11 [(0, _), (1, _), (2, _), (3, _)] := hl
  have hV := J.1.1
  have hW := J.1.2.1
  obtain ⟨h20, h21, h22⟩ := J.2.2.1
  obtain ⟨hn, hn80⟩ := hW.cnt
  have hI := J.1.2.2.1
  obtain ⟨T, eT⟩ : ∃ z, tN (κ 7 0 6) = z := ⟨_, rfl⟩
  obtain ⟨r, er⟩ : ∃ z, tN (κ 7 0 4) = z := ⟨_, rfl⟩
  have hr62 := J.2.2.2.1
  have h01 := J.1.T.2
  have hT7 : κ 7 0 6 = nI T := by rw [← eT]; exact J.1.T.1
  rw [er] at hn hn80 hr62
  rw [eT] at h01
  have hc0 := J.2.1.1
  have hc1 := J.2.1.2.1
  obtain ⟨b9, eb⟩ : ∃ z, X % 6 = z := ⟨_, rfl⟩
  have hb9 : b9 < 6 := by omega
  obtain ⟨t9, et⟩ : ∃ z, X / 6 % 12 = z := ⟨_, rfl⟩
  obtain ⟨D9, eD9⟩ : ∃ z, Y % 20 = z := ⟨_, rfl⟩
  have ht9 : t9 < 12 := by omega
  have hD9 : D9 < 20 := by omega
  obtain ⟨w, ew⟩ : ∃ w, T + (1 + D9) = w + 1 := ⟨T + D9, by omega⟩
  have hw : κ 7 0 6 + nI (1 + D9) - 1 = nI w := by rw [hT7, nI_add, ew, nI_pred]
  have eD : 1 + Y % 20 = 1 + D9 := by rw [eD9]
  have hD1 : 1 ≤ 1 + D9 := by omega
  have hD2 : 1 + D9 ≤ 20 := by omega
  generalize 1 + D9 = dd at hw eD hD1 hD2 ew
  refine lv_iload_n S.1 S.2.1 dL_opens_0 rfl (lv_at hl 1 rfl) ?_
  refine lv_bipush (v := 6) S.1 S.2.1 dL_opens_1 (by decide) ?_
  refine lv_irem S.1 S.2.1 dL_opens_3 (by decide) ?_
  refine g_top ((jrem6 (by omega)).trans (congrArg nI eb)) ?_
  refine lv_istore (lv' := [(4, _), (0, _), (1, _), (2, _), (3, _)]) S.1 S.2.1 dL_opens_4 hl (by decide) rfl (fun ls hl => ?_)
  refine lv_iload_n S.1 S.2.1 dL_opens_6 rfl (lv_at hl 2 rfl) ?_
  refine lv_bipush (v := 6) S.1 S.2.1 dL_opens_7 (by decide) ?_
  refine lv_idiv S.1 S.2.1 dL_opens_9 (by decide) ?_
  refine g_top (jdiv6 (by omega)) ?_
  refine lv_bipush (v := 12) S.1 S.2.1 dL_opens_10 (by decide) ?_
  refine lv_irem S.1 S.2.1 dL_opens_12 (by decide) ?_
  refine g_top ((jrem12 (by omega)).trans (congrArg nI et)) ?_
  refine lv_istore (lv' := [(5, _), (4, _), (0, _), (1, _), (2, _), (3, _)]) S.1 S.2.1 dL_opens_13 hl (by decide) rfl (fun ls hl => ?_)
  refine lv_iconst (v := 1) S.1 S.2.1 dL_opens_15 (by decide) ?_
  refine lv_iload_n S.1 S.2.1 dL_opens_16 rfl (lv_at hl 4 rfl) ?_
  refine lv_bipush (v := 20) S.1 S.2.1 dL_opens_17 (by decide) ?_
  refine lv_irem S.1 S.2.1 dL_opens_19 (by decide) ?_
  refine g_top (jrem20 (by omega)) ?_
  refine lv_iadd S.1 S.2.1 dL_opens_20 ?_
  refine g_top ((nI_add 1 (Y % 20)).trans (congrArg nI eD)) ?_
  refine lv_istore (lv' := [(6, _), (5, _), (4, _), (0, _), (1, _), (2, _), (3, _)]) S.1 S.2.1 dL_opens_21 hl (by decide) rfl (fun ls hl => ?_)
  refine lv_aload_n S.1 S.2.1 dL_opens_23 rfl (lv_at hl 3 rfl) ?_
  refine lv_iload S.1 S.2.1 dL_opens_24 (lv_at hl 2 rfl) ?_
  refine g_cVi S G hF hl 7 (hV 7 _ (by first | decide | (show _ < 1; omega))) (by decide) (c_X6_pursek l _ _ _ _ hV hb9) (cwV 1 S.2.2.2.2 gL_opens_X6_purse rfl rfl rfl (by decide +kernel) ⟨Nat.le_of_ble_eq_true rfl, Nat.le_of_ble_eq_true rfl⟩) rfl rfl (Nat.le_of_ble_eq_true rfl) dL_opens_26 ⟨Nat.le_of_ble_eq_true rfl, Nat.le_of_ble_eq_true rfl⟩ (fun r_26 u_26 H locs hp_26 G => ?_)
  obtain ⟨rfl, rfl⟩ := hp_26
  have G : gS D aC A s _ _ (gk _) H locs := G
  refine lv_istore (lv' := [(7, _), (6, _), (5, _), (4, _), (0, _), (1, _), (2, _), (3, _)]) S.1 S.2.1 dL_opens_29 hl (by decide) rfl (fun ls hl => ?_)
  refine lv_aload_n S.1 S.2.1 dL_opens_31 rfl (lv_at hl 4 rfl) ?_
  refine lv_iload S.1 S.2.1 dL_opens_32 (lv_at hl 3 rfl) ?_
  refine lv_iload S.1 S.2.1 dL_opens_34 (lv_at hl 2 rfl) ?_
  refine g_cVi S G hF hl 7 (hV 7 _ (by first | decide | (show _ < 1; omega))) (by decide) (c_X6_asidek l _ _ _ _ _ hV hW hb9 ht9) (cwV 2 S.2.2.2.2 gL_opens_X6_aside rfl rfl rfl (by decide +kernel) ⟨Nat.le_of_ble_eq_true rfl, Nat.le_of_ble_eq_true rfl⟩) rfl rfl (Nat.le_of_ble_eq_true rfl) dL_opens_36 ⟨Nat.le_of_ble_eq_true rfl, Nat.le_of_ble_eq_true rfl⟩ (fun r_36 u_36 H locs hp_36 G => ?_)
  obtain ⟨rfl, rfl⟩ := hp_36
  have G : gS D aC A s _ _ (gk _) H locs := G
  refine lv_istore (lv' := [(8, _), (7, _), (6, _), (5, _), (4, _), (0, _), (1, _), (2, _), (3, _)]) S.1 S.2.1 dL_opens_39 hl (by decide) rfl (fun ls hl => ?_)
  by_cases hT : sOpenT κ (nI b9) (nI t9) (nI dd) = 0
  · refine lv_aload_n S.1 S.2.1 dL_opens_41 rfl (lv_at hl 5 rfl) ?_
    refine lv_iconst (v := 1) S.1 S.2.1 dL_opens_42 (by decide) ?_
    refine lv_iload S.1 S.2.1 dL_opens_43 (lv_at hl 4 rfl) ?_
    refine lv_iload S.1 S.2.1 dL_opens_45 (lv_at hl 3 rfl) ?_
    refine lv_iload S.1 S.2.1 dL_opens_47 (lv_at hl 2 rfl) ?_
    have hno : ¬ sOpenT κ (nI b9) (nI t9) (nI dd) = 2 := by rw [hT]; decide
    refine g_cSWi S G hF hl (c_L_asks_open l hlf ids ad _ _ _ _ hV hW hI hno) (vx_cwSW 5 S.2.2.2.2 gL_opens_L_asks rfl rfl rfl (by decide +kernel) ⟨Nat.le_of_ble_eq_true rfl, Nat.le_of_ble_eq_true rfl⟩) rfl rfl (Nat.le_of_ble_eq_true rfl) dL_opens_49 ⟨Nat.le_of_ble_eq_true rfl, Nat.le_of_ble_eq_true rfl⟩ (fun r9 u9 H locs hp G => ?_)
    obtain ⟨rfl, q1, rfl⟩ := or3_0 hp hT
    have G : gS D aC A s _ _ (gk _) H locs := G
    rw [tN_nI (show b9 < 2 ^ 31 by omega), tN_nI (show t9 < 2 ^ 31 by omega)] at G
    obtain ⟨J5, s76, s210, hz, P, hP1, hP2, hpd, hasd⟩ := J.opn hb9 ht9 hD1 hD2 hT
    have hPD1 : dd ≤ P * dd := Nat.le_mul_of_pos_left dd (by omega)
    have hPD2 : P * dd ≤ 400 := Nat.le_trans (Nat.mul_le_mul hP2 hD2) (by decide)
    obtain ⟨ids2, ei⟩ : ∃ z, gDrop ids (6, 12 * b9 + t9) ++ [(6, 12 * b9 + t9)] = z := ⟨_, rfl⟩
    rw [ei] at G J5
    obtain ⟨ad2, ea⟩ : ∃ z, updA ad 6 (12 * b9 + t9) q1 = z := ⟨_, rfl⟩
    have a7 : ad2 7 0 = ad 7 0 := by rw [← ea]; rfl
    have a20 : ad2 20 0 = ad 20 0 := by rw [← ea]; rfl
    have a21 : ad2 21 0 = ad 21 0 := by rw [← ea]; rfl
    have a22 : ad2 22 0 = ad 22 0 := by rw [← ea]; rfl
    rw [ea] at G
    rw [← a7, ← a21] at hl
    obtain ⟨κ2, ek⟩ : ∃ z, sOpenK κ b9 t9 (nI dd) = z := ⟨_, rfl⟩
    rw [ek] at G J5 s76 s210 hpd hasd
    have hV := J5.1.1
    have hW := J5.1.2.1
    obtain ⟨h20, h21, h22⟩ := J5.2.2.1
    refine g_top hw ?_
    refine lv_istore (lv' := [(9, _), (8, _), (7, _), (6, _), (5, _), (4, _), (0, _), (1, _), (2, _), (3, _)]) S.1 S.2.1 dL_opens_52 hl (by decide) rfl (fun ls hl => ?_)
    refine lv_iload S.1 S.2.1 dL_opens_54 (lv_at hl 2 rfl) ?_
    refine lv_aload_n S.1 S.2.1 dL_opens_56 rfl (lv_at hl 6 rfl) ?_
    refine lv_iload S.1 S.2.1 dL_opens_57 (lv_at hl 5 rfl) ?_
    refine g_cVi S G hF hl 7 (hV 7 _ (by first | decide | (show _ < 1; omega))) (by decide) (c_X6_pursek l _ _ _ _ hV hb9) (cwV 1 S.2.2.2.2 gL_opens_X6_purse rfl rfl rfl (by decide +kernel) ⟨Nat.le_of_ble_eq_true rfl, Nat.le_of_ble_eq_true rfl⟩) rfl rfl (Nat.le_of_ble_eq_true rfl) dL_opens_59 ⟨Nat.le_of_ble_eq_true rfl, Nat.le_of_ble_eq_true rfl⟩ (fun r_59 u_59 H locs hp_59 G => ?_)
    obtain ⟨rfl, rfl⟩ := hp_59
    have G : gS D aC A s _ _ (gk _) H locs := G
    refine lv_isub S.1 S.2.1 dL_opens_62 ?_
    refine g_top hpd ?_
    refine lv_istore (lv' := [(10, _), (9, _), (8, _), (7, _), (6, _), (5, _), (4, _), (0, _), (1, _), (2, _), (3, _)]) S.1 S.2.1 dL_opens_63 hl (by decide) rfl (fun ls hl => ?_)
    refine lv_iload S.1 S.2.1 dL_opens_65 (lv_at hl 1 rfl) ?_
    refine lv_bipush (v := (-108)) S.1 S.2.1 dL_opens_67 (by decide) ?_
    refine lv_icmp_ne (tgt := 98) S.1 S.2.1 dL_opens_69 (by decide) (fun c_69 => ?_) (fun c_69 => ?_)
    · refine lv_iload S.1 S.2.1 dL_opens_98 (lv_at hl 1 rfl) ?_
      refine lv_aload_n S.1 S.2.1 dL_opens_100 rfl (lv_at hl 10 rfl) ?_
      refine lv_iconst (v := 0) S.1 S.2.1 dL_opens_101 (by decide) ?_
      refine k_iald S G 21 h21 rfl rfl rfl rfl (show 0 < 2 by decide) dL_opens_102 ?_
      refine g_top s210 ?_
      refine lv_iload S.1 S.2.1 dL_opens_103 (lv_at hl 4 rfl) ?_
      refine lv_iadd S.1 S.2.1 dL_opens_105 ?_
      refine lv_iconst (v := 1) S.1 S.2.1 dL_opens_106 (by decide) ?_
      refine lv_isub S.1 S.2.1 dL_opens_107 ?_
      refine g_top hw ?_
      refine lv_icmp_ne (tgt := 158) S.1 S.2.1 dL_opens_108 (by decide) (fun c_108 => ?_) (fun c_108 => ?_)
      · exact absurd rfl c_108
      · refine lv_iload S.1 S.2.1 dL_opens_111 (lv_at hl 2 rfl) ?_
        refine lv_if_ne (tgt := 158) S.1 S.2.1 dL_opens_113 (by decide) (fun c_113 => ?_) (fun c_113 => ?_)
        · exact absurd hz c_113
        · refine lv_iload S.1 S.2.1 dL_opens_116 (lv_at hl 0 rfl) ?_
          refine lv_aload_n S.1 S.2.1 dL_opens_118 rfl (lv_at hl 7 rfl) ?_
          refine lv_iload S.1 S.2.1 dL_opens_119 (lv_at hl 6 rfl) ?_
          refine lv_iload S.1 S.2.1 dL_opens_121 (lv_at hl 5 rfl) ?_
          refine g_cVi S G hF hl 7 (hV 7 _ (by first | decide | (show _ < 1; omega))) (by decide) (c_X6_asidek l _ _ _ _ _ hV hW hb9 ht9) (cwV 2 S.2.2.2.2 gL_opens_X6_aside rfl rfl rfl (by decide +kernel) ⟨Nat.le_of_ble_eq_true rfl, Nat.le_of_ble_eq_true rfl⟩) rfl rfl (Nat.le_of_ble_eq_true rfl) dL_opens_123 ⟨Nat.le_of_ble_eq_true rfl, Nat.le_of_ble_eq_true rfl⟩ (fun r_123 u_123 H locs hp_123 G => ?_)
          obtain ⟨rfl, rfl⟩ := hp_123
          have G : gS D aC A s _ _ (gk _) H locs := G
          refine g_top hasd ?_
          refine lv_icmp_ne (tgt := 158) S.1 S.2.1 dL_opens_126 (by decide) (fun c_126 => ?_) (fun c_126 => ?_)
          · exact absurd rfl c_126
          · refine lv_iload S.1 S.2.1 dL_opens_129 (lv_at hl 0 rfl) ?_
            refine lv_iload S.1 S.2.1 dL_opens_131 (lv_at hl 4 rfl) ?_
            refine lv_icmp_lt (tgt := 158) S.1 S.2.1 dL_opens_133 (by decide) (fun c_133 => ?_) (fun c_133 => ?_)
            · exact absurd ((nI_ltI (by omega) (by omega)).mp c_133) (by omega)
            · refine lv_iload S.1 S.2.1 dL_opens_136 (lv_at hl 0 rfl) ?_
              refine lv_iload S.1 S.2.1 dL_opens_138 (lv_at hl 4 rfl) ?_
              refine lv_irem S.1 S.2.1 dL_opens_140 (nI_ne0 (by omega) (by omega)) ?_
              refine g_top (show _ = (0 : Int32) from (pk_rem (a := P * dd) (d := dd) (by omega) (by omega) (by omega)).trans (congrArg nI (Nat.mul_mod_left P dd))) ?_
              refine lv_if_ne (tgt := 158) S.1 S.2.1 dL_opens_141 (by decide) (fun c_141 => ?_) (fun c_141 => ?_)
              · exact absurd c_141 (by decide)
              · refine lv_iload S.1 S.2.1 dL_opens_144 (lv_at hl 0 rfl) ?_
                refine lv_iload S.1 S.2.1 dL_opens_146 (lv_at hl 4 rfl) ?_
                refine lv_idiv S.1 S.2.1 dL_opens_148 (nI_ne0 (by omega) (by omega)) ?_
                refine g_top ((pk_div (a := P * dd) (d := dd) (by omega) (by omega) (by omega)).trans (congrArg nI (Nat.mul_div_cancel P (by omega)))) ?_
                refine lv_bipush (v := 20) S.1 S.2.1 dL_opens_149 (by decide) ?_
                refine lv_icmp_gt (tgt := 158) S.1 S.2.1 dL_opens_151 (by decide) (fun c_151 => ?_) (fun c_151 => ?_)
                · exact absurd c_151 (not_gt (n := 20) (ixL.nI (by omega) (by decide)) (by decide))
                · refine lv_iconst (v := 1) S.1 S.2.1 dL_opens_154 (by decide) ?_
                  refine lv_goto (tgt := 159) S.1 S.2.1 dL_opens_155 (by decide) ?_
                  exact g_zret S G hr hlk (by decide) (⟨rfl, ids2, ad2, κ2, rfl, J5.up (by omega) (Nat.le_refl _), a7, a20, a21, a22⟩) (Nat.le_of_ble_eq_true rfl) (Nat.le_of_ble_eq_true rfl) dL_opens_159
    · exact absurd c_69 (nI_n108 (by omega))
  · refine lv_aload_n S.1 S.2.1 dL_opens_41 rfl (lv_at hl 5 rfl) ?_
    refine lv_iconst (v := 1) S.1 S.2.1 dL_opens_42 (by decide) ?_
    refine lv_iload S.1 S.2.1 dL_opens_43 (lv_at hl 4 rfl) ?_
    refine lv_iload S.1 S.2.1 dL_opens_45 (lv_at hl 3 rfl) ?_
    refine lv_iload S.1 S.2.1 dL_opens_47 (lv_at hl 2 rfl) ?_
    have hT3 := openT_3 hb9 ht9 hD1 hD2 hT
    have hno : ¬ sOpenT κ (nI b9) (nI t9) (nI dd) = 2 := by rw [hT3]; decide
    refine g_cSWi S G hF hl (c_L_asks_open l hlf ids ad _ _ _ _ hV hW hI hno) (vx_cwSW 5 S.2.2.2.2 gL_opens_L_asks rfl rfl rfl (by decide +kernel) ⟨Nat.le_of_ble_eq_true rfl, Nat.le_of_ble_eq_true rfl⟩) rfl rfl (Nat.le_of_ble_eq_true rfl) dL_opens_49 ⟨Nat.le_of_ble_eq_true rfl, Nat.le_of_ble_eq_true rfl⟩ (fun r9 u9 H locs hp G => ?_)
    obtain ⟨rfl, rfl⟩ := or3_3 hp hT3
    have G : gS D aC A s _ _ (gk _) H locs := G
    refine lv_istore (lv' := [(9, _), (8, _), (7, _), (6, _), (5, _), (4, _), (0, _), (1, _), (2, _), (3, _)]) S.1 S.2.1 dL_opens_52 hl (by decide) rfl (fun ls hl => ?_)
    refine lv_iload S.1 S.2.1 dL_opens_54 (lv_at hl 2 rfl) ?_
    refine lv_aload_n S.1 S.2.1 dL_opens_56 rfl (lv_at hl 6 rfl) ?_
    refine lv_iload S.1 S.2.1 dL_opens_57 (lv_at hl 5 rfl) ?_
    refine g_cVi S G hF hl 7 (hV 7 _ (by first | decide | (show _ < 1; omega))) (by decide) (c_X6_pursek l _ _ _ _ hV hb9) (cwV 1 S.2.2.2.2 gL_opens_X6_purse rfl rfl rfl (by decide +kernel) ⟨Nat.le_of_ble_eq_true rfl, Nat.le_of_ble_eq_true rfl⟩) rfl rfl (Nat.le_of_ble_eq_true rfl) dL_opens_59 ⟨Nat.le_of_ble_eq_true rfl, Nat.le_of_ble_eq_true rfl⟩ (fun r_59 u_59 H locs hp_59 G => ?_)
    obtain ⟨rfl, rfl⟩ := hp_59
    have G : gS D aC A s _ _ (gk _) H locs := G
    refine lv_isub S.1 S.2.1 dL_opens_62 ?_
    refine g_top (show _ = (0 : Int32) from Int32.sub_self _) ?_
    refine lv_istore (lv' := [(10, _), (9, _), (8, _), (7, _), (6, _), (5, _), (4, _), (0, _), (1, _), (2, _), (3, _)]) S.1 S.2.1 dL_opens_63 hl (by decide) rfl (fun ls hl => ?_)
    refine lv_iload S.1 S.2.1 dL_opens_65 (lv_at hl 1 rfl) ?_
    refine lv_bipush (v := (-108)) S.1 S.2.1 dL_opens_67 (by decide) ?_
    refine lv_icmp_ne (tgt := 98) S.1 S.2.1 dL_opens_69 (by decide) (fun c_69 => ?_) (fun c_69 => ?_)
    · exact absurd c_69 (by decide)
    · refine lv_iload S.1 S.2.1 dL_opens_72 (lv_at hl 0 rfl) ?_
      refine lv_if_ne (tgt := 94) S.1 S.2.1 dL_opens_74 (by decide) (fun c_74 => ?_) (fun c_74 => ?_)
      · exact absurd c_74 (by decide)
      · refine lv_aload_n S.1 S.2.1 dL_opens_77 rfl (lv_at hl 7 rfl) ?_
        refine lv_iload S.1 S.2.1 dL_opens_78 (lv_at hl 6 rfl) ?_
        refine lv_iload S.1 S.2.1 dL_opens_80 (lv_at hl 5 rfl) ?_
        refine g_cVi S G hF hl 7 (hV 7 _ (by first | decide | (show _ < 1; omega))) (by decide) (c_X6_asidek l _ _ _ _ _ hV hW hb9 ht9) (cwV 2 S.2.2.2.2 gL_opens_X6_aside rfl rfl rfl (by decide +kernel) ⟨Nat.le_of_ble_eq_true rfl, Nat.le_of_ble_eq_true rfl⟩) rfl rfl (Nat.le_of_ble_eq_true rfl) dL_opens_82 ⟨Nat.le_of_ble_eq_true rfl, Nat.le_of_ble_eq_true rfl⟩ (fun r_82 u_82 H locs hp_82 G => ?_)
        obtain ⟨rfl, rfl⟩ := hp_82
        have G : gS D aC A s _ _ (gk _) H locs := G
        refine lv_iload S.1 S.2.1 dL_opens_85 (lv_at hl 2 rfl) ?_
        refine lv_icmp_ne (tgt := 94) S.1 S.2.1 dL_opens_87 (by decide) (fun c_87 => ?_) (fun c_87 => ?_)
        · exact absurd rfl c_87
        · refine lv_iconst (v := 1) S.1 S.2.1 dL_opens_90 (by decide) ?_
          refine lv_goto (tgt := 159) S.1 S.2.1 dL_opens_91 (by decide) ?_
          exact g_zret S G hr hlk (by decide) (⟨rfl, ids, ad, κ, rfl, J.up (by omega) (Nat.le_refl _), rfl, rfl, rfl, rfl⟩) (Nat.le_of_ble_eq_true rfl) (Nat.le_of_ble_eq_true rfl) dL_opens_159
