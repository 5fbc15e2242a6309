/-! ===== the law challenges ===== -/
theorem chal_n {ids : gIds} {κ : gMem} {b r : Nat} (J : CI ids κ) (hb : b < 6) (hr : r < tN (κ 7 0 4)) (hT : sChallengeT κ (nI b) (nI r) = 0) : sChallengeK κ b r 7 0 4 = κ 7 0 4 := by
  have h81 := J.n.2
  have o := (op_challenge J hT).2.2.1
  rw [tN_nI (by omega), tN_nI (by omega)] at o
  exact o
set_option maxHeartbeats 4000000 in
set_option maxRecDepth 100000 in
theorem c_L_challenges (l : Launch) (ids : gIds) (ad : gAd) (κ : gMem) (X Y : Nat) (hlf : l.stackTraces = false) (N B : Nat) (J : PL N B ids κ) (hN : N ≤ 61) (hX : X < 2 ^ 30) (hY : Y < 2 ^ 30) (h0 : 0 < tN (κ 7 0 4))  : gMi l yL_challenges wsL_challenges ({ frames := 9, cells := 8, slots := 64, locals := 160 } : Room) 8 64 [.ref (ad 7 0), .int (nI X), .int (nI Y), .ref (ad 20 0), .ref (ad 21 0)] (ids, ad, gk κ) (fun q u => q = 1 ∧ ∃ (ids' : gIds) (ad' : gAd) (κ' : gMem), u = (ids', ad', gk κ') ∧ PL (N + 1) B ids' κ' ∧ ad' 7 0 = ad 7 0 ∧ ad' 20 0 = ad 20 0 ∧ ad' 21 0 = ad 21 0 ∧ ad' 22 0 = ad 22 0) := by
  intro D aC A
  refine g_of (cc := cL_challenges) (maxL := 12) (ret := (some .boolean)) (by decide +kernel) rfl (Nat.le_of_ble_eq_true rfl) ?_
  intro p e s m below meth c ls S G hF hr hlk hnm hl
  have hl : lv_has ls 12 [(0, _), (1, _), (2, _), (3, _), (4, _)] := hl
  have hV := J.1.1
  have hW := J.1.2.1
  obtain ⟨h20, h21, h22⟩ := J.2.2.1
  obtain ⟨hn, hn80⟩ := hW.cnt
  have hI := J.1.2.2.1
  obtain ⟨T, eT⟩ : ∃ z, tN (κ 7 0 6) = z := ⟨_, rfl⟩
  obtain ⟨r, er⟩ : ∃ z, tN (κ 7 0 4) = z := ⟨_, rfl⟩
  have hr62 := J.2.2.2.1
  have h01 := J.1.T.2
  have hT7 : κ 7 0 6 = nI T := by rw [← eT]; exact J.1.T.1
  rw [er] at hn hn80 hr62
  rw [eT] at h01
  have hc0 := J.2.1.1
  have hc1 := J.2.1.2.1
  obtain ⟨b9, eb⟩ : ∃ z, X % 6 = z := ⟨_, rfl⟩
  have hb9 : b9 < 6 := by omega
  obtain ⟨m9, em⟩ : ∃ z, (if r < 8 then r else 8) = z := ⟨_, rfl⟩
  have hm9 : 0 < m9 ∧ m9 ≤ 8 ∧ m9 ≤ r := by rw [← em]; split <;> omega
  have hmod := Nat.mod_lt Y hm9.1
  obtain ⟨r9, er9⟩ : ∃ z, r - 1 - Y % m9 = z := ⟨_, rfl⟩
  have hr9r : r9 < r := by omega
  have hr9 : r9 < tN (κ 7 0 4) := by omega
  obtain ⟨s9, v9, SS, PP, UU, st, τ, b1, b2, b3, b4, b5, b6, b7, b8, b9', b10, b11, b12, b13, b14, b15, b16, b17, b18, -, -⟩ := J.rd hr9
  refine lv_aload S.1 S.2.1 dL_challenges_0 (lv_at hl 4 rfl) ?_
  refine lv_iconst (v := 1) S.1 S.2.1 dL_challenges_2 (by decide) ?_
  refine k_iald S G 21 h21 rfl rfl rfl rfl (show 1 < 2 by decide) dL_challenges_3 ?_
  refine g_top (hc1.trans hn) ?_
  refine lv_iconst (v := 1) S.1 S.2.1 dL_challenges_4 (by decide) ?_
  refine lv_isub S.1 S.2.1 dL_challenges_5 ?_
  refine g_top (pk_sub (a := r) (b := 1) (by omega)) ?_
  refine lv_iload_n S.1 S.2.1 dL_challenges_6 rfl (lv_at hl 2 rfl) ?_
  refine jn2 (X := W p l e (headSpec wsL_challenges ({ frames := 9, cells := 8, slots := 64, locals := 160 } : Room)).room s m ([.ref (ad 7 0), .int (nI X), .int (nI Y), .ref (ad 20 0), .ref (ad 21 0)] : List Value).toArray below meth c s.heap [] (0) (0) (MQ below (va_Qi (fun q u => q = 1 ∧ ∃ (ids' : gIds) (ad' : gAd) (κ' : gMem), u = (ids', ad', gk κ') ∧ PL (N + 1) B ids' κ' ∧ ad' 7 0 = ad 7 0 ∧ ad' 20 0 = ad 20 0 ∧ ad' 21 0 = ad 21 0 ∧ ad' 22 0 = ad 22 0) (gE D aC A) A) ([.ref (ad 7 0), .int (nI X), .int (nI Y), .ref (ad 20 0), .ref (ad 21 0)] : List Value).toArray s 8 64 A) (F0 m 25 ls [.int (nI m9), .int (nI Y), .int (nI (r - 1))])) (fun K25 => ?_) ?_
  · refine lv_aload S.1 S.2.1 dL_challenges_7 (lv_at hl 4 rfl) ?_
    refine lv_iconst (v := 1) S.1 S.2.1 dL_challenges_9 (by decide) ?_
    refine k_iald S G 21 h21 rfl rfl rfl rfl (show 1 < 2 by decide) dL_challenges_10 ?_
    refine g_top (hc1.trans hn) ?_
    refine lv_bipush (v := 8) S.1 S.2.1 dL_challenges_11 (by decide) ?_
    refine lv_icmp_ge (tgt := 23) S.1 S.2.1 dL_challenges_13 (by decide) (fun c_13 => ?_) (fun c_13 => ?_)
    · refine lv_bipush (v := 8) S.1 S.2.1 dL_challenges_23 (by decide) ?_
      refine g_top (show (8 : Int32) = nI m9 from congrArg nI (by rw [← em, if_neg (by have := (nI_leI (a := 8) (b := r) (by decide) (by omega)).mp c_13; omega)])) ?_
      exact K25
    · refine lv_aload S.1 S.2.1 dL_challenges_16 (lv_at hl 4 rfl) ?_
      refine lv_iconst (v := 1) S.1 S.2.1 dL_challenges_18 (by decide) ?_
      refine k_iald S G 21 h21 rfl rfl rfl rfl (show 1 < 2 by decide) dL_challenges_19 ?_
      refine lv_goto (tgt := 25) S.1 S.2.1 dL_challenges_20 (by decide) ?_
      refine g_top ((hc1.trans hn).trans (congrArg nI (show r = m9 by rw [← em, if_pos (by have := mt (nI_leI (a := 8) (b := r) (by decide) (by omega)).mpr c_13; omega)]))) ?_
      exact K25
  · refine lv_irem S.1 S.2.1 dL_challenges_25 (nI_ne0 (by omega) (by omega)) ?_
    refine g_top (pk_rem (by omega) (by omega) (by omega)) ?_
    refine lv_isub S.1 S.2.1 dL_challenges_26 ?_
    refine g_top ((pk_sub (by omega)).trans (congrArg nI er9)) ?_
    refine lv_istore (lv' := [(5, _), (0, _), (1, _), (2, _), (3, _), (4, _)]) S.1 S.2.1 dL_challenges_27 hl (by decide) rfl (fun ls hl => ?_)
    refine lv_iload_n S.1 S.2.1 dL_challenges_29 rfl (lv_at hl 2 rfl) ?_
    refine lv_bipush (v := 6) S.1 S.2.1 dL_challenges_30 (by decide) ?_
    refine lv_irem S.1 S.2.1 dL_challenges_32 (by decide) ?_
    refine g_top ((jrem6 (by omega)).trans (congrArg nI eb)) ?_
    refine lv_istore (lv' := [(6, _), (5, _), (0, _), (1, _), (2, _), (3, _), (4, _)]) S.1 S.2.1 dL_challenges_33 hl (by decide) rfl (fun ls hl => ?_)
    refine lv_aload_n S.1 S.2.1 dL_challenges_35 rfl (lv_at hl 2 rfl) ?_
    refine lv_iload S.1 S.2.1 dL_challenges_36 (lv_at hl 0 rfl) ?_
    refine g_cVi S G hF hl 7 (hV 7 _ (by first | decide | (show _ < 1; omega))) (by decide) (c_X6_pursek l _ _ _ _ hV hb9) (cwV 1 S.2.2.2.2 gL_challenges_X6_purse rfl rfl rfl (by decide +kernel) ⟨Nat.le_of_ble_eq_true rfl, Nat.le_of_ble_eq_true rfl⟩) rfl rfl (Nat.le_of_ble_eq_true rfl) dL_challenges_38 ⟨Nat.le_of_ble_eq_true rfl, Nat.le_of_ble_eq_true rfl⟩ (fun r_38 u_38 H locs hp_38 G => ?_)
    obtain ⟨rfl, rfl⟩ := hp_38
    have G : gS D aC A s _ _ (gk _) H locs := G
    refine lv_istore (lv' := [(7, _), (6, _), (5, _), (0, _), (1, _), (2, _), (3, _), (4, _)]) S.1 S.2.1 dL_challenges_41 hl (by decide) rfl (fun ls hl => ?_)
    refine lv_aload_n S.1 S.2.1 dL_challenges_43 rfl (lv_at hl 3 rfl) ?_
    refine lv_iload S.1 S.2.1 dL_challenges_44 (lv_at hl 2 rfl) ?_
    refine g_cVi S G hF hl 7 (hV 7 _ (by first | decide | (show _ < 1; omega))) (by decide) (c_X6_stateOfk l _ _ _ _ hV hW hr9) (cwV 1 S.2.2.2.2 gL_challenges_X6_stateOf rfl rfl rfl (by decide +kernel) ⟨Nat.le_of_ble_eq_true rfl, Nat.le_of_ble_eq_true rfl⟩) rfl rfl (Nat.le_of_ble_eq_true rfl) dL_challenges_46 ⟨Nat.le_of_ble_eq_true rfl, Nat.le_of_ble_eq_true rfl⟩ (fun r_46 u_46 H locs hp_46 G => ?_)
    obtain ⟨rfl, rfl⟩ := hp_46
    have G : gS D aC A s _ _ (gk _) H locs := G
    refine jnP (X := W p l e (headSpec wsL_challenges ({ frames := 9, cells := 8, slots := 64, locals := 160 } : Room)).room s m ([.ref (ad 7 0), .int (nI X), .int (nI Y), .ref (ad 20 0), .ref (ad 21 0)] : List Value).toArray below meth c H locs (0) (0) (MQ below (va_Qi (fun q u => q = 1 ∧ ∃ (ids' : gIds) (ad' : gAd) (κ' : gMem), u = (ids', ad', gk κ') ∧ PL (N + 1) B ids' κ' ∧ ad' 7 0 = ad 7 0 ∧ ad' 20 0 = ad 20 0 ∧ ad' 21 0 = ad 21 0 ∧ ad' 22 0 = ad 22 0) (gE D aC A) A) ([.ref (ad 7 0), .int (nI X), .int (nI Y), .ref (ad 20 0), .ref (ad 21 0)] : List Value).toArray s 8 64 A) (F0 m 62 ls [])) (sChallengeT κ (nI b9) (nI r9) = 3) (fun K62 => ?_) (fun hT3 => ?_)
    · refine lv_if_ne (tgt := 62) S.1 S.2.1 dL_challenges_49 (by decide) (fun c_49 => ?_) (fun c_49 => ?_)
      · exact K62 (by rw [chalT_at J.1 hb9 hr9, if_neg c_49])
      · refine lv_iload S.1 S.2.1 dL_challenges_52 (lv_at hl 0 rfl) ?_
        refine lv_iconst (v := 4) S.1 S.2.1 dL_challenges_54 (by decide) ?_
        refine lv_icmp_lt (tgt := 62) S.1 S.2.1 dL_challenges_55 (by decide) (fun c_55 => ?_) (fun c_55 => ?_)
        · exact K62 (by rw [chalT_at J.1 hb9 hr9, if_pos c_49, if_neg (Int32.not_le.mpr c_55)])
        · have hT0 : sChallengeT κ (nI b9) (nI r9) = 0 := by rw [chalT_at J.1 hb9 hr9, if_pos c_49, if_pos (Int32.not_lt.mp c_55)]
          refine lv_iconst (v := 1) S.1 S.2.1 dL_challenges_58 (by decide) ?_
          refine lv_goto (tgt := 63) S.1 S.2.1 dL_challenges_59 (by decide) ?_
          refine lv_istore (lv' := [(8, _), (7, _), (6, _), (5, _), (0, _), (1, _), (2, _), (3, _), (4, _)]) S.1 S.2.1 dL_challenges_63 hl (by decide) rfl (fun ls hl => ?_)
          refine lv_aload_n S.1 S.2.1 dL_challenges_65 rfl (lv_at hl 7 rfl) ?_
          refine lv_iload S.1 S.2.1 dL_challenges_66 (lv_at hl 3 rfl) ?_
          refine k_iald S G 20 h20 rfl rfl rfl rfl (show r9 < 64 by omega) dL_challenges_68 ?_
          refine lv_bipush (v := 15) S.1 S.2.1 dL_challenges_69 (by decide) ?_
          refine lv_iand S.1 S.2.1 dL_challenges_71 ?_
          refine g_top (show _ = nI s9 from by rw [b14]; exact enc_s (by omega) (by omega) (by omega) (by omega)) ?_
          refine lv_istore (lv' := [(9, _), (8, _), (7, _), (6, _), (5, _), (0, _), (1, _), (2, _), (3, _), (4, _)]) S.1 S.2.1 dL_challenges_72 hl (by decide) rfl (fun ls hl => ?_)
          refine lv_iconst (v := 0) S.1 S.2.1 dL_challenges_74 (by decide) ?_
          refine lv_istore (lv' := [(10, _), (9, _), (8, _), (7, _), (6, _), (5, _), (0, _), (1, _), (2, _), (3, _), (4, _)]) S.1 S.2.1 dL_challenges_75 hl (by decide) rfl (fun ls hl => ?_)
          refine lv_iconst (v := 0) S.1 S.2.1 dL_challenges_77 (by decide) ?_
          refine lv_istore (lv' := [(11, _), (10, _), (9, _), (8, _), (7, _), (6, _), (5, _), (0, _), (1, _), (2, _), (3, _), (4, _)]) S.1 S.2.1 dL_challenges_78 hl (by decide) rfl (fun ls hl => ?_)
          refine g_forg 12 (fun k_80 => [(11, .int (nI k_80)), (10, .int (lNs s9 k_80)), (9, .int (nI s9)), (8, .int 1), (7, .int (κ 1 b9 0)), (6, .int (nI b9)), (5, .int (nI r9)), (4, .ref (ad 21 0)), (3, .ref (ad 20 0)), (2, .int (nI Y)), (1, .int (nI X)), (0, .ref (ad 7 0))]) ?_ G (lv_sub hl [0, 1, 2, 3, 4, 5, 6, 11, 10, 9, 8, 7] rfl)
          intro k_80 H locs ls hk_80 G hl ih_80
          have hl : lv_has ls 12 [(11, _), (10, _), (9, _), (8, _), (7, _), (6, _), (5, _), (4, _), (3, _), (2, _), (1, _), (0, _)] := hl
          refine lv_iload S.1 S.2.1 dL_challenges_80 (lv_at hl 0 rfl) ?_
          refine lv_bipush (v := 12) S.1 S.2.1 dL_challenges_82 (by decide) ?_
          refine lv_icmp_ge (tgt := 113) S.1 S.2.1 dL_challenges_84 (by decide) (fun c_84 => ?_) (fun c_84 => ?_)
          · have hkN_80 : k_80 = 12 := g_exit c_84 hk_80 (by omega)
            subst hkN_80
            refine lv_aload_n S.1 S.2.1 dL_challenges_113 rfl (lv_at hl 11 rfl) ?_
            refine lv_iconst (v := 2) S.1 S.2.1 dL_challenges_114 (by decide) ?_
            refine lv_iload S.1 S.2.1 dL_challenges_115 (lv_at hl 5 rfl) ?_
            refine lv_iload S.1 S.2.1 dL_challenges_117 (lv_at hl 6 rfl) ?_
            refine lv_iconst (v := 0) S.1 S.2.1 dL_challenges_119 (by decide) ?_
            have hno : ¬ sChallengeT κ (nI b9) (nI r9) = 2 := by rw [hT0]; decide
            refine g_cSWi S G hF hl (c_L_asks_challenge l hlf ids ad _ _ _ _ hV hW hI (J.fr _) hno) (vx_cwSW 5 S.2.2.2.2 gL_challenges_L_asks rfl rfl rfl (by decide +kernel) ⟨Nat.le_of_ble_eq_true rfl, Nat.le_of_ble_eq_true rfl⟩) rfl rfl (Nat.le_of_ble_eq_true rfl) dL_challenges_120 ⟨Nat.le_of_ble_eq_true rfl, Nat.le_of_ble_eq_true rfl⟩ (fun r9 u9 H locs hp G => ?_)
            obtain ⟨rfl, q1, q2, rfl⟩ := or3_0 hp hT0
            have G : gS D aC A s _ _ (gk _) H locs := G
            rw [tN_nI (show b9 < 2 ^ 31 by omega), tN_nI (show r9 < 2 ^ 31 by omega)] at G
            obtain ⟨J2, k20, k21, J5, k1, k3, kM⟩ := J.chal hr9 hb9 hT0 b9' b10 b1 b2 eT
            obtain ⟨ids2, ei⟩ : ∃ z, (ids ++ [(2, r9)]) ++ [(16, r9)] = z := ⟨_, rfl⟩
            rw [ei] at G J2 J5
            obtain ⟨ad2, ea⟩ : ∃ z, updA (updA ad 2 r9 q1) 16 r9 q2 = z := ⟨_, rfl⟩
            have a7 : ad2 7 0 = ad 7 0 := by rw [← ea]; rfl
            have a20 : ad2 20 0 = ad 20 0 := by rw [← ea]; rfl
            have a21 : ad2 21 0 = ad 21 0 := by rw [← ea]; rfl
            have a22 : ad2 22 0 = ad 22 0 := by rw [← ea]; rfl
            rw [ea] at G
            rw [← a7, ← a20, ← a21] at hl
            obtain ⟨κ2, ek⟩ : ∃ z, sChallengeK κ b9 r9 = z := ⟨_, rfl⟩
            rw [ek] at G J2 J5 k20 k21 k1 k3 kM
            have hV := J2.1
            obtain ⟨h20, h21, h22⟩ := J5.2.2.1
            refine g_top (show _ = lNs s9 12 from by rw [tN_nI (show r9 < 2 ^ 31 by omega), b9', tN_nI (by omega)]; exact (lNs_eq s9 b1).symm) ?_
            refine lv_istore (lv' := [(11, _), (10, _), (9, _), (8, _), (7, _), (6, _), (5, _), (4, _), (3, _), (2, _), (1, _), (0, _)]) S.1 S.2.1 dL_challenges_123 hl (by decide) rfl (fun ls hl => ?_)
            refine lv_iload S.1 S.2.1 dL_challenges_125 (lv_at hl 3 rfl) ?_
            refine lv_if_eq (tgt := 158) S.1 S.2.1 dL_challenges_127 (by decide) (fun c_127 => ?_) (fun c_127 => ?_)
            · exact absurd c_127 (by decide)
            · refine lv_aload_n S.1 S.2.1 dL_challenges_130 rfl (lv_at hl 8 rfl) ?_
              refine lv_iload S.1 S.2.1 dL_challenges_131 (lv_at hl 6 rfl) ?_
              refine lv_aload_n S.1 S.2.1 dL_challenges_133 rfl (lv_at hl 8 rfl) ?_
              refine lv_iload S.1 S.2.1 dL_challenges_134 (lv_at hl 6 rfl) ?_
              refine k_iald S G 20 h20 rfl rfl rfl rfl (show r9 < 64 by omega) dL_challenges_136 ?_
              refine lv_sipush (v := 16383) S.1 S.2.1 dL_challenges_137 (by decide) ?_
              refine lv_iand S.1 S.2.1 dL_challenges_140 ?_
              refine lv_sipush (v := (-14337)) S.1 S.2.1 dL_challenges_141 (by decide) ?_
              refine lv_iand S.1 S.2.1 dL_challenges_144 ?_
              refine lv_sipush (v := 2048) S.1 S.2.1 dL_challenges_145 (by decide) ?_
              refine lv_ior S.1 S.2.1 dL_challenges_148 ?_
              refine lv_aload S.1 S.2.1 dL_challenges_149 (lv_at hl 7 rfl) ?_
              refine lv_iconst (v := 0) S.1 S.2.1 dL_challenges_151 (by decide) ?_
              refine k_iald S G 21 h21 rfl rfl rfl rfl (show 0 < 2 by decide) dL_challenges_152 ?_
              refine g_top k21 ?_
              refine lv_bipush (v := 14) S.1 S.2.1 dL_challenges_153 (by decide) ?_
              refine lv_ishl S.1 S.2.1 dL_challenges_155 ?_
              refine lv_ior S.1 S.2.1 dL_challenges_156 ?_
              refine g_top (show _ = nI (enc T 1 v9 s9) from by rw [k20, b14]; exact enc_chal (by omega) (by omega) (by omega) (by omega) (by omega)) ?_
              refine k_iast S G 20 h20 rfl rfl rfl rfl (show r9 < 64 by omega) dL_challenges_157 (fun H locs G => ?_)
              obtain ⟨κ5, e5⟩ : ∃ z, upd3 κ2 20 0 r9 (nI (enc T 1 v9 s9)) = z := ⟨_, rfl⟩
              rw [e5] at G J5
              have hW := J5.1.2.1
              have hr5 : r9 < tN (κ5 7 0 4) := by
                have q : κ5 7 0 4 = κ 7 0 4 := by rw [← e5, ← ek]; exact (upd3_f (by decide)).trans (chal_n (κ := κ) J.1 hb9 hr9 hT0)
                rw [q]; exact hr9
              have kp : κ5 1 b9 0 = κ 1 b9 0 - 4 := by rw [← e5]; exact k1
              have ks : κ5 3 r9 3 = 1 := by rw [← e5]; exact k3
              have km : sMidA κ5 r9 = -1 := by rw [← e5]; exact (midA_to rfl rfl (fun _ => rfl)).trans kM
              refine lv_iload S.1 S.2.1 dL_challenges_158 (lv_at hl 0 rfl) ?_
              refine lv_iload S.1 S.2.1 dL_challenges_160 (lv_at hl 3 rfl) ?_
              refine lv_if_eq (tgt := 170) S.1 S.2.1 dL_challenges_162 (by decide) (fun c_162 => ?_) (fun c_162 => ?_)
              · exact absurd c_162 (by decide)
              · refine lv_iload S.1 S.2.1 dL_challenges_165 (lv_at hl 1 rfl) ?_
                refine lv_goto (tgt := 172) S.1 S.2.1 dL_challenges_167 (by decide) ?_
                refine lv_icmp_ne (tgt := 226) S.1 S.2.1 dL_challenges_172 (by decide) (fun c_172 => ?_) (fun c_172 => ?_)
                · exact absurd rfl c_172
                · refine lv_aload_n S.1 S.2.1 dL_challenges_175 rfl (lv_at hl 11 rfl) ?_
                  refine lv_iload S.1 S.2.1 dL_challenges_176 (lv_at hl 5 rfl) ?_
                  refine g_cVi S G hF hl 7 (hV 7 _ (by first | decide | (show _ < 1; omega))) (by decide) (c_X6_pursek l _ _ _ _ hV hb9) (cwV 1 S.2.2.2.2 gL_challenges_X6_purse rfl rfl rfl (by decide +kernel) ⟨Nat.le_of_ble_eq_true rfl, Nat.le_of_ble_eq_true rfl⟩) rfl rfl (Nat.le_of_ble_eq_true rfl) dL_challenges_178 ⟨Nat.le_of_ble_eq_true rfl, Nat.le_of_ble_eq_true rfl⟩ (fun r_178 u_178 H locs hp_178 G => ?_)
                  obtain ⟨rfl, rfl⟩ := hp_178
                  have G : gS D aC A s _ _ (gk _) H locs := G
                  refine g_top kp ?_
                  refine lv_iload S.1 S.2.1 dL_challenges_181 (lv_at hl 4 rfl) ?_
                  refine lv_iload S.1 S.2.1 dL_challenges_183 (lv_at hl 3 rfl) ?_
                  refine lv_if_eq (tgt := 192) S.1 S.2.1 dL_challenges_185 (by decide) (fun c_185 => ?_) (fun c_185 => ?_)
                  · exact absurd c_185 (by decide)
                  · refine lv_iconst (v := 4) S.1 S.2.1 dL_challenges_188 (by decide) ?_
                    refine lv_goto (tgt := 193) S.1 S.2.1 dL_challenges_189 (by decide) ?_
                    refine lv_isub S.1 S.2.1 dL_challenges_193 ?_
                    refine lv_icmp_ne (tgt := 226) S.1 S.2.1 dL_challenges_194 (by decide) (fun c_194 => ?_) (fun c_194 => ?_)
                    · exact absurd rfl c_194
                    · refine lv_iload S.1 S.2.1 dL_challenges_197 (lv_at hl 3 rfl) ?_
                      refine lv_if_eq (tgt := 222) S.1 S.2.1 dL_challenges_199 (by decide) (fun c_199 => ?_) (fun c_199 => ?_)
                      · exact absurd c_199 (by decide)
                      · refine lv_aload_n S.1 S.2.1 dL_challenges_202 rfl (lv_at hl 11 rfl) ?_
                        refine lv_iload S.1 S.2.1 dL_challenges_203 (lv_at hl 6 rfl) ?_
                        refine g_cVi S G hF hl 7 (hV 7 _ (by first | decide | (show _ < 1; omega))) (by decide) (c_X6_stateOfk l _ _ _ _ hV hW hr5) (cwV 1 S.2.2.2.2 gL_challenges_X6_stateOf rfl rfl rfl (by decide +kernel) ⟨Nat.le_of_ble_eq_true rfl, Nat.le_of_ble_eq_true rfl⟩) rfl rfl (Nat.le_of_ble_eq_true rfl) dL_challenges_205 ⟨Nat.le_of_ble_eq_true rfl, Nat.le_of_ble_eq_true rfl⟩ (fun r_205 u_205 H locs hp_205 G => ?_)
                        obtain ⟨rfl, rfl⟩ := hp_205
                        have G : gS D aC A s _ _ (gk _) H locs := G
                        refine g_top ks ?_
                        refine lv_iconst (v := 1) S.1 S.2.1 dL_challenges_208 (by decide) ?_
                        refine lv_icmp_ne (tgt := 226) S.1 S.2.1 dL_challenges_209 (by decide) (fun c_209 => ?_) (fun c_209 => ?_)
                        · exact absurd c_209 (by decide)
                        · refine lv_aload_n S.1 S.2.1 dL_challenges_212 rfl (lv_at hl 11 rfl) ?_
                          refine lv_iload S.1 S.2.1 dL_challenges_213 (lv_at hl 6 rfl) ?_
                          refine g_cVi S G hF hl 7 (hV 7 _ (by first | decide | (show _ < 1; omega))) (by decide) (c_X6_middlek l _ _ _ _ hV hW hr5) (cwV 1 S.2.2.2.2 gL_challenges_X6_middle rfl rfl rfl (by decide +kernel) ⟨Nat.le_of_ble_eq_true rfl, Nat.le_of_ble_eq_true rfl⟩) rfl rfl (Nat.le_of_ble_eq_true rfl) dL_challenges_215 ⟨Nat.le_of_ble_eq_true rfl, Nat.le_of_ble_eq_true rfl⟩ (fun r_215 u_215 H locs hp_215 G => ?_)
                          obtain ⟨rfl, rfl⟩ := hp_215
                          have G : gS D aC A s _ _ (gk _) H locs := G
                          refine g_top km ?_
                          refine lv_iconst (v := (-1)) S.1 S.2.1 dL_challenges_218 (by decide) ?_
                          refine lv_icmp_ne (tgt := 226) S.1 S.2.1 dL_challenges_219 (by decide) (fun c_219 => ?_) (fun c_219 => ?_)
                          · exact absurd c_219 (by decide)
                          · refine lv_iconst (v := 1) S.1 S.2.1 dL_challenges_222 (by decide) ?_
                            refine lv_goto (tgt := 227) S.1 S.2.1 dL_challenges_223 (by decide) ?_
                            exact g_zret S G hr hlk (by decide) (⟨rfl, ids2, ad2, κ5, rfl, J5.up (by omega) (Nat.le_refl _), a7, a20, a21, a22⟩) (Nat.le_of_ble_eq_true rfl) (Nat.le_of_ble_eq_true rfl) dL_challenges_227
          · have hlt_80 : k_80 < 12 := g_stay c_84 hk_80 (by omega)
            refine lv_iload S.1 S.2.1 dL_challenges_87 (lv_at hl 1 rfl) ?_
            refine lv_iload S.1 S.2.1 dL_challenges_89 (lv_at hl 0 rfl) ?_
            refine lv_iload S.1 S.2.1 dL_challenges_91 (lv_at hl 2 rfl) ?_
            refine g_cSi S G hF hl (c_L_areNear l _ _ _ _ _) (va_cwS 2 S.2.2.2.2 gL_challenges_L_areNear rfl rfl rfl (by decide +kernel) ⟨Nat.le_of_ble_eq_true rfl, Nat.le_of_ble_eq_true rfl⟩) rfl rfl (Nat.le_of_ble_eq_true rfl) dL_challenges_93 ⟨Nat.le_of_ble_eq_true rfl, Nat.le_of_ble_eq_true rfl⟩ (fun r_93 u_93 H locs hp_93 G => ?_)
            obtain ⟨rfl, rfl⟩ := hp_93
            have G : gS D aC A s _ _ (gk _) H locs := G
            refine lv_if_eq (tgt := 103) S.1 S.2.1 dL_challenges_96 (by decide) (fun c_96 => ?_) (fun c_96 => ?_)
            · refine lv_iconst (v := 0) S.1 S.2.1 dL_challenges_103 (by decide) ?_
              refine lv_iadd S.1 S.2.1 dL_challenges_104 ?_
              refine lv_istore (lv' := [(10, _), (11, _), (9, _), (8, _), (7, _), (6, _), (5, _), (4, _), (3, _), (2, _), (1, _), (0, _)]) S.1 S.2.1 dL_challenges_105 hl (by decide) rfl (fun ls hl => ?_)
              refine lv_iinc (k := 1) (lv' := [(11, _), (10, _), (9, _), (8, _), (7, _), (6, _), (5, _), (4, _), (3, _), (2, _), (1, _), (0, _)]) S.1 S.2.1 dL_challenges_107 hl rfl (g_inc _) (by decide) rfl (fun ls hl => ?_)
              refine lv_goto (tgt := 80) S.1 S.2.1 dL_challenges_110 (by decide) ?_
              have e : lNs s9 (k_80 + 1) = lNs s9 k_80 + 0 := by simp only [lNs, if_pos c_96]
              exact ih_80 hlt_80 _ _ _ G (by rw [e]; exact lv_sub hl [0, 1, 2, 3, 4, 5, 6, 7, 8, 9, 10, 11] rfl)
            · refine lv_iconst (v := 1) S.1 S.2.1 dL_challenges_99 (by decide) ?_
              refine lv_goto (tgt := 104) S.1 S.2.1 dL_challenges_100 (by decide) ?_
              refine lv_iadd S.1 S.2.1 dL_challenges_104 ?_
              refine lv_istore (lv' := [(10, _), (11, _), (9, _), (8, _), (7, _), (6, _), (5, _), (4, _), (3, _), (2, _), (1, _), (0, _)]) S.1 S.2.1 dL_challenges_105 hl (by decide) rfl (fun ls hl => ?_)
              refine lv_iinc (k := 1) (lv' := [(11, _), (10, _), (9, _), (8, _), (7, _), (6, _), (5, _), (4, _), (3, _), (2, _), (1, _), (0, _)]) S.1 S.2.1 dL_challenges_107 hl rfl (g_inc _) (by decide) rfl (fun ls hl => ?_)
              refine lv_goto (tgt := 80) S.1 S.2.1 dL_challenges_110 (by decide) ?_
              have e : lNs s9 (k_80 + 1) = lNs s9 k_80 + 1 := by simp only [lNs, if_neg c_96]
              exact ih_80 hlt_80 _ _ _ G (by rw [e]; exact lv_sub hl [0, 1, 2, 3, 4, 5, 6, 7, 8, 9, 10, 11] rfl)
    · refine lv_iconst (v := 0) S.1 S.2.1 dL_challenges_62 (by decide) ?_
      refine lv_istore (lv' := [(8, _), (7, _), (6, _), (5, _), (0, _), (1, _), (2, _), (3, _), (4, _)]) S.1 S.2.1 dL_challenges_63 hl (by decide) rfl (fun ls hl => ?_)
      refine lv_aload_n S.1 S.2.1 dL_challenges_65 rfl (lv_at hl 7 rfl) ?_
      refine lv_iload S.1 S.2.1 dL_challenges_66 (lv_at hl 3 rfl) ?_
      refine k_iald S G 20 h20 rfl rfl rfl rfl (show r9 < 64 by omega) dL_challenges_68 ?_
      refine lv_bipush (v := 15) S.1 S.2.1 dL_challenges_69 (by decide) ?_
      refine lv_iand S.1 S.2.1 dL_challenges_71 ?_
      refine g_top (show _ = nI s9 from by rw [b14]; exact enc_s (by omega) (by omega) (by omega) (by omega)) ?_
      refine lv_istore (lv' := [(9, _), (8, _), (7, _), (6, _), (5, _), (0, _), (1, _), (2, _), (3, _), (4, _)]) S.1 S.2.1 dL_challenges_72 hl (by decide) rfl (fun ls hl => ?_)
      refine lv_iconst (v := 0) S.1 S.2.1 dL_challenges_74 (by decide) ?_
      refine lv_istore (lv' := [(10, _), (9, _), (8, _), (7, _), (6, _), (5, _), (0, _), (1, _), (2, _), (3, _), (4, _)]) S.1 S.2.1 dL_challenges_75 hl (by decide) rfl (fun ls hl => ?_)
      refine lv_iconst (v := 0) S.1 S.2.1 dL_challenges_77 (by decide) ?_
      refine lv_istore (lv' := [(11, _), (10, _), (9, _), (8, _), (7, _), (6, _), (5, _), (0, _), (1, _), (2, _), (3, _), (4, _)]) S.1 S.2.1 dL_challenges_78 hl (by decide) rfl (fun ls hl => ?_)
      refine g_forg 12 (fun k_80 => [(11, .int (nI k_80)), (10, .int (lNs s9 k_80)), (9, .int (nI s9)), (8, .int 0), (7, .int (κ 1 b9 0)), (6, .int (nI b9)), (5, .int (nI r9)), (4, .ref (ad 21 0)), (3, .ref (ad 20 0)), (2, .int (nI Y)), (1, .int (nI X)), (0, .ref (ad 7 0))]) ?_ G (lv_sub hl [0, 1, 2, 3, 4, 5, 6, 11, 10, 9, 8, 7] rfl)
      intro k_80 H locs ls hk_80 G hl ih_80
      have hl : lv_has ls 12 [(11, _), (10, _), (9, _), (8, _), (7, _), (6, _), (5, _), (4, _), (3, _), (2, _), (1, _), (0, _)] := hl
      refine lv_iload S.1 S.2.1 dL_challenges_80 (lv_at hl 0 rfl) ?_
      refine lv_bipush (v := 12) S.1 S.2.1 dL_challenges_82 (by decide) ?_
      refine lv_icmp_ge (tgt := 113) S.1 S.2.1 dL_challenges_84 (by decide) (fun c_84 => ?_) (fun c_84 => ?_)
      · have hkN_80 : k_80 = 12 := g_exit c_84 hk_80 (by omega)
        subst hkN_80
        refine lv_aload_n S.1 S.2.1 dL_challenges_113 rfl (lv_at hl 11 rfl) ?_
        refine lv_iconst (v := 2) S.1 S.2.1 dL_challenges_114 (by decide) ?_
        refine lv_iload S.1 S.2.1 dL_challenges_115 (lv_at hl 5 rfl) ?_
        refine lv_iload S.1 S.2.1 dL_challenges_117 (lv_at hl 6 rfl) ?_
        refine lv_iconst (v := 0) S.1 S.2.1 dL_challenges_119 (by decide) ?_
        have hno : ¬ sChallengeT κ (nI b9) (nI r9) = 2 := by rw [hT3]; decide
        refine g_cSWi S G hF hl (c_L_asks_challenge l hlf ids ad _ _ _ _ hV hW hI (J.fr _) hno) (vx_cwSW 5 S.2.2.2.2 gL_challenges_L_asks rfl rfl rfl (by decide +kernel) ⟨Nat.le_of_ble_eq_true rfl, Nat.le_of_ble_eq_true rfl⟩) rfl rfl (Nat.le_of_ble_eq_true rfl) dL_challenges_120 ⟨Nat.le_of_ble_eq_true rfl, Nat.le_of_ble_eq_true rfl⟩ (fun r9 u9 H locs hp G => ?_)
        obtain ⟨rfl, rfl⟩ := or3_3 hp hT3
        have G : gS D aC A s _ _ (gk _) H locs := G
        refine lv_istore (lv' := [(11, _), (10, _), (9, _), (8, _), (7, _), (6, _), (5, _), (4, _), (3, _), (2, _), (1, _), (0, _)]) S.1 S.2.1 dL_challenges_123 hl (by decide) rfl (fun ls hl => ?_)
        refine lv_iload S.1 S.2.1 dL_challenges_125 (lv_at hl 3 rfl) ?_
        refine lv_if_eq (tgt := 158) S.1 S.2.1 dL_challenges_127 (by decide) (fun c_127 => ?_) (fun c_127 => ?_)
        · refine lv_iload S.1 S.2.1 dL_challenges_158 (lv_at hl 0 rfl) ?_
          refine lv_iload S.1 S.2.1 dL_challenges_160 (lv_at hl 3 rfl) ?_
          refine lv_if_eq (tgt := 170) S.1 S.2.1 dL_challenges_162 (by decide) (fun c_162 => ?_) (fun c_162 => ?_)
          · refine lv_bipush (v := (-108)) S.1 S.2.1 dL_challenges_170 (by decide) ?_
            refine lv_icmp_ne (tgt := 226) S.1 S.2.1 dL_challenges_172 (by decide) (fun c_172 => ?_) (fun c_172 => ?_)
            · exact absurd rfl c_172
            · refine lv_aload_n S.1 S.2.1 dL_challenges_175 rfl (lv_at hl 11 rfl) ?_
              refine lv_iload S.1 S.2.1 dL_challenges_176 (lv_at hl 5 rfl) ?_
              refine g_cVi S G hF hl 7 (hV 7 _ (by first | decide | (show _ < 1; omega))) (by decide) (c_X6_pursek l _ _ _ _ hV hb9) (cwV 1 S.2.2.2.2 gL_challenges_X6_purse rfl rfl rfl (by decide +kernel) ⟨Nat.le_of_ble_eq_true rfl, Nat.le_of_ble_eq_true rfl⟩) rfl rfl (Nat.le_of_ble_eq_true rfl) dL_challenges_178 ⟨Nat.le_of_ble_eq_true rfl, Nat.le_of_ble_eq_true rfl⟩ (fun r_178 u_178 H locs hp_178 G => ?_)
              obtain ⟨rfl, rfl⟩ := hp_178
              have G : gS D aC A s _ _ (gk _) H locs := G
              refine lv_iload S.1 S.2.1 dL_challenges_181 (lv_at hl 4 rfl) ?_
              refine lv_iload S.1 S.2.1 dL_challenges_183 (lv_at hl 3 rfl) ?_
              refine lv_if_eq (tgt := 192) S.1 S.2.1 dL_challenges_185 (by decide) (fun c_185 => ?_) (fun c_185 => ?_)
              · refine lv_iconst (v := 0) S.1 S.2.1 dL_challenges_192 (by decide) ?_
                refine lv_isub S.1 S.2.1 dL_challenges_193 ?_
                refine lv_icmp_ne (tgt := 226) S.1 S.2.1 dL_challenges_194 (by decide) (fun c_194 => ?_) (fun c_194 => ?_)
                · exact absurd (Int32.sub_zero _).symm c_194
                · refine lv_iload S.1 S.2.1 dL_challenges_197 (lv_at hl 3 rfl) ?_
                  refine lv_if_eq (tgt := 222) S.1 S.2.1 dL_challenges_199 (by decide) (fun c_199 => ?_) (fun c_199 => ?_)
                  · refine lv_iconst (v := 1) S.1 S.2.1 dL_challenges_222 (by decide) ?_
                    refine lv_goto (tgt := 227) S.1 S.2.1 dL_challenges_223 (by decide) ?_
                    exact g_zret S G hr hlk (by decide) (⟨rfl, ids, ad, κ, rfl, J.up (by omega) (Nat.le_refl _), rfl, rfl, rfl, rfl⟩) (Nat.le_of_ble_eq_true rfl) (Nat.le_of_ble_eq_true rfl) dL_challenges_227
                  · exact absurd c_199 (by decide)
              · exact absurd c_185 (by decide)
          · exact absurd c_162 (by decide)
        · exact absurd c_127 (by decide)
      · have hlt_80 : k_80 < 12 := g_stay c_84 hk_80 (by omega)
        refine lv_iload S.1 S.2.1 dL_challenges_87 (lv_at hl 1 rfl) ?_
        refine lv_iload S.1 S.2.1 dL_challenges_89 (lv_at hl 0 rfl) ?_
        refine lv_iload S.1 S.2.1 dL_challenges_91 (lv_at hl 2 rfl) ?_
        refine g_cSi S G hF hl (c_L_areNear l _ _ _ _ _) (va_cwS 2 S.2.2.2.2 gL_challenges_L_areNear rfl rfl rfl (by decide +kernel) ⟨Nat.le_of_ble_eq_true rfl, Nat.le_of_ble_eq_true rfl⟩) rfl rfl (Nat.le_of_ble_eq_true rfl) dL_challenges_93 ⟨Nat.le_of_ble_eq_true rfl, Nat.le_of_ble_eq_true rfl⟩ (fun r_93 u_93 H locs hp_93 G => ?_)
        obtain ⟨rfl, rfl⟩ := hp_93
        have G : gS D aC A s _ _ (gk _) H locs := G
        refine lv_if_eq (tgt := 103) S.1 S.2.1 dL_challenges_96 (by decide) (fun c_96 => ?_) (fun c_96 => ?_)
        · refine lv_iconst (v := 0) S.1 S.2.1 dL_challenges_103 (by decide) ?_
          refine lv_iadd S.1 S.2.1 dL_challenges_104 ?_
          refine lv_istore (lv' := [(10, _), (11, _), (9, _), (8, _), (7, _), (6, _), (5, _), (4, _), (3, _), (2, _), (1, _), (0, _)]) S.1 S.2.1 dL_challenges_105 hl (by decide) rfl (fun ls hl => ?_)
          refine lv_iinc (k := 1) (lv' := [(11, _), (10, _), (9, _), (8, _), (7, _), (6, _), (5, _), (4, _), (3, _), (2, _), (1, _), (0, _)]) S.1 S.2.1 dL_challenges_107 hl rfl (g_inc _) (by decide) rfl (fun ls hl => ?_)
          refine lv_goto (tgt := 80) S.1 S.2.1 dL_challenges_110 (by decide) ?_
          have e : lNs s9 (k_80 + 1) = lNs s9 k_80 + 0 := by simp only [lNs, if_pos c_96]
          exact ih_80 hlt_80 _ _ _ G (by rw [e]; exact lv_sub hl [0, 1, 2, 3, 4, 5, 6, 7, 8, 9, 10, 11] rfl)
        · refine lv_iconst (v := 1) S.1 S.2.1 dL_challenges_99 (by decide) ?_
          refine lv_goto (tgt := 104) S.1 S.2.1 dL_challenges_100 (by decide) ?_
          refine lv_iadd S.1 S.2.1 dL_challenges_104 ?_
          refine lv_istore (lv' := [(10, _), (11, _), (9, _), (8, _), (7, _), (6, _), (5, _), (4, _), (3, _), (2, _), (1, _), (0, _)]) S.1 S.2.1 dL_challenges_105 hl (by decide) rfl (fun ls hl => ?_)
          refine lv_iinc (k := 1) (lv' := [(11, _), (10, _), (9, _), (8, _), (7, _), (6, _), (5, _), (4, _), (3, _), (2, _), (1, _), (0, _)]) S.1 S.2.1 dL_challenges_107 hl rfl (g_inc _) (by decide) rfl (fun ls hl => ?_)
          refine lv_goto (tgt := 80) S.1 S.2.1 dL_challenges_110 (by decide) ?_
          have e : lNs s9 (k_80 + 1) = lNs s9 k_80 + 1 := by simp only [lNs, if_neg c_96]
          exact ih_80 hlt_80 _ _ _ G (by rw [e]; exact lv_sub hl [0, 1, 2, 3, 4, 5, 6, 7, 8, 9, 10, 11] rfl)
