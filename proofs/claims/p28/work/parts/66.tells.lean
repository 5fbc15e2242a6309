/-! ===== the law tells ===== -/
set_option maxHeartbeats 4000000 in
set_option maxRecDepth 100000 in
theorem c_L_tells (l : Launch) (ids : gIds) (ad : gAd) (κ : gMem) (X Y : Nat) (hlf : l.stackTraces = false) (N B : Nat) (J : PL N B ids κ) (hN : N ≤ 61) (hX : X < 2 ^ 30) (hY : Y < 2 ^ 30)  : gMi l yL_tells wsL_tells ({ frames := 9, cells := 8, slots := 64, locals := 162 } : Room) 8 64 [.ref (ad 7 0), .int (nI X), .int (nI Y), .ref (ad 20 0), .ref (ad 21 0), .ref (ad 22 0)] (ids, ad, gk κ) (fun q u => q = 1 ∧ ∃ (ids' : gIds) (ad' : gAd) (κ' : gMem), u = (ids', ad', gk κ') ∧ PL (N + 1) B ids' κ' ∧ ad' 7 0 = ad 7 0 ∧ ad' 20 0 = ad 20 0 ∧ ad' 21 0 = ad 21 0 ∧ ad' 22 0 = ad 22 0) := by
  intro D aC A
  refine g_of (cc := cL_tells) (maxL := 13) (ret := (some .boolean)) (by decide +kernel) rfl (Nat.le_of_ble_eq_true rfl) ?_
  intro p e s m below meth c ls S G hF hr hlk hnm hl
  have hl : lv_has ls 13 [(0, _), (1, _), (2, _), (3, _), (4, _), (5, _)] := hl
  have hV := J.1.1
  have hW := J.1.2.1
  obtain ⟨h20, h21, h22⟩ := J.2.2.1
  obtain ⟨hn, hn80⟩ := hW.cnt
  have hI := J.1.2.2.1
  obtain ⟨T, eT⟩ : ∃ z, tN (κ 7 0 6) = z := ⟨_, rfl⟩
  obtain ⟨r, er⟩ : ∃ z, tN (κ 7 0 4) = z := ⟨_, rfl⟩
  have hr62 := J.2.2.2.1
  have h01 := J.1.T.2
  have hT7 : κ 7 0 6 = nI T := by rw [← eT]; exact J.1.T.1
  rw [er] at hn hn80 hr62
  rw [eT] at h01
  have hc0 := J.2.1.1
  have hc1 := J.2.1.2.1
  obtain ⟨t9, et⟩ : ∃ z, X % 12 = z := ⟨_, rfl⟩
  obtain ⟨y9, ey⟩ : ∃ z, Y % 100 = z := ⟨_, rfl⟩
  have ht9 : t9 < 12 := by omega
  have hy9 : y9 < 100 := by omega
  refine lv_iload_n S.1 S.2.1 dL_tells_0 rfl (lv_at hl 1 rfl) ?_
  refine lv_bipush (v := 12) S.1 S.2.1 dL_tells_1 (by decide) ?_
  refine lv_irem S.1 S.2.1 dL_tells_3 (by decide) ?_
  refine g_top ((jrem12 (by omega)).trans (congrArg nI et)) ?_
  refine lv_istore (lv' := [(6, _), (0, _), (1, _), (2, _), (3, _), (4, _), (5, _)]) S.1 S.2.1 dL_tells_4 hl (by decide) rfl (fun ls hl => ?_)
  refine lv_aload_n S.1 S.2.1 dL_tells_6 rfl (lv_at hl 1 rfl) ?_
  refine lv_iload S.1 S.2.1 dL_tells_7 (lv_at hl 0 rfl) ?_
  refine g_cVi S G hF hl 7 (hV 7 _ (by first | decide | (show _ < 1; omega))) (by decide) (c_X6_bondk l _ _ _ _ hV ht9) (cwV 1 S.2.2.2.2 gL_tells_X6_bond rfl rfl rfl (by decide +kernel) ⟨Nat.le_of_ble_eq_true rfl, Nat.le_of_ble_eq_true rfl⟩) rfl rfl (Nat.le_of_ble_eq_true rfl) dL_tells_9 ⟨Nat.le_of_ble_eq_true rfl, Nat.le_of_ble_eq_true rfl⟩ (fun r_9 u_9 H locs hp_9 G => ?_)
  obtain ⟨rfl, rfl⟩ := hp_9
  have G : gS D aC A s _ _ (gk _) H locs := G
  refine jnP (X := W p l e (headSpec wsL_tells ({ frames := 9, cells := 8, slots := 64, locals := 162 } : Room)).room s m ([.ref (ad 7 0), .int (nI X), .int (nI Y), .ref (ad 20 0), .ref (ad 21 0), .ref (ad 22 0)] : List Value).toArray below meth c H locs (0) (0) (MQ below (va_Qi (fun q u => q = 1 ∧ ∃ (ids' : gIds) (ad' : gAd) (κ' : gMem), u = (ids', ad', gk κ') ∧ PL (N + 1) B ids' κ' ∧ ad' 7 0 = ad 7 0 ∧ ad' 20 0 = ad 20 0 ∧ ad' 21 0 = ad 21 0 ∧ ad' 22 0 = ad 22 0) (gE D aC A) A) ([.ref (ad 7 0), .int (nI X), .int (nI Y), .ref (ad 20 0), .ref (ad 21 0), .ref (ad 22 0)] : List Value).toArray s 8 64 A) (F0 m 44 ls [])) (sTellT κ (nI t9) (nI y9) = 3) (fun K44 => ?_) (fun hT3 => ?_)
  · refine lv_bipush (v := 20) S.1 S.2.1 dL_tells_12 (by decide) ?_
    refine lv_icmp_lt (tgt := 44) S.1 S.2.1 dL_tells_14 (by decide) (fun c_14 => ?_) (fun c_14 => ?_)
    · exact K44 (by rw [tellT_at ht9 hy9, if_pos c_14])
    · refine lv_aload S.1 S.2.1 dL_tells_17 (lv_at hl 6 rfl) ?_
      refine lv_iload S.1 S.2.1 dL_tells_19 (lv_at hl 0 rfl) ?_
      refine k_iald S G 22 h22 rfl rfl rfl rfl (show t9 < 12 by omega) dL_tells_21 ?_
      refine g_top (J.2.1.2.2.1 t9 ht9) ?_
      refine lv_aload S.1 S.2.1 dL_tells_22 (lv_at hl 5 rfl) ?_
      refine lv_iconst (v := 0) S.1 S.2.1 dL_tells_24 (by decide) ?_
      refine k_iald S G 21 h21 rfl rfl rfl rfl (show 0 < 2 by decide) dL_tells_25 ?_
      refine g_top hc0 ?_
      refine lv_iconst (v := 1) S.1 S.2.1 dL_tells_26 (by decide) ?_
      refine lv_iadd S.1 S.2.1 dL_tells_27 ?_
      refine lv_icmp_eq (tgt := 44) S.1 S.2.1 dL_tells_28 (by decide) (fun c_28 => ?_) (fun c_28 => ?_)
      · exact K44 (by rw [tellT_at ht9 hy9, if_neg c_14, if_pos (show κ 5 t9 6 = κ 7 0 6 by have := c_28; grind)])
      · refine lv_aload S.1 S.2.1 dL_tells_31 (lv_at hl 5 rfl) ?_
        refine lv_iconst (v := 1) S.1 S.2.1 dL_tells_33 (by decide) ?_
        refine k_iald S G 21 h21 rfl rfl rfl rfl (show 1 < 2 by decide) dL_tells_34 ?_
        refine g_top (hc1.trans hn) ?_
        refine lv_bipush (v := 80) S.1 S.2.1 dL_tells_35 (by decide) ?_
        refine lv_icmp_ge (tgt := 44) S.1 S.2.1 dL_tells_37 (by decide) (fun c_37 => ?_) (fun c_37 => ?_)
        · exact absurd ((nI_leI (a := 80) (b := r) (by decide) (by omega)).mp c_37) (by omega)
        · have hT0 : sTellT κ (nI t9) (nI y9) = 0 := by rw [tellT_at ht9 hy9, if_neg c_14, if_neg (show ¬ κ 5 t9 6 = κ 7 0 6 from fun z => c_28 (by rw [z])), hn, if_pos (show nI r < 80 from (nI_ltI (a := r) (b := 80) (by omega) (by decide)).mpr (by omega))]
          refine lv_iconst (v := 1) S.1 S.2.1 dL_tells_40 (by decide) ?_
          refine lv_goto (tgt := 45) S.1 S.2.1 dL_tells_41 (by decide) ?_
          refine lv_istore (lv' := [(7, _), (6, _), (0, _), (1, _), (2, _), (3, _), (4, _), (5, _)]) S.1 S.2.1 dL_tells_45 hl (by decide) rfl (fun ls hl => ?_)
          refine lv_iconst (v := 0) S.1 S.2.1 dL_tells_47 (by decide) ?_
          refine lv_istore (lv' := [(8, _), (7, _), (6, _), (0, _), (1, _), (2, _), (3, _), (4, _), (5, _)]) S.1 S.2.1 dL_tells_48 hl (by decide) rfl (fun ls hl => ?_)
          refine lv_iconst (v := 0) S.1 S.2.1 dL_tells_50 (by decide) ?_
          refine lv_istore (lv' := [(9, _), (8, _), (7, _), (6, _), (0, _), (1, _), (2, _), (3, _), (4, _), (5, _)]) S.1 S.2.1 dL_tells_51 hl (by decide) rfl (fun ls hl => ?_)
          refine lv_iconst (v := 0) S.1 S.2.1 dL_tells_53 (by decide) ?_
          refine lv_istore (lv' := [(10, _), (9, _), (8, _), (7, _), (6, _), (0, _), (1, _), (2, _), (3, _), (4, _), (5, _)]) S.1 S.2.1 dL_tells_54 hl (by decide) rfl (fun ls hl => ?_)
          refine g_forg 6 (fun k_56 => [(10, .int (nI k_56)), (9, .int (asd κ t9 k_56)), (8, .int (lwO κ t9 k_56)), (7, .int 1), (6, .int (nI t9)), (5, .ref (ad 22 0)), (4, .ref (ad 21 0)), (3, .ref (ad 20 0)), (2, .int (nI Y)), (1, .int (nI X)), (0, .ref (ad 7 0))]) ?_ G (lv_sub hl [0, 1, 2, 3, 4, 10, 9, 8, 7, 6, 5] rfl)
          intro k_56 H locs ls hk_56 G hl ih_56
          have hl : lv_has ls 13 [(10, _), (9, _), (8, _), (7, _), (6, _), (5, _), (4, _), (3, _), (2, _), (1, _), (0, _)] := hl
          refine lv_iload S.1 S.2.1 dL_tells_56 (lv_at hl 0 rfl) ?_
          refine lv_bipush (v := 6) S.1 S.2.1 dL_tells_58 (by decide) ?_
          refine lv_icmp_ge (tgt := 103) S.1 S.2.1 dL_tells_60 (by decide) (fun c_60 => ?_) (fun c_60 => ?_)
          · have hkN_56 : k_56 = 6 := g_exit c_60 hk_56 (by omega)
            subst hkN_56
            refine lv_aload_n S.1 S.2.1 dL_tells_103 rfl (lv_at hl 10 rfl) ?_
            refine lv_iconst (v := 0) S.1 S.2.1 dL_tells_104 (by decide) ?_
            refine lv_iload S.1 S.2.1 dL_tells_105 (lv_at hl 4 rfl) ?_
            refine lv_iload_n S.1 S.2.1 dL_tells_107 rfl (lv_at hl 8 rfl) ?_
            refine lv_bipush (v := 100) S.1 S.2.1 dL_tells_108 (by decide) ?_
            refine lv_irem S.1 S.2.1 dL_tells_110 (by decide) ?_
            refine g_top ((jrem100 (by omega)).trans (congrArg nI ey)) ?_
            refine lv_iconst (v := 0) S.1 S.2.1 dL_tells_111 (by decide) ?_
            have hno : ¬ sTellT κ (nI t9) (nI y9) = 2 := by rw [hT0]; decide
            refine g_cSWi S G hF hl (c_L_asks_tell l hlf ids ad _ _ _ _ hV hW hI hno) (vx_cwSW 5 S.2.2.2.2 gL_tells_L_asks rfl rfl rfl (by decide +kernel) ⟨Nat.le_of_ble_eq_true rfl, Nat.le_of_ble_eq_true rfl⟩) rfl rfl (Nat.le_of_ble_eq_true rfl) dL_tells_112 ⟨Nat.le_of_ble_eq_true rfl, Nat.le_of_ble_eq_true rfl⟩ (fun r9 u9 H locs hp G => ?_)
            obtain ⟨rfl, q1, q2, rfl⟩ := or3_0 hp hT0
            have G : gS D aC A s _ _ (gk _) H locs := G
            rw [tN_nI (show t9 < 2 ^ 31 by omega), er] at G
            obtain ⟨S, hS, s3, J2, s74, s210, s211, J5, u6, u7⟩ := J.tell ht9 hy9 hT0 er eT
            obtain ⟨ids2, ei⟩ : ∃ z, (ids ++ [(3, r)]) ++ [(15, r)] = z := ⟨_, rfl⟩
            rw [ei] at G J2 J5
            obtain ⟨ad2, ea⟩ : ∃ z, updA (updA ad 3 r q1) 15 r q2 = z := ⟨_, rfl⟩
            have a7 : ad2 7 0 = ad 7 0 := by rw [← ea]; rfl
            have a20 : ad2 20 0 = ad 20 0 := by rw [← ea]; rfl
            have a21 : ad2 21 0 = ad 21 0 := by rw [← ea]; rfl
            have a22 : ad2 22 0 = ad 22 0 := by rw [← ea]; rfl
            rw [ea] at G
            rw [← a7, ← a20, ← a21, ← a22] at hl
            obtain ⟨κ2, ek⟩ : ∃ z, sTellK κ t9 r (nI y9) = z := ⟨_, rfl⟩
            rw [ek] at G J2 J5 s3 s74 s210 s211 u6 u7
            have hV := J2.1
            have hW2 := J2.2.1
            obtain ⟨h20, h21, h22⟩ := J5.2.2.1
            rcases hS with rfl | rfl
            · refine g_top hn ?_
              refine lv_istore (lv' := [(10, _), (9, _), (8, _), (7, _), (6, _), (5, _), (4, _), (3, _), (2, _), (1, _), (0, _)]) S.1 S.2.1 dL_tells_115 hl (by decide) rfl (fun ls hl => ?_)
              refine lv_iload S.1 S.2.1 dL_tells_117 (lv_at hl 3 rfl) ?_
              refine lv_if_ne (tgt := 135) S.1 S.2.1 dL_tells_119 (by decide) (fun c_119 => ?_) (fun c_119 => ?_)
              · refine lv_aload S.1 S.2.1 dL_tells_135 (lv_at hl 5 rfl) ?_
                refine lv_iload S.1 S.2.1 dL_tells_137 (lv_at hl 4 rfl) ?_
                refine lv_aload S.1 S.2.1 dL_tells_139 (lv_at hl 6 rfl) ?_
                refine lv_iconst (v := 0) S.1 S.2.1 dL_tells_141 (by decide) ?_
                refine k_iald S G 21 h21 rfl rfl rfl rfl (show 0 < 2 by decide) dL_tells_142 ?_
                refine g_top s210 ?_
                refine lv_iconst (v := 1) S.1 S.2.1 dL_tells_143 (by decide) ?_
                refine lv_iadd S.1 S.2.1 dL_tells_144 ?_
                refine k_iast S G 22 h22 rfl rfl rfl rfl (show t9 < 12 by omega) dL_tells_145 (fun H locs G => ?_)
                have hW3 := hW2.upd (f := 22) (i := 0) (k := t9) (x := nI T + 1) rfl
                have hr3 : r < tN (upd3 κ2 22 0 t9 (nI T + 1) 7 0 4) := by rw [upd3_f (by decide), s74, tN_nI (by omega)]; omega
                refine lv_aload_n S.1 S.2.1 dL_tells_146 rfl (lv_at hl 7 rfl) ?_
                refine lv_aload S.1 S.2.1 dL_tells_147 (lv_at hl 6 rfl) ?_
                refine lv_iconst (v := 1) S.1 S.2.1 dL_tells_149 (by decide) ?_
                refine k_iald S G 21 h21 rfl rfl rfl rfl (show 1 < 2 by decide) dL_tells_150 ?_
                refine g_top (show _ = nI r from s211) ?_
                refine lv_iload S.1 S.2.1 dL_tells_151 (lv_at hl 4 rfl) ?_
                refine lv_iload_n S.1 S.2.1 dL_tells_153 rfl (lv_at hl 8 rfl) ?_
                refine lv_bipush (v := 100) S.1 S.2.1 dL_tells_154 (by decide) ?_
                refine lv_irem S.1 S.2.1 dL_tells_156 (by decide) ?_
                refine g_top ((jrem100 (by omega)).trans (congrArg nI ey)) ?_
                refine lv_iconst (v := 4) S.1 S.2.1 dL_tells_157 (by decide) ?_
                refine lv_ishl S.1 S.2.1 dL_tells_158 ?_
                refine lv_ior S.1 S.2.1 dL_tells_159 ?_
                refine lv_aload_n S.1 S.2.1 dL_tells_160 rfl (lv_at hl 10 rfl) ?_
                refine lv_aload S.1 S.2.1 dL_tells_161 (lv_at hl 6 rfl) ?_
                refine lv_iconst (v := 1) S.1 S.2.1 dL_tells_163 (by decide) ?_
                refine k_iald S G 21 h21 rfl rfl rfl rfl (show 1 < 2 by decide) dL_tells_164 ?_
                refine g_top (show _ = nI r from s211) ?_
                refine g_cVi S G hF hl 7 (hV 7 _ (by first | decide | (show _ < 1; omega))) (by decide) (c_X6_stateOfk l _ _ _ _ hV hW3 hr3) (cwV 1 S.2.2.2.2 gL_tells_X6_stateOf rfl rfl rfl (by decide +kernel) ⟨Nat.le_of_ble_eq_true rfl, Nat.le_of_ble_eq_true rfl⟩) rfl rfl (Nat.le_of_ble_eq_true rfl) dL_tells_165 ⟨Nat.le_of_ble_eq_true rfl, Nat.le_of_ble_eq_true rfl⟩ (fun r_165 u_165 H locs hp_165 G => ?_)
                obtain ⟨rfl, rfl⟩ := hp_165
                have G : gS D aC A s _ _ (gk _) H locs := G
                refine g_top (show _ = nI 0 from s3) ?_
                refine lv_bipush (v := 11) S.1 S.2.1 dL_tells_168 (by decide) ?_
                refine lv_ishl S.1 S.2.1 dL_tells_170 ?_
                refine lv_ior S.1 S.2.1 dL_tells_171 ?_
                refine lv_aload S.1 S.2.1 dL_tells_172 (lv_at hl 6 rfl) ?_
                refine lv_iconst (v := 0) S.1 S.2.1 dL_tells_174 (by decide) ?_
                refine k_iald S G 21 h21 rfl rfl rfl rfl (show 0 < 2 by decide) dL_tells_175 ?_
                refine g_top (show _ = nI T from s210) ?_
                refine lv_bipush (v := 14) S.1 S.2.1 dL_tells_176 (by decide) ?_
                refine lv_ishl S.1 S.2.1 dL_tells_178 ?_
                refine lv_ior S.1 S.2.1 dL_tells_179 ?_
                refine g_top (enc_tell (by omega) (by decide) (by omega) (by omega)) ?_
                refine k_iast S G 20 h20 rfl rfl rfl rfl (show r < 64 by omega) dL_tells_180 (fun H locs G => ?_)
                refine lv_aload S.1 S.2.1 dL_tells_181 (lv_at hl 6 rfl) ?_
                refine lv_iconst (v := 1) S.1 S.2.1 dL_tells_183 (by decide) ?_
                refine lv_dup2_11 S.1 S.2.1 dL_tells_184 rfl rfl ?_
                refine k_iald S G 21 h21 rfl rfl rfl rfl (show 1 < 2 by decide) dL_tells_185 ?_
                refine g_top (show _ = nI r from s211) ?_
                refine lv_iconst (v := 1) S.1 S.2.1 dL_tells_186 (by decide) ?_
                refine lv_iadd S.1 S.2.1 dL_tells_187 ?_
                refine g_top (nI_1 r) ?_
                refine k_iast S G 21 h21 rfl rfl rfl rfl (show 1 < 2 by decide) dL_tells_188 (fun H locs G => ?_)
                obtain ⟨κ5, e5⟩ : ∃ z, upd3 (upd3 (upd3 κ2 22 0 t9 (nI T + 1)) 20 0 r (nI (enc T 0 y9 t9))) 21 0 1 (nI (r + 1)) = z := ⟨_, rfl⟩
                rw [e5] at G J5
                have hW := J5.1.2.1
                have hn5 : κ5 7 0 4 = nI (r + 1) := by rw [← e5]; exact s74
                have hc15 := J5.2.1.2.1
                have hr5 : r < tN (κ5 7 0 4) := by rw [hn5, tN_nI (by omega)]; omega
                have as5 : ∀ b, sAside κ5 b t9 = sAside κ2 b t9 := fun b => by rw [← e5]; rfl
                have hU : κ5 3 r 6 = lwO κ t9 6 := by rw [← e5]; exact u6
                have hHd : κ5 3 r 7 = asd κ t9 6 - asd κ5 t9 6 := by
                  rw [asd_congr 6 (fun b _ => as5 b), ← e5]; exact u7
                refine lv_iconst (v := 0) S.1 S.2.1 dL_tells_189 (by decide) ?_
                refine lv_istore (lv' := [(11, _), (10, _), (9, _), (8, _), (7, _), (6, _), (5, _), (4, _), (3, _), (2, _), (1, _), (0, _)]) S.1 S.2.1 dL_tells_190 hl (by decide) rfl (fun ls hl => ?_)
                refine lv_iconst (v := 0) S.1 S.2.1 dL_tells_192 (by decide) ?_
                refine lv_istore (lv' := [(12, _), (11, _), (10, _), (9, _), (8, _), (7, _), (6, _), (5, _), (4, _), (3, _), (2, _), (1, _), (0, _)]) S.1 S.2.1 dL_tells_193 hl (by decide) rfl (fun ls hl => ?_)
                refine g_forg 6 (fun k_195 => [(12, .int (nI k_195)), (11, .int (asd κ5 t9 k_195)), (10, .int (nI r)), (9, .int (asd κ t9 6)), (8, .int (lwO κ t9 6)), (7, .int 1), (6, .int (nI t9)), (5, .ref (ad2 22 0)), (4, .ref (ad2 21 0)), (3, .ref (ad2 20 0)), (2, .int (nI Y)), (1, .int (nI X)), (0, .ref (ad2 7 0))]) ?_ G (lv_sub hl [0, 1, 2, 3, 4, 5, 6, 7, 8, 9, 10, 11, 12] rfl)
                intro k_195 H locs ls hk_195 G hl ih_195
                have hl : lv_has ls 13 [(12, _), (11, _), (10, _), (9, _), (8, _), (7, _), (6, _), (5, _), (4, _), (3, _), (2, _), (1, _), (0, _)] := hl
                refine lv_iload S.1 S.2.1 dL_tells_195 (lv_at hl 0 rfl) ?_
                refine lv_bipush (v := 6) S.1 S.2.1 dL_tells_197 (by decide) ?_
                refine lv_icmp_ge (tgt := 221) S.1 S.2.1 dL_tells_199 (by decide) (fun c_199 => ?_) (fun c_199 => ?_)
                · have hkN_195 : k_195 = 6 := g_exit c_199 hk_195 (by omega)
                  subst hkN_195
                  refine lv_aload_n S.1 S.2.1 dL_tells_221 rfl (lv_at hl 12 rfl) ?_
                  refine lv_iload S.1 S.2.1 dL_tells_222 (lv_at hl 2 rfl) ?_
                  refine g_cVi S G hF hl 7 (hV 7 _ (by first | decide | (show _ < 1; omega))) (by decide) (c_X6_stateOfk l _ _ _ _ hV hW hr5) (cwV 1 S.2.2.2.2 gL_tells_X6_stateOf rfl rfl rfl (by decide +kernel) ⟨Nat.le_of_ble_eq_true rfl, Nat.le_of_ble_eq_true rfl⟩) rfl rfl (Nat.le_of_ble_eq_true rfl) dL_tells_224 ⟨Nat.le_of_ble_eq_true rfl, Nat.le_of_ble_eq_true rfl⟩ (fun r_224 u_224 H locs hp_224 G => ?_)
                  obtain ⟨rfl, rfl⟩ := hp_224
                  have G : gS D aC A s _ _ (gk _) H locs := G
                  refine g_top (show _ = (0 : Int32) from by rw [← e5]; exact s3) ?_
                  refine lv_if_ne (tgt := 234) S.1 S.2.1 dL_tells_227 (by decide) (fun c_227 => ?_) (fun c_227 => ?_)
                  · exact absurd c_227 (by decide)
                  · refine lv_iconst (v := 1) S.1 S.2.1 dL_tells_230 (by decide) ?_
                    refine lv_goto (tgt := 235) S.1 S.2.1 dL_tells_231 (by decide) ?_
                    refine lv_istore (lv' := [(12, _), (11, _), (10, _), (9, _), (8, _), (7, _), (6, _), (5, _), (4, _), (3, _), (2, _), (1, _), (0, _)]) S.1 S.2.1 dL_tells_235 hl (by decide) rfl (fun ls hl => ?_)
                    refine lv_iload S.1 S.2.1 dL_tells_237 (lv_at hl 2 rfl) ?_
                    refine lv_aload S.1 S.2.1 dL_tells_239 (lv_at hl 8 rfl) ?_
                    refine lv_iconst (v := 1) S.1 S.2.1 dL_tells_241 (by decide) ?_
                    refine k_iald S G 21 h21 rfl rfl rfl rfl (show 1 < 2 by decide) dL_tells_242 ?_
                    refine g_top (hc15.trans hn5) ?_
                    refine lv_iconst (v := 1) S.1 S.2.1 dL_tells_243 (by decide) ?_
                    refine lv_isub S.1 S.2.1 dL_tells_244 ?_
                    refine g_top (nI_pred r) ?_
                    refine lv_icmp_ne (tgt := 301) S.1 S.2.1 dL_tells_245 (by decide) (fun c_245 => ?_) (fun c_245 => ?_)
                    · exact absurd rfl c_245
                    · refine lv_iload S.1 S.2.1 dL_tells_248 (lv_at hl 0 rfl) ?_
                      refine lv_if_ne (tgt := 263) S.1 S.2.1 dL_tells_250 (by decide) (fun c_250 => ?_) (fun c_250 => ?_)
                      · refine lv_aload_n S.1 S.2.1 dL_tells_263 rfl (lv_at hl 12 rfl) ?_
                        refine lv_iload S.1 S.2.1 dL_tells_264 (lv_at hl 2 rfl) ?_
                        refine g_cVi S G hF hl 7 (hV 7 _ (by first | decide | (show _ < 1; omega))) (by decide) (c_X6_usersk l _ _ _ _ hV hW hr5) (cwV 1 S.2.2.2.2 gL_tells_X6_users rfl rfl rfl (by decide +kernel) ⟨Nat.le_of_ble_eq_true rfl, Nat.le_of_ble_eq_true rfl⟩) rfl rfl (Nat.le_of_ble_eq_true rfl) dL_tells_266 ⟨Nat.le_of_ble_eq_true rfl, Nat.le_of_ble_eq_true rfl⟩ (fun r_266 u_266 H locs hp_266 G => ?_)
                        obtain ⟨rfl, rfl⟩ := hp_266
                        have G : gS D aC A s _ _ (gk _) H locs := G
                        refine g_top hU ?_
                        refine lv_iload S.1 S.2.1 dL_tells_269 (lv_at hl 0 rfl) ?_
                        refine lv_if_eq (tgt := 279) S.1 S.2.1 dL_tells_271 (by decide) (fun c_271 => ?_) (fun c_271 => ?_)
                        · exact absurd c_271 (by decide)
                        · refine lv_iload S.1 S.2.1 dL_tells_274 (lv_at hl 4 rfl) ?_
                          refine lv_goto (tgt := 280) S.1 S.2.1 dL_tells_276 (by decide) ?_
                          refine lv_icmp_ne (tgt := 301) S.1 S.2.1 dL_tells_280 (by decide) (fun c_280 => ?_) (fun c_280 => ?_)
                          · exact absurd rfl c_280
                          · refine lv_aload_n S.1 S.2.1 dL_tells_283 rfl (lv_at hl 12 rfl) ?_
                            refine lv_iload S.1 S.2.1 dL_tells_284 (lv_at hl 2 rfl) ?_
                            refine g_cVi S G hF hl 7 (hV 7 _ (by first | decide | (show _ < 1; omega))) (by decide) (c_X6_heldk l _ _ _ _ hV hW hr5) (cwV 1 S.2.2.2.2 gL_tells_X6_held rfl rfl rfl (by decide +kernel) ⟨Nat.le_of_ble_eq_true rfl, Nat.le_of_ble_eq_true rfl⟩) rfl rfl (Nat.le_of_ble_eq_true rfl) dL_tells_286 ⟨Nat.le_of_ble_eq_true rfl, Nat.le_of_ble_eq_true rfl⟩ (fun r_286 u_286 H locs hp_286 G => ?_)
                            obtain ⟨rfl, rfl⟩ := hp_286
                            have G : gS D aC A s _ _ (gk _) H locs := G
                            refine g_top hHd ?_
                            refine lv_iload S.1 S.2.1 dL_tells_289 (lv_at hl 3 rfl) ?_
                            refine lv_iload S.1 S.2.1 dL_tells_291 (lv_at hl 1 rfl) ?_
                            refine lv_isub S.1 S.2.1 dL_tells_293 ?_
                            refine lv_icmp_ne (tgt := 301) S.1 S.2.1 dL_tells_294 (by decide) (fun c_294 => ?_) (fun c_294 => ?_)
                            · exact absurd rfl c_294
                            · refine lv_iconst (v := 1) S.1 S.2.1 dL_tells_297 (by decide) ?_
                              refine lv_goto (tgt := 302) S.1 S.2.1 dL_tells_298 (by decide) ?_
                              exact g_zret S G hr hlk (by decide) (⟨rfl, ids2, ad2, κ5, rfl, J5, a7, a20, a21, a22⟩) (Nat.le_of_ble_eq_true rfl) (Nat.le_of_ble_eq_true rfl) dL_tells_302
                      · exact absurd c_250 (by decide)
                · have hlt_195 : k_195 < 6 := g_stay c_199 hk_195 (by omega)
                  refine lv_iload S.1 S.2.1 dL_tells_202 (lv_at hl 1 rfl) ?_
                  refine lv_aload_n S.1 S.2.1 dL_tells_204 rfl (lv_at hl 12 rfl) ?_
                  refine lv_iload S.1 S.2.1 dL_tells_205 (lv_at hl 0 rfl) ?_
                  refine lv_iload S.1 S.2.1 dL_tells_207 (lv_at hl 6 rfl) ?_
                  refine g_cVi S G hF hl 7 (hV 7 _ (by first | decide | (show _ < 1; omega))) (by decide) (c_X6_asidek l _ _ _ _ _ hV hW hlt_195 ht9) (cwV 2 S.2.2.2.2 gL_tells_X6_aside rfl rfl rfl (by decide +kernel) ⟨Nat.le_of_ble_eq_true rfl, Nat.le_of_ble_eq_true rfl⟩) rfl rfl (Nat.le_of_ble_eq_true rfl) dL_tells_209 ⟨Nat.le_of_ble_eq_true rfl, Nat.le_of_ble_eq_true rfl⟩ (fun r_209 u_209 H locs hp_209 G => ?_)
                  obtain ⟨rfl, rfl⟩ := hp_209
                  have G : gS D aC A s _ _ (gk _) H locs := G
                  refine lv_iadd S.1 S.2.1 dL_tells_212 ?_
                  refine lv_istore (lv' := [(11, _), (12, _), (10, _), (9, _), (8, _), (7, _), (6, _), (5, _), (4, _), (3, _), (2, _), (1, _), (0, _)]) S.1 S.2.1 dL_tells_213 hl (by decide) rfl (fun ls hl => ?_)
                  refine lv_iinc (k := 1) (lv' := [(12, _), (11, _), (10, _), (9, _), (8, _), (7, _), (6, _), (5, _), (4, _), (3, _), (2, _), (1, _), (0, _)]) S.1 S.2.1 dL_tells_215 hl rfl (g_inc _) (by decide) rfl (fun ls hl => ?_)
                  refine lv_goto (tgt := 195) S.1 S.2.1 dL_tells_218 (by decide) ?_
                  exact ih_195 hlt_195 _ _ _ G (lv_sub hl [0, 1, 2, 3, 4, 5, 6, 7, 8, 9, 10, 11, 12] rfl)
              · exact absurd c_119 (by decide)
            · refine g_top hn ?_
              refine lv_istore (lv' := [(10, _), (9, _), (8, _), (7, _), (6, _), (5, _), (4, _), (3, _), (2, _), (1, _), (0, _)]) S.1 S.2.1 dL_tells_115 hl (by decide) rfl (fun ls hl => ?_)
              refine lv_iload S.1 S.2.1 dL_tells_117 (lv_at hl 3 rfl) ?_
              refine lv_if_ne (tgt := 135) S.1 S.2.1 dL_tells_119 (by decide) (fun c_119 => ?_) (fun c_119 => ?_)
              · refine lv_aload S.1 S.2.1 dL_tells_135 (lv_at hl 5 rfl) ?_
                refine lv_iload S.1 S.2.1 dL_tells_137 (lv_at hl 4 rfl) ?_
                refine lv_aload S.1 S.2.1 dL_tells_139 (lv_at hl 6 rfl) ?_
                refine lv_iconst (v := 0) S.1 S.2.1 dL_tells_141 (by decide) ?_
                refine k_iald S G 21 h21 rfl rfl rfl rfl (show 0 < 2 by decide) dL_tells_142 ?_
                refine g_top s210 ?_
                refine lv_iconst (v := 1) S.1 S.2.1 dL_tells_143 (by decide) ?_
                refine lv_iadd S.1 S.2.1 dL_tells_144 ?_
                refine k_iast S G 22 h22 rfl rfl rfl rfl (show t9 < 12 by omega) dL_tells_145 (fun H locs G => ?_)
                have hW3 := hW2.upd (f := 22) (i := 0) (k := t9) (x := nI T + 1) rfl
                have hr3 : r < tN (upd3 κ2 22 0 t9 (nI T + 1) 7 0 4) := by rw [upd3_f (by decide), s74, tN_nI (by omega)]; omega
                refine lv_aload_n S.1 S.2.1 dL_tells_146 rfl (lv_at hl 7 rfl) ?_
                refine lv_aload S.1 S.2.1 dL_tells_147 (lv_at hl 6 rfl) ?_
                refine lv_iconst (v := 1) S.1 S.2.1 dL_tells_149 (by decide) ?_
                refine k_iald S G 21 h21 rfl rfl rfl rfl (show 1 < 2 by decide) dL_tells_150 ?_
                refine g_top (show _ = nI r from s211) ?_
                refine lv_iload S.1 S.2.1 dL_tells_151 (lv_at hl 4 rfl) ?_
                refine lv_iload_n S.1 S.2.1 dL_tells_153 rfl (lv_at hl 8 rfl) ?_
                refine lv_bipush (v := 100) S.1 S.2.1 dL_tells_154 (by decide) ?_
                refine lv_irem S.1 S.2.1 dL_tells_156 (by decide) ?_
                refine g_top ((jrem100 (by omega)).trans (congrArg nI ey)) ?_
                refine lv_iconst (v := 4) S.1 S.2.1 dL_tells_157 (by decide) ?_
                refine lv_ishl S.1 S.2.1 dL_tells_158 ?_
                refine lv_ior S.1 S.2.1 dL_tells_159 ?_
                refine lv_aload_n S.1 S.2.1 dL_tells_160 rfl (lv_at hl 10 rfl) ?_
                refine lv_aload S.1 S.2.1 dL_tells_161 (lv_at hl 6 rfl) ?_
                refine lv_iconst (v := 1) S.1 S.2.1 dL_tells_163 (by decide) ?_
                refine k_iald S G 21 h21 rfl rfl rfl rfl (show 1 < 2 by decide) dL_tells_164 ?_
                refine g_top (show _ = nI r from s211) ?_
                refine g_cVi S G hF hl 7 (hV 7 _ (by first | decide | (show _ < 1; omega))) (by decide) (c_X6_stateOfk l _ _ _ _ hV hW3 hr3) (cwV 1 S.2.2.2.2 gL_tells_X6_stateOf rfl rfl rfl (by decide +kernel) ⟨Nat.le_of_ble_eq_true rfl, Nat.le_of_ble_eq_true rfl⟩) rfl rfl (Nat.le_of_ble_eq_true rfl) dL_tells_165 ⟨Nat.le_of_ble_eq_true rfl, Nat.le_of_ble_eq_true rfl⟩ (fun r_165 u_165 H locs hp_165 G => ?_)
                obtain ⟨rfl, rfl⟩ := hp_165
                have G : gS D aC A s _ _ (gk _) H locs := G
                refine g_top (show _ = nI 4 from s3) ?_
                refine lv_bipush (v := 11) S.1 S.2.1 dL_tells_168 (by decide) ?_
                refine lv_ishl S.1 S.2.1 dL_tells_170 ?_
                refine lv_ior S.1 S.2.1 dL_tells_171 ?_
                refine lv_aload S.1 S.2.1 dL_tells_172 (lv_at hl 6 rfl) ?_
                refine lv_iconst (v := 0) S.1 S.2.1 dL_tells_174 (by decide) ?_
                refine k_iald S G 21 h21 rfl rfl rfl rfl (show 0 < 2 by decide) dL_tells_175 ?_
                refine g_top (show _ = nI T from s210) ?_
                refine lv_bipush (v := 14) S.1 S.2.1 dL_tells_176 (by decide) ?_
                refine lv_ishl S.1 S.2.1 dL_tells_178 ?_
                refine lv_ior S.1 S.2.1 dL_tells_179 ?_
                refine g_top (enc_tell (by omega) (by decide) (by omega) (by omega)) ?_
                refine k_iast S G 20 h20 rfl rfl rfl rfl (show r < 64 by omega) dL_tells_180 (fun H locs G => ?_)
                refine lv_aload S.1 S.2.1 dL_tells_181 (lv_at hl 6 rfl) ?_
                refine lv_iconst (v := 1) S.1 S.2.1 dL_tells_183 (by decide) ?_
                refine lv_dup2_11 S.1 S.2.1 dL_tells_184 rfl rfl ?_
                refine k_iald S G 21 h21 rfl rfl rfl rfl (show 1 < 2 by decide) dL_tells_185 ?_
                refine g_top (show _ = nI r from s211) ?_
                refine lv_iconst (v := 1) S.1 S.2.1 dL_tells_186 (by decide) ?_
                refine lv_iadd S.1 S.2.1 dL_tells_187 ?_
                refine g_top (nI_1 r) ?_
                refine k_iast S G 21 h21 rfl rfl rfl rfl (show 1 < 2 by decide) dL_tells_188 (fun H locs G => ?_)
                obtain ⟨κ5, e5⟩ : ∃ z, upd3 (upd3 (upd3 κ2 22 0 t9 (nI T + 1)) 20 0 r (nI (enc T 4 y9 t9))) 21 0 1 (nI (r + 1)) = z := ⟨_, rfl⟩
                rw [e5] at G J5
                have hW := J5.1.2.1
                have hn5 : κ5 7 0 4 = nI (r + 1) := by rw [← e5]; exact s74
                have hc15 := J5.2.1.2.1
                have hr5 : r < tN (κ5 7 0 4) := by rw [hn5, tN_nI (by omega)]; omega
                have as5 : ∀ b, sAside κ5 b t9 = sAside κ2 b t9 := fun b => by rw [← e5]; rfl
                have hU : κ5 3 r 6 = 0 := by rw [← e5]; exact u6
                have hHd : κ5 3 r 7 = asd κ t9 6 - asd κ5 t9 6 := by
                  rw [asd_congr 6 (fun b _ => as5 b), ← e5]; exact u7
                refine lv_iconst (v := 0) S.1 S.2.1 dL_tells_189 (by decide) ?_
                refine lv_istore (lv' := [(11, _), (10, _), (9, _), (8, _), (7, _), (6, _), (5, _), (4, _), (3, _), (2, _), (1, _), (0, _)]) S.1 S.2.1 dL_tells_190 hl (by decide) rfl (fun ls hl => ?_)
                refine lv_iconst (v := 0) S.1 S.2.1 dL_tells_192 (by decide) ?_
                refine lv_istore (lv' := [(12, _), (11, _), (10, _), (9, _), (8, _), (7, _), (6, _), (5, _), (4, _), (3, _), (2, _), (1, _), (0, _)]) S.1 S.2.1 dL_tells_193 hl (by decide) rfl (fun ls hl => ?_)
                refine g_forg 6 (fun k_195 => [(12, .int (nI k_195)), (11, .int (asd κ5 t9 k_195)), (10, .int (nI r)), (9, .int (asd κ t9 6)), (8, .int (lwO κ t9 6)), (7, .int 1), (6, .int (nI t9)), (5, .ref (ad2 22 0)), (4, .ref (ad2 21 0)), (3, .ref (ad2 20 0)), (2, .int (nI Y)), (1, .int (nI X)), (0, .ref (ad2 7 0))]) ?_ G (lv_sub hl [0, 1, 2, 3, 4, 5, 6, 7, 8, 9, 10, 11, 12] rfl)
                intro k_195 H locs ls hk_195 G hl ih_195
                have hl : lv_has ls 13 [(12, _), (11, _), (10, _), (9, _), (8, _), (7, _), (6, _), (5, _), (4, _), (3, _), (2, _), (1, _), (0, _)] := hl
                refine lv_iload S.1 S.2.1 dL_tells_195 (lv_at hl 0 rfl) ?_
                refine lv_bipush (v := 6) S.1 S.2.1 dL_tells_197 (by decide) ?_
                refine lv_icmp_ge (tgt := 221) S.1 S.2.1 dL_tells_199 (by decide) (fun c_199 => ?_) (fun c_199 => ?_)
                · have hkN_195 : k_195 = 6 := g_exit c_199 hk_195 (by omega)
                  subst hkN_195
                  refine lv_aload_n S.1 S.2.1 dL_tells_221 rfl (lv_at hl 12 rfl) ?_
                  refine lv_iload S.1 S.2.1 dL_tells_222 (lv_at hl 2 rfl) ?_
                  refine g_cVi S G hF hl 7 (hV 7 _ (by first | decide | (show _ < 1; omega))) (by decide) (c_X6_stateOfk l _ _ _ _ hV hW hr5) (cwV 1 S.2.2.2.2 gL_tells_X6_stateOf rfl rfl rfl (by decide +kernel) ⟨Nat.le_of_ble_eq_true rfl, Nat.le_of_ble_eq_true rfl⟩) rfl rfl (Nat.le_of_ble_eq_true rfl) dL_tells_224 ⟨Nat.le_of_ble_eq_true rfl, Nat.le_of_ble_eq_true rfl⟩ (fun r_224 u_224 H locs hp_224 G => ?_)
                  obtain ⟨rfl, rfl⟩ := hp_224
                  have G : gS D aC A s _ _ (gk _) H locs := G
                  refine g_top (show _ = (4 : Int32) from by rw [← e5]; exact s3) ?_
                  refine lv_if_ne (tgt := 234) S.1 S.2.1 dL_tells_227 (by decide) (fun c_227 => ?_) (fun c_227 => ?_)
                  · refine lv_iconst (v := 0) S.1 S.2.1 dL_tells_234 (by decide) ?_
                    refine lv_istore (lv' := [(12, _), (11, _), (10, _), (9, _), (8, _), (7, _), (6, _), (5, _), (4, _), (3, _), (2, _), (1, _), (0, _)]) S.1 S.2.1 dL_tells_235 hl (by decide) rfl (fun ls hl => ?_)
                    refine lv_iload S.1 S.2.1 dL_tells_237 (lv_at hl 2 rfl) ?_
                    refine lv_aload S.1 S.2.1 dL_tells_239 (lv_at hl 8 rfl) ?_
                    refine lv_iconst (v := 1) S.1 S.2.1 dL_tells_241 (by decide) ?_
                    refine k_iald S G 21 h21 rfl rfl rfl rfl (show 1 < 2 by decide) dL_tells_242 ?_
                    refine g_top (hc15.trans hn5) ?_
                    refine lv_iconst (v := 1) S.1 S.2.1 dL_tells_243 (by decide) ?_
                    refine lv_isub S.1 S.2.1 dL_tells_244 ?_
                    refine g_top (nI_pred r) ?_
                    refine lv_icmp_ne (tgt := 301) S.1 S.2.1 dL_tells_245 (by decide) (fun c_245 => ?_) (fun c_245 => ?_)
                    · exact absurd rfl c_245
                    · refine lv_iload S.1 S.2.1 dL_tells_248 (lv_at hl 0 rfl) ?_
                      refine lv_if_ne (tgt := 263) S.1 S.2.1 dL_tells_250 (by decide) (fun c_250 => ?_) (fun c_250 => ?_)
                      · exact absurd c_250 (by decide)
                      · refine lv_aload_n S.1 S.2.1 dL_tells_253 rfl (lv_at hl 12 rfl) ?_
                        refine lv_iload S.1 S.2.1 dL_tells_254 (lv_at hl 2 rfl) ?_
                        refine g_cVi S G hF hl 7 (hV 7 _ (by first | decide | (show _ < 1; omega))) (by decide) (c_X6_stateOfk l _ _ _ _ hV hW hr5) (cwV 1 S.2.2.2.2 gL_tells_X6_stateOf rfl rfl rfl (by decide +kernel) ⟨Nat.le_of_ble_eq_true rfl, Nat.le_of_ble_eq_true rfl⟩) rfl rfl (Nat.le_of_ble_eq_true rfl) dL_tells_256 ⟨Nat.le_of_ble_eq_true rfl, Nat.le_of_ble_eq_true rfl⟩ (fun r_256 u_256 H locs hp_256 G => ?_)
                        obtain ⟨rfl, rfl⟩ := hp_256
                        have G : gS D aC A s _ _ (gk _) H locs := G
                        refine g_top (show _ = (4 : Int32) from by rw [← e5]; exact s3) ?_
                        refine lv_iconst (v := 4) S.1 S.2.1 dL_tells_259 (by decide) ?_
                        refine lv_icmp_ne (tgt := 301) S.1 S.2.1 dL_tells_260 (by decide) (fun c_260 => ?_) (fun c_260 => ?_)
                        · exact absurd c_260 (by decide)
                        · refine lv_aload_n S.1 S.2.1 dL_tells_263 rfl (lv_at hl 12 rfl) ?_
                          refine lv_iload S.1 S.2.1 dL_tells_264 (lv_at hl 2 rfl) ?_
                          refine g_cVi S G hF hl 7 (hV 7 _ (by first | decide | (show _ < 1; omega))) (by decide) (c_X6_usersk l _ _ _ _ hV hW hr5) (cwV 1 S.2.2.2.2 gL_tells_X6_users rfl rfl rfl (by decide +kernel) ⟨Nat.le_of_ble_eq_true rfl, Nat.le_of_ble_eq_true rfl⟩) rfl rfl (Nat.le_of_ble_eq_true rfl) dL_tells_266 ⟨Nat.le_of_ble_eq_true rfl, Nat.le_of_ble_eq_true rfl⟩ (fun r_266 u_266 H locs hp_266 G => ?_)
                          obtain ⟨rfl, rfl⟩ := hp_266
                          have G : gS D aC A s _ _ (gk _) H locs := G
                          refine g_top hU ?_
                          refine lv_iload S.1 S.2.1 dL_tells_269 (lv_at hl 0 rfl) ?_
                          refine lv_if_eq (tgt := 279) S.1 S.2.1 dL_tells_271 (by decide) (fun c_271 => ?_) (fun c_271 => ?_)
                          · refine lv_iconst (v := 0) S.1 S.2.1 dL_tells_279 (by decide) ?_
                            refine lv_icmp_ne (tgt := 301) S.1 S.2.1 dL_tells_280 (by decide) (fun c_280 => ?_) (fun c_280 => ?_)
                            · exact absurd rfl c_280
                            · refine lv_aload_n S.1 S.2.1 dL_tells_283 rfl (lv_at hl 12 rfl) ?_
                              refine lv_iload S.1 S.2.1 dL_tells_284 (lv_at hl 2 rfl) ?_
                              refine g_cVi S G hF hl 7 (hV 7 _ (by first | decide | (show _ < 1; omega))) (by decide) (c_X6_heldk l _ _ _ _ hV hW hr5) (cwV 1 S.2.2.2.2 gL_tells_X6_held rfl rfl rfl (by decide +kernel) ⟨Nat.le_of_ble_eq_true rfl, Nat.le_of_ble_eq_true rfl⟩) rfl rfl (Nat.le_of_ble_eq_true rfl) dL_tells_286 ⟨Nat.le_of_ble_eq_true rfl, Nat.le_of_ble_eq_true rfl⟩ (fun r_286 u_286 H locs hp_286 G => ?_)
                              obtain ⟨rfl, rfl⟩ := hp_286
                              have G : gS D aC A s _ _ (gk _) H locs := G
                              refine g_top hHd ?_
                              refine lv_iload S.1 S.2.1 dL_tells_289 (lv_at hl 3 rfl) ?_
                              refine lv_iload S.1 S.2.1 dL_tells_291 (lv_at hl 1 rfl) ?_
                              refine lv_isub S.1 S.2.1 dL_tells_293 ?_
                              refine lv_icmp_ne (tgt := 301) S.1 S.2.1 dL_tells_294 (by decide) (fun c_294 => ?_) (fun c_294 => ?_)
                              · exact absurd rfl c_294
                              · refine lv_iconst (v := 1) S.1 S.2.1 dL_tells_297 (by decide) ?_
                                refine lv_goto (tgt := 302) S.1 S.2.1 dL_tells_298 (by decide) ?_
                                exact g_zret S G hr hlk (by decide) (⟨rfl, ids2, ad2, κ5, rfl, J5, a7, a20, a21, a22⟩) (Nat.le_of_ble_eq_true rfl) (Nat.le_of_ble_eq_true rfl) dL_tells_302
                          · exact absurd c_271 (by decide)
                  · exact absurd c_227 (by decide)
                · have hlt_195 : k_195 < 6 := g_stay c_199 hk_195 (by omega)
                  refine lv_iload S.1 S.2.1 dL_tells_202 (lv_at hl 1 rfl) ?_
                  refine lv_aload_n S.1 S.2.1 dL_tells_204 rfl (lv_at hl 12 rfl) ?_
                  refine lv_iload S.1 S.2.1 dL_tells_205 (lv_at hl 0 rfl) ?_
                  refine lv_iload S.1 S.2.1 dL_tells_207 (lv_at hl 6 rfl) ?_
                  refine g_cVi S G hF hl 7 (hV 7 _ (by first | decide | (show _ < 1; omega))) (by decide) (c_X6_asidek l _ _ _ _ _ hV hW hlt_195 ht9) (cwV 2 S.2.2.2.2 gL_tells_X6_aside rfl rfl rfl (by decide +kernel) ⟨Nat.le_of_ble_eq_true rfl, Nat.le_of_ble_eq_true rfl⟩) rfl rfl (Nat.le_of_ble_eq_true rfl) dL_tells_209 ⟨Nat.le_of_ble_eq_true rfl, Nat.le_of_ble_eq_true rfl⟩ (fun r_209 u_209 H locs hp_209 G => ?_)
                  obtain ⟨rfl, rfl⟩ := hp_209
                  have G : gS D aC A s _ _ (gk _) H locs := G
                  refine lv_iadd S.1 S.2.1 dL_tells_212 ?_
                  refine lv_istore (lv' := [(11, _), (12, _), (10, _), (9, _), (8, _), (7, _), (6, _), (5, _), (4, _), (3, _), (2, _), (1, _), (0, _)]) S.1 S.2.1 dL_tells_213 hl (by decide) rfl (fun ls hl => ?_)
                  refine lv_iinc (k := 1) (lv' := [(12, _), (11, _), (10, _), (9, _), (8, _), (7, _), (6, _), (5, _), (4, _), (3, _), (2, _), (1, _), (0, _)]) S.1 S.2.1 dL_tells_215 hl rfl (g_inc _) (by decide) rfl (fun ls hl => ?_)
                  refine lv_goto (tgt := 195) S.1 S.2.1 dL_tells_218 (by decide) ?_
                  exact ih_195 hlt_195 _ _ _ G (lv_sub hl [0, 1, 2, 3, 4, 5, 6, 7, 8, 9, 10, 11, 12] rfl)
              · exact absurd c_119 (by decide)
          · have hlt_56 : k_56 < 6 := g_stay c_60 hk_56 (by omega)
            refine lv_iload S.1 S.2.1 dL_tells_63 (lv_at hl 1 rfl) ?_
            refine lv_aload_n S.1 S.2.1 dL_tells_65 rfl (lv_at hl 10 rfl) ?_
            refine lv_iload S.1 S.2.1 dL_tells_66 (lv_at hl 0 rfl) ?_
            refine lv_iload S.1 S.2.1 dL_tells_68 (lv_at hl 4 rfl) ?_
            refine g_cVi S G hF hl 7 (hV 7 _ (by first | decide | (show _ < 1; omega))) (by decide) (c_X6_asidek l _ _ _ _ _ hV hW hlt_56 ht9) (cwV 2 S.2.2.2.2 gL_tells_X6_aside rfl rfl rfl (by decide +kernel) ⟨Nat.le_of_ble_eq_true rfl, Nat.le_of_ble_eq_true rfl⟩) rfl rfl (Nat.le_of_ble_eq_true rfl) dL_tells_70 ⟨Nat.le_of_ble_eq_true rfl, Nat.le_of_ble_eq_true rfl⟩ (fun r_70 u_70 H locs hp_70 G => ?_)
            obtain ⟨rfl, rfl⟩ := hp_70
            have G : gS D aC A s _ _ (gk _) H locs := G
            refine lv_iadd S.1 S.2.1 dL_tells_73 ?_
            refine lv_istore (lv' := [(9, _), (10, _), (8, _), (7, _), (6, _), (5, _), (4, _), (3, _), (2, _), (1, _), (0, _)]) S.1 S.2.1 dL_tells_74 hl (by decide) rfl (fun ls hl => ?_)
            refine lv_iload S.1 S.2.1 dL_tells_76 (lv_at hl 2 rfl) ?_
            refine lv_aload_n S.1 S.2.1 dL_tells_78 rfl (lv_at hl 10 rfl) ?_
            refine lv_iload S.1 S.2.1 dL_tells_79 (lv_at hl 1 rfl) ?_
            refine lv_iload S.1 S.2.1 dL_tells_81 (lv_at hl 4 rfl) ?_
            refine g_cVi S G hF hl 7 (hV 7 _ (by first | decide | (show _ < 1; omega))) (by decide) (c_X6_asidek l _ _ _ _ _ hV hW hlt_56 ht9) (cwV 2 S.2.2.2.2 gL_tells_X6_aside rfl rfl rfl (by decide +kernel) ⟨Nat.le_of_ble_eq_true rfl, Nat.le_of_ble_eq_true rfl⟩) rfl rfl (Nat.le_of_ble_eq_true rfl) dL_tells_83 ⟨Nat.le_of_ble_eq_true rfl, Nat.le_of_ble_eq_true rfl⟩ (fun r_83 u_83 H locs hp_83 G => ?_)
            obtain ⟨rfl, rfl⟩ := hp_83
            have G : gS D aC A s _ _ (gk _) H locs := G
            refine lv_if_le (tgt := 93) S.1 S.2.1 dL_tells_86 (by decide) (fun c_86 => ?_) (fun c_86 => ?_)
            · refine lv_iconst (v := 0) S.1 S.2.1 dL_tells_93 (by decide) ?_
              refine lv_iadd S.1 S.2.1 dL_tells_94 ?_
              refine lv_istore (lv' := [(8, _), (9, _), (10, _), (7, _), (6, _), (5, _), (4, _), (3, _), (2, _), (1, _), (0, _)]) S.1 S.2.1 dL_tells_95 hl (by decide) rfl (fun ls hl => ?_)
              refine lv_iinc (k := 2) (lv' := [(10, _), (8, _), (9, _), (7, _), (6, _), (5, _), (4, _), (3, _), (2, _), (1, _), (0, _)]) S.1 S.2.1 dL_tells_97 hl rfl (g_inc _) (by decide) rfl (fun ls hl => ?_)
              refine lv_goto (tgt := 56) S.1 S.2.1 dL_tells_100 (by decide) ?_
              have e : lwO κ t9 (k_56 + 1) = lwO κ t9 k_56 + 0 := by simp only [lwO, if_pos c_86]
              exact ih_56 hlt_56 _ _ _ G (by rw [e]; exact lv_sub hl [0, 2, 1, 3, 4, 5, 6, 7, 8, 9, 10] rfl)
            · refine lv_iconst (v := 1) S.1 S.2.1 dL_tells_89 (by decide) ?_
              refine lv_goto (tgt := 94) S.1 S.2.1 dL_tells_90 (by decide) ?_
              refine lv_iadd S.1 S.2.1 dL_tells_94 ?_
              refine lv_istore (lv' := [(8, _), (9, _), (10, _), (7, _), (6, _), (5, _), (4, _), (3, _), (2, _), (1, _), (0, _)]) S.1 S.2.1 dL_tells_95 hl (by decide) rfl (fun ls hl => ?_)
              refine lv_iinc (k := 2) (lv' := [(10, _), (8, _), (9, _), (7, _), (6, _), (5, _), (4, _), (3, _), (2, _), (1, _), (0, _)]) S.1 S.2.1 dL_tells_97 hl rfl (g_inc _) (by decide) rfl (fun ls hl => ?_)
              refine lv_goto (tgt := 56) S.1 S.2.1 dL_tells_100 (by decide) ?_
              have e : lwO κ t9 (k_56 + 1) = lwO κ t9 k_56 + 1 := by simp only [lwO, if_neg c_86]
              exact ih_56 hlt_56 _ _ _ G (by rw [e]; exact lv_sub hl [0, 2, 1, 3, 4, 5, 6, 7, 8, 9, 10] rfl)
  · refine lv_iconst (v := 0) S.1 S.2.1 dL_tells_44 (by decide) ?_
    refine lv_istore (lv' := [(7, _), (6, _), (0, _), (1, _), (2, _), (3, _), (4, _), (5, _)]) S.1 S.2.1 dL_tells_45 hl (by decide) rfl (fun ls hl => ?_)
    refine lv_iconst (v := 0) S.1 S.2.1 dL_tells_47 (by decide) ?_
    refine lv_istore (lv' := [(8, _), (7, _), (6, _), (0, _), (1, _), (2, _), (3, _), (4, _), (5, _)]) S.1 S.2.1 dL_tells_48 hl (by decide) rfl (fun ls hl => ?_)
    refine lv_iconst (v := 0) S.1 S.2.1 dL_tells_50 (by decide) ?_
    refine lv_istore (lv' := [(9, _), (8, _), (7, _), (6, _), (0, _), (1, _), (2, _), (3, _), (4, _), (5, _)]) S.1 S.2.1 dL_tells_51 hl (by decide) rfl (fun ls hl => ?_)
    refine lv_iconst (v := 0) S.1 S.2.1 dL_tells_53 (by decide) ?_
    refine lv_istore (lv' := [(10, _), (9, _), (8, _), (7, _), (6, _), (0, _), (1, _), (2, _), (3, _), (4, _), (5, _)]) S.1 S.2.1 dL_tells_54 hl (by decide) rfl (fun ls hl => ?_)
    refine g_forg 6 (fun k_56 => [(10, .int (nI k_56)), (9, .int (asd κ t9 k_56)), (8, .int (lwO κ t9 k_56)), (7, .int 0), (6, .int (nI t9)), (5, .ref (ad 22 0)), (4, .ref (ad 21 0)), (3, .ref (ad 20 0)), (2, .int (nI Y)), (1, .int (nI X)), (0, .ref (ad 7 0))]) ?_ G (lv_sub hl [0, 1, 2, 3, 4, 10, 9, 8, 7, 6, 5] rfl)
    intro k_56 H locs ls hk_56 G hl ih_56
    have hl : lv_has ls 13 [(10, _), (9, _), (8, _), (7, _), (6, _), (5, _), (4, _), (3, _), (2, _), (1, _), (0, _)] := hl
    refine lv_iload S.1 S.2.1 dL_tells_56 (lv_at hl 0 rfl) ?_
    refine lv_bipush (v := 6) S.1 S.2.1 dL_tells_58 (by decide) ?_
    refine lv_icmp_ge (tgt := 103) S.1 S.2.1 dL_tells_60 (by decide) (fun c_60 => ?_) (fun c_60 => ?_)
    · have hkN_56 : k_56 = 6 := g_exit c_60 hk_56 (by omega)
      subst hkN_56
      refine lv_aload_n S.1 S.2.1 dL_tells_103 rfl (lv_at hl 10 rfl) ?_
      refine lv_iconst (v := 0) S.1 S.2.1 dL_tells_104 (by decide) ?_
      refine lv_iload S.1 S.2.1 dL_tells_105 (lv_at hl 4 rfl) ?_
      refine lv_iload_n S.1 S.2.1 dL_tells_107 rfl (lv_at hl 8 rfl) ?_
      refine lv_bipush (v := 100) S.1 S.2.1 dL_tells_108 (by decide) ?_
      refine lv_irem S.1 S.2.1 dL_tells_110 (by decide) ?_
      refine g_top ((jrem100 (by omega)).trans (congrArg nI ey)) ?_
      refine lv_iconst (v := 0) S.1 S.2.1 dL_tells_111 (by decide) ?_
      have hno : ¬ sTellT κ (nI t9) (nI y9) = 2 := by rw [hT3]; decide
      refine g_cSWi S G hF hl (c_L_asks_tell l hlf ids ad _ _ _ _ hV hW hI hno) (vx_cwSW 5 S.2.2.2.2 gL_tells_L_asks rfl rfl rfl (by decide +kernel) ⟨Nat.le_of_ble_eq_true rfl, Nat.le_of_ble_eq_true rfl⟩) rfl rfl (Nat.le_of_ble_eq_true rfl) dL_tells_112 ⟨Nat.le_of_ble_eq_true rfl, Nat.le_of_ble_eq_true rfl⟩ (fun r9 u9 H locs hp G => ?_)
      obtain ⟨rfl, rfl⟩ := or3_3 hp hT3
      have G : gS D aC A s _ _ (gk _) H locs := G
      refine lv_istore (lv' := [(10, _), (9, _), (8, _), (7, _), (6, _), (5, _), (4, _), (3, _), (2, _), (1, _), (0, _)]) S.1 S.2.1 dL_tells_115 hl (by decide) rfl (fun ls hl => ?_)
      refine lv_iload S.1 S.2.1 dL_tells_117 (lv_at hl 3 rfl) ?_
      refine lv_if_ne (tgt := 135) S.1 S.2.1 dL_tells_119 (by decide) (fun c_119 => ?_) (fun c_119 => ?_)
      · exact absurd c_119 (by decide)
      · refine lv_iload S.1 S.2.1 dL_tells_122 (lv_at hl 0 rfl) ?_
        refine lv_bipush (v := (-108)) S.1 S.2.1 dL_tells_124 (by decide) ?_
        refine lv_icmp_ne (tgt := 133) S.1 S.2.1 dL_tells_126 (by decide) (fun c_126 => ?_) (fun c_126 => ?_)
        · exact absurd c_126 (by decide)
        · refine lv_iconst (v := 1) S.1 S.2.1 dL_tells_129 (by decide) ?_
          refine lv_goto (tgt := 134) S.1 S.2.1 dL_tells_130 (by decide) ?_
          exact g_zret S G hr hlk (by decide) (⟨rfl, ids, ad, κ, rfl, J.up (by omega) (Nat.le_refl _), rfl, rfl, rfl, rfl⟩) (Nat.le_of_ble_eq_true rfl) (Nat.le_of_ble_eq_true rfl) dL_tells_134
    · have hlt_56 : k_56 < 6 := g_stay c_60 hk_56 (by omega)
      refine lv_iload S.1 S.2.1 dL_tells_63 (lv_at hl 1 rfl) ?_
      refine lv_aload_n S.1 S.2.1 dL_tells_65 rfl (lv_at hl 10 rfl) ?_
      refine lv_iload S.1 S.2.1 dL_tells_66 (lv_at hl 0 rfl) ?_
      refine lv_iload S.1 S.2.1 dL_tells_68 (lv_at hl 4 rfl) ?_
      refine g_cVi S G hF hl 7 (hV 7 _ (by first | decide | (show _ < 1; omega))) (by decide) (c_X6_asidek l _ _ _ _ _ hV hW hlt_56 ht9) (cwV 2 S.2.2.2.2 gL_tells_X6_aside rfl rfl rfl (by decide +kernel) ⟨Nat.le_of_ble_eq_true rfl, Nat.le_of_ble_eq_true rfl⟩) rfl rfl (Nat.le_of_ble_eq_true rfl) dL_tells_70 ⟨Nat.le_of_ble_eq_true rfl, Nat.le_of_ble_eq_true rfl⟩ (fun r_70 u_70 H locs hp_70 G => ?_)
      obtain ⟨rfl, rfl⟩ := hp_70
      have G : gS D aC A s _ _ (gk _) H locs := G
      refine lv_iadd S.1 S.2.1 dL_tells_73 ?_
      refine lv_istore (lv' := [(9, _), (10, _), (8, _), (7, _), (6, _), (5, _), (4, _), (3, _), (2, _), (1, _), (0, _)]) S.1 S.2.1 dL_tells_74 hl (by decide) rfl (fun ls hl => ?_)
      refine lv_iload S.1 S.2.1 dL_tells_76 (lv_at hl 2 rfl) ?_
      refine lv_aload_n S.1 S.2.1 dL_tells_78 rfl (lv_at hl 10 rfl) ?_
      refine lv_iload S.1 S.2.1 dL_tells_79 (lv_at hl 1 rfl) ?_
      refine lv_iload S.1 S.2.1 dL_tells_81 (lv_at hl 4 rfl) ?_
      refine g_cVi S G hF hl 7 (hV 7 _ (by first | decide | (show _ < 1; omega))) (by decide) (c_X6_asidek l _ _ _ _ _ hV hW hlt_56 ht9) (cwV 2 S.2.2.2.2 gL_tells_X6_aside rfl rfl rfl (by decide +kernel) ⟨Nat.le_of_ble_eq_true rfl, Nat.le_of_ble_eq_true rfl⟩) rfl rfl (Nat.le_of_ble_eq_true rfl) dL_tells_83 ⟨Nat.le_of_ble_eq_true rfl, Nat.le_of_ble_eq_true rfl⟩ (fun r_83 u_83 H locs hp_83 G => ?_)
      obtain ⟨rfl, rfl⟩ := hp_83
      have G : gS D aC A s _ _ (gk _) H locs := G
      refine lv_if_le (tgt := 93) S.1 S.2.1 dL_tells_86 (by decide) (fun c_86 => ?_) (fun c_86 => ?_)
      · refine lv_iconst (v := 0) S.1 S.2.1 dL_tells_93 (by decide) ?_
        refine lv_iadd S.1 S.2.1 dL_tells_94 ?_
        refine lv_istore (lv' := [(8, _), (9, _), (10, _), (7, _), (6, _), (5, _), (4, _), (3, _), (2, _), (1, _), (0, _)]) S.1 S.2.1 dL_tells_95 hl (by decide) rfl (fun ls hl => ?_)
        refine lv_iinc (k := 2) (lv' := [(10, _), (8, _), (9, _), (7, _), (6, _), (5, _), (4, _), (3, _), (2, _), (1, _), (0, _)]) S.1 S.2.1 dL_tells_97 hl rfl (g_inc _) (by decide) rfl (fun ls hl => ?_)
        refine lv_goto (tgt := 56) S.1 S.2.1 dL_tells_100 (by decide) ?_
        have e : lwO κ t9 (k_56 + 1) = lwO κ t9 k_56 + 0 := by simp only [lwO, if_pos c_86]
        exact ih_56 hlt_56 _ _ _ G (by rw [e]; exact lv_sub hl [0, 2, 1, 3, 4, 5, 6, 7, 8, 9, 10] rfl)
      · refine lv_iconst (v := 1) S.1 S.2.1 dL_tells_89 (by decide) ?_
        refine lv_goto (tgt := 94) S.1 S.2.1 dL_tells_90 (by decide) ?_
        refine lv_iadd S.1 S.2.1 dL_tells_94 ?_
        refine lv_istore (lv' := [(8, _), (9, _), (10, _), (7, _), (6, _), (5, _), (4, _), (3, _), (2, _), (1, _), (0, _)]) S.1 S.2.1 dL_tells_95 hl (by decide) rfl (fun ls hl => ?_)
        refine lv_iinc (k := 2) (lv' := [(10, _), (8, _), (9, _), (7, _), (6, _), (5, _), (4, _), (3, _), (2, _), (1, _), (0, _)]) S.1 S.2.1 dL_tells_97 hl rfl (g_inc _) (by decide) rfl (fun ls hl => ?_)
        refine lv_goto (tgt := 56) S.1 S.2.1 dL_tells_100 (by decide) ?_
        have e : lwO κ t9 (k_56 + 1) = lwO κ t9 k_56 + 1 := by simp only [lwO, if_neg c_86]
        exact ih_56 hlt_56 _ _ _ G (by rw [e]; exact lv_sub hl [0, 2, 1, 3, 4, 5, 6, 7, 8, 9, 10] rfl)
