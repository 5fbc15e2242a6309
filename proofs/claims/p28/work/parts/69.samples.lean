/-! ===== the law samples ===== -/
theorem smp_n {ids : gIds} {κ : gMem} {o r w : Nat} (J : CI ids κ) (ho : o < 12) (hr : r < tN (κ 7 0 4)) (hw : w < 100) (hT : sSampleT κ (nI o) (nI r) (nI w) = 0) : sSampleK κ o r (nI w) 7 0 4 = κ 7 0 4 := by
  have h81 := J.n.2
  have q := (op_sample J hT).2.1.1
  rw [tN_nI (by omega), tN_nI (by omega)] at q
  exact q
set_option maxHeartbeats 4000000 in
set_option maxRecDepth 100000 in
theorem c_L_samples (l : Launch) (ids : gIds) (ad : gAd) (κ : gMem) (X Y : Nat) (hlf : l.stackTraces = false) (N B : Nat) (J : PL N B ids κ) (hN : N ≤ 61) (hX : X < 2 ^ 30) (hY : Y < 2 ^ 30) (h0 : 0 < tN (κ 7 0 4))  : gMi l yL_samples wsL_samples ({ frames := 9, cells := 8, slots := 64, locals := 163 } : Room) 8 64 [.ref (ad 7 0), .int (nI X), .int (nI Y), .ref (ad 20 0), .ref (ad 21 0)] (ids, ad, gk κ) (fun q u => q = 1 ∧ ∃ (ids' : gIds) (ad' : gAd) (κ' : gMem), u = (ids', ad', gk κ') ∧ PL (N + 1) B ids' κ' ∧ ad' 7 0 = ad 7 0 ∧ ad' 20 0 = ad 20 0 ∧ ad' 21 0 = ad 21 0 ∧ ad' 22 0 = ad 22 0) := by
  intro D aC A
  refine g_of (cc := cL_samples) (maxL := 16) (ret := (some .boolean)) (by decide +kernel) rfl (Nat.le_of_ble_eq_true rfl) ?_
  intro p e s m below meth c ls S G hF hr hlk hnm hl
  have hl : lv_has ls 16 [(0, _), (1, _), (2, _), (3, _), (4, _)] := hl
  have hV := J.1.1
  have hW := J.1.2.1
  obtain ⟨h20, h21, h22⟩ := J.2.2.1
  obtain ⟨hn, hn80⟩ := hW.cnt
  have hI := J.1.2.2.1
  obtain ⟨T, eT⟩ : ∃ z, tN (κ 7 0 6) = z := ⟨_, rfl⟩
  obtain ⟨r, er⟩ : ∃ z, tN (κ 7 0 4) = z := ⟨_, rfl⟩
  have hr62 := J.2.2.2.1
  have h01 := J.1.T.2
  have hT7 : κ 7 0 6 = nI T := by rw [← eT]; exact J.1.T.1
  rw [er] at hn hn80 hr62
  rw [eT] at h01
  have hc0 := J.2.1.1
  have hc1 := J.2.1.2.1
  obtain ⟨b9, eb⟩ : ∃ z, X % 6 = z := ⟨_, rfl⟩
  have hb9 : b9 < 6 := by omega
  obtain ⟨m9, em⟩ : ∃ z, (if r < 8 then r else 8) = z := ⟨_, rfl⟩
  have hm9 : 0 < m9 ∧ m9 ≤ 8 ∧ m9 ≤ r := by rw [← em]; split <;> omega
  have hmod := Nat.mod_lt Y hm9.1
  obtain ⟨r9, er9⟩ : ∃ z, r - 1 - Y % m9 = z := ⟨_, rfl⟩
  have hr9r : r9 < r := by omega
  have hr9 : r9 < tN (κ 7 0 4) := by omega
  obtain ⟨s9, v9, SS, PP, UU, st, τ, b1, b2, b3, b4, b5, b6, b7, b8, b9', b10, b11, b12, b13, b14, b15, b16, b17, b18, -, -⟩ := J.rd hr9
  refine lv_aload S.1 S.2.1 dL_samples_0 (lv_at hl 4 rfl) ?_
  refine lv_iconst (v := 1) S.1 S.2.1 dL_samples_2 (by decide) ?_
  refine k_iald S G 21 h21 rfl rfl rfl rfl (show 1 < 2 by decide) dL_samples_3 ?_
  refine g_top (hc1.trans hn) ?_
  refine lv_iconst (v := 1) S.1 S.2.1 dL_samples_4 (by decide) ?_
  refine lv_isub S.1 S.2.1 dL_samples_5 ?_
  refine g_top (pk_sub (a := r) (b := 1) (by omega)) ?_
  refine lv_iload_n S.1 S.2.1 dL_samples_6 rfl (lv_at hl 2 rfl) ?_
  refine jn2 (X := W p l e (headSpec wsL_samples ({ frames := 9, cells := 8, slots := 64, locals := 163 } : Room)).room s m ([.ref (ad 7 0), .int (nI X), .int (nI Y), .ref (ad 20 0), .ref (ad 21 0)] : List Value).toArray below meth c s.heap [] (0) (0) (MQ below (va_Qi (fun q u => q = 1 ∧ ∃ (ids' : gIds) (ad' : gAd) (κ' : gMem), u = (ids', ad', gk κ') ∧ PL (N + 1) B ids' κ' ∧ ad' 7 0 = ad 7 0 ∧ ad' 20 0 = ad 20 0 ∧ ad' 21 0 = ad 21 0 ∧ ad' 22 0 = ad 22 0) (gE D aC A) A) ([.ref (ad 7 0), .int (nI X), .int (nI Y), .ref (ad 20 0), .ref (ad 21 0)] : List Value).toArray s 8 64 A) (F0 m 25 ls [.int (nI m9), .int (nI Y), .int (nI (r - 1))])) (fun K25 => ?_) ?_
  · refine lv_aload S.1 S.2.1 dL_samples_7 (lv_at hl 4 rfl) ?_
    refine lv_iconst (v := 1) S.1 S.2.1 dL_samples_9 (by decide) ?_
    refine k_iald S G 21 h21 rfl rfl rfl rfl (show 1 < 2 by decide) dL_samples_10 ?_
    refine g_top (hc1.trans hn) ?_
    refine lv_bipush (v := 8) S.1 S.2.1 dL_samples_11 (by decide) ?_
    refine lv_icmp_ge (tgt := 23) S.1 S.2.1 dL_samples_13 (by decide) (fun c_13 => ?_) (fun c_13 => ?_)
    · refine lv_bipush (v := 8) S.1 S.2.1 dL_samples_23 (by decide) ?_
      refine g_top (show (8 : Int32) = nI m9 from congrArg nI (by rw [← em, if_neg (by have := (nI_leI (a := 8) (b := r) (by decide) (by omega)).mp c_13; omega)])) ?_
      exact K25
    · refine lv_aload S.1 S.2.1 dL_samples_16 (lv_at hl 4 rfl) ?_
      refine lv_iconst (v := 1) S.1 S.2.1 dL_samples_18 (by decide) ?_
      refine k_iald S G 21 h21 rfl rfl rfl rfl (show 1 < 2 by decide) dL_samples_19 ?_
      refine lv_goto (tgt := 25) S.1 S.2.1 dL_samples_20 (by decide) ?_
      refine g_top ((hc1.trans hn).trans (congrArg nI (show r = m9 by rw [← em, if_pos (by have := mt (nI_leI (a := 8) (b := r) (by decide) (by omega)).mpr c_13; omega)]))) ?_
      exact K25
  · refine lv_irem S.1 S.2.1 dL_samples_25 (nI_ne0 (by omega) (by omega)) ?_
    refine g_top (pk_rem (by omega) (by omega) (by omega)) ?_
    refine lv_isub S.1 S.2.1 dL_samples_26 ?_
    refine g_top ((pk_sub (by omega)).trans (congrArg nI er9)) ?_
    refine lv_istore (lv' := [(5, _), (0, _), (1, _), (2, _), (3, _), (4, _)]) S.1 S.2.1 dL_samples_27 hl (by decide) rfl (fun ls hl => ?_)
    refine lv_aload_n S.1 S.2.1 dL_samples_29 rfl (lv_at hl 4 rfl) ?_
    refine lv_iload S.1 S.2.1 dL_samples_30 (lv_at hl 0 rfl) ?_
    refine k_iald S G 20 h20 rfl rfl rfl rfl (show r9 < 64 by omega) dL_samples_32 ?_
    refine lv_bipush (v := 15) S.1 S.2.1 dL_samples_33 (by decide) ?_
    refine lv_iand S.1 S.2.1 dL_samples_35 ?_
    refine g_top (show _ = nI s9 from by rw [b14]; exact enc_s (by omega) (by omega) (by omega) (by omega)) ?_
    refine lv_istore (lv' := [(6, _), (5, _), (0, _), (1, _), (2, _), (3, _), (4, _)]) S.1 S.2.1 dL_samples_36 hl (by decide) rfl (fun ls hl => ?_)
    refine jnNH (X := fun j H locs => W p l e (headSpec wsL_samples ({ frames := 9, cells := 8, slots := 64, locals := 163 } : Room)).room s m ([.ref (ad 7 0), .int (nI X), .int (nI Y), .ref (ad 20 0), .ref (ad 21 0)] : List Value).toArray below meth c H locs (0) (0) (MQ below (va_Qi (fun q u => q = 1 ∧ ∃ (ids' : gIds) (ad' : gAd) (κ' : gMem), u = (ids', ad', gk κ') ∧ PL (N + 1) B ids' κ' ∧ ad' 7 0 = ad 7 0 ∧ ad' 20 0 = ad 20 0 ∧ ad' 21 0 = ad 21 0 ∧ ad' 22 0 = ad 22 0) (gE D aC A) A) ([.ref (ad 7 0), .int (nI X), .int (nI Y), .ref (ad 20 0), .ref (ad 21 0)] : List Value).toArray s 8 64 A) (F0 m 60 ls [.int (nI j)])) (fun j H locs => j < 12 ∧ gS D aC A s ids ad (gk κ) H locs) (fun K60 => ?_) ?_
    · refine lv_iload_n S.1 S.2.1 dL_samples_38 rfl (lv_at hl 4 rfl) ?_
      refine lv_bipush (v := 8) S.1 S.2.1 dL_samples_39 (by decide) ?_
      refine lv_idiv S.1 S.2.1 dL_samples_41 (by decide) ?_
      refine g_top (jdiv8 (by omega)) ?_
      refine lv_iconst (v := 4) S.1 S.2.1 dL_samples_42 (by decide) ?_
      refine lv_irem S.1 S.2.1 dL_samples_43 (by decide) ?_
      refine g_top (jrem4 (by omega)) ?_
      refine lv_if_ne (tgt := 54) S.1 S.2.1 dL_samples_44 (by decide) (fun c_44 => ?_) (fun c_44 => ?_)
      · refine lv_iload S.1 S.2.1 dL_samples_54 (lv_at hl 0 rfl) ?_
        refine lv_iload_n S.1 S.2.1 dL_samples_56 rfl (lv_at hl 3 rfl) ?_
        refine g_cSi S G hF hl (c_L_near l _ _ _ _ _ (by omega) (by omega)) (va_cwS 2 S.2.2.2.2 gL_samples_L_near rfl rfl rfl (by decide +kernel) ⟨Nat.le_of_ble_eq_true rfl, Nat.le_of_ble_eq_true rfl⟩) rfl rfl (Nat.le_of_ble_eq_true rfl) dL_samples_57 ⟨Nat.le_of_ble_eq_true rfl, Nat.le_of_ble_eq_true rfl⟩ (fun r_57 u_57 H locs hp_57 G => ?_)
        obtain ⟨⟨j_57, hj_57, rfl, hnb_57⟩, rfl⟩ := hp_57
        have G : gS D aC A s _ _ (gk _) H locs := G
        exact K60 j_57 _ _ ⟨hj_57, G⟩
      · refine lv_iload_n S.1 S.2.1 dL_samples_47 rfl (lv_at hl 3 rfl) ?_
        refine lv_bipush (v := 12) S.1 S.2.1 dL_samples_48 (by decide) ?_
        refine lv_irem S.1 S.2.1 dL_samples_50 (by decide) ?_
        refine lv_goto (tgt := 60) S.1 S.2.1 dL_samples_51 (by decide) ?_
        refine g_top (jrem12 (by omega)) ?_
        exact K60 (X % 12) _ _ ⟨Nat.mod_lt _ (by decide), G⟩
    · rintro o9 H locs ⟨ho9, G⟩
      refine lv_istore (lv' := [(7, _), (6, _), (5, _), (0, _), (1, _), (2, _), (3, _), (4, _)]) S.1 S.2.1 dL_samples_60 hl (by decide) rfl (fun ls hl => ?_)
      refine jnZ (X := fun z => W p l e (headSpec wsL_samples ({ frames := 9, cells := 8, slots := 64, locals := 163 } : Room)).room s m ([.ref (ad 7 0), .int (nI X), .int (nI Y), .ref (ad 20 0), .ref (ad 21 0)] : List Value).toArray below meth c H locs (0) (0) (MQ below (va_Qi (fun q u => q = 1 ∧ ∃ (ids' : gIds) (ad' : gAd) (κ' : gMem), u = (ids', ad', gk κ') ∧ PL (N + 1) B ids' κ' ∧ ad' 7 0 = ad 7 0 ∧ ad' 20 0 = ad 20 0 ∧ ad' 21 0 = ad 21 0 ∧ ad' 22 0 = ad 22 0) (gE D aC A) A) ([.ref (ad 7 0), .int (nI X), .int (nI Y), .ref (ad 20 0), .ref (ad 21 0)] : List Value).toArray s 8 64 A) (F0 m 101 ls [.int z])) (fun K101 => ?_) ?_
      · refine lv_iload_n S.1 S.2.1 dL_samples_62 rfl (lv_at hl 4 rfl) ?_
        refine lv_bipush (v := 12) S.1 S.2.1 dL_samples_63 (by decide) ?_
        refine lv_idiv S.1 S.2.1 dL_samples_65 (by decide) ?_
        refine g_top (jdiv12 (by omega)) ?_
        refine lv_iconst (v := 3) S.1 S.2.1 dL_samples_66 (by decide) ?_
        refine lv_irem S.1 S.2.1 dL_samples_67 (by decide) ?_
        refine g_top (jrem3 (by omega)) ?_
        refine lv_if_ne (tgt := 81) S.1 S.2.1 dL_samples_68 (by decide) (fun c_68 => ?_) (fun c_68 => ?_)
        · refine lv_aload_n S.1 S.2.1 dL_samples_81 rfl (lv_at hl 6 rfl) ?_
          refine lv_iload S.1 S.2.1 dL_samples_82 (lv_at hl 2 rfl) ?_
          refine k_iald S G 20 h20 rfl rfl rfl rfl (show r9 < 64 by omega) dL_samples_84 ?_
          refine lv_iconst (v := 4) S.1 S.2.1 dL_samples_85 (by decide) ?_
          refine lv_ishr S.1 S.2.1 dL_samples_86 ?_
          refine lv_bipush (v := 127) S.1 S.2.1 dL_samples_87 (by decide) ?_
          refine lv_iand S.1 S.2.1 dL_samples_89 ?_
          refine lv_iload_n S.1 S.2.1 dL_samples_90 rfl (lv_at hl 4 rfl) ?_
          refine lv_bipush (v := 36) S.1 S.2.1 dL_samples_91 (by decide) ?_
          refine lv_idiv S.1 S.2.1 dL_samples_93 (by decide) ?_
          refine lv_bipush (v := 14) S.1 S.2.1 dL_samples_94 (by decide) ?_
          refine lv_irem S.1 S.2.1 dL_samples_96 (by decide) ?_
          refine lv_iadd S.1 S.2.1 dL_samples_97 ?_
          refine lv_bipush (v := 7) S.1 S.2.1 dL_samples_98 (by decide) ?_
          refine lv_isub S.1 S.2.1 dL_samples_100 ?_
          exact K101 _
        · refine lv_iload_n S.1 S.2.1 dL_samples_71 rfl (lv_at hl 4 rfl) ?_
          refine lv_bipush (v := 36) S.1 S.2.1 dL_samples_72 (by decide) ?_
          refine lv_idiv S.1 S.2.1 dL_samples_74 (by decide) ?_
          refine lv_bipush (v := 100) S.1 S.2.1 dL_samples_75 (by decide) ?_
          refine lv_irem S.1 S.2.1 dL_samples_77 (by decide) ?_
          refine lv_goto (tgt := 101) S.1 S.2.1 dL_samples_78 (by decide) ?_
          exact K101 _
      · intro z
        refine lv_istore (lv' := [(8, _), (7, _), (6, _), (5, _), (0, _), (1, _), (2, _), (3, _), (4, _)]) S.1 S.2.1 dL_samples_101 hl (by decide) rfl (fun ls hl => ?_)
        refine jnN (X := fun w => W p l e (headSpec wsL_samples ({ frames := 9, cells := 8, slots := 64, locals := 163 } : Room)).room s m ([.ref (ad 7 0), .int (nI X), .int (nI Y), .ref (ad 20 0), .ref (ad 21 0)] : List Value).toArray below meth c H locs (0) (0) (MQ below (va_Qi (fun q u => q = 1 ∧ ∃ (ids' : gIds) (ad' : gAd) (κ' : gMem), u = (ids', ad', gk κ') ∧ PL (N + 1) B ids' κ' ∧ ad' 7 0 = ad 7 0 ∧ ad' 20 0 = ad 20 0 ∧ ad' 21 0 = ad 21 0 ∧ ad' 22 0 = ad 22 0) (gE D aC A) A) ([.ref (ad 7 0), .int (nI X), .int (nI Y), .ref (ad 20 0), .ref (ad 21 0)] : List Value).toArray s 8 64 A) (F0 m 126 ls [.int (nI w)])) (fun w => w < 100) (fun K126 => ?_) ?_
        · refine lv_iload S.1 S.2.1 dL_samples_103 (lv_at hl 0 rfl) ?_
          refine lv_if_ge (tgt := 112) S.1 S.2.1 dL_samples_105 (by decide) (fun c_105 => ?_) (fun c_105 => ?_)
          · refine lv_iload S.1 S.2.1 dL_samples_112 (lv_at hl 0 rfl) ?_
            refine lv_bipush (v := 99) S.1 S.2.1 dL_samples_114 (by decide) ?_
            refine lv_icmp_le (tgt := 124) S.1 S.2.1 dL_samples_116 (by decide) (fun c_116 => ?_) (fun c_116 => ?_)
            · refine lv_iload S.1 S.2.1 dL_samples_124 (lv_at hl 0 rfl) ?_
              obtain ⟨w, hw, ew⟩ := ix_rng c_105 c_116
              refine g_top ew ?_
              exact K126 w hw
            · refine lv_bipush (v := 99) S.1 S.2.1 dL_samples_119 (by decide) ?_
              refine lv_goto (tgt := 126) S.1 S.2.1 dL_samples_121 (by decide) ?_
              exact K126 99 (by decide)
          · refine lv_iconst (v := 0) S.1 S.2.1 dL_samples_108 (by decide) ?_
            refine lv_goto (tgt := 126) S.1 S.2.1 dL_samples_109 (by decide) ?_
            exact K126 0 (by decide)
        · intro w9 hw9
          refine lv_istore (lv' := [(8, _), (7, _), (6, _), (5, _), (0, _), (1, _), (2, _), (3, _), (4, _)]) S.1 S.2.1 dL_samples_126 hl (by decide) rfl (fun ls hl => ?_)
          by_cases hT : sSampleT κ (nI o9) (nI r9) (nI w9) = 0
          · refine lv_aload_n S.1 S.2.1 dL_samples_128 rfl (lv_at hl 4 rfl) ?_
            refine lv_iload S.1 S.2.1 dL_samples_129 (lv_at hl 3 rfl) ?_
            obtain ⟨J5, hst1, hnb, hq⟩ := J.smp hr9 ho9 hw9 hT b9' b1
            have n5 : sSampleK κ o9 r9 (nI w9) 7 0 4 = κ 7 0 4 := smp_n J.1 ho9 hr9 hw9 hT
            have hno : ¬ sSampleT κ (nI o9) (nI r9) (nI w9) = 2 := by rw [hT]; decide
            refine g_cVi S G hF hl 7 (hV 7 _ (by first | decide | (show _ < 1; omega))) (by decide) (c_X6_stateOfk l _ _ _ _ hV hW hr9) (cwV 1 S.2.2.2.2 gL_samples_X6_stateOf rfl rfl rfl (by decide +kernel) ⟨Nat.le_of_ble_eq_true rfl, Nat.le_of_ble_eq_true rfl⟩) rfl rfl (Nat.le_of_ble_eq_true rfl) dL_samples_131 ⟨Nat.le_of_ble_eq_true rfl, Nat.le_of_ble_eq_true rfl⟩ (fun r_131 u_131 H locs hp_131 G => ?_)
            obtain ⟨rfl, rfl⟩ := hp_131
            have G : gS D aC A s _ _ (gk _) H locs := G
            refine g_top hst1 ?_
            refine lv_istore (lv' := [(9, _), (8, _), (7, _), (6, _), (5, _), (0, _), (1, _), (2, _), (3, _), (4, _)]) S.1 S.2.1 dL_samples_134 hl (by decide) rfl (fun ls hl => ?_)
            refine lv_aload_n S.1 S.2.1 dL_samples_136 rfl (lv_at hl 5 rfl) ?_
            refine lv_iload S.1 S.2.1 dL_samples_137 (lv_at hl 4 rfl) ?_
            refine g_cVi S G hF hl 7 (hV 7 _ (by first | decide | (show _ < 1; omega))) (by decide) (c_X6_heldk l _ _ _ _ hV hW hr9) (cwV 1 S.2.2.2.2 gL_samples_X6_held rfl rfl rfl (by decide +kernel) ⟨Nat.le_of_ble_eq_true rfl, Nat.le_of_ble_eq_true rfl⟩) rfl rfl (Nat.le_of_ble_eq_true rfl) dL_samples_139 ⟨Nat.le_of_ble_eq_true rfl, Nat.le_of_ble_eq_true rfl⟩ (fun r_139 u_139 H locs hp_139 G => ?_)
            obtain ⟨rfl, rfl⟩ := hp_139
            have G : gS D aC A s _ _ (gk _) H locs := G
            refine lv_istore (lv' := [(10, _), (9, _), (8, _), (7, _), (6, _), (5, _), (0, _), (1, _), (2, _), (3, _), (4, _)]) S.1 S.2.1 dL_samples_142 hl (by decide) rfl (fun ls hl => ?_)
            refine lv_aload_n S.1 S.2.1 dL_samples_144 rfl (lv_at hl 6 rfl) ?_
            refine lv_iload S.1 S.2.1 dL_samples_145 (lv_at hl 4 rfl) ?_
            refine g_cVi S G hF hl 7 (hV 7 _ (by first | decide | (show _ < 1; omega))) (by decide) (c_X6_earnedk l _ _ _ _ hV b1) (cwV 1 S.2.2.2.2 gL_samples_X6_earned rfl rfl rfl (by decide +kernel) ⟨Nat.le_of_ble_eq_true rfl, Nat.le_of_ble_eq_true rfl⟩) rfl rfl (Nat.le_of_ble_eq_true rfl) dL_samples_147 ⟨Nat.le_of_ble_eq_true rfl, Nat.le_of_ble_eq_true rfl⟩ (fun r_147 u_147 H locs hp_147 G => ?_)
            obtain ⟨rfl, rfl⟩ := hp_147
            have G : gS D aC A s _ _ (gk _) H locs := G
            refine lv_istore (lv' := [(11, _), (10, _), (9, _), (8, _), (7, _), (6, _), (5, _), (0, _), (1, _), (2, _), (3, _), (4, _)]) S.1 S.2.1 dL_samples_150 hl (by decide) rfl (fun ls hl => ?_)
            refine lv_aload_n S.1 S.2.1 dL_samples_152 rfl (lv_at hl 7 rfl) ?_
            refine lv_iload S.1 S.2.1 dL_samples_153 (lv_at hl 5 rfl) ?_
            refine g_cVi S G hF hl 7 (hV 7 _ (by first | decide | (show _ < 1; omega))) (by decide) (c_X6_bondk l _ _ _ _ hV b1) (cwV 1 S.2.2.2.2 gL_samples_X6_bond rfl rfl rfl (by decide +kernel) ⟨Nat.le_of_ble_eq_true rfl, Nat.le_of_ble_eq_true rfl⟩) rfl rfl (Nat.le_of_ble_eq_true rfl) dL_samples_155 ⟨Nat.le_of_ble_eq_true rfl, Nat.le_of_ble_eq_true rfl⟩ (fun r_155 u_155 H locs hp_155 G => ?_)
            obtain ⟨rfl, rfl⟩ := hp_155
            have G : gS D aC A s _ _ (gk _) H locs := G
            refine lv_istore (lv' := [(12, _), (11, _), (10, _), (9, _), (8, _), (7, _), (6, _), (5, _), (0, _), (1, _), (2, _), (3, _), (4, _)]) S.1 S.2.1 dL_samples_158 hl (by decide) rfl (fun ls hl => ?_)
            refine lv_aload_n S.1 S.2.1 dL_samples_160 rfl (lv_at hl 8 rfl) ?_
            refine g_cVi S G hF hl 7 (hV 7 _ (by first | decide | (show _ < 1; omega))) (by decide) (c_X6_house l _ _ _ hV) (cwV 0 S.2.2.2.2 gL_samples_X6_house rfl rfl rfl (by decide +kernel) ⟨Nat.le_of_ble_eq_true rfl, Nat.le_of_ble_eq_true rfl⟩) rfl rfl (Nat.le_of_ble_eq_true rfl) dL_samples_161 ⟨Nat.le_of_ble_eq_true rfl, Nat.le_of_ble_eq_true rfl⟩ (fun r_161 u_161 H locs hp_161 G => ?_)
            obtain ⟨rfl, rfl⟩ := hp_161
            have G : gS D aC A s _ _ (gk _) H locs := G
            refine lv_istore (lv' := [(13, _), (12, _), (11, _), (10, _), (9, _), (8, _), (7, _), (6, _), (5, _), (0, _), (1, _), (2, _), (3, _), (4, _)]) S.1 S.2.1 dL_samples_164 hl (by decide) rfl (fun ls hl => ?_)
            refine lv_aload_n S.1 S.2.1 dL_samples_166 rfl (lv_at hl 9 rfl) ?_
            refine lv_iconst (v := 3) S.1 S.2.1 dL_samples_167 (by decide) ?_
            refine lv_iload S.1 S.2.1 dL_samples_168 (lv_at hl 6 rfl) ?_
            refine lv_iload S.1 S.2.1 dL_samples_170 (lv_at hl 8 rfl) ?_
            refine lv_iload S.1 S.2.1 dL_samples_172 (lv_at hl 5 rfl) ?_
            refine g_cSWi S G hF hl (c_L_asks_sample l hlf ids ad _ _ _ _ hV hW hno) (vx_cwSW 5 S.2.2.2.2 gL_samples_L_asks rfl rfl rfl (by decide +kernel) ⟨Nat.le_of_ble_eq_true rfl, Nat.le_of_ble_eq_true rfl⟩) rfl rfl (Nat.le_of_ble_eq_true rfl) dL_samples_174 ⟨Nat.le_of_ble_eq_true rfl, Nat.le_of_ble_eq_true rfl⟩ (fun r9 u9 H locs hp G => ?_)
            obtain ⟨rfl, rfl⟩ := or3_0 hp hT
            have G : gS D aC A s _ _ (gk _) H locs := G
            rw [tN_nI (show o9 < 2 ^ 31 by omega), tN_nI (show r9 < 2 ^ 31 by omega)] at G
            obtain ⟨κ2, ek⟩ : ∃ z, sSampleK κ o9 r9 (nI w9) = z := ⟨_, rfl⟩
            rw [ek] at G J5 hq
            have hV := J5.1.1
            have hW := J5.1.2.1
            have hr5 : r9 < tN (κ2 7 0 4) := by rw [← ek, n5]; exact hr9
            rcases hq with ⟨p1, p2, p3, p4⟩ | ⟨p1, p2, p3⟩ | ⟨p1, p2, p3, p4⟩
            · refine g_top (show _ = (1 : Int32) from by rw [tN_nI (show o9 < 2 ^ 31 by omega), tN_nI (show r9 < 2 ^ 31 by omega), ek]; exact p1) ?_
              refine lv_istore (lv' := [(14, _), (13, _), (12, _), (11, _), (10, _), (9, _), (8, _), (7, _), (6, _), (5, _), (0, _), (1, _), (2, _), (3, _), (4, _)]) S.1 S.2.1 dL_samples_177 hl (by decide) rfl (fun ls hl => ?_)
              refine lv_iload S.1 S.2.1 dL_samples_179 (lv_at hl 0 rfl) ?_
              refine lv_if_ge (tgt := 219) S.1 S.2.1 dL_samples_181 (by decide) (fun c_181 => ?_) (fun c_181 => ?_)
              · refine lv_iload S.1 S.2.1 dL_samples_219 (lv_at hl 5 rfl) ?_
                refine lv_iconst (v := 1) S.1 S.2.1 dL_samples_221 (by decide) ?_
                refine lv_icmp_ne (tgt := 261) S.1 S.2.1 dL_samples_222 (by decide) (fun c_222 => ?_) (fun c_222 => ?_)
                · exact absurd c_222 (by decide)
                · refine lv_iload S.1 S.2.1 dL_samples_225 (lv_at hl 7 rfl) ?_
                  refine lv_iload S.1 S.2.1 dL_samples_227 (lv_at hl 8 rfl) ?_
                  refine g_cSi S G hF hl (c_L_areNear l _ _ _ _ _) (va_cwS 2 S.2.2.2.2 gL_samples_L_areNear rfl rfl rfl (by decide +kernel) ⟨Nat.le_of_ble_eq_true rfl, Nat.le_of_ble_eq_true rfl⟩) rfl rfl (Nat.le_of_ble_eq_true rfl) dL_samples_229 ⟨Nat.le_of_ble_eq_true rfl, Nat.le_of_ble_eq_true rfl⟩ (fun r_229 u_229 H locs hp_229 G => ?_)
                  obtain ⟨rfl, rfl⟩ := hp_229
                  have G : gS D aC A s _ _ (gk _) H locs := G
                  refine lv_if_eq (tgt := 261) S.1 S.2.1 dL_samples_232 (by decide) (fun c_232 => ?_) (fun c_232 => ?_)
                  · exact absurd ((lNb_eq o9 ho9 s9 b1).symm.trans c_232) hnb
                  · refine lv_iload S.1 S.2.1 dL_samples_235 (lv_at hl 0 rfl) ?_
                    refine lv_aload_n S.1 S.2.1 dL_samples_237 rfl (lv_at hl 10 rfl) ?_
                    refine lv_iload S.1 S.2.1 dL_samples_238 (lv_at hl 9 rfl) ?_
                    refine g_cVi S G hF hl 7 (hV 7 _ (by first | decide | (show _ < 1; omega))) (by decide) (c_X6_stateOfk l _ _ _ _ hV hW hr5) (cwV 1 S.2.2.2.2 gL_samples_X6_stateOf rfl rfl rfl (by decide +kernel) ⟨Nat.le_of_ble_eq_true rfl, Nat.le_of_ble_eq_true rfl⟩) rfl rfl (Nat.le_of_ble_eq_true rfl) dL_samples_240 ⟨Nat.le_of_ble_eq_true rfl, Nat.le_of_ble_eq_true rfl⟩ (fun r_240 u_240 H locs hp_240 G => ?_)
                    obtain ⟨rfl, rfl⟩ := hp_240
                    have G : gS D aC A s _ _ (gk _) H locs := G
                    refine g_top p1 ?_
                    refine lv_icmp_ne (tgt := 261) S.1 S.2.1 dL_samples_243 (by decide) (fun c_243 => ?_) (fun c_243 => ?_)
                    · exact absurd c_243 (by decide)
                    · refine lv_iload S.1 S.2.1 dL_samples_246 (lv_at hl 0 rfl) ?_
                      refine lv_if_le (tgt := 261) S.1 S.2.1 dL_samples_248 (by decide) (fun c_248 => ?_) (fun c_248 => ?_)
                      · exact absurd c_248 (by decide)
                      · refine lv_iload S.1 S.2.1 dL_samples_251 (lv_at hl 0 rfl) ?_
                        refine lv_iconst (v := 4) S.1 S.2.1 dL_samples_253 (by decide) ?_
                        refine lv_icmp_ge (tgt := 261) S.1 S.2.1 dL_samples_254 (by decide) (fun c_254 => ?_) (fun c_254 => ?_)
                        · exact absurd c_254 (by decide)
                        · refine lv_iconst (v := 1) S.1 S.2.1 dL_samples_257 (by decide) ?_
                          refine lv_goto (tgt := 262) S.1 S.2.1 dL_samples_258 (by decide) ?_
                          refine lv_istore (lv' := [(15, _), (14, _), (13, _), (12, _), (11, _), (10, _), (9, _), (8, _), (7, _), (6, _), (5, _), (0, _), (1, _), (2, _), (3, _), (4, _)]) S.1 S.2.1 dL_samples_262 hl (by decide) rfl (fun ls hl => ?_)
                          refine lv_iload S.1 S.2.1 dL_samples_264 (lv_at hl 0 rfl) ?_
                          refine lv_if_eq (tgt := 393) S.1 S.2.1 dL_samples_266 (by decide) (fun c_266 => ?_) (fun c_266 => ?_)
                          · exact absurd c_266 (by decide)
                          · refine lv_iload S.1 S.2.1 dL_samples_269 (lv_at hl 1 rfl) ?_
                            refine lv_iconst (v := 1) S.1 S.2.1 dL_samples_271 (by decide) ?_
                            refine lv_icmp_ne (tgt := 311) S.1 S.2.1 dL_samples_272 (by decide) (fun c_272 => ?_) (fun c_272 => ?_)
                            · exact absurd c_272 (by decide)
                            · refine lv_aload_n S.1 S.2.1 dL_samples_275 rfl (lv_at hl 11 rfl) ?_
                              refine lv_iload S.1 S.2.1 dL_samples_276 (lv_at hl 10 rfl) ?_
                              refine g_cVi S G hF hl 7 (hV 7 _ (by first | decide | (show _ < 1; omega))) (by decide) (c_X6_heldk l _ _ _ _ hV hW hr5) (cwV 1 S.2.2.2.2 gL_samples_X6_held rfl rfl rfl (by decide +kernel) ⟨Nat.le_of_ble_eq_true rfl, Nat.le_of_ble_eq_true rfl⟩) rfl rfl (Nat.le_of_ble_eq_true rfl) dL_samples_278 ⟨Nat.le_of_ble_eq_true rfl, Nat.le_of_ble_eq_true rfl⟩ (fun r_278 u_278 H locs hp_278 G => ?_)
                              obtain ⟨rfl, rfl⟩ := hp_278
                              have G : gS D aC A s _ _ (gk _) H locs := G
                              refine g_top p2 ?_
                              refine lv_iload S.1 S.2.1 dL_samples_281 (lv_at hl 5 rfl) ?_
                              refine lv_icmp_ne (tgt := 393) S.1 S.2.1 dL_samples_283 (by decide) (fun c_283 => ?_) (fun c_283 => ?_)
                              · exact absurd rfl c_283
                              · refine lv_aload_n S.1 S.2.1 dL_samples_286 rfl (lv_at hl 11 rfl) ?_
                                refine lv_iload S.1 S.2.1 dL_samples_287 (lv_at hl 9 rfl) ?_
                                refine g_cVi S G hF hl 7 (hV 7 _ (by first | decide | (show _ < 1; omega))) (by decide) (c_X6_earnedk l _ _ _ _ hV b1) (cwV 1 S.2.2.2.2 gL_samples_X6_earned rfl rfl rfl (by decide +kernel) ⟨Nat.le_of_ble_eq_true rfl, Nat.le_of_ble_eq_true rfl⟩) rfl rfl (Nat.le_of_ble_eq_true rfl) dL_samples_289 ⟨Nat.le_of_ble_eq_true rfl, Nat.le_of_ble_eq_true rfl⟩ (fun r_289 u_289 H locs hp_289 G => ?_)
                                obtain ⟨rfl, rfl⟩ := hp_289
                                have G : gS D aC A s _ _ (gk _) H locs := G
                                refine g_top p3 ?_
                                refine lv_iload S.1 S.2.1 dL_samples_292 (lv_at hl 4 rfl) ?_
                                refine lv_icmp_ne (tgt := 393) S.1 S.2.1 dL_samples_294 (by decide) (fun c_294 => ?_) (fun c_294 => ?_)
                                · exact absurd rfl c_294
                                · refine lv_aload_n S.1 S.2.1 dL_samples_297 rfl (lv_at hl 11 rfl) ?_
                                  refine lv_iload S.1 S.2.1 dL_samples_298 (lv_at hl 9 rfl) ?_
                                  refine g_cVi S G hF hl 7 (hV 7 _ (by first | decide | (show _ < 1; omega))) (by decide) (c_X6_bondk l _ _ _ _ hV b1) (cwV 1 S.2.2.2.2 gL_samples_X6_bond rfl rfl rfl (by decide +kernel) ⟨Nat.le_of_ble_eq_true rfl, Nat.le_of_ble_eq_true rfl⟩) rfl rfl (Nat.le_of_ble_eq_true rfl) dL_samples_300 ⟨Nat.le_of_ble_eq_true rfl, Nat.le_of_ble_eq_true rfl⟩ (fun r_300 u_300 H locs hp_300 G => ?_)
                                  obtain ⟨rfl, rfl⟩ := hp_300
                                  have G : gS D aC A s _ _ (gk _) H locs := G
                                  refine g_top p4 ?_
                                  refine lv_iload S.1 S.2.1 dL_samples_303 (lv_at hl 3 rfl) ?_
                                  refine lv_icmp_ne (tgt := 393) S.1 S.2.1 dL_samples_305 (by decide) (fun c_305 => ?_) (fun c_305 => ?_)
                                  · exact absurd rfl c_305
                                  · refine lv_goto (tgt := 389) S.1 S.2.1 dL_samples_308 (by decide) ?_
                                    refine lv_iconst (v := 1) S.1 S.2.1 dL_samples_389 (by decide) ?_
                                    refine lv_goto (tgt := 394) S.1 S.2.1 dL_samples_390 (by decide) ?_
                                    exact g_zret S G hr hlk (by decide) (⟨rfl, ids, ad, κ2, rfl, J5.up (by omega) (Nat.le_refl _), rfl, rfl, rfl, rfl⟩) (Nat.le_of_ble_eq_true rfl) (Nat.le_of_ble_eq_true rfl) dL_samples_394
              · exact absurd c_181 (by decide)
            · refine g_top (show _ = (2 : Int32) from by rw [tN_nI (show o9 < 2 ^ 31 by omega), tN_nI (show r9 < 2 ^ 31 by omega), ek]; exact p1) ?_
              refine lv_istore (lv' := [(14, _), (13, _), (12, _), (11, _), (10, _), (9, _), (8, _), (7, _), (6, _), (5, _), (0, _), (1, _), (2, _), (3, _), (4, _)]) S.1 S.2.1 dL_samples_177 hl (by decide) rfl (fun ls hl => ?_)
              refine lv_iload S.1 S.2.1 dL_samples_179 (lv_at hl 0 rfl) ?_
              refine lv_if_ge (tgt := 219) S.1 S.2.1 dL_samples_181 (by decide) (fun c_181 => ?_) (fun c_181 => ?_)
              · refine lv_iload S.1 S.2.1 dL_samples_219 (lv_at hl 5 rfl) ?_
                refine lv_iconst (v := 1) S.1 S.2.1 dL_samples_221 (by decide) ?_
                refine lv_icmp_ne (tgt := 261) S.1 S.2.1 dL_samples_222 (by decide) (fun c_222 => ?_) (fun c_222 => ?_)
                · exact absurd c_222 (by decide)
                · refine lv_iload S.1 S.2.1 dL_samples_225 (lv_at hl 7 rfl) ?_
                  refine lv_iload S.1 S.2.1 dL_samples_227 (lv_at hl 8 rfl) ?_
                  refine g_cSi S G hF hl (c_L_areNear l _ _ _ _ _) (va_cwS 2 S.2.2.2.2 gL_samples_L_areNear rfl rfl rfl (by decide +kernel) ⟨Nat.le_of_ble_eq_true rfl, Nat.le_of_ble_eq_true rfl⟩) rfl rfl (Nat.le_of_ble_eq_true rfl) dL_samples_229 ⟨Nat.le_of_ble_eq_true rfl, Nat.le_of_ble_eq_true rfl⟩ (fun r_229 u_229 H locs hp_229 G => ?_)
                  obtain ⟨rfl, rfl⟩ := hp_229
                  have G : gS D aC A s _ _ (gk _) H locs := G
                  refine lv_if_eq (tgt := 261) S.1 S.2.1 dL_samples_232 (by decide) (fun c_232 => ?_) (fun c_232 => ?_)
                  · exact absurd ((lNb_eq o9 ho9 s9 b1).symm.trans c_232) hnb
                  · refine lv_iload S.1 S.2.1 dL_samples_235 (lv_at hl 0 rfl) ?_
                    refine lv_aload_n S.1 S.2.1 dL_samples_237 rfl (lv_at hl 10 rfl) ?_
                    refine lv_iload S.1 S.2.1 dL_samples_238 (lv_at hl 9 rfl) ?_
                    refine g_cVi S G hF hl 7 (hV 7 _ (by first | decide | (show _ < 1; omega))) (by decide) (c_X6_stateOfk l _ _ _ _ hV hW hr5) (cwV 1 S.2.2.2.2 gL_samples_X6_stateOf rfl rfl rfl (by decide +kernel) ⟨Nat.le_of_ble_eq_true rfl, Nat.le_of_ble_eq_true rfl⟩) rfl rfl (Nat.le_of_ble_eq_true rfl) dL_samples_240 ⟨Nat.le_of_ble_eq_true rfl, Nat.le_of_ble_eq_true rfl⟩ (fun r_240 u_240 H locs hp_240 G => ?_)
                    obtain ⟨rfl, rfl⟩ := hp_240
                    have G : gS D aC A s _ _ (gk _) H locs := G
                    refine g_top p1 ?_
                    refine lv_icmp_ne (tgt := 261) S.1 S.2.1 dL_samples_243 (by decide) (fun c_243 => ?_) (fun c_243 => ?_)
                    · exact absurd c_243 (by decide)
                    · refine lv_iload S.1 S.2.1 dL_samples_246 (lv_at hl 0 rfl) ?_
                      refine lv_if_le (tgt := 261) S.1 S.2.1 dL_samples_248 (by decide) (fun c_248 => ?_) (fun c_248 => ?_)
                      · exact absurd c_248 (by decide)
                      · refine lv_iload S.1 S.2.1 dL_samples_251 (lv_at hl 0 rfl) ?_
                        refine lv_iconst (v := 4) S.1 S.2.1 dL_samples_253 (by decide) ?_
                        refine lv_icmp_ge (tgt := 261) S.1 S.2.1 dL_samples_254 (by decide) (fun c_254 => ?_) (fun c_254 => ?_)
                        · exact absurd c_254 (by decide)
                        · refine lv_iconst (v := 1) S.1 S.2.1 dL_samples_257 (by decide) ?_
                          refine lv_goto (tgt := 262) S.1 S.2.1 dL_samples_258 (by decide) ?_
                          refine lv_istore (lv' := [(15, _), (14, _), (13, _), (12, _), (11, _), (10, _), (9, _), (8, _), (7, _), (6, _), (5, _), (0, _), (1, _), (2, _), (3, _), (4, _)]) S.1 S.2.1 dL_samples_262 hl (by decide) rfl (fun ls hl => ?_)
                          refine lv_iload S.1 S.2.1 dL_samples_264 (lv_at hl 0 rfl) ?_
                          refine lv_if_eq (tgt := 393) S.1 S.2.1 dL_samples_266 (by decide) (fun c_266 => ?_) (fun c_266 => ?_)
                          · exact absurd c_266 (by decide)
                          · refine lv_iload S.1 S.2.1 dL_samples_269 (lv_at hl 1 rfl) ?_
                            refine lv_iconst (v := 1) S.1 S.2.1 dL_samples_271 (by decide) ?_
                            refine lv_icmp_ne (tgt := 311) S.1 S.2.1 dL_samples_272 (by decide) (fun c_272 => ?_) (fun c_272 => ?_)
                            · refine lv_iload S.1 S.2.1 dL_samples_311 (lv_at hl 1 rfl) ?_
                              refine lv_iconst (v := 2) S.1 S.2.1 dL_samples_313 (by decide) ?_
                              refine lv_icmp_ne (tgt := 347) S.1 S.2.1 dL_samples_314 (by decide) (fun c_314 => ?_) (fun c_314 => ?_)
                              · exact absurd c_314 (by decide)
                              · refine lv_aload_n S.1 S.2.1 dL_samples_317 rfl (lv_at hl 11 rfl) ?_
                                refine lv_iload S.1 S.2.1 dL_samples_318 (lv_at hl 9 rfl) ?_
                                refine g_cVi S G hF hl 7 (hV 7 _ (by first | decide | (show _ < 1; omega))) (by decide) (c_X6_earnedk l _ _ _ _ hV b1) (cwV 1 S.2.2.2.2 gL_samples_X6_earned rfl rfl rfl (by decide +kernel) ⟨Nat.le_of_ble_eq_true rfl, Nat.le_of_ble_eq_true rfl⟩) rfl rfl (Nat.le_of_ble_eq_true rfl) dL_samples_320 ⟨Nat.le_of_ble_eq_true rfl, Nat.le_of_ble_eq_true rfl⟩ (fun r_320 u_320 H locs hp_320 G => ?_)
                                obtain ⟨rfl, rfl⟩ := hp_320
                                have G : gS D aC A s _ _ (gk _) H locs := G
                                refine g_top p2 ?_
                                refine lv_iload S.1 S.2.1 dL_samples_323 (lv_at hl 4 rfl) ?_
                                refine lv_iload S.1 S.2.1 dL_samples_325 (lv_at hl 5 rfl) ?_
                                refine lv_iadd S.1 S.2.1 dL_samples_327 ?_
                                refine lv_iconst (v := 4) S.1 S.2.1 dL_samples_328 (by decide) ?_
                                refine lv_iadd S.1 S.2.1 dL_samples_329 ?_
                                refine lv_icmp_ne (tgt := 393) S.1 S.2.1 dL_samples_330 (by decide) (fun c_330 => ?_) (fun c_330 => ?_)
                                · exact absurd rfl c_330
                                · refine lv_aload_n S.1 S.2.1 dL_samples_333 rfl (lv_at hl 11 rfl) ?_
                                  refine lv_iload S.1 S.2.1 dL_samples_334 (lv_at hl 9 rfl) ?_
                                  refine g_cVi S G hF hl 7 (hV 7 _ (by first | decide | (show _ < 1; omega))) (by decide) (c_X6_bondk l _ _ _ _ hV b1) (cwV 1 S.2.2.2.2 gL_samples_X6_bond rfl rfl rfl (by decide +kernel) ⟨Nat.le_of_ble_eq_true rfl, Nat.le_of_ble_eq_true rfl⟩) rfl rfl (Nat.le_of_ble_eq_true rfl) dL_samples_336 ⟨Nat.le_of_ble_eq_true rfl, Nat.le_of_ble_eq_true rfl⟩ (fun r_336 u_336 H locs hp_336 G => ?_)
                                  obtain ⟨rfl, rfl⟩ := hp_336
                                  have G : gS D aC A s _ _ (gk _) H locs := G
                                  refine g_top p3 ?_
                                  refine lv_iload S.1 S.2.1 dL_samples_339 (lv_at hl 3 rfl) ?_
                                  refine lv_icmp_ne (tgt := 393) S.1 S.2.1 dL_samples_341 (by decide) (fun c_341 => ?_) (fun c_341 => ?_)
                                  · exact absurd rfl c_341
                                  · refine lv_goto (tgt := 389) S.1 S.2.1 dL_samples_344 (by decide) ?_
                                    refine lv_iconst (v := 1) S.1 S.2.1 dL_samples_389 (by decide) ?_
                                    refine lv_goto (tgt := 394) S.1 S.2.1 dL_samples_390 (by decide) ?_
                                    exact g_zret S G hr hlk (by decide) (⟨rfl, ids, ad, κ2, rfl, J5.up (by omega) (Nat.le_refl _), rfl, rfl, rfl, rfl⟩) (Nat.le_of_ble_eq_true rfl) (Nat.le_of_ble_eq_true rfl) dL_samples_394
                            · exact absurd c_272 (by decide)
              · exact absurd c_181 (by decide)
            · refine g_top (show _ = (3 : Int32) from by rw [tN_nI (show o9 < 2 ^ 31 by omega), tN_nI (show r9 < 2 ^ 31 by omega), ek]; exact p1) ?_
              refine lv_istore (lv' := [(14, _), (13, _), (12, _), (11, _), (10, _), (9, _), (8, _), (7, _), (6, _), (5, _), (0, _), (1, _), (2, _), (3, _), (4, _)]) S.1 S.2.1 dL_samples_177 hl (by decide) rfl (fun ls hl => ?_)
              refine lv_iload S.1 S.2.1 dL_samples_179 (lv_at hl 0 rfl) ?_
              refine lv_if_ge (tgt := 219) S.1 S.2.1 dL_samples_181 (by decide) (fun c_181 => ?_) (fun c_181 => ?_)
              · refine lv_iload S.1 S.2.1 dL_samples_219 (lv_at hl 5 rfl) ?_
                refine lv_iconst (v := 1) S.1 S.2.1 dL_samples_221 (by decide) ?_
                refine lv_icmp_ne (tgt := 261) S.1 S.2.1 dL_samples_222 (by decide) (fun c_222 => ?_) (fun c_222 => ?_)
                · exact absurd c_222 (by decide)
                · refine lv_iload S.1 S.2.1 dL_samples_225 (lv_at hl 7 rfl) ?_
                  refine lv_iload S.1 S.2.1 dL_samples_227 (lv_at hl 8 rfl) ?_
                  refine g_cSi S G hF hl (c_L_areNear l _ _ _ _ _) (va_cwS 2 S.2.2.2.2 gL_samples_L_areNear rfl rfl rfl (by decide +kernel) ⟨Nat.le_of_ble_eq_true rfl, Nat.le_of_ble_eq_true rfl⟩) rfl rfl (Nat.le_of_ble_eq_true rfl) dL_samples_229 ⟨Nat.le_of_ble_eq_true rfl, Nat.le_of_ble_eq_true rfl⟩ (fun r_229 u_229 H locs hp_229 G => ?_)
                  obtain ⟨rfl, rfl⟩ := hp_229
                  have G : gS D aC A s _ _ (gk _) H locs := G
                  refine lv_if_eq (tgt := 261) S.1 S.2.1 dL_samples_232 (by decide) (fun c_232 => ?_) (fun c_232 => ?_)
                  · exact absurd ((lNb_eq o9 ho9 s9 b1).symm.trans c_232) hnb
                  · refine lv_iload S.1 S.2.1 dL_samples_235 (lv_at hl 0 rfl) ?_
                    refine lv_aload_n S.1 S.2.1 dL_samples_237 rfl (lv_at hl 10 rfl) ?_
                    refine lv_iload S.1 S.2.1 dL_samples_238 (lv_at hl 9 rfl) ?_
                    refine g_cVi S G hF hl 7 (hV 7 _ (by first | decide | (show _ < 1; omega))) (by decide) (c_X6_stateOfk l _ _ _ _ hV hW hr5) (cwV 1 S.2.2.2.2 gL_samples_X6_stateOf rfl rfl rfl (by decide +kernel) ⟨Nat.le_of_ble_eq_true rfl, Nat.le_of_ble_eq_true rfl⟩) rfl rfl (Nat.le_of_ble_eq_true rfl) dL_samples_240 ⟨Nat.le_of_ble_eq_true rfl, Nat.le_of_ble_eq_true rfl⟩ (fun r_240 u_240 H locs hp_240 G => ?_)
                    obtain ⟨rfl, rfl⟩ := hp_240
                    have G : gS D aC A s _ _ (gk _) H locs := G
                    refine g_top p1 ?_
                    refine lv_icmp_ne (tgt := 261) S.1 S.2.1 dL_samples_243 (by decide) (fun c_243 => ?_) (fun c_243 => ?_)
                    · exact absurd c_243 (by decide)
                    · refine lv_iload S.1 S.2.1 dL_samples_246 (lv_at hl 0 rfl) ?_
                      refine lv_if_le (tgt := 261) S.1 S.2.1 dL_samples_248 (by decide) (fun c_248 => ?_) (fun c_248 => ?_)
                      · exact absurd c_248 (by decide)
                      · refine lv_iload S.1 S.2.1 dL_samples_251 (lv_at hl 0 rfl) ?_
                        refine lv_iconst (v := 4) S.1 S.2.1 dL_samples_253 (by decide) ?_
                        refine lv_icmp_ge (tgt := 261) S.1 S.2.1 dL_samples_254 (by decide) (fun c_254 => ?_) (fun c_254 => ?_)
                        · exact absurd c_254 (by decide)
                        · refine lv_iconst (v := 1) S.1 S.2.1 dL_samples_257 (by decide) ?_
                          refine lv_goto (tgt := 262) S.1 S.2.1 dL_samples_258 (by decide) ?_
                          refine lv_istore (lv' := [(15, _), (14, _), (13, _), (12, _), (11, _), (10, _), (9, _), (8, _), (7, _), (6, _), (5, _), (0, _), (1, _), (2, _), (3, _), (4, _)]) S.1 S.2.1 dL_samples_262 hl (by decide) rfl (fun ls hl => ?_)
                          refine lv_iload S.1 S.2.1 dL_samples_264 (lv_at hl 0 rfl) ?_
                          refine lv_if_eq (tgt := 393) S.1 S.2.1 dL_samples_266 (by decide) (fun c_266 => ?_) (fun c_266 => ?_)
                          · exact absurd c_266 (by decide)
                          · refine lv_iload S.1 S.2.1 dL_samples_269 (lv_at hl 1 rfl) ?_
                            refine lv_iconst (v := 1) S.1 S.2.1 dL_samples_271 (by decide) ?_
                            refine lv_icmp_ne (tgt := 311) S.1 S.2.1 dL_samples_272 (by decide) (fun c_272 => ?_) (fun c_272 => ?_)
                            · refine lv_iload S.1 S.2.1 dL_samples_311 (lv_at hl 1 rfl) ?_
                              refine lv_iconst (v := 2) S.1 S.2.1 dL_samples_313 (by decide) ?_
                              refine lv_icmp_ne (tgt := 347) S.1 S.2.1 dL_samples_314 (by decide) (fun c_314 => ?_) (fun c_314 => ?_)
                              · refine lv_aload_n S.1 S.2.1 dL_samples_347 rfl (lv_at hl 11 rfl) ?_
                                refine lv_iload S.1 S.2.1 dL_samples_348 (lv_at hl 9 rfl) ?_
                                refine g_cVi S G hF hl 7 (hV 7 _ (by first | decide | (show _ < 1; omega))) (by decide) (c_X6_earnedk l _ _ _ _ hV b1) (cwV 1 S.2.2.2.2 gL_samples_X6_earned rfl rfl rfl (by decide +kernel) ⟨Nat.le_of_ble_eq_true rfl, Nat.le_of_ble_eq_true rfl⟩) rfl rfl (Nat.le_of_ble_eq_true rfl) dL_samples_350 ⟨Nat.le_of_ble_eq_true rfl, Nat.le_of_ble_eq_true rfl⟩ (fun r_350 u_350 H locs hp_350 G => ?_)
                                obtain ⟨rfl, rfl⟩ := hp_350
                                have G : gS D aC A s _ _ (gk _) H locs := G
                                refine g_top p2 ?_
                                refine lv_iload S.1 S.2.1 dL_samples_353 (lv_at hl 4 rfl) ?_
                                refine lv_icmp_ne (tgt := 393) S.1 S.2.1 dL_samples_355 (by decide) (fun c_355 => ?_) (fun c_355 => ?_)
                                · exact absurd rfl c_355
                                · refine lv_aload_n S.1 S.2.1 dL_samples_358 rfl (lv_at hl 11 rfl) ?_
                                  refine lv_iload S.1 S.2.1 dL_samples_359 (lv_at hl 9 rfl) ?_
                                  refine g_cVi S G hF hl 7 (hV 7 _ (by first | decide | (show _ < 1; omega))) (by decide) (c_X6_bondk l _ _ _ _ hV b1) (cwV 1 S.2.2.2.2 gL_samples_X6_bond rfl rfl rfl (by decide +kernel) ⟨Nat.le_of_ble_eq_true rfl, Nat.le_of_ble_eq_true rfl⟩) rfl rfl (Nat.le_of_ble_eq_true rfl) dL_samples_361 ⟨Nat.le_of_ble_eq_true rfl, Nat.le_of_ble_eq_true rfl⟩ (fun r_361 u_361 H locs hp_361 G => ?_)
                                  obtain ⟨rfl, rfl⟩ := hp_361
                                  have G : gS D aC A s _ _ (gk _) H locs := G
                                  refine lv_iload S.1 S.2.1 dL_samples_364 (lv_at hl 3 rfl) ?_
                                  refine lv_iload S.1 S.2.1 dL_samples_366 (lv_at hl 3 rfl) ?_
                                  refine lv_if_ne (tgt := 375) S.1 S.2.1 dL_samples_368 (by decide) (fun c_368 => ?_) (fun c_368 => ?_)
                                  · refine lv_iconst (v := 0) S.1 S.2.1 dL_samples_375 (by decide) ?_
                                    refine lv_iadd S.1 S.2.1 dL_samples_376 ?_
                                    refine lv_icmp_ge (tgt := 393) S.1 S.2.1 dL_samples_377 (by decide) (fun c_377 => ?_) (fun c_377 => ?_)
                                    · exact absurd c_377 (by have q := p3; rw [if_neg c_368] at q; exact q)
                                    · refine lv_aload_n S.1 S.2.1 dL_samples_380 rfl (lv_at hl 11 rfl) ?_
                                      refine g_cVi S G hF hl 7 (hV 7 _ (by first | decide | (show _ < 1; omega))) (by decide) (c_X6_house l _ _ _ hV) (cwV 0 S.2.2.2.2 gL_samples_X6_house rfl rfl rfl (by decide +kernel) ⟨Nat.le_of_ble_eq_true rfl, Nat.le_of_ble_eq_true rfl⟩) rfl rfl (Nat.le_of_ble_eq_true rfl) dL_samples_381 ⟨Nat.le_of_ble_eq_true rfl, Nat.le_of_ble_eq_true rfl⟩ (fun r_381 u_381 H locs hp_381 G => ?_)
                                      obtain ⟨rfl, rfl⟩ := hp_381
                                      have G : gS D aC A s _ _ (gk _) H locs := G
                                      refine lv_iload S.1 S.2.1 dL_samples_384 (lv_at hl 2 rfl) ?_
                                      refine lv_icmp_lt (tgt := 393) S.1 S.2.1 dL_samples_386 (by decide) (fun c_386 => ?_) (fun c_386 => ?_)
                                      · exact absurd c_386 p4
                                      · refine lv_iconst (v := 1) S.1 S.2.1 dL_samples_389 (by decide) ?_
                                        refine lv_goto (tgt := 394) S.1 S.2.1 dL_samples_390 (by decide) ?_
                                        exact g_zret S G hr hlk (by decide) (⟨rfl, ids, ad, κ2, rfl, J5.up (by omega) (Nat.le_refl _), rfl, rfl, rfl, rfl⟩) (Nat.le_of_ble_eq_true rfl) (Nat.le_of_ble_eq_true rfl) dL_samples_394
                                  · refine lv_iconst (v := 1) S.1 S.2.1 dL_samples_371 (by decide) ?_
                                    refine lv_goto (tgt := 376) S.1 S.2.1 dL_samples_372 (by decide) ?_
                                    refine lv_iadd S.1 S.2.1 dL_samples_376 ?_
                                    refine lv_icmp_ge (tgt := 393) S.1 S.2.1 dL_samples_377 (by decide) (fun c_377 => ?_) (fun c_377 => ?_)
                                    · exact absurd c_377 (by have q := p3; rw [if_pos c_368] at q; exact q)
                                    · refine lv_aload_n S.1 S.2.1 dL_samples_380 rfl (lv_at hl 11 rfl) ?_
                                      refine g_cVi S G hF hl 7 (hV 7 _ (by first | decide | (show _ < 1; omega))) (by decide) (c_X6_house l _ _ _ hV) (cwV 0 S.2.2.2.2 gL_samples_X6_house rfl rfl rfl (by decide +kernel) ⟨Nat.le_of_ble_eq_true rfl, Nat.le_of_ble_eq_true rfl⟩) rfl rfl (Nat.le_of_ble_eq_true rfl) dL_samples_381 ⟨Nat.le_of_ble_eq_true rfl, Nat.le_of_ble_eq_true rfl⟩ (fun r_381 u_381 H locs hp_381 G => ?_)
                                      obtain ⟨rfl, rfl⟩ := hp_381
                                      have G : gS D aC A s _ _ (gk _) H locs := G
                                      refine lv_iload S.1 S.2.1 dL_samples_384 (lv_at hl 2 rfl) ?_
                                      refine lv_icmp_lt (tgt := 393) S.1 S.2.1 dL_samples_386 (by decide) (fun c_386 => ?_) (fun c_386 => ?_)
                                      · exact absurd c_386 p4
                                      · refine lv_iconst (v := 1) S.1 S.2.1 dL_samples_389 (by decide) ?_
                                        refine lv_goto (tgt := 394) S.1 S.2.1 dL_samples_390 (by decide) ?_
                                        exact g_zret S G hr hlk (by decide) (⟨rfl, ids, ad, κ2, rfl, J5.up (by omega) (Nat.le_refl _), rfl, rfl, rfl, rfl⟩) (Nat.le_of_ble_eq_true rfl) (Nat.le_of_ble_eq_true rfl) dL_samples_394
                              · exact absurd c_314 (by decide)
                            · exact absurd c_272 (by decide)
              · exact absurd c_181 (by decide)
          · refine lv_aload_n S.1 S.2.1 dL_samples_128 rfl (lv_at hl 4 rfl) ?_
            refine lv_iload S.1 S.2.1 dL_samples_129 (lv_at hl 3 rfl) ?_
            have hT3 := smpT_at J.1 ho9 hr9 hw9 hT
            have hno : ¬ sSampleT κ (nI o9) (nI r9) (nI w9) = 2 := by rw [hT3]; decide
            have hr5 := hr9
            refine g_cVi S G hF hl 7 (hV 7 _ (by first | decide | (show _ < 1; omega))) (by decide) (c_X6_stateOfk l _ _ _ _ hV hW hr9) (cwV 1 S.2.2.2.2 gL_samples_X6_stateOf rfl rfl rfl (by decide +kernel) ⟨Nat.le_of_ble_eq_true rfl, Nat.le_of_ble_eq_true rfl⟩) rfl rfl (Nat.le_of_ble_eq_true rfl) dL_samples_131 ⟨Nat.le_of_ble_eq_true rfl, Nat.le_of_ble_eq_true rfl⟩ (fun r_131 u_131 H locs hp_131 G => ?_)
            obtain ⟨rfl, rfl⟩ := hp_131
            have G : gS D aC A s _ _ (gk _) H locs := G
            refine lv_istore (lv' := [(9, _), (8, _), (7, _), (6, _), (5, _), (0, _), (1, _), (2, _), (3, _), (4, _)]) S.1 S.2.1 dL_samples_134 hl (by decide) rfl (fun ls hl => ?_)
            refine lv_aload_n S.1 S.2.1 dL_samples_136 rfl (lv_at hl 5 rfl) ?_
            refine lv_iload S.1 S.2.1 dL_samples_137 (lv_at hl 4 rfl) ?_
            refine g_cVi S G hF hl 7 (hV 7 _ (by first | decide | (show _ < 1; omega))) (by decide) (c_X6_heldk l _ _ _ _ hV hW hr9) (cwV 1 S.2.2.2.2 gL_samples_X6_held rfl rfl rfl (by decide +kernel) ⟨Nat.le_of_ble_eq_true rfl, Nat.le_of_ble_eq_true rfl⟩) rfl rfl (Nat.le_of_ble_eq_true rfl) dL_samples_139 ⟨Nat.le_of_ble_eq_true rfl, Nat.le_of_ble_eq_true rfl⟩ (fun r_139 u_139 H locs hp_139 G => ?_)
            obtain ⟨rfl, rfl⟩ := hp_139
            have G : gS D aC A s _ _ (gk _) H locs := G
            refine lv_istore (lv' := [(10, _), (9, _), (8, _), (7, _), (6, _), (5, _), (0, _), (1, _), (2, _), (3, _), (4, _)]) S.1 S.2.1 dL_samples_142 hl (by decide) rfl (fun ls hl => ?_)
            refine lv_aload_n S.1 S.2.1 dL_samples_144 rfl (lv_at hl 6 rfl) ?_
            refine lv_iload S.1 S.2.1 dL_samples_145 (lv_at hl 4 rfl) ?_
            refine g_cVi S G hF hl 7 (hV 7 _ (by first | decide | (show _ < 1; omega))) (by decide) (c_X6_earnedk l _ _ _ _ hV b1) (cwV 1 S.2.2.2.2 gL_samples_X6_earned rfl rfl rfl (by decide +kernel) ⟨Nat.le_of_ble_eq_true rfl, Nat.le_of_ble_eq_true rfl⟩) rfl rfl (Nat.le_of_ble_eq_true rfl) dL_samples_147 ⟨Nat.le_of_ble_eq_true rfl, Nat.le_of_ble_eq_true rfl⟩ (fun r_147 u_147 H locs hp_147 G => ?_)
            obtain ⟨rfl, rfl⟩ := hp_147
            have G : gS D aC A s _ _ (gk _) H locs := G
            refine lv_istore (lv' := [(11, _), (10, _), (9, _), (8, _), (7, _), (6, _), (5, _), (0, _), (1, _), (2, _), (3, _), (4, _)]) S.1 S.2.1 dL_samples_150 hl (by decide) rfl (fun ls hl => ?_)
            refine lv_aload_n S.1 S.2.1 dL_samples_152 rfl (lv_at hl 7 rfl) ?_
            refine lv_iload S.1 S.2.1 dL_samples_153 (lv_at hl 5 rfl) ?_
            refine g_cVi S G hF hl 7 (hV 7 _ (by first | decide | (show _ < 1; omega))) (by decide) (c_X6_bondk l _ _ _ _ hV b1) (cwV 1 S.2.2.2.2 gL_samples_X6_bond rfl rfl rfl (by decide +kernel) ⟨Nat.le_of_ble_eq_true rfl, Nat.le_of_ble_eq_true rfl⟩) rfl rfl (Nat.le_of_ble_eq_true rfl) dL_samples_155 ⟨Nat.le_of_ble_eq_true rfl, Nat.le_of_ble_eq_true rfl⟩ (fun r_155 u_155 H locs hp_155 G => ?_)
            obtain ⟨rfl, rfl⟩ := hp_155
            have G : gS D aC A s _ _ (gk _) H locs := G
            refine lv_istore (lv' := [(12, _), (11, _), (10, _), (9, _), (8, _), (7, _), (6, _), (5, _), (0, _), (1, _), (2, _), (3, _), (4, _)]) S.1 S.2.1 dL_samples_158 hl (by decide) rfl (fun ls hl => ?_)
            refine lv_aload_n S.1 S.2.1 dL_samples_160 rfl (lv_at hl 8 rfl) ?_
            refine g_cVi S G hF hl 7 (hV 7 _ (by first | decide | (show _ < 1; omega))) (by decide) (c_X6_house l _ _ _ hV) (cwV 0 S.2.2.2.2 gL_samples_X6_house rfl rfl rfl (by decide +kernel) ⟨Nat.le_of_ble_eq_true rfl, Nat.le_of_ble_eq_true rfl⟩) rfl rfl (Nat.le_of_ble_eq_true rfl) dL_samples_161 ⟨Nat.le_of_ble_eq_true rfl, Nat.le_of_ble_eq_true rfl⟩ (fun r_161 u_161 H locs hp_161 G => ?_)
            obtain ⟨rfl, rfl⟩ := hp_161
            have G : gS D aC A s _ _ (gk _) H locs := G
            refine lv_istore (lv' := [(13, _), (12, _), (11, _), (10, _), (9, _), (8, _), (7, _), (6, _), (5, _), (0, _), (1, _), (2, _), (3, _), (4, _)]) S.1 S.2.1 dL_samples_164 hl (by decide) rfl (fun ls hl => ?_)
            refine lv_aload_n S.1 S.2.1 dL_samples_166 rfl (lv_at hl 9 rfl) ?_
            refine lv_iconst (v := 3) S.1 S.2.1 dL_samples_167 (by decide) ?_
            refine lv_iload S.1 S.2.1 dL_samples_168 (lv_at hl 6 rfl) ?_
            refine lv_iload S.1 S.2.1 dL_samples_170 (lv_at hl 8 rfl) ?_
            refine lv_iload S.1 S.2.1 dL_samples_172 (lv_at hl 5 rfl) ?_
            refine g_cSWi S G hF hl (c_L_asks_sample l hlf ids ad _ _ _ _ hV hW hno) (vx_cwSW 5 S.2.2.2.2 gL_samples_L_asks rfl rfl rfl (by decide +kernel) ⟨Nat.le_of_ble_eq_true rfl, Nat.le_of_ble_eq_true rfl⟩) rfl rfl (Nat.le_of_ble_eq_true rfl) dL_samples_174 ⟨Nat.le_of_ble_eq_true rfl, Nat.le_of_ble_eq_true rfl⟩ (fun r9 u9 H locs hp G => ?_)
            obtain ⟨rfl, rfl⟩ := or3_3 hp hT3
            have G : gS D aC A s _ _ (gk _) H locs := G
            refine lv_istore (lv' := [(14, _), (13, _), (12, _), (11, _), (10, _), (9, _), (8, _), (7, _), (6, _), (5, _), (0, _), (1, _), (2, _), (3, _), (4, _)]) S.1 S.2.1 dL_samples_177 hl (by decide) rfl (fun ls hl => ?_)
            refine lv_iload S.1 S.2.1 dL_samples_179 (lv_at hl 0 rfl) ?_
            refine lv_if_ge (tgt := 219) S.1 S.2.1 dL_samples_181 (by decide) (fun c_181 => ?_) (fun c_181 => ?_)
            · exact absurd c_181 (by decide)
            · refine lv_iload S.1 S.2.1 dL_samples_184 (lv_at hl 0 rfl) ?_
              refine lv_bipush (v := (-108)) S.1 S.2.1 dL_samples_186 (by decide) ?_
              refine lv_icmp_ne (tgt := 217) S.1 S.2.1 dL_samples_188 (by decide) (fun c_188 => ?_) (fun c_188 => ?_)
              · exact absurd c_188 (by decide)
              · refine lv_aload_n S.1 S.2.1 dL_samples_191 rfl (lv_at hl 10 rfl) ?_
                refine lv_iload S.1 S.2.1 dL_samples_192 (lv_at hl 9 rfl) ?_
                refine g_cVi S G hF hl 7 (hV 7 _ (by first | decide | (show _ < 1; omega))) (by decide) (c_X6_stateOfk l _ _ _ _ hV hW hr5) (cwV 1 S.2.2.2.2 gL_samples_X6_stateOf rfl rfl rfl (by decide +kernel) ⟨Nat.le_of_ble_eq_true rfl, Nat.le_of_ble_eq_true rfl⟩) rfl rfl (Nat.le_of_ble_eq_true rfl) dL_samples_194 ⟨Nat.le_of_ble_eq_true rfl, Nat.le_of_ble_eq_true rfl⟩ (fun r_194 u_194 H locs hp_194 G => ?_)
                obtain ⟨rfl, rfl⟩ := hp_194
                have G : gS D aC A s _ _ (gk _) H locs := G
                refine lv_iload S.1 S.2.1 dL_samples_197 (lv_at hl 5 rfl) ?_
                refine lv_icmp_ne (tgt := 217) S.1 S.2.1 dL_samples_199 (by decide) (fun c_199 => ?_) (fun c_199 => ?_)
                · exact absurd rfl c_199
                · refine lv_aload_n S.1 S.2.1 dL_samples_202 rfl (lv_at hl 10 rfl) ?_
                  refine lv_iload S.1 S.2.1 dL_samples_203 (lv_at hl 9 rfl) ?_
                  refine g_cVi S G hF hl 7 (hV 7 _ (by first | decide | (show _ < 1; omega))) (by decide) (c_X6_heldk l _ _ _ _ hV hW hr5) (cwV 1 S.2.2.2.2 gL_samples_X6_held rfl rfl rfl (by decide +kernel) ⟨Nat.le_of_ble_eq_true rfl, Nat.le_of_ble_eq_true rfl⟩) rfl rfl (Nat.le_of_ble_eq_true rfl) dL_samples_205 ⟨Nat.le_of_ble_eq_true rfl, Nat.le_of_ble_eq_true rfl⟩ (fun r_205 u_205 H locs hp_205 G => ?_)
                  obtain ⟨rfl, rfl⟩ := hp_205
                  have G : gS D aC A s _ _ (gk _) H locs := G
                  refine lv_iload S.1 S.2.1 dL_samples_208 (lv_at hl 4 rfl) ?_
                  refine lv_icmp_ne (tgt := 217) S.1 S.2.1 dL_samples_210 (by decide) (fun c_210 => ?_) (fun c_210 => ?_)
                  · exact absurd rfl c_210
                  · refine lv_iconst (v := 1) S.1 S.2.1 dL_samples_213 (by decide) ?_
                    refine lv_goto (tgt := 218) S.1 S.2.1 dL_samples_214 (by decide) ?_
                    exact g_zret S G hr hlk (by decide) (⟨rfl, ids, ad, κ, rfl, J.up (by omega) (Nat.le_refl _), rfl, rfl, rfl, rfl⟩) (Nat.le_of_ble_eq_true rfl) (Nat.le_of_ble_eq_true rfl) dL_samples_218
