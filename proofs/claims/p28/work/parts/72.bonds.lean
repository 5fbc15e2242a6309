/-! ===== a bond's story ===== -/
theorem nI_mul3 (n : Nat) : 3 * nI n = nI (3 * n) := (Int32.ofNat_mul 3 n).symm
set_option maxHeartbeats 4000000 in
set_option maxRecDepth 100000 in
theorem c_L_bonds (l : Launch) (hlf : l.stackTraces = false) (b L : Nat) (xs : Nat → Int32) (hL : L ≤ 2048) (ad : gAd) (π : gMem) (a : Nat) (ha : a ≤ 600) : gMs b L xs l yL_bonds wsL_bonds ({ frames := 11, cells := 200000, slots := 2400000, locals := 229 } : Room) 200000 2400000 [.ref b, .int (nI a)] ([], ad, π) (fun r u => r = 1 ∧ ∃ (ad' : gAd) (π' : gMem), u = ([], ad', π')) := by
  intro D aC A
  refine gs_of (cc := cL_bonds) (maxL := 9) (ret := (some .boolean)) (by decide +kernel) rfl (Nat.le_of_ble_eq_true rfl) ?_
  intro p e s m below meth c ls S G hF hX hbl hbA hr hlk hl
  have G : gS D aC A s [] ad π s.heap [] := G
  have hl : lv_has ls 9 [(0, .ref b), (1, .int (nI a))] := hl
  have i7 : ∀ w ∈ wsX60, w ∈ wsL_bonds := fun w h => (gL_bonds_X6_init w ((by decide +kernel : ∀ w ∈ wsX60, w ∈ wsX6_init) w h)).1
  have n8 : ∀ x ∈ iU 6, x.1 ≠ 8 ∧ x.1 < 20 := fun x h => by have := iU_no h; omega
  have hn20 : (20, 0) ∉ iU 6 := fun h => absurd (n8 _ h).2 (by decide)
  have hf20 : ∀ κ : gMem, gFree (iU 6) κ 20 0 := fun κ x hx k _ ht => absurd (gm_t_8 ht (by decide)) (n8 x hx).1
  have n81 : ∀ x ∈ iU 6 ++ [(20, 0)], x.1 ≠ 8 ∧ x.1 < 21 := fun x h => by
    rcases List.mem_append.mp h with h | h
    · have := n8 x h; omega
    · rw [List.mem_singleton.mp h]; decide
  have hn21 : (21, 0) ∉ iU 6 ++ [(20, 0)] := fun h => absurd (n81 _ h).2 (by decide)
  have hf21 : ∀ κ : gMem, gFree (iU 6 ++ [(20, 0)]) κ 21 0 := fun κ x hx k _ ht => absurd (gm_t_8 ht (by decide)) (n81 x hx).1
  have n82 : ∀ x ∈ (iU 6 ++ [(20, 0)]) ++ [(21, 0)], x.1 ≠ 8 ∧ x.1 < 22 := fun x h => by
    rcases List.mem_append.mp h with h | h
    · have := n81 x h; omega
    · rw [List.mem_singleton.mp h]; decide
  have hn22 : (22, 0) ∉ (iU 6 ++ [(20, 0)]) ++ [(21, 0)] := fun h => absurd (n82 _ h).2 (by decide)
  have hf22 : ∀ κ : gMem, gFree ((iU 6 ++ [(20, 0)]) ++ [(21, 0)]) κ 22 0 := fun κ x hx k _ ht => absurd (gm_t_8 ht (by decide)) (n82 x hx).1
  refine g_new S G 7 0 (by decide) i7 (by decide +kernel) (by decide +kernel) (by decide +kernel) (by simp) (fun x hx => by simp at hx) (Nat.le_of_ble_eq_true rfl) (Nat.le_of_ble_eq_true rfl) dL_bonds_0 (fun q_0 H G => ?_)
  refine lv_dup S.1 S.2.1 dL_bonds_3 rfl ?_
  refine g_cIv S G hF hl _ (c_X6_init l _ _ (fun k => by rw [updR_s])) (cwI 0 S.2.2.2.2 gL_bonds_X6_init rfl rfl rfl (S.2.2.2.2 _ (by decide +kernel)) (S.2.2.2.2 (.methodLink RL 123 yX6_init) (by decide +kernel)) (S.2.2.2.2 (.instanceMethod yX6_init) (by decide +kernel)) rfl (by decide +kernel) ⟨Nat.le_of_ble_eq_true rfl, Nat.le_of_ble_eq_true rfl⟩) rfl rfl (Nat.le_of_ble_eq_true rfl) dL_bonds_4 ⟨Nat.le_of_ble_eq_true rfl, Nat.le_of_ble_eq_true rfl⟩ (fun u H locs hp G => ?_)
  obtain ⟨ad1, had, rfl⟩ := hp
  have G : gS D aC A s (iU 6) ad1 (gk (cP 6 12 6)) H locs := gS.conv (ids := iU 6) G cP_gk
  rw [← had]
  refine W.widen (k := 50) (n := 400) (Nat.le_of_ble_eq_true rfl) (Nat.le_of_ble_eq_true rfl) ?_
  refine lv_astore_n (lv' := [(2, _), (0, _), (1, _)]) S.1 S.2.1 dL_bonds_7 rfl hl (by decide) rfl (fun ls hl => ?_)
  refine lv_bipush (v := 64) S.1 S.2.1 dL_bonds_8 (by decide) ?_
  refine g_newa S G 20 0 rfl rfl rfl (by decide +kernel) hn20 (hf20 _) rfl (Nat.le_of_ble_eq_true rfl) (Nat.le_of_ble_eq_true rfl) (Nat.le_of_ble_eq_true rfl) dL_bonds_10 (fun q_10 H G => ?_)
  refine lv_astore_n (lv' := [(3, _), (2, _), (0, _), (1, _)]) S.1 S.2.1 dL_bonds_12 rfl hl (by decide) rfl (fun ls hl => ?_)
  refine lv_iconst (v := 2) S.1 S.2.1 dL_bonds_13 (by decide) ?_
  refine g_newa S G 21 0 rfl rfl rfl (by decide +kernel) hn21 (hf21 _) rfl (Nat.le_of_ble_eq_true rfl) (Nat.le_of_ble_eq_true rfl) (Nat.le_of_ble_eq_true rfl) dL_bonds_14 (fun q_14 H G => ?_)
  refine lv_astore (lv' := [(4, _), (3, _), (2, _), (0, _), (1, _)]) S.1 S.2.1 dL_bonds_16 hl (by decide) rfl (fun ls hl => ?_)
  refine lv_bipush (v := 12) S.1 S.2.1 dL_bonds_18 (by decide) ?_
  refine g_newa S G 22 0 rfl rfl rfl (by decide +kernel) hn22 (hf22 _) rfl (Nat.le_of_ble_eq_true rfl) (Nat.le_of_ble_eq_true rfl) (Nat.le_of_ble_eq_true rfl) dL_bonds_20 (fun q_20 H G => ?_)
  refine lv_astore (lv' := [(5, _), (4, _), (3, _), (2, _), (0, _), (1, _)]) S.1 S.2.1 dL_bonds_22 hl (by decide) rfl (fun ls hl => ?_)
  obtain ⟨ad3, e3⟩ : ∃ z, updA (updA (updA ad1 20 0 q_10) 21 0 q_14) 22 0 q_20 = z := ⟨_, rfl⟩
  have hl : lv_has ls 9 [(5, .ref (ad3 22 0)), (4, .ref (ad3 21 0)), (3, .ref (ad3 20 0)), (2, .ref (ad3 7 0)), (0, .ref b), (1, .int (nI a))] := by rw [← e3]; exact hl
  have G : gS D aC A s iA ad3 (gk kS) H locs := by
    rw [← e3]
    exact gS.conv (ids := iA) G kS_conv
  refine W.widen (k := 60 + 24 * 0 + 2480 * (0 / 4)) (n := 500 + 192 * 0 + 19840 * (0 / 4)) (Nat.le_of_ble_eq_true rfl) (Nat.le_of_ble_eq_true rfl) ?_
  refine lv_iconst (v := 0) S.1 S.2.1 dL_bonds_24 (by decide) ?_
  refine lv_istore (lv' := [(6, _), (5, _), (4, _), (3, _), (2, _), (0, _), (1, _)]) S.1 S.2.1 dL_bonds_25 hl (by decide) rfl (fun ls hl => ?_)
  refine g_whilex (σ := Nat × gIds × gAd × gMem) (fun y => y.1 ≤ 84 ∧ PL 62 (12 * y.1) y.2.1 y.2.2.2) (fun y => 84 - y.1) (fun y => y.2.1) (fun y => y.2.2.1) (fun y => gk y.2.2.2) (fun y => 60 + 24 * y.1 + 2480 * (y.1 / 4)) (fun y => 500 + 192 * y.1 + 19840 * (y.1 / 4)) (fun y => [(6, .int (nI y.1)), (5, .ref (y.2.2.1 22 0)), (4, .ref (y.2.2.1 21 0)), (3, .ref (y.2.2.1 20 0)), (2, .ref (y.2.2.1 7 0)), (1, .int (nI a)), (0, .ref b)]) ?_ (0, iA, ad3, kS) (by exact ⟨Nat.zero_le _, start_PL⟩) G (lv_sub hl [0, 1, 2, 3, 4, 6, 5] rfl)
  rintro ⟨n, ids, ad, κ⟩ H locs ls ⟨hnn, J⟩ G hl ih_27
  dsimp only at hnn J G hl ih_27
  have hl : lv_has ls 9 [(6, .int (nI n)), (5, .ref (ad 22 0)), (4, .ref (ad 21 0)), (3, .ref (ad 20 0)), (2, .ref (ad 7 0)), (1, .int (nI a)), (0, .ref b)] := hl
  refine g_cs (k := 60 + 24 * n + 2480 * (n / 4)) (n := 500 + 192 * n + 19840 * (n / 4)) rfl rfl ?_
  have hl : lv_has ls 9 [(6, _), (5, _), (4, _), (3, _), (2, _), (1, _), (0, _)] := hl
  have hV := J.1.1
  have hW := J.1.2.1
  obtain ⟨h20, h21, h22⟩ := J.2.2.1
  obtain ⟨hn, hn80⟩ := hW.cnt
  have hc0 := J.2.1.1
  have hc1 := J.2.1.2.1
  obtain ⟨r, er⟩ : ∃ z, tN (κ 7 0 4) = z := ⟨_, rfl⟩
  have hr62 := J.2.2.2.1
  rw [er] at hn hn80 hr62
  refine lv_iload S.1 S.2.1 dL_bonds_27 (lv_at hl 0 rfl) ?_
  refine lv_bipush (v := 84) S.1 S.2.1 dL_bonds_29 (by decide) ?_
  refine lv_icmp_ge (tgt := 168) S.1 S.2.1 dL_bonds_31 (by decide) (fun c_31 => ?_) (fun c_31 => ?_)
  · refine lv_aload_n S.1 S.2.1 dL_bonds_168 rfl (lv_at hl 4 rfl) ?_
    refine lv_aload S.1 S.2.1 dL_bonds_169 (lv_at hl 2 rfl) ?_
    refine g_cSi S G hF hl (c_L_isWhole l _ _ _ _ _ J) (va_cwS 2 S.2.2.2.2 gL_bonds_L_isWhole rfl rfl rfl (by decide +kernel) ⟨Nat.le_of_ble_eq_true rfl, Nat.le_of_ble_eq_true rfl⟩) rfl rfl (Nat.le_of_ble_eq_true rfl) dL_bonds_171 ⟨by show _ ≤ 200000; omega, by show _ ≤ 2400000; omega⟩ (fun r_171 u_171 H locs hp_171 G => ?_)
    obtain ⟨rfl, rfl⟩ := hp_171
    have G : gS D aC A s _ _ (gk _) H locs := G
    skip
    refine lv_if_eq (tgt := 201) S.1 S.2.1 dL_bonds_174 (by decide) (fun c_174 => ?_) (fun c_174 => ?_)
    · exact absurd c_174 (by decide)
    · refine lv_aload_n S.1 S.2.1 dL_bonds_177 rfl (lv_at hl 4 rfl) ?_
      refine lv_aload_n S.1 S.2.1 dL_bonds_178 rfl (lv_at hl 3 rfl) ?_
      refine lv_aload S.1 S.2.1 dL_bonds_179 (lv_at hl 2 rfl) ?_
      refine g_cSi S G hF hl (c_L_areReadings l _ _ _ hlf _ _ J (by omega) (by omega)) (va_cwS 3 S.2.2.2.2 gL_bonds_L_areReadings rfl rfl rfl (by decide +kernel) ⟨Nat.le_of_ble_eq_true rfl, Nat.le_of_ble_eq_true rfl⟩) rfl rfl (Nat.le_of_ble_eq_true rfl) dL_bonds_181 ⟨by show _ ≤ 200000; omega, by show _ ≤ 2400000; omega⟩ (fun r_181 u_181 H locs hp_181 G => ?_)
      obtain ⟨rfl, κ8, rfl, J8⟩ := hp_181
      have G : gS D aC A s _ _ (gk _) H locs := G
      skip
      refine lv_if_eq (tgt := 201) S.1 S.2.1 dL_bonds_184 (by decide) (fun c_184 => ?_) (fun c_184 => ?_)
      · exact absurd c_184 (by decide)
      · refine lv_aload_n S.1 S.2.1 dL_bonds_187 rfl (lv_at hl 4 rfl) ?_
        refine lv_aload_n S.1 S.2.1 dL_bonds_188 rfl (lv_at hl 3 rfl) ?_
        refine lv_aload S.1 S.2.1 dL_bonds_189 (lv_at hl 2 rfl) ?_
        refine g_cSi S G hF hl (c_L_areMarks l _ _ _ _ _ J8 (by omega)) (va_cwS 3 S.2.2.2.2 gL_bonds_L_areMarks rfl rfl rfl (by decide +kernel) ⟨Nat.le_of_ble_eq_true rfl, Nat.le_of_ble_eq_true rfl⟩) rfl rfl (Nat.le_of_ble_eq_true rfl) dL_bonds_191 ⟨by show _ ≤ 200000; omega, by show _ ≤ 2400000; omega⟩ (fun r_191 u_191 H locs hp_191 G => ?_)
        obtain ⟨rfl, rfl⟩ := hp_191
        have G : gS D aC A s _ _ (gk _) H locs := G
        skip
        refine lv_if_eq (tgt := 201) S.1 S.2.1 dL_bonds_194 (by decide) (fun c_194 => ?_) (fun c_194 => ?_)
        · exact absurd c_194 (by decide)
        · refine lv_iconst (v := 1) S.1 S.2.1 dL_bonds_197 (by decide) ?_
          refine lv_goto (tgt := 202) S.1 S.2.1 dL_bonds_198 (by decide) ?_
          have G : gS D aC A s [] _ (gk _) H locs := G.sub (fun _ h => absurd h List.not_mem_nil) List.nodup_nil
          exact g_zret S G hr hlk (by decide) (⟨rfl, _, _, rfl⟩) (by omega) (by omega) dL_bonds_202
  · have hn84 : n < 84 := by have := mt (nI_leI (a := 84) (b := n) (by decide) (by omega)).mpr c_31; omega
    refine lv_aload S.1 S.2.1 dL_bonds_34 (lv_at hl 2 rfl) ?_
    refine lv_iconst (v := 1) S.1 S.2.1 dL_bonds_36 (by decide) ?_
    refine k_iald S G 21 h21 rfl rfl rfl rfl (show 1 < 2 by decide) dL_bonds_37 ?_
    refine g_top (hc1.trans hn) ?_
    refine lv_bipush (v := 62) S.1 S.2.1 dL_bonds_38 (by decide) ?_
    refine lv_icmp_ge (tgt := 168) S.1 S.2.1 dL_bonds_40 (by decide) (fun c_40 => ?_) (fun c_40 => ?_)
    · refine lv_aload_n S.1 S.2.1 dL_bonds_168 rfl (lv_at hl 4 rfl) ?_
      refine lv_aload S.1 S.2.1 dL_bonds_169 (lv_at hl 2 rfl) ?_
      refine g_cSi S G hF hl (c_L_isWhole l _ _ _ _ _ J) (va_cwS 2 S.2.2.2.2 gL_bonds_L_isWhole rfl rfl rfl (by decide +kernel) ⟨Nat.le_of_ble_eq_true rfl, Nat.le_of_ble_eq_true rfl⟩) rfl rfl (Nat.le_of_ble_eq_true rfl) dL_bonds_171 ⟨by show _ ≤ 200000; omega, by show _ ≤ 2400000; omega⟩ (fun r_171 u_171 H locs hp_171 G => ?_)
      obtain ⟨rfl, rfl⟩ := hp_171
      have G : gS D aC A s _ _ (gk _) H locs := G
      skip
      refine lv_if_eq (tgt := 201) S.1 S.2.1 dL_bonds_174 (by decide) (fun c_174 => ?_) (fun c_174 => ?_)
      · exact absurd c_174 (by decide)
      · refine lv_aload_n S.1 S.2.1 dL_bonds_177 rfl (lv_at hl 4 rfl) ?_
        refine lv_aload_n S.1 S.2.1 dL_bonds_178 rfl (lv_at hl 3 rfl) ?_
        refine lv_aload S.1 S.2.1 dL_bonds_179 (lv_at hl 2 rfl) ?_
        refine g_cSi S G hF hl (c_L_areReadings l _ _ _ hlf _ _ J (by omega) (by omega)) (va_cwS 3 S.2.2.2.2 gL_bonds_L_areReadings rfl rfl rfl (by decide +kernel) ⟨Nat.le_of_ble_eq_true rfl, Nat.le_of_ble_eq_true rfl⟩) rfl rfl (Nat.le_of_ble_eq_true rfl) dL_bonds_181 ⟨by show _ ≤ 200000; omega, by show _ ≤ 2400000; omega⟩ (fun r_181 u_181 H locs hp_181 G => ?_)
        obtain ⟨rfl, κ8, rfl, J8⟩ := hp_181
        have G : gS D aC A s _ _ (gk _) H locs := G
        skip
        refine lv_if_eq (tgt := 201) S.1 S.2.1 dL_bonds_184 (by decide) (fun c_184 => ?_) (fun c_184 => ?_)
        · exact absurd c_184 (by decide)
        · refine lv_aload_n S.1 S.2.1 dL_bonds_187 rfl (lv_at hl 4 rfl) ?_
          refine lv_aload_n S.1 S.2.1 dL_bonds_188 rfl (lv_at hl 3 rfl) ?_
          refine lv_aload S.1 S.2.1 dL_bonds_189 (lv_at hl 2 rfl) ?_
          refine g_cSi S G hF hl (c_L_areMarks l _ _ _ _ _ J8 (by omega)) (va_cwS 3 S.2.2.2.2 gL_bonds_L_areMarks rfl rfl rfl (by decide +kernel) ⟨Nat.le_of_ble_eq_true rfl, Nat.le_of_ble_eq_true rfl⟩) rfl rfl (Nat.le_of_ble_eq_true rfl) dL_bonds_191 ⟨by show _ ≤ 200000; omega, by show _ ≤ 2400000; omega⟩ (fun r_191 u_191 H locs hp_191 G => ?_)
          obtain ⟨rfl, rfl⟩ := hp_191
          have G : gS D aC A s _ _ (gk _) H locs := G
          skip
          refine lv_if_eq (tgt := 201) S.1 S.2.1 dL_bonds_194 (by decide) (fun c_194 => ?_) (fun c_194 => ?_)
          · exact absurd c_194 (by decide)
          · refine lv_iconst (v := 1) S.1 S.2.1 dL_bonds_197 (by decide) ?_
            refine lv_goto (tgt := 202) S.1 S.2.1 dL_bonds_198 (by decide) ?_
            have G : gS D aC A s [] _ (gk _) H locs := G.sub (fun _ h => absurd h List.not_mem_nil) List.nodup_nil
            exact g_zret S G hr hlk (by decide) (⟨rfl, _, _, rfl⟩) (by omega) (by omega) dL_bonds_202
    · have hr61 : r < 62 := by have := mt (nI_leI (a := 62) (b := r) (by decide) (by omega)).mpr c_40; omega
      refine lv_aload_n S.1 S.2.1 dL_bonds_43 rfl (lv_at hl 6 rfl) ?_
      refine lv_iload_n S.1 S.2.1 dL_bonds_44 rfl (lv_at hl 5 rfl) ?_
      refine lv_iconst (v := 3) S.1 S.2.1 dL_bonds_45 (by decide) ?_
      refine lv_iload S.1 S.2.1 dL_bonds_46 (lv_at hl 0 rfl) ?_
      refine lv_imul S.1 S.2.1 dL_bonds_48 ?_
      refine g_top (nI_mul3 n) ?_
      refine lv_iadd S.1 S.2.1 dL_bonds_49 ?_
      refine g_top (nI_add a (3 * n)) ?_
      refine lv_iconst (v := 1) S.1 S.2.1 dL_bonds_50 (by decide) ?_
      refine lv_iadd S.1 S.2.1 dL_bonds_51 ?_
      refine g_top (nI_add (a + 3 * n) 1) ?_
      refine lv_ldc (v := 1073741824) S.1 S.2.1 S.2.2.2.1 (S.2.2.2.2 (.constant RL 124 (1073741824)) (by decide +kernel)) dL_bonds_52 ?_
      refine g_top (show _ = nI 1073741824 from rfl) ?_
      refine g_cSs S G hF hl hX hbl hbA (c_L_draw l b L xs hL _ (a + 3 * n + 1) 1073741824 (by omega) (by decide) (by decide)) (va_cwS 3 S.2.2.2.2 gL_bonds_L_draw rfl rfl rfl (by decide +kernel) ⟨Nat.le_of_ble_eq_true rfl, Nat.le_of_ble_eq_true rfl⟩) rfl rfl (Nat.le_of_ble_eq_true rfl) dL_bonds_54 ⟨by show _ ≤ 200000; omega, by show _ ≤ 2400000; omega⟩ (fun r9 u9 H locs hp G => ?_)
      obtain ⟨⟨X9, hX9, rfl⟩, rfl⟩ := hp
      have G : gS D aC A s ids ad (gk κ) H locs := G
      refine lv_istore (lv' := [(7, _), (6, _), (5, _), (4, _), (3, _), (2, _), (1, _), (0, _)]) S.1 S.2.1 dL_bonds_57 hl (by decide) rfl (fun ls hl => ?_)
      refine lv_aload_n S.1 S.2.1 dL_bonds_59 rfl (lv_at hl 7 rfl) ?_
      refine lv_iload_n S.1 S.2.1 dL_bonds_60 rfl (lv_at hl 6 rfl) ?_
      refine lv_iconst (v := 3) S.1 S.2.1 dL_bonds_61 (by decide) ?_
      refine lv_iload S.1 S.2.1 dL_bonds_62 (lv_at hl 1 rfl) ?_
      refine lv_imul S.1 S.2.1 dL_bonds_64 ?_
      refine g_top (nI_mul3 n) ?_
      refine lv_iadd S.1 S.2.1 dL_bonds_65 ?_
      refine g_top (nI_add a (3 * n)) ?_
      refine lv_iconst (v := 2) S.1 S.2.1 dL_bonds_66 (by decide) ?_
      refine lv_iadd S.1 S.2.1 dL_bonds_67 ?_
      refine g_top (nI_add (a + 3 * n) 2) ?_
      refine lv_ldc (v := 1073741824) S.1 S.2.1 S.2.2.2.1 (S.2.2.2.2 (.constant RL 124 (1073741824)) (by decide +kernel)) dL_bonds_68 ?_
      refine g_top (show _ = nI 1073741824 from rfl) ?_
      refine g_cSs S G hF hl hX hbl hbA (c_L_draw l b L xs hL _ (a + 3 * n + 2) 1073741824 (by omega) (by decide) (by decide)) (va_cwS 3 S.2.2.2.2 gL_bonds_L_draw rfl rfl rfl (by decide +kernel) ⟨Nat.le_of_ble_eq_true rfl, Nat.le_of_ble_eq_true rfl⟩) rfl rfl (Nat.le_of_ble_eq_true rfl) dL_bonds_70 ⟨by show _ ≤ 200000; omega, by show _ ≤ 2400000; omega⟩ (fun r9 u9 H locs hp G => ?_)
      obtain ⟨⟨Y9, hY9, rfl⟩, rfl⟩ := hp
      have G : gS D aC A s ids ad (gk κ) H locs := G
      refine lv_istore (lv' := [(8, _), (7, _), (6, _), (5, _), (4, _), (3, _), (2, _), (1, _), (0, _)]) S.1 S.2.1 dL_bonds_73 hl (by decide) rfl (fun ls hl => ?_)
      refine jnNH (X := fun j H locs => W p l e (headSpec wsL_bonds ({ frames := 11, cells := 200000, slots := 2400000, locals := 229 } : Room)).room s m ([.ref b, .int (nI a)] : List Value).toArray below meth c H locs (60 + 24 * n + 2480 * (n / 4)) (500 + 192 * n + 19840 * (n / 4)) (MQ below (va_Qi (fun r u => r = 1 ∧ ∃ (ad' : gAd) (π' : gMem), u = ([], ad', π')) (gE D aC A) A) ([.ref b, .int (nI a)] : List Value).toArray s 200000 2400000 A) (F0 m 110 ls [.int (nI j), .ref (ad 7 0)])) (fun j H locs => gS D aC A s ids ad (gk κ) H locs) (fun K110 => ?_) ?_
      · refine lv_aload_n S.1 S.2.1 dL_bonds_75 rfl (lv_at hl 6 rfl) ?_
        refine lv_iload S.1 S.2.1 dL_bonds_76 (lv_at hl 2 rfl) ?_
        refine lv_iconst (v := 4) S.1 S.2.1 dL_bonds_78 (by decide) ?_
        refine lv_icmp_ge (tgt := 87) S.1 S.2.1 dL_bonds_79 (by decide) (fun c_79 => ?_) (fun c_79 => ?_)
        · refine lv_iload S.1 S.2.1 dL_bonds_87 (lv_at hl 2 rfl) ?_
          refine lv_bipush (v := 9) S.1 S.2.1 dL_bonds_89 (by decide) ?_
          refine lv_icmp_ge (tgt := 98) S.1 S.2.1 dL_bonds_91 (by decide) (fun c_91 => ?_) (fun c_91 => ?_)
          · refine lv_aload_n S.1 S.2.1 dL_bonds_98 rfl (lv_at hl 8 rfl) ?_
            refine lv_iload_n S.1 S.2.1 dL_bonds_99 rfl (lv_at hl 7 rfl) ?_
            refine lv_iconst (v := 3) S.1 S.2.1 dL_bonds_100 (by decide) ?_
            refine lv_iload S.1 S.2.1 dL_bonds_101 (lv_at hl 2 rfl) ?_
            refine lv_imul S.1 S.2.1 dL_bonds_103 ?_
            refine g_top (nI_mul3 n) ?_
            refine lv_iadd S.1 S.2.1 dL_bonds_104 ?_
            refine g_top (nI_add a (3 * n)) ?_
            refine lv_bipush (v := 25) S.1 S.2.1 dL_bonds_105 (by decide) ?_
            refine g_top (show _ = nI 25 from rfl) ?_
            refine g_cSs S G hF hl hX hbl hbA (c_L_draw l b L xs hL _ (a + 3 * n) 25 (by omega) (by decide) (by decide)) (va_cwS 3 S.2.2.2.2 gL_bonds_L_draw rfl rfl rfl (by decide +kernel) ⟨Nat.le_of_ble_eq_true rfl, Nat.le_of_ble_eq_true rfl⟩) rfl rfl (Nat.le_of_ble_eq_true rfl) dL_bonds_107 ⟨by show _ ≤ 200000; omega, by show _ ≤ 2400000; omega⟩ (fun r9 u9 H locs hp G => ?_)
            obtain ⟨⟨w9, hw9, rfl⟩, rfl⟩ := hp
            have G : gS D aC A s ids ad (gk κ) H locs := G
            exact K110 w9 _ _ G
          · refine lv_iconst (v := 0) S.1 S.2.1 dL_bonds_94 (by decide) ?_
            refine lv_goto (tgt := 110) S.1 S.2.1 dL_bonds_95 (by decide) ?_
            exact K110 0 _ _ G
        · refine lv_bipush (v := 8) S.1 S.2.1 dL_bonds_82 (by decide) ?_
          refine lv_goto (tgt := 110) S.1 S.2.1 dL_bonds_84 (by decide) ?_
          exact K110 8 _ _ G
      · rintro j9 H locs G
        refine lv_iload S.1 S.2.1 dL_bonds_110 (lv_at hl 1 rfl) ?_
        refine lv_iload S.1 S.2.1 dL_bonds_112 (lv_at hl 0 rfl) ?_
        refine lv_aload_n S.1 S.2.1 dL_bonds_114 rfl (lv_at hl 5 rfl) ?_
        refine lv_aload S.1 S.2.1 dL_bonds_115 (lv_at hl 4 rfl) ?_
        refine lv_aload S.1 S.2.1 dL_bonds_117 (lv_at hl 3 rfl) ?_
        have J61 : PL 61 (12 * n) ids κ := ⟨J.1, J.2.1, J.2.2.1, by omega, J.2.2.2.2⟩
        refine g_cSi S G hF hl (c_L_step l _ _ _ _ _ _ hlf _ _ J61 (by decide) hX9 hY9 (by omega)) (va_cwS 7 S.2.2.2.2 gL_bonds_L_step rfl rfl rfl (by decide +kernel) ⟨Nat.le_of_ble_eq_true rfl, Nat.le_of_ble_eq_true rfl⟩) rfl rfl (Nat.le_of_ble_eq_true rfl) dL_bonds_119 ⟨by show _ ≤ 200000; omega, by show _ ≤ 2400000; omega⟩ (fun r_119 u_119 H locs hp_119 G => ?_)
        obtain ⟨rfl, ids_119, ad_119, κ_119, rfl, J_119, a7_119, a20_119, a21_119, a22_119⟩ := hp_119
        have G : gS D aC A s _ _ (gk _) H locs := G
        have a_ := a7_119
        rw [← a7_119, ← a20_119, ← a21_119, ← a22_119] at hl
        have J9 : PL 62 (12 * n + 12) ids_119 κ_119 := J_119
        obtain ⟨h20, h21, h22⟩ := J9.2.2.1
        skip
        refine lv_if_eq (tgt := 160) S.1 S.2.1 dL_bonds_122 (by decide) (fun c_122 => ?_) (fun c_122 => ?_)
        · exact absurd c_122 (by decide)
        · refine lv_iload S.1 S.2.1 dL_bonds_125 (lv_at hl 2 rfl) ?_
          refine lv_iconst (v := 3) S.1 S.2.1 dL_bonds_127 (by decide) ?_
          refine lv_irem S.1 S.2.1 dL_bonds_128 (by decide) ?_
          refine g_top (jrem3 (by omega)) ?_
          refine lv_iconst (v := 2) S.1 S.2.1 dL_bonds_129 (by decide) ?_
          refine lv_icmp_ne (tgt := 142) S.1 S.2.1 dL_bonds_130 (by decide) (fun c_130 => ?_) (fun c_130 => ?_)
          · refine lv_iload S.1 S.2.1 dL_bonds_142 (lv_at hl 2 rfl) ?_
            refine lv_iconst (v := 4) S.1 S.2.1 dL_bonds_144 (by decide) ?_
            refine lv_irem S.1 S.2.1 dL_bonds_145 (by decide) ?_
            refine g_top (jrem4 (by omega)) ?_
            refine lv_iconst (v := 3) S.1 S.2.1 dL_bonds_146 (by decide) ?_
            refine lv_icmp_ne (tgt := 162) S.1 S.2.1 dL_bonds_147 (by decide) (fun c_147 => ?_) (fun c_147 => ?_)
            · refine lv_iinc (k := 2) (lv' := [(6, _), (8, _), (7, _), (5, _), (4, _), (3, _), (2, _), (1, _), (0, _)]) S.1 S.2.1 dL_bonds_162 hl rfl (g_inc _) (by decide) rfl (fun ls hl => ?_)
              refine lv_goto (tgt := 27) S.1 S.2.1 dL_bonds_165 (by decide) ?_
              refine W.widen (k := 60 + 24 * (n + 1) + 2480 * ((n + 1) / 4)) (n := 500 + 192 * (n + 1) + 19840 * ((n + 1) / 4)) (by omega) (by omega) ?_
              exact ih_27 (n + 1, ids_119, ad_119, κ_119) H locs ls ⟨by show n + 1 ≤ 84; omega, J9.up (Nat.le_refl _) (by show 12 * n + 12 ≤ 12 * (n + 1); omega)⟩ (by show 84 - (n + 1) < 84 - n; omega) G (lv_sub hl [0, 3, 4, 5, 6, 7, 8] rfl)
            · have h43 : n % 4 = 3 := (nI_eq (show n % 4 < 2 ^ 31 by omega) (show 3 < 2 ^ 31 by decide)).mp c_147
              refine lv_aload_n S.1 S.2.1 dL_bonds_150 rfl (lv_at hl 6 rfl) ?_
              refine lv_aload_n S.1 S.2.1 dL_bonds_151 rfl (lv_at hl 5 rfl) ?_
              refine lv_aload S.1 S.2.1 dL_bonds_152 (lv_at hl 4 rfl) ?_
              refine g_cSi S G hF hl (c_L_areReadings l _ _ _ hlf _ _ J9 (by omega) (by omega)) (va_cwS 3 S.2.2.2.2 gL_bonds_L_areReadings rfl rfl rfl (by decide +kernel) ⟨Nat.le_of_ble_eq_true rfl, Nat.le_of_ble_eq_true rfl⟩) rfl rfl (Nat.le_of_ble_eq_true rfl) dL_bonds_154 ⟨by show _ ≤ 200000; omega, by show _ ≤ 2400000; omega⟩ (fun r_154 u_154 H locs hp_154 G => ?_)
              obtain ⟨rfl, κ8, rfl, J8⟩ := hp_154
              have G : gS D aC A s _ _ (gk _) H locs := G
              skip
              refine lv_if_ne (tgt := 162) S.1 S.2.1 dL_bonds_157 (by decide) (fun c_157 => ?_) (fun c_157 => ?_)
              · refine lv_iinc (k := 2) (lv' := [(6, _), (8, _), (7, _), (5, _), (4, _), (3, _), (2, _), (1, _), (0, _)]) S.1 S.2.1 dL_bonds_162 hl rfl (g_inc _) (by decide) rfl (fun ls hl => ?_)
                refine lv_goto (tgt := 27) S.1 S.2.1 dL_bonds_165 (by decide) ?_
                refine W.widen (k := 60 + 24 * (n + 1) + 2480 * ((n + 1) / 4)) (n := 500 + 192 * (n + 1) + 19840 * ((n + 1) / 4)) (by omega) (by omega) ?_
                exact ih_27 (n + 1, ids_119, ad_119, κ8) H locs ls ⟨by show n + 1 ≤ 84; omega, J8.up (Nat.le_refl _) (by show 12 * n + 12 ≤ 12 * (n + 1); omega)⟩ (by show 84 - (n + 1) < 84 - n; omega) G (lv_sub hl [0, 3, 4, 5, 6, 7, 8] rfl)
              · exact absurd c_157 (by decide)
          · refine lv_aload_n S.1 S.2.1 dL_bonds_133 rfl (lv_at hl 6 rfl) ?_
            refine lv_aload S.1 S.2.1 dL_bonds_134 (lv_at hl 4 rfl) ?_
            refine g_cSi S G hF hl (c_L_isWhole l _ _ _ _ _ J9) (va_cwS 2 S.2.2.2.2 gL_bonds_L_isWhole rfl rfl rfl (by decide +kernel) ⟨Nat.le_of_ble_eq_true rfl, Nat.le_of_ble_eq_true rfl⟩) rfl rfl (Nat.le_of_ble_eq_true rfl) dL_bonds_136 ⟨by show _ ≤ 200000; omega, by show _ ≤ 2400000; omega⟩ (fun r_136 u_136 H locs hp_136 G => ?_)
            obtain ⟨rfl, rfl⟩ := hp_136
            have G : gS D aC A s _ _ (gk _) H locs := G
            skip
            refine lv_if_eq (tgt := 160) S.1 S.2.1 dL_bonds_139 (by decide) (fun c_139 => ?_) (fun c_139 => ?_)
            · exact absurd c_139 (by decide)
            · refine lv_iload S.1 S.2.1 dL_bonds_142 (lv_at hl 2 rfl) ?_
              refine lv_iconst (v := 4) S.1 S.2.1 dL_bonds_144 (by decide) ?_
              refine lv_irem S.1 S.2.1 dL_bonds_145 (by decide) ?_
              refine g_top (jrem4 (by omega)) ?_
              refine lv_iconst (v := 3) S.1 S.2.1 dL_bonds_146 (by decide) ?_
              refine lv_icmp_ne (tgt := 162) S.1 S.2.1 dL_bonds_147 (by decide) (fun c_147 => ?_) (fun c_147 => ?_)
              · refine lv_iinc (k := 2) (lv' := [(6, _), (8, _), (7, _), (5, _), (4, _), (3, _), (2, _), (1, _), (0, _)]) S.1 S.2.1 dL_bonds_162 hl rfl (g_inc _) (by decide) rfl (fun ls hl => ?_)
                refine lv_goto (tgt := 27) S.1 S.2.1 dL_bonds_165 (by decide) ?_
                refine W.widen (k := 60 + 24 * (n + 1) + 2480 * ((n + 1) / 4)) (n := 500 + 192 * (n + 1) + 19840 * ((n + 1) / 4)) (by omega) (by omega) ?_
                exact ih_27 (n + 1, ids_119, ad_119, κ_119) H locs ls ⟨by show n + 1 ≤ 84; omega, J9.up (Nat.le_refl _) (by show 12 * n + 12 ≤ 12 * (n + 1); omega)⟩ (by show 84 - (n + 1) < 84 - n; omega) G (lv_sub hl [0, 3, 4, 5, 6, 7, 8] rfl)
              · have h43 : n % 4 = 3 := (nI_eq (show n % 4 < 2 ^ 31 by omega) (show 3 < 2 ^ 31 by decide)).mp c_147
                refine lv_aload_n S.1 S.2.1 dL_bonds_150 rfl (lv_at hl 6 rfl) ?_
                refine lv_aload_n S.1 S.2.1 dL_bonds_151 rfl (lv_at hl 5 rfl) ?_
                refine lv_aload S.1 S.2.1 dL_bonds_152 (lv_at hl 4 rfl) ?_
                refine g_cSi S G hF hl (c_L_areReadings l _ _ _ hlf _ _ J9 (by omega) (by omega)) (va_cwS 3 S.2.2.2.2 gL_bonds_L_areReadings rfl rfl rfl (by decide +kernel) ⟨Nat.le_of_ble_eq_true rfl, Nat.le_of_ble_eq_true rfl⟩) rfl rfl (Nat.le_of_ble_eq_true rfl) dL_bonds_154 ⟨by show _ ≤ 200000; omega, by show _ ≤ 2400000; omega⟩ (fun r_154 u_154 H locs hp_154 G => ?_)
                obtain ⟨rfl, κ8, rfl, J8⟩ := hp_154
                have G : gS D aC A s _ _ (gk _) H locs := G
                skip
                refine lv_if_ne (tgt := 162) S.1 S.2.1 dL_bonds_157 (by decide) (fun c_157 => ?_) (fun c_157 => ?_)
                · refine lv_iinc (k := 2) (lv' := [(6, _), (8, _), (7, _), (5, _), (4, _), (3, _), (2, _), (1, _), (0, _)]) S.1 S.2.1 dL_bonds_162 hl rfl (g_inc _) (by decide) rfl (fun ls hl => ?_)
                  refine lv_goto (tgt := 27) S.1 S.2.1 dL_bonds_165 (by decide) ?_
                  refine W.widen (k := 60 + 24 * (n + 1) + 2480 * ((n + 1) / 4)) (n := 500 + 192 * (n + 1) + 19840 * ((n + 1) / 4)) (by omega) (by omega) ?_
                  exact ih_27 (n + 1, ids_119, ad_119, κ8) H locs ls ⟨by show n + 1 ≤ 84; omega, J8.up (Nat.le_refl _) (by show 12 * n + 12 ≤ 12 * (n + 1); omega)⟩ (by show 84 - (n + 1) < 84 - n; omega) G (lv_sub hl [0, 3, 4, 5, 6, 7, 8] rfl)
                · exact absurd c_157 (by decide)
