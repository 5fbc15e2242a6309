/-! ===== the law's checks: all is there ===== -/
theorem not_gt {x : Int32} {n : Nat} (h : ixL x (n + 1)) (hn : n + 1 < 2 ^ 31) : ¬ nI n < x := by
  rw [h.1]
  intro z
  have := (nI_ltI (by omega) (by have := h.2; omega)).mp z
  have := h.2
  omega
set_option maxHeartbeats 4000000 in
set_option maxRecDepth 100000 in
theorem c_L_isWhole (l : Launch) (ids : gIds) (ad : gAd) (κ : gMem) (N B : Nat) (J : PL N B ids κ)  : gMi l yL_isWhole wsL_isWhole ({ frames := 2, cells := 0, slots := 0, locals := 46 } : Room) 0 0 [.ref (ad 7 0), .ref (ad 21 0)] (ids, ad, gk κ) (fun q u => q = 1 ∧ u = (ids, ad, gk (κ))) := by
  intro D aC A
  refine g_of (cc := cL_isWhole) (maxL := 7) (ret := (some .boolean)) (by decide +kernel) rfl (Nat.le_of_ble_eq_true rfl) ?_
  intro p e s m below meth c ls S G hF hr hlk hnm hl
  have hl : lv_has ls 7 [(0, _), (1, _)] := hl
  have hV := J.1.1
  have hW := J.1.2.1
  obtain ⟨h20, h21, h22⟩ := J.2.2.1
  obtain ⟨hn, hn80⟩ := hW.cnt
  have hc0 := J.2.1.1
  have hc1 := J.2.1.2.1
  have hM := J.1.2.2.2.2.1
  have hC : ∀ s, s < 12 → sCuts κ s (tN (κ 7 0 4)) = κ 5 s 3 := fun s hs => by
    obtain ⟨μ, hR⟩ := J.1.2.2.2.1
    exact hR.2.2.2.1 s hs
  refine lv_aload_n S.1 S.2.1 dL_isWhole_0 rfl (lv_at hl 0 rfl) ?_
  refine g_cVi S G hF hl 7 (hV 7 _ (by first | decide | (show _ < 1; omega))) (by decide) (c_X6_house l ids ad _ hV) (cwV 0 S.2.2.2.2 gL_isWhole_X6_house rfl rfl rfl (by decide +kernel) ⟨Nat.le_of_ble_eq_true rfl, Nat.le_of_ble_eq_true rfl⟩) rfl rfl (Nat.le_of_ble_eq_true rfl) dL_isWhole_1 ⟨Nat.le_of_ble_eq_true rfl, Nat.le_of_ble_eq_true rfl⟩ (fun r_1 u_1 H locs hp_1 G => ?_)
  obtain ⟨rfl, rfl⟩ := hp_1
  have G : gS D aC A s ids ad (gk _) H locs := G
  refine lv_istore_n (lv' := [(2, _), (0, _), (1, _)]) S.1 S.2.1 dL_isWhole_4 rfl hl (by decide) rfl (fun ls hl => ?_)
  refine lv_iload_n S.1 S.2.1 dL_isWhole_5 rfl (lv_at hl 0 rfl) ?_
  refine lv_if_lt (tgt := 13) S.1 S.2.1 dL_isWhole_6 (by decide) (fun c_6 => ?_) (fun c_6 => ?_)
  · exact absurd c_6 (ix_pos hM.1 (by decide))
  · refine lv_iconst (v := 1) S.1 S.2.1 dL_isWhole_9 (by decide) ?_
    refine lv_goto (tgt := 14) S.1 S.2.1 dL_isWhole_10 (by decide) ?_
    refine lv_istore_n (lv' := [(3, _), (2, _), (0, _), (1, _)]) S.1 S.2.1 dL_isWhole_14 rfl hl (by decide) rfl (fun ls hl => ?_)
    refine lv_iconst (v := 0) S.1 S.2.1 dL_isWhole_15 (by decide) ?_
    refine lv_istore (lv' := [(4, _), (3, _), (2, _), (0, _), (1, _)]) S.1 S.2.1 dL_isWhole_16 hl (by decide) rfl (fun ls hl => ?_)
    refine g_forg 12 (fun k_18 => [(4, .int (nI k_18)), (3, .int 1), (2, .int (lwS κ k_18)), (1, .ref (ad 21 0)), (0, .ref (ad 7 0))]) ?_ G (lv_sub hl [0, 1, 2, 4, 3] rfl)
    intro k_18 H locs ls hk_18 G hl ih_18
    have hl : lv_has ls 7 [(4, _), (3, _), (2, _), (1, _), (0, _)] := hl
    refine lv_iload S.1 S.2.1 dL_isWhole_18 (lv_at hl 0 rfl) ?_
    refine lv_bipush (v := 12) S.1 S.2.1 dL_isWhole_20 (by decide) ?_
    refine lv_icmp_ge (tgt := 144) S.1 S.2.1 dL_isWhole_22 (by decide) (fun c_22 => ?_) (fun c_22 => ?_)
    · have hkN_18 : k_18 = 12 := g_exit c_22 hk_18 (by omega)
      subst hkN_18
      refine lv_iconst (v := 0) S.1 S.2.1 dL_isWhole_144 (by decide) ?_
      refine lv_istore (lv' := [(4, _), (3, _), (2, _), (1, _), (0, _)]) S.1 S.2.1 dL_isWhole_145 hl (by decide) rfl (fun ls hl => ?_)
      refine g_forg 6 (fun k_147 => [(4, .int (nI k_147)), (3, .int 1), (2, .int (lwB κ (lwS κ 12) k_147)), (1, .ref (ad 21 0)), (0, .ref (ad 7 0))]) ?_ G (lv_sub hl [0, 1, 2, 3, 4] rfl)
      intro k_147 H locs ls hk_147 G hl ih_147
      have hl : lv_has ls 7 [(4, _), (3, _), (2, _), (1, _), (0, _)] := hl
      refine lv_iload S.1 S.2.1 dL_isWhole_147 (lv_at hl 0 rfl) ?_
      refine lv_bipush (v := 6) S.1 S.2.1 dL_isWhole_149 (by decide) ?_
      refine lv_icmp_ge (tgt := 188) S.1 S.2.1 dL_isWhole_151 (by decide) (fun c_151 => ?_) (fun c_151 => ?_)
      · have hkN_147 : k_147 = 6 := g_exit c_151 hk_147 (by omega)
        subst hkN_147
        refine lv_iconst (v := 0) S.1 S.2.1 dL_isWhole_188 (by decide) ?_
        refine lv_istore (lv' := [(4, _), (3, _), (2, _), (1, _), (0, _)]) S.1 S.2.1 dL_isWhole_189 hl (by decide) rfl (fun ls hl => ?_)
        refine g_forg (tN (κ 7 0 4)) (fun k_191 => [(4, .int (nI k_191)), (3, .int 1), (2, .int (lwR κ (lwB κ (lwS κ 12) 6) k_191)), (1, .ref (ad 21 0)), (0, .ref (ad 7 0))]) ?_ G (lv_sub hl [0, 1, 2, 3, 4] rfl)
        intro k_191 H locs ls hk_191 G hl ih_191
        have hl : lv_has ls 7 [(4, _), (3, _), (2, _), (1, _), (0, _)] := hl
        refine lv_iload S.1 S.2.1 dL_isWhole_191 (lv_at hl 0 rfl) ?_
        refine lv_aload_n S.1 S.2.1 dL_isWhole_193 rfl (lv_at hl 3 rfl) ?_
        refine lv_iconst (v := 1) S.1 S.2.1 dL_isWhole_194 (by decide) ?_
        refine k_iald S G 21 h21 rfl rfl rfl rfl (show 1 < 2 by decide) dL_isWhole_195 ?_
        refine g_top (hc1.trans hn) ?_
        refine lv_icmp_ge (tgt := 230) S.1 S.2.1 dL_isWhole_196 (by decide) (fun c_196 => ?_) (fun c_196 => ?_)
        · have hkN_191 : k_191 = (tN (κ 7 0 4)) := g_exit c_196 hk_191 (by omega)
          subst hkN_191
          refine lv_iload_n S.1 S.2.1 dL_isWhole_230 rfl (lv_at hl 1 rfl) ?_
          refine lv_if_eq (tgt := 245) S.1 S.2.1 dL_isWhole_231 (by decide) (fun c_231 => ?_) (fun c_231 => ?_)
          · exact absurd c_231 (by decide)
          · refine lv_iload_n S.1 S.2.1 dL_isWhole_234 rfl (lv_at hl 2 rfl) ?_
            refine lv_sipush (v := 2400) S.1 S.2.1 dL_isWhole_235 (by decide) ?_
            refine lv_icmp_ne (tgt := 245) S.1 S.2.1 dL_isWhole_238 (by decide) (fun c_238 => ?_) (fun c_238 => ?_)
            · exact absurd (sum_2400 hM) c_238
            · refine lv_iconst (v := 1) S.1 S.2.1 dL_isWhole_241 (by decide) ?_
              refine lv_goto (tgt := 246) S.1 S.2.1 dL_isWhole_242 (by decide) ?_
              exact g_zret S G hr hlk (by decide) (⟨rfl, rfl⟩) (Nat.le_of_ble_eq_true rfl) (Nat.le_of_ble_eq_true rfl) dL_isWhole_246
        · have hlt_191 : k_191 < (tN (κ 7 0 4)) := g_stay c_196 hk_191 (by omega)
          refine lv_iload_n S.1 S.2.1 dL_isWhole_199 rfl (lv_at hl 2 rfl) ?_
          refine lv_aload_n S.1 S.2.1 dL_isWhole_200 rfl (lv_at hl 4 rfl) ?_
          refine lv_iload S.1 S.2.1 dL_isWhole_201 (lv_at hl 0 rfl) ?_
          refine g_cVi S G hF hl 7 (hV 7 _ (by first | decide | (show _ < 1; omega))) (by decide) (c_X6_heldk l ids ad _ _ hV hW hlt_191) (cwV 1 S.2.2.2.2 gL_isWhole_X6_held rfl rfl rfl (by decide +kernel) ⟨Nat.le_of_ble_eq_true rfl, Nat.le_of_ble_eq_true rfl⟩) rfl rfl (Nat.le_of_ble_eq_true rfl) dL_isWhole_203 ⟨Nat.le_of_ble_eq_true rfl, Nat.le_of_ble_eq_true rfl⟩ (fun r_203 u_203 H locs hp_203 G => ?_)
          obtain ⟨rfl, rfl⟩ := hp_203
          have G : gS D aC A s ids ad (gk _) H locs := G
          refine lv_aload_n S.1 S.2.1 dL_isWhole_206 rfl (lv_at hl 4 rfl) ?_
          refine lv_iload S.1 S.2.1 dL_isWhole_207 (lv_at hl 0 rfl) ?_
          refine g_cVi S G hF hl 7 (hV 7 _ (by first | decide | (show _ < 1; omega))) (by decide) (c_X6_stateOfk l ids ad _ _ hV hW hlt_191) (cwV 1 S.2.2.2.2 gL_isWhole_X6_stateOf rfl rfl rfl (by decide +kernel) ⟨Nat.le_of_ble_eq_true rfl, Nat.le_of_ble_eq_true rfl⟩) rfl rfl (Nat.le_of_ble_eq_true rfl) dL_isWhole_209 ⟨Nat.le_of_ble_eq_true rfl, Nat.le_of_ble_eq_true rfl⟩ (fun r_209 u_209 H locs hp_209 G => ?_)
          obtain ⟨rfl, rfl⟩ := hp_209
          have G : gS D aC A s ids ad (gk _) H locs := G
          refine lv_iconst (v := 1) S.1 S.2.1 dL_isWhole_212 (by decide) ?_
          refine lv_icmp_ne (tgt := 220) S.1 S.2.1 dL_isWhole_213 (by decide) (fun c_213 => ?_) (fun c_213 => ?_)
          · refine lv_iconst (v := 0) S.1 S.2.1 dL_isWhole_220 (by decide) ?_
            refine lv_iadd S.1 S.2.1 dL_isWhole_221 ?_
            refine lv_iadd S.1 S.2.1 dL_isWhole_222 ?_
            refine lv_istore_n (lv' := [(2, _), (4, _), (3, _), (1, _), (0, _)]) S.1 S.2.1 dL_isWhole_223 rfl hl (by decide) rfl (fun ls hl => ?_)
            refine lv_iinc (k := 1) (lv' := [(4, _), (2, _), (3, _), (1, _), (0, _)]) S.1 S.2.1 dL_isWhole_224 hl rfl (g_inc _) (by decide) rfl (fun ls hl => ?_)
            refine lv_goto (tgt := 191) S.1 S.2.1 dL_isWhole_227 (by decide) ?_
            have e : lwR κ (lwB κ (lwS κ 12) 6) (k_191 + 1) = lwR κ (lwB κ (lwS κ 12) 6) k_191 + (κ 3 k_191 7 + 0) := by simp only [lwR, if_pos c_22, if_pos c_151, if_neg c_196, if_neg c_213]
            exact ih_191 hlt_191 _ _ _ G (by rw [e]; exact lv_sub hl [0, 2, 1, 3, 4] rfl)
          · refine lv_iconst (v := 4) S.1 S.2.1 dL_isWhole_216 (by decide) ?_
            refine lv_goto (tgt := 221) S.1 S.2.1 dL_isWhole_217 (by decide) ?_
            refine lv_iadd S.1 S.2.1 dL_isWhole_221 ?_
            refine lv_iadd S.1 S.2.1 dL_isWhole_222 ?_
            refine lv_istore_n (lv' := [(2, _), (4, _), (3, _), (1, _), (0, _)]) S.1 S.2.1 dL_isWhole_223 rfl hl (by decide) rfl (fun ls hl => ?_)
            refine lv_iinc (k := 1) (lv' := [(4, _), (2, _), (3, _), (1, _), (0, _)]) S.1 S.2.1 dL_isWhole_224 hl rfl (g_inc _) (by decide) rfl (fun ls hl => ?_)
            refine lv_goto (tgt := 191) S.1 S.2.1 dL_isWhole_227 (by decide) ?_
            have e : lwR κ (lwB κ (lwS κ 12) 6) (k_191 + 1) = lwR κ (lwB κ (lwS κ 12) 6) k_191 + (κ 3 k_191 7 + 4) := by simp only [lwR, if_pos c_22, if_pos c_151, if_neg c_196, if_pos c_213]
            exact ih_191 hlt_191 _ _ _ G (by rw [e]; exact lv_sub hl [0, 2, 1, 3, 4] rfl)
      · have hlt_147 : k_147 < 6 := g_stay c_151 hk_147 (by omega)
        refine lv_iload_n S.1 S.2.1 dL_isWhole_154 rfl (lv_at hl 2 rfl) ?_
        refine lv_aload_n S.1 S.2.1 dL_isWhole_155 rfl (lv_at hl 4 rfl) ?_
        refine lv_iload S.1 S.2.1 dL_isWhole_156 (lv_at hl 0 rfl) ?_
        refine g_cVi S G hF hl 7 (hV 7 _ (by first | decide | (show _ < 1; omega))) (by decide) (c_X6_pursek l ids ad _ _ hV hlt_147) (cwV 1 S.2.2.2.2 gL_isWhole_X6_purse rfl rfl rfl (by decide +kernel) ⟨Nat.le_of_ble_eq_true rfl, Nat.le_of_ble_eq_true rfl⟩) rfl rfl (Nat.le_of_ble_eq_true rfl) dL_isWhole_158 ⟨Nat.le_of_ble_eq_true rfl, Nat.le_of_ble_eq_true rfl⟩ (fun r_158 u_158 H locs hp_158 G => ?_)
        obtain ⟨rfl, rfl⟩ := hp_158
        have G : gS D aC A s ids ad (gk _) H locs := G
        refine lv_iadd S.1 S.2.1 dL_isWhole_161 ?_
        refine lv_istore_n (lv' := [(2, _), (4, _), (3, _), (1, _), (0, _)]) S.1 S.2.1 dL_isWhole_162 rfl hl (by decide) rfl (fun ls hl => ?_)
        refine lv_iload_n S.1 S.2.1 dL_isWhole_163 rfl (lv_at hl 2 rfl) ?_
        refine lv_if_eq (tgt := 180) S.1 S.2.1 dL_isWhole_164 (by decide) (fun c_164 => ?_) (fun c_164 => ?_)
        · exact absurd c_164 (by decide)
        · refine lv_aload_n S.1 S.2.1 dL_isWhole_167 rfl (lv_at hl 4 rfl) ?_
          refine lv_iload S.1 S.2.1 dL_isWhole_168 (lv_at hl 1 rfl) ?_
          refine g_cVi S G hF hl 7 (hV 7 _ (by first | decide | (show _ < 1; omega))) (by decide) (c_X6_pursek l ids ad _ _ hV hlt_147) (cwV 1 S.2.2.2.2 gL_isWhole_X6_purse rfl rfl rfl (by decide +kernel) ⟨Nat.le_of_ble_eq_true rfl, Nat.le_of_ble_eq_true rfl⟩) rfl rfl (Nat.le_of_ble_eq_true rfl) dL_isWhole_170 ⟨Nat.le_of_ble_eq_true rfl, Nat.le_of_ble_eq_true rfl⟩ (fun r_170 u_170 H locs hp_170 G => ?_)
          obtain ⟨rfl, rfl⟩ := hp_170
          have G : gS D aC A s ids ad (gk _) H locs := G
          refine lv_if_lt (tgt := 180) S.1 S.2.1 dL_isWhole_173 (by decide) (fun c_173 => ?_) (fun c_173 => ?_)
          · exact absurd c_173 (ix_pos (hM.2.2.1 _ hlt_147) (by decide))
          · refine lv_iconst (v := 1) S.1 S.2.1 dL_isWhole_176 (by decide) ?_
            refine lv_goto (tgt := 181) S.1 S.2.1 dL_isWhole_177 (by decide) ?_
            refine lv_istore_n (lv' := [(3, _), (2, _), (4, _), (1, _), (0, _)]) S.1 S.2.1 dL_isWhole_181 rfl hl (by decide) rfl (fun ls hl => ?_)
            refine lv_iinc (k := 2) (lv' := [(4, _), (3, _), (2, _), (1, _), (0, _)]) S.1 S.2.1 dL_isWhole_182 hl rfl (g_inc _) (by decide) rfl (fun ls hl => ?_)
            refine lv_goto (tgt := 147) S.1 S.2.1 dL_isWhole_185 (by decide) ?_
            exact ih_147 hlt_147 _ _ _ G (lv_sub hl [0, 1, 2, 3, 4] rfl)
    · have hlt_18 : k_18 < 12 := g_stay c_22 hk_18 (by omega)
      refine lv_iload_n S.1 S.2.1 dL_isWhole_25 rfl (lv_at hl 2 rfl) ?_
      refine lv_aload_n S.1 S.2.1 dL_isWhole_26 rfl (lv_at hl 4 rfl) ?_
      refine lv_iload S.1 S.2.1 dL_isWhole_27 (lv_at hl 0 rfl) ?_
      refine g_cVi S G hF hl 7 (hV 7 _ (by first | decide | (show _ < 1; omega))) (by decide) (c_X6_bondk l ids ad _ _ hV hlt_18) (cwV 1 S.2.2.2.2 gL_isWhole_X6_bond rfl rfl rfl (by decide +kernel) ⟨Nat.le_of_ble_eq_true rfl, Nat.le_of_ble_eq_true rfl⟩) rfl rfl (Nat.le_of_ble_eq_true rfl) dL_isWhole_29 ⟨Nat.le_of_ble_eq_true rfl, Nat.le_of_ble_eq_true rfl⟩ (fun r_29 u_29 H locs hp_29 G => ?_)
      obtain ⟨rfl, rfl⟩ := hp_29
      have G : gS D aC A s ids ad (gk _) H locs := G
      refine lv_aload_n S.1 S.2.1 dL_isWhole_32 rfl (lv_at hl 4 rfl) ?_
      refine lv_iload S.1 S.2.1 dL_isWhole_33 (lv_at hl 0 rfl) ?_
      refine g_cVi S G hF hl 7 (hV 7 _ (by first | decide | (show _ < 1; omega))) (by decide) (c_X6_earnedk l ids ad _ _ hV hlt_18) (cwV 1 S.2.2.2.2 gL_isWhole_X6_earned rfl rfl rfl (by decide +kernel) ⟨Nat.le_of_ble_eq_true rfl, Nat.le_of_ble_eq_true rfl⟩) rfl rfl (Nat.le_of_ble_eq_true rfl) dL_isWhole_35 ⟨Nat.le_of_ble_eq_true rfl, Nat.le_of_ble_eq_true rfl⟩ (fun r_35 u_35 H locs hp_35 G => ?_)
      obtain ⟨rfl, rfl⟩ := hp_35
      have G : gS D aC A s ids ad (gk _) H locs := G
      refine lv_iadd S.1 S.2.1 dL_isWhole_38 ?_
      refine lv_iadd S.1 S.2.1 dL_isWhole_39 ?_
      refine lv_istore_n (lv' := [(2, _), (4, _), (3, _), (1, _), (0, _)]) S.1 S.2.1 dL_isWhole_40 rfl hl (by decide) rfl (fun ls hl => ?_)
      refine lv_iload_n S.1 S.2.1 dL_isWhole_41 rfl (lv_at hl 2 rfl) ?_
      refine lv_if_eq (tgt := 82) S.1 S.2.1 dL_isWhole_42 (by decide) (fun c_42 => ?_) (fun c_42 => ?_)
      · exact absurd c_42 (by decide)
      · refine lv_aload_n S.1 S.2.1 dL_isWhole_45 rfl (lv_at hl 4 rfl) ?_
        refine lv_iload S.1 S.2.1 dL_isWhole_46 (lv_at hl 1 rfl) ?_
        refine g_cVi S G hF hl 7 (hV 7 _ (by first | decide | (show _ < 1; omega))) (by decide) (c_X6_bondk l ids ad _ _ hV hlt_18) (cwV 1 S.2.2.2.2 gL_isWhole_X6_bond rfl rfl rfl (by decide +kernel) ⟨Nat.le_of_ble_eq_true rfl, Nat.le_of_ble_eq_true rfl⟩) rfl rfl (Nat.le_of_ble_eq_true rfl) dL_isWhole_48 ⟨Nat.le_of_ble_eq_true rfl, Nat.le_of_ble_eq_true rfl⟩ (fun r_48 u_48 H locs hp_48 G => ?_)
        obtain ⟨rfl, rfl⟩ := hp_48
        have G : gS D aC A s ids ad (gk _) H locs := G
        refine lv_if_lt (tgt := 82) S.1 S.2.1 dL_isWhole_51 (by decide) (fun c_51 => ?_) (fun c_51 => ?_)
        · exact absurd c_51 (ix_pos (hM.2.1 _ hlt_18).1 (by decide))
        · refine lv_aload_n S.1 S.2.1 dL_isWhole_54 rfl (lv_at hl 4 rfl) ?_
          refine lv_iload S.1 S.2.1 dL_isWhole_55 (lv_at hl 1 rfl) ?_
          refine g_cVi S G hF hl 7 (hV 7 _ (by first | decide | (show _ < 1; omega))) (by decide) (c_X6_earnedk l ids ad _ _ hV hlt_18) (cwV 1 S.2.2.2.2 gL_isWhole_X6_earned rfl rfl rfl (by decide +kernel) ⟨Nat.le_of_ble_eq_true rfl, Nat.le_of_ble_eq_true rfl⟩) rfl rfl (Nat.le_of_ble_eq_true rfl) dL_isWhole_57 ⟨Nat.le_of_ble_eq_true rfl, Nat.le_of_ble_eq_true rfl⟩ (fun r_57 u_57 H locs hp_57 G => ?_)
          obtain ⟨rfl, rfl⟩ := hp_57
          have G : gS D aC A s ids ad (gk _) H locs := G
          refine lv_if_lt (tgt := 82) S.1 S.2.1 dL_isWhole_60 (by decide) (fun c_60 => ?_) (fun c_60 => ?_)
          · exact absurd c_60 (ix_pos (hM.2.1 _ hlt_18).2 (by decide))
          · refine lv_aload_n S.1 S.2.1 dL_isWhole_63 rfl (lv_at hl 4 rfl) ?_
            refine lv_iload S.1 S.2.1 dL_isWhole_64 (lv_at hl 1 rfl) ?_
            refine g_cVi S G hF hl 7 (hV 7 _ (by first | decide | (show _ < 1; omega))) (by decide) (c_X6_bondByCutsk l ids ad _ _ hV hW hlt_18) (cwV 1 S.2.2.2.2 gL_isWhole_X6_bondByCuts rfl rfl rfl (by decide +kernel) ⟨Nat.le_of_ble_eq_true rfl, Nat.le_of_ble_eq_true rfl⟩) rfl rfl (Nat.le_of_ble_eq_true rfl) dL_isWhole_66 ⟨Nat.le_of_ble_eq_true rfl, Nat.le_of_ble_eq_true rfl⟩ (fun r_66 u_66 H locs hp_66 G => ?_)
            obtain ⟨rfl, rfl⟩ := hp_66
            have G : gS D aC A s ids ad (gk _) H locs := G
            refine lv_aload_n S.1 S.2.1 dL_isWhole_69 rfl (lv_at hl 4 rfl) ?_
            refine lv_iload S.1 S.2.1 dL_isWhole_70 (lv_at hl 1 rfl) ?_
            refine g_cVi S G hF hl 7 (hV 7 _ (by first | decide | (show _ < 1; omega))) (by decide) (c_X6_bondk l ids ad _ _ hV hlt_18) (cwV 1 S.2.2.2.2 gL_isWhole_X6_bond rfl rfl rfl (by decide +kernel) ⟨Nat.le_of_ble_eq_true rfl, Nat.le_of_ble_eq_true rfl⟩) rfl rfl (Nat.le_of_ble_eq_true rfl) dL_isWhole_72 ⟨Nat.le_of_ble_eq_true rfl, Nat.le_of_ble_eq_true rfl⟩ (fun r_72 u_72 H locs hp_72 G => ?_)
            obtain ⟨rfl, rfl⟩ := hp_72
            have G : gS D aC A s ids ad (gk _) H locs := G
            refine lv_icmp_ne (tgt := 82) S.1 S.2.1 dL_isWhole_75 (by decide) (fun c_75 => ?_) (fun c_75 => ?_)
            · exact absurd (hC _ hlt_18) c_75
            · refine lv_iconst (v := 1) S.1 S.2.1 dL_isWhole_78 (by decide) ?_
              refine lv_goto (tgt := 83) S.1 S.2.1 dL_isWhole_79 (by decide) ?_
              refine lv_istore_n (lv' := [(3, _), (2, _), (4, _), (1, _), (0, _)]) S.1 S.2.1 dL_isWhole_83 rfl hl (by decide) rfl (fun ls hl => ?_)
              refine lv_iconst (v := 0) S.1 S.2.1 dL_isWhole_84 (by decide) ?_
              refine lv_istore (lv' := [(5, _), (3, _), (2, _), (4, _), (1, _), (0, _)]) S.1 S.2.1 dL_isWhole_85 hl (by decide) rfl (fun ls hl => ?_)
              refine g_forg 6 (fun k_87 => [(5, .int (nI k_87)), (4, .int (nI k_18)), (3, .int 1), (2, .int (lwT κ k_18 (lwS κ k_18) k_87)), (1, .ref (ad 21 0)), (0, .ref (ad 7 0))]) ?_ G (lv_sub hl [0, 3, 1, 2, 4, 5] rfl)
              intro k_87 H locs ls hk_87 G hl ih_87
              have hl : lv_has ls 7 [(5, _), (4, _), (3, _), (2, _), (1, _), (0, _)] := hl
              refine lv_iload S.1 S.2.1 dL_isWhole_87 (lv_at hl 0 rfl) ?_
              refine lv_bipush (v := 6) S.1 S.2.1 dL_isWhole_89 (by decide) ?_
              refine lv_icmp_ge (tgt := 138) S.1 S.2.1 dL_isWhole_91 (by decide) (fun c_91 => ?_) (fun c_91 => ?_)
              · have hkN_87 : k_87 = 6 := g_exit c_91 hk_87 (by omega)
                subst hkN_87
                refine lv_iinc (k := 1) (lv' := [(4, _), (5, _), (3, _), (2, _), (1, _), (0, _)]) S.1 S.2.1 dL_isWhole_138 hl rfl (g_inc _) (by decide) rfl (fun ls hl => ?_)
                refine lv_goto (tgt := 18) S.1 S.2.1 dL_isWhole_141 (by decide) ?_
                exact ih_18 hlt_18 _ _ _ G (lv_sub hl [0, 2, 3, 4, 5] rfl)
              · have hlt_87 : k_87 < 6 := g_stay c_91 hk_87 (by omega)
                refine lv_aload_n S.1 S.2.1 dL_isWhole_94 rfl (lv_at hl 5 rfl) ?_
                refine lv_iload S.1 S.2.1 dL_isWhole_95 (lv_at hl 0 rfl) ?_
                refine lv_iload S.1 S.2.1 dL_isWhole_97 (lv_at hl 1 rfl) ?_
                refine g_cVi S G hF hl 7 (hV 7 _ (by first | decide | (show _ < 1; omega))) (by decide) (c_X6_asidek l ids ad _ _ _ hV hW hlt_87 hlt_18) (cwV 2 S.2.2.2.2 gL_isWhole_X6_aside rfl rfl rfl (by decide +kernel) ⟨Nat.le_of_ble_eq_true rfl, Nat.le_of_ble_eq_true rfl⟩) rfl rfl (Nat.le_of_ble_eq_true rfl) dL_isWhole_99 ⟨Nat.le_of_ble_eq_true rfl, Nat.le_of_ble_eq_true rfl⟩ (fun r_99 u_99 H locs hp_99 G => ?_)
                obtain ⟨rfl, rfl⟩ := hp_99
                have G : gS D aC A s ids ad (gk _) H locs := G
                refine lv_istore (lv' := [(6, _), (5, _), (4, _), (3, _), (2, _), (1, _), (0, _)]) S.1 S.2.1 dL_isWhole_102 hl (by decide) rfl (fun ls hl => ?_)
                refine lv_iload_n S.1 S.2.1 dL_isWhole_104 rfl (lv_at hl 4 rfl) ?_
                refine lv_iload S.1 S.2.1 dL_isWhole_105 (lv_at hl 0 rfl) ?_
                refine lv_iadd S.1 S.2.1 dL_isWhole_107 ?_
                refine lv_istore_n (lv' := [(2, _), (6, _), (5, _), (4, _), (3, _), (1, _), (0, _)]) S.1 S.2.1 dL_isWhole_108 rfl hl (by decide) rfl (fun ls hl => ?_)
                refine lv_iload_n S.1 S.2.1 dL_isWhole_109 rfl (lv_at hl 4 rfl) ?_
                refine lv_if_eq (tgt := 130) S.1 S.2.1 dL_isWhole_110 (by decide) (fun c_110 => ?_) (fun c_110 => ?_)
                · exact absurd c_110 (by decide)
                · refine lv_iload S.1 S.2.1 dL_isWhole_113 (lv_at hl 1 rfl) ?_
                  refine lv_if_lt (tgt := 130) S.1 S.2.1 dL_isWhole_115 (by decide) (fun c_115 => ?_) (fun c_115 => ?_)
                  · exact absurd c_115 (ix_pos (aside_400 J.1.2.2.2.2 hlt_87 hlt_18) (by decide))
                  · refine lv_iload S.1 S.2.1 dL_isWhole_118 (lv_at hl 1 rfl) ?_
                    refine lv_sipush (v := 400) S.1 S.2.1 dL_isWhole_120 (by decide) ?_
                    refine lv_icmp_gt (tgt := 130) S.1 S.2.1 dL_isWhole_123 (by decide) (fun c_123 => ?_) (fun c_123 => ?_)
                    · exact absurd c_123 (not_gt (aside_400 J.1.2.2.2.2 hlt_87 hlt_18) (by decide))
                    · refine lv_iconst (v := 1) S.1 S.2.1 dL_isWhole_126 (by decide) ?_
                      refine lv_goto (tgt := 131) S.1 S.2.1 dL_isWhole_127 (by decide) ?_
                      refine lv_istore_n (lv' := [(3, _), (2, _), (6, _), (5, _), (4, _), (1, _), (0, _)]) S.1 S.2.1 dL_isWhole_131 rfl hl (by decide) rfl (fun ls hl => ?_)
                      refine lv_iinc (k := 3) (lv' := [(5, _), (3, _), (2, _), (6, _), (4, _), (1, _), (0, _)]) S.1 S.2.1 dL_isWhole_132 hl rfl (g_inc _) (by decide) rfl (fun ls hl => ?_)
                      refine lv_goto (tgt := 87) S.1 S.2.1 dL_isWhole_135 (by decide) ?_
                      exact ih_87 hlt_87 _ _ _ G (lv_sub hl [0, 4, 1, 2, 5, 6] rfl)
