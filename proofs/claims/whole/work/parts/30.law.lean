/-! ===== the law's loop, case by case ===== -/
section LK
variable {p : Program} {l : Launch} {e : Env} {R : Room} {s : State} {m : MethodId} {args : Array Value} {below : List Frame} {meth : Method} {c : Code} {H : Heap} {locs : List Loc} {cells slots : Nat} {Q : State → Prop}
variable {cc : ByteArray} {pc nL : Nat} {ls : Array Slot} {rest : List Value} {Ts : List Cond} {own : String} {D : va_G} {aC : Nat → ClassId} {A : Nat → Prop} {ids : gIds} {ad : gAd} {π : gMem}
theorem g_scr (S : CallFix p m c cc nL s args Ts own) (G : gS D aC A s ids ad π H locs) {b L j : Nat} {xs : Nat → Int32} (hX : va_X b L xs s s.heap) (hbl : b < s.heap.size) (hbA : ¬ A b) {i : Int32} (hx : i = nI j) (hj : j < L) (hL : L ≤ 2048) (hdg : decode cc pc = .ok (.iaload, 1))
    (kk : W p l e R s m args below meth c H locs cells slots Q (F0 m (pc + 1) ls (.int (xs j) :: rest))) : W p l e R s m args below meth c H locs cells slots Q (F0 m pc ls (.int i :: .ref b :: rest)) := by
  obtain ⟨g1, g2⟩ := g_in hx hj (by omega)
  refine va_sld S.1 S.2.1 hX hbl hbA G.2.2.2.1 g1 hdg ?_
  rw [g2]; exact kk
theorem g_topL {x y : Int64} (h : x = y) (kk : W p l e R s m args below meth c H locs cells slots Q (F0 m pc ls (.long y :: rest))) : W p l e R s m args below meth c H locs cells slots Q (F0 m pc ls (.long x :: rest)) := by rw [h]; exact kk
end LK
theorem lg_cmp_self (x : Int64) : lg_cmp x x = 0 := by simp [lg_cmp]
set_option maxHeartbeats 4000000 in
set_option maxRecDepth 100000 in
theorem lc_hang {p : Program} {l : Launch} {e : Env} {s : State} {m : MethodId} {below : List Frame} {meth : Method} {c : Code} {H : Heap} {locs : List Loc} {cells slots : Nat} {Q : State → Prop} {ls : Array Slot} {D : va_G} {aC : Nat → ClassId} {A : Nat → Prop} {ids : gIds} {ad : gAd} {κ : gMem} {b L n : Nat} {xs : Nat → Int32} (hlf : l.stackTraces = false) (S : CallFix p m c cL_law 7 s #[Value.ref b] wsL_law RL) (hF : gF A s s.heap) (hX : va_X b L xs s s.heap) (hbl : b < s.heap.size) (hbA : ¬ A b) (hn : 4 * n + 4 ≤ L) (hL : L ≤ 2048) (G : gS D aC A s ids ad (gk κ) H locs) (hl : lv_has ls 7 [(4, .int (nI (4 * n))), (3, .ref (ad 18 0)), (2, .ref (ad 8 0)), (1, .ref (ad 7 0)), (0, .ref b)]) (J : Inv ids κ) (hc : cells + 8 ≤ 601024) (hs : slots + 64 ≤ 7293034)
    (kk : ∀ (ids' : gIds) (ad' : gAd) (κ' : gMem) (H1 : Heap) (locs1 : List Loc) (ls1 : Array Slot), Inv ids' κ' → gS D aC A s ids' ad' (gk κ') H1 locs1 → lv_has ls1 7 [(4, .int (nI (4 * n))), (3, .ref (ad' 18 0)), (2, .ref (ad' 8 0)), (1, .ref (ad' 7 0)), (0, .ref b)] → W p l e room_1 s m #[Value.ref b] below meth c H1 locs1 (cells + 8) (slots + 64) Q (F0 m 1579 ls1 [])) : W p l e room_1 s m #[Value.ref b] below meth c H locs cells slots Q (F0 m 152 ls []) := by
  have hl : lv_has ls 7 [(4, _), (3, _), (2, _), (1, _), (0, _)] := hl
  refine lv_aload_n S.1 S.2.1 dL_law_152 rfl (lv_at hl 3 rfl) ?_
  refine lv_aload_n S.1 S.2.1 dL_law_153 rfl (lv_at hl 4 rfl) ?_
  refine lv_iload S.1 S.2.1 dL_law_154 (lv_at hl 0 rfl) ?_
  refine lv_iconst (v := 1) S.1 S.2.1 dL_law_156 (by decide) ?_
  refine lv_iadd S.1 S.2.1 dL_law_157 ?_
  refine g_scr S G hX hbl hbA (show nI (4 * n) + 1 = nI (4 * n + 1) from nI_add (4 * n) 1) (by omega) hL dL_law_158 ?_
  refine lv_aload_n S.1 S.2.1 dL_law_159 rfl (lv_at hl 4 rfl) ?_
  refine lv_iload S.1 S.2.1 dL_law_160 (lv_at hl 0 rfl) ?_
  refine lv_iconst (v := 2) S.1 S.2.1 dL_law_162 (by decide) ?_
  refine lv_iadd S.1 S.2.1 dL_law_163 ?_
  refine g_scr S G hX hbl hbA (show nI (4 * n) + 2 = nI (4 * n + 2) from nI_add (4 * n) 2) (by omega) hL dL_law_164 ?_
  refine lv_aload_n S.1 S.2.1 dL_law_165 rfl (lv_at hl 1 rfl) ?_
  refine g_cSWi S G hF hl (c_L_hang l hlf ids ad κ (xs (4 * n + 1)) (xs (4 * n + 2)) J.1 J.2.2.2.1 J.2.2.1) (vx_cwSW 4 S.2.2.2.2 gL_law_L_hang rfl rfl rfl (by decide +kernel) ⟨Nat.le_of_ble_eq_true rfl, Nat.le_of_ble_eq_true rfl⟩) rfl rfl (Nat.le_of_ble_eq_true rfl) dL_law_166 ⟨hc, hs⟩ (fun k9 u H locs hp G => ?_)
  refine lv_istore (lv' := [(5, _), (4, _), (3, _), (2, _), (1, _), (0, _)]) S.1 S.2.1 dL_law_169 hl (by decide) rfl (fun ls hl => ?_)
  rcases hp with ⟨hT, rfl, rfl⟩ | ⟨hT, rfl, rfl⟩
  · obtain ⟨m1, m2, m3, m4, m5, J2⟩ := simA_hang J hT
    have G : gS D aC A s _ _ (gk (upd3 (upd3 κ 4 (tN (xs (4 * n + 1))) 1 (nI (tN (xs (4 * n + 2))))) 18 0 0 (nI (tN (κ 4 (tN (xs (4 * n + 1))) 1))))) H locs := G
    refine lv_aload_n S.1 S.2.1 dL_law_171 rfl (lv_at hl 3 rfl) ?_
    refine lv_aload_n S.1 S.2.1 dL_law_172 rfl (lv_at hl 5 rfl) ?_
    refine lv_iload S.1 S.2.1 dL_law_173 (lv_at hl 1 rfl) ?_
    refine lv_iconst (v := 1) S.1 S.2.1 dL_law_175 (by decide) ?_
    refine lv_iadd S.1 S.2.1 dL_law_176 ?_
    refine g_scr S G hX hbl hbA (show nI (4 * n) + 1 = nI (4 * n + 1) from nI_add (4 * n) 1) (by omega) hL dL_law_177 ?_
    refine lv_aload_n S.1 S.2.1 dL_law_178 rfl (lv_at hl 5 rfl) ?_
    refine lv_iload S.1 S.2.1 dL_law_179 (lv_at hl 1 rfl) ?_
    refine lv_iconst (v := 2) S.1 S.2.1 dL_law_181 (by decide) ?_
    refine lv_iadd S.1 S.2.1 dL_law_182 ?_
    refine g_scr S G hX hbl hbA (show nI (4 * n) + 2 = nI (4 * n + 2) from nI_add (4 * n) 2) (by omega) hL dL_law_183 ?_
    refine g_cVi S G hF hl 8 (J2.2.1 8 0 (by decide)) (by decide) (c_X7_hang l _ _ _ (xs (4 * n + 1)) (xs (4 * n + 2)) J2.2.1 m1) (cwV 2 S.2.2.2.2 gL_law_X7_hang rfl rfl rfl (by decide +kernel) ⟨Nat.le_of_ble_eq_true rfl, Nat.le_of_ble_eq_true rfl⟩) rfl rfl (Nat.le_of_ble_eq_true rfl) dL_law_184 ⟨hc, hs⟩ (fun r9 u H locs hp G => ?_)
    obtain ⟨hr9, rfl⟩ := hp
    rw [if_pos m2, m3] at hr9
    rw [if_pos m2] at G
    have G : gS D aC A s _ _ (gk (upd3 (mCan (upd3 (upd3 κ 4 (tN (xs (4 * n + 1))) 1 (nI (tN (xs (4 * n + 2))))) 18 0 0 (nI (tN (κ 4 (tN (xs (4 * n + 1))) 1)))) 0) 21 0 (tN (xs (4 * n + 1))) (xs (4 * n + 2)))) H locs := G
    subst hr9
    refine lv_istore (lv' := [(6, _), (5, _), (4, _), (3, _), (2, _), (1, _), (0, _)]) S.1 S.2.1 dL_law_187 hl (by decide) rfl (fun ls hl => ?_)
    refine lv_aload_n S.1 S.2.1 dL_law_189 rfl (lv_at hl 4 rfl) ?_
    refine g_cVi S G hF hl 8 (J2.2.1 8 0 (by decide)) (by decide) (c_X7_thrown l _ _ _ J2.2.1) (cwV 0 S.2.2.2.2 gL_law_X7_thrown rfl rfl rfl (by decide +kernel) ⟨Nat.le_of_ble_eq_true rfl, Nat.le_of_ble_eq_true rfl⟩) rfl rfl (Nat.le_of_ble_eq_true rfl) dL_law_190 ⟨hc, hs⟩ (fun r8 u H locs hp G => ?_)
    obtain ⟨hr8, rfl⟩ := hp
    rw [m4] at hr8
    subst hr8
    have G : gS D aC A s _ _ (gk (upd3 (mCan (upd3 (upd3 κ 4 (tN (xs (4 * n + 1))) 1 (nI (tN (xs (4 * n + 2))))) 18 0 0 (nI (tN (κ 4 (tN (xs (4 * n + 1))) 1)))) 0) 21 0 (tN (xs (4 * n + 1))) (xs (4 * n + 2)))) H locs := G
    refine lv_iload S.1 S.2.1 dL_law_193 (lv_at hl 1 rfl) ?_
    refine lv_icmp_eq (tgt := 200) S.1 S.2.1 dL_law_195 (by decide) (fun _ => ?_) (fun cz => absurd rfl cz)
    refine lv_iload S.1 S.2.1 dL_law_200 (lv_at hl 1 rfl) ?_
    refine lv_if_ne (tgt := 217) S.1 S.2.1 dL_law_202 (by decide) (fun cz => absurd rfl cz) (fun _ => ?_)
    refine lv_aload_n S.1 S.2.1 dL_law_205 rfl (lv_at hl 3 rfl) ?_
    refine lv_iconst (v := 0) S.1 S.2.1 dL_law_206 (by decide) ?_
    refine k_lald (j := 0) S G 18 J2.2.2.1 rfl rfl rfl rfl (by decide) dL_law_207 ?_
    refine g_topL (congrArg Int32.toInt64 m5) ?_
    refine lv_iload S.1 S.2.1 dL_law_208 (lv_at hl 0 rfl) ?_
    refine lv_i2l S.1 S.2.1 dL_law_210 rfl ?_
    refine W.lcmp S.1 S.2.1 dL_law_211 ?_
    refine g_top (lg_cmp_self _) ?_
    refine lv_if_eq (tgt := 217) S.1 S.2.1 dL_law_212 (by decide) (fun _ => ?_) (fun cz => absurd rfl cz)
    refine lv_goto (tgt := 1579) S.1 S.2.1 dL_law_217 (by decide) ?_
    exact kk _ _ _ H locs ls J2 G (lv_sub hl [2, 3, 4, 5, 6] rfl)
  · obtain ⟨n1, n2⟩ := simB_hang J hT
    have G : gS D aC A s _ _ (gk κ) H locs := G
    refine lv_aload_n S.1 S.2.1 dL_law_171 rfl (lv_at hl 3 rfl) ?_
    refine lv_aload_n S.1 S.2.1 dL_law_172 rfl (lv_at hl 5 rfl) ?_
    refine lv_iload S.1 S.2.1 dL_law_173 (lv_at hl 1 rfl) ?_
    refine lv_iconst (v := 1) S.1 S.2.1 dL_law_175 (by decide) ?_
    refine lv_iadd S.1 S.2.1 dL_law_176 ?_
    refine g_scr S G hX hbl hbA (show nI (4 * n) + 1 = nI (4 * n + 1) from nI_add (4 * n) 1) (by omega) hL dL_law_177 ?_
    refine lv_aload_n S.1 S.2.1 dL_law_178 rfl (lv_at hl 5 rfl) ?_
    refine lv_iload S.1 S.2.1 dL_law_179 (lv_at hl 1 rfl) ?_
    refine lv_iconst (v := 2) S.1 S.2.1 dL_law_181 (by decide) ?_
    refine lv_iadd S.1 S.2.1 dL_law_182 ?_
    refine g_scr S G hX hbl hbA (show nI (4 * n) + 2 = nI (4 * n + 2) from nI_add (4 * n) 2) (by omega) hL dL_law_183 ?_
    refine g_cVi S G hF hl 8 (J.2.1 8 0 (by decide)) (by decide) (c_X7_hang l _ _ _ (xs (4 * n + 1)) (xs (4 * n + 2)) J.2.1 J.2.2.2.2.2.1) (cwV 2 S.2.2.2.2 gL_law_X7_hang rfl rfl rfl (by decide +kernel) ⟨Nat.le_of_ble_eq_true rfl, Nat.le_of_ble_eq_true rfl⟩) rfl rfl (Nat.le_of_ble_eq_true rfl) dL_law_184 ⟨hc, hs⟩ (fun r9 u H locs hp G => ?_)
    obtain ⟨hr9, rfl⟩ := hp
    rw [if_neg n2] at hr9
    rw [if_neg n2] at G
    have G : gS D aC A s _ _ (gk (mCan κ (mHangT (xs (4 * n + 1)) (xs (4 * n + 2))))) H locs := G
    subst hr9
    refine lv_istore (lv' := [(6, _), (5, _), (4, _), (3, _), (2, _), (1, _), (0, _)]) S.1 S.2.1 dL_law_187 hl (by decide) rfl (fun ls hl => ?_)
    refine lv_aload_n S.1 S.2.1 dL_law_189 rfl (lv_at hl 4 rfl) ?_
    refine g_cVi S G hF hl 8 (J.2.1 8 0 (by decide)) (by decide) (c_X7_thrown l _ _ _ J.2.1) (cwV 0 S.2.2.2.2 gL_law_X7_thrown rfl rfl rfl (by decide +kernel) ⟨Nat.le_of_ble_eq_true rfl, Nat.le_of_ble_eq_true rfl⟩) rfl rfl (Nat.le_of_ble_eq_true rfl) dL_law_190 ⟨hc, hs⟩ (fun r8 u H locs hp G => ?_)
    obtain ⟨hr8, rfl⟩ := hp
    rw [mCan, upd3_s, n1] at hr8
    subst hr8
    have G : gS D aC A s _ _ (gk (mCan κ (mHangT (xs (4 * n + 1)) (xs (4 * n + 2))))) H locs := G
    refine lv_iload S.1 S.2.1 dL_law_193 (lv_at hl 1 rfl) ?_
    refine lv_icmp_eq (tgt := 200) S.1 S.2.1 dL_law_195 (by decide) (fun _ => ?_) (fun cz => absurd rfl cz)
    refine lv_iload S.1 S.2.1 dL_law_200 (lv_at hl 1 rfl) ?_
    refine lv_if_ne (tgt := 217) S.1 S.2.1 dL_law_202 (by decide) (fun _ => ?_) (fun cz => absurd cz (by rw [← n1]; exact n2))
    refine lv_goto (tgt := 1579) S.1 S.2.1 dL_law_217 (by decide) ?_
    exact kk _ _ _ H locs ls (J.can _) G (lv_sub hl [2, 3, 4, 5, 6] rfl)
set_option maxHeartbeats 4000000 in
set_option maxRecDepth 100000 in
theorem lc_attach {p : Program} {l : Launch} {e : Env} {s : State} {m : MethodId} {below : List Frame} {meth : Method} {c : Code} {H : Heap} {locs : List Loc} {cells slots : Nat} {Q : State → Prop} {ls : Array Slot} {D : va_G} {aC : Nat → ClassId} {A : Nat → Prop} {ids : gIds} {ad : gAd} {κ : gMem} {b L n : Nat} {xs : Nat → Int32} (hlf : l.stackTraces = false) (S : CallFix p m c cL_law 7 s #[Value.ref b] wsL_law RL) (hF : gF A s s.heap) (hX : va_X b L xs s s.heap) (hbl : b < s.heap.size) (hbA : ¬ A b) (hn : 4 * n + 4 ≤ L) (hL : L ≤ 2048) (G : gS D aC A s ids ad (gk κ) H locs) (hl : lv_has ls 7 [(4, .int (nI (4 * n))), (3, .ref (ad 18 0)), (2, .ref (ad 8 0)), (1, .ref (ad 7 0)), (0, .ref b)]) (J : Inv ids κ) (hc : cells + 8 ≤ 601024) (hs : slots + 64 ≤ 7293034)
    (kk : ∀ (ids' : gIds) (ad' : gAd) (κ' : gMem) (H1 : Heap) (locs1 : List Loc) (ls1 : Array Slot), Inv ids' κ' → gS D aC A s ids' ad' (gk κ') H1 locs1 → lv_has ls1 7 [(4, .int (nI (4 * n))), (3, .ref (ad' 18 0)), (2, .ref (ad' 8 0)), (1, .ref (ad' 7 0)), (0, .ref b)] → W p l e room_1 s m #[Value.ref b] below meth c H1 locs1 (cells + 8) (slots + 64) Q (F0 m 1579 ls1 [])) : W p l e room_1 s m #[Value.ref b] below meth c H locs cells slots Q (F0 m 220 ls []) := by
  have hl : lv_has ls 7 [(4, _), (3, _), (2, _), (1, _), (0, _)] := hl
  refine lv_aload_n S.1 S.2.1 dL_law_220 rfl (lv_at hl 3 rfl) ?_
  refine lv_aload_n S.1 S.2.1 dL_law_221 rfl (lv_at hl 4 rfl) ?_
  refine lv_iload S.1 S.2.1 dL_law_222 (lv_at hl 0 rfl) ?_
  refine lv_iconst (v := 1) S.1 S.2.1 dL_law_224 (by decide) ?_
  refine lv_iadd S.1 S.2.1 dL_law_225 ?_
  refine g_scr S G hX hbl hbA (show nI (4 * n) + 1 = nI (4 * n + 1) from nI_add (4 * n) 1) (by omega) hL dL_law_226 ?_
  refine lv_aload_n S.1 S.2.1 dL_law_227 rfl (lv_at hl 4 rfl) ?_
  refine lv_iload S.1 S.2.1 dL_law_228 (lv_at hl 0 rfl) ?_
  refine lv_iconst (v := 2) S.1 S.2.1 dL_law_230 (by decide) ?_
  refine lv_iadd S.1 S.2.1 dL_law_231 ?_
  refine g_scr S G hX hbl hbA (show nI (4 * n) + 2 = nI (4 * n + 2) from nI_add (4 * n) 2) (by omega) hL dL_law_232 ?_
  refine lv_aload_n S.1 S.2.1 dL_law_233 rfl (lv_at hl 1 rfl) ?_
  refine g_cSWi S G hF hl (c_L_attach l hlf ids ad κ (xs (4 * n + 1)) (xs (4 * n + 2)) J.1 J.2.2.2.1 J.2.2.1) (vx_cwSW 4 S.2.2.2.2 gL_law_L_attach rfl rfl rfl (by decide +kernel) ⟨Nat.le_of_ble_eq_true rfl, Nat.le_of_ble_eq_true rfl⟩) rfl rfl (Nat.le_of_ble_eq_true rfl) dL_law_234 ⟨hc, hs⟩ (fun k9 u H locs hp G => ?_)
  refine lv_istore (lv' := [(5, _), (4, _), (3, _), (2, _), (1, _), (0, _)]) S.1 S.2.1 dL_law_237 hl (by decide) rfl (fun ls hl => ?_)
  rcases hp with ⟨hT, rfl, rfl⟩ | ⟨hT, rfl, rfl⟩
  · obtain ⟨m1, m2, m3, m4, m5, J2⟩ := simA_attach J hT
    have G : gS D aC A s _ _ (gk (upd3 (upd3 κ 5 (tN (xs (4 * n + 1))) 1 (nI (tN (xs (4 * n + 2))))) 18 0 0 (nI (tN (κ 5 (tN (xs (4 * n + 1))) 1))))) H locs := G
    refine lv_aload_n S.1 S.2.1 dL_law_239 rfl (lv_at hl 3 rfl) ?_
    refine lv_aload_n S.1 S.2.1 dL_law_240 rfl (lv_at hl 5 rfl) ?_
    refine lv_iload S.1 S.2.1 dL_law_241 (lv_at hl 1 rfl) ?_
    refine lv_iconst (v := 1) S.1 S.2.1 dL_law_243 (by decide) ?_
    refine lv_iadd S.1 S.2.1 dL_law_244 ?_
    refine g_scr S G hX hbl hbA (show nI (4 * n) + 1 = nI (4 * n + 1) from nI_add (4 * n) 1) (by omega) hL dL_law_245 ?_
    refine lv_aload_n S.1 S.2.1 dL_law_246 rfl (lv_at hl 5 rfl) ?_
    refine lv_iload S.1 S.2.1 dL_law_247 (lv_at hl 1 rfl) ?_
    refine lv_iconst (v := 2) S.1 S.2.1 dL_law_249 (by decide) ?_
    refine lv_iadd S.1 S.2.1 dL_law_250 ?_
    refine g_scr S G hX hbl hbA (show nI (4 * n) + 2 = nI (4 * n + 2) from nI_add (4 * n) 2) (by omega) hL dL_law_251 ?_
    refine g_cVi S G hF hl 8 (J2.2.1 8 0 (by decide)) (by decide) (c_X7_attach l _ _ _ (xs (4 * n + 1)) (xs (4 * n + 2)) J2.2.1 m1) (cwV 2 S.2.2.2.2 gL_law_X7_attach rfl rfl rfl (by decide +kernel) ⟨Nat.le_of_ble_eq_true rfl, Nat.le_of_ble_eq_true rfl⟩) rfl rfl (Nat.le_of_ble_eq_true rfl) dL_law_252 ⟨hc, hs⟩ (fun r9 u H locs hp G => ?_)
    obtain ⟨hr9, rfl⟩ := hp
    rw [if_pos m2, m3] at hr9
    rw [if_pos m2] at G
    have G : gS D aC A s _ _ (gk (upd3 (mCan (upd3 (upd3 κ 5 (tN (xs (4 * n + 1))) 1 (nI (tN (xs (4 * n + 2))))) 18 0 0 (nI (tN (κ 5 (tN (xs (4 * n + 1))) 1)))) 0) 25 0 (tN (xs (4 * n + 1))) (xs (4 * n + 2)))) H locs := G
    subst hr9
    refine lv_istore (lv' := [(6, _), (5, _), (4, _), (3, _), (2, _), (1, _), (0, _)]) S.1 S.2.1 dL_law_255 hl (by decide) rfl (fun ls hl => ?_)
    refine lv_aload_n S.1 S.2.1 dL_law_257 rfl (lv_at hl 4 rfl) ?_
    refine g_cVi S G hF hl 8 (J2.2.1 8 0 (by decide)) (by decide) (c_X7_thrown l _ _ _ J2.2.1) (cwV 0 S.2.2.2.2 gL_law_X7_thrown rfl rfl rfl (by decide +kernel) ⟨Nat.le_of_ble_eq_true rfl, Nat.le_of_ble_eq_true rfl⟩) rfl rfl (Nat.le_of_ble_eq_true rfl) dL_law_258 ⟨hc, hs⟩ (fun r8 u H locs hp G => ?_)
    obtain ⟨hr8, rfl⟩ := hp
    rw [m4] at hr8
    subst hr8
    have G : gS D aC A s _ _ (gk (upd3 (mCan (upd3 (upd3 κ 5 (tN (xs (4 * n + 1))) 1 (nI (tN (xs (4 * n + 2))))) 18 0 0 (nI (tN (κ 5 (tN (xs (4 * n + 1))) 1)))) 0) 25 0 (tN (xs (4 * n + 1))) (xs (4 * n + 2)))) H locs := G
    refine lv_iload S.1 S.2.1 dL_law_261 (lv_at hl 1 rfl) ?_
    refine lv_icmp_eq (tgt := 268) S.1 S.2.1 dL_law_263 (by decide) (fun _ => ?_) (fun cz => absurd rfl cz)
    refine lv_iload S.1 S.2.1 dL_law_268 (lv_at hl 1 rfl) ?_
    refine lv_if_ne (tgt := 285) S.1 S.2.1 dL_law_270 (by decide) (fun cz => absurd rfl cz) (fun _ => ?_)
    refine lv_aload_n S.1 S.2.1 dL_law_273 rfl (lv_at hl 3 rfl) ?_
    refine lv_iconst (v := 0) S.1 S.2.1 dL_law_274 (by decide) ?_
    refine k_lald (j := 0) S G 18 J2.2.2.1 rfl rfl rfl rfl (by decide) dL_law_275 ?_
    refine g_topL (congrArg Int32.toInt64 m5) ?_
    refine lv_iload S.1 S.2.1 dL_law_276 (lv_at hl 0 rfl) ?_
    refine lv_i2l S.1 S.2.1 dL_law_278 rfl ?_
    refine W.lcmp S.1 S.2.1 dL_law_279 ?_
    refine g_top (lg_cmp_self _) ?_
    refine lv_if_eq (tgt := 285) S.1 S.2.1 dL_law_280 (by decide) (fun _ => ?_) (fun cz => absurd rfl cz)
    refine lv_goto (tgt := 1579) S.1 S.2.1 dL_law_285 (by decide) ?_
    exact kk _ _ _ H locs ls J2 G (lv_sub hl [2, 3, 4, 5, 6] rfl)
  · obtain ⟨n1, n2⟩ := simB_attach J hT
    have G : gS D aC A s _ _ (gk κ) H locs := G
    refine lv_aload_n S.1 S.2.1 dL_law_239 rfl (lv_at hl 3 rfl) ?_
    refine lv_aload_n S.1 S.2.1 dL_law_240 rfl (lv_at hl 5 rfl) ?_
    refine lv_iload S.1 S.2.1 dL_law_241 (lv_at hl 1 rfl) ?_
    refine lv_iconst (v := 1) S.1 S.2.1 dL_law_243 (by decide) ?_
    refine lv_iadd S.1 S.2.1 dL_law_244 ?_
    refine g_scr S G hX hbl hbA (show nI (4 * n) + 1 = nI (4 * n + 1) from nI_add (4 * n) 1) (by omega) hL dL_law_245 ?_
    refine lv_aload_n S.1 S.2.1 dL_law_246 rfl (lv_at hl 5 rfl) ?_
    refine lv_iload S.1 S.2.1 dL_law_247 (lv_at hl 1 rfl) ?_
    refine lv_iconst (v := 2) S.1 S.2.1 dL_law_249 (by decide) ?_
    refine lv_iadd S.1 S.2.1 dL_law_250 ?_
    refine g_scr S G hX hbl hbA (show nI (4 * n) + 2 = nI (4 * n + 2) from nI_add (4 * n) 2) (by omega) hL dL_law_251 ?_
    refine g_cVi S G hF hl 8 (J.2.1 8 0 (by decide)) (by decide) (c_X7_attach l _ _ _ (xs (4 * n + 1)) (xs (4 * n + 2)) J.2.1 J.2.2.2.2.2.1) (cwV 2 S.2.2.2.2 gL_law_X7_attach rfl rfl rfl (by decide +kernel) ⟨Nat.le_of_ble_eq_true rfl, Nat.le_of_ble_eq_true rfl⟩) rfl rfl (Nat.le_of_ble_eq_true rfl) dL_law_252 ⟨hc, hs⟩ (fun r9 u H locs hp G => ?_)
    obtain ⟨hr9, rfl⟩ := hp
    rw [if_neg n2] at hr9
    rw [if_neg n2] at G
    have G : gS D aC A s _ _ (gk (mCan κ (mAttachT (xs (4 * n + 1)) (xs (4 * n + 2))))) H locs := G
    subst hr9
    refine lv_istore (lv' := [(6, _), (5, _), (4, _), (3, _), (2, _), (1, _), (0, _)]) S.1 S.2.1 dL_law_255 hl (by decide) rfl (fun ls hl => ?_)
    refine lv_aload_n S.1 S.2.1 dL_law_257 rfl (lv_at hl 4 rfl) ?_
    refine g_cVi S G hF hl 8 (J.2.1 8 0 (by decide)) (by decide) (c_X7_thrown l _ _ _ J.2.1) (cwV 0 S.2.2.2.2 gL_law_X7_thrown rfl rfl rfl (by decide +kernel) ⟨Nat.le_of_ble_eq_true rfl, Nat.le_of_ble_eq_true rfl⟩) rfl rfl (Nat.le_of_ble_eq_true rfl) dL_law_258 ⟨hc, hs⟩ (fun r8 u H locs hp G => ?_)
    obtain ⟨hr8, rfl⟩ := hp
    rw [mCan, upd3_s, n1] at hr8
    subst hr8
    have G : gS D aC A s _ _ (gk (mCan κ (mAttachT (xs (4 * n + 1)) (xs (4 * n + 2))))) H locs := G
    refine lv_iload S.1 S.2.1 dL_law_261 (lv_at hl 1 rfl) ?_
    refine lv_icmp_eq (tgt := 268) S.1 S.2.1 dL_law_263 (by decide) (fun _ => ?_) (fun cz => absurd rfl cz)
    refine lv_iload S.1 S.2.1 dL_law_268 (lv_at hl 1 rfl) ?_
    refine lv_if_ne (tgt := 285) S.1 S.2.1 dL_law_270 (by decide) (fun _ => ?_) (fun cz => absurd cz (by rw [← n1]; exact n2))
    refine lv_goto (tgt := 1579) S.1 S.2.1 dL_law_285 (by decide) ?_
    exact kk _ _ _ H locs ls (J.can _) G (lv_sub hl [2, 3, 4, 5, 6] rfl)
set_option maxHeartbeats 4000000 in
set_option maxRecDepth 100000 in
theorem lc_setLoss {p : Program} {l : Launch} {e : Env} {s : State} {m : MethodId} {below : List Frame} {meth : Method} {c : Code} {H : Heap} {locs : List Loc} {cells slots : Nat} {Q : State → Prop} {ls : Array Slot} {D : va_G} {aC : Nat → ClassId} {A : Nat → Prop} {ids : gIds} {ad : gAd} {κ : gMem} {b L n : Nat} {xs : Nat → Int32} (hlf : l.stackTraces = false) (S : CallFix p m c cL_law 7 s #[Value.ref b] wsL_law RL) (hF : gF A s s.heap) (hX : va_X b L xs s s.heap) (hbl : b < s.heap.size) (hbA : ¬ A b) (hn : 4 * n + 4 ≤ L) (hL : L ≤ 2048) (G : gS D aC A s ids ad (gk κ) H locs) (hl : lv_has ls 7 [(4, .int (nI (4 * n))), (3, .ref (ad 18 0)), (2, .ref (ad 8 0)), (1, .ref (ad 7 0)), (0, .ref b)]) (J : Inv ids κ) (hc : cells + 8 ≤ 601024) (hs : slots + 64 ≤ 7293034)
    (kk : ∀ (ids' : gIds) (ad' : gAd) (κ' : gMem) (H1 : Heap) (locs1 : List Loc) (ls1 : Array Slot), Inv ids' κ' → gS D aC A s ids' ad' (gk κ') H1 locs1 → lv_has ls1 7 [(4, .int (nI (4 * n))), (3, .ref (ad' 18 0)), (2, .ref (ad' 8 0)), (1, .ref (ad' 7 0)), (0, .ref b)] → W p l e room_1 s m #[Value.ref b] below meth c H1 locs1 (cells + 8) (slots + 64) Q (F0 m 1579 ls1 [])) : W p l e room_1 s m #[Value.ref b] below meth c H locs cells slots Q (F0 m 288 ls []) := by
  have hl : lv_has ls 7 [(4, _), (3, _), (2, _), (1, _), (0, _)] := hl
  refine lv_aload_n S.1 S.2.1 dL_law_288 rfl (lv_at hl 3 rfl) ?_
  refine lv_aload_n S.1 S.2.1 dL_law_289 rfl (lv_at hl 4 rfl) ?_
  refine lv_iload S.1 S.2.1 dL_law_290 (lv_at hl 0 rfl) ?_
  refine lv_iconst (v := 1) S.1 S.2.1 dL_law_292 (by decide) ?_
  refine lv_iadd S.1 S.2.1 dL_law_293 ?_
  refine g_scr S G hX hbl hbA (show nI (4 * n) + 1 = nI (4 * n + 1) from nI_add (4 * n) 1) (by omega) hL dL_law_294 ?_
  refine lv_aload_n S.1 S.2.1 dL_law_295 rfl (lv_at hl 4 rfl) ?_
  refine lv_iload S.1 S.2.1 dL_law_296 (lv_at hl 0 rfl) ?_
  refine lv_iconst (v := 2) S.1 S.2.1 dL_law_298 (by decide) ?_
  refine lv_iadd S.1 S.2.1 dL_law_299 ?_
  refine g_scr S G hX hbl hbA (show nI (4 * n) + 2 = nI (4 * n + 2) from nI_add (4 * n) 2) (by omega) hL dL_law_300 ?_
  refine lv_aload_n S.1 S.2.1 dL_law_301 rfl (lv_at hl 1 rfl) ?_
  refine g_cSWi S G hF hl (c_L_setLoss l hlf ids ad κ (xs (4 * n + 1)) (xs (4 * n + 2)) J.1 J.2.2.1) (vx_cwSW 4 S.2.2.2.2 gL_law_L_setLoss rfl rfl rfl (by decide +kernel) ⟨Nat.le_of_ble_eq_true rfl, Nat.le_of_ble_eq_true rfl⟩) rfl rfl (Nat.le_of_ble_eq_true rfl) dL_law_302 ⟨hc, hs⟩ (fun k9 u H locs hp G => ?_)
  refine lv_istore (lv' := [(5, _), (4, _), (3, _), (2, _), (1, _), (0, _)]) S.1 S.2.1 dL_law_305 hl (by decide) rfl (fun ls hl => ?_)
  rcases hp with ⟨hT, rfl, rfl⟩ | ⟨hT, rfl, rfl⟩
  · obtain ⟨m1, m2, m3, m4, m5, J2⟩ := simA_setLoss J hT
    have G : gS D aC A s _ _ (gk (upd3 (sSetLossK κ (tN (xs (4 * n + 1))) (xs (4 * n + 2))) 18 0 0 (sLost κ (tN (xs (4 * n + 1)))))) H locs := G
    refine lv_aload_n S.1 S.2.1 dL_law_307 rfl (lv_at hl 3 rfl) ?_
    refine lv_aload_n S.1 S.2.1 dL_law_308 rfl (lv_at hl 5 rfl) ?_
    refine lv_iload S.1 S.2.1 dL_law_309 (lv_at hl 1 rfl) ?_
    refine lv_iconst (v := 1) S.1 S.2.1 dL_law_311 (by decide) ?_
    refine lv_iadd S.1 S.2.1 dL_law_312 ?_
    refine g_scr S G hX hbl hbA (show nI (4 * n) + 1 = nI (4 * n + 1) from nI_add (4 * n) 1) (by omega) hL dL_law_313 ?_
    refine lv_aload_n S.1 S.2.1 dL_law_314 rfl (lv_at hl 5 rfl) ?_
    refine lv_iload S.1 S.2.1 dL_law_315 (lv_at hl 1 rfl) ?_
    refine lv_iconst (v := 2) S.1 S.2.1 dL_law_317 (by decide) ?_
    refine lv_iadd S.1 S.2.1 dL_law_318 ?_
    refine g_scr S G hX hbl hbA (show nI (4 * n) + 2 = nI (4 * n + 2) from nI_add (4 * n) 2) (by omega) hL dL_law_319 ?_
    refine g_cVi S G hF hl 8 (J2.2.1 8 0 (by decide)) (by decide) (c_X7_setLoss l _ _ _ (xs (4 * n + 1)) (xs (4 * n + 2)) J2.2.1 m1) (cwV 2 S.2.2.2.2 gL_law_X7_setLoss rfl rfl rfl (by decide +kernel) ⟨Nat.le_of_ble_eq_true rfl, Nat.le_of_ble_eq_true rfl⟩) rfl rfl (Nat.le_of_ble_eq_true rfl) dL_law_320 ⟨hc, hs⟩ (fun r9 u H locs hp G => ?_)
    obtain ⟨hr9, rfl⟩ := hp
    rw [if_pos m2, m3] at hr9
    rw [if_pos m2] at G
    have G : gS D aC A s _ _ (gk (mSetLossK (mCan (upd3 (sSetLossK κ (tN (xs (4 * n + 1))) (xs (4 * n + 2))) 18 0 0 (sLost κ (tN (xs (4 * n + 1))))) 0) (tN (xs (4 * n + 1))) (xs (4 * n + 2)))) H locs := G
    subst hr9
    refine lv_istore (lv' := [(6, _), (5, _), (4, _), (3, _), (2, _), (1, _), (0, _)]) S.1 S.2.1 dL_law_323 hl (by decide) rfl (fun ls hl => ?_)
    refine lv_aload_n S.1 S.2.1 dL_law_325 rfl (lv_at hl 4 rfl) ?_
    refine g_cVi S G hF hl 8 (J2.2.1 8 0 (by decide)) (by decide) (c_X7_thrown l _ _ _ J2.2.1) (cwV 0 S.2.2.2.2 gL_law_X7_thrown rfl rfl rfl (by decide +kernel) ⟨Nat.le_of_ble_eq_true rfl, Nat.le_of_ble_eq_true rfl⟩) rfl rfl (Nat.le_of_ble_eq_true rfl) dL_law_326 ⟨hc, hs⟩ (fun r8 u H locs hp G => ?_)
    obtain ⟨hr8, rfl⟩ := hp
    rw [m4] at hr8
    subst hr8
    have G : gS D aC A s _ _ (gk (mSetLossK (mCan (upd3 (sSetLossK κ (tN (xs (4 * n + 1))) (xs (4 * n + 2))) 18 0 0 (sLost κ (tN (xs (4 * n + 1))))) 0) (tN (xs (4 * n + 1))) (xs (4 * n + 2)))) H locs := G
    refine lv_iload S.1 S.2.1 dL_law_329 (lv_at hl 1 rfl) ?_
    refine lv_icmp_eq (tgt := 336) S.1 S.2.1 dL_law_331 (by decide) (fun _ => ?_) (fun cz => absurd rfl cz)
    refine lv_iload S.1 S.2.1 dL_law_336 (lv_at hl 1 rfl) ?_
    refine lv_if_ne (tgt := 353) S.1 S.2.1 dL_law_338 (by decide) (fun cz => absurd rfl cz) (fun _ => ?_)
    refine lv_aload_n S.1 S.2.1 dL_law_341 rfl (lv_at hl 3 rfl) ?_
    refine lv_iconst (v := 0) S.1 S.2.1 dL_law_342 (by decide) ?_
    refine k_lald (j := 0) S G 18 J2.2.2.1 rfl rfl rfl rfl (by decide) dL_law_343 ?_
    refine g_topL (congrArg Int32.toInt64 m5) ?_
    refine lv_iload S.1 S.2.1 dL_law_344 (lv_at hl 0 rfl) ?_
    refine lv_i2l S.1 S.2.1 dL_law_346 rfl ?_
    refine W.lcmp S.1 S.2.1 dL_law_347 ?_
    refine g_top (lg_cmp_self _) ?_
    refine lv_if_eq (tgt := 353) S.1 S.2.1 dL_law_348 (by decide) (fun _ => ?_) (fun cz => absurd rfl cz)
    refine lv_goto (tgt := 1579) S.1 S.2.1 dL_law_353 (by decide) ?_
    exact kk _ _ _ H locs ls J2 G (lv_sub hl [2, 3, 4, 5, 6] rfl)
  · obtain ⟨n1, n2⟩ := simB_setLoss J hT
    have G : gS D aC A s _ _ (gk κ) H locs := G
    refine lv_aload_n S.1 S.2.1 dL_law_307 rfl (lv_at hl 3 rfl) ?_
    refine lv_aload_n S.1 S.2.1 dL_law_308 rfl (lv_at hl 5 rfl) ?_
    refine lv_iload S.1 S.2.1 dL_law_309 (lv_at hl 1 rfl) ?_
    refine lv_iconst (v := 1) S.1 S.2.1 dL_law_311 (by decide) ?_
    refine lv_iadd S.1 S.2.1 dL_law_312 ?_
    refine g_scr S G hX hbl hbA (show nI (4 * n) + 1 = nI (4 * n + 1) from nI_add (4 * n) 1) (by omega) hL dL_law_313 ?_
    refine lv_aload_n S.1 S.2.1 dL_law_314 rfl (lv_at hl 5 rfl) ?_
    refine lv_iload S.1 S.2.1 dL_law_315 (lv_at hl 1 rfl) ?_
    refine lv_iconst (v := 2) S.1 S.2.1 dL_law_317 (by decide) ?_
    refine lv_iadd S.1 S.2.1 dL_law_318 ?_
    refine g_scr S G hX hbl hbA (show nI (4 * n) + 2 = nI (4 * n + 2) from nI_add (4 * n) 2) (by omega) hL dL_law_319 ?_
    refine g_cVi S G hF hl 8 (J.2.1 8 0 (by decide)) (by decide) (c_X7_setLoss l _ _ _ (xs (4 * n + 1)) (xs (4 * n + 2)) J.2.1 J.2.2.2.2.2.1) (cwV 2 S.2.2.2.2 gL_law_X7_setLoss rfl rfl rfl (by decide +kernel) ⟨Nat.le_of_ble_eq_true rfl, Nat.le_of_ble_eq_true rfl⟩) rfl rfl (Nat.le_of_ble_eq_true rfl) dL_law_320 ⟨hc, hs⟩ (fun r9 u H locs hp G => ?_)
    obtain ⟨hr9, rfl⟩ := hp
    rw [if_neg n2] at hr9
    rw [if_neg n2] at G
    have G : gS D aC A s _ _ (gk (mCan κ (mSetLossT (xs (4 * n + 1)) (xs (4 * n + 2))))) H locs := G
    subst hr9
    refine lv_istore (lv' := [(6, _), (5, _), (4, _), (3, _), (2, _), (1, _), (0, _)]) S.1 S.2.1 dL_law_323 hl (by decide) rfl (fun ls hl => ?_)
    refine lv_aload_n S.1 S.2.1 dL_law_325 rfl (lv_at hl 4 rfl) ?_
    refine g_cVi S G hF hl 8 (J.2.1 8 0 (by decide)) (by decide) (c_X7_thrown l _ _ _ J.2.1) (cwV 0 S.2.2.2.2 gL_law_X7_thrown rfl rfl rfl (by decide +kernel) ⟨Nat.le_of_ble_eq_true rfl, Nat.le_of_ble_eq_true rfl⟩) rfl rfl (Nat.le_of_ble_eq_true rfl) dL_law_326 ⟨hc, hs⟩ (fun r8 u H locs hp G => ?_)
    obtain ⟨hr8, rfl⟩ := hp
    rw [mCan, upd3_s, n1] at hr8
    subst hr8
    have G : gS D aC A s _ _ (gk (mCan κ (mSetLossT (xs (4 * n + 1)) (xs (4 * n + 2))))) H locs := G
    refine lv_iload S.1 S.2.1 dL_law_329 (lv_at hl 1 rfl) ?_
    refine lv_icmp_eq (tgt := 336) S.1 S.2.1 dL_law_331 (by decide) (fun _ => ?_) (fun cz => absurd rfl cz)
    refine lv_iload S.1 S.2.1 dL_law_336 (lv_at hl 1 rfl) ?_
    refine lv_if_ne (tgt := 353) S.1 S.2.1 dL_law_338 (by decide) (fun _ => ?_) (fun cz => absurd cz (by rw [← n1]; exact n2))
    refine lv_goto (tgt := 1579) S.1 S.2.1 dL_law_353 (by decide) ?_
    exact kk _ _ _ H locs ls (J.can _) G (lv_sub hl [2, 3, 4, 5, 6] rfl)
set_option maxHeartbeats 4000000 in
set_option maxRecDepth 100000 in
theorem lc_setPrice {p : Program} {l : Launch} {e : Env} {s : State} {m : MethodId} {below : List Frame} {meth : Method} {c : Code} {H : Heap} {locs : List Loc} {cells slots : Nat} {Q : State → Prop} {ls : Array Slot} {D : va_G} {aC : Nat → ClassId} {A : Nat → Prop} {ids : gIds} {ad : gAd} {κ : gMem} {b L n : Nat} {xs : Nat → Int32} (hlf : l.stackTraces = false) (S : CallFix p m c cL_law 7 s #[Value.ref b] wsL_law RL) (hF : gF A s s.heap) (hX : va_X b L xs s s.heap) (hbl : b < s.heap.size) (hbA : ¬ A b) (hn : 4 * n + 4 ≤ L) (hL : L ≤ 2048) (G : gS D aC A s ids ad (gk κ) H locs) (hl : lv_has ls 7 [(4, .int (nI (4 * n))), (3, .ref (ad 18 0)), (2, .ref (ad 8 0)), (1, .ref (ad 7 0)), (0, .ref b)]) (J : Inv ids κ) (hc : cells + 8 ≤ 601024) (hs : slots + 64 ≤ 7293034)
    (kk : ∀ (ids' : gIds) (ad' : gAd) (κ' : gMem) (H1 : Heap) (locs1 : List Loc) (ls1 : Array Slot), Inv ids' κ' → gS D aC A s ids' ad' (gk κ') H1 locs1 → lv_has ls1 7 [(4, .int (nI (4 * n))), (3, .ref (ad' 18 0)), (2, .ref (ad' 8 0)), (1, .ref (ad' 7 0)), (0, .ref b)] → W p l e room_1 s m #[Value.ref b] below meth c H1 locs1 (cells + 8) (slots + 64) Q (F0 m 1579 ls1 [])) : W p l e room_1 s m #[Value.ref b] below meth c H locs cells slots Q (F0 m 356 ls []) := by
  have hl : lv_has ls 7 [(4, _), (3, _), (2, _), (1, _), (0, _)] := hl
  refine lv_aload_n S.1 S.2.1 dL_law_356 rfl (lv_at hl 3 rfl) ?_
  refine lv_aload_n S.1 S.2.1 dL_law_357 rfl (lv_at hl 4 rfl) ?_
  refine lv_iload S.1 S.2.1 dL_law_358 (lv_at hl 0 rfl) ?_
  refine lv_iconst (v := 1) S.1 S.2.1 dL_law_360 (by decide) ?_
  refine lv_iadd S.1 S.2.1 dL_law_361 ?_
  refine g_scr S G hX hbl hbA (show nI (4 * n) + 1 = nI (4 * n + 1) from nI_add (4 * n) 1) (by omega) hL dL_law_362 ?_
  refine lv_aload_n S.1 S.2.1 dL_law_363 rfl (lv_at hl 4 rfl) ?_
  refine lv_iload S.1 S.2.1 dL_law_364 (lv_at hl 0 rfl) ?_
  refine lv_iconst (v := 2) S.1 S.2.1 dL_law_366 (by decide) ?_
  refine lv_iadd S.1 S.2.1 dL_law_367 ?_
  refine g_scr S G hX hbl hbA (show nI (4 * n) + 2 = nI (4 * n + 2) from nI_add (4 * n) 2) (by omega) hL dL_law_368 ?_
  refine lv_aload_n S.1 S.2.1 dL_law_369 rfl (lv_at hl 1 rfl) ?_
  refine g_cSWi S G hF hl (c_L_setPrice l hlf ids ad κ (xs (4 * n + 1)) (xs (4 * n + 2)) J.1 J.2.2.1) (vx_cwSW 4 S.2.2.2.2 gL_law_L_setPrice rfl rfl rfl (by decide +kernel) ⟨Nat.le_of_ble_eq_true rfl, Nat.le_of_ble_eq_true rfl⟩) rfl rfl (Nat.le_of_ble_eq_true rfl) dL_law_370 ⟨hc, hs⟩ (fun k9 u H locs hp G => ?_)
  refine lv_istore (lv' := [(5, _), (4, _), (3, _), (2, _), (1, _), (0, _)]) S.1 S.2.1 dL_law_373 hl (by decide) rfl (fun ls hl => ?_)
  rcases hp with ⟨hT, rfl, rfl⟩ | ⟨hT, rfl, rfl⟩
  · obtain ⟨m1, m2, m3, m4, m5, J2⟩ := simA_setPrice J hT
    have G : gS D aC A s _ _ (gk (upd3 (upd3 κ 5 (tN (xs (4 * n + 1))) 2 (xs (4 * n + 2))) 18 0 0 (κ 5 (tN (xs (4 * n + 1))) 2))) H locs := G
    refine lv_aload_n S.1 S.2.1 dL_law_375 rfl (lv_at hl 3 rfl) ?_
    refine lv_aload_n S.1 S.2.1 dL_law_376 rfl (lv_at hl 5 rfl) ?_
    refine lv_iload S.1 S.2.1 dL_law_377 (lv_at hl 1 rfl) ?_
    refine lv_iconst (v := 1) S.1 S.2.1 dL_law_379 (by decide) ?_
    refine lv_iadd S.1 S.2.1 dL_law_380 ?_
    refine g_scr S G hX hbl hbA (show nI (4 * n) + 1 = nI (4 * n + 1) from nI_add (4 * n) 1) (by omega) hL dL_law_381 ?_
    refine lv_aload_n S.1 S.2.1 dL_law_382 rfl (lv_at hl 5 rfl) ?_
    refine lv_iload S.1 S.2.1 dL_law_383 (lv_at hl 1 rfl) ?_
    refine lv_iconst (v := 2) S.1 S.2.1 dL_law_385 (by decide) ?_
    refine lv_iadd S.1 S.2.1 dL_law_386 ?_
    refine g_scr S G hX hbl hbA (show nI (4 * n) + 2 = nI (4 * n + 2) from nI_add (4 * n) 2) (by omega) hL dL_law_387 ?_
    refine g_cVi S G hF hl 8 (J2.2.1 8 0 (by decide)) (by decide) (c_X7_setPrice l _ _ _ (xs (4 * n + 1)) (xs (4 * n + 2)) J2.2.1 m1) (cwV 2 S.2.2.2.2 gL_law_X7_setPrice rfl rfl rfl (by decide +kernel) ⟨Nat.le_of_ble_eq_true rfl, Nat.le_of_ble_eq_true rfl⟩) rfl rfl (Nat.le_of_ble_eq_true rfl) dL_law_388 ⟨hc, hs⟩ (fun r9 u H locs hp G => ?_)
    obtain ⟨hr9, rfl⟩ := hp
    rw [if_pos m2, m3] at hr9
    rw [if_pos m2] at G
    have G : gS D aC A s _ _ (gk (upd3 (mCan (upd3 (upd3 κ 5 (tN (xs (4 * n + 1))) 2 (xs (4 * n + 2))) 18 0 0 (κ 5 (tN (xs (4 * n + 1))) 2)) 0) 28 0 (tN (xs (4 * n + 1))) (xs (4 * n + 2)))) H locs := G
    subst hr9
    refine lv_istore (lv' := [(6, _), (5, _), (4, _), (3, _), (2, _), (1, _), (0, _)]) S.1 S.2.1 dL_law_391 hl (by decide) rfl (fun ls hl => ?_)
    refine lv_aload_n S.1 S.2.1 dL_law_393 rfl (lv_at hl 4 rfl) ?_
    refine g_cVi S G hF hl 8 (J2.2.1 8 0 (by decide)) (by decide) (c_X7_thrown l _ _ _ J2.2.1) (cwV 0 S.2.2.2.2 gL_law_X7_thrown rfl rfl rfl (by decide +kernel) ⟨Nat.le_of_ble_eq_true rfl, Nat.le_of_ble_eq_true rfl⟩) rfl rfl (Nat.le_of_ble_eq_true rfl) dL_law_394 ⟨hc, hs⟩ (fun r8 u H locs hp G => ?_)
    obtain ⟨hr8, rfl⟩ := hp
    rw [m4] at hr8
    subst hr8
    have G : gS D aC A s _ _ (gk (upd3 (mCan (upd3 (upd3 κ 5 (tN (xs (4 * n + 1))) 2 (xs (4 * n + 2))) 18 0 0 (κ 5 (tN (xs (4 * n + 1))) 2)) 0) 28 0 (tN (xs (4 * n + 1))) (xs (4 * n + 2)))) H locs := G
    refine lv_iload S.1 S.2.1 dL_law_397 (lv_at hl 1 rfl) ?_
    refine lv_icmp_eq (tgt := 404) S.1 S.2.1 dL_law_399 (by decide) (fun _ => ?_) (fun cz => absurd rfl cz)
    refine lv_iload S.1 S.2.1 dL_law_404 (lv_at hl 1 rfl) ?_
    refine lv_if_ne (tgt := 421) S.1 S.2.1 dL_law_406 (by decide) (fun cz => absurd rfl cz) (fun _ => ?_)
    refine lv_aload_n S.1 S.2.1 dL_law_409 rfl (lv_at hl 3 rfl) ?_
    refine lv_iconst (v := 0) S.1 S.2.1 dL_law_410 (by decide) ?_
    refine k_lald (j := 0) S G 18 J2.2.2.1 rfl rfl rfl rfl (by decide) dL_law_411 ?_
    refine g_topL (congrArg Int32.toInt64 m5) ?_
    refine lv_iload S.1 S.2.1 dL_law_412 (lv_at hl 0 rfl) ?_
    refine lv_i2l S.1 S.2.1 dL_law_414 rfl ?_
    refine W.lcmp S.1 S.2.1 dL_law_415 ?_
    refine g_top (lg_cmp_self _) ?_
    refine lv_if_eq (tgt := 421) S.1 S.2.1 dL_law_416 (by decide) (fun _ => ?_) (fun cz => absurd rfl cz)
    refine lv_goto (tgt := 1579) S.1 S.2.1 dL_law_421 (by decide) ?_
    exact kk _ _ _ H locs ls J2 G (lv_sub hl [2, 3, 4, 5, 6] rfl)
  · obtain ⟨n1, n2⟩ := simB_setPrice J hT
    have G : gS D aC A s _ _ (gk κ) H locs := G
    refine lv_aload_n S.1 S.2.1 dL_law_375 rfl (lv_at hl 3 rfl) ?_
    refine lv_aload_n S.1 S.2.1 dL_law_376 rfl (lv_at hl 5 rfl) ?_
    refine lv_iload S.1 S.2.1 dL_law_377 (lv_at hl 1 rfl) ?_
    refine lv_iconst (v := 1) S.1 S.2.1 dL_law_379 (by decide) ?_
    refine lv_iadd S.1 S.2.1 dL_law_380 ?_
    refine g_scr S G hX hbl hbA (show nI (4 * n) + 1 = nI (4 * n + 1) from nI_add (4 * n) 1) (by omega) hL dL_law_381 ?_
    refine lv_aload_n S.1 S.2.1 dL_law_382 rfl (lv_at hl 5 rfl) ?_
    refine lv_iload S.1 S.2.1 dL_law_383 (lv_at hl 1 rfl) ?_
    refine lv_iconst (v := 2) S.1 S.2.1 dL_law_385 (by decide) ?_
    refine lv_iadd S.1 S.2.1 dL_law_386 ?_
    refine g_scr S G hX hbl hbA (show nI (4 * n) + 2 = nI (4 * n + 2) from nI_add (4 * n) 2) (by omega) hL dL_law_387 ?_
    refine g_cVi S G hF hl 8 (J.2.1 8 0 (by decide)) (by decide) (c_X7_setPrice l _ _ _ (xs (4 * n + 1)) (xs (4 * n + 2)) J.2.1 J.2.2.2.2.2.1) (cwV 2 S.2.2.2.2 gL_law_X7_setPrice rfl rfl rfl (by decide +kernel) ⟨Nat.le_of_ble_eq_true rfl, Nat.le_of_ble_eq_true rfl⟩) rfl rfl (Nat.le_of_ble_eq_true rfl) dL_law_388 ⟨hc, hs⟩ (fun r9 u H locs hp G => ?_)
    obtain ⟨hr9, rfl⟩ := hp
    rw [if_neg n2] at hr9
    rw [if_neg n2] at G
    have G : gS D aC A s _ _ (gk (mCan κ (mSetPriceT (xs (4 * n + 1)) (xs (4 * n + 2))))) H locs := G
    subst hr9
    refine lv_istore (lv' := [(6, _), (5, _), (4, _), (3, _), (2, _), (1, _), (0, _)]) S.1 S.2.1 dL_law_391 hl (by decide) rfl (fun ls hl => ?_)
    refine lv_aload_n S.1 S.2.1 dL_law_393 rfl (lv_at hl 4 rfl) ?_
    refine g_cVi S G hF hl 8 (J.2.1 8 0 (by decide)) (by decide) (c_X7_thrown l _ _ _ J.2.1) (cwV 0 S.2.2.2.2 gL_law_X7_thrown rfl rfl rfl (by decide +kernel) ⟨Nat.le_of_ble_eq_true rfl, Nat.le_of_ble_eq_true rfl⟩) rfl rfl (Nat.le_of_ble_eq_true rfl) dL_law_394 ⟨hc, hs⟩ (fun r8 u H locs hp G => ?_)
    obtain ⟨hr8, rfl⟩ := hp
    rw [mCan, upd3_s, n1] at hr8
    subst hr8
    have G : gS D aC A s _ _ (gk (mCan κ (mSetPriceT (xs (4 * n + 1)) (xs (4 * n + 2))))) H locs := G
    refine lv_iload S.1 S.2.1 dL_law_397 (lv_at hl 1 rfl) ?_
    refine lv_icmp_eq (tgt := 404) S.1 S.2.1 dL_law_399 (by decide) (fun _ => ?_) (fun cz => absurd rfl cz)
    refine lv_iload S.1 S.2.1 dL_law_404 (lv_at hl 1 rfl) ?_
    refine lv_if_ne (tgt := 421) S.1 S.2.1 dL_law_406 (by decide) (fun _ => ?_) (fun cz => absurd cz (by rw [← n1]; exact n2))
    refine lv_goto (tgt := 1579) S.1 S.2.1 dL_law_421 (by decide) ?_
    exact kk _ _ _ H locs ls (J.can _) G (lv_sub hl [2, 3, 4, 5, 6] rfl)
set_option maxHeartbeats 4000000 in
set_option maxRecDepth 100000 in
theorem lc_topUp {p : Program} {l : Launch} {e : Env} {s : State} {m : MethodId} {below : List Frame} {meth : Method} {c : Code} {H : Heap} {locs : List Loc} {cells slots : Nat} {Q : State → Prop} {ls : Array Slot} {D : va_G} {aC : Nat → ClassId} {A : Nat → Prop} {ids : gIds} {ad : gAd} {κ : gMem} {b L n : Nat} {xs : Nat → Int32} (hlf : l.stackTraces = false) (S : CallFix p m c cL_law 7 s #[Value.ref b] wsL_law RL) (hF : gF A s s.heap) (hX : va_X b L xs s s.heap) (hbl : b < s.heap.size) (hbA : ¬ A b) (hn : 4 * n + 4 ≤ L) (hL : L ≤ 2048) (G : gS D aC A s ids ad (gk κ) H locs) (hl : lv_has ls 7 [(4, .int (nI (4 * n))), (3, .ref (ad 18 0)), (2, .ref (ad 8 0)), (1, .ref (ad 7 0)), (0, .ref b)]) (J : Inv ids κ) (hc : cells + 8 ≤ 601024) (hs : slots + 64 ≤ 7293034)
    (kk : ∀ (ids' : gIds) (ad' : gAd) (κ' : gMem) (H1 : Heap) (locs1 : List Loc) (ls1 : Array Slot), Inv ids' κ' → gS D aC A s ids' ad' (gk κ') H1 locs1 → lv_has ls1 7 [(4, .int (nI (4 * n))), (3, .ref (ad' 18 0)), (2, .ref (ad' 8 0)), (1, .ref (ad' 7 0)), (0, .ref b)] → W p l e room_1 s m #[Value.ref b] below meth c H1 locs1 (cells + 8) (slots + 64) Q (F0 m 1579 ls1 [])) : W p l e room_1 s m #[Value.ref b] below meth c H locs cells slots Q (F0 m 424 ls []) := by
  have hl : lv_has ls 7 [(4, _), (3, _), (2, _), (1, _), (0, _)] := hl
  refine lv_aload_n S.1 S.2.1 dL_law_424 rfl (lv_at hl 3 rfl) ?_
  refine lv_aload_n S.1 S.2.1 dL_law_425 rfl (lv_at hl 4 rfl) ?_
  refine lv_iload S.1 S.2.1 dL_law_426 (lv_at hl 0 rfl) ?_
  refine lv_iconst (v := 1) S.1 S.2.1 dL_law_428 (by decide) ?_
  refine lv_iadd S.1 S.2.1 dL_law_429 ?_
  refine g_scr S G hX hbl hbA (show nI (4 * n) + 1 = nI (4 * n + 1) from nI_add (4 * n) 1) (by omega) hL dL_law_430 ?_
  refine lv_aload_n S.1 S.2.1 dL_law_431 rfl (lv_at hl 4 rfl) ?_
  refine lv_iload S.1 S.2.1 dL_law_432 (lv_at hl 0 rfl) ?_
  refine lv_iconst (v := 2) S.1 S.2.1 dL_law_434 (by decide) ?_
  refine lv_iadd S.1 S.2.1 dL_law_435 ?_
  refine g_scr S G hX hbl hbA (show nI (4 * n) + 2 = nI (4 * n + 2) from nI_add (4 * n) 2) (by omega) hL dL_law_436 ?_
  refine lv_aload_n S.1 S.2.1 dL_law_437 rfl (lv_at hl 1 rfl) ?_
  refine g_cSWi S G hF hl (c_L_topUp l hlf ids ad κ (xs (4 * n + 1)) (xs (4 * n + 2)) J.1 J.2.2.1) (vx_cwSW 4 S.2.2.2.2 gL_law_L_topUp rfl rfl rfl (by decide +kernel) ⟨Nat.le_of_ble_eq_true rfl, Nat.le_of_ble_eq_true rfl⟩) rfl rfl (Nat.le_of_ble_eq_true rfl) dL_law_438 ⟨hc, hs⟩ (fun k9 u H locs hp G => ?_)
  refine lv_istore (lv' := [(5, _), (4, _), (3, _), (2, _), (1, _), (0, _)]) S.1 S.2.1 dL_law_441 hl (by decide) rfl (fun ls hl => ?_)
  rcases hp with ⟨hT, rfl, rfl⟩ | ⟨hT, rfl, rfl⟩
  · obtain ⟨m1, m2, m3, m4, m5, J2⟩ := simA_topUp J hT
    have G : gS D aC A s _ _ (gk (upd3 (sTopUpK κ (tN (xs (4 * n + 1))) (xs (4 * n + 2))) 18 0 0 (sTopUpK κ (tN (xs (4 * n + 1))) (xs (4 * n + 2)) 5 (tN (xs (4 * n + 1))) 3))) H locs := G
    refine lv_aload_n S.1 S.2.1 dL_law_443 rfl (lv_at hl 3 rfl) ?_
    refine lv_aload_n S.1 S.2.1 dL_law_444 rfl (lv_at hl 5 rfl) ?_
    refine lv_iload S.1 S.2.1 dL_law_445 (lv_at hl 1 rfl) ?_
    refine lv_iconst (v := 1) S.1 S.2.1 dL_law_447 (by decide) ?_
    refine lv_iadd S.1 S.2.1 dL_law_448 ?_
    refine g_scr S G hX hbl hbA (show nI (4 * n) + 1 = nI (4 * n + 1) from nI_add (4 * n) 1) (by omega) hL dL_law_449 ?_
    refine lv_aload_n S.1 S.2.1 dL_law_450 rfl (lv_at hl 5 rfl) ?_
    refine lv_iload S.1 S.2.1 dL_law_451 (lv_at hl 1 rfl) ?_
    refine lv_iconst (v := 2) S.1 S.2.1 dL_law_453 (by decide) ?_
    refine lv_iadd S.1 S.2.1 dL_law_454 ?_
    refine g_scr S G hX hbl hbA (show nI (4 * n) + 2 = nI (4 * n + 2) from nI_add (4 * n) 2) (by omega) hL dL_law_455 ?_
    refine g_cVi S G hF hl 8 (J2.2.1 8 0 (by decide)) (by decide) (c_X7_topUp l _ _ _ (xs (4 * n + 1)) (xs (4 * n + 2)) J2.2.1 m1) (cwV 2 S.2.2.2.2 gL_law_X7_topUp rfl rfl rfl (by decide +kernel) ⟨Nat.le_of_ble_eq_true rfl, Nat.le_of_ble_eq_true rfl⟩) rfl rfl (Nat.le_of_ble_eq_true rfl) dL_law_456 ⟨hc, hs⟩ (fun r9 u H locs hp G => ?_)
    obtain ⟨hr9, rfl⟩ := hp
    rw [if_pos m2, m3] at hr9
    rw [if_pos m2] at G
    have G : gS D aC A s _ _ (gk (mTopUpK (mCan (upd3 (sTopUpK κ (tN (xs (4 * n + 1))) (xs (4 * n + 2))) 18 0 0 (sTopUpK κ (tN (xs (4 * n + 1))) (xs (4 * n + 2)) 5 (tN (xs (4 * n + 1))) 3)) 0) (tN (xs (4 * n + 1))) (xs (4 * n + 2)))) H locs := G
    subst hr9
    refine lv_istore (lv' := [(6, _), (5, _), (4, _), (3, _), (2, _), (1, _), (0, _)]) S.1 S.2.1 dL_law_459 hl (by decide) rfl (fun ls hl => ?_)
    refine lv_aload_n S.1 S.2.1 dL_law_461 rfl (lv_at hl 4 rfl) ?_
    refine g_cVi S G hF hl 8 (J2.2.1 8 0 (by decide)) (by decide) (c_X7_thrown l _ _ _ J2.2.1) (cwV 0 S.2.2.2.2 gL_law_X7_thrown rfl rfl rfl (by decide +kernel) ⟨Nat.le_of_ble_eq_true rfl, Nat.le_of_ble_eq_true rfl⟩) rfl rfl (Nat.le_of_ble_eq_true rfl) dL_law_462 ⟨hc, hs⟩ (fun r8 u H locs hp G => ?_)
    obtain ⟨hr8, rfl⟩ := hp
    rw [m4] at hr8
    subst hr8
    have G : gS D aC A s _ _ (gk (mTopUpK (mCan (upd3 (sTopUpK κ (tN (xs (4 * n + 1))) (xs (4 * n + 2))) 18 0 0 (sTopUpK κ (tN (xs (4 * n + 1))) (xs (4 * n + 2)) 5 (tN (xs (4 * n + 1))) 3)) 0) (tN (xs (4 * n + 1))) (xs (4 * n + 2)))) H locs := G
    refine lv_iload S.1 S.2.1 dL_law_465 (lv_at hl 1 rfl) ?_
    refine lv_icmp_eq (tgt := 472) S.1 S.2.1 dL_law_467 (by decide) (fun _ => ?_) (fun cz => absurd rfl cz)
    refine lv_iload S.1 S.2.1 dL_law_472 (lv_at hl 1 rfl) ?_
    refine lv_if_ne (tgt := 489) S.1 S.2.1 dL_law_474 (by decide) (fun cz => absurd rfl cz) (fun _ => ?_)
    refine lv_aload_n S.1 S.2.1 dL_law_477 rfl (lv_at hl 3 rfl) ?_
    refine lv_iconst (v := 0) S.1 S.2.1 dL_law_478 (by decide) ?_
    refine k_lald (j := 0) S G 18 J2.2.2.1 rfl rfl rfl rfl (by decide) dL_law_479 ?_
    refine g_topL (congrArg Int32.toInt64 m5) ?_
    refine lv_iload S.1 S.2.1 dL_law_480 (lv_at hl 0 rfl) ?_
    refine lv_i2l S.1 S.2.1 dL_law_482 rfl ?_
    refine W.lcmp S.1 S.2.1 dL_law_483 ?_
    refine g_top (lg_cmp_self _) ?_
    refine lv_if_eq (tgt := 489) S.1 S.2.1 dL_law_484 (by decide) (fun _ => ?_) (fun cz => absurd rfl cz)
    refine lv_goto (tgt := 1579) S.1 S.2.1 dL_law_489 (by decide) ?_
    exact kk _ _ _ H locs ls J2 G (lv_sub hl [2, 3, 4, 5, 6] rfl)
  · obtain ⟨n1, n2⟩ := simB_topUp J hT
    have G : gS D aC A s _ _ (gk κ) H locs := G
    refine lv_aload_n S.1 S.2.1 dL_law_443 rfl (lv_at hl 3 rfl) ?_
    refine lv_aload_n S.1 S.2.1 dL_law_444 rfl (lv_at hl 5 rfl) ?_
    refine lv_iload S.1 S.2.1 dL_law_445 (lv_at hl 1 rfl) ?_
    refine lv_iconst (v := 1) S.1 S.2.1 dL_law_447 (by decide) ?_
    refine lv_iadd S.1 S.2.1 dL_law_448 ?_
    refine g_scr S G hX hbl hbA (show nI (4 * n) + 1 = nI (4 * n + 1) from nI_add (4 * n) 1) (by omega) hL dL_law_449 ?_
    refine lv_aload_n S.1 S.2.1 dL_law_450 rfl (lv_at hl 5 rfl) ?_
    refine lv_iload S.1 S.2.1 dL_law_451 (lv_at hl 1 rfl) ?_
    refine lv_iconst (v := 2) S.1 S.2.1 dL_law_453 (by decide) ?_
    refine lv_iadd S.1 S.2.1 dL_law_454 ?_
    refine g_scr S G hX hbl hbA (show nI (4 * n) + 2 = nI (4 * n + 2) from nI_add (4 * n) 2) (by omega) hL dL_law_455 ?_
    refine g_cVi S G hF hl 8 (J.2.1 8 0 (by decide)) (by decide) (c_X7_topUp l _ _ _ (xs (4 * n + 1)) (xs (4 * n + 2)) J.2.1 J.2.2.2.2.2.1) (cwV 2 S.2.2.2.2 gL_law_X7_topUp rfl rfl rfl (by decide +kernel) ⟨Nat.le_of_ble_eq_true rfl, Nat.le_of_ble_eq_true rfl⟩) rfl rfl (Nat.le_of_ble_eq_true rfl) dL_law_456 ⟨hc, hs⟩ (fun r9 u H locs hp G => ?_)
    obtain ⟨hr9, rfl⟩ := hp
    rw [if_neg n2] at hr9
    rw [if_neg n2] at G
    have G : gS D aC A s _ _ (gk (mCan κ (mTopUpT κ (xs (4 * n + 1)) (xs (4 * n + 2))))) H locs := G
    subst hr9
    refine lv_istore (lv' := [(6, _), (5, _), (4, _), (3, _), (2, _), (1, _), (0, _)]) S.1 S.2.1 dL_law_459 hl (by decide) rfl (fun ls hl => ?_)
    refine lv_aload_n S.1 S.2.1 dL_law_461 rfl (lv_at hl 4 rfl) ?_
    refine g_cVi S G hF hl 8 (J.2.1 8 0 (by decide)) (by decide) (c_X7_thrown l _ _ _ J.2.1) (cwV 0 S.2.2.2.2 gL_law_X7_thrown rfl rfl rfl (by decide +kernel) ⟨Nat.le_of_ble_eq_true rfl, Nat.le_of_ble_eq_true rfl⟩) rfl rfl (Nat.le_of_ble_eq_true rfl) dL_law_462 ⟨hc, hs⟩ (fun r8 u H locs hp G => ?_)
    obtain ⟨hr8, rfl⟩ := hp
    rw [mCan, upd3_s, n1] at hr8
    subst hr8
    have G : gS D aC A s _ _ (gk (mCan κ (mTopUpT κ (xs (4 * n + 1)) (xs (4 * n + 2))))) H locs := G
    refine lv_iload S.1 S.2.1 dL_law_465 (lv_at hl 1 rfl) ?_
    refine lv_icmp_eq (tgt := 472) S.1 S.2.1 dL_law_467 (by decide) (fun _ => ?_) (fun cz => absurd rfl cz)
    refine lv_iload S.1 S.2.1 dL_law_472 (lv_at hl 1 rfl) ?_
    refine lv_if_ne (tgt := 489) S.1 S.2.1 dL_law_474 (by decide) (fun _ => ?_) (fun cz => absurd cz (by rw [← n1]; exact n2))
    refine lv_goto (tgt := 1579) S.1 S.2.1 dL_law_489 (by decide) ?_
    exact kk _ _ _ H locs ls (J.can _) G (lv_sub hl [2, 3, 4, 5, 6] rfl)
set_option maxHeartbeats 4000000 in
set_option maxRecDepth 100000 in
theorem lc_tell {p : Program} {l : Launch} {e : Env} {s : State} {m : MethodId} {below : List Frame} {meth : Method} {c : Code} {H : Heap} {locs : List Loc} {cells slots : Nat} {Q : State → Prop} {ls : Array Slot} {D : va_G} {aC : Nat → ClassId} {A : Nat → Prop} {ids : gIds} {ad : gAd} {κ : gMem} {b L n : Nat} {xs : Nat → Int32} (hlf : l.stackTraces = false) (S : CallFix p m c cL_law 7 s #[Value.ref b] wsL_law RL) (hF : gF A s s.heap) (hX : va_X b L xs s s.heap) (hbl : b < s.heap.size) (hbA : ¬ A b) (hn : 4 * n + 4 ≤ L) (hL : L ≤ 2048) (G : gS D aC A s ids ad (gk κ) H locs) (hl : lv_has ls 7 [(4, .int (nI (4 * n))), (3, .ref (ad 18 0)), (2, .ref (ad 8 0)), (1, .ref (ad 7 0)), (0, .ref b)]) (J : Inv ids κ) (hc : cells + 8 ≤ 601024) (hs : slots + 64 ≤ 7293034)
    (kk : ∀ (ids' : gIds) (ad' : gAd) (κ' : gMem) (H1 : Heap) (locs1 : List Loc) (ls1 : Array Slot), Inv ids' κ' → gS D aC A s ids' ad' (gk κ') H1 locs1 → lv_has ls1 7 [(4, .int (nI (4 * n))), (3, .ref (ad' 18 0)), (2, .ref (ad' 8 0)), (1, .ref (ad' 7 0)), (0, .ref b)] → W p l e room_1 s m #[Value.ref b] below meth c H1 locs1 (cells + 8) (slots + 64) Q (F0 m 1579 ls1 [])) : W p l e room_1 s m #[Value.ref b] below meth c H locs cells slots Q (F0 m 492 ls []) := by
  have hl : lv_has ls 7 [(4, _), (3, _), (2, _), (1, _), (0, _)] := hl
  refine lv_aload_n S.1 S.2.1 dL_law_492 rfl (lv_at hl 3 rfl) ?_
  refine lv_aload_n S.1 S.2.1 dL_law_493 rfl (lv_at hl 4 rfl) ?_
  refine lv_iload S.1 S.2.1 dL_law_494 (lv_at hl 0 rfl) ?_
  refine lv_iconst (v := 1) S.1 S.2.1 dL_law_496 (by decide) ?_
  refine lv_iadd S.1 S.2.1 dL_law_497 ?_
  refine g_scr S G hX hbl hbA (show nI (4 * n) + 1 = nI (4 * n + 1) from nI_add (4 * n) 1) (by omega) hL dL_law_498 ?_
  refine lv_aload_n S.1 S.2.1 dL_law_499 rfl (lv_at hl 4 rfl) ?_
  refine lv_iload S.1 S.2.1 dL_law_500 (lv_at hl 0 rfl) ?_
  refine lv_iconst (v := 2) S.1 S.2.1 dL_law_502 (by decide) ?_
  refine lv_iadd S.1 S.2.1 dL_law_503 ?_
  refine g_scr S G hX hbl hbA (show nI (4 * n) + 2 = nI (4 * n + 2) from nI_add (4 * n) 2) (by omega) hL dL_law_504 ?_
  refine lv_aload_n S.1 S.2.1 dL_law_505 rfl (lv_at hl 1 rfl) ?_
  refine g_cSWi S G hF hl (c_L_tell l hlf ids ad κ (xs (4 * n + 1)) (xs (4 * n + 2)) J.1 J.2.2.2.1 J.2.2.2.2.1 J.2.2.1) (vx_cwSW 4 S.2.2.2.2 gL_law_L_tell rfl rfl rfl (by decide +kernel) ⟨Nat.le_of_ble_eq_true rfl, Nat.le_of_ble_eq_true rfl⟩) rfl rfl (Nat.le_of_ble_eq_true rfl) dL_law_506 ⟨hc, hs⟩ (fun k9 u H locs hp G => ?_)
  refine lv_istore (lv' := [(5, _), (4, _), (3, _), (2, _), (1, _), (0, _)]) S.1 S.2.1 dL_law_509 hl (by decide) rfl (fun ls hl => ?_)
  rcases hp with ⟨hT, rfl, q1, q2, rfl⟩ | ⟨hT, rfl, rfl⟩
  · obtain ⟨m1, m2, m3, m4, m5, J2⟩ := simA_tell J hT
    have G : gS D aC A s _ _ (gk (upd3 (sTellK κ (tN (xs (4 * n + 1))) (tN (κ 7 0 4)) (xs (4 * n + 2))) 18 0 0 (κ 7 0 4))) H locs := G
    refine lv_aload_n S.1 S.2.1 dL_law_511 rfl (lv_at hl 3 rfl) ?_
    refine lv_aload_n S.1 S.2.1 dL_law_512 rfl (lv_at hl 5 rfl) ?_
    refine lv_iload S.1 S.2.1 dL_law_513 (lv_at hl 1 rfl) ?_
    refine lv_iconst (v := 1) S.1 S.2.1 dL_law_515 (by decide) ?_
    refine lv_iadd S.1 S.2.1 dL_law_516 ?_
    refine g_scr S G hX hbl hbA (show nI (4 * n) + 1 = nI (4 * n + 1) from nI_add (4 * n) 1) (by omega) hL dL_law_517 ?_
    refine lv_aload_n S.1 S.2.1 dL_law_518 rfl (lv_at hl 5 rfl) ?_
    refine lv_iload S.1 S.2.1 dL_law_519 (lv_at hl 1 rfl) ?_
    refine lv_iconst (v := 2) S.1 S.2.1 dL_law_521 (by decide) ?_
    refine lv_iadd S.1 S.2.1 dL_law_522 ?_
    refine g_scr S G hX hbl hbA (show nI (4 * n) + 2 = nI (4 * n + 2) from nI_add (4 * n) 2) (by omega) hL dL_law_523 ?_
    refine g_cVi S G hF hl 8 (J2.2.1 8 0 (by decide)) (by decide) (c_X7_tell l _ _ _ (xs (4 * n + 1)) (xs (4 * n + 2)) J2.2.1 m1) (cwV 2 S.2.2.2.2 gL_law_X7_tell rfl rfl rfl (by decide +kernel) ⟨Nat.le_of_ble_eq_true rfl, Nat.le_of_ble_eq_true rfl⟩) rfl rfl (Nat.le_of_ble_eq_true rfl) dL_law_524 ⟨hc, hs⟩ (fun r9 u H locs hp G => ?_)
    obtain ⟨hr9, rfl⟩ := hp
    rw [if_pos m2, m3] at hr9
    rw [if_pos m2] at G
    have G : gS D aC A s _ _ (gk (mTellK (mCan (upd3 (sTellK κ (tN (xs (4 * n + 1))) (tN (κ 7 0 4)) (xs (4 * n + 2))) 18 0 0 (κ 7 0 4)) 0) (xs (4 * n + 1)) (tN ((upd3 (sTellK κ (tN (xs (4 * n + 1))) (tN (κ 7 0 4)) (xs (4 * n + 2))) 18 0 0 (κ 7 0 4)) 8 0 16)) (xs (4 * n + 2)))) H locs := G
    subst hr9
    refine lv_istore (lv' := [(6, _), (5, _), (4, _), (3, _), (2, _), (1, _), (0, _)]) S.1 S.2.1 dL_law_527 hl (by decide) rfl (fun ls hl => ?_)
    refine lv_aload_n S.1 S.2.1 dL_law_529 rfl (lv_at hl 4 rfl) ?_
    refine g_cVi S G hF hl 8 (J2.2.1 8 0 (by decide)) (by decide) (c_X7_thrown l _ _ _ J2.2.1) (cwV 0 S.2.2.2.2 gL_law_X7_thrown rfl rfl rfl (by decide +kernel) ⟨Nat.le_of_ble_eq_true rfl, Nat.le_of_ble_eq_true rfl⟩) rfl rfl (Nat.le_of_ble_eq_true rfl) dL_law_530 ⟨hc, hs⟩ (fun r8 u H locs hp G => ?_)
    obtain ⟨hr8, rfl⟩ := hp
    rw [m4] at hr8
    subst hr8
    have G : gS D aC A s _ _ (gk (mTellK (mCan (upd3 (sTellK κ (tN (xs (4 * n + 1))) (tN (κ 7 0 4)) (xs (4 * n + 2))) 18 0 0 (κ 7 0 4)) 0) (xs (4 * n + 1)) (tN ((upd3 (sTellK κ (tN (xs (4 * n + 1))) (tN (κ 7 0 4)) (xs (4 * n + 2))) 18 0 0 (κ 7 0 4)) 8 0 16)) (xs (4 * n + 2)))) H locs := G
    refine lv_iload S.1 S.2.1 dL_law_533 (lv_at hl 1 rfl) ?_
    refine lv_icmp_eq (tgt := 540) S.1 S.2.1 dL_law_535 (by decide) (fun _ => ?_) (fun cz => absurd rfl cz)
    refine lv_iload S.1 S.2.1 dL_law_540 (lv_at hl 1 rfl) ?_
    refine lv_if_ne (tgt := 557) S.1 S.2.1 dL_law_542 (by decide) (fun cz => absurd rfl cz) (fun _ => ?_)
    refine lv_aload_n S.1 S.2.1 dL_law_545 rfl (lv_at hl 3 rfl) ?_
    refine lv_iconst (v := 0) S.1 S.2.1 dL_law_546 (by decide) ?_
    refine k_lald (j := 0) S G 18 J2.2.2.1 rfl rfl rfl rfl (by decide) dL_law_547 ?_
    refine g_topL (congrArg Int32.toInt64 m5) ?_
    refine lv_iload S.1 S.2.1 dL_law_548 (lv_at hl 0 rfl) ?_
    refine lv_i2l S.1 S.2.1 dL_law_550 rfl ?_
    refine W.lcmp S.1 S.2.1 dL_law_551 ?_
    refine g_top (lg_cmp_self _) ?_
    refine lv_if_eq (tgt := 557) S.1 S.2.1 dL_law_552 (by decide) (fun _ => ?_) (fun cz => absurd rfl cz)
    refine lv_goto (tgt := 1579) S.1 S.2.1 dL_law_557 (by decide) ?_
    exact kk _ _ _ H locs ls J2 G (lv_sub hl [2, 3, 4, 5, 6] rfl)
  · obtain ⟨n1, n2⟩ := simB_tell J hT
    have G : gS D aC A s _ _ (gk κ) H locs := G
    refine lv_aload_n S.1 S.2.1 dL_law_511 rfl (lv_at hl 3 rfl) ?_
    refine lv_aload_n S.1 S.2.1 dL_law_512 rfl (lv_at hl 5 rfl) ?_
    refine lv_iload S.1 S.2.1 dL_law_513 (lv_at hl 1 rfl) ?_
    refine lv_iconst (v := 1) S.1 S.2.1 dL_law_515 (by decide) ?_
    refine lv_iadd S.1 S.2.1 dL_law_516 ?_
    refine g_scr S G hX hbl hbA (show nI (4 * n) + 1 = nI (4 * n + 1) from nI_add (4 * n) 1) (by omega) hL dL_law_517 ?_
    refine lv_aload_n S.1 S.2.1 dL_law_518 rfl (lv_at hl 5 rfl) ?_
    refine lv_iload S.1 S.2.1 dL_law_519 (lv_at hl 1 rfl) ?_
    refine lv_iconst (v := 2) S.1 S.2.1 dL_law_521 (by decide) ?_
    refine lv_iadd S.1 S.2.1 dL_law_522 ?_
    refine g_scr S G hX hbl hbA (show nI (4 * n) + 2 = nI (4 * n + 2) from nI_add (4 * n) 2) (by omega) hL dL_law_523 ?_
    refine g_cVi S G hF hl 8 (J.2.1 8 0 (by decide)) (by decide) (c_X7_tell l _ _ _ (xs (4 * n + 1)) (xs (4 * n + 2)) J.2.1 J.2.2.2.2.2.1) (cwV 2 S.2.2.2.2 gL_law_X7_tell rfl rfl rfl (by decide +kernel) ⟨Nat.le_of_ble_eq_true rfl, Nat.le_of_ble_eq_true rfl⟩) rfl rfl (Nat.le_of_ble_eq_true rfl) dL_law_524 ⟨hc, hs⟩ (fun r9 u H locs hp G => ?_)
    obtain ⟨hr9, rfl⟩ := hp
    rw [if_neg n2] at hr9
    rw [if_neg n2] at G
    have G : gS D aC A s _ _ (gk (mCan κ (mTellT κ (xs (4 * n + 1)) (xs (4 * n + 2))))) H locs := G
    subst hr9
    refine lv_istore (lv' := [(6, _), (5, _), (4, _), (3, _), (2, _), (1, _), (0, _)]) S.1 S.2.1 dL_law_527 hl (by decide) rfl (fun ls hl => ?_)
    refine lv_aload_n S.1 S.2.1 dL_law_529 rfl (lv_at hl 4 rfl) ?_
    refine g_cVi S G hF hl 8 (J.2.1 8 0 (by decide)) (by decide) (c_X7_thrown l _ _ _ J.2.1) (cwV 0 S.2.2.2.2 gL_law_X7_thrown rfl rfl rfl (by decide +kernel) ⟨Nat.le_of_ble_eq_true rfl, Nat.le_of_ble_eq_true rfl⟩) rfl rfl (Nat.le_of_ble_eq_true rfl) dL_law_530 ⟨hc, hs⟩ (fun r8 u H locs hp G => ?_)
    obtain ⟨hr8, rfl⟩ := hp
    rw [mCan, upd3_s, n1] at hr8
    subst hr8
    have G : gS D aC A s _ _ (gk (mCan κ (mTellT κ (xs (4 * n + 1)) (xs (4 * n + 2))))) H locs := G
    refine lv_iload S.1 S.2.1 dL_law_533 (lv_at hl 1 rfl) ?_
    refine lv_icmp_eq (tgt := 540) S.1 S.2.1 dL_law_535 (by decide) (fun _ => ?_) (fun cz => absurd rfl cz)
    refine lv_iload S.1 S.2.1 dL_law_540 (lv_at hl 1 rfl) ?_
    refine lv_if_ne (tgt := 557) S.1 S.2.1 dL_law_542 (by decide) (fun _ => ?_) (fun cz => absurd cz (by rw [← n1]; exact n2))
    refine lv_goto (tgt := 1579) S.1 S.2.1 dL_law_557 (by decide) ?_
    exact kk _ _ _ H locs ls (J.can _) G (lv_sub hl [2, 3, 4, 5, 6] rfl)
set_option maxHeartbeats 4000000 in
set_option maxRecDepth 100000 in
theorem lc_open {p : Program} {l : Launch} {e : Env} {s : State} {m : MethodId} {below : List Frame} {meth : Method} {c : Code} {H : Heap} {locs : List Loc} {cells slots : Nat} {Q : State → Prop} {ls : Array Slot} {D : va_G} {aC : Nat → ClassId} {A : Nat → Prop} {ids : gIds} {ad : gAd} {κ : gMem} {b L n : Nat} {xs : Nat → Int32} (hlf : l.stackTraces = false) (S : CallFix p m c cL_law 7 s #[Value.ref b] wsL_law RL) (hF : gF A s s.heap) (hX : va_X b L xs s s.heap) (hbl : b < s.heap.size) (hbA : ¬ A b) (hn : 4 * n + 4 ≤ L) (hL : L ≤ 2048) (G : gS D aC A s ids ad (gk κ) H locs) (hl : lv_has ls 7 [(4, .int (nI (4 * n))), (3, .ref (ad 18 0)), (2, .ref (ad 8 0)), (1, .ref (ad 7 0)), (0, .ref b)]) (J : Inv ids κ) (hc : cells + 8 ≤ 601024) (hs : slots + 64 ≤ 7293034)
    (kk : ∀ (ids' : gIds) (ad' : gAd) (κ' : gMem) (H1 : Heap) (locs1 : List Loc) (ls1 : Array Slot), Inv ids' κ' → gS D aC A s ids' ad' (gk κ') H1 locs1 → lv_has ls1 7 [(4, .int (nI (4 * n))), (3, .ref (ad' 18 0)), (2, .ref (ad' 8 0)), (1, .ref (ad' 7 0)), (0, .ref b)] → W p l e room_1 s m #[Value.ref b] below meth c H1 locs1 (cells + 8) (slots + 64) Q (F0 m 1579 ls1 [])) : W p l e room_1 s m #[Value.ref b] below meth c H locs cells slots Q (F0 m 560 ls []) := by
  have hl : lv_has ls 7 [(4, _), (3, _), (2, _), (1, _), (0, _)] := hl
  refine lv_aload_n S.1 S.2.1 dL_law_560 rfl (lv_at hl 3 rfl) ?_
  refine lv_aload_n S.1 S.2.1 dL_law_561 rfl (lv_at hl 4 rfl) ?_
  refine lv_iload S.1 S.2.1 dL_law_562 (lv_at hl 0 rfl) ?_
  refine lv_iconst (v := 1) S.1 S.2.1 dL_law_564 (by decide) ?_
  refine lv_iadd S.1 S.2.1 dL_law_565 ?_
  refine g_scr S G hX hbl hbA (show nI (4 * n) + 1 = nI (4 * n + 1) from nI_add (4 * n) 1) (by omega) hL dL_law_566 ?_
  refine lv_aload_n S.1 S.2.1 dL_law_567 rfl (lv_at hl 4 rfl) ?_
  refine lv_iload S.1 S.2.1 dL_law_568 (lv_at hl 0 rfl) ?_
  refine lv_iconst (v := 2) S.1 S.2.1 dL_law_570 (by decide) ?_
  refine lv_iadd S.1 S.2.1 dL_law_571 ?_
  refine g_scr S G hX hbl hbA (show nI (4 * n) + 2 = nI (4 * n + 2) from nI_add (4 * n) 2) (by omega) hL dL_law_572 ?_
  refine lv_aload_n S.1 S.2.1 dL_law_573 rfl (lv_at hl 4 rfl) ?_
  refine lv_iload S.1 S.2.1 dL_law_574 (lv_at hl 0 rfl) ?_
  refine lv_iconst (v := 3) S.1 S.2.1 dL_law_576 (by decide) ?_
  refine lv_iadd S.1 S.2.1 dL_law_577 ?_
  refine g_scr S G hX hbl hbA (show nI (4 * n) + 3 = nI (4 * n + 3) from nI_add (4 * n) 3) (by omega) hL dL_law_578 ?_
  refine lv_aload_n S.1 S.2.1 dL_law_579 rfl (lv_at hl 1 rfl) ?_
  refine g_cSWi S G hF hl (c_L_open l hlf ids ad κ (xs (4 * n + 1)) (xs (4 * n + 2)) (xs (4 * n + 3)) J.1 J.2.2.2.1 J.2.2.2.2.1 J.2.2.1) (vx_cwSW 5 S.2.2.2.2 gL_law_L_open rfl rfl rfl (by decide +kernel) ⟨Nat.le_of_ble_eq_true rfl, Nat.le_of_ble_eq_true rfl⟩) rfl rfl (Nat.le_of_ble_eq_true rfl) dL_law_580 ⟨hc, hs⟩ (fun k9 u H locs hp G => ?_)
  refine lv_istore (lv' := [(5, _), (4, _), (3, _), (2, _), (1, _), (0, _)]) S.1 S.2.1 dL_law_583 hl (by decide) rfl (fun ls hl => ?_)
  rcases hp with ⟨hT, rfl, q1, rfl⟩ | ⟨hT, rfl, rfl⟩
  · obtain ⟨m1, m2, m3, m4, m5, J2⟩ := simA_open J hT
    have G : gS D aC A s _ _ (gk (upd3 (sOpenK κ (tN (xs (4 * n + 1))) (tN (xs (4 * n + 2))) (xs (4 * n + 3))) 18 0 0 (κ 7 0 6 + (xs (4 * n + 3)) - 1))) H locs := G
    refine lv_aload_n S.1 S.2.1 dL_law_585 rfl (lv_at hl 3 rfl) ?_
    refine lv_aload_n S.1 S.2.1 dL_law_586 rfl (lv_at hl 5 rfl) ?_
    refine lv_iload S.1 S.2.1 dL_law_587 (lv_at hl 1 rfl) ?_
    refine lv_iconst (v := 1) S.1 S.2.1 dL_law_589 (by decide) ?_
    refine lv_iadd S.1 S.2.1 dL_law_590 ?_
    refine g_scr S G hX hbl hbA (show nI (4 * n) + 1 = nI (4 * n + 1) from nI_add (4 * n) 1) (by omega) hL dL_law_591 ?_
    refine lv_aload_n S.1 S.2.1 dL_law_592 rfl (lv_at hl 5 rfl) ?_
    refine lv_iload S.1 S.2.1 dL_law_593 (lv_at hl 1 rfl) ?_
    refine lv_iconst (v := 2) S.1 S.2.1 dL_law_595 (by decide) ?_
    refine lv_iadd S.1 S.2.1 dL_law_596 ?_
    refine g_scr S G hX hbl hbA (show nI (4 * n) + 2 = nI (4 * n + 2) from nI_add (4 * n) 2) (by omega) hL dL_law_597 ?_
    refine lv_aload_n S.1 S.2.1 dL_law_598 rfl (lv_at hl 5 rfl) ?_
    refine lv_iload S.1 S.2.1 dL_law_599 (lv_at hl 1 rfl) ?_
    refine lv_iconst (v := 3) S.1 S.2.1 dL_law_601 (by decide) ?_
    refine lv_iadd S.1 S.2.1 dL_law_602 ?_
    refine g_scr S G hX hbl hbA (show nI (4 * n) + 3 = nI (4 * n + 3) from nI_add (4 * n) 3) (by omega) hL dL_law_603 ?_
    refine g_cVi S G hF hl 8 (J2.2.1 8 0 (by decide)) (by decide) (c_X7_open l _ _ _ (xs (4 * n + 1)) (xs (4 * n + 2)) (xs (4 * n + 3)) J2.2.1 m1) (cwV 3 S.2.2.2.2 gL_law_X7_open rfl rfl rfl (by decide +kernel) ⟨Nat.le_of_ble_eq_true rfl, Nat.le_of_ble_eq_true rfl⟩) rfl rfl (Nat.le_of_ble_eq_true rfl) dL_law_604 ⟨hc, hs⟩ (fun r9 u H locs hp G => ?_)
    obtain ⟨hr9, rfl⟩ := hp
    rw [if_pos m2, m3] at hr9
    rw [if_pos m2] at G
    have G : gS D aC A s _ _ (gk (mOpenK (mCan (upd3 (sOpenK κ (tN (xs (4 * n + 1))) (tN (xs (4 * n + 2))) (xs (4 * n + 3))) 18 0 0 (κ 7 0 6 + (xs (4 * n + 3)) - 1)) 0) (tN (xs (4 * n + 1))) (tN (xs (4 * n + 2))) (xs (4 * n + 3)))) H locs := G
    subst hr9
    refine lv_istore (lv' := [(6, _), (5, _), (4, _), (3, _), (2, _), (1, _), (0, _)]) S.1 S.2.1 dL_law_607 hl (by decide) rfl (fun ls hl => ?_)
    refine lv_aload_n S.1 S.2.1 dL_law_609 rfl (lv_at hl 4 rfl) ?_
    refine g_cVi S G hF hl 8 (J2.2.1 8 0 (by decide)) (by decide) (c_X7_thrown l _ _ _ J2.2.1) (cwV 0 S.2.2.2.2 gL_law_X7_thrown rfl rfl rfl (by decide +kernel) ⟨Nat.le_of_ble_eq_true rfl, Nat.le_of_ble_eq_true rfl⟩) rfl rfl (Nat.le_of_ble_eq_true rfl) dL_law_610 ⟨hc, hs⟩ (fun r8 u H locs hp G => ?_)
    obtain ⟨hr8, rfl⟩ := hp
    rw [m4] at hr8
    subst hr8
    have G : gS D aC A s _ _ (gk (mOpenK (mCan (upd3 (sOpenK κ (tN (xs (4 * n + 1))) (tN (xs (4 * n + 2))) (xs (4 * n + 3))) 18 0 0 (κ 7 0 6 + (xs (4 * n + 3)) - 1)) 0) (tN (xs (4 * n + 1))) (tN (xs (4 * n + 2))) (xs (4 * n + 3)))) H locs := G
    refine lv_iload S.1 S.2.1 dL_law_613 (lv_at hl 1 rfl) ?_
    refine lv_icmp_eq (tgt := 620) S.1 S.2.1 dL_law_615 (by decide) (fun _ => ?_) (fun cz => absurd rfl cz)
    refine lv_iload S.1 S.2.1 dL_law_620 (lv_at hl 1 rfl) ?_
    refine lv_if_ne (tgt := 637) S.1 S.2.1 dL_law_622 (by decide) (fun cz => absurd rfl cz) (fun _ => ?_)
    refine lv_aload_n S.1 S.2.1 dL_law_625 rfl (lv_at hl 3 rfl) ?_
    refine lv_iconst (v := 0) S.1 S.2.1 dL_law_626 (by decide) ?_
    refine k_lald (j := 0) S G 18 J2.2.2.1 rfl rfl rfl rfl (by decide) dL_law_627 ?_
    refine g_topL (congrArg Int32.toInt64 m5) ?_
    refine lv_iload S.1 S.2.1 dL_law_628 (lv_at hl 0 rfl) ?_
    refine lv_i2l S.1 S.2.1 dL_law_630 rfl ?_
    refine W.lcmp S.1 S.2.1 dL_law_631 ?_
    refine g_top (lg_cmp_self _) ?_
    refine lv_if_eq (tgt := 637) S.1 S.2.1 dL_law_632 (by decide) (fun _ => ?_) (fun cz => absurd rfl cz)
    refine lv_goto (tgt := 1579) S.1 S.2.1 dL_law_637 (by decide) ?_
    exact kk _ _ _ H locs ls J2 G (lv_sub hl [2, 3, 4, 5, 6] rfl)
  · obtain ⟨n1, n2⟩ := simB_open J hT
    have G : gS D aC A s _ _ (gk κ) H locs := G
    refine lv_aload_n S.1 S.2.1 dL_law_585 rfl (lv_at hl 3 rfl) ?_
    refine lv_aload_n S.1 S.2.1 dL_law_586 rfl (lv_at hl 5 rfl) ?_
    refine lv_iload S.1 S.2.1 dL_law_587 (lv_at hl 1 rfl) ?_
    refine lv_iconst (v := 1) S.1 S.2.1 dL_law_589 (by decide) ?_
    refine lv_iadd S.1 S.2.1 dL_law_590 ?_
    refine g_scr S G hX hbl hbA (show nI (4 * n) + 1 = nI (4 * n + 1) from nI_add (4 * n) 1) (by omega) hL dL_law_591 ?_
    refine lv_aload_n S.1 S.2.1 dL_law_592 rfl (lv_at hl 5 rfl) ?_
    refine lv_iload S.1 S.2.1 dL_law_593 (lv_at hl 1 rfl) ?_
    refine lv_iconst (v := 2) S.1 S.2.1 dL_law_595 (by decide) ?_
    refine lv_iadd S.1 S.2.1 dL_law_596 ?_
    refine g_scr S G hX hbl hbA (show nI (4 * n) + 2 = nI (4 * n + 2) from nI_add (4 * n) 2) (by omega) hL dL_law_597 ?_
    refine lv_aload_n S.1 S.2.1 dL_law_598 rfl (lv_at hl 5 rfl) ?_
    refine lv_iload S.1 S.2.1 dL_law_599 (lv_at hl 1 rfl) ?_
    refine lv_iconst (v := 3) S.1 S.2.1 dL_law_601 (by decide) ?_
    refine lv_iadd S.1 S.2.1 dL_law_602 ?_
    refine g_scr S G hX hbl hbA (show nI (4 * n) + 3 = nI (4 * n + 3) from nI_add (4 * n) 3) (by omega) hL dL_law_603 ?_
    refine g_cVi S G hF hl 8 (J.2.1 8 0 (by decide)) (by decide) (c_X7_open l _ _ _ (xs (4 * n + 1)) (xs (4 * n + 2)) (xs (4 * n + 3)) J.2.1 J.2.2.2.2.2.1) (cwV 3 S.2.2.2.2 gL_law_X7_open rfl rfl rfl (by decide +kernel) ⟨Nat.le_of_ble_eq_true rfl, Nat.le_of_ble_eq_true rfl⟩) rfl rfl (Nat.le_of_ble_eq_true rfl) dL_law_604 ⟨hc, hs⟩ (fun r9 u H locs hp G => ?_)
    obtain ⟨hr9, rfl⟩ := hp
    rw [if_neg n2] at hr9
    rw [if_neg n2] at G
    have G : gS D aC A s _ _ (gk (mCan κ (mOpenT κ (xs (4 * n + 1)) (xs (4 * n + 2)) (xs (4 * n + 3))))) H locs := G
    subst hr9
    refine lv_istore (lv' := [(6, _), (5, _), (4, _), (3, _), (2, _), (1, _), (0, _)]) S.1 S.2.1 dL_law_607 hl (by decide) rfl (fun ls hl => ?_)
    refine lv_aload_n S.1 S.2.1 dL_law_609 rfl (lv_at hl 4 rfl) ?_
    refine g_cVi S G hF hl 8 (J.2.1 8 0 (by decide)) (by decide) (c_X7_thrown l _ _ _ J.2.1) (cwV 0 S.2.2.2.2 gL_law_X7_thrown rfl rfl rfl (by decide +kernel) ⟨Nat.le_of_ble_eq_true rfl, Nat.le_of_ble_eq_true rfl⟩) rfl rfl (Nat.le_of_ble_eq_true rfl) dL_law_610 ⟨hc, hs⟩ (fun r8 u H locs hp G => ?_)
    obtain ⟨hr8, rfl⟩ := hp
    rw [mCan, upd3_s, n1] at hr8
    subst hr8
    have G : gS D aC A s _ _ (gk (mCan κ (mOpenT κ (xs (4 * n + 1)) (xs (4 * n + 2)) (xs (4 * n + 3))))) H locs := G
    refine lv_iload S.1 S.2.1 dL_law_613 (lv_at hl 1 rfl) ?_
    refine lv_icmp_eq (tgt := 620) S.1 S.2.1 dL_law_615 (by decide) (fun _ => ?_) (fun cz => absurd rfl cz)
    refine lv_iload S.1 S.2.1 dL_law_620 (lv_at hl 1 rfl) ?_
    refine lv_if_ne (tgt := 637) S.1 S.2.1 dL_law_622 (by decide) (fun _ => ?_) (fun cz => absurd cz (by rw [← n1]; exact n2))
    refine lv_goto (tgt := 1579) S.1 S.2.1 dL_law_637 (by decide) ?_
    exact kk _ _ _ H locs ls (J.can _) G (lv_sub hl [2, 3, 4, 5, 6] rfl)
set_option maxHeartbeats 4000000 in
set_option maxRecDepth 100000 in
theorem lc_challenge {p : Program} {l : Launch} {e : Env} {s : State} {m : MethodId} {below : List Frame} {meth : Method} {c : Code} {H : Heap} {locs : List Loc} {cells slots : Nat} {Q : State → Prop} {ls : Array Slot} {D : va_G} {aC : Nat → ClassId} {A : Nat → Prop} {ids : gIds} {ad : gAd} {κ : gMem} {b L n : Nat} {xs : Nat → Int32} (hlf : l.stackTraces = false) (S : CallFix p m c cL_law 7 s #[Value.ref b] wsL_law RL) (hF : gF A s s.heap) (hX : va_X b L xs s s.heap) (hbl : b < s.heap.size) (hbA : ¬ A b) (hn : 4 * n + 4 ≤ L) (hL : L ≤ 2048) (G : gS D aC A s ids ad (gk κ) H locs) (hl : lv_has ls 7 [(4, .int (nI (4 * n))), (3, .ref (ad 18 0)), (2, .ref (ad 8 0)), (1, .ref (ad 7 0)), (0, .ref b)]) (J : Inv ids κ) (hc : cells + 8 ≤ 601024) (hs : slots + 64 ≤ 7293034)
    (kk : ∀ (ids' : gIds) (ad' : gAd) (κ' : gMem) (H1 : Heap) (locs1 : List Loc) (ls1 : Array Slot), Inv ids' κ' → gS D aC A s ids' ad' (gk κ') H1 locs1 → lv_has ls1 7 [(4, .int (nI (4 * n))), (3, .ref (ad' 18 0)), (2, .ref (ad' 8 0)), (1, .ref (ad' 7 0)), (0, .ref b)] → W p l e room_1 s m #[Value.ref b] below meth c H1 locs1 (cells + 8) (slots + 64) Q (F0 m 1579 ls1 [])) : W p l e room_1 s m #[Value.ref b] below meth c H locs cells slots Q (F0 m 640 ls []) := by
  have hl : lv_has ls 7 [(4, _), (3, _), (2, _), (1, _), (0, _)] := hl
  refine lv_aload_n S.1 S.2.1 dL_law_640 rfl (lv_at hl 3 rfl) ?_
  refine lv_aload_n S.1 S.2.1 dL_law_641 rfl (lv_at hl 4 rfl) ?_
  refine lv_iload S.1 S.2.1 dL_law_642 (lv_at hl 0 rfl) ?_
  refine lv_iconst (v := 1) S.1 S.2.1 dL_law_644 (by decide) ?_
  refine lv_iadd S.1 S.2.1 dL_law_645 ?_
  refine g_scr S G hX hbl hbA (show nI (4 * n) + 1 = nI (4 * n + 1) from nI_add (4 * n) 1) (by omega) hL dL_law_646 ?_
  refine lv_aload_n S.1 S.2.1 dL_law_647 rfl (lv_at hl 4 rfl) ?_
  refine lv_iload S.1 S.2.1 dL_law_648 (lv_at hl 0 rfl) ?_
  refine lv_iconst (v := 2) S.1 S.2.1 dL_law_650 (by decide) ?_
  refine lv_iadd S.1 S.2.1 dL_law_651 ?_
  refine g_scr S G hX hbl hbA (show nI (4 * n) + 2 = nI (4 * n + 2) from nI_add (4 * n) 2) (by omega) hL dL_law_652 ?_
  refine lv_aload_n S.1 S.2.1 dL_law_653 rfl (lv_at hl 1 rfl) ?_
  refine g_cSWi S G hF hl (c_L_challenge l hlf ids ad κ (xs (4 * n + 1)) (xs (4 * n + 2)) J.1 J.2.2.2.1 J.2.2.2.2.1 (inv_fr J) J.2.2.1) (vx_cwSW 4 S.2.2.2.2 gL_law_L_challenge rfl rfl rfl (by decide +kernel) ⟨Nat.le_of_ble_eq_true rfl, Nat.le_of_ble_eq_true rfl⟩) rfl rfl (Nat.le_of_ble_eq_true rfl) dL_law_654 ⟨hc, hs⟩ (fun k9 u H locs hp G => ?_)
  refine lv_istore (lv' := [(5, _), (4, _), (3, _), (2, _), (1, _), (0, _)]) S.1 S.2.1 dL_law_657 hl (by decide) rfl (fun ls hl => ?_)
  rcases hp with ⟨hT, rfl, q1, q2, rfl⟩ | ⟨hT, rfl, rfl⟩
  · obtain ⟨m1, m2, m3, m4, m5, J2⟩ := simA_challenge J hT
    have G : gS D aC A s _ _ (gk (upd3 (sChallengeK κ (tN (xs (4 * n + 1))) (tN (xs (4 * n + 2)))) 18 0 0 (sNbs (nI (tN (κ 3 (tN (xs (4 * n + 2))) 0))) 12))) H locs := G
    refine lv_aload_n S.1 S.2.1 dL_law_659 rfl (lv_at hl 3 rfl) ?_
    refine lv_aload_n S.1 S.2.1 dL_law_660 rfl (lv_at hl 5 rfl) ?_
    refine lv_iload S.1 S.2.1 dL_law_661 (lv_at hl 1 rfl) ?_
    refine lv_iconst (v := 1) S.1 S.2.1 dL_law_663 (by decide) ?_
    refine lv_iadd S.1 S.2.1 dL_law_664 ?_
    refine g_scr S G hX hbl hbA (show nI (4 * n) + 1 = nI (4 * n + 1) from nI_add (4 * n) 1) (by omega) hL dL_law_665 ?_
    refine lv_aload_n S.1 S.2.1 dL_law_666 rfl (lv_at hl 5 rfl) ?_
    refine lv_iload S.1 S.2.1 dL_law_667 (lv_at hl 1 rfl) ?_
    refine lv_iconst (v := 2) S.1 S.2.1 dL_law_669 (by decide) ?_
    refine lv_iadd S.1 S.2.1 dL_law_670 ?_
    refine g_scr S G hX hbl hbA (show nI (4 * n) + 2 = nI (4 * n + 2) from nI_add (4 * n) 2) (by omega) hL dL_law_671 ?_
    refine g_cVi S G hF hl 8 (J2.2.1 8 0 (by decide)) (by decide) (c_X7_challenge l _ _ _ (xs (4 * n + 1)) (xs (4 * n + 2)) J2.2.1 m1) (cwV 2 S.2.2.2.2 gL_law_X7_challenge rfl rfl rfl (by decide +kernel) ⟨Nat.le_of_ble_eq_true rfl, Nat.le_of_ble_eq_true rfl⟩) rfl rfl (Nat.le_of_ble_eq_true rfl) dL_law_672 ⟨hc, hs⟩ (fun r9 u H locs hp G => ?_)
    obtain ⟨hr9, rfl⟩ := hp
    rw [if_pos m2, m3] at hr9
    rw [if_pos m2] at G
    have G : gS D aC A s _ _ (gk (mChallengeK (mCan (upd3 (sChallengeK κ (tN (xs (4 * n + 1))) (tN (xs (4 * n + 2)))) 18 0 0 (sNbs (nI (tN (κ 3 (tN (xs (4 * n + 2))) 0))) 12)) 0) (xs (4 * n + 1)) (tN (xs (4 * n + 2))))) H locs := G
    subst hr9
    refine lv_istore (lv' := [(6, _), (5, _), (4, _), (3, _), (2, _), (1, _), (0, _)]) S.1 S.2.1 dL_law_675 hl (by decide) rfl (fun ls hl => ?_)
    refine lv_aload_n S.1 S.2.1 dL_law_677 rfl (lv_at hl 4 rfl) ?_
    refine g_cVi S G hF hl 8 (J2.2.1 8 0 (by decide)) (by decide) (c_X7_thrown l _ _ _ J2.2.1) (cwV 0 S.2.2.2.2 gL_law_X7_thrown rfl rfl rfl (by decide +kernel) ⟨Nat.le_of_ble_eq_true rfl, Nat.le_of_ble_eq_true rfl⟩) rfl rfl (Nat.le_of_ble_eq_true rfl) dL_law_678 ⟨hc, hs⟩ (fun r8 u H locs hp G => ?_)
    obtain ⟨hr8, rfl⟩ := hp
    rw [m4] at hr8
    subst hr8
    have G : gS D aC A s _ _ (gk (mChallengeK (mCan (upd3 (sChallengeK κ (tN (xs (4 * n + 1))) (tN (xs (4 * n + 2)))) 18 0 0 (sNbs (nI (tN (κ 3 (tN (xs (4 * n + 2))) 0))) 12)) 0) (xs (4 * n + 1)) (tN (xs (4 * n + 2))))) H locs := G
    refine lv_iload S.1 S.2.1 dL_law_681 (lv_at hl 1 rfl) ?_
    refine lv_icmp_eq (tgt := 688) S.1 S.2.1 dL_law_683 (by decide) (fun _ => ?_) (fun cz => absurd rfl cz)
    refine lv_iload S.1 S.2.1 dL_law_688 (lv_at hl 1 rfl) ?_
    refine lv_if_ne (tgt := 705) S.1 S.2.1 dL_law_690 (by decide) (fun cz => absurd rfl cz) (fun _ => ?_)
    refine lv_aload_n S.1 S.2.1 dL_law_693 rfl (lv_at hl 3 rfl) ?_
    refine lv_iconst (v := 0) S.1 S.2.1 dL_law_694 (by decide) ?_
    refine k_lald (j := 0) S G 18 J2.2.2.1 rfl rfl rfl rfl (by decide) dL_law_695 ?_
    refine g_topL (congrArg Int32.toInt64 m5) ?_
    refine lv_iload S.1 S.2.1 dL_law_696 (lv_at hl 0 rfl) ?_
    refine lv_i2l S.1 S.2.1 dL_law_698 rfl ?_
    refine W.lcmp S.1 S.2.1 dL_law_699 ?_
    refine g_top (lg_cmp_self _) ?_
    refine lv_if_eq (tgt := 705) S.1 S.2.1 dL_law_700 (by decide) (fun _ => ?_) (fun cz => absurd rfl cz)
    refine lv_goto (tgt := 1579) S.1 S.2.1 dL_law_705 (by decide) ?_
    exact kk _ _ _ H locs ls J2 G (lv_sub hl [2, 3, 4, 5, 6] rfl)
  · obtain ⟨n1, n2⟩ := simB_challenge J hT
    have G : gS D aC A s _ _ (gk κ) H locs := G
    refine lv_aload_n S.1 S.2.1 dL_law_659 rfl (lv_at hl 3 rfl) ?_
    refine lv_aload_n S.1 S.2.1 dL_law_660 rfl (lv_at hl 5 rfl) ?_
    refine lv_iload S.1 S.2.1 dL_law_661 (lv_at hl 1 rfl) ?_
    refine lv_iconst (v := 1) S.1 S.2.1 dL_law_663 (by decide) ?_
    refine lv_iadd S.1 S.2.1 dL_law_664 ?_
    refine g_scr S G hX hbl hbA (show nI (4 * n) + 1 = nI (4 * n + 1) from nI_add (4 * n) 1) (by omega) hL dL_law_665 ?_
    refine lv_aload_n S.1 S.2.1 dL_law_666 rfl (lv_at hl 5 rfl) ?_
    refine lv_iload S.1 S.2.1 dL_law_667 (lv_at hl 1 rfl) ?_
    refine lv_iconst (v := 2) S.1 S.2.1 dL_law_669 (by decide) ?_
    refine lv_iadd S.1 S.2.1 dL_law_670 ?_
    refine g_scr S G hX hbl hbA (show nI (4 * n) + 2 = nI (4 * n + 2) from nI_add (4 * n) 2) (by omega) hL dL_law_671 ?_
    refine g_cVi S G hF hl 8 (J.2.1 8 0 (by decide)) (by decide) (c_X7_challenge l _ _ _ (xs (4 * n + 1)) (xs (4 * n + 2)) J.2.1 J.2.2.2.2.2.1) (cwV 2 S.2.2.2.2 gL_law_X7_challenge rfl rfl rfl (by decide +kernel) ⟨Nat.le_of_ble_eq_true rfl, Nat.le_of_ble_eq_true rfl⟩) rfl rfl (Nat.le_of_ble_eq_true rfl) dL_law_672 ⟨hc, hs⟩ (fun r9 u H locs hp G => ?_)
    obtain ⟨hr9, rfl⟩ := hp
    rw [if_neg n2] at hr9
    rw [if_neg n2] at G
    have G : gS D aC A s _ _ (gk (mCan κ (mChallengeT κ (xs (4 * n + 1)) (xs (4 * n + 2))))) H locs := G
    subst hr9
    refine lv_istore (lv' := [(6, _), (5, _), (4, _), (3, _), (2, _), (1, _), (0, _)]) S.1 S.2.1 dL_law_675 hl (by decide) rfl (fun ls hl => ?_)
    refine lv_aload_n S.1 S.2.1 dL_law_677 rfl (lv_at hl 4 rfl) ?_
    refine g_cVi S G hF hl 8 (J.2.1 8 0 (by decide)) (by decide) (c_X7_thrown l _ _ _ J.2.1) (cwV 0 S.2.2.2.2 gL_law_X7_thrown rfl rfl rfl (by decide +kernel) ⟨Nat.le_of_ble_eq_true rfl, Nat.le_of_ble_eq_true rfl⟩) rfl rfl (Nat.le_of_ble_eq_true rfl) dL_law_678 ⟨hc, hs⟩ (fun r8 u H locs hp G => ?_)
    obtain ⟨hr8, rfl⟩ := hp
    rw [mCan, upd3_s, n1] at hr8
    subst hr8
    have G : gS D aC A s _ _ (gk (mCan κ (mChallengeT κ (xs (4 * n + 1)) (xs (4 * n + 2))))) H locs := G
    refine lv_iload S.1 S.2.1 dL_law_681 (lv_at hl 1 rfl) ?_
    refine lv_icmp_eq (tgt := 688) S.1 S.2.1 dL_law_683 (by decide) (fun _ => ?_) (fun cz => absurd rfl cz)
    refine lv_iload S.1 S.2.1 dL_law_688 (lv_at hl 1 rfl) ?_
    refine lv_if_ne (tgt := 705) S.1 S.2.1 dL_law_690 (by decide) (fun _ => ?_) (fun cz => absurd cz (by rw [← n1]; exact n2))
    refine lv_goto (tgt := 1579) S.1 S.2.1 dL_law_705 (by decide) ?_
    exact kk _ _ _ H locs ls (J.can _) G (lv_sub hl [2, 3, 4, 5, 6] rfl)
set_option maxHeartbeats 4000000 in
set_option maxRecDepth 100000 in
theorem lc_sample {p : Program} {l : Launch} {e : Env} {s : State} {m : MethodId} {below : List Frame} {meth : Method} {c : Code} {H : Heap} {locs : List Loc} {cells slots : Nat} {Q : State → Prop} {ls : Array Slot} {D : va_G} {aC : Nat → ClassId} {A : Nat → Prop} {ids : gIds} {ad : gAd} {κ : gMem} {b L n : Nat} {xs : Nat → Int32} (hlf : l.stackTraces = false) (S : CallFix p m c cL_law 7 s #[Value.ref b] wsL_law RL) (hF : gF A s s.heap) (hX : va_X b L xs s s.heap) (hbl : b < s.heap.size) (hbA : ¬ A b) (hn : 4 * n + 4 ≤ L) (hL : L ≤ 2048) (G : gS D aC A s ids ad (gk κ) H locs) (hl : lv_has ls 7 [(4, .int (nI (4 * n))), (3, .ref (ad 18 0)), (2, .ref (ad 8 0)), (1, .ref (ad 7 0)), (0, .ref b)]) (J : Inv ids κ) (hc : cells + 8 ≤ 601024) (hs : slots + 64 ≤ 7293034)
    (kk : ∀ (ids' : gIds) (ad' : gAd) (κ' : gMem) (H1 : Heap) (locs1 : List Loc) (ls1 : Array Slot), Inv ids' κ' → gS D aC A s ids' ad' (gk κ') H1 locs1 → lv_has ls1 7 [(4, .int (nI (4 * n))), (3, .ref (ad' 18 0)), (2, .ref (ad' 8 0)), (1, .ref (ad' 7 0)), (0, .ref b)] → W p l e room_1 s m #[Value.ref b] below meth c H1 locs1 (cells + 8) (slots + 64) Q (F0 m 1579 ls1 [])) : W p l e room_1 s m #[Value.ref b] below meth c H locs cells slots Q (F0 m 708 ls []) := by
  have hl : lv_has ls 7 [(4, _), (3, _), (2, _), (1, _), (0, _)] := hl
  refine lv_aload_n S.1 S.2.1 dL_law_708 rfl (lv_at hl 3 rfl) ?_
  refine lv_aload_n S.1 S.2.1 dL_law_709 rfl (lv_at hl 4 rfl) ?_
  refine lv_iload S.1 S.2.1 dL_law_710 (lv_at hl 0 rfl) ?_
  refine lv_iconst (v := 1) S.1 S.2.1 dL_law_712 (by decide) ?_
  refine lv_iadd S.1 S.2.1 dL_law_713 ?_
  refine g_scr S G hX hbl hbA (show nI (4 * n) + 1 = nI (4 * n + 1) from nI_add (4 * n) 1) (by omega) hL dL_law_714 ?_
  refine lv_aload_n S.1 S.2.1 dL_law_715 rfl (lv_at hl 4 rfl) ?_
  refine lv_iload S.1 S.2.1 dL_law_716 (lv_at hl 0 rfl) ?_
  refine lv_iconst (v := 2) S.1 S.2.1 dL_law_718 (by decide) ?_
  refine lv_iadd S.1 S.2.1 dL_law_719 ?_
  refine g_scr S G hX hbl hbA (show nI (4 * n) + 2 = nI (4 * n + 2) from nI_add (4 * n) 2) (by omega) hL dL_law_720 ?_
  refine lv_aload_n S.1 S.2.1 dL_law_721 rfl (lv_at hl 4 rfl) ?_
  refine lv_iload S.1 S.2.1 dL_law_722 (lv_at hl 0 rfl) ?_
  refine lv_iconst (v := 3) S.1 S.2.1 dL_law_724 (by decide) ?_
  refine lv_iadd S.1 S.2.1 dL_law_725 ?_
  refine g_scr S G hX hbl hbA (show nI (4 * n) + 3 = nI (4 * n + 3) from nI_add (4 * n) 3) (by omega) hL dL_law_726 ?_
  refine lv_aload_n S.1 S.2.1 dL_law_727 rfl (lv_at hl 1 rfl) ?_
  refine g_cSWi S G hF hl (c_L_sample l hlf ids ad κ (xs (4 * n + 1)) (xs (4 * n + 2)) (xs (4 * n + 3)) J.1 J.2.2.2.1 J.2.2.1) (vx_cwSW 5 S.2.2.2.2 gL_law_L_sample rfl rfl rfl (by decide +kernel) ⟨Nat.le_of_ble_eq_true rfl, Nat.le_of_ble_eq_true rfl⟩) rfl rfl (Nat.le_of_ble_eq_true rfl) dL_law_728 ⟨hc, hs⟩ (fun k9 u H locs hp G => ?_)
  refine lv_istore (lv' := [(5, _), (4, _), (3, _), (2, _), (1, _), (0, _)]) S.1 S.2.1 dL_law_731 hl (by decide) rfl (fun ls hl => ?_)
  rcases hp with ⟨hT, rfl, rfl⟩ | ⟨hT, rfl, rfl⟩
  · obtain ⟨m1, m2, m3, m4, m5, J2⟩ := simA_sample J hT
    have G : gS D aC A s _ _ (gk (upd3 (sSampleK κ (tN (xs (4 * n + 1))) (tN (xs (4 * n + 2))) (xs (4 * n + 3))) 18 0 0 (sSampleK κ (tN (xs (4 * n + 1))) (tN (xs (4 * n + 2))) (xs (4 * n + 3)) 3 (tN (xs (4 * n + 2))) 3))) H locs := G
    refine lv_aload_n S.1 S.2.1 dL_law_733 rfl (lv_at hl 3 rfl) ?_
    refine lv_aload_n S.1 S.2.1 dL_law_734 rfl (lv_at hl 5 rfl) ?_
    refine lv_iload S.1 S.2.1 dL_law_735 (lv_at hl 1 rfl) ?_
    refine lv_iconst (v := 1) S.1 S.2.1 dL_law_737 (by decide) ?_
    refine lv_iadd S.1 S.2.1 dL_law_738 ?_
    refine g_scr S G hX hbl hbA (show nI (4 * n) + 1 = nI (4 * n + 1) from nI_add (4 * n) 1) (by omega) hL dL_law_739 ?_
    refine lv_aload_n S.1 S.2.1 dL_law_740 rfl (lv_at hl 5 rfl) ?_
    refine lv_iload S.1 S.2.1 dL_law_741 (lv_at hl 1 rfl) ?_
    refine lv_iconst (v := 2) S.1 S.2.1 dL_law_743 (by decide) ?_
    refine lv_iadd S.1 S.2.1 dL_law_744 ?_
    refine g_scr S G hX hbl hbA (show nI (4 * n) + 2 = nI (4 * n + 2) from nI_add (4 * n) 2) (by omega) hL dL_law_745 ?_
    refine lv_aload_n S.1 S.2.1 dL_law_746 rfl (lv_at hl 5 rfl) ?_
    refine lv_iload S.1 S.2.1 dL_law_747 (lv_at hl 1 rfl) ?_
    refine lv_iconst (v := 3) S.1 S.2.1 dL_law_749 (by decide) ?_
    refine lv_iadd S.1 S.2.1 dL_law_750 ?_
    refine g_scr S G hX hbl hbA (show nI (4 * n) + 3 = nI (4 * n + 3) from nI_add (4 * n) 3) (by omega) hL dL_law_751 ?_
    refine g_cVi S G hF hl 8 (J2.2.1 8 0 (by decide)) (by decide) (c_X7_sample l _ _ _ (xs (4 * n + 1)) (xs (4 * n + 2)) (xs (4 * n + 3)) J2.2.1 m1) (cwV 3 S.2.2.2.2 gL_law_X7_sample rfl rfl rfl (by decide +kernel) ⟨Nat.le_of_ble_eq_true rfl, Nat.le_of_ble_eq_true rfl⟩) rfl rfl (Nat.le_of_ble_eq_true rfl) dL_law_752 ⟨hc, hs⟩ (fun r9 u H locs hp G => ?_)
    obtain ⟨hr9, rfl⟩ := hp
    rw [if_pos m2, m3] at hr9
    rw [if_pos m2] at G
    have G : gS D aC A s _ _ (gk (mSampleK (mCan (upd3 (sSampleK κ (tN (xs (4 * n + 1))) (tN (xs (4 * n + 2))) (xs (4 * n + 3))) 18 0 0 (sSampleK κ (tN (xs (4 * n + 1))) (tN (xs (4 * n + 2))) (xs (4 * n + 3)) 3 (tN (xs (4 * n + 2))) 3)) 0) (tN (xs (4 * n + 1))) (tN (xs (4 * n + 2))) (xs (4 * n + 3)))) H locs := G
    subst hr9
    refine lv_istore (lv' := [(6, _), (5, _), (4, _), (3, _), (2, _), (1, _), (0, _)]) S.1 S.2.1 dL_law_755 hl (by decide) rfl (fun ls hl => ?_)
    refine lv_aload_n S.1 S.2.1 dL_law_757 rfl (lv_at hl 4 rfl) ?_
    refine g_cVi S G hF hl 8 (J2.2.1 8 0 (by decide)) (by decide) (c_X7_thrown l _ _ _ J2.2.1) (cwV 0 S.2.2.2.2 gL_law_X7_thrown rfl rfl rfl (by decide +kernel) ⟨Nat.le_of_ble_eq_true rfl, Nat.le_of_ble_eq_true rfl⟩) rfl rfl (Nat.le_of_ble_eq_true rfl) dL_law_758 ⟨hc, hs⟩ (fun r8 u H locs hp G => ?_)
    obtain ⟨hr8, rfl⟩ := hp
    rw [m4] at hr8
    subst hr8
    have G : gS D aC A s _ _ (gk (mSampleK (mCan (upd3 (sSampleK κ (tN (xs (4 * n + 1))) (tN (xs (4 * n + 2))) (xs (4 * n + 3))) 18 0 0 (sSampleK κ (tN (xs (4 * n + 1))) (tN (xs (4 * n + 2))) (xs (4 * n + 3)) 3 (tN (xs (4 * n + 2))) 3)) 0) (tN (xs (4 * n + 1))) (tN (xs (4 * n + 2))) (xs (4 * n + 3)))) H locs := G
    refine lv_iload S.1 S.2.1 dL_law_761 (lv_at hl 1 rfl) ?_
    refine lv_icmp_eq (tgt := 768) S.1 S.2.1 dL_law_763 (by decide) (fun _ => ?_) (fun cz => absurd rfl cz)
    refine lv_iload S.1 S.2.1 dL_law_768 (lv_at hl 1 rfl) ?_
    refine lv_if_ne (tgt := 785) S.1 S.2.1 dL_law_770 (by decide) (fun cz => absurd rfl cz) (fun _ => ?_)
    refine lv_aload_n S.1 S.2.1 dL_law_773 rfl (lv_at hl 3 rfl) ?_
    refine lv_iconst (v := 0) S.1 S.2.1 dL_law_774 (by decide) ?_
    refine k_lald (j := 0) S G 18 J2.2.2.1 rfl rfl rfl rfl (by decide) dL_law_775 ?_
    refine g_topL (congrArg Int32.toInt64 m5) ?_
    refine lv_iload S.1 S.2.1 dL_law_776 (lv_at hl 0 rfl) ?_
    refine lv_i2l S.1 S.2.1 dL_law_778 rfl ?_
    refine W.lcmp S.1 S.2.1 dL_law_779 ?_
    refine g_top (lg_cmp_self _) ?_
    refine lv_if_eq (tgt := 785) S.1 S.2.1 dL_law_780 (by decide) (fun _ => ?_) (fun cz => absurd rfl cz)
    refine lv_goto (tgt := 1579) S.1 S.2.1 dL_law_785 (by decide) ?_
    exact kk _ _ _ H locs ls J2 G (lv_sub hl [2, 3, 4, 5, 6] rfl)
  · obtain ⟨n1, n2⟩ := simB_sample J hT
    have G : gS D aC A s _ _ (gk κ) H locs := G
    refine lv_aload_n S.1 S.2.1 dL_law_733 rfl (lv_at hl 3 rfl) ?_
    refine lv_aload_n S.1 S.2.1 dL_law_734 rfl (lv_at hl 5 rfl) ?_
    refine lv_iload S.1 S.2.1 dL_law_735 (lv_at hl 1 rfl) ?_
    refine lv_iconst (v := 1) S.1 S.2.1 dL_law_737 (by decide) ?_
    refine lv_iadd S.1 S.2.1 dL_law_738 ?_
    refine g_scr S G hX hbl hbA (show nI (4 * n) + 1 = nI (4 * n + 1) from nI_add (4 * n) 1) (by omega) hL dL_law_739 ?_
    refine lv_aload_n S.1 S.2.1 dL_law_740 rfl (lv_at hl 5 rfl) ?_
    refine lv_iload S.1 S.2.1 dL_law_741 (lv_at hl 1 rfl) ?_
    refine lv_iconst (v := 2) S.1 S.2.1 dL_law_743 (by decide) ?_
    refine lv_iadd S.1 S.2.1 dL_law_744 ?_
    refine g_scr S G hX hbl hbA (show nI (4 * n) + 2 = nI (4 * n + 2) from nI_add (4 * n) 2) (by omega) hL dL_law_745 ?_
    refine lv_aload_n S.1 S.2.1 dL_law_746 rfl (lv_at hl 5 rfl) ?_
    refine lv_iload S.1 S.2.1 dL_law_747 (lv_at hl 1 rfl) ?_
    refine lv_iconst (v := 3) S.1 S.2.1 dL_law_749 (by decide) ?_
    refine lv_iadd S.1 S.2.1 dL_law_750 ?_
    refine g_scr S G hX hbl hbA (show nI (4 * n) + 3 = nI (4 * n + 3) from nI_add (4 * n) 3) (by omega) hL dL_law_751 ?_
    refine g_cVi S G hF hl 8 (J.2.1 8 0 (by decide)) (by decide) (c_X7_sample l _ _ _ (xs (4 * n + 1)) (xs (4 * n + 2)) (xs (4 * n + 3)) J.2.1 J.2.2.2.2.2.1) (cwV 3 S.2.2.2.2 gL_law_X7_sample rfl rfl rfl (by decide +kernel) ⟨Nat.le_of_ble_eq_true rfl, Nat.le_of_ble_eq_true rfl⟩) rfl rfl (Nat.le_of_ble_eq_true rfl) dL_law_752 ⟨hc, hs⟩ (fun r9 u H locs hp G => ?_)
    obtain ⟨hr9, rfl⟩ := hp
    rw [if_neg n2] at hr9
    rw [if_neg n2] at G
    have G : gS D aC A s _ _ (gk (mCan κ (mSampleT κ (xs (4 * n + 1)) (xs (4 * n + 2)) (xs (4 * n + 3))))) H locs := G
    subst hr9
    refine lv_istore (lv' := [(6, _), (5, _), (4, _), (3, _), (2, _), (1, _), (0, _)]) S.1 S.2.1 dL_law_755 hl (by decide) rfl (fun ls hl => ?_)
    refine lv_aload_n S.1 S.2.1 dL_law_757 rfl (lv_at hl 4 rfl) ?_
    refine g_cVi S G hF hl 8 (J.2.1 8 0 (by decide)) (by decide) (c_X7_thrown l _ _ _ J.2.1) (cwV 0 S.2.2.2.2 gL_law_X7_thrown rfl rfl rfl (by decide +kernel) ⟨Nat.le_of_ble_eq_true rfl, Nat.le_of_ble_eq_true rfl⟩) rfl rfl (Nat.le_of_ble_eq_true rfl) dL_law_758 ⟨hc, hs⟩ (fun r8 u H locs hp G => ?_)
    obtain ⟨hr8, rfl⟩ := hp
    rw [mCan, upd3_s, n1] at hr8
    subst hr8
    have G : gS D aC A s _ _ (gk (mCan κ (mSampleT κ (xs (4 * n + 1)) (xs (4 * n + 2)) (xs (4 * n + 3))))) H locs := G
    refine lv_iload S.1 S.2.1 dL_law_761 (lv_at hl 1 rfl) ?_
    refine lv_icmp_eq (tgt := 768) S.1 S.2.1 dL_law_763 (by decide) (fun _ => ?_) (fun cz => absurd rfl cz)
    refine lv_iload S.1 S.2.1 dL_law_768 (lv_at hl 1 rfl) ?_
    refine lv_if_ne (tgt := 785) S.1 S.2.1 dL_law_770 (by decide) (fun _ => ?_) (fun cz => absurd cz (by rw [← n1]; exact n2))
    refine lv_goto (tgt := 1579) S.1 S.2.1 dL_law_785 (by decide) ?_
    exact kk _ _ _ H locs ls (J.can _) G (lv_sub hl [2, 3, 4, 5, 6] rfl)
set_option maxHeartbeats 4000000 in
set_option maxRecDepth 100000 in
theorem lc_advance {p : Program} {l : Launch} {e : Env} {s : State} {m : MethodId} {below : List Frame} {meth : Method} {c : Code} {H : Heap} {locs : List Loc} {cells slots : Nat} {Q : State → Prop} {ls : Array Slot} {D : va_G} {aC : Nat → ClassId} {A : Nat → Prop} {ids : gIds} {ad : gAd} {κ : gMem} {b L n : Nat} {xs : Nat → Int32} (hlf : l.stackTraces = false) (S : CallFix p m c cL_law 7 s #[Value.ref b] wsL_law RL) (hF : gF A s s.heap) (hX : va_X b L xs s s.heap) (hbl : b < s.heap.size) (hbA : ¬ A b) (hn : 4 * n + 4 ≤ L) (hL : L ≤ 2048) (G : gS D aC A s ids ad (gk κ) H locs) (hl : lv_has ls 7 [(4, .int (nI (4 * n))), (3, .ref (ad 18 0)), (2, .ref (ad 8 0)), (1, .ref (ad 7 0)), (0, .ref b)]) (J : Inv ids κ) (hc : cells + 8 ≤ 601024) (hs : slots + 64 ≤ 7293034)
    (kk : ∀ (ids' : gIds) (ad' : gAd) (κ' : gMem) (H1 : Heap) (locs1 : List Loc) (ls1 : Array Slot), Inv ids' κ' → gS D aC A s ids' ad' (gk κ') H1 locs1 → lv_has ls1 7 [(4, .int (nI (4 * n))), (3, .ref (ad' 18 0)), (2, .ref (ad' 8 0)), (1, .ref (ad' 7 0)), (0, .ref b)] → W p l e room_1 s m #[Value.ref b] below meth c H1 locs1 (cells + 8) (slots + 64) Q (F0 m 1579 ls1 [])) : W p l e room_1 s m #[Value.ref b] below meth c H locs cells slots Q (F0 m 788 ls []) := by
  have hl : lv_has ls 7 [(4, _), (3, _), (2, _), (1, _), (0, _)] := hl
  refine lv_aload_n S.1 S.2.1 dL_law_788 rfl (lv_at hl 3 rfl) ?_
  refine lv_aload_n S.1 S.2.1 dL_law_789 rfl (lv_at hl 4 rfl) ?_
  refine lv_iload S.1 S.2.1 dL_law_790 (lv_at hl 0 rfl) ?_
  refine lv_iconst (v := 1) S.1 S.2.1 dL_law_792 (by decide) ?_
  refine lv_iadd S.1 S.2.1 dL_law_793 ?_
  refine g_scr S G hX hbl hbA (show nI (4 * n) + 1 = nI (4 * n + 1) from nI_add (4 * n) 1) (by omega) hL dL_law_794 ?_
  refine lv_aload_n S.1 S.2.1 dL_law_795 rfl (lv_at hl 1 rfl) ?_
  refine g_cSWi S G hF hl (c_L_advance l hlf ids ad κ (xs (4 * n + 1)) J.1 J.2.2.2.1 J.2.2.2.2.2.2.1.2.1 J.2.2.1) (vx_cwSW 3 S.2.2.2.2 gL_law_L_advance rfl rfl rfl (by decide +kernel) ⟨Nat.le_of_ble_eq_true rfl, Nat.le_of_ble_eq_true rfl⟩) rfl rfl (Nat.le_of_ble_eq_true rfl) dL_law_796 ⟨hc, hs⟩ (fun k9 u H locs hp G => ?_)
  refine lv_istore (lv' := [(5, _), (4, _), (3, _), (2, _), (1, _), (0, _)]) S.1 S.2.1 dL_law_799 hl (by decide) rfl (fun ls hl => ?_)
  rcases hp with ⟨hT, rfl, rfl⟩ | ⟨hT, rfl, rfl⟩
  · obtain ⟨m1, m2, m3, m4, m5, J2⟩ := simA_advance J hT
    have G : gS D aC A s _ _ (gk (upd3 (sAdvK κ (xs (4 * n + 1))) 18 0 0 (sAdvK κ (xs (4 * n + 1)) 7 0 6))) H locs := G
    refine lv_aload_n S.1 S.2.1 dL_law_801 rfl (lv_at hl 3 rfl) ?_
    refine lv_aload_n S.1 S.2.1 dL_law_802 rfl (lv_at hl 5 rfl) ?_
    refine lv_iload S.1 S.2.1 dL_law_803 (lv_at hl 1 rfl) ?_
    refine lv_iconst (v := 1) S.1 S.2.1 dL_law_805 (by decide) ?_
    refine lv_iadd S.1 S.2.1 dL_law_806 ?_
    refine g_scr S G hX hbl hbA (show nI (4 * n) + 1 = nI (4 * n + 1) from nI_add (4 * n) 1) (by omega) hL dL_law_807 ?_
    refine g_cVi S G hF hl 8 (J2.2.1 8 0 (by decide)) (by decide) (c_X7_advance l _ _ _ (xs (4 * n + 1)) J2.2.1 m1) (cwV 1 S.2.2.2.2 gL_law_X7_advance rfl rfl rfl (by decide +kernel) ⟨Nat.le_of_ble_eq_true rfl, Nat.le_of_ble_eq_true rfl⟩) rfl rfl (Nat.le_of_ble_eq_true rfl) dL_law_808 ⟨hc, hs⟩ (fun r9 u H locs hp G => ?_)
    obtain ⟨hr9, rfl⟩ := hp
    rw [if_pos m2, m3] at hr9
    rw [if_pos m2] at G
    have G : gS D aC A s _ _ (gk (mAdvK (mCan (upd3 (sAdvK κ (xs (4 * n + 1))) 18 0 0 (sAdvK κ (xs (4 * n + 1)) 7 0 6)) 0) (tN (xs (4 * n + 1))))) H locs := G
    subst hr9
    refine lv_istore (lv' := [(6, _), (5, _), (4, _), (3, _), (2, _), (1, _), (0, _)]) S.1 S.2.1 dL_law_811 hl (by decide) rfl (fun ls hl => ?_)
    refine lv_aload_n S.1 S.2.1 dL_law_813 rfl (lv_at hl 4 rfl) ?_
    refine g_cVi S G hF hl 8 (J2.2.1 8 0 (by decide)) (by decide) (c_X7_thrown l _ _ _ J2.2.1) (cwV 0 S.2.2.2.2 gL_law_X7_thrown rfl rfl rfl (by decide +kernel) ⟨Nat.le_of_ble_eq_true rfl, Nat.le_of_ble_eq_true rfl⟩) rfl rfl (Nat.le_of_ble_eq_true rfl) dL_law_814 ⟨hc, hs⟩ (fun r8 u H locs hp G => ?_)
    obtain ⟨hr8, rfl⟩ := hp
    rw [m4] at hr8
    subst hr8
    have G : gS D aC A s _ _ (gk (mAdvK (mCan (upd3 (sAdvK κ (xs (4 * n + 1))) 18 0 0 (sAdvK κ (xs (4 * n + 1)) 7 0 6)) 0) (tN (xs (4 * n + 1))))) H locs := G
    refine lv_iload S.1 S.2.1 dL_law_817 (lv_at hl 1 rfl) ?_
    refine lv_icmp_eq (tgt := 824) S.1 S.2.1 dL_law_819 (by decide) (fun _ => ?_) (fun cz => absurd rfl cz)
    refine lv_iload S.1 S.2.1 dL_law_824 (lv_at hl 1 rfl) ?_
    refine lv_if_ne (tgt := 841) S.1 S.2.1 dL_law_826 (by decide) (fun cz => absurd rfl cz) (fun _ => ?_)
    refine lv_aload_n S.1 S.2.1 dL_law_829 rfl (lv_at hl 3 rfl) ?_
    refine lv_iconst (v := 0) S.1 S.2.1 dL_law_830 (by decide) ?_
    refine k_lald (j := 0) S G 18 J2.2.2.1 rfl rfl rfl rfl (by decide) dL_law_831 ?_
    refine g_topL (congrArg Int32.toInt64 m5) ?_
    refine lv_iload S.1 S.2.1 dL_law_832 (lv_at hl 0 rfl) ?_
    refine lv_i2l S.1 S.2.1 dL_law_834 rfl ?_
    refine W.lcmp S.1 S.2.1 dL_law_835 ?_
    refine g_top (lg_cmp_self _) ?_
    refine lv_if_eq (tgt := 841) S.1 S.2.1 dL_law_836 (by decide) (fun _ => ?_) (fun cz => absurd rfl cz)
    refine lv_goto (tgt := 1579) S.1 S.2.1 dL_law_841 (by decide) ?_
    exact kk _ _ _ H locs ls J2 G (lv_sub hl [2, 3, 4, 5, 6] rfl)
  · obtain ⟨n1, n2⟩ := simB_advance J hT
    have G : gS D aC A s _ _ (gk κ) H locs := G
    refine lv_aload_n S.1 S.2.1 dL_law_801 rfl (lv_at hl 3 rfl) ?_
    refine lv_aload_n S.1 S.2.1 dL_law_802 rfl (lv_at hl 5 rfl) ?_
    refine lv_iload S.1 S.2.1 dL_law_803 (lv_at hl 1 rfl) ?_
    refine lv_iconst (v := 1) S.1 S.2.1 dL_law_805 (by decide) ?_
    refine lv_iadd S.1 S.2.1 dL_law_806 ?_
    refine g_scr S G hX hbl hbA (show nI (4 * n) + 1 = nI (4 * n + 1) from nI_add (4 * n) 1) (by omega) hL dL_law_807 ?_
    refine g_cVi S G hF hl 8 (J.2.1 8 0 (by decide)) (by decide) (c_X7_advance l _ _ _ (xs (4 * n + 1)) J.2.1 J.2.2.2.2.2.1) (cwV 1 S.2.2.2.2 gL_law_X7_advance rfl rfl rfl (by decide +kernel) ⟨Nat.le_of_ble_eq_true rfl, Nat.le_of_ble_eq_true rfl⟩) rfl rfl (Nat.le_of_ble_eq_true rfl) dL_law_808 ⟨hc, hs⟩ (fun r9 u H locs hp G => ?_)
    obtain ⟨hr9, rfl⟩ := hp
    rw [if_neg n2] at hr9
    rw [if_neg n2] at G
    have G : gS D aC A s _ _ (gk (mCan κ (mAdvT κ (xs (4 * n + 1))))) H locs := G
    subst hr9
    refine lv_istore (lv' := [(6, _), (5, _), (4, _), (3, _), (2, _), (1, _), (0, _)]) S.1 S.2.1 dL_law_811 hl (by decide) rfl (fun ls hl => ?_)
    refine lv_aload_n S.1 S.2.1 dL_law_813 rfl (lv_at hl 4 rfl) ?_
    refine g_cVi S G hF hl 8 (J.2.1 8 0 (by decide)) (by decide) (c_X7_thrown l _ _ _ J.2.1) (cwV 0 S.2.2.2.2 gL_law_X7_thrown rfl rfl rfl (by decide +kernel) ⟨Nat.le_of_ble_eq_true rfl, Nat.le_of_ble_eq_true rfl⟩) rfl rfl (Nat.le_of_ble_eq_true rfl) dL_law_814 ⟨hc, hs⟩ (fun r8 u H locs hp G => ?_)
    obtain ⟨hr8, rfl⟩ := hp
    rw [mCan, upd3_s, n1] at hr8
    subst hr8
    have G : gS D aC A s _ _ (gk (mCan κ (mAdvT κ (xs (4 * n + 1))))) H locs := G
    refine lv_iload S.1 S.2.1 dL_law_817 (lv_at hl 1 rfl) ?_
    refine lv_icmp_eq (tgt := 824) S.1 S.2.1 dL_law_819 (by decide) (fun _ => ?_) (fun cz => absurd rfl cz)
    refine lv_iload S.1 S.2.1 dL_law_824 (lv_at hl 1 rfl) ?_
    refine lv_if_ne (tgt := 841) S.1 S.2.1 dL_law_826 (by decide) (fun _ => ?_) (fun cz => absurd cz (by rw [← n1]; exact n2))
    refine lv_goto (tgt := 1579) S.1 S.2.1 dL_law_841 (by decide) ?_
    exact kk _ _ _ H locs ls (J.can _) G (lv_sub hl [2, 3, 4, 5, 6] rfl)
set_option maxHeartbeats 4000000 in
set_option maxRecDepth 100000 in
theorem lc_tick {p : Program} {l : Launch} {e : Env} {s : State} {m : MethodId} {below : List Frame} {meth : Method} {c : Code} {H : Heap} {locs : List Loc} {cells slots : Nat} {Q : State → Prop} {ls : Array Slot} {D : va_G} {aC : Nat → ClassId} {A : Nat → Prop} {ids : gIds} {ad : gAd} {κ : gMem} {b L n : Nat} {xs : Nat → Int32} (hlf : l.stackTraces = false) (S : CallFix p m c cL_law 7 s #[Value.ref b] wsL_law RL) (hF : gF A s s.heap) (hX : va_X b L xs s s.heap) (hbl : b < s.heap.size) (hbA : ¬ A b) (hn : 4 * n + 4 ≤ L) (hL : L ≤ 2048) (G : gS D aC A s ids ad (gk κ) H locs) (hl : lv_has ls 7 [(4, .int (nI (4 * n))), (3, .ref (ad 18 0)), (2, .ref (ad 8 0)), (1, .ref (ad 7 0)), (0, .ref b)]) (J : Inv ids κ) (hc : cells + 8 ≤ 601024) (hs : slots + 64 ≤ 7293034)
    (kk : ∀ (ids' : gIds) (ad' : gAd) (κ' : gMem) (H1 : Heap) (locs1 : List Loc) (ls1 : Array Slot), Inv ids' κ' → gS D aC A s ids' ad' (gk κ') H1 locs1 → lv_has ls1 7 [(4, .int (nI (4 * n))), (3, .ref (ad' 18 0)), (2, .ref (ad' 8 0)), (1, .ref (ad' 7 0)), (0, .ref b)] → W p l e room_1 s m #[Value.ref b] below meth c H1 locs1 (cells + 8) (slots + 64) Q (F0 m 1579 ls1 [])) : W p l e room_1 s m #[Value.ref b] below meth c H locs cells slots Q (F0 m 844 ls []) := by
  have hl : lv_has ls 7 [(4, _), (3, _), (2, _), (1, _), (0, _)] := hl
  refine W.widen (k := cells + 8) (n := slots + 64) (by omega) (by omega) ?_
  refine lv_aload_n S.1 S.2.1 dL_law_844 rfl (lv_at hl 3 rfl) ?_
  refine g_cVi S G hF hl 7 (J.1 7 0 (by decide)) (by decide) (c_X6_tick l ids ad κ J.1) (cwV 0 S.2.2.2.2 gL_law_X6_tick rfl rfl rfl (by decide +kernel) ⟨Nat.le_of_ble_eq_true rfl, Nat.le_of_ble_eq_true rfl⟩) rfl rfl (Nat.le_of_ble_eq_true rfl) dL_law_845 ⟨hc, hs⟩ (fun r9 u H locs hp G => ?_)
  obtain ⟨rfl, rfl⟩ := hp
  have G : gS D aC A s _ _ (gk κ) H locs := G
  refine lv_aload_n S.1 S.2.1 dL_law_848 rfl (lv_at hl 2 rfl) ?_
  refine g_cVi S G hF hl 8 (J.2.1 8 0 (by decide)) (by decide) (c_X7_tick l _ _ _ J.2.1) (cwV 0 S.2.2.2.2 gL_law_X7_tick rfl rfl rfl (by decide +kernel) ⟨Nat.le_of_ble_eq_true rfl, Nat.le_of_ble_eq_true rfl⟩) rfl rfl (Nat.le_of_ble_eq_true rfl) dL_law_849 ⟨hc, hs⟩ (fun r8 u H locs hp G => ?_)
  obtain ⟨rfl, rfl⟩ := hp
  have G : gS D aC A s _ _ (gk (mCan κ 0)) H locs := G
  refine lv_icmp_eq (tgt := 1579) S.1 S.2.1 dL_law_852 (by decide) (fun _ => ?_) (fun cz => absurd J.2.2.2.2.2.2.1.1 cz)
  exact kk _ _ _ H locs ls (J.can 0) G (lv_sub hl [0, 1, 2, 3, 4] rfl)
set_option maxHeartbeats 4000000 in
set_option maxRecDepth 100000 in
theorem lc_readings {p : Program} {l : Launch} {e : Env} {s : State} {m : MethodId} {below : List Frame} {meth : Method} {c : Code} {H : Heap} {locs : List Loc} {cells slots : Nat} {Q : State → Prop} {ls : Array Slot} {D : va_G} {aC : Nat → ClassId} {A : Nat → Prop} {ids : gIds} {ad : gAd} {κ : gMem} {b L n : Nat} {xs : Nat → Int32} (hlf : l.stackTraces = false) (S : CallFix p m c cL_law 7 s #[Value.ref b] wsL_law RL) (hF : gF A s s.heap) (hX : va_X b L xs s s.heap) (hbl : b < s.heap.size) (hbA : ¬ A b) (hn : 4 * n + 4 ≤ L) (hL : L ≤ 2048) (G : gS D aC A s ids ad (gk κ) H locs) (hl : lv_has ls 7 [(4, .int (nI (4 * n))), (3, .ref (ad 18 0)), (2, .ref (ad 8 0)), (1, .ref (ad 7 0)), (0, .ref b)]) (J : Inv ids κ) (hc : cells + 8 ≤ 601024) (hs : slots + 64 ≤ 7293034)
    (kk : ∀ (ids' : gIds) (ad' : gAd) (κ' : gMem) (H1 : Heap) (locs1 : List Loc) (ls1 : Array Slot), Inv ids' κ' → gS D aC A s ids' ad' (gk κ') H1 locs1 → lv_has ls1 7 [(4, .int (nI (4 * n))), (3, .ref (ad' 18 0)), (2, .ref (ad' 8 0)), (1, .ref (ad' 7 0)), (0, .ref b)] → W p l e room_1 s m #[Value.ref b] below meth c H1 locs1 (cells + 8) (slots + 64) Q (F0 m 1579 ls1 [])) : W p l e room_1 s m #[Value.ref b] below meth c H locs cells slots Q (F0 m 857 ls []) := by
  have hl : lv_has ls 7 [(4, _), (3, _), (2, _), (1, _), (0, _)] := hl
  refine W.widen (k := cells + 8) (n := slots + 64) (by omega) (by omega) ?_
  refine lv_aload_n S.1 S.2.1 dL_law_857 rfl (lv_at hl 3 rfl) ?_
  refine g_cVi S G hF hl 7 (J.1 7 0 (by decide)) (by decide) (c_X6_readings l ids ad κ J.1) (cwV 0 S.2.2.2.2 gL_law_X6_readings rfl rfl rfl (by decide +kernel) ⟨Nat.le_of_ble_eq_true rfl, Nat.le_of_ble_eq_true rfl⟩) rfl rfl (Nat.le_of_ble_eq_true rfl) dL_law_858 ⟨hc, hs⟩ (fun r9 u H locs hp G => ?_)
  obtain ⟨rfl, rfl⟩ := hp
  have G : gS D aC A s _ _ (gk κ) H locs := G
  refine lv_aload_n S.1 S.2.1 dL_law_861 rfl (lv_at hl 2 rfl) ?_
  refine g_cVi S G hF hl 8 (J.2.1 8 0 (by decide)) (by decide) (c_X7_readings l _ _ _ J.2.1) (cwV 0 S.2.2.2.2 gL_law_X7_readings rfl rfl rfl (by decide +kernel) ⟨Nat.le_of_ble_eq_true rfl, Nat.le_of_ble_eq_true rfl⟩) rfl rfl (Nat.le_of_ble_eq_true rfl) dL_law_862 ⟨hc, hs⟩ (fun r8 u H locs hp G => ?_)
  obtain ⟨rfl, rfl⟩ := hp
  have G : gS D aC A s _ _ (gk (mCan κ 0)) H locs := G
  refine lv_icmp_eq (tgt := 1579) S.1 S.2.1 dL_law_865 (by decide) (fun _ => ?_) (fun cz => absurd J.2.2.2.2.2.2.1.2.2.2.1 cz)
  exact kk _ _ _ H locs ls (J.can 0) G (lv_sub hl [0, 1, 2, 3, 4] rfl)
set_option maxHeartbeats 4000000 in
set_option maxRecDepth 100000 in
theorem lc_stateOf {p : Program} {l : Launch} {e : Env} {s : State} {m : MethodId} {below : List Frame} {meth : Method} {c : Code} {H : Heap} {locs : List Loc} {cells slots : Nat} {Q : State → Prop} {ls : Array Slot} {D : va_G} {aC : Nat → ClassId} {A : Nat → Prop} {ids : gIds} {ad : gAd} {κ : gMem} {b L n : Nat} {xs : Nat → Int32} (hlf : l.stackTraces = false) (S : CallFix p m c cL_law 7 s #[Value.ref b] wsL_law RL) (hF : gF A s s.heap) (hX : va_X b L xs s s.heap) (hbl : b < s.heap.size) (hbA : ¬ A b) (hn : 4 * n + 4 ≤ L) (hL : L ≤ 2048) (G : gS D aC A s ids ad (gk κ) H locs) (hl : lv_has ls 7 [(4, .int (nI (4 * n))), (3, .ref (ad 18 0)), (2, .ref (ad 8 0)), (1, .ref (ad 7 0)), (0, .ref b)]) (J : Inv ids κ) (hc : cells + 8 ≤ 601024) (hs : slots + 64 ≤ 7293034)
    (kk : ∀ (ids' : gIds) (ad' : gAd) (κ' : gMem) (H1 : Heap) (locs1 : List Loc) (ls1 : Array Slot), Inv ids' κ' → gS D aC A s ids' ad' (gk κ') H1 locs1 → lv_has ls1 7 [(4, .int (nI (4 * n))), (3, .ref (ad' 18 0)), (2, .ref (ad' 8 0)), (1, .ref (ad' 7 0)), (0, .ref b)] → W p l e room_1 s m #[Value.ref b] below meth c H1 locs1 (cells + 8) (slots + 64) Q (F0 m 1579 ls1 [])) : W p l e room_1 s m #[Value.ref b] below meth c H locs cells slots Q (F0 m 870 ls []) := by
  have hl : lv_has ls 7 [(4, _), (3, _), (2, _), (1, _), (0, _)] := hl
  refine lv_aload_n S.1 S.2.1 dL_law_870 rfl (lv_at hl 3 rfl) ?_
  refine lv_aload_n S.1 S.2.1 dL_law_871 rfl (lv_at hl 4 rfl) ?_
  refine lv_iload S.1 S.2.1 dL_law_872 (lv_at hl 0 rfl) ?_
  refine lv_iconst (v := 1) S.1 S.2.1 dL_law_874 (by decide) ?_
  refine lv_iadd S.1 S.2.1 dL_law_875 ?_
  refine g_scr S G hX hbl hbA (show nI (4 * n) + 1 = nI (4 * n + 1) from nI_add (4 * n) 1) (by omega) hL dL_law_876 ?_
  refine lv_aload_n S.1 S.2.1 dL_law_877 rfl (lv_at hl 1 rfl) ?_
  refine g_cSWi S G hF hl (c_L_stateOf l hlf ids ad κ (xs (4 * n + 1)) J.1 J.2.2.2.1 J.2.2.1) (vx_cwSW 3 S.2.2.2.2 gL_law_L_stateOf rfl rfl rfl (by decide +kernel) ⟨Nat.le_of_ble_eq_true rfl, Nat.le_of_ble_eq_true rfl⟩) rfl rfl (Nat.le_of_ble_eq_true rfl) dL_law_878 ⟨hc, hs⟩ (fun k9 u H locs hp G => ?_)
  refine lv_istore (lv' := [(5, _), (4, _), (3, _), (2, _), (1, _), (0, _)]) S.1 S.2.1 dL_law_881 hl (by decide) rfl (fun ls hl => ?_)
  rcases hp with ⟨hT, rfl, rfl⟩ | ⟨hT, rfl, rfl⟩
  · obtain ⟨m1, m2, m3, m4, m5, J2⟩ := simA_stateOf J hT
    have G : gS D aC A s _ _ (gk (upd3 (κ) 18 0 0 (κ 3 (tN (xs (4 * n + 1))) 3))) H locs := G
    refine lv_aload_n S.1 S.2.1 dL_law_883 rfl (lv_at hl 3 rfl) ?_
    refine lv_aload_n S.1 S.2.1 dL_law_884 rfl (lv_at hl 5 rfl) ?_
    refine lv_iload S.1 S.2.1 dL_law_885 (lv_at hl 1 rfl) ?_
    refine lv_iconst (v := 1) S.1 S.2.1 dL_law_887 (by decide) ?_
    refine lv_iadd S.1 S.2.1 dL_law_888 ?_
    refine g_scr S G hX hbl hbA (show nI (4 * n) + 1 = nI (4 * n + 1) from nI_add (4 * n) 1) (by omega) hL dL_law_889 ?_
    refine g_cVi S G hF hl 8 (J2.2.1 8 0 (by decide)) (by decide) (c_X7_stateOf l _ _ _ (xs (4 * n + 1)) J2.2.1 m1) (cwV 1 S.2.2.2.2 gL_law_X7_stateOf rfl rfl rfl (by decide +kernel) ⟨Nat.le_of_ble_eq_true rfl, Nat.le_of_ble_eq_true rfl⟩) rfl rfl (Nat.le_of_ble_eq_true rfl) dL_law_890 ⟨hc, hs⟩ (fun r9 u H locs hp G => ?_)
    obtain ⟨hr9, rfl⟩ := hp
    rw [if_pos m2, m3] at hr9
    rw [m2] at G
    have G : gS D aC A s _ _ (gk (mCan (upd3 (κ) 18 0 0 (κ 3 (tN (xs (4 * n + 1))) 3)) 0)) H locs := G
    subst hr9
    refine lv_istore (lv' := [(6, _), (5, _), (4, _), (3, _), (2, _), (1, _), (0, _)]) S.1 S.2.1 dL_law_893 hl (by decide) rfl (fun ls hl => ?_)
    refine lv_aload_n S.1 S.2.1 dL_law_895 rfl (lv_at hl 4 rfl) ?_
    refine g_cVi S G hF hl 8 (J2.2.1 8 0 (by decide)) (by decide) (c_X7_thrown l _ _ _ J2.2.1) (cwV 0 S.2.2.2.2 gL_law_X7_thrown rfl rfl rfl (by decide +kernel) ⟨Nat.le_of_ble_eq_true rfl, Nat.le_of_ble_eq_true rfl⟩) rfl rfl (Nat.le_of_ble_eq_true rfl) dL_law_896 ⟨hc, hs⟩ (fun r8 u H locs hp G => ?_)
    obtain ⟨hr8, rfl⟩ := hp
    rw [m4] at hr8
    subst hr8
    have G : gS D aC A s _ _ (gk (mCan (upd3 (κ) 18 0 0 (κ 3 (tN (xs (4 * n + 1))) 3)) 0)) H locs := G
    refine lv_iload S.1 S.2.1 dL_law_899 (lv_at hl 1 rfl) ?_
    refine lv_icmp_eq (tgt := 906) S.1 S.2.1 dL_law_901 (by decide) (fun _ => ?_) (fun cz => absurd rfl cz)
    refine lv_iload S.1 S.2.1 dL_law_906 (lv_at hl 1 rfl) ?_
    refine lv_if_ne (tgt := 923) S.1 S.2.1 dL_law_908 (by decide) (fun cz => absurd rfl cz) (fun _ => ?_)
    refine lv_aload_n S.1 S.2.1 dL_law_911 rfl (lv_at hl 3 rfl) ?_
    refine lv_iconst (v := 0) S.1 S.2.1 dL_law_912 (by decide) ?_
    refine k_lald (j := 0) S G 18 J2.2.2.1 rfl rfl rfl rfl (by decide) dL_law_913 ?_
    refine g_topL (congrArg Int32.toInt64 m5) ?_
    refine lv_iload S.1 S.2.1 dL_law_914 (lv_at hl 0 rfl) ?_
    refine lv_i2l S.1 S.2.1 dL_law_916 rfl ?_
    refine W.lcmp S.1 S.2.1 dL_law_917 ?_
    refine g_top (lg_cmp_self _) ?_
    refine lv_if_eq (tgt := 923) S.1 S.2.1 dL_law_918 (by decide) (fun _ => ?_) (fun cz => absurd rfl cz)
    refine lv_goto (tgt := 1579) S.1 S.2.1 dL_law_923 (by decide) ?_
    exact kk _ _ _ H locs ls J2 G (lv_sub hl [2, 3, 4, 5, 6] rfl)
  · obtain ⟨n1, n2⟩ := simB_stateOf J hT
    have G : gS D aC A s _ _ (gk κ) H locs := G
    refine lv_aload_n S.1 S.2.1 dL_law_883 rfl (lv_at hl 3 rfl) ?_
    refine lv_aload_n S.1 S.2.1 dL_law_884 rfl (lv_at hl 5 rfl) ?_
    refine lv_iload S.1 S.2.1 dL_law_885 (lv_at hl 1 rfl) ?_
    refine lv_iconst (v := 1) S.1 S.2.1 dL_law_887 (by decide) ?_
    refine lv_iadd S.1 S.2.1 dL_law_888 ?_
    refine g_scr S G hX hbl hbA (show nI (4 * n) + 1 = nI (4 * n + 1) from nI_add (4 * n) 1) (by omega) hL dL_law_889 ?_
    refine g_cVi S G hF hl 8 (J.2.1 8 0 (by decide)) (by decide) (c_X7_stateOf l _ _ _ (xs (4 * n + 1)) J.2.1 J.2.2.2.2.2.1) (cwV 1 S.2.2.2.2 gL_law_X7_stateOf rfl rfl rfl (by decide +kernel) ⟨Nat.le_of_ble_eq_true rfl, Nat.le_of_ble_eq_true rfl⟩) rfl rfl (Nat.le_of_ble_eq_true rfl) dL_law_890 ⟨hc, hs⟩ (fun r9 u H locs hp G => ?_)
    obtain ⟨hr9, rfl⟩ := hp
    rw [if_neg n2] at hr9
    have G : gS D aC A s _ _ (gk (mCan κ (mAskT κ (xs (4 * n + 1))))) H locs := G
    subst hr9
    refine lv_istore (lv' := [(6, _), (5, _), (4, _), (3, _), (2, _), (1, _), (0, _)]) S.1 S.2.1 dL_law_893 hl (by decide) rfl (fun ls hl => ?_)
    refine lv_aload_n S.1 S.2.1 dL_law_895 rfl (lv_at hl 4 rfl) ?_
    refine g_cVi S G hF hl 8 (J.2.1 8 0 (by decide)) (by decide) (c_X7_thrown l _ _ _ J.2.1) (cwV 0 S.2.2.2.2 gL_law_X7_thrown rfl rfl rfl (by decide +kernel) ⟨Nat.le_of_ble_eq_true rfl, Nat.le_of_ble_eq_true rfl⟩) rfl rfl (Nat.le_of_ble_eq_true rfl) dL_law_896 ⟨hc, hs⟩ (fun r8 u H locs hp G => ?_)
    obtain ⟨hr8, rfl⟩ := hp
    rw [mCan, upd3_s, n1] at hr8
    subst hr8
    have G : gS D aC A s _ _ (gk (mCan κ (mAskT κ (xs (4 * n + 1))))) H locs := G
    refine lv_iload S.1 S.2.1 dL_law_899 (lv_at hl 1 rfl) ?_
    refine lv_icmp_eq (tgt := 906) S.1 S.2.1 dL_law_901 (by decide) (fun _ => ?_) (fun cz => absurd rfl cz)
    refine lv_iload S.1 S.2.1 dL_law_906 (lv_at hl 1 rfl) ?_
    refine lv_if_ne (tgt := 923) S.1 S.2.1 dL_law_908 (by decide) (fun _ => ?_) (fun cz => absurd cz (by rw [← n1]; exact n2))
    refine lv_goto (tgt := 1579) S.1 S.2.1 dL_law_923 (by decide) ?_
    exact kk _ _ _ H locs ls (J.can _) G (lv_sub hl [2, 3, 4, 5, 6] rfl)
set_option maxHeartbeats 4000000 in
set_option maxRecDepth 100000 in
theorem lc_parts {p : Program} {l : Launch} {e : Env} {s : State} {m : MethodId} {below : List Frame} {meth : Method} {c : Code} {H : Heap} {locs : List Loc} {cells slots : Nat} {Q : State → Prop} {ls : Array Slot} {D : va_G} {aC : Nat → ClassId} {A : Nat → Prop} {ids : gIds} {ad : gAd} {κ : gMem} {b L n : Nat} {xs : Nat → Int32} (hlf : l.stackTraces = false) (S : CallFix p m c cL_law 7 s #[Value.ref b] wsL_law RL) (hF : gF A s s.heap) (hX : va_X b L xs s s.heap) (hbl : b < s.heap.size) (hbA : ¬ A b) (hn : 4 * n + 4 ≤ L) (hL : L ≤ 2048) (G : gS D aC A s ids ad (gk κ) H locs) (hl : lv_has ls 7 [(4, .int (nI (4 * n))), (3, .ref (ad 18 0)), (2, .ref (ad 8 0)), (1, .ref (ad 7 0)), (0, .ref b)]) (J : Inv ids κ) (hc : cells + 8 ≤ 601024) (hs : slots + 64 ≤ 7293034)
    (kk : ∀ (ids' : gIds) (ad' : gAd) (κ' : gMem) (H1 : Heap) (locs1 : List Loc) (ls1 : Array Slot), Inv ids' κ' → gS D aC A s ids' ad' (gk κ') H1 locs1 → lv_has ls1 7 [(4, .int (nI (4 * n))), (3, .ref (ad' 18 0)), (2, .ref (ad' 8 0)), (1, .ref (ad' 7 0)), (0, .ref b)] → W p l e room_1 s m #[Value.ref b] below meth c H1 locs1 (cells + 8) (slots + 64) Q (F0 m 1579 ls1 [])) : W p l e room_1 s m #[Value.ref b] below meth c H locs cells slots Q (F0 m 926 ls []) := by
  have hl : lv_has ls 7 [(4, _), (3, _), (2, _), (1, _), (0, _)] := hl
  refine lv_aload_n S.1 S.2.1 dL_law_926 rfl (lv_at hl 3 rfl) ?_
  refine lv_aload_n S.1 S.2.1 dL_law_927 rfl (lv_at hl 4 rfl) ?_
  refine lv_iload S.1 S.2.1 dL_law_928 (lv_at hl 0 rfl) ?_
  refine lv_iconst (v := 1) S.1 S.2.1 dL_law_930 (by decide) ?_
  refine lv_iadd S.1 S.2.1 dL_law_931 ?_
  refine g_scr S G hX hbl hbA (show nI (4 * n) + 1 = nI (4 * n + 1) from nI_add (4 * n) 1) (by omega) hL dL_law_932 ?_
  refine lv_aload_n S.1 S.2.1 dL_law_933 rfl (lv_at hl 1 rfl) ?_
  refine g_cSWi S G hF hl (c_L_parts l hlf ids ad κ (xs (4 * n + 1)) J.1 J.2.2.2.1 J.2.2.1) (vx_cwSW 3 S.2.2.2.2 gL_law_L_parts rfl rfl rfl (by decide +kernel) ⟨Nat.le_of_ble_eq_true rfl, Nat.le_of_ble_eq_true rfl⟩) rfl rfl (Nat.le_of_ble_eq_true rfl) dL_law_934 ⟨hc, hs⟩ (fun k9 u H locs hp G => ?_)
  refine lv_istore (lv' := [(5, _), (4, _), (3, _), (2, _), (1, _), (0, _)]) S.1 S.2.1 dL_law_937 hl (by decide) rfl (fun ls hl => ?_)
  rcases hp with ⟨hT, rfl, rfl⟩ | ⟨hT, rfl, rfl⟩
  · obtain ⟨m1, m2, m3, m4, m5, J2⟩ := simA_parts J hT
    have G : gS D aC A s _ _ (gk (upd3 (κ) 18 0 0 (κ 3 (tN (xs (4 * n + 1))) 2))) H locs := G
    refine lv_aload_n S.1 S.2.1 dL_law_939 rfl (lv_at hl 3 rfl) ?_
    refine lv_aload_n S.1 S.2.1 dL_law_940 rfl (lv_at hl 5 rfl) ?_
    refine lv_iload S.1 S.2.1 dL_law_941 (lv_at hl 1 rfl) ?_
    refine lv_iconst (v := 1) S.1 S.2.1 dL_law_943 (by decide) ?_
    refine lv_iadd S.1 S.2.1 dL_law_944 ?_
    refine g_scr S G hX hbl hbA (show nI (4 * n) + 1 = nI (4 * n + 1) from nI_add (4 * n) 1) (by omega) hL dL_law_945 ?_
    refine g_cVi S G hF hl 8 (J2.2.1 8 0 (by decide)) (by decide) (c_X7_parts l _ _ _ (xs (4 * n + 1)) J2.2.1 m1) (cwV 1 S.2.2.2.2 gL_law_X7_parts rfl rfl rfl (by decide +kernel) ⟨Nat.le_of_ble_eq_true rfl, Nat.le_of_ble_eq_true rfl⟩) rfl rfl (Nat.le_of_ble_eq_true rfl) dL_law_946 ⟨hc, hs⟩ (fun r9 u H locs hp G => ?_)
    obtain ⟨hr9, rfl⟩ := hp
    rw [if_pos m2, m3] at hr9
    rw [m2] at G
    have G : gS D aC A s _ _ (gk (mCan (upd3 (κ) 18 0 0 (κ 3 (tN (xs (4 * n + 1))) 2)) 0)) H locs := G
    subst hr9
    refine lv_istore (lv' := [(6, _), (5, _), (4, _), (3, _), (2, _), (1, _), (0, _)]) S.1 S.2.1 dL_law_949 hl (by decide) rfl (fun ls hl => ?_)
    refine lv_aload_n S.1 S.2.1 dL_law_951 rfl (lv_at hl 4 rfl) ?_
    refine g_cVi S G hF hl 8 (J2.2.1 8 0 (by decide)) (by decide) (c_X7_thrown l _ _ _ J2.2.1) (cwV 0 S.2.2.2.2 gL_law_X7_thrown rfl rfl rfl (by decide +kernel) ⟨Nat.le_of_ble_eq_true rfl, Nat.le_of_ble_eq_true rfl⟩) rfl rfl (Nat.le_of_ble_eq_true rfl) dL_law_952 ⟨hc, hs⟩ (fun r8 u H locs hp G => ?_)
    obtain ⟨hr8, rfl⟩ := hp
    rw [m4] at hr8
    subst hr8
    have G : gS D aC A s _ _ (gk (mCan (upd3 (κ) 18 0 0 (κ 3 (tN (xs (4 * n + 1))) 2)) 0)) H locs := G
    refine lv_iload S.1 S.2.1 dL_law_955 (lv_at hl 1 rfl) ?_
    refine lv_icmp_eq (tgt := 962) S.1 S.2.1 dL_law_957 (by decide) (fun _ => ?_) (fun cz => absurd rfl cz)
    refine lv_iload S.1 S.2.1 dL_law_962 (lv_at hl 1 rfl) ?_
    refine lv_if_ne (tgt := 979) S.1 S.2.1 dL_law_964 (by decide) (fun cz => absurd rfl cz) (fun _ => ?_)
    refine lv_aload_n S.1 S.2.1 dL_law_967 rfl (lv_at hl 3 rfl) ?_
    refine lv_iconst (v := 0) S.1 S.2.1 dL_law_968 (by decide) ?_
    refine k_lald (j := 0) S G 18 J2.2.2.1 rfl rfl rfl rfl (by decide) dL_law_969 ?_
    refine g_topL (congrArg Int32.toInt64 m5) ?_
    refine lv_iload S.1 S.2.1 dL_law_970 (lv_at hl 0 rfl) ?_
    refine lv_i2l S.1 S.2.1 dL_law_972 rfl ?_
    refine W.lcmp S.1 S.2.1 dL_law_973 ?_
    refine g_top (lg_cmp_self _) ?_
    refine lv_if_eq (tgt := 979) S.1 S.2.1 dL_law_974 (by decide) (fun _ => ?_) (fun cz => absurd rfl cz)
    refine lv_goto (tgt := 1579) S.1 S.2.1 dL_law_979 (by decide) ?_
    exact kk _ _ _ H locs ls J2 G (lv_sub hl [2, 3, 4, 5, 6] rfl)
  · obtain ⟨n1, n2⟩ := simB_parts J hT
    have G : gS D aC A s _ _ (gk κ) H locs := G
    refine lv_aload_n S.1 S.2.1 dL_law_939 rfl (lv_at hl 3 rfl) ?_
    refine lv_aload_n S.1 S.2.1 dL_law_940 rfl (lv_at hl 5 rfl) ?_
    refine lv_iload S.1 S.2.1 dL_law_941 (lv_at hl 1 rfl) ?_
    refine lv_iconst (v := 1) S.1 S.2.1 dL_law_943 (by decide) ?_
    refine lv_iadd S.1 S.2.1 dL_law_944 ?_
    refine g_scr S G hX hbl hbA (show nI (4 * n) + 1 = nI (4 * n + 1) from nI_add (4 * n) 1) (by omega) hL dL_law_945 ?_
    refine g_cVi S G hF hl 8 (J.2.1 8 0 (by decide)) (by decide) (c_X7_parts l _ _ _ (xs (4 * n + 1)) J.2.1 J.2.2.2.2.2.1) (cwV 1 S.2.2.2.2 gL_law_X7_parts rfl rfl rfl (by decide +kernel) ⟨Nat.le_of_ble_eq_true rfl, Nat.le_of_ble_eq_true rfl⟩) rfl rfl (Nat.le_of_ble_eq_true rfl) dL_law_946 ⟨hc, hs⟩ (fun r9 u H locs hp G => ?_)
    obtain ⟨hr9, rfl⟩ := hp
    rw [if_neg n2] at hr9
    have G : gS D aC A s _ _ (gk (mCan κ (mAskT κ (xs (4 * n + 1))))) H locs := G
    subst hr9
    refine lv_istore (lv' := [(6, _), (5, _), (4, _), (3, _), (2, _), (1, _), (0, _)]) S.1 S.2.1 dL_law_949 hl (by decide) rfl (fun ls hl => ?_)
    refine lv_aload_n S.1 S.2.1 dL_law_951 rfl (lv_at hl 4 rfl) ?_
    refine g_cVi S G hF hl 8 (J.2.1 8 0 (by decide)) (by decide) (c_X7_thrown l _ _ _ J.2.1) (cwV 0 S.2.2.2.2 gL_law_X7_thrown rfl rfl rfl (by decide +kernel) ⟨Nat.le_of_ble_eq_true rfl, Nat.le_of_ble_eq_true rfl⟩) rfl rfl (Nat.le_of_ble_eq_true rfl) dL_law_952 ⟨hc, hs⟩ (fun r8 u H locs hp G => ?_)
    obtain ⟨hr8, rfl⟩ := hp
    rw [mCan, upd3_s, n1] at hr8
    subst hr8
    have G : gS D aC A s _ _ (gk (mCan κ (mAskT κ (xs (4 * n + 1))))) H locs := G
    refine lv_iload S.1 S.2.1 dL_law_955 (lv_at hl 1 rfl) ?_
    refine lv_icmp_eq (tgt := 962) S.1 S.2.1 dL_law_957 (by decide) (fun _ => ?_) (fun cz => absurd rfl cz)
    refine lv_iload S.1 S.2.1 dL_law_962 (lv_at hl 1 rfl) ?_
    refine lv_if_ne (tgt := 979) S.1 S.2.1 dL_law_964 (by decide) (fun _ => ?_) (fun cz => absurd cz (by rw [← n1]; exact n2))
    refine lv_goto (tgt := 1579) S.1 S.2.1 dL_law_979 (by decide) ?_
    exact kk _ _ _ H locs ls (J.can _) G (lv_sub hl [2, 3, 4, 5, 6] rfl)
set_option maxHeartbeats 4000000 in
set_option maxRecDepth 100000 in
theorem lc_users {p : Program} {l : Launch} {e : Env} {s : State} {m : MethodId} {below : List Frame} {meth : Method} {c : Code} {H : Heap} {locs : List Loc} {cells slots : Nat} {Q : State → Prop} {ls : Array Slot} {D : va_G} {aC : Nat → ClassId} {A : Nat → Prop} {ids : gIds} {ad : gAd} {κ : gMem} {b L n : Nat} {xs : Nat → Int32} (hlf : l.stackTraces = false) (S : CallFix p m c cL_law 7 s #[Value.ref b] wsL_law RL) (hF : gF A s s.heap) (hX : va_X b L xs s s.heap) (hbl : b < s.heap.size) (hbA : ¬ A b) (hn : 4 * n + 4 ≤ L) (hL : L ≤ 2048) (G : gS D aC A s ids ad (gk κ) H locs) (hl : lv_has ls 7 [(4, .int (nI (4 * n))), (3, .ref (ad 18 0)), (2, .ref (ad 8 0)), (1, .ref (ad 7 0)), (0, .ref b)]) (J : Inv ids κ) (hc : cells + 8 ≤ 601024) (hs : slots + 64 ≤ 7293034)
    (kk : ∀ (ids' : gIds) (ad' : gAd) (κ' : gMem) (H1 : Heap) (locs1 : List Loc) (ls1 : Array Slot), Inv ids' κ' → gS D aC A s ids' ad' (gk κ') H1 locs1 → lv_has ls1 7 [(4, .int (nI (4 * n))), (3, .ref (ad' 18 0)), (2, .ref (ad' 8 0)), (1, .ref (ad' 7 0)), (0, .ref b)] → W p l e room_1 s m #[Value.ref b] below meth c H1 locs1 (cells + 8) (slots + 64) Q (F0 m 1579 ls1 [])) : W p l e room_1 s m #[Value.ref b] below meth c H locs cells slots Q (F0 m 982 ls []) := by
  have hl : lv_has ls 7 [(4, _), (3, _), (2, _), (1, _), (0, _)] := hl
  refine lv_aload_n S.1 S.2.1 dL_law_982 rfl (lv_at hl 3 rfl) ?_
  refine lv_aload_n S.1 S.2.1 dL_law_983 rfl (lv_at hl 4 rfl) ?_
  refine lv_iload S.1 S.2.1 dL_law_984 (lv_at hl 0 rfl) ?_
  refine lv_iconst (v := 1) S.1 S.2.1 dL_law_986 (by decide) ?_
  refine lv_iadd S.1 S.2.1 dL_law_987 ?_
  refine g_scr S G hX hbl hbA (show nI (4 * n) + 1 = nI (4 * n + 1) from nI_add (4 * n) 1) (by omega) hL dL_law_988 ?_
  refine lv_aload_n S.1 S.2.1 dL_law_989 rfl (lv_at hl 1 rfl) ?_
  refine g_cSWi S G hF hl (c_L_users l hlf ids ad κ (xs (4 * n + 1)) J.1 J.2.2.2.1 J.2.2.1) (vx_cwSW 3 S.2.2.2.2 gL_law_L_users rfl rfl rfl (by decide +kernel) ⟨Nat.le_of_ble_eq_true rfl, Nat.le_of_ble_eq_true rfl⟩) rfl rfl (Nat.le_of_ble_eq_true rfl) dL_law_990 ⟨hc, hs⟩ (fun k9 u H locs hp G => ?_)
  refine lv_istore (lv' := [(5, _), (4, _), (3, _), (2, _), (1, _), (0, _)]) S.1 S.2.1 dL_law_993 hl (by decide) rfl (fun ls hl => ?_)
  rcases hp with ⟨hT, rfl, rfl⟩ | ⟨hT, rfl, rfl⟩
  · obtain ⟨m1, m2, m3, m4, m5, J2⟩ := simA_users J hT
    have G : gS D aC A s _ _ (gk (upd3 (κ) 18 0 0 (κ 3 (tN (xs (4 * n + 1))) 6))) H locs := G
    refine lv_aload_n S.1 S.2.1 dL_law_995 rfl (lv_at hl 3 rfl) ?_
    refine lv_aload_n S.1 S.2.1 dL_law_996 rfl (lv_at hl 5 rfl) ?_
    refine lv_iload S.1 S.2.1 dL_law_997 (lv_at hl 1 rfl) ?_
    refine lv_iconst (v := 1) S.1 S.2.1 dL_law_999 (by decide) ?_
    refine lv_iadd S.1 S.2.1 dL_law_1000 ?_
    refine g_scr S G hX hbl hbA (show nI (4 * n) + 1 = nI (4 * n + 1) from nI_add (4 * n) 1) (by omega) hL dL_law_1001 ?_
    refine g_cVi S G hF hl 8 (J2.2.1 8 0 (by decide)) (by decide) (c_X7_users l _ _ _ (xs (4 * n + 1)) J2.2.1 m1) (cwV 1 S.2.2.2.2 gL_law_X7_users rfl rfl rfl (by decide +kernel) ⟨Nat.le_of_ble_eq_true rfl, Nat.le_of_ble_eq_true rfl⟩) rfl rfl (Nat.le_of_ble_eq_true rfl) dL_law_1002 ⟨hc, hs⟩ (fun r9 u H locs hp G => ?_)
    obtain ⟨hr9, rfl⟩ := hp
    rw [if_pos m2, m3] at hr9
    rw [m2] at G
    have G : gS D aC A s _ _ (gk (mCan (upd3 (κ) 18 0 0 (κ 3 (tN (xs (4 * n + 1))) 6)) 0)) H locs := G
    subst hr9
    refine lv_istore (lv' := [(6, _), (5, _), (4, _), (3, _), (2, _), (1, _), (0, _)]) S.1 S.2.1 dL_law_1005 hl (by decide) rfl (fun ls hl => ?_)
    refine lv_aload_n S.1 S.2.1 dL_law_1007 rfl (lv_at hl 4 rfl) ?_
    refine g_cVi S G hF hl 8 (J2.2.1 8 0 (by decide)) (by decide) (c_X7_thrown l _ _ _ J2.2.1) (cwV 0 S.2.2.2.2 gL_law_X7_thrown rfl rfl rfl (by decide +kernel) ⟨Nat.le_of_ble_eq_true rfl, Nat.le_of_ble_eq_true rfl⟩) rfl rfl (Nat.le_of_ble_eq_true rfl) dL_law_1008 ⟨hc, hs⟩ (fun r8 u H locs hp G => ?_)
    obtain ⟨hr8, rfl⟩ := hp
    rw [m4] at hr8
    subst hr8
    have G : gS D aC A s _ _ (gk (mCan (upd3 (κ) 18 0 0 (κ 3 (tN (xs (4 * n + 1))) 6)) 0)) H locs := G
    refine lv_iload S.1 S.2.1 dL_law_1011 (lv_at hl 1 rfl) ?_
    refine lv_icmp_eq (tgt := 1018) S.1 S.2.1 dL_law_1013 (by decide) (fun _ => ?_) (fun cz => absurd rfl cz)
    refine lv_iload S.1 S.2.1 dL_law_1018 (lv_at hl 1 rfl) ?_
    refine lv_if_ne (tgt := 1035) S.1 S.2.1 dL_law_1020 (by decide) (fun cz => absurd rfl cz) (fun _ => ?_)
    refine lv_aload_n S.1 S.2.1 dL_law_1023 rfl (lv_at hl 3 rfl) ?_
    refine lv_iconst (v := 0) S.1 S.2.1 dL_law_1024 (by decide) ?_
    refine k_lald (j := 0) S G 18 J2.2.2.1 rfl rfl rfl rfl (by decide) dL_law_1025 ?_
    refine g_topL (congrArg Int32.toInt64 m5) ?_
    refine lv_iload S.1 S.2.1 dL_law_1026 (lv_at hl 0 rfl) ?_
    refine lv_i2l S.1 S.2.1 dL_law_1028 rfl ?_
    refine W.lcmp S.1 S.2.1 dL_law_1029 ?_
    refine g_top (lg_cmp_self _) ?_
    refine lv_if_eq (tgt := 1035) S.1 S.2.1 dL_law_1030 (by decide) (fun _ => ?_) (fun cz => absurd rfl cz)
    refine lv_goto (tgt := 1579) S.1 S.2.1 dL_law_1035 (by decide) ?_
    exact kk _ _ _ H locs ls J2 G (lv_sub hl [2, 3, 4, 5, 6] rfl)
  · obtain ⟨n1, n2⟩ := simB_users J hT
    have G : gS D aC A s _ _ (gk κ) H locs := G
    refine lv_aload_n S.1 S.2.1 dL_law_995 rfl (lv_at hl 3 rfl) ?_
    refine lv_aload_n S.1 S.2.1 dL_law_996 rfl (lv_at hl 5 rfl) ?_
    refine lv_iload S.1 S.2.1 dL_law_997 (lv_at hl 1 rfl) ?_
    refine lv_iconst (v := 1) S.1 S.2.1 dL_law_999 (by decide) ?_
    refine lv_iadd S.1 S.2.1 dL_law_1000 ?_
    refine g_scr S G hX hbl hbA (show nI (4 * n) + 1 = nI (4 * n + 1) from nI_add (4 * n) 1) (by omega) hL dL_law_1001 ?_
    refine g_cVi S G hF hl 8 (J.2.1 8 0 (by decide)) (by decide) (c_X7_users l _ _ _ (xs (4 * n + 1)) J.2.1 J.2.2.2.2.2.1) (cwV 1 S.2.2.2.2 gL_law_X7_users rfl rfl rfl (by decide +kernel) ⟨Nat.le_of_ble_eq_true rfl, Nat.le_of_ble_eq_true rfl⟩) rfl rfl (Nat.le_of_ble_eq_true rfl) dL_law_1002 ⟨hc, hs⟩ (fun r9 u H locs hp G => ?_)
    obtain ⟨hr9, rfl⟩ := hp
    rw [if_neg n2] at hr9
    have G : gS D aC A s _ _ (gk (mCan κ (mAskT κ (xs (4 * n + 1))))) H locs := G
    subst hr9
    refine lv_istore (lv' := [(6, _), (5, _), (4, _), (3, _), (2, _), (1, _), (0, _)]) S.1 S.2.1 dL_law_1005 hl (by decide) rfl (fun ls hl => ?_)
    refine lv_aload_n S.1 S.2.1 dL_law_1007 rfl (lv_at hl 4 rfl) ?_
    refine g_cVi S G hF hl 8 (J.2.1 8 0 (by decide)) (by decide) (c_X7_thrown l _ _ _ J.2.1) (cwV 0 S.2.2.2.2 gL_law_X7_thrown rfl rfl rfl (by decide +kernel) ⟨Nat.le_of_ble_eq_true rfl, Nat.le_of_ble_eq_true rfl⟩) rfl rfl (Nat.le_of_ble_eq_true rfl) dL_law_1008 ⟨hc, hs⟩ (fun r8 u H locs hp G => ?_)
    obtain ⟨hr8, rfl⟩ := hp
    rw [mCan, upd3_s, n1] at hr8
    subst hr8
    have G : gS D aC A s _ _ (gk (mCan κ (mAskT κ (xs (4 * n + 1))))) H locs := G
    refine lv_iload S.1 S.2.1 dL_law_1011 (lv_at hl 1 rfl) ?_
    refine lv_icmp_eq (tgt := 1018) S.1 S.2.1 dL_law_1013 (by decide) (fun _ => ?_) (fun cz => absurd rfl cz)
    refine lv_iload S.1 S.2.1 dL_law_1018 (lv_at hl 1 rfl) ?_
    refine lv_if_ne (tgt := 1035) S.1 S.2.1 dL_law_1020 (by decide) (fun _ => ?_) (fun cz => absurd cz (by rw [← n1]; exact n2))
    refine lv_goto (tgt := 1579) S.1 S.2.1 dL_law_1035 (by decide) ?_
    exact kk _ _ _ H locs ls (J.can _) G (lv_sub hl [2, 3, 4, 5, 6] rfl)
set_option maxHeartbeats 4000000 in
set_option maxRecDepth 100000 in
theorem lc_held {p : Program} {l : Launch} {e : Env} {s : State} {m : MethodId} {below : List Frame} {meth : Method} {c : Code} {H : Heap} {locs : List Loc} {cells slots : Nat} {Q : State → Prop} {ls : Array Slot} {D : va_G} {aC : Nat → ClassId} {A : Nat → Prop} {ids : gIds} {ad : gAd} {κ : gMem} {b L n : Nat} {xs : Nat → Int32} (hlf : l.stackTraces = false) (S : CallFix p m c cL_law 7 s #[Value.ref b] wsL_law RL) (hF : gF A s s.heap) (hX : va_X b L xs s s.heap) (hbl : b < s.heap.size) (hbA : ¬ A b) (hn : 4 * n + 4 ≤ L) (hL : L ≤ 2048) (G : gS D aC A s ids ad (gk κ) H locs) (hl : lv_has ls 7 [(4, .int (nI (4 * n))), (3, .ref (ad 18 0)), (2, .ref (ad 8 0)), (1, .ref (ad 7 0)), (0, .ref b)]) (J : Inv ids κ) (hc : cells + 8 ≤ 601024) (hs : slots + 64 ≤ 7293034)
    (kk : ∀ (ids' : gIds) (ad' : gAd) (κ' : gMem) (H1 : Heap) (locs1 : List Loc) (ls1 : Array Slot), Inv ids' κ' → gS D aC A s ids' ad' (gk κ') H1 locs1 → lv_has ls1 7 [(4, .int (nI (4 * n))), (3, .ref (ad' 18 0)), (2, .ref (ad' 8 0)), (1, .ref (ad' 7 0)), (0, .ref b)] → W p l e room_1 s m #[Value.ref b] below meth c H1 locs1 (cells + 8) (slots + 64) Q (F0 m 1579 ls1 [])) : W p l e room_1 s m #[Value.ref b] below meth c H locs cells slots Q (F0 m 1038 ls []) := by
  have hl : lv_has ls 7 [(4, _), (3, _), (2, _), (1, _), (0, _)] := hl
  refine lv_aload_n S.1 S.2.1 dL_law_1038 rfl (lv_at hl 3 rfl) ?_
  refine lv_aload_n S.1 S.2.1 dL_law_1039 rfl (lv_at hl 4 rfl) ?_
  refine lv_iload S.1 S.2.1 dL_law_1040 (lv_at hl 0 rfl) ?_
  refine lv_iconst (v := 1) S.1 S.2.1 dL_law_1042 (by decide) ?_
  refine lv_iadd S.1 S.2.1 dL_law_1043 ?_
  refine g_scr S G hX hbl hbA (show nI (4 * n) + 1 = nI (4 * n + 1) from nI_add (4 * n) 1) (by omega) hL dL_law_1044 ?_
  refine lv_aload_n S.1 S.2.1 dL_law_1045 rfl (lv_at hl 1 rfl) ?_
  refine g_cSWi S G hF hl (c_L_held l hlf ids ad κ (xs (4 * n + 1)) J.1 J.2.2.2.1 J.2.2.1) (vx_cwSW 3 S.2.2.2.2 gL_law_L_held rfl rfl rfl (by decide +kernel) ⟨Nat.le_of_ble_eq_true rfl, Nat.le_of_ble_eq_true rfl⟩) rfl rfl (Nat.le_of_ble_eq_true rfl) dL_law_1046 ⟨hc, hs⟩ (fun k9 u H locs hp G => ?_)
  refine lv_istore (lv' := [(5, _), (4, _), (3, _), (2, _), (1, _), (0, _)]) S.1 S.2.1 dL_law_1049 hl (by decide) rfl (fun ls hl => ?_)
  rcases hp with ⟨hT, rfl, rfl⟩ | ⟨hT, rfl, rfl⟩
  · obtain ⟨m1, m2, m3, m4, m5, J2⟩ := simA_held J hT
    have G : gS D aC A s _ _ (gk (upd3 (κ) 18 0 0 (κ 3 (tN (xs (4 * n + 1))) 7))) H locs := G
    refine lv_aload_n S.1 S.2.1 dL_law_1051 rfl (lv_at hl 3 rfl) ?_
    refine lv_aload_n S.1 S.2.1 dL_law_1052 rfl (lv_at hl 5 rfl) ?_
    refine lv_iload S.1 S.2.1 dL_law_1053 (lv_at hl 1 rfl) ?_
    refine lv_iconst (v := 1) S.1 S.2.1 dL_law_1055 (by decide) ?_
    refine lv_iadd S.1 S.2.1 dL_law_1056 ?_
    refine g_scr S G hX hbl hbA (show nI (4 * n) + 1 = nI (4 * n + 1) from nI_add (4 * n) 1) (by omega) hL dL_law_1057 ?_
    refine g_cVi S G hF hl 8 (J2.2.1 8 0 (by decide)) (by decide) (c_X7_held l _ _ _ (xs (4 * n + 1)) J2.2.1 m1) (cwV 1 S.2.2.2.2 gL_law_X7_held rfl rfl rfl (by decide +kernel) ⟨Nat.le_of_ble_eq_true rfl, Nat.le_of_ble_eq_true rfl⟩) rfl rfl (Nat.le_of_ble_eq_true rfl) dL_law_1058 ⟨hc, hs⟩ (fun r9 u H locs hp G => ?_)
    obtain ⟨hr9, rfl⟩ := hp
    rw [if_pos m2, m3] at hr9
    rw [m2] at G
    have G : gS D aC A s _ _ (gk (mCan (upd3 (κ) 18 0 0 (κ 3 (tN (xs (4 * n + 1))) 7)) 0)) H locs := G
    subst hr9
    refine lv_istore (lv' := [(6, _), (5, _), (4, _), (3, _), (2, _), (1, _), (0, _)]) S.1 S.2.1 dL_law_1061 hl (by decide) rfl (fun ls hl => ?_)
    refine lv_aload_n S.1 S.2.1 dL_law_1063 rfl (lv_at hl 4 rfl) ?_
    refine g_cVi S G hF hl 8 (J2.2.1 8 0 (by decide)) (by decide) (c_X7_thrown l _ _ _ J2.2.1) (cwV 0 S.2.2.2.2 gL_law_X7_thrown rfl rfl rfl (by decide +kernel) ⟨Nat.le_of_ble_eq_true rfl, Nat.le_of_ble_eq_true rfl⟩) rfl rfl (Nat.le_of_ble_eq_true rfl) dL_law_1064 ⟨hc, hs⟩ (fun r8 u H locs hp G => ?_)
    obtain ⟨hr8, rfl⟩ := hp
    rw [m4] at hr8
    subst hr8
    have G : gS D aC A s _ _ (gk (mCan (upd3 (κ) 18 0 0 (κ 3 (tN (xs (4 * n + 1))) 7)) 0)) H locs := G
    refine lv_iload S.1 S.2.1 dL_law_1067 (lv_at hl 1 rfl) ?_
    refine lv_icmp_eq (tgt := 1074) S.1 S.2.1 dL_law_1069 (by decide) (fun _ => ?_) (fun cz => absurd rfl cz)
    refine lv_iload S.1 S.2.1 dL_law_1074 (lv_at hl 1 rfl) ?_
    refine lv_if_ne (tgt := 1091) S.1 S.2.1 dL_law_1076 (by decide) (fun cz => absurd rfl cz) (fun _ => ?_)
    refine lv_aload_n S.1 S.2.1 dL_law_1079 rfl (lv_at hl 3 rfl) ?_
    refine lv_iconst (v := 0) S.1 S.2.1 dL_law_1080 (by decide) ?_
    refine k_lald (j := 0) S G 18 J2.2.2.1 rfl rfl rfl rfl (by decide) dL_law_1081 ?_
    refine g_topL (congrArg Int32.toInt64 m5) ?_
    refine lv_iload S.1 S.2.1 dL_law_1082 (lv_at hl 0 rfl) ?_
    refine lv_i2l S.1 S.2.1 dL_law_1084 rfl ?_
    refine W.lcmp S.1 S.2.1 dL_law_1085 ?_
    refine g_top (lg_cmp_self _) ?_
    refine lv_if_eq (tgt := 1091) S.1 S.2.1 dL_law_1086 (by decide) (fun _ => ?_) (fun cz => absurd rfl cz)
    refine lv_goto (tgt := 1579) S.1 S.2.1 dL_law_1091 (by decide) ?_
    exact kk _ _ _ H locs ls J2 G (lv_sub hl [2, 3, 4, 5, 6] rfl)
  · obtain ⟨n1, n2⟩ := simB_held J hT
    have G : gS D aC A s _ _ (gk κ) H locs := G
    refine lv_aload_n S.1 S.2.1 dL_law_1051 rfl (lv_at hl 3 rfl) ?_
    refine lv_aload_n S.1 S.2.1 dL_law_1052 rfl (lv_at hl 5 rfl) ?_
    refine lv_iload S.1 S.2.1 dL_law_1053 (lv_at hl 1 rfl) ?_
    refine lv_iconst (v := 1) S.1 S.2.1 dL_law_1055 (by decide) ?_
    refine lv_iadd S.1 S.2.1 dL_law_1056 ?_
    refine g_scr S G hX hbl hbA (show nI (4 * n) + 1 = nI (4 * n + 1) from nI_add (4 * n) 1) (by omega) hL dL_law_1057 ?_
    refine g_cVi S G hF hl 8 (J.2.1 8 0 (by decide)) (by decide) (c_X7_held l _ _ _ (xs (4 * n + 1)) J.2.1 J.2.2.2.2.2.1) (cwV 1 S.2.2.2.2 gL_law_X7_held rfl rfl rfl (by decide +kernel) ⟨Nat.le_of_ble_eq_true rfl, Nat.le_of_ble_eq_true rfl⟩) rfl rfl (Nat.le_of_ble_eq_true rfl) dL_law_1058 ⟨hc, hs⟩ (fun r9 u H locs hp G => ?_)
    obtain ⟨hr9, rfl⟩ := hp
    rw [if_neg n2] at hr9
    have G : gS D aC A s _ _ (gk (mCan κ (mAskT κ (xs (4 * n + 1))))) H locs := G
    subst hr9
    refine lv_istore (lv' := [(6, _), (5, _), (4, _), (3, _), (2, _), (1, _), (0, _)]) S.1 S.2.1 dL_law_1061 hl (by decide) rfl (fun ls hl => ?_)
    refine lv_aload_n S.1 S.2.1 dL_law_1063 rfl (lv_at hl 4 rfl) ?_
    refine g_cVi S G hF hl 8 (J.2.1 8 0 (by decide)) (by decide) (c_X7_thrown l _ _ _ J.2.1) (cwV 0 S.2.2.2.2 gL_law_X7_thrown rfl rfl rfl (by decide +kernel) ⟨Nat.le_of_ble_eq_true rfl, Nat.le_of_ble_eq_true rfl⟩) rfl rfl (Nat.le_of_ble_eq_true rfl) dL_law_1064 ⟨hc, hs⟩ (fun r8 u H locs hp G => ?_)
    obtain ⟨hr8, rfl⟩ := hp
    rw [mCan, upd3_s, n1] at hr8
    subst hr8
    have G : gS D aC A s _ _ (gk (mCan κ (mAskT κ (xs (4 * n + 1))))) H locs := G
    refine lv_iload S.1 S.2.1 dL_law_1067 (lv_at hl 1 rfl) ?_
    refine lv_icmp_eq (tgt := 1074) S.1 S.2.1 dL_law_1069 (by decide) (fun _ => ?_) (fun cz => absurd rfl cz)
    refine lv_iload S.1 S.2.1 dL_law_1074 (lv_at hl 1 rfl) ?_
    refine lv_if_ne (tgt := 1091) S.1 S.2.1 dL_law_1076 (by decide) (fun _ => ?_) (fun cz => absurd cz (by rw [← n1]; exact n2))
    refine lv_goto (tgt := 1579) S.1 S.2.1 dL_law_1091 (by decide) ?_
    exact kk _ _ _ H locs ls (J.can _) G (lv_sub hl [2, 3, 4, 5, 6] rfl)
set_option maxHeartbeats 4000000 in
set_option maxRecDepth 100000 in
theorem lc_middle {p : Program} {l : Launch} {e : Env} {s : State} {m : MethodId} {below : List Frame} {meth : Method} {c : Code} {H : Heap} {locs : List Loc} {cells slots : Nat} {Q : State → Prop} {ls : Array Slot} {D : va_G} {aC : Nat → ClassId} {A : Nat → Prop} {ids : gIds} {ad : gAd} {κ : gMem} {b L n : Nat} {xs : Nat → Int32} (hlf : l.stackTraces = false) (S : CallFix p m c cL_law 7 s #[Value.ref b] wsL_law RL) (hF : gF A s s.heap) (hX : va_X b L xs s s.heap) (hbl : b < s.heap.size) (hbA : ¬ A b) (hn : 4 * n + 4 ≤ L) (hL : L ≤ 2048) (G : gS D aC A s ids ad (gk κ) H locs) (hl : lv_has ls 7 [(4, .int (nI (4 * n))), (3, .ref (ad 18 0)), (2, .ref (ad 8 0)), (1, .ref (ad 7 0)), (0, .ref b)]) (J : Inv ids κ) (hc : cells + 8 ≤ 601024) (hs : slots + 64 ≤ 7293034)
    (kk : ∀ (ids' : gIds) (ad' : gAd) (κ' : gMem) (H1 : Heap) (locs1 : List Loc) (ls1 : Array Slot), Inv ids' κ' → gS D aC A s ids' ad' (gk κ') H1 locs1 → lv_has ls1 7 [(4, .int (nI (4 * n))), (3, .ref (ad' 18 0)), (2, .ref (ad' 8 0)), (1, .ref (ad' 7 0)), (0, .ref b)] → W p l e room_1 s m #[Value.ref b] below meth c H1 locs1 (cells + 8) (slots + 64) Q (F0 m 1579 ls1 [])) : W p l e room_1 s m #[Value.ref b] below meth c H locs cells slots Q (F0 m 1094 ls []) := by
  have hl : lv_has ls 7 [(4, _), (3, _), (2, _), (1, _), (0, _)] := hl
  refine lv_aload_n S.1 S.2.1 dL_law_1094 rfl (lv_at hl 3 rfl) ?_
  refine lv_aload_n S.1 S.2.1 dL_law_1095 rfl (lv_at hl 4 rfl) ?_
  refine lv_iload S.1 S.2.1 dL_law_1096 (lv_at hl 0 rfl) ?_
  refine lv_iconst (v := 1) S.1 S.2.1 dL_law_1098 (by decide) ?_
  refine lv_iadd S.1 S.2.1 dL_law_1099 ?_
  refine g_scr S G hX hbl hbA (show nI (4 * n) + 1 = nI (4 * n + 1) from nI_add (4 * n) 1) (by omega) hL dL_law_1100 ?_
  refine lv_aload_n S.1 S.2.1 dL_law_1101 rfl (lv_at hl 1 rfl) ?_
  refine g_cSWi S G hF hl (c_L_middle l hlf ids ad κ (xs (4 * n + 1)) J.1 J.2.2.2.1 J.2.2.1) (vx_cwSW 3 S.2.2.2.2 gL_law_L_middle rfl rfl rfl (by decide +kernel) ⟨Nat.le_of_ble_eq_true rfl, Nat.le_of_ble_eq_true rfl⟩) rfl rfl (Nat.le_of_ble_eq_true rfl) dL_law_1102 ⟨hc, hs⟩ (fun k9 u H locs hp G => ?_)
  refine lv_istore (lv' := [(5, _), (4, _), (3, _), (2, _), (1, _), (0, _)]) S.1 S.2.1 dL_law_1105 hl (by decide) rfl (fun ls hl => ?_)
  rcases hp with ⟨hT, rfl, rfl⟩ | ⟨hT, rfl, rfl⟩
  · obtain ⟨m1, m2, m3, m4, m5, J2⟩ := simA_middle J hT
    have G : gS D aC A s _ _ (gk (upd3 (κ) 18 0 0 (sMidA κ (tN (xs (4 * n + 1)))))) H locs := G
    refine lv_aload_n S.1 S.2.1 dL_law_1107 rfl (lv_at hl 3 rfl) ?_
    refine lv_aload_n S.1 S.2.1 dL_law_1108 rfl (lv_at hl 5 rfl) ?_
    refine lv_iload S.1 S.2.1 dL_law_1109 (lv_at hl 1 rfl) ?_
    refine lv_iconst (v := 1) S.1 S.2.1 dL_law_1111 (by decide) ?_
    refine lv_iadd S.1 S.2.1 dL_law_1112 ?_
    refine g_scr S G hX hbl hbA (show nI (4 * n) + 1 = nI (4 * n + 1) from nI_add (4 * n) 1) (by omega) hL dL_law_1113 ?_
    refine g_cVi S G hF hl 8 (J2.2.1 8 0 (by decide)) (by decide) (c_X7_middle l _ _ _ (xs (4 * n + 1)) J2.2.1 m1) (cwV 1 S.2.2.2.2 gL_law_X7_middle rfl rfl rfl (by decide +kernel) ⟨Nat.le_of_ble_eq_true rfl, Nat.le_of_ble_eq_true rfl⟩) rfl rfl (Nat.le_of_ble_eq_true rfl) dL_law_1114 ⟨hc, hs⟩ (fun r9 u H locs hp G => ?_)
    obtain ⟨hr9, rfl⟩ := hp
    rw [if_pos m2, m3] at hr9
    rw [m2] at G
    have G : gS D aC A s _ _ (gk (mCan (upd3 (κ) 18 0 0 (sMidA κ (tN (xs (4 * n + 1))))) 0)) H locs := G
    subst hr9
    refine lv_istore (lv' := [(6, _), (5, _), (4, _), (3, _), (2, _), (1, _), (0, _)]) S.1 S.2.1 dL_law_1117 hl (by decide) rfl (fun ls hl => ?_)
    refine lv_aload_n S.1 S.2.1 dL_law_1119 rfl (lv_at hl 4 rfl) ?_
    refine g_cVi S G hF hl 8 (J2.2.1 8 0 (by decide)) (by decide) (c_X7_thrown l _ _ _ J2.2.1) (cwV 0 S.2.2.2.2 gL_law_X7_thrown rfl rfl rfl (by decide +kernel) ⟨Nat.le_of_ble_eq_true rfl, Nat.le_of_ble_eq_true rfl⟩) rfl rfl (Nat.le_of_ble_eq_true rfl) dL_law_1120 ⟨hc, hs⟩ (fun r8 u H locs hp G => ?_)
    obtain ⟨hr8, rfl⟩ := hp
    rw [m4] at hr8
    subst hr8
    have G : gS D aC A s _ _ (gk (mCan (upd3 (κ) 18 0 0 (sMidA κ (tN (xs (4 * n + 1))))) 0)) H locs := G
    refine lv_iload S.1 S.2.1 dL_law_1123 (lv_at hl 1 rfl) ?_
    refine lv_icmp_eq (tgt := 1130) S.1 S.2.1 dL_law_1125 (by decide) (fun _ => ?_) (fun cz => absurd rfl cz)
    refine lv_iload S.1 S.2.1 dL_law_1130 (lv_at hl 1 rfl) ?_
    refine lv_if_ne (tgt := 1147) S.1 S.2.1 dL_law_1132 (by decide) (fun cz => absurd rfl cz) (fun _ => ?_)
    refine lv_aload_n S.1 S.2.1 dL_law_1135 rfl (lv_at hl 3 rfl) ?_
    refine lv_iconst (v := 0) S.1 S.2.1 dL_law_1136 (by decide) ?_
    refine k_lald (j := 0) S G 18 J2.2.2.1 rfl rfl rfl rfl (by decide) dL_law_1137 ?_
    refine g_topL (congrArg Int32.toInt64 m5) ?_
    refine lv_iload S.1 S.2.1 dL_law_1138 (lv_at hl 0 rfl) ?_
    refine lv_i2l S.1 S.2.1 dL_law_1140 rfl ?_
    refine W.lcmp S.1 S.2.1 dL_law_1141 ?_
    refine g_top (lg_cmp_self _) ?_
    refine lv_if_eq (tgt := 1147) S.1 S.2.1 dL_law_1142 (by decide) (fun _ => ?_) (fun cz => absurd rfl cz)
    refine lv_goto (tgt := 1579) S.1 S.2.1 dL_law_1147 (by decide) ?_
    exact kk _ _ _ H locs ls J2 G (lv_sub hl [2, 3, 4, 5, 6] rfl)
  · obtain ⟨n1, n2⟩ := simB_middle J hT
    have G : gS D aC A s _ _ (gk κ) H locs := G
    refine lv_aload_n S.1 S.2.1 dL_law_1107 rfl (lv_at hl 3 rfl) ?_
    refine lv_aload_n S.1 S.2.1 dL_law_1108 rfl (lv_at hl 5 rfl) ?_
    refine lv_iload S.1 S.2.1 dL_law_1109 (lv_at hl 1 rfl) ?_
    refine lv_iconst (v := 1) S.1 S.2.1 dL_law_1111 (by decide) ?_
    refine lv_iadd S.1 S.2.1 dL_law_1112 ?_
    refine g_scr S G hX hbl hbA (show nI (4 * n) + 1 = nI (4 * n + 1) from nI_add (4 * n) 1) (by omega) hL dL_law_1113 ?_
    refine g_cVi S G hF hl 8 (J.2.1 8 0 (by decide)) (by decide) (c_X7_middle l _ _ _ (xs (4 * n + 1)) J.2.1 J.2.2.2.2.2.1) (cwV 1 S.2.2.2.2 gL_law_X7_middle rfl rfl rfl (by decide +kernel) ⟨Nat.le_of_ble_eq_true rfl, Nat.le_of_ble_eq_true rfl⟩) rfl rfl (Nat.le_of_ble_eq_true rfl) dL_law_1114 ⟨hc, hs⟩ (fun r9 u H locs hp G => ?_)
    obtain ⟨hr9, rfl⟩ := hp
    rw [if_neg n2] at hr9
    have G : gS D aC A s _ _ (gk (mCan κ (mAskT κ (xs (4 * n + 1))))) H locs := G
    subst hr9
    refine lv_istore (lv' := [(6, _), (5, _), (4, _), (3, _), (2, _), (1, _), (0, _)]) S.1 S.2.1 dL_law_1117 hl (by decide) rfl (fun ls hl => ?_)
    refine lv_aload_n S.1 S.2.1 dL_law_1119 rfl (lv_at hl 4 rfl) ?_
    refine g_cVi S G hF hl 8 (J.2.1 8 0 (by decide)) (by decide) (c_X7_thrown l _ _ _ J.2.1) (cwV 0 S.2.2.2.2 gL_law_X7_thrown rfl rfl rfl (by decide +kernel) ⟨Nat.le_of_ble_eq_true rfl, Nat.le_of_ble_eq_true rfl⟩) rfl rfl (Nat.le_of_ble_eq_true rfl) dL_law_1120 ⟨hc, hs⟩ (fun r8 u H locs hp G => ?_)
    obtain ⟨hr8, rfl⟩ := hp
    rw [mCan, upd3_s, n1] at hr8
    subst hr8
    have G : gS D aC A s _ _ (gk (mCan κ (mAskT κ (xs (4 * n + 1))))) H locs := G
    refine lv_iload S.1 S.2.1 dL_law_1123 (lv_at hl 1 rfl) ?_
    refine lv_icmp_eq (tgt := 1130) S.1 S.2.1 dL_law_1125 (by decide) (fun _ => ?_) (fun cz => absurd rfl cz)
    refine lv_iload S.1 S.2.1 dL_law_1130 (lv_at hl 1 rfl) ?_
    refine lv_if_ne (tgt := 1147) S.1 S.2.1 dL_law_1132 (by decide) (fun _ => ?_) (fun cz => absurd cz (by rw [← n1]; exact n2))
    refine lv_goto (tgt := 1579) S.1 S.2.1 dL_law_1147 (by decide) ?_
    exact kk _ _ _ H locs ls (J.can _) G (lv_sub hl [2, 3, 4, 5, 6] rfl)
set_option maxHeartbeats 4000000 in
set_option maxRecDepth 100000 in
theorem lc_textAt {p : Program} {l : Launch} {e : Env} {s : State} {m : MethodId} {below : List Frame} {meth : Method} {c : Code} {H : Heap} {locs : List Loc} {cells slots : Nat} {Q : State → Prop} {ls : Array Slot} {D : va_G} {aC : Nat → ClassId} {A : Nat → Prop} {ids : gIds} {ad : gAd} {κ : gMem} {b L n : Nat} {xs : Nat → Int32} (hlf : l.stackTraces = false) (S : CallFix p m c cL_law 7 s #[Value.ref b] wsL_law RL) (hF : gF A s s.heap) (hX : va_X b L xs s s.heap) (hbl : b < s.heap.size) (hbA : ¬ A b) (hn : 4 * n + 4 ≤ L) (hL : L ≤ 2048) (G : gS D aC A s ids ad (gk κ) H locs) (hl : lv_has ls 7 [(4, .int (nI (4 * n))), (3, .ref (ad 18 0)), (2, .ref (ad 8 0)), (1, .ref (ad 7 0)), (0, .ref b)]) (J : Inv ids κ) (hc : cells + 8 ≤ 601024) (hs : slots + 64 ≤ 7293034)
    (kk : ∀ (ids' : gIds) (ad' : gAd) (κ' : gMem) (H1 : Heap) (locs1 : List Loc) (ls1 : Array Slot), Inv ids' κ' → gS D aC A s ids' ad' (gk κ') H1 locs1 → lv_has ls1 7 [(4, .int (nI (4 * n))), (3, .ref (ad' 18 0)), (2, .ref (ad' 8 0)), (1, .ref (ad' 7 0)), (0, .ref b)] → W p l e room_1 s m #[Value.ref b] below meth c H1 locs1 (cells + 8) (slots + 64) Q (F0 m 1579 ls1 [])) : W p l e room_1 s m #[Value.ref b] below meth c H locs cells slots Q (F0 m 1150 ls []) := by
  have hl : lv_has ls 7 [(4, _), (3, _), (2, _), (1, _), (0, _)] := hl
  refine lv_aload_n S.1 S.2.1 dL_law_1150 rfl (lv_at hl 3 rfl) ?_
  refine lv_aload_n S.1 S.2.1 dL_law_1151 rfl (lv_at hl 4 rfl) ?_
  refine lv_iload S.1 S.2.1 dL_law_1152 (lv_at hl 0 rfl) ?_
  refine lv_iconst (v := 1) S.1 S.2.1 dL_law_1154 (by decide) ?_
  refine lv_iadd S.1 S.2.1 dL_law_1155 ?_
  refine g_scr S G hX hbl hbA (show nI (4 * n) + 1 = nI (4 * n + 1) from nI_add (4 * n) 1) (by omega) hL dL_law_1156 ?_
  refine lv_aload_n S.1 S.2.1 dL_law_1157 rfl (lv_at hl 4 rfl) ?_
  refine lv_iload S.1 S.2.1 dL_law_1158 (lv_at hl 0 rfl) ?_
  refine lv_iconst (v := 2) S.1 S.2.1 dL_law_1160 (by decide) ?_
  refine lv_iadd S.1 S.2.1 dL_law_1161 ?_
  refine g_scr S G hX hbl hbA (show nI (4 * n) + 2 = nI (4 * n + 2) from nI_add (4 * n) 2) (by omega) hL dL_law_1162 ?_
  refine lv_aload_n S.1 S.2.1 dL_law_1163 rfl (lv_at hl 1 rfl) ?_
  refine g_cSWi S G hF hl (c_L_textAt l hlf ids ad κ (xs (4 * n + 1)) (xs (4 * n + 2)) J.1 J.2.2.2.1 J.2.2.2.2.1 (inv_tx J) J.2.2.1) (vx_cwSW 4 S.2.2.2.2 gL_law_L_textAt rfl rfl rfl (by decide +kernel) ⟨Nat.le_of_ble_eq_true rfl, Nat.le_of_ble_eq_true rfl⟩) rfl rfl (Nat.le_of_ble_eq_true rfl) dL_law_1164 ⟨hc, hs⟩ (fun k9 u H locs hp G => ?_)
  refine lv_istore (lv' := [(5, _), (4, _), (3, _), (2, _), (1, _), (0, _)]) S.1 S.2.1 dL_law_1167 hl (by decide) rfl (fun ls hl => ?_)
  rcases hp with ⟨hT, rfl, rfl⟩ | ⟨hT, rfl, rfl⟩
  · obtain ⟨m1, m2, m3, m4, m5, J2⟩ := simA_textAt J hT
    have G : gS D aC A s _ _ (gk (upd3 (κ) 18 0 0 (sText κ (tN (xs (4 * n + 1))) (xs (4 * n + 2))))) H locs := G
    refine lv_aload_n S.1 S.2.1 dL_law_1169 rfl (lv_at hl 3 rfl) ?_
    refine lv_aload_n S.1 S.2.1 dL_law_1170 rfl (lv_at hl 5 rfl) ?_
    refine lv_iload S.1 S.2.1 dL_law_1171 (lv_at hl 1 rfl) ?_
    refine lv_iconst (v := 1) S.1 S.2.1 dL_law_1173 (by decide) ?_
    refine lv_iadd S.1 S.2.1 dL_law_1174 ?_
    refine g_scr S G hX hbl hbA (show nI (4 * n) + 1 = nI (4 * n + 1) from nI_add (4 * n) 1) (by omega) hL dL_law_1175 ?_
    refine lv_aload_n S.1 S.2.1 dL_law_1176 rfl (lv_at hl 5 rfl) ?_
    refine lv_iload S.1 S.2.1 dL_law_1177 (lv_at hl 1 rfl) ?_
    refine lv_iconst (v := 2) S.1 S.2.1 dL_law_1179 (by decide) ?_
    refine lv_iadd S.1 S.2.1 dL_law_1180 ?_
    refine g_scr S G hX hbl hbA (show nI (4 * n) + 2 = nI (4 * n + 2) from nI_add (4 * n) 2) (by omega) hL dL_law_1181 ?_
    refine g_cVi S G hF hl 8 (J2.2.1 8 0 (by decide)) (by decide) (c_X7_textAt l _ _ _ (xs (4 * n + 1)) (xs (4 * n + 2)) J2.2.1 m1) (cwV 2 S.2.2.2.2 gL_law_X7_textAt rfl rfl rfl (by decide +kernel) ⟨Nat.le_of_ble_eq_true rfl, Nat.le_of_ble_eq_true rfl⟩) rfl rfl (Nat.le_of_ble_eq_true rfl) dL_law_1182 ⟨hc, hs⟩ (fun r9 u H locs hp G => ?_)
    obtain ⟨hr9, rfl⟩ := hp
    rw [if_pos m2, m3] at hr9
    rw [if_pos m2] at G
    have G : gS D aC A s _ _ (gk (mCan (upd3 (κ) 18 0 0 (sText κ (tN (xs (4 * n + 1))) (xs (4 * n + 2)))) 0)) H locs := G
    subst hr9
    refine lv_istore (lv' := [(6, _), (5, _), (4, _), (3, _), (2, _), (1, _), (0, _)]) S.1 S.2.1 dL_law_1185 hl (by decide) rfl (fun ls hl => ?_)
    refine lv_aload_n S.1 S.2.1 dL_law_1187 rfl (lv_at hl 4 rfl) ?_
    refine g_cVi S G hF hl 8 (J2.2.1 8 0 (by decide)) (by decide) (c_X7_thrown l _ _ _ J2.2.1) (cwV 0 S.2.2.2.2 gL_law_X7_thrown rfl rfl rfl (by decide +kernel) ⟨Nat.le_of_ble_eq_true rfl, Nat.le_of_ble_eq_true rfl⟩) rfl rfl (Nat.le_of_ble_eq_true rfl) dL_law_1188 ⟨hc, hs⟩ (fun r8 u H locs hp G => ?_)
    obtain ⟨hr8, rfl⟩ := hp
    rw [m4] at hr8
    subst hr8
    have G : gS D aC A s _ _ (gk (mCan (upd3 (κ) 18 0 0 (sText κ (tN (xs (4 * n + 1))) (xs (4 * n + 2)))) 0)) H locs := G
    refine lv_iload S.1 S.2.1 dL_law_1191 (lv_at hl 1 rfl) ?_
    refine lv_icmp_eq (tgt := 1198) S.1 S.2.1 dL_law_1193 (by decide) (fun _ => ?_) (fun cz => absurd rfl cz)
    refine lv_iload S.1 S.2.1 dL_law_1198 (lv_at hl 1 rfl) ?_
    refine lv_if_ne (tgt := 1215) S.1 S.2.1 dL_law_1200 (by decide) (fun cz => absurd rfl cz) (fun _ => ?_)
    refine lv_aload_n S.1 S.2.1 dL_law_1203 rfl (lv_at hl 3 rfl) ?_
    refine lv_iconst (v := 0) S.1 S.2.1 dL_law_1204 (by decide) ?_
    refine k_lald (j := 0) S G 18 J2.2.2.1 rfl rfl rfl rfl (by decide) dL_law_1205 ?_
    refine g_topL (congrArg Int32.toInt64 m5) ?_
    refine lv_iload S.1 S.2.1 dL_law_1206 (lv_at hl 0 rfl) ?_
    refine lv_i2l S.1 S.2.1 dL_law_1208 rfl ?_
    refine W.lcmp S.1 S.2.1 dL_law_1209 ?_
    refine g_top (lg_cmp_self _) ?_
    refine lv_if_eq (tgt := 1215) S.1 S.2.1 dL_law_1210 (by decide) (fun _ => ?_) (fun cz => absurd rfl cz)
    refine lv_goto (tgt := 1579) S.1 S.2.1 dL_law_1215 (by decide) ?_
    exact kk _ _ _ H locs ls J2 G (lv_sub hl [2, 3, 4, 5, 6] rfl)
  · obtain ⟨n1, n2⟩ := simB_textAt J hT
    have G : gS D aC A s _ _ (gk κ) H locs := G
    refine lv_aload_n S.1 S.2.1 dL_law_1169 rfl (lv_at hl 3 rfl) ?_
    refine lv_aload_n S.1 S.2.1 dL_law_1170 rfl (lv_at hl 5 rfl) ?_
    refine lv_iload S.1 S.2.1 dL_law_1171 (lv_at hl 1 rfl) ?_
    refine lv_iconst (v := 1) S.1 S.2.1 dL_law_1173 (by decide) ?_
    refine lv_iadd S.1 S.2.1 dL_law_1174 ?_
    refine g_scr S G hX hbl hbA (show nI (4 * n) + 1 = nI (4 * n + 1) from nI_add (4 * n) 1) (by omega) hL dL_law_1175 ?_
    refine lv_aload_n S.1 S.2.1 dL_law_1176 rfl (lv_at hl 5 rfl) ?_
    refine lv_iload S.1 S.2.1 dL_law_1177 (lv_at hl 1 rfl) ?_
    refine lv_iconst (v := 2) S.1 S.2.1 dL_law_1179 (by decide) ?_
    refine lv_iadd S.1 S.2.1 dL_law_1180 ?_
    refine g_scr S G hX hbl hbA (show nI (4 * n) + 2 = nI (4 * n + 2) from nI_add (4 * n) 2) (by omega) hL dL_law_1181 ?_
    refine g_cVi S G hF hl 8 (J.2.1 8 0 (by decide)) (by decide) (c_X7_textAt l _ _ _ (xs (4 * n + 1)) (xs (4 * n + 2)) J.2.1 J.2.2.2.2.2.1) (cwV 2 S.2.2.2.2 gL_law_X7_textAt rfl rfl rfl (by decide +kernel) ⟨Nat.le_of_ble_eq_true rfl, Nat.le_of_ble_eq_true rfl⟩) rfl rfl (Nat.le_of_ble_eq_true rfl) dL_law_1182 ⟨hc, hs⟩ (fun r9 u H locs hp G => ?_)
    obtain ⟨hr9, rfl⟩ := hp
    rw [if_neg n2] at hr9
    rw [if_neg n2] at G
    have G : gS D aC A s _ _ (gk (mCan κ (mTextT κ (xs (4 * n + 1)) (xs (4 * n + 2))))) H locs := G
    subst hr9
    refine lv_istore (lv' := [(6, _), (5, _), (4, _), (3, _), (2, _), (1, _), (0, _)]) S.1 S.2.1 dL_law_1185 hl (by decide) rfl (fun ls hl => ?_)
    refine lv_aload_n S.1 S.2.1 dL_law_1187 rfl (lv_at hl 4 rfl) ?_
    refine g_cVi S G hF hl 8 (J.2.1 8 0 (by decide)) (by decide) (c_X7_thrown l _ _ _ J.2.1) (cwV 0 S.2.2.2.2 gL_law_X7_thrown rfl rfl rfl (by decide +kernel) ⟨Nat.le_of_ble_eq_true rfl, Nat.le_of_ble_eq_true rfl⟩) rfl rfl (Nat.le_of_ble_eq_true rfl) dL_law_1188 ⟨hc, hs⟩ (fun r8 u H locs hp G => ?_)
    obtain ⟨hr8, rfl⟩ := hp
    rw [mCan, upd3_s, n1] at hr8
    subst hr8
    have G : gS D aC A s _ _ (gk (mCan κ (mTextT κ (xs (4 * n + 1)) (xs (4 * n + 2))))) H locs := G
    refine lv_iload S.1 S.2.1 dL_law_1191 (lv_at hl 1 rfl) ?_
    refine lv_icmp_eq (tgt := 1198) S.1 S.2.1 dL_law_1193 (by decide) (fun _ => ?_) (fun cz => absurd rfl cz)
    refine lv_iload S.1 S.2.1 dL_law_1198 (lv_at hl 1 rfl) ?_
    refine lv_if_ne (tgt := 1215) S.1 S.2.1 dL_law_1200 (by decide) (fun _ => ?_) (fun cz => absurd cz (by rw [← n1]; exact n2))
    refine lv_goto (tgt := 1579) S.1 S.2.1 dL_law_1215 (by decide) ?_
    exact kk _ _ _ H locs ls (J.can _) G (lv_sub hl [2, 3, 4, 5, 6] rfl)
set_option maxHeartbeats 4000000 in
set_option maxRecDepth 100000 in
theorem lc_bond {p : Program} {l : Launch} {e : Env} {s : State} {m : MethodId} {below : List Frame} {meth : Method} {c : Code} {H : Heap} {locs : List Loc} {cells slots : Nat} {Q : State → Prop} {ls : Array Slot} {D : va_G} {aC : Nat → ClassId} {A : Nat → Prop} {ids : gIds} {ad : gAd} {κ : gMem} {b L n : Nat} {xs : Nat → Int32} (hlf : l.stackTraces = false) (S : CallFix p m c cL_law 7 s #[Value.ref b] wsL_law RL) (hF : gF A s s.heap) (hX : va_X b L xs s s.heap) (hbl : b < s.heap.size) (hbA : ¬ A b) (hn : 4 * n + 4 ≤ L) (hL : L ≤ 2048) (G : gS D aC A s ids ad (gk κ) H locs) (hl : lv_has ls 7 [(4, .int (nI (4 * n))), (3, .ref (ad 18 0)), (2, .ref (ad 8 0)), (1, .ref (ad 7 0)), (0, .ref b)]) (J : Inv ids κ) (hc : cells + 8 ≤ 601024) (hs : slots + 64 ≤ 7293034)
    (kk : ∀ (ids' : gIds) (ad' : gAd) (κ' : gMem) (H1 : Heap) (locs1 : List Loc) (ls1 : Array Slot), Inv ids' κ' → gS D aC A s ids' ad' (gk κ') H1 locs1 → lv_has ls1 7 [(4, .int (nI (4 * n))), (3, .ref (ad' 18 0)), (2, .ref (ad' 8 0)), (1, .ref (ad' 7 0)), (0, .ref b)] → W p l e room_1 s m #[Value.ref b] below meth c H1 locs1 (cells + 8) (slots + 64) Q (F0 m 1579 ls1 [])) : W p l e room_1 s m #[Value.ref b] below meth c H locs cells slots Q (F0 m 1218 ls []) := by
  have hl : lv_has ls 7 [(4, _), (3, _), (2, _), (1, _), (0, _)] := hl
  refine lv_aload_n S.1 S.2.1 dL_law_1218 rfl (lv_at hl 3 rfl) ?_
  refine lv_aload_n S.1 S.2.1 dL_law_1219 rfl (lv_at hl 4 rfl) ?_
  refine lv_iload S.1 S.2.1 dL_law_1220 (lv_at hl 0 rfl) ?_
  refine lv_iconst (v := 1) S.1 S.2.1 dL_law_1222 (by decide) ?_
  refine lv_iadd S.1 S.2.1 dL_law_1223 ?_
  refine g_scr S G hX hbl hbA (show nI (4 * n) + 1 = nI (4 * n + 1) from nI_add (4 * n) 1) (by omega) hL dL_law_1224 ?_
  refine lv_aload_n S.1 S.2.1 dL_law_1225 rfl (lv_at hl 1 rfl) ?_
  refine g_cSWi S G hF hl (c_L_bond l hlf ids ad κ (xs (4 * n + 1)) J.1 J.2.2.1) (vx_cwSW 3 S.2.2.2.2 gL_law_L_bond rfl rfl rfl (by decide +kernel) ⟨Nat.le_of_ble_eq_true rfl, Nat.le_of_ble_eq_true rfl⟩) rfl rfl (Nat.le_of_ble_eq_true rfl) dL_law_1226 ⟨hc, hs⟩ (fun k9 u H locs hp G => ?_)
  refine lv_istore (lv' := [(5, _), (4, _), (3, _), (2, _), (1, _), (0, _)]) S.1 S.2.1 dL_law_1229 hl (by decide) rfl (fun ls hl => ?_)
  rcases hp with ⟨hT, rfl, rfl⟩ | ⟨hT, rfl, rfl⟩
  · obtain ⟨m1, m2, m3, m4, m5, J2⟩ := simA_bond J hT
    have G : gS D aC A s _ _ (gk (upd3 (κ) 18 0 0 (κ 5 (tN (xs (4 * n + 1))) 3))) H locs := G
    refine lv_aload_n S.1 S.2.1 dL_law_1231 rfl (lv_at hl 3 rfl) ?_
    refine lv_aload_n S.1 S.2.1 dL_law_1232 rfl (lv_at hl 5 rfl) ?_
    refine lv_iload S.1 S.2.1 dL_law_1233 (lv_at hl 1 rfl) ?_
    refine lv_iconst (v := 1) S.1 S.2.1 dL_law_1235 (by decide) ?_
    refine lv_iadd S.1 S.2.1 dL_law_1236 ?_
    refine g_scr S G hX hbl hbA (show nI (4 * n) + 1 = nI (4 * n + 1) from nI_add (4 * n) 1) (by omega) hL dL_law_1237 ?_
    refine g_cVi S G hF hl 8 (J2.2.1 8 0 (by decide)) (by decide) (c_X7_bond l _ _ _ (xs (4 * n + 1)) J2.2.1 m1) (cwV 1 S.2.2.2.2 gL_law_X7_bond rfl rfl rfl (by decide +kernel) ⟨Nat.le_of_ble_eq_true rfl, Nat.le_of_ble_eq_true rfl⟩) rfl rfl (Nat.le_of_ble_eq_true rfl) dL_law_1238 ⟨hc, hs⟩ (fun r9 u H locs hp G => ?_)
    obtain ⟨hr9, rfl⟩ := hp
    rw [if_pos m2, m3] at hr9
    rw [if_pos m2] at G
    have G : gS D aC A s _ _ (gk (mCan (upd3 (κ) 18 0 0 (κ 5 (tN (xs (4 * n + 1))) 3)) 0)) H locs := G
    subst hr9
    refine lv_istore (lv' := [(6, _), (5, _), (4, _), (3, _), (2, _), (1, _), (0, _)]) S.1 S.2.1 dL_law_1241 hl (by decide) rfl (fun ls hl => ?_)
    refine lv_aload_n S.1 S.2.1 dL_law_1243 rfl (lv_at hl 4 rfl) ?_
    refine g_cVi S G hF hl 8 (J2.2.1 8 0 (by decide)) (by decide) (c_X7_thrown l _ _ _ J2.2.1) (cwV 0 S.2.2.2.2 gL_law_X7_thrown rfl rfl rfl (by decide +kernel) ⟨Nat.le_of_ble_eq_true rfl, Nat.le_of_ble_eq_true rfl⟩) rfl rfl (Nat.le_of_ble_eq_true rfl) dL_law_1244 ⟨hc, hs⟩ (fun r8 u H locs hp G => ?_)
    obtain ⟨hr8, rfl⟩ := hp
    rw [m4] at hr8
    subst hr8
    have G : gS D aC A s _ _ (gk (mCan (upd3 (κ) 18 0 0 (κ 5 (tN (xs (4 * n + 1))) 3)) 0)) H locs := G
    refine lv_iload S.1 S.2.1 dL_law_1247 (lv_at hl 1 rfl) ?_
    refine lv_icmp_eq (tgt := 1254) S.1 S.2.1 dL_law_1249 (by decide) (fun _ => ?_) (fun cz => absurd rfl cz)
    refine lv_iload S.1 S.2.1 dL_law_1254 (lv_at hl 1 rfl) ?_
    refine lv_if_ne (tgt := 1271) S.1 S.2.1 dL_law_1256 (by decide) (fun cz => absurd rfl cz) (fun _ => ?_)
    refine lv_aload_n S.1 S.2.1 dL_law_1259 rfl (lv_at hl 3 rfl) ?_
    refine lv_iconst (v := 0) S.1 S.2.1 dL_law_1260 (by decide) ?_
    refine k_lald (j := 0) S G 18 J2.2.2.1 rfl rfl rfl rfl (by decide) dL_law_1261 ?_
    refine g_topL (congrArg Int32.toInt64 m5) ?_
    refine lv_iload S.1 S.2.1 dL_law_1262 (lv_at hl 0 rfl) ?_
    refine lv_i2l S.1 S.2.1 dL_law_1264 rfl ?_
    refine W.lcmp S.1 S.2.1 dL_law_1265 ?_
    refine g_top (lg_cmp_self _) ?_
    refine lv_if_eq (tgt := 1271) S.1 S.2.1 dL_law_1266 (by decide) (fun _ => ?_) (fun cz => absurd rfl cz)
    refine lv_goto (tgt := 1579) S.1 S.2.1 dL_law_1271 (by decide) ?_
    exact kk _ _ _ H locs ls J2 G (lv_sub hl [2, 3, 4, 5, 6] rfl)
  · obtain ⟨n1, n2⟩ := simB_bond J hT
    have G : gS D aC A s _ _ (gk κ) H locs := G
    refine lv_aload_n S.1 S.2.1 dL_law_1231 rfl (lv_at hl 3 rfl) ?_
    refine lv_aload_n S.1 S.2.1 dL_law_1232 rfl (lv_at hl 5 rfl) ?_
    refine lv_iload S.1 S.2.1 dL_law_1233 (lv_at hl 1 rfl) ?_
    refine lv_iconst (v := 1) S.1 S.2.1 dL_law_1235 (by decide) ?_
    refine lv_iadd S.1 S.2.1 dL_law_1236 ?_
    refine g_scr S G hX hbl hbA (show nI (4 * n) + 1 = nI (4 * n + 1) from nI_add (4 * n) 1) (by omega) hL dL_law_1237 ?_
    refine g_cVi S G hF hl 8 (J.2.1 8 0 (by decide)) (by decide) (c_X7_bond l _ _ _ (xs (4 * n + 1)) J.2.1 J.2.2.2.2.2.1) (cwV 1 S.2.2.2.2 gL_law_X7_bond rfl rfl rfl (by decide +kernel) ⟨Nat.le_of_ble_eq_true rfl, Nat.le_of_ble_eq_true rfl⟩) rfl rfl (Nat.le_of_ble_eq_true rfl) dL_law_1238 ⟨hc, hs⟩ (fun r9 u H locs hp G => ?_)
    obtain ⟨hr9, rfl⟩ := hp
    rw [if_neg n2] at hr9
    rw [if_neg n2] at G
    have G : gS D aC A s _ _ (gk (mCan κ (mOneT (xs (4 * n + 1)) 11))) H locs := G
    subst hr9
    refine lv_istore (lv' := [(6, _), (5, _), (4, _), (3, _), (2, _), (1, _), (0, _)]) S.1 S.2.1 dL_law_1241 hl (by decide) rfl (fun ls hl => ?_)
    refine lv_aload_n S.1 S.2.1 dL_law_1243 rfl (lv_at hl 4 rfl) ?_
    refine g_cVi S G hF hl 8 (J.2.1 8 0 (by decide)) (by decide) (c_X7_thrown l _ _ _ J.2.1) (cwV 0 S.2.2.2.2 gL_law_X7_thrown rfl rfl rfl (by decide +kernel) ⟨Nat.le_of_ble_eq_true rfl, Nat.le_of_ble_eq_true rfl⟩) rfl rfl (Nat.le_of_ble_eq_true rfl) dL_law_1244 ⟨hc, hs⟩ (fun r8 u H locs hp G => ?_)
    obtain ⟨hr8, rfl⟩ := hp
    rw [mCan, upd3_s, n1] at hr8
    subst hr8
    have G : gS D aC A s _ _ (gk (mCan κ (mOneT (xs (4 * n + 1)) 11))) H locs := G
    refine lv_iload S.1 S.2.1 dL_law_1247 (lv_at hl 1 rfl) ?_
    refine lv_icmp_eq (tgt := 1254) S.1 S.2.1 dL_law_1249 (by decide) (fun _ => ?_) (fun cz => absurd rfl cz)
    refine lv_iload S.1 S.2.1 dL_law_1254 (lv_at hl 1 rfl) ?_
    refine lv_if_ne (tgt := 1271) S.1 S.2.1 dL_law_1256 (by decide) (fun _ => ?_) (fun cz => absurd cz (by rw [← n1]; exact n2))
    refine lv_goto (tgt := 1579) S.1 S.2.1 dL_law_1271 (by decide) ?_
    exact kk _ _ _ H locs ls (J.can _) G (lv_sub hl [2, 3, 4, 5, 6] rfl)
set_option maxHeartbeats 4000000 in
set_option maxRecDepth 100000 in
theorem lc_bondByCuts {p : Program} {l : Launch} {e : Env} {s : State} {m : MethodId} {below : List Frame} {meth : Method} {c : Code} {H : Heap} {locs : List Loc} {cells slots : Nat} {Q : State → Prop} {ls : Array Slot} {D : va_G} {aC : Nat → ClassId} {A : Nat → Prop} {ids : gIds} {ad : gAd} {κ : gMem} {b L n : Nat} {xs : Nat → Int32} (hlf : l.stackTraces = false) (S : CallFix p m c cL_law 7 s #[Value.ref b] wsL_law RL) (hF : gF A s s.heap) (hX : va_X b L xs s s.heap) (hbl : b < s.heap.size) (hbA : ¬ A b) (hn : 4 * n + 4 ≤ L) (hL : L ≤ 2048) (G : gS D aC A s ids ad (gk κ) H locs) (hl : lv_has ls 7 [(4, .int (nI (4 * n))), (3, .ref (ad 18 0)), (2, .ref (ad 8 0)), (1, .ref (ad 7 0)), (0, .ref b)]) (J : Inv ids κ) (hc : cells + 8 ≤ 601024) (hs : slots + 64 ≤ 7293034)
    (kk : ∀ (ids' : gIds) (ad' : gAd) (κ' : gMem) (H1 : Heap) (locs1 : List Loc) (ls1 : Array Slot), Inv ids' κ' → gS D aC A s ids' ad' (gk κ') H1 locs1 → lv_has ls1 7 [(4, .int (nI (4 * n))), (3, .ref (ad' 18 0)), (2, .ref (ad' 8 0)), (1, .ref (ad' 7 0)), (0, .ref b)] → W p l e room_1 s m #[Value.ref b] below meth c H1 locs1 (cells + 8) (slots + 64) Q (F0 m 1579 ls1 [])) : W p l e room_1 s m #[Value.ref b] below meth c H locs cells slots Q (F0 m 1274 ls []) := by
  have hl : lv_has ls 7 [(4, _), (3, _), (2, _), (1, _), (0, _)] := hl
  refine lv_aload_n S.1 S.2.1 dL_law_1274 rfl (lv_at hl 3 rfl) ?_
  refine lv_aload_n S.1 S.2.1 dL_law_1275 rfl (lv_at hl 4 rfl) ?_
  refine lv_iload S.1 S.2.1 dL_law_1276 (lv_at hl 0 rfl) ?_
  refine lv_iconst (v := 1) S.1 S.2.1 dL_law_1278 (by decide) ?_
  refine lv_iadd S.1 S.2.1 dL_law_1279 ?_
  refine g_scr S G hX hbl hbA (show nI (4 * n) + 1 = nI (4 * n + 1) from nI_add (4 * n) 1) (by omega) hL dL_law_1280 ?_
  refine lv_aload_n S.1 S.2.1 dL_law_1281 rfl (lv_at hl 1 rfl) ?_
  refine g_cSWi S G hF hl (c_L_bondByCuts l hlf ids ad κ (xs (4 * n + 1)) J.1 J.2.2.2.1 J.2.2.1) (vx_cwSW 3 S.2.2.2.2 gL_law_L_bondByCuts rfl rfl rfl (by decide +kernel) ⟨Nat.le_of_ble_eq_true rfl, Nat.le_of_ble_eq_true rfl⟩) rfl rfl (Nat.le_of_ble_eq_true rfl) dL_law_1282 ⟨hc, hs⟩ (fun k9 u H locs hp G => ?_)
  refine lv_istore (lv' := [(5, _), (4, _), (3, _), (2, _), (1, _), (0, _)]) S.1 S.2.1 dL_law_1285 hl (by decide) rfl (fun ls hl => ?_)
  rcases hp with ⟨hT, rfl, rfl⟩ | ⟨hT, rfl, rfl⟩
  · obtain ⟨m1, m2, m3, m4, m5, J2⟩ := simA_bondByCuts J hT
    have G : gS D aC A s _ _ (gk (upd3 (κ) 18 0 0 (sCuts κ (tN (xs (4 * n + 1))) (tN (κ 7 0 4))))) H locs := G
    refine lv_aload_n S.1 S.2.1 dL_law_1287 rfl (lv_at hl 3 rfl) ?_
    refine lv_aload_n S.1 S.2.1 dL_law_1288 rfl (lv_at hl 5 rfl) ?_
    refine lv_iload S.1 S.2.1 dL_law_1289 (lv_at hl 1 rfl) ?_
    refine lv_iconst (v := 1) S.1 S.2.1 dL_law_1291 (by decide) ?_
    refine lv_iadd S.1 S.2.1 dL_law_1292 ?_
    refine g_scr S G hX hbl hbA (show nI (4 * n) + 1 = nI (4 * n + 1) from nI_add (4 * n) 1) (by omega) hL dL_law_1293 ?_
    refine g_cVi S G hF hl 8 (J2.2.1 8 0 (by decide)) (by decide) (c_X7_bondByCuts l _ _ _ (xs (4 * n + 1)) J2.2.1 m1) (cwV 1 S.2.2.2.2 gL_law_X7_bondByCuts rfl rfl rfl (by decide +kernel) ⟨Nat.le_of_ble_eq_true rfl, Nat.le_of_ble_eq_true rfl⟩) rfl rfl (Nat.le_of_ble_eq_true rfl) dL_law_1294 ⟨hc, hs⟩ (fun r9 u H locs hp G => ?_)
    obtain ⟨hr9, rfl⟩ := hp
    rw [if_pos m2, m3] at hr9
    rw [if_pos m2] at G
    have G : gS D aC A s _ _ (gk (mCan (upd3 (κ) 18 0 0 (sCuts κ (tN (xs (4 * n + 1))) (tN (κ 7 0 4)))) 0)) H locs := G
    subst hr9
    refine lv_istore (lv' := [(6, _), (5, _), (4, _), (3, _), (2, _), (1, _), (0, _)]) S.1 S.2.1 dL_law_1297 hl (by decide) rfl (fun ls hl => ?_)
    refine lv_aload_n S.1 S.2.1 dL_law_1299 rfl (lv_at hl 4 rfl) ?_
    refine g_cVi S G hF hl 8 (J2.2.1 8 0 (by decide)) (by decide) (c_X7_thrown l _ _ _ J2.2.1) (cwV 0 S.2.2.2.2 gL_law_X7_thrown rfl rfl rfl (by decide +kernel) ⟨Nat.le_of_ble_eq_true rfl, Nat.le_of_ble_eq_true rfl⟩) rfl rfl (Nat.le_of_ble_eq_true rfl) dL_law_1300 ⟨hc, hs⟩ (fun r8 u H locs hp G => ?_)
    obtain ⟨hr8, rfl⟩ := hp
    rw [m4] at hr8
    subst hr8
    have G : gS D aC A s _ _ (gk (mCan (upd3 (κ) 18 0 0 (sCuts κ (tN (xs (4 * n + 1))) (tN (κ 7 0 4)))) 0)) H locs := G
    refine lv_iload S.1 S.2.1 dL_law_1303 (lv_at hl 1 rfl) ?_
    refine lv_icmp_eq (tgt := 1310) S.1 S.2.1 dL_law_1305 (by decide) (fun _ => ?_) (fun cz => absurd rfl cz)
    refine lv_iload S.1 S.2.1 dL_law_1310 (lv_at hl 1 rfl) ?_
    refine lv_if_ne (tgt := 1327) S.1 S.2.1 dL_law_1312 (by decide) (fun cz => absurd rfl cz) (fun _ => ?_)
    refine lv_aload_n S.1 S.2.1 dL_law_1315 rfl (lv_at hl 3 rfl) ?_
    refine lv_iconst (v := 0) S.1 S.2.1 dL_law_1316 (by decide) ?_
    refine k_lald (j := 0) S G 18 J2.2.2.1 rfl rfl rfl rfl (by decide) dL_law_1317 ?_
    refine g_topL (congrArg Int32.toInt64 m5) ?_
    refine lv_iload S.1 S.2.1 dL_law_1318 (lv_at hl 0 rfl) ?_
    refine lv_i2l S.1 S.2.1 dL_law_1320 rfl ?_
    refine W.lcmp S.1 S.2.1 dL_law_1321 ?_
    refine g_top (lg_cmp_self _) ?_
    refine lv_if_eq (tgt := 1327) S.1 S.2.1 dL_law_1322 (by decide) (fun _ => ?_) (fun cz => absurd rfl cz)
    refine lv_goto (tgt := 1579) S.1 S.2.1 dL_law_1327 (by decide) ?_
    exact kk _ _ _ H locs ls J2 G (lv_sub hl [2, 3, 4, 5, 6] rfl)
  · obtain ⟨n1, n2⟩ := simB_bondByCuts J hT
    have G : gS D aC A s _ _ (gk κ) H locs := G
    refine lv_aload_n S.1 S.2.1 dL_law_1287 rfl (lv_at hl 3 rfl) ?_
    refine lv_aload_n S.1 S.2.1 dL_law_1288 rfl (lv_at hl 5 rfl) ?_
    refine lv_iload S.1 S.2.1 dL_law_1289 (lv_at hl 1 rfl) ?_
    refine lv_iconst (v := 1) S.1 S.2.1 dL_law_1291 (by decide) ?_
    refine lv_iadd S.1 S.2.1 dL_law_1292 ?_
    refine g_scr S G hX hbl hbA (show nI (4 * n) + 1 = nI (4 * n + 1) from nI_add (4 * n) 1) (by omega) hL dL_law_1293 ?_
    refine g_cVi S G hF hl 8 (J.2.1 8 0 (by decide)) (by decide) (c_X7_bondByCuts l _ _ _ (xs (4 * n + 1)) J.2.1 J.2.2.2.2.2.1) (cwV 1 S.2.2.2.2 gL_law_X7_bondByCuts rfl rfl rfl (by decide +kernel) ⟨Nat.le_of_ble_eq_true rfl, Nat.le_of_ble_eq_true rfl⟩) rfl rfl (Nat.le_of_ble_eq_true rfl) dL_law_1294 ⟨hc, hs⟩ (fun r9 u H locs hp G => ?_)
    obtain ⟨hr9, rfl⟩ := hp
    rw [if_neg n2] at hr9
    rw [if_neg n2] at G
    have G : gS D aC A s _ _ (gk (mCan κ (mOneT (xs (4 * n + 1)) 11))) H locs := G
    subst hr9
    refine lv_istore (lv' := [(6, _), (5, _), (4, _), (3, _), (2, _), (1, _), (0, _)]) S.1 S.2.1 dL_law_1297 hl (by decide) rfl (fun ls hl => ?_)
    refine lv_aload_n S.1 S.2.1 dL_law_1299 rfl (lv_at hl 4 rfl) ?_
    refine g_cVi S G hF hl 8 (J.2.1 8 0 (by decide)) (by decide) (c_X7_thrown l _ _ _ J.2.1) (cwV 0 S.2.2.2.2 gL_law_X7_thrown rfl rfl rfl (by decide +kernel) ⟨Nat.le_of_ble_eq_true rfl, Nat.le_of_ble_eq_true rfl⟩) rfl rfl (Nat.le_of_ble_eq_true rfl) dL_law_1300 ⟨hc, hs⟩ (fun r8 u H locs hp G => ?_)
    obtain ⟨hr8, rfl⟩ := hp
    rw [mCan, upd3_s, n1] at hr8
    subst hr8
    have G : gS D aC A s _ _ (gk (mCan κ (mOneT (xs (4 * n + 1)) 11))) H locs := G
    refine lv_iload S.1 S.2.1 dL_law_1303 (lv_at hl 1 rfl) ?_
    refine lv_icmp_eq (tgt := 1310) S.1 S.2.1 dL_law_1305 (by decide) (fun _ => ?_) (fun cz => absurd rfl cz)
    refine lv_iload S.1 S.2.1 dL_law_1310 (lv_at hl 1 rfl) ?_
    refine lv_if_ne (tgt := 1327) S.1 S.2.1 dL_law_1312 (by decide) (fun _ => ?_) (fun cz => absurd cz (by rw [← n1]; exact n2))
    refine lv_goto (tgt := 1579) S.1 S.2.1 dL_law_1327 (by decide) ?_
    exact kk _ _ _ H locs ls (J.can _) G (lv_sub hl [2, 3, 4, 5, 6] rfl)
set_option maxHeartbeats 4000000 in
set_option maxRecDepth 100000 in
theorem lc_earned {p : Program} {l : Launch} {e : Env} {s : State} {m : MethodId} {below : List Frame} {meth : Method} {c : Code} {H : Heap} {locs : List Loc} {cells slots : Nat} {Q : State → Prop} {ls : Array Slot} {D : va_G} {aC : Nat → ClassId} {A : Nat → Prop} {ids : gIds} {ad : gAd} {κ : gMem} {b L n : Nat} {xs : Nat → Int32} (hlf : l.stackTraces = false) (S : CallFix p m c cL_law 7 s #[Value.ref b] wsL_law RL) (hF : gF A s s.heap) (hX : va_X b L xs s s.heap) (hbl : b < s.heap.size) (hbA : ¬ A b) (hn : 4 * n + 4 ≤ L) (hL : L ≤ 2048) (G : gS D aC A s ids ad (gk κ) H locs) (hl : lv_has ls 7 [(4, .int (nI (4 * n))), (3, .ref (ad 18 0)), (2, .ref (ad 8 0)), (1, .ref (ad 7 0)), (0, .ref b)]) (J : Inv ids κ) (hc : cells + 8 ≤ 601024) (hs : slots + 64 ≤ 7293034)
    (kk : ∀ (ids' : gIds) (ad' : gAd) (κ' : gMem) (H1 : Heap) (locs1 : List Loc) (ls1 : Array Slot), Inv ids' κ' → gS D aC A s ids' ad' (gk κ') H1 locs1 → lv_has ls1 7 [(4, .int (nI (4 * n))), (3, .ref (ad' 18 0)), (2, .ref (ad' 8 0)), (1, .ref (ad' 7 0)), (0, .ref b)] → W p l e room_1 s m #[Value.ref b] below meth c H1 locs1 (cells + 8) (slots + 64) Q (F0 m 1579 ls1 [])) : W p l e room_1 s m #[Value.ref b] below meth c H locs cells slots Q (F0 m 1330 ls []) := by
  have hl : lv_has ls 7 [(4, _), (3, _), (2, _), (1, _), (0, _)] := hl
  refine lv_aload_n S.1 S.2.1 dL_law_1330 rfl (lv_at hl 3 rfl) ?_
  refine lv_aload_n S.1 S.2.1 dL_law_1331 rfl (lv_at hl 4 rfl) ?_
  refine lv_iload S.1 S.2.1 dL_law_1332 (lv_at hl 0 rfl) ?_
  refine lv_iconst (v := 1) S.1 S.2.1 dL_law_1334 (by decide) ?_
  refine lv_iadd S.1 S.2.1 dL_law_1335 ?_
  refine g_scr S G hX hbl hbA (show nI (4 * n) + 1 = nI (4 * n + 1) from nI_add (4 * n) 1) (by omega) hL dL_law_1336 ?_
  refine lv_aload_n S.1 S.2.1 dL_law_1337 rfl (lv_at hl 1 rfl) ?_
  refine g_cSWi S G hF hl (c_L_earned l hlf ids ad κ (xs (4 * n + 1)) J.1 J.2.2.1) (vx_cwSW 3 S.2.2.2.2 gL_law_L_earned rfl rfl rfl (by decide +kernel) ⟨Nat.le_of_ble_eq_true rfl, Nat.le_of_ble_eq_true rfl⟩) rfl rfl (Nat.le_of_ble_eq_true rfl) dL_law_1338 ⟨hc, hs⟩ (fun k9 u H locs hp G => ?_)
  refine lv_istore (lv' := [(5, _), (4, _), (3, _), (2, _), (1, _), (0, _)]) S.1 S.2.1 dL_law_1341 hl (by decide) rfl (fun ls hl => ?_)
  rcases hp with ⟨hT, rfl, rfl⟩ | ⟨hT, rfl, rfl⟩
  · obtain ⟨m1, m2, m3, m4, m5, J2⟩ := simA_earned J hT
    have G : gS D aC A s _ _ (gk (upd3 (κ) 18 0 0 (κ 5 (tN (xs (4 * n + 1))) 4))) H locs := G
    refine lv_aload_n S.1 S.2.1 dL_law_1343 rfl (lv_at hl 3 rfl) ?_
    refine lv_aload_n S.1 S.2.1 dL_law_1344 rfl (lv_at hl 5 rfl) ?_
    refine lv_iload S.1 S.2.1 dL_law_1345 (lv_at hl 1 rfl) ?_
    refine lv_iconst (v := 1) S.1 S.2.1 dL_law_1347 (by decide) ?_
    refine lv_iadd S.1 S.2.1 dL_law_1348 ?_
    refine g_scr S G hX hbl hbA (show nI (4 * n) + 1 = nI (4 * n + 1) from nI_add (4 * n) 1) (by omega) hL dL_law_1349 ?_
    refine g_cVi S G hF hl 8 (J2.2.1 8 0 (by decide)) (by decide) (c_X7_earned l _ _ _ (xs (4 * n + 1)) J2.2.1 m1) (cwV 1 S.2.2.2.2 gL_law_X7_earned rfl rfl rfl (by decide +kernel) ⟨Nat.le_of_ble_eq_true rfl, Nat.le_of_ble_eq_true rfl⟩) rfl rfl (Nat.le_of_ble_eq_true rfl) dL_law_1350 ⟨hc, hs⟩ (fun r9 u H locs hp G => ?_)
    obtain ⟨hr9, rfl⟩ := hp
    rw [if_pos m2, m3] at hr9
    rw [if_pos m2] at G
    have G : gS D aC A s _ _ (gk (mCan (upd3 (κ) 18 0 0 (κ 5 (tN (xs (4 * n + 1))) 4)) 0)) H locs := G
    subst hr9
    refine lv_istore (lv' := [(6, _), (5, _), (4, _), (3, _), (2, _), (1, _), (0, _)]) S.1 S.2.1 dL_law_1353 hl (by decide) rfl (fun ls hl => ?_)
    refine lv_aload_n S.1 S.2.1 dL_law_1355 rfl (lv_at hl 4 rfl) ?_
    refine g_cVi S G hF hl 8 (J2.2.1 8 0 (by decide)) (by decide) (c_X7_thrown l _ _ _ J2.2.1) (cwV 0 S.2.2.2.2 gL_law_X7_thrown rfl rfl rfl (by decide +kernel) ⟨Nat.le_of_ble_eq_true rfl, Nat.le_of_ble_eq_true rfl⟩) rfl rfl (Nat.le_of_ble_eq_true rfl) dL_law_1356 ⟨hc, hs⟩ (fun r8 u H locs hp G => ?_)
    obtain ⟨hr8, rfl⟩ := hp
    rw [m4] at hr8
    subst hr8
    have G : gS D aC A s _ _ (gk (mCan (upd3 (κ) 18 0 0 (κ 5 (tN (xs (4 * n + 1))) 4)) 0)) H locs := G
    refine lv_iload S.1 S.2.1 dL_law_1359 (lv_at hl 1 rfl) ?_
    refine lv_icmp_eq (tgt := 1366) S.1 S.2.1 dL_law_1361 (by decide) (fun _ => ?_) (fun cz => absurd rfl cz)
    refine lv_iload S.1 S.2.1 dL_law_1366 (lv_at hl 1 rfl) ?_
    refine lv_if_ne (tgt := 1383) S.1 S.2.1 dL_law_1368 (by decide) (fun cz => absurd rfl cz) (fun _ => ?_)
    refine lv_aload_n S.1 S.2.1 dL_law_1371 rfl (lv_at hl 3 rfl) ?_
    refine lv_iconst (v := 0) S.1 S.2.1 dL_law_1372 (by decide) ?_
    refine k_lald (j := 0) S G 18 J2.2.2.1 rfl rfl rfl rfl (by decide) dL_law_1373 ?_
    refine g_topL (congrArg Int32.toInt64 m5) ?_
    refine lv_iload S.1 S.2.1 dL_law_1374 (lv_at hl 0 rfl) ?_
    refine lv_i2l S.1 S.2.1 dL_law_1376 rfl ?_
    refine W.lcmp S.1 S.2.1 dL_law_1377 ?_
    refine g_top (lg_cmp_self _) ?_
    refine lv_if_eq (tgt := 1383) S.1 S.2.1 dL_law_1378 (by decide) (fun _ => ?_) (fun cz => absurd rfl cz)
    refine lv_goto (tgt := 1579) S.1 S.2.1 dL_law_1383 (by decide) ?_
    exact kk _ _ _ H locs ls J2 G (lv_sub hl [2, 3, 4, 5, 6] rfl)
  · obtain ⟨n1, n2⟩ := simB_earned J hT
    have G : gS D aC A s _ _ (gk κ) H locs := G
    refine lv_aload_n S.1 S.2.1 dL_law_1343 rfl (lv_at hl 3 rfl) ?_
    refine lv_aload_n S.1 S.2.1 dL_law_1344 rfl (lv_at hl 5 rfl) ?_
    refine lv_iload S.1 S.2.1 dL_law_1345 (lv_at hl 1 rfl) ?_
    refine lv_iconst (v := 1) S.1 S.2.1 dL_law_1347 (by decide) ?_
    refine lv_iadd S.1 S.2.1 dL_law_1348 ?_
    refine g_scr S G hX hbl hbA (show nI (4 * n) + 1 = nI (4 * n + 1) from nI_add (4 * n) 1) (by omega) hL dL_law_1349 ?_
    refine g_cVi S G hF hl 8 (J.2.1 8 0 (by decide)) (by decide) (c_X7_earned l _ _ _ (xs (4 * n + 1)) J.2.1 J.2.2.2.2.2.1) (cwV 1 S.2.2.2.2 gL_law_X7_earned rfl rfl rfl (by decide +kernel) ⟨Nat.le_of_ble_eq_true rfl, Nat.le_of_ble_eq_true rfl⟩) rfl rfl (Nat.le_of_ble_eq_true rfl) dL_law_1350 ⟨hc, hs⟩ (fun r9 u H locs hp G => ?_)
    obtain ⟨hr9, rfl⟩ := hp
    rw [if_neg n2] at hr9
    rw [if_neg n2] at G
    have G : gS D aC A s _ _ (gk (mCan κ (mOneT (xs (4 * n + 1)) 11))) H locs := G
    subst hr9
    refine lv_istore (lv' := [(6, _), (5, _), (4, _), (3, _), (2, _), (1, _), (0, _)]) S.1 S.2.1 dL_law_1353 hl (by decide) rfl (fun ls hl => ?_)
    refine lv_aload_n S.1 S.2.1 dL_law_1355 rfl (lv_at hl 4 rfl) ?_
    refine g_cVi S G hF hl 8 (J.2.1 8 0 (by decide)) (by decide) (c_X7_thrown l _ _ _ J.2.1) (cwV 0 S.2.2.2.2 gL_law_X7_thrown rfl rfl rfl (by decide +kernel) ⟨Nat.le_of_ble_eq_true rfl, Nat.le_of_ble_eq_true rfl⟩) rfl rfl (Nat.le_of_ble_eq_true rfl) dL_law_1356 ⟨hc, hs⟩ (fun r8 u H locs hp G => ?_)
    obtain ⟨hr8, rfl⟩ := hp
    rw [mCan, upd3_s, n1] at hr8
    subst hr8
    have G : gS D aC A s _ _ (gk (mCan κ (mOneT (xs (4 * n + 1)) 11))) H locs := G
    refine lv_iload S.1 S.2.1 dL_law_1359 (lv_at hl 1 rfl) ?_
    refine lv_icmp_eq (tgt := 1366) S.1 S.2.1 dL_law_1361 (by decide) (fun _ => ?_) (fun cz => absurd rfl cz)
    refine lv_iload S.1 S.2.1 dL_law_1366 (lv_at hl 1 rfl) ?_
    refine lv_if_ne (tgt := 1383) S.1 S.2.1 dL_law_1368 (by decide) (fun _ => ?_) (fun cz => absurd cz (by rw [← n1]; exact n2))
    refine lv_goto (tgt := 1579) S.1 S.2.1 dL_law_1383 (by decide) ?_
    exact kk _ _ _ H locs ls (J.can _) G (lv_sub hl [2, 3, 4, 5, 6] rfl)
set_option maxHeartbeats 4000000 in
set_option maxRecDepth 100000 in
theorem lc_mark {p : Program} {l : Launch} {e : Env} {s : State} {m : MethodId} {below : List Frame} {meth : Method} {c : Code} {H : Heap} {locs : List Loc} {cells slots : Nat} {Q : State → Prop} {ls : Array Slot} {D : va_G} {aC : Nat → ClassId} {A : Nat → Prop} {ids : gIds} {ad : gAd} {κ : gMem} {b L n : Nat} {xs : Nat → Int32} (hlf : l.stackTraces = false) (S : CallFix p m c cL_law 7 s #[Value.ref b] wsL_law RL) (hF : gF A s s.heap) (hX : va_X b L xs s s.heap) (hbl : b < s.heap.size) (hbA : ¬ A b) (hn : 4 * n + 4 ≤ L) (hL : L ≤ 2048) (G : gS D aC A s ids ad (gk κ) H locs) (hl : lv_has ls 7 [(4, .int (nI (4 * n))), (3, .ref (ad 18 0)), (2, .ref (ad 8 0)), (1, .ref (ad 7 0)), (0, .ref b)]) (J : Inv ids κ) (hc : cells + 8 ≤ 601024) (hs : slots + 64 ≤ 7293034)
    (kk : ∀ (ids' : gIds) (ad' : gAd) (κ' : gMem) (H1 : Heap) (locs1 : List Loc) (ls1 : Array Slot), Inv ids' κ' → gS D aC A s ids' ad' (gk κ') H1 locs1 → lv_has ls1 7 [(4, .int (nI (4 * n))), (3, .ref (ad' 18 0)), (2, .ref (ad' 8 0)), (1, .ref (ad' 7 0)), (0, .ref b)] → W p l e room_1 s m #[Value.ref b] below meth c H1 locs1 (cells + 8) (slots + 64) Q (F0 m 1579 ls1 [])) : W p l e room_1 s m #[Value.ref b] below meth c H locs cells slots Q (F0 m 1386 ls []) := by
  have hl : lv_has ls 7 [(4, _), (3, _), (2, _), (1, _), (0, _)] := hl
  refine lv_aload_n S.1 S.2.1 dL_law_1386 rfl (lv_at hl 3 rfl) ?_
  refine lv_aload_n S.1 S.2.1 dL_law_1387 rfl (lv_at hl 4 rfl) ?_
  refine lv_iload S.1 S.2.1 dL_law_1388 (lv_at hl 0 rfl) ?_
  refine lv_iconst (v := 1) S.1 S.2.1 dL_law_1390 (by decide) ?_
  refine lv_iadd S.1 S.2.1 dL_law_1391 ?_
  refine g_scr S G hX hbl hbA (show nI (4 * n) + 1 = nI (4 * n + 1) from nI_add (4 * n) 1) (by omega) hL dL_law_1392 ?_
  refine lv_aload_n S.1 S.2.1 dL_law_1393 rfl (lv_at hl 1 rfl) ?_
  refine g_cSWi S G hF hl (c_L_mark l hlf ids ad κ (xs (4 * n + 1)) J.1 J.2.2.2.1 J.2.2.1) (vx_cwSW 3 S.2.2.2.2 gL_law_L_mark rfl rfl rfl (by decide +kernel) ⟨Nat.le_of_ble_eq_true rfl, Nat.le_of_ble_eq_true rfl⟩) rfl rfl (Nat.le_of_ble_eq_true rfl) dL_law_1394 ⟨hc, hs⟩ (fun k9 u H locs hp G => ?_)
  refine lv_istore (lv' := [(5, _), (4, _), (3, _), (2, _), (1, _), (0, _)]) S.1 S.2.1 dL_law_1397 hl (by decide) rfl (fun ls hl => ?_)
  rcases hp with ⟨hT, rfl, rfl⟩ | ⟨hT, rfl, rfl⟩
  · obtain ⟨m1, m2, m3, m4, m5, J2⟩ := simA_mark J hT
    have G : gS D aC A s _ _ (gk (upd3 (κ) 18 0 0 (sMark κ (tN (xs (4 * n + 1))) (tN (κ 7 0 4))))) H locs := G
    refine lv_aload_n S.1 S.2.1 dL_law_1399 rfl (lv_at hl 3 rfl) ?_
    refine lv_aload_n S.1 S.2.1 dL_law_1400 rfl (lv_at hl 5 rfl) ?_
    refine lv_iload S.1 S.2.1 dL_law_1401 (lv_at hl 1 rfl) ?_
    refine lv_iconst (v := 1) S.1 S.2.1 dL_law_1403 (by decide) ?_
    refine lv_iadd S.1 S.2.1 dL_law_1404 ?_
    refine g_scr S G hX hbl hbA (show nI (4 * n) + 1 = nI (4 * n + 1) from nI_add (4 * n) 1) (by omega) hL dL_law_1405 ?_
    refine g_cVi S G hF hl 8 (J2.2.1 8 0 (by decide)) (by decide) (c_X7_mark l _ _ _ (xs (4 * n + 1)) J2.2.1 m1) (cwV 1 S.2.2.2.2 gL_law_X7_mark rfl rfl rfl (by decide +kernel) ⟨Nat.le_of_ble_eq_true rfl, Nat.le_of_ble_eq_true rfl⟩) rfl rfl (Nat.le_of_ble_eq_true rfl) dL_law_1406 ⟨hc, hs⟩ (fun r9 u H locs hp G => ?_)
    obtain ⟨hr9, rfl⟩ := hp
    rw [if_pos m2, m3] at hr9
    rw [if_pos m2] at G
    have G : gS D aC A s _ _ (gk (mCan (upd3 (κ) 18 0 0 (sMark κ (tN (xs (4 * n + 1))) (tN (κ 7 0 4)))) 0)) H locs := G
    subst hr9
    refine lv_istore (lv' := [(6, _), (5, _), (4, _), (3, _), (2, _), (1, _), (0, _)]) S.1 S.2.1 dL_law_1409 hl (by decide) rfl (fun ls hl => ?_)
    refine lv_aload_n S.1 S.2.1 dL_law_1411 rfl (lv_at hl 4 rfl) ?_
    refine g_cVi S G hF hl 8 (J2.2.1 8 0 (by decide)) (by decide) (c_X7_thrown l _ _ _ J2.2.1) (cwV 0 S.2.2.2.2 gL_law_X7_thrown rfl rfl rfl (by decide +kernel) ⟨Nat.le_of_ble_eq_true rfl, Nat.le_of_ble_eq_true rfl⟩) rfl rfl (Nat.le_of_ble_eq_true rfl) dL_law_1412 ⟨hc, hs⟩ (fun r8 u H locs hp G => ?_)
    obtain ⟨hr8, rfl⟩ := hp
    rw [m4] at hr8
    subst hr8
    have G : gS D aC A s _ _ (gk (mCan (upd3 (κ) 18 0 0 (sMark κ (tN (xs (4 * n + 1))) (tN (κ 7 0 4)))) 0)) H locs := G
    refine lv_iload S.1 S.2.1 dL_law_1415 (lv_at hl 1 rfl) ?_
    refine lv_icmp_eq (tgt := 1422) S.1 S.2.1 dL_law_1417 (by decide) (fun _ => ?_) (fun cz => absurd rfl cz)
    refine lv_iload S.1 S.2.1 dL_law_1422 (lv_at hl 1 rfl) ?_
    refine lv_if_ne (tgt := 1439) S.1 S.2.1 dL_law_1424 (by decide) (fun cz => absurd rfl cz) (fun _ => ?_)
    refine lv_aload_n S.1 S.2.1 dL_law_1427 rfl (lv_at hl 3 rfl) ?_
    refine lv_iconst (v := 0) S.1 S.2.1 dL_law_1428 (by decide) ?_
    refine k_lald (j := 0) S G 18 J2.2.2.1 rfl rfl rfl rfl (by decide) dL_law_1429 ?_
    refine g_topL (congrArg Int32.toInt64 m5) ?_
    refine lv_iload S.1 S.2.1 dL_law_1430 (lv_at hl 0 rfl) ?_
    refine lv_i2l S.1 S.2.1 dL_law_1432 rfl ?_
    refine W.lcmp S.1 S.2.1 dL_law_1433 ?_
    refine g_top (lg_cmp_self _) ?_
    refine lv_if_eq (tgt := 1439) S.1 S.2.1 dL_law_1434 (by decide) (fun _ => ?_) (fun cz => absurd rfl cz)
    refine lv_goto (tgt := 1579) S.1 S.2.1 dL_law_1439 (by decide) ?_
    exact kk _ _ _ H locs ls J2 G (lv_sub hl [2, 3, 4, 5, 6] rfl)
  · obtain ⟨n1, n2⟩ := simB_mark J hT
    have G : gS D aC A s _ _ (gk κ) H locs := G
    refine lv_aload_n S.1 S.2.1 dL_law_1399 rfl (lv_at hl 3 rfl) ?_
    refine lv_aload_n S.1 S.2.1 dL_law_1400 rfl (lv_at hl 5 rfl) ?_
    refine lv_iload S.1 S.2.1 dL_law_1401 (lv_at hl 1 rfl) ?_
    refine lv_iconst (v := 1) S.1 S.2.1 dL_law_1403 (by decide) ?_
    refine lv_iadd S.1 S.2.1 dL_law_1404 ?_
    refine g_scr S G hX hbl hbA (show nI (4 * n) + 1 = nI (4 * n + 1) from nI_add (4 * n) 1) (by omega) hL dL_law_1405 ?_
    refine g_cVi S G hF hl 8 (J.2.1 8 0 (by decide)) (by decide) (c_X7_mark l _ _ _ (xs (4 * n + 1)) J.2.1 J.2.2.2.2.2.1) (cwV 1 S.2.2.2.2 gL_law_X7_mark rfl rfl rfl (by decide +kernel) ⟨Nat.le_of_ble_eq_true rfl, Nat.le_of_ble_eq_true rfl⟩) rfl rfl (Nat.le_of_ble_eq_true rfl) dL_law_1406 ⟨hc, hs⟩ (fun r9 u H locs hp G => ?_)
    obtain ⟨hr9, rfl⟩ := hp
    rw [if_neg n2] at hr9
    rw [if_neg n2] at G
    have G : gS D aC A s _ _ (gk (mCan κ (mOneT (xs (4 * n + 1)) 11))) H locs := G
    subst hr9
    refine lv_istore (lv' := [(6, _), (5, _), (4, _), (3, _), (2, _), (1, _), (0, _)]) S.1 S.2.1 dL_law_1409 hl (by decide) rfl (fun ls hl => ?_)
    refine lv_aload_n S.1 S.2.1 dL_law_1411 rfl (lv_at hl 4 rfl) ?_
    refine g_cVi S G hF hl 8 (J.2.1 8 0 (by decide)) (by decide) (c_X7_thrown l _ _ _ J.2.1) (cwV 0 S.2.2.2.2 gL_law_X7_thrown rfl rfl rfl (by decide +kernel) ⟨Nat.le_of_ble_eq_true rfl, Nat.le_of_ble_eq_true rfl⟩) rfl rfl (Nat.le_of_ble_eq_true rfl) dL_law_1412 ⟨hc, hs⟩ (fun r8 u H locs hp G => ?_)
    obtain ⟨hr8, rfl⟩ := hp
    rw [mCan, upd3_s, n1] at hr8
    subst hr8
    have G : gS D aC A s _ _ (gk (mCan κ (mOneT (xs (4 * n + 1)) 11))) H locs := G
    refine lv_iload S.1 S.2.1 dL_law_1415 (lv_at hl 1 rfl) ?_
    refine lv_icmp_eq (tgt := 1422) S.1 S.2.1 dL_law_1417 (by decide) (fun _ => ?_) (fun cz => absurd rfl cz)
    refine lv_iload S.1 S.2.1 dL_law_1422 (lv_at hl 1 rfl) ?_
    refine lv_if_ne (tgt := 1439) S.1 S.2.1 dL_law_1424 (by decide) (fun _ => ?_) (fun cz => absurd cz (by rw [← n1]; exact n2))
    refine lv_goto (tgt := 1579) S.1 S.2.1 dL_law_1439 (by decide) ?_
    exact kk _ _ _ H locs ls (J.can _) G (lv_sub hl [2, 3, 4, 5, 6] rfl)
set_option maxHeartbeats 4000000 in
set_option maxRecDepth 100000 in
theorem lc_purse {p : Program} {l : Launch} {e : Env} {s : State} {m : MethodId} {below : List Frame} {meth : Method} {c : Code} {H : Heap} {locs : List Loc} {cells slots : Nat} {Q : State → Prop} {ls : Array Slot} {D : va_G} {aC : Nat → ClassId} {A : Nat → Prop} {ids : gIds} {ad : gAd} {κ : gMem} {b L n : Nat} {xs : Nat → Int32} (hlf : l.stackTraces = false) (S : CallFix p m c cL_law 7 s #[Value.ref b] wsL_law RL) (hF : gF A s s.heap) (hX : va_X b L xs s s.heap) (hbl : b < s.heap.size) (hbA : ¬ A b) (hn : 4 * n + 4 ≤ L) (hL : L ≤ 2048) (G : gS D aC A s ids ad (gk κ) H locs) (hl : lv_has ls 7 [(4, .int (nI (4 * n))), (3, .ref (ad 18 0)), (2, .ref (ad 8 0)), (1, .ref (ad 7 0)), (0, .ref b)]) (J : Inv ids κ) (hc : cells + 8 ≤ 601024) (hs : slots + 64 ≤ 7293034)
    (kk : ∀ (ids' : gIds) (ad' : gAd) (κ' : gMem) (H1 : Heap) (locs1 : List Loc) (ls1 : Array Slot), Inv ids' κ' → gS D aC A s ids' ad' (gk κ') H1 locs1 → lv_has ls1 7 [(4, .int (nI (4 * n))), (3, .ref (ad' 18 0)), (2, .ref (ad' 8 0)), (1, .ref (ad' 7 0)), (0, .ref b)] → W p l e room_1 s m #[Value.ref b] below meth c H1 locs1 (cells + 8) (slots + 64) Q (F0 m 1579 ls1 [])) : W p l e room_1 s m #[Value.ref b] below meth c H locs cells slots Q (F0 m 1442 ls []) := by
  have hl : lv_has ls 7 [(4, _), (3, _), (2, _), (1, _), (0, _)] := hl
  refine lv_aload_n S.1 S.2.1 dL_law_1442 rfl (lv_at hl 3 rfl) ?_
  refine lv_aload_n S.1 S.2.1 dL_law_1443 rfl (lv_at hl 4 rfl) ?_
  refine lv_iload S.1 S.2.1 dL_law_1444 (lv_at hl 0 rfl) ?_
  refine lv_iconst (v := 1) S.1 S.2.1 dL_law_1446 (by decide) ?_
  refine lv_iadd S.1 S.2.1 dL_law_1447 ?_
  refine g_scr S G hX hbl hbA (show nI (4 * n) + 1 = nI (4 * n + 1) from nI_add (4 * n) 1) (by omega) hL dL_law_1448 ?_
  refine lv_aload_n S.1 S.2.1 dL_law_1449 rfl (lv_at hl 1 rfl) ?_
  refine g_cSWi S G hF hl (c_L_purse l hlf ids ad κ (xs (4 * n + 1)) J.1 J.2.2.1) (vx_cwSW 3 S.2.2.2.2 gL_law_L_purse rfl rfl rfl (by decide +kernel) ⟨Nat.le_of_ble_eq_true rfl, Nat.le_of_ble_eq_true rfl⟩) rfl rfl (Nat.le_of_ble_eq_true rfl) dL_law_1450 ⟨hc, hs⟩ (fun k9 u H locs hp G => ?_)
  refine lv_istore (lv' := [(5, _), (4, _), (3, _), (2, _), (1, _), (0, _)]) S.1 S.2.1 dL_law_1453 hl (by decide) rfl (fun ls hl => ?_)
  rcases hp with ⟨hT, rfl, rfl⟩ | ⟨hT, rfl, rfl⟩
  · obtain ⟨m1, m2, m3, m4, m5, J2⟩ := simA_purse J hT
    have G : gS D aC A s _ _ (gk (upd3 (κ) 18 0 0 (κ 1 (tN (xs (4 * n + 1))) 0))) H locs := G
    refine lv_aload_n S.1 S.2.1 dL_law_1455 rfl (lv_at hl 3 rfl) ?_
    refine lv_aload_n S.1 S.2.1 dL_law_1456 rfl (lv_at hl 5 rfl) ?_
    refine lv_iload S.1 S.2.1 dL_law_1457 (lv_at hl 1 rfl) ?_
    refine lv_iconst (v := 1) S.1 S.2.1 dL_law_1459 (by decide) ?_
    refine lv_iadd S.1 S.2.1 dL_law_1460 ?_
    refine g_scr S G hX hbl hbA (show nI (4 * n) + 1 = nI (4 * n + 1) from nI_add (4 * n) 1) (by omega) hL dL_law_1461 ?_
    refine g_cVi S G hF hl 8 (J2.2.1 8 0 (by decide)) (by decide) (c_X7_purse l _ _ _ (xs (4 * n + 1)) J2.2.1 m1) (cwV 1 S.2.2.2.2 gL_law_X7_purse rfl rfl rfl (by decide +kernel) ⟨Nat.le_of_ble_eq_true rfl, Nat.le_of_ble_eq_true rfl⟩) rfl rfl (Nat.le_of_ble_eq_true rfl) dL_law_1462 ⟨hc, hs⟩ (fun r9 u H locs hp G => ?_)
    obtain ⟨hr9, rfl⟩ := hp
    rw [if_pos m2, m3] at hr9
    rw [if_pos m2] at G
    have G : gS D aC A s _ _ (gk (mCan (upd3 (κ) 18 0 0 (κ 1 (tN (xs (4 * n + 1))) 0)) 0)) H locs := G
    subst hr9
    refine lv_istore (lv' := [(6, _), (5, _), (4, _), (3, _), (2, _), (1, _), (0, _)]) S.1 S.2.1 dL_law_1465 hl (by decide) rfl (fun ls hl => ?_)
    refine lv_aload_n S.1 S.2.1 dL_law_1467 rfl (lv_at hl 4 rfl) ?_
    refine g_cVi S G hF hl 8 (J2.2.1 8 0 (by decide)) (by decide) (c_X7_thrown l _ _ _ J2.2.1) (cwV 0 S.2.2.2.2 gL_law_X7_thrown rfl rfl rfl (by decide +kernel) ⟨Nat.le_of_ble_eq_true rfl, Nat.le_of_ble_eq_true rfl⟩) rfl rfl (Nat.le_of_ble_eq_true rfl) dL_law_1468 ⟨hc, hs⟩ (fun r8 u H locs hp G => ?_)
    obtain ⟨hr8, rfl⟩ := hp
    rw [m4] at hr8
    subst hr8
    have G : gS D aC A s _ _ (gk (mCan (upd3 (κ) 18 0 0 (κ 1 (tN (xs (4 * n + 1))) 0)) 0)) H locs := G
    refine lv_iload S.1 S.2.1 dL_law_1471 (lv_at hl 1 rfl) ?_
    refine lv_icmp_eq (tgt := 1478) S.1 S.2.1 dL_law_1473 (by decide) (fun _ => ?_) (fun cz => absurd rfl cz)
    refine lv_iload S.1 S.2.1 dL_law_1478 (lv_at hl 1 rfl) ?_
    refine lv_if_ne (tgt := 1495) S.1 S.2.1 dL_law_1480 (by decide) (fun cz => absurd rfl cz) (fun _ => ?_)
    refine lv_aload_n S.1 S.2.1 dL_law_1483 rfl (lv_at hl 3 rfl) ?_
    refine lv_iconst (v := 0) S.1 S.2.1 dL_law_1484 (by decide) ?_
    refine k_lald (j := 0) S G 18 J2.2.2.1 rfl rfl rfl rfl (by decide) dL_law_1485 ?_
    refine g_topL (congrArg Int32.toInt64 m5) ?_
    refine lv_iload S.1 S.2.1 dL_law_1486 (lv_at hl 0 rfl) ?_
    refine lv_i2l S.1 S.2.1 dL_law_1488 rfl ?_
    refine W.lcmp S.1 S.2.1 dL_law_1489 ?_
    refine g_top (lg_cmp_self _) ?_
    refine lv_if_eq (tgt := 1495) S.1 S.2.1 dL_law_1490 (by decide) (fun _ => ?_) (fun cz => absurd rfl cz)
    refine lv_goto (tgt := 1579) S.1 S.2.1 dL_law_1495 (by decide) ?_
    exact kk _ _ _ H locs ls J2 G (lv_sub hl [2, 3, 4, 5, 6] rfl)
  · obtain ⟨n1, n2⟩ := simB_purse J hT
    have G : gS D aC A s _ _ (gk κ) H locs := G
    refine lv_aload_n S.1 S.2.1 dL_law_1455 rfl (lv_at hl 3 rfl) ?_
    refine lv_aload_n S.1 S.2.1 dL_law_1456 rfl (lv_at hl 5 rfl) ?_
    refine lv_iload S.1 S.2.1 dL_law_1457 (lv_at hl 1 rfl) ?_
    refine lv_iconst (v := 1) S.1 S.2.1 dL_law_1459 (by decide) ?_
    refine lv_iadd S.1 S.2.1 dL_law_1460 ?_
    refine g_scr S G hX hbl hbA (show nI (4 * n) + 1 = nI (4 * n + 1) from nI_add (4 * n) 1) (by omega) hL dL_law_1461 ?_
    refine g_cVi S G hF hl 8 (J.2.1 8 0 (by decide)) (by decide) (c_X7_purse l _ _ _ (xs (4 * n + 1)) J.2.1 J.2.2.2.2.2.1) (cwV 1 S.2.2.2.2 gL_law_X7_purse rfl rfl rfl (by decide +kernel) ⟨Nat.le_of_ble_eq_true rfl, Nat.le_of_ble_eq_true rfl⟩) rfl rfl (Nat.le_of_ble_eq_true rfl) dL_law_1462 ⟨hc, hs⟩ (fun r9 u H locs hp G => ?_)
    obtain ⟨hr9, rfl⟩ := hp
    rw [if_neg n2] at hr9
    rw [if_neg n2] at G
    have G : gS D aC A s _ _ (gk (mCan κ (mOneT (xs (4 * n + 1)) 5))) H locs := G
    subst hr9
    refine lv_istore (lv' := [(6, _), (5, _), (4, _), (3, _), (2, _), (1, _), (0, _)]) S.1 S.2.1 dL_law_1465 hl (by decide) rfl (fun ls hl => ?_)
    refine lv_aload_n S.1 S.2.1 dL_law_1467 rfl (lv_at hl 4 rfl) ?_
    refine g_cVi S G hF hl 8 (J.2.1 8 0 (by decide)) (by decide) (c_X7_thrown l _ _ _ J.2.1) (cwV 0 S.2.2.2.2 gL_law_X7_thrown rfl rfl rfl (by decide +kernel) ⟨Nat.le_of_ble_eq_true rfl, Nat.le_of_ble_eq_true rfl⟩) rfl rfl (Nat.le_of_ble_eq_true rfl) dL_law_1468 ⟨hc, hs⟩ (fun r8 u H locs hp G => ?_)
    obtain ⟨hr8, rfl⟩ := hp
    rw [mCan, upd3_s, n1] at hr8
    subst hr8
    have G : gS D aC A s _ _ (gk (mCan κ (mOneT (xs (4 * n + 1)) 5))) H locs := G
    refine lv_iload S.1 S.2.1 dL_law_1471 (lv_at hl 1 rfl) ?_
    refine lv_icmp_eq (tgt := 1478) S.1 S.2.1 dL_law_1473 (by decide) (fun _ => ?_) (fun cz => absurd rfl cz)
    refine lv_iload S.1 S.2.1 dL_law_1478 (lv_at hl 1 rfl) ?_
    refine lv_if_ne (tgt := 1495) S.1 S.2.1 dL_law_1480 (by decide) (fun _ => ?_) (fun cz => absurd cz (by rw [← n1]; exact n2))
    refine lv_goto (tgt := 1579) S.1 S.2.1 dL_law_1495 (by decide) ?_
    exact kk _ _ _ H locs ls (J.can _) G (lv_sub hl [2, 3, 4, 5, 6] rfl)
set_option maxHeartbeats 4000000 in
set_option maxRecDepth 100000 in
theorem lc_aside {p : Program} {l : Launch} {e : Env} {s : State} {m : MethodId} {below : List Frame} {meth : Method} {c : Code} {H : Heap} {locs : List Loc} {cells slots : Nat} {Q : State → Prop} {ls : Array Slot} {D : va_G} {aC : Nat → ClassId} {A : Nat → Prop} {ids : gIds} {ad : gAd} {κ : gMem} {b L n : Nat} {xs : Nat → Int32} (hlf : l.stackTraces = false) (S : CallFix p m c cL_law 7 s #[Value.ref b] wsL_law RL) (hF : gF A s s.heap) (hX : va_X b L xs s s.heap) (hbl : b < s.heap.size) (hbA : ¬ A b) (hn : 4 * n + 4 ≤ L) (hL : L ≤ 2048) (G : gS D aC A s ids ad (gk κ) H locs) (hl : lv_has ls 7 [(4, .int (nI (4 * n))), (3, .ref (ad 18 0)), (2, .ref (ad 8 0)), (1, .ref (ad 7 0)), (0, .ref b)]) (J : Inv ids κ) (hc : cells + 8 ≤ 601024) (hs : slots + 64 ≤ 7293034)
    (kk : ∀ (ids' : gIds) (ad' : gAd) (κ' : gMem) (H1 : Heap) (locs1 : List Loc) (ls1 : Array Slot), Inv ids' κ' → gS D aC A s ids' ad' (gk κ') H1 locs1 → lv_has ls1 7 [(4, .int (nI (4 * n))), (3, .ref (ad' 18 0)), (2, .ref (ad' 8 0)), (1, .ref (ad' 7 0)), (0, .ref b)] → W p l e room_1 s m #[Value.ref b] below meth c H1 locs1 (cells + 8) (slots + 64) Q (F0 m 1579 ls1 [])) : W p l e room_1 s m #[Value.ref b] below meth c H locs cells slots Q (F0 m 1498 ls []) := by
  have hl : lv_has ls 7 [(4, _), (3, _), (2, _), (1, _), (0, _)] := hl
  refine lv_aload_n S.1 S.2.1 dL_law_1498 rfl (lv_at hl 3 rfl) ?_
  refine lv_aload_n S.1 S.2.1 dL_law_1499 rfl (lv_at hl 4 rfl) ?_
  refine lv_iload S.1 S.2.1 dL_law_1500 (lv_at hl 0 rfl) ?_
  refine lv_iconst (v := 1) S.1 S.2.1 dL_law_1502 (by decide) ?_
  refine lv_iadd S.1 S.2.1 dL_law_1503 ?_
  refine g_scr S G hX hbl hbA (show nI (4 * n) + 1 = nI (4 * n + 1) from nI_add (4 * n) 1) (by omega) hL dL_law_1504 ?_
  refine lv_aload_n S.1 S.2.1 dL_law_1505 rfl (lv_at hl 4 rfl) ?_
  refine lv_iload S.1 S.2.1 dL_law_1506 (lv_at hl 0 rfl) ?_
  refine lv_iconst (v := 2) S.1 S.2.1 dL_law_1508 (by decide) ?_
  refine lv_iadd S.1 S.2.1 dL_law_1509 ?_
  refine g_scr S G hX hbl hbA (show nI (4 * n) + 2 = nI (4 * n + 2) from nI_add (4 * n) 2) (by omega) hL dL_law_1510 ?_
  refine lv_aload_n S.1 S.2.1 dL_law_1511 rfl (lv_at hl 1 rfl) ?_
  refine g_cSWi S G hF hl (c_L_aside l hlf ids ad κ (xs (4 * n + 1)) (xs (4 * n + 2)) J.1 J.2.2.2.1 J.2.2.1) (vx_cwSW 4 S.2.2.2.2 gL_law_L_aside rfl rfl rfl (by decide +kernel) ⟨Nat.le_of_ble_eq_true rfl, Nat.le_of_ble_eq_true rfl⟩) rfl rfl (Nat.le_of_ble_eq_true rfl) dL_law_1512 ⟨hc, hs⟩ (fun k9 u H locs hp G => ?_)
  refine lv_istore (lv' := [(5, _), (4, _), (3, _), (2, _), (1, _), (0, _)]) S.1 S.2.1 dL_law_1515 hl (by decide) rfl (fun ls hl => ?_)
  rcases hp with ⟨hT, rfl, rfl⟩ | ⟨hT, rfl, rfl⟩
  · obtain ⟨m1, m2, m3, m4, m5, J2⟩ := simA_aside J hT
    have G : gS D aC A s _ _ (gk (upd3 (κ) 18 0 0 (sAside κ (tN (xs (4 * n + 1))) (tN (xs (4 * n + 2)))))) H locs := G
    refine lv_aload_n S.1 S.2.1 dL_law_1517 rfl (lv_at hl 3 rfl) ?_
    refine lv_aload_n S.1 S.2.1 dL_law_1518 rfl (lv_at hl 5 rfl) ?_
    refine lv_iload S.1 S.2.1 dL_law_1519 (lv_at hl 1 rfl) ?_
    refine lv_iconst (v := 1) S.1 S.2.1 dL_law_1521 (by decide) ?_
    refine lv_iadd S.1 S.2.1 dL_law_1522 ?_
    refine g_scr S G hX hbl hbA (show nI (4 * n) + 1 = nI (4 * n + 1) from nI_add (4 * n) 1) (by omega) hL dL_law_1523 ?_
    refine lv_aload_n S.1 S.2.1 dL_law_1524 rfl (lv_at hl 5 rfl) ?_
    refine lv_iload S.1 S.2.1 dL_law_1525 (lv_at hl 1 rfl) ?_
    refine lv_iconst (v := 2) S.1 S.2.1 dL_law_1527 (by decide) ?_
    refine lv_iadd S.1 S.2.1 dL_law_1528 ?_
    refine g_scr S G hX hbl hbA (show nI (4 * n) + 2 = nI (4 * n + 2) from nI_add (4 * n) 2) (by omega) hL dL_law_1529 ?_
    refine g_cVi S G hF hl 8 (J2.2.1 8 0 (by decide)) (by decide) (c_X7_aside l _ _ _ (xs (4 * n + 1)) (xs (4 * n + 2)) J2.2.1 m1) (cwV 2 S.2.2.2.2 gL_law_X7_aside rfl rfl rfl (by decide +kernel) ⟨Nat.le_of_ble_eq_true rfl, Nat.le_of_ble_eq_true rfl⟩) rfl rfl (Nat.le_of_ble_eq_true rfl) dL_law_1530 ⟨hc, hs⟩ (fun r9 u H locs hp G => ?_)
    obtain ⟨hr9, rfl⟩ := hp
    rw [if_pos m2, m3] at hr9
    rw [if_pos m2] at G
    have G : gS D aC A s _ _ (gk (mCan (upd3 (κ) 18 0 0 (sAside κ (tN (xs (4 * n + 1))) (tN (xs (4 * n + 2))))) 0)) H locs := G
    subst hr9
    refine lv_istore (lv' := [(6, _), (5, _), (4, _), (3, _), (2, _), (1, _), (0, _)]) S.1 S.2.1 dL_law_1533 hl (by decide) rfl (fun ls hl => ?_)
    refine lv_aload_n S.1 S.2.1 dL_law_1535 rfl (lv_at hl 4 rfl) ?_
    refine g_cVi S G hF hl 8 (J2.2.1 8 0 (by decide)) (by decide) (c_X7_thrown l _ _ _ J2.2.1) (cwV 0 S.2.2.2.2 gL_law_X7_thrown rfl rfl rfl (by decide +kernel) ⟨Nat.le_of_ble_eq_true rfl, Nat.le_of_ble_eq_true rfl⟩) rfl rfl (Nat.le_of_ble_eq_true rfl) dL_law_1536 ⟨hc, hs⟩ (fun r8 u H locs hp G => ?_)
    obtain ⟨hr8, rfl⟩ := hp
    rw [m4] at hr8
    subst hr8
    have G : gS D aC A s _ _ (gk (mCan (upd3 (κ) 18 0 0 (sAside κ (tN (xs (4 * n + 1))) (tN (xs (4 * n + 2))))) 0)) H locs := G
    refine lv_iload S.1 S.2.1 dL_law_1539 (lv_at hl 1 rfl) ?_
    refine lv_icmp_eq (tgt := 1546) S.1 S.2.1 dL_law_1541 (by decide) (fun _ => ?_) (fun cz => absurd rfl cz)
    refine lv_iload S.1 S.2.1 dL_law_1546 (lv_at hl 1 rfl) ?_
    refine lv_if_ne (tgt := 1563) S.1 S.2.1 dL_law_1548 (by decide) (fun cz => absurd rfl cz) (fun _ => ?_)
    refine lv_aload_n S.1 S.2.1 dL_law_1551 rfl (lv_at hl 3 rfl) ?_
    refine lv_iconst (v := 0) S.1 S.2.1 dL_law_1552 (by decide) ?_
    refine k_lald (j := 0) S G 18 J2.2.2.1 rfl rfl rfl rfl (by decide) dL_law_1553 ?_
    refine g_topL (congrArg Int32.toInt64 m5) ?_
    refine lv_iload S.1 S.2.1 dL_law_1554 (lv_at hl 0 rfl) ?_
    refine lv_i2l S.1 S.2.1 dL_law_1556 rfl ?_
    refine W.lcmp S.1 S.2.1 dL_law_1557 ?_
    refine g_top (lg_cmp_self _) ?_
    refine lv_if_eq (tgt := 1563) S.1 S.2.1 dL_law_1558 (by decide) (fun _ => ?_) (fun cz => absurd rfl cz)
    refine lv_goto (tgt := 1579) S.1 S.2.1 dL_law_1563 (by decide) ?_
    exact kk _ _ _ H locs ls J2 G (lv_sub hl [2, 3, 4, 5, 6] rfl)
  · obtain ⟨n1, n2⟩ := simB_aside J hT
    have G : gS D aC A s _ _ (gk κ) H locs := G
    refine lv_aload_n S.1 S.2.1 dL_law_1517 rfl (lv_at hl 3 rfl) ?_
    refine lv_aload_n S.1 S.2.1 dL_law_1518 rfl (lv_at hl 5 rfl) ?_
    refine lv_iload S.1 S.2.1 dL_law_1519 (lv_at hl 1 rfl) ?_
    refine lv_iconst (v := 1) S.1 S.2.1 dL_law_1521 (by decide) ?_
    refine lv_iadd S.1 S.2.1 dL_law_1522 ?_
    refine g_scr S G hX hbl hbA (show nI (4 * n) + 1 = nI (4 * n + 1) from nI_add (4 * n) 1) (by omega) hL dL_law_1523 ?_
    refine lv_aload_n S.1 S.2.1 dL_law_1524 rfl (lv_at hl 5 rfl) ?_
    refine lv_iload S.1 S.2.1 dL_law_1525 (lv_at hl 1 rfl) ?_
    refine lv_iconst (v := 2) S.1 S.2.1 dL_law_1527 (by decide) ?_
    refine lv_iadd S.1 S.2.1 dL_law_1528 ?_
    refine g_scr S G hX hbl hbA (show nI (4 * n) + 2 = nI (4 * n + 2) from nI_add (4 * n) 2) (by omega) hL dL_law_1529 ?_
    refine g_cVi S G hF hl 8 (J.2.1 8 0 (by decide)) (by decide) (c_X7_aside l _ _ _ (xs (4 * n + 1)) (xs (4 * n + 2)) J.2.1 J.2.2.2.2.2.1) (cwV 2 S.2.2.2.2 gL_law_X7_aside rfl rfl rfl (by decide +kernel) ⟨Nat.le_of_ble_eq_true rfl, Nat.le_of_ble_eq_true rfl⟩) rfl rfl (Nat.le_of_ble_eq_true rfl) dL_law_1530 ⟨hc, hs⟩ (fun r9 u H locs hp G => ?_)
    obtain ⟨hr9, rfl⟩ := hp
    rw [if_neg n2] at hr9
    rw [if_neg n2] at G
    have G : gS D aC A s _ _ (gk (mCan κ (mAsideT (xs (4 * n + 1)) (xs (4 * n + 2))))) H locs := G
    subst hr9
    refine lv_istore (lv' := [(6, _), (5, _), (4, _), (3, _), (2, _), (1, _), (0, _)]) S.1 S.2.1 dL_law_1533 hl (by decide) rfl (fun ls hl => ?_)
    refine lv_aload_n S.1 S.2.1 dL_law_1535 rfl (lv_at hl 4 rfl) ?_
    refine g_cVi S G hF hl 8 (J.2.1 8 0 (by decide)) (by decide) (c_X7_thrown l _ _ _ J.2.1) (cwV 0 S.2.2.2.2 gL_law_X7_thrown rfl rfl rfl (by decide +kernel) ⟨Nat.le_of_ble_eq_true rfl, Nat.le_of_ble_eq_true rfl⟩) rfl rfl (Nat.le_of_ble_eq_true rfl) dL_law_1536 ⟨hc, hs⟩ (fun r8 u H locs hp G => ?_)
    obtain ⟨hr8, rfl⟩ := hp
    rw [mCan, upd3_s, n1] at hr8
    subst hr8
    have G : gS D aC A s _ _ (gk (mCan κ (mAsideT (xs (4 * n + 1)) (xs (4 * n + 2))))) H locs := G
    refine lv_iload S.1 S.2.1 dL_law_1539 (lv_at hl 1 rfl) ?_
    refine lv_icmp_eq (tgt := 1546) S.1 S.2.1 dL_law_1541 (by decide) (fun _ => ?_) (fun cz => absurd rfl cz)
    refine lv_iload S.1 S.2.1 dL_law_1546 (lv_at hl 1 rfl) ?_
    refine lv_if_ne (tgt := 1563) S.1 S.2.1 dL_law_1548 (by decide) (fun _ => ?_) (fun cz => absurd cz (by rw [← n1]; exact n2))
    refine lv_goto (tgt := 1579) S.1 S.2.1 dL_law_1563 (by decide) ?_
    exact kk _ _ _ H locs ls (J.can _) G (lv_sub hl [2, 3, 4, 5, 6] rfl)
set_option maxHeartbeats 4000000 in
set_option maxRecDepth 100000 in
theorem lc_house {p : Program} {l : Launch} {e : Env} {s : State} {m : MethodId} {below : List Frame} {meth : Method} {c : Code} {H : Heap} {locs : List Loc} {cells slots : Nat} {Q : State → Prop} {ls : Array Slot} {D : va_G} {aC : Nat → ClassId} {A : Nat → Prop} {ids : gIds} {ad : gAd} {κ : gMem} {b L n : Nat} {xs : Nat → Int32} (hlf : l.stackTraces = false) (S : CallFix p m c cL_law 7 s #[Value.ref b] wsL_law RL) (hF : gF A s s.heap) (hX : va_X b L xs s s.heap) (hbl : b < s.heap.size) (hbA : ¬ A b) (hn : 4 * n + 4 ≤ L) (hL : L ≤ 2048) (G : gS D aC A s ids ad (gk κ) H locs) (hl : lv_has ls 7 [(4, .int (nI (4 * n))), (3, .ref (ad 18 0)), (2, .ref (ad 8 0)), (1, .ref (ad 7 0)), (0, .ref b)]) (J : Inv ids κ) (hc : cells + 8 ≤ 601024) (hs : slots + 64 ≤ 7293034)
    (kk : ∀ (ids' : gIds) (ad' : gAd) (κ' : gMem) (H1 : Heap) (locs1 : List Loc) (ls1 : Array Slot), Inv ids' κ' → gS D aC A s ids' ad' (gk κ') H1 locs1 → lv_has ls1 7 [(4, .int (nI (4 * n))), (3, .ref (ad' 18 0)), (2, .ref (ad' 8 0)), (1, .ref (ad' 7 0)), (0, .ref b)] → W p l e room_1 s m #[Value.ref b] below meth c H1 locs1 (cells + 8) (slots + 64) Q (F0 m 1579 ls1 [])) : W p l e room_1 s m #[Value.ref b] below meth c H locs cells slots Q (F0 m 1566 ls []) := by
  have hl : lv_has ls 7 [(4, _), (3, _), (2, _), (1, _), (0, _)] := hl
  refine W.widen (k := cells + 8) (n := slots + 64) (by omega) (by omega) ?_
  refine lv_aload_n S.1 S.2.1 dL_law_1566 rfl (lv_at hl 3 rfl) ?_
  refine g_cVi S G hF hl 7 (J.1 7 0 (by decide)) (by decide) (c_X6_house l ids ad κ J.1) (cwV 0 S.2.2.2.2 gL_law_X6_house rfl rfl rfl (by decide +kernel) ⟨Nat.le_of_ble_eq_true rfl, Nat.le_of_ble_eq_true rfl⟩) rfl rfl (Nat.le_of_ble_eq_true rfl) dL_law_1567 ⟨hc, hs⟩ (fun r9 u H locs hp G => ?_)
  obtain ⟨rfl, rfl⟩ := hp
  have G : gS D aC A s _ _ (gk κ) H locs := G
  refine lv_aload_n S.1 S.2.1 dL_law_1570 rfl (lv_at hl 2 rfl) ?_
  refine g_cVi S G hF hl 8 (J.2.1 8 0 (by decide)) (by decide) (c_X7_house l _ _ _ J.2.1) (cwV 0 S.2.2.2.2 gL_law_X7_house rfl rfl rfl (by decide +kernel) ⟨Nat.le_of_ble_eq_true rfl, Nat.le_of_ble_eq_true rfl⟩) rfl rfl (Nat.le_of_ble_eq_true rfl) dL_law_1571 ⟨hc, hs⟩ (fun r8 u H locs hp G => ?_)
  obtain ⟨rfl, rfl⟩ := hp
  have G : gS D aC A s _ _ (gk (mCan κ 0)) H locs := G
  refine lv_icmp_eq (tgt := 1579) S.1 S.2.1 dL_law_1574 (by decide) (fun _ => ?_) (fun cz => absurd J.2.2.2.2.2.2.1.2.2.1 cz)
  exact kk _ _ _ H locs ls (J.can 0) G (lv_sub hl [0, 1, 2, 3, 4] rfl)
