/-! ===== a step of the law ===== -/
theorem PL.to {N B N' B' : Nat} {ids : gIds} {κ κ' : gMem} (J : PL N B ids κ) (J' : CI ids κ') (e : Ev κ κ') (hT : κ' 7 0 6 = κ 7 0 6) (hq : ∀ f i k, 20 ≤ f → κ' f i k = κ f i k) (h1 : N ≤ N') (h2 : B ≤ B') : PL N' B' ids κ' := by
  obtain ⟨J1, J2, J3, J4, J5⟩ := J
  exact ⟨J', J2.ev e (by rw [hT]; exact Nat.le_refl _) (fun q => hq _ _ _ (by decide)) (by rw [hT, hq _ _ _ (by decide)]; exact J2.1) (hq _ _ _ (by decide)) (fun q => hq _ _ _ (by decide)), J3, by rw [e.1]; omega, by rw [hT]; omega⟩
theorem lossT_0 {a n : Nat} (ha : a < 6) (hn : n = 0 ∨ (2 ≤ n ∧ n ≤ 9)) : mSetLossT (nI a) (nI n) = 0 := by
  have e1 : ¬ mIn (nI a) 0 5 = 0 := mIn_n (m := 5) (by omega) (by decide)
  rw [mSetLossT, if_neg e1]
  rcases hn with rfl | ⟨h2, h9⟩
  · rfl
  · have e3 : ¬ mIn (nI n) 2 9 = 0 := mIn_ok (fun z => by have := (nI_ltI (a := n) (b := 2) (by omega) (by decide)).mp z; omega) (not_gt (n := 9) (ixL.nI (by omega) (by decide)) (by decide))
    rw [if_neg e3]; split <;> rfl
theorem loss_nn {ids : gIds} {κ : gMem} {j : Nat} (J : CI ids κ) (hj : j < 6) : ¬ sLost κ j < 0 := by
  obtain ⟨h1, h2, h3, ⟨μ, h4⟩, h5⟩ := J
  obtain ⟨-, -, -, a4, a5, -⟩ := h4.2.1 j hj
  have hr := h4.1.2.2.2.2.2
  rw [sLost]
  split
  · decide
  · rename_i hz
    have hl := a4.2
    have hc := a5.2
    obtain ⟨u, eu⟩ : ∃ z, tN (κ 4 j 2) = z := ⟨_, rfl⟩
    obtain ⟨w, ew⟩ : ∃ z, tN (κ 4 j 3) = z := ⟨_, rfl⟩
    have q2 : κ 4 j 2 = nI u := by rw [← eu]; exact a4.1
    have q3 : κ 4 j 3 = nI w := by rw [← ew]; exact a5.1
    rw [eu] at hl
    rw [ew] at hc
    rw [q2] at hz ⊢
    rw [q3]
    have hz' := nI_pos0 hz
    rw [pk_div (by omega) (by omega) (by omega)]
    exact nI_pos (Nat.lt_of_le_of_lt (Nat.div_le_self _ _) (by omega))
theorem loss_0 {κ : gMem} {j n : Nat} (hn : n ≤ 9) : sLost (sSetLossK κ j (nI n)) j = 0 := by
  have a2 : sSetLossK κ j (nI n) 4 j 2 = nI n := (upd3_k (by decide)).trans upd3_s
  have a3 : sSetLossK κ j (nI n) 4 j 3 = 0 := upd3_s
  rw [sLost, a2, a3]
  split
  · rfl
  · rename_i hz
    have hz' := nI_pos0 hz
    rw [show (0 : Int32) = nI 0 from rfl, pk_div (by omega) (by omega) (by omega), Nat.zero_div]
theorem attT_0 {a b : Nat} (ha : a < 12) (hb : b < 6) : mAttachT (nI a) (nI b) = 0 := by
  have e1 : ¬ mIn (nI a) 0 11 = 0 := mIn_n (m := 11) (by omega) (by decide)
  have e2 : ¬ mIn (nI b) 0 5 = 0 := mIn_n (m := 5) (by omega) (by decide)
  rw [mAttachT, if_neg e1, if_neg e2]
theorem prcT_0 {a n : Nat} (ha : a < 12) (h1 : 1 ≤ n) (h2 : n ≤ 20) : mSetPriceT (nI a) (nI n) = 0 := by
  have e1 : ¬ mIn (nI a) 0 11 = 0 := mIn_n (m := 11) (by omega) (by decide)
  have e3 : ¬ mIn (nI n) 1 20 = 0 := mIn_ok (fun z => by have := (nI_ltI (a := n) (b := 1) (by omega) (by decide)).mp z; omega) (not_gt (n := 20) (ixL.nI (by omega) (by decide)) (by decide))
  rw [mSetPriceT, if_neg e1, if_neg e3]
theorem prc_rng {ids : gIds} {κ : gMem} {j : Nat} (J : CI ids κ) (hj : j < 12) : ¬ κ 5 j 2 ≤ 0 ∧ ¬ 20 < κ 5 j 2 := by
  obtain ⟨h1, h2, h3, ⟨μ, h4⟩, h5⟩ := J
  obtain ⟨-, -, -, a4, a5, -⟩ := h4.2.2.1 j hj
  refine ⟨fun z => ?_, not_gt (n := 20) a4 (by decide)⟩
  rw [a4.1] at z a5
  have := nI_le0 z (by have := a4.2; omega)
  rw [this] at a5
  exact a5 rfl
theorem hangT_at {a b : Nat} (ha : 1 ≤ a) (ha5 : a ≤ 5) (hb : b ≤ 5) : sHangT (nI a) (nI b) = if b < a then 0 else 1 := by
  have e1 : ¬ mIn (nI a) 0 5 = 0 := mIn_n (m := 5) (by omega) (by decide)
  have e2 : ¬ mIn (nI b) 0 5 = 0 := mIn_n (m := 5) (by omega) (by decide)
  rw [sHangT, if_neg e1, if_neg e2, tN_nI (by omega), if_neg (by omega)]
  by_cases h : b < a
  · rw [if_pos h, if_pos ((nI_ltI (by omega) (by omega)).mpr h)]
  · rw [if_neg h, if_neg (fun z => h ((nI_ltI (by omega) (by omega)).mp z))]
theorem topT_at {κ : gMem} {a n : Nat} (ha : a < 12) (h1 : 1 ≤ n) (h2 : n ≤ 20) : sTopUpT κ (nI a) (nI n) = if nI n ≤ κ 5 a 4 then 0 else 3 := by
  have e1 : ¬ mIn (nI a) 0 11 = 0 := mIn_n (m := 11) (by omega) (by decide)
  rw [sTopUpT, if_neg e1, if_pos (show (1 : Int32) ≤ nI n from (nI_leI (a := 1) (b := n) (by decide) (by omega)).mpr h1), tN_nI (by omega)]
theorem advT_0 {κ : gMem} {T n : Nat} (hT : κ 7 0 6 = nI T) (h1 : 1 ≤ n) (h2 : n ≤ 12) (h3 : T ≤ 9000) : sAdvT κ (nI n) = 0 := by
  have e3 : ¬ mIn (nI n) 1 100 = 0 := mIn_ok (fun z => by have := (nI_ltI (a := n) (b := 1) (by omega) (by decide)).mp z; omega) (not_gt (n := 100) (ixL.nI (by omega) (by decide)) (by decide))
  rw [sAdvT, if_neg e3, hT, nI_add, if_pos (show nI (T + n) ≤ (10000 : Int32) from (nI_leI (a := T + n) (b := 10000) (by omega) (by decide)).mpr (by omega))]
theorem PL.adv {N B N' B' T n : Nat} {ids : gIds} {κ : gMem} (J : PL N B ids κ) (hT : κ 7 0 6 = nI T) (h1 : 1 ≤ n) (h2 : n ≤ 12) (h3 : T ≤ 9000) (hN : N ≤ N') (hB : B + 12 ≤ B') :
    PL N' B' ids (sAdvK (upd3 κ 21 0 0 (nI (T + n))) (nI n)) ∧ sAdvK (upd3 κ 21 0 0 (nI (T + n))) (nI n) 7 0 6 = nI (T + n) ∧ sAdvK (upd3 κ 21 0 0 (nI (T + n))) (nI n) 21 0 0 = nI (T + n) := by
  obtain ⟨J1, J2, J3, J4, J5⟩ := J
  obtain ⟨κ2, e2⟩ : ∃ z, upd3 κ 21 0 0 (nI (T + n)) = z := ⟨_, rfl⟩
  have k1 : CI ids κ2 := by rw [← e2]; exact J1.w (Or.inr (Or.inl rfl))
  have ev2 : Ev κ κ2 := by rw [← e2]; exact Ev.same rfl (fun s => rfl) (fun r k _ => rfl)
  have e76 : κ2 7 0 6 = nI T := by rw [← e2]; exact hT
  have e21 : κ2 21 0 0 = nI (T + n) := by rw [← e2, upd3_s]
  have q20 : ∀ r, κ2 20 0 r = κ 20 0 r := fun r => by rw [← e2]; rfl
  have q21 : κ2 21 0 1 = κ 21 0 1 := by rw [← e2]; exact upd3_k (by decide)
  have q22 : ∀ r, κ2 22 0 r = κ 22 0 r := fun r => by rw [← e2]; rfl
  rw [e2]
  obtain ⟨o1, o2, o3⟩ := op_advance k1 (advT_0 e76 h1 h2 h3)
  have hq := eq_advance κ2 (nI n)
  rw [e76, nI_add] at o3
  have p21 : sAdvK κ2 (nI n) 21 0 0 = nI (T + n) := (hq _ _ _ (Or.inr (by decide))).trans e21
  have hTl : tN (κ 7 0 6) = T := by rw [hT, tN_nI (by omega)]
  refine ⟨⟨o1, J2.ev (ev2.tr o2) ?_ (fun r => (hq _ _ _ (Or.inr (by decide))).trans (q20 r)) (p21.trans o3.symm) ((hq _ _ _ (Or.inr (by decide))).trans q21) (fun r => (hq _ _ _ (Or.inr (by decide))).trans (q22 r)), J3, ?_, ?_⟩, o3, p21⟩
  · rw [o3, hTl, tN_nI (by omega)]; omega
  · rw [(ev2.tr o2).1]; omega
  · rw [o3, tN_nI (by omega)]; omega
set_option maxHeartbeats 4000000 in
set_option maxRecDepth 100000 in
theorem c_L_step (l : Launch) (ids : gIds) (ad : gAd) (κ : gMem) (what : Int32) (X Y : Nat) (hlf : l.stackTraces = false) (N B : Nat) (J : PL N B ids κ) (hN : N ≤ 61) (hX : X < 2 ^ 30) (hY : Y < 2 ^ 30) (hB : B ≤ 2000)  : gMi l yL_step wsL_step ({ frames := 10, cells := 24, slots := 192, locals := 198 } : Room) 24 192 [.ref (ad 7 0), .int what, .int (nI X), .int (nI Y), .ref (ad 20 0), .ref (ad 21 0), .ref (ad 22 0)] (ids, ad, gk κ) (fun q u => q = 1 ∧ ∃ (ids' : gIds) (ad' : gAd) (κ' : gMem), u = (ids', ad', gk κ') ∧ PL (N + 1) (B + 12) ids' κ' ∧ ad' 7 0 = ad 7 0 ∧ ad' 20 0 = ad 20 0 ∧ ad' 21 0 = ad 21 0 ∧ ad' 22 0 = ad 22 0) := by
  intro D aC A
  refine g_of (cc := cL_step) (maxL := 12) (ret := (some .boolean)) (by decide +kernel) rfl (Nat.le_of_ble_eq_true rfl) ?_
  intro p e s m below meth c ls S G hF hr hlk hnm hl
  have hl : lv_has ls 12 [(0, _), (1, _), (2, _), (3, _), (4, _), (5, _), (6, _)] := hl
  have hV := J.1.1
  have hW := J.1.2.1
  obtain ⟨h20, h21, h22⟩ := J.2.2.1
  obtain ⟨hn, hn80⟩ := hW.cnt
  have hI := J.1.2.2.1
  obtain ⟨T, eT⟩ : ∃ z, tN (κ 7 0 6) = z := ⟨_, rfl⟩
  obtain ⟨r, er⟩ : ∃ z, tN (κ 7 0 4) = z := ⟨_, rfl⟩
  have hr62 := J.2.2.2.1
  have h01 := J.1.T.2
  have hT7 : κ 7 0 6 = nI T := by rw [← eT]; exact J.1.T.1
  rw [er] at hn hn80 hr62
  rw [eT] at h01
  have hc0 := J.2.1.1
  have hc1 := J.2.1.2.1
  have hB5 := J.2.2.2.2
  rw [eT] at hB5
  refine lv_iload_n S.1 S.2.1 dL_step_0 rfl (lv_at hl 1 rfl) ?_
  refine lv_bipush (v := 8) S.1 S.2.1 dL_step_1 (by decide) ?_
  refine lv_icmp_ge (tgt := 19) S.1 S.2.1 dL_step_3 (by decide) (fun c_3 => ?_) (fun c_3 => ?_)
  · refine lv_iload_n S.1 S.2.1 dL_step_19 rfl (lv_at hl 1 rfl) ?_
    refine lv_bipush (v := 11) S.1 S.2.1 dL_step_20 (by decide) ?_
    refine lv_icmp_ge (tgt := 34) S.1 S.2.1 dL_step_22 (by decide) (fun c_22 => ?_) (fun c_22 => ?_)
    · refine lv_iload_n S.1 S.2.1 dL_step_34 rfl (lv_at hl 1 rfl) ?_
      refine lv_bipush (v := 13) S.1 S.2.1 dL_step_35 (by decide) ?_
      refine lv_icmp_ge (tgt := 58) S.1 S.2.1 dL_step_37 (by decide) (fun c_37 => ?_) (fun c_37 => ?_)
      · refine lv_iload_n S.1 S.2.1 dL_step_58 rfl (lv_at hl 1 rfl) ?_
        refine lv_bipush (v := 18) S.1 S.2.1 dL_step_59 (by decide) ?_
        refine lv_icmp_ge (tgt := 82) S.1 S.2.1 dL_step_61 (by decide) (fun c_61 => ?_) (fun c_61 => ?_)
        · refine lv_iload_n S.1 S.2.1 dL_step_82 rfl (lv_at hl 1 rfl) ?_
          refine lv_bipush (v := 18) S.1 S.2.1 dL_step_83 (by decide) ?_
          refine lv_icmp_ne (tgt := 143) S.1 S.2.1 dL_step_85 (by decide) (fun c_85 => ?_) (fun c_85 => ?_)
          · refine lv_iload_n S.1 S.2.1 dL_step_143 rfl (lv_at hl 1 rfl) ?_
            refine lv_bipush (v := 19) S.1 S.2.1 dL_step_144 (by decide) ?_
            refine lv_icmp_ne (tgt := 248) S.1 S.2.1 dL_step_146 (by decide) (fun c_146 => ?_) (fun c_146 => ?_)
            · refine lv_iload_n S.1 S.2.1 dL_step_248 rfl (lv_at hl 1 rfl) ?_
              refine lv_bipush (v := 20) S.1 S.2.1 dL_step_249 (by decide) ?_
              refine lv_icmp_ne (tgt := 311) S.1 S.2.1 dL_step_251 (by decide) (fun c_251 => ?_) (fun c_251 => ?_)
              · refine lv_iload_n S.1 S.2.1 dL_step_311 rfl (lv_at hl 1 rfl) ?_
                refine lv_bipush (v := 21) S.1 S.2.1 dL_step_312 (by decide) ?_
                refine lv_icmp_ne (tgt := 433) S.1 S.2.1 dL_step_314 (by decide) (fun c_314 => ?_) (fun c_314 => ?_)
                · refine jnN (X := fun n => W p l e (headSpec wsL_step ({ frames := 10, cells := 24, slots := 192, locals := 198 } : Room)).room s m ([.ref (ad 7 0), .int what, .int (nI X), .int (nI Y), .ref (ad 20 0), .ref (ad 21 0), .ref (ad 22 0)] : List Value).toArray below meth c s.heap [] (0) (0) (MQ below (va_Qi (fun q u => q = 1 ∧ ∃ (ids' : gIds) (ad' : gAd) (κ' : gMem), u = (ids', ad', gk κ') ∧ PL (N + 1) (B + 12) ids' κ' ∧ ad' 7 0 = ad 7 0 ∧ ad' 20 0 = ad 20 0 ∧ ad' 21 0 = ad 21 0 ∧ ad' 22 0 = ad 22 0) (gE D aC A) A) ([.ref (ad 7 0), .int what, .int (nI X), .int (nI Y), .ref (ad 20 0), .ref (ad 21 0), .ref (ad 22 0)] : List Value).toArray s 24 192 A) (F0 m 449 ls [.int (nI n)])) (fun n => 1 ≤ n ∧ n ≤ 12) (fun K449 => ?_) ?_
                  · refine lv_iconst (v := 1) S.1 S.2.1 dL_step_433 (by decide) ?_
                    refine lv_iload_n S.1 S.2.1 dL_step_434 rfl (lv_at hl 3 rfl) ?_
                    refine lv_iload_n S.1 S.2.1 dL_step_435 rfl (lv_at hl 3 rfl) ?_
                    refine lv_iconst (v := 5) S.1 S.2.1 dL_step_436 (by decide) ?_
                    refine lv_irem S.1 S.2.1 dL_step_437 (by decide) ?_
                    refine g_top (jrem5 (by omega)) ?_
                    refine lv_if_ne (tgt := 446) S.1 S.2.1 dL_step_438 (by decide) (fun c_438 => ?_) (fun c_438 => ?_)
                    · refine lv_iconst (v := 2) S.1 S.2.1 dL_step_446 (by decide) ?_
                      refine lv_irem S.1 S.2.1 dL_step_447 (by decide) ?_
                      refine g_top (jrem2 (by omega)) ?_
                      refine lv_iadd S.1 S.2.1 dL_step_448 ?_
                      refine g_top (nI_add 1 (Y % 2)) ?_
                      exact K449 (1 + Y % 2) ⟨by omega, by omega⟩
                    · refine lv_bipush (v := 12) S.1 S.2.1 dL_step_441 (by decide) ?_
                      refine lv_goto (tgt := 447) S.1 S.2.1 dL_step_443 (by decide) ?_
                      refine lv_irem S.1 S.2.1 dL_step_447 (by decide) ?_
                      refine g_top (jrem12 (by omega)) ?_
                      refine lv_iadd S.1 S.2.1 dL_step_448 ?_
                      refine g_top (nI_add 1 (Y % 12)) ?_
                      exact K449 (1 + Y % 12) ⟨by omega, by omega⟩
                  · intro n9 hn9
                    refine lv_istore (lv' := [(7, _), (0, _), (1, _), (2, _), (3, _), (4, _), (5, _), (6, _)]) S.1 S.2.1 dL_step_449 hl (by decide) rfl (fun ls hl => ?_)
                    refine lv_aload S.1 S.2.1 dL_step_451 (lv_at hl 6 rfl) ?_
                    refine lv_iconst (v := 0) S.1 S.2.1 dL_step_453 (by decide) ?_
                    refine lv_dup2_11 S.1 S.2.1 dL_step_454 rfl rfl ?_
                    refine k_iald S G 21 h21 rfl rfl rfl rfl (show 0 < 2 by decide) dL_step_455 ?_
                    refine g_top (hc0.trans hT7) ?_
                    refine lv_iload S.1 S.2.1 dL_step_456 (lv_at hl 0 rfl) ?_
                    refine lv_iadd S.1 S.2.1 dL_step_458 ?_
                    refine g_top (nI_add T n9) ?_
                    refine k_iast S G 21 h21 rfl rfl rfl rfl (show 0 < 2 by decide) dL_step_459 (fun H locs G => ?_)
                    have hT1 : ixL (upd3 κ 21 0 0 (nI (T + n9)) 7 0 6) 10001 := J.1.T
                    have hTA := advT_0 (κ := upd3 κ 21 0 0 (nI (T + n9))) hT7 hn9.1 hn9.2 (show T ≤ 9000 by omega)
                    obtain ⟨J2, p76, p21⟩ := J.adv hT7 hn9.1 hn9.2 (show T ≤ 9000 by omega) (Nat.le_succ N) (Nat.le_refl _)
                    refine lv_aload_n S.1 S.2.1 dL_step_460 rfl (lv_at hl 1 rfl) ?_
                    refine lv_iload S.1 S.2.1 dL_step_461 (lv_at hl 0 rfl) ?_
                    refine gx_cVi S G hF hl 7 (hV 7 _ (by first | decide | (show _ < 1; omega))) (by decide) (c_X6_advance l hlf _ _ _ _ hV (hW.upd (f := 21) (i := 0) (k := 0) (x := nI (T + n9)) rfl) hT1) (cwV 1 S.2.2.2.2 gL_step_X6_advance rfl rfl rfl (by decide +kernel) ⟨Nat.le_of_ble_eq_true rfl, Nat.le_of_ble_eq_true rfl⟩) rfl rfl (Nat.le_of_ble_eq_true rfl) dL_step_463 ⟨Nat.le_of_ble_eq_true rfl, Nat.le_of_ble_eq_true rfl⟩ (fun _ _ _ _ _ _ hp _ _ _ _ => (xE_0 hp.1 hTA).elim) (fun r_463 u_463 H locs hp_463 G => ?_)
                    obtain ⟨-, rfl, rfl⟩ := hp_463
                    have G : gS D aC A s _ _ (gk _) H locs := G
                    refine g_top p76 ?_
                    refine lv_aload S.1 S.2.1 dL_step_466 (lv_at hl 6 rfl) ?_
                    refine lv_iconst (v := 0) S.1 S.2.1 dL_step_468 (by decide) ?_
                    refine k_iald S G 21 h21 rfl rfl rfl rfl (show 0 < 2 by decide) dL_step_469 ?_
                    refine g_top p21 ?_
                    refine lv_icmp_ne (tgt := 477) S.1 S.2.1 dL_step_470 (by decide) (fun c_470 => ?_) (fun c_470 => ?_)
                    · exact absurd rfl c_470
                    · refine lv_iconst (v := 1) S.1 S.2.1 dL_step_473 (by decide) ?_
                      refine lv_goto (tgt := 478) S.1 S.2.1 dL_step_474 (by decide) ?_
                      exact g_zret S G hr hlk (by decide) (⟨rfl, ids, ad, _, rfl, J2, rfl, rfl, rfl, rfl⟩) (Nat.le_of_ble_eq_true rfl) (Nat.le_of_ble_eq_true rfl) dL_step_478
                · obtain ⟨t9, et⟩ : ∃ z, X % 12 = z := ⟨_, rfl⟩
                  obtain ⟨n9, en⟩ : ∃ z, 1 + Y % 12 = z := ⟨_, rfl⟩
                  have ht9 : t9 < 12 := by omega
                  have hn9 : 1 ≤ n9 ∧ n9 ≤ 12 := by omega
                  have hTq := topT_at (κ := κ) ht9 hn9.1 (show n9 ≤ 20 by omega)
                  refine lv_iload_n S.1 S.2.1 dL_step_317 rfl (lv_at hl 2 rfl) ?_
                  refine lv_bipush (v := 12) S.1 S.2.1 dL_step_318 (by decide) ?_
                  refine lv_irem S.1 S.2.1 dL_step_320 (by decide) ?_
                  refine g_top ((jrem12 (by omega)).trans (congrArg nI et)) ?_
                  refine lv_istore (lv' := [(7, _), (0, _), (1, _), (2, _), (3, _), (4, _), (5, _), (6, _)]) S.1 S.2.1 dL_step_321 hl (by decide) rfl (fun ls hl => ?_)
                  refine lv_iconst (v := 1) S.1 S.2.1 dL_step_323 (by decide) ?_
                  refine lv_iload_n S.1 S.2.1 dL_step_324 rfl (lv_at hl 4 rfl) ?_
                  refine lv_bipush (v := 12) S.1 S.2.1 dL_step_325 (by decide) ?_
                  refine lv_irem S.1 S.2.1 dL_step_327 (by decide) ?_
                  refine g_top (jrem12 (by omega)) ?_
                  refine lv_iadd S.1 S.2.1 dL_step_328 ?_
                  refine g_top ((nI_add 1 (Y % 12)).trans (congrArg nI en)) ?_
                  refine lv_istore (lv' := [(8, _), (7, _), (0, _), (1, _), (2, _), (3, _), (4, _), (5, _), (6, _)]) S.1 S.2.1 dL_step_329 hl (by decide) rfl (fun ls hl => ?_)
                  refine lv_aload_n S.1 S.2.1 dL_step_331 rfl (lv_at hl 2 rfl) ?_
                  refine lv_iload S.1 S.2.1 dL_step_332 (lv_at hl 1 rfl) ?_
                  refine g_cVi S G hF hl 7 (hV 7 _ (by first | decide | (show _ < 1; omega))) (by decide) (c_X6_earnedk l _ _ _ _ hV ht9) (cwV 1 S.2.2.2.2 gL_step_X6_earned rfl rfl rfl (by decide +kernel) ⟨Nat.le_of_ble_eq_true rfl, Nat.le_of_ble_eq_true rfl⟩) rfl rfl (Nat.le_of_ble_eq_true rfl) dL_step_334 ⟨Nat.le_of_ble_eq_true rfl, Nat.le_of_ble_eq_true rfl⟩ (fun r_334 u_334 H locs hp_334 G => ?_)
                  obtain ⟨rfl, rfl⟩ := hp_334
                  have G : gS D aC A s _ _ (gk _) H locs := G
                  refine lv_istore (lv' := [(9, _), (8, _), (7, _), (0, _), (1, _), (2, _), (3, _), (4, _), (5, _), (6, _)]) S.1 S.2.1 dL_step_337 hl (by decide) rfl (fun ls hl => ?_)
                  refine lv_aload_n S.1 S.2.1 dL_step_339 rfl (lv_at hl 3 rfl) ?_
                  refine lv_iload S.1 S.2.1 dL_step_340 (lv_at hl 2 rfl) ?_
                  refine g_cVi S G hF hl 7 (hV 7 _ (by first | decide | (show _ < 1; omega))) (by decide) (c_X6_bondk l _ _ _ _ hV ht9) (cwV 1 S.2.2.2.2 gL_step_X6_bond rfl rfl rfl (by decide +kernel) ⟨Nat.le_of_ble_eq_true rfl, Nat.le_of_ble_eq_true rfl⟩) rfl rfl (Nat.le_of_ble_eq_true rfl) dL_step_342 ⟨Nat.le_of_ble_eq_true rfl, Nat.le_of_ble_eq_true rfl⟩ (fun r_342 u_342 H locs hp_342 G => ?_)
                  obtain ⟨rfl, rfl⟩ := hp_342
                  have G : gS D aC A s _ _ (gk _) H locs := G
                  refine lv_istore (lv' := [(10, _), (9, _), (8, _), (7, _), (0, _), (1, _), (2, _), (3, _), (4, _), (5, _), (6, _)]) S.1 S.2.1 dL_step_345 hl (by decide) rfl (fun ls hl => ?_)
                  refine lv_aload_n S.1 S.2.1 dL_step_347 rfl (lv_at hl 4 rfl) ?_
                  refine lv_iconst (v := 4) S.1 S.2.1 dL_step_348 (by decide) ?_
                  refine lv_iload S.1 S.2.1 dL_step_349 (lv_at hl 3 rfl) ?_
                  refine lv_iload S.1 S.2.1 dL_step_351 (lv_at hl 2 rfl) ?_
                  refine lv_iconst (v := 0) S.1 S.2.1 dL_step_353 (by decide) ?_
                  by_cases hT : sTopUpT κ (nI t9) (nI n9) = 0
                  · have hno : ¬ sTopUpT κ (nI t9) (nI n9) = 2 := by rw [hT]; decide
                    refine g_cSWi S G hF hl (c_L_asks_topUp l hlf ids ad _ _ _ _ hV hno) (vx_cwSW 5 S.2.2.2.2 gL_step_L_asks rfl rfl rfl (by decide +kernel) ⟨Nat.le_of_ble_eq_true rfl, Nat.le_of_ble_eq_true rfl⟩) rfl rfl (Nat.le_of_ble_eq_true rfl) dL_step_354 ⟨Nat.le_of_ble_eq_true rfl, Nat.le_of_ble_eq_true rfl⟩ (fun r9 u9 H locs hp G => ?_)
                    obtain ⟨rfl, rfl⟩ := or3_0 hp hT
                    have G : gS D aC A s _ _ (gk _) H locs := G
                    rw [tN_nI (show t9 < 2 ^ 31 by omega)] at G
                    obtain ⟨J2, e2, p1, p2⟩ := op_topUp J.1 hT
                    rw [tN_nI (show t9 < 2 ^ 31 by omega)] at J2 e2 p1 p2
                    refine g_top (show _ = κ 5 t9 3 + nI n9 from by rw [tN_nI (show t9 < 2 ^ 31 by omega)]; exact p2) ?_
                    refine lv_istore (lv' := [(11, _), (10, _), (9, _), (8, _), (7, _), (0, _), (1, _), (2, _), (3, _), (4, _), (5, _), (6, _)]) S.1 S.2.1 dL_step_357 hl (by decide) rfl (fun ls hl => ?_)
                    refine lv_iload S.1 S.2.1 dL_step_359 (lv_at hl 2 rfl) ?_
                    refine lv_iload S.1 S.2.1 dL_step_361 (lv_at hl 3 rfl) ?_
                    refine lv_icmp_ge (tgt := 392) S.1 S.2.1 dL_step_363 (by decide) (fun c_363 => ?_) (fun c_363 => ?_)
                    · refine lv_iload S.1 S.2.1 dL_step_392 (lv_at hl 0 rfl) ?_
                      refine lv_iload S.1 S.2.1 dL_step_394 (lv_at hl 1 rfl) ?_
                      refine lv_iload S.1 S.2.1 dL_step_396 (lv_at hl 3 rfl) ?_
                      refine lv_iadd S.1 S.2.1 dL_step_398 ?_
                      refine lv_icmp_ne (tgt := 431) S.1 S.2.1 dL_step_399 (by decide) (fun c_399 => ?_) (fun c_399 => ?_)
                      · exact absurd rfl c_399
                      · refine lv_aload_n S.1 S.2.1 dL_step_402 rfl (lv_at hl 5 rfl) ?_
                        refine lv_iload S.1 S.2.1 dL_step_403 (lv_at hl 4 rfl) ?_
                        refine g_cVi S G hF hl 7 (hV 7 _ (by first | decide | (show _ < 1; omega))) (by decide) (c_X6_earnedk l _ _ _ _ hV ht9) (cwV 1 S.2.2.2.2 gL_step_X6_earned rfl rfl rfl (by decide +kernel) ⟨Nat.le_of_ble_eq_true rfl, Nat.le_of_ble_eq_true rfl⟩) rfl rfl (Nat.le_of_ble_eq_true rfl) dL_step_405 ⟨Nat.le_of_ble_eq_true rfl, Nat.le_of_ble_eq_true rfl⟩ (fun r_405 u_405 H locs hp_405 G => ?_)
                        obtain ⟨rfl, rfl⟩ := hp_405
                        have G : gS D aC A s _ _ (gk _) H locs := G
                        refine g_top (show _ = κ 5 t9 4 - nI n9 from p1) ?_
                        refine lv_iload S.1 S.2.1 dL_step_408 (lv_at hl 2 rfl) ?_
                        refine lv_iload S.1 S.2.1 dL_step_410 (lv_at hl 3 rfl) ?_
                        refine lv_isub S.1 S.2.1 dL_step_412 ?_
                        refine lv_icmp_ne (tgt := 431) S.1 S.2.1 dL_step_413 (by decide) (fun c_413 => ?_) (fun c_413 => ?_)
                        · exact absurd rfl c_413
                        · refine lv_aload_n S.1 S.2.1 dL_step_416 rfl (lv_at hl 5 rfl) ?_
                          refine lv_iload S.1 S.2.1 dL_step_417 (lv_at hl 4 rfl) ?_
                          refine g_cVi S G hF hl 7 (hV 7 _ (by first | decide | (show _ < 1; omega))) (by decide) (c_X6_bondk l _ _ _ _ hV ht9) (cwV 1 S.2.2.2.2 gL_step_X6_bond rfl rfl rfl (by decide +kernel) ⟨Nat.le_of_ble_eq_true rfl, Nat.le_of_ble_eq_true rfl⟩) rfl rfl (Nat.le_of_ble_eq_true rfl) dL_step_419 ⟨Nat.le_of_ble_eq_true rfl, Nat.le_of_ble_eq_true rfl⟩ (fun r_419 u_419 H locs hp_419 G => ?_)
                          obtain ⟨rfl, rfl⟩ := hp_419
                          have G : gS D aC A s _ _ (gk _) H locs := G
                          refine g_top (show _ = κ 5 t9 3 + nI n9 from p2) ?_
                          refine lv_iload S.1 S.2.1 dL_step_422 (lv_at hl 0 rfl) ?_
                          refine lv_icmp_ne (tgt := 431) S.1 S.2.1 dL_step_424 (by decide) (fun c_424 => ?_) (fun c_424 => ?_)
                          · exact absurd rfl c_424
                          · refine lv_iconst (v := 1) S.1 S.2.1 dL_step_427 (by decide) ?_
                            refine lv_goto (tgt := 432) S.1 S.2.1 dL_step_428 (by decide) ?_
                            exact g_zret S G hr hlk (by decide) (⟨rfl, ids, ad, _, rfl, J.to J2 e2 rfl (fun f i k hf => by rw [sTopUpK]; exact (upd3_n (by omega)).trans ((upd3_n (by omega)).trans (upd3_n (by omega)))) (Nat.le_succ N) (Nat.le_add_right _ _), rfl, rfl, rfl, rfl⟩) (Nat.le_of_ble_eq_true rfl) (Nat.le_of_ble_eq_true rfl) dL_step_432
                    · exact absurd (by rw [hTq] at hT; exact Decidable.byContradiction (fun z => absurd (hT.symm.trans (if_neg z)) (by decide))) c_363
                  · have hT3 : sTopUpT κ (nI t9) (nI n9) = 3 := by
                      rw [hTq] at hT ⊢
                      exact if_neg (fun z => hT (if_pos z))
                    have hno : ¬ sTopUpT κ (nI t9) (nI n9) = 2 := by rw [hT3]; decide
                    refine g_cSWi S G hF hl (c_L_asks_topUp l hlf ids ad _ _ _ _ hV hno) (vx_cwSW 5 S.2.2.2.2 gL_step_L_asks rfl rfl rfl (by decide +kernel) ⟨Nat.le_of_ble_eq_true rfl, Nat.le_of_ble_eq_true rfl⟩) rfl rfl (Nat.le_of_ble_eq_true rfl) dL_step_354 ⟨Nat.le_of_ble_eq_true rfl, Nat.le_of_ble_eq_true rfl⟩ (fun r9 u9 H locs hp G => ?_)
                    obtain ⟨rfl, rfl⟩ := or3_3 hp hT3
                    have G : gS D aC A s _ _ (gk _) H locs := G
                    refine lv_istore (lv' := [(11, _), (10, _), (9, _), (8, _), (7, _), (0, _), (1, _), (2, _), (3, _), (4, _), (5, _), (6, _)]) S.1 S.2.1 dL_step_357 hl (by decide) rfl (fun ls hl => ?_)
                    refine lv_iload S.1 S.2.1 dL_step_359 (lv_at hl 2 rfl) ?_
                    refine lv_iload S.1 S.2.1 dL_step_361 (lv_at hl 3 rfl) ?_
                    refine lv_icmp_ge (tgt := 392) S.1 S.2.1 dL_step_363 (by decide) (fun c_363 => ?_) (fun c_363 => ?_)
                    · exact absurd (hTq.trans (if_pos c_363)) hT
                    · refine lv_iload S.1 S.2.1 dL_step_366 (lv_at hl 0 rfl) ?_
                      refine lv_bipush (v := (-108)) S.1 S.2.1 dL_step_368 (by decide) ?_
                      refine lv_icmp_ne (tgt := 388) S.1 S.2.1 dL_step_370 (by decide) (fun c_370 => ?_) (fun c_370 => ?_)
                      · exact absurd c_370 (by decide)
                      · refine lv_aload_n S.1 S.2.1 dL_step_373 rfl (lv_at hl 5 rfl) ?_
                        refine lv_iload S.1 S.2.1 dL_step_374 (lv_at hl 4 rfl) ?_
                        refine g_cVi S G hF hl 7 (hV 7 _ (by first | decide | (show _ < 1; omega))) (by decide) (c_X6_bondk l _ _ _ _ hV ht9) (cwV 1 S.2.2.2.2 gL_step_X6_bond rfl rfl rfl (by decide +kernel) ⟨Nat.le_of_ble_eq_true rfl, Nat.le_of_ble_eq_true rfl⟩) rfl rfl (Nat.le_of_ble_eq_true rfl) dL_step_376 ⟨Nat.le_of_ble_eq_true rfl, Nat.le_of_ble_eq_true rfl⟩ (fun r_376 u_376 H locs hp_376 G => ?_)
                        obtain ⟨rfl, rfl⟩ := hp_376
                        have G : gS D aC A s _ _ (gk _) H locs := G
                        refine lv_iload S.1 S.2.1 dL_step_379 (lv_at hl 1 rfl) ?_
                        refine lv_icmp_ne (tgt := 388) S.1 S.2.1 dL_step_381 (by decide) (fun c_381 => ?_) (fun c_381 => ?_)
                        · exact absurd rfl c_381
                        · refine lv_iconst (v := 1) S.1 S.2.1 dL_step_384 (by decide) ?_
                          refine lv_goto (tgt := 432) S.1 S.2.1 dL_step_385 (by decide) ?_
                          exact g_zret S G hr hlk (by decide) (⟨rfl, ids, ad, κ, rfl, J.up (Nat.le_succ N) (Nat.le_add_right _ _), rfl, rfl, rfl, rfl⟩) (Nat.le_of_ble_eq_true rfl) (Nat.le_of_ble_eq_true rfl) dL_step_432
              · refine lv_aload_n S.1 S.2.1 dL_step_254 rfl (lv_at hl 0 rfl) ?_
                refine lv_iload_n S.1 S.2.1 dL_step_255 rfl (lv_at hl 2 rfl) ?_
                refine lv_bipush (v := 12) S.1 S.2.1 dL_step_256 (by decide) ?_
                refine lv_irem S.1 S.2.1 dL_step_258 (by decide) ?_
                refine g_top (jrem12 (by omega)) ?_
                refine lv_iconst (v := 1) S.1 S.2.1 dL_step_259 (by decide) ?_
                refine lv_iload_n S.1 S.2.1 dL_step_260 rfl (lv_at hl 3 rfl) ?_
                refine lv_bipush (v := 20) S.1 S.2.1 dL_step_261 (by decide) ?_
                refine lv_irem S.1 S.2.1 dL_step_263 (by decide) ?_
                refine g_top (jrem20 (by omega)) ?_
                refine lv_iadd S.1 S.2.1 dL_step_264 ?_
                have hT := prcT_0 (a := X % 12) (n := 1 + Y % 20) (by omega) (by omega) (by omega)
                obtain ⟨pr1, pr2⟩ := prc_rng (j := X % 12) J.1 (by omega)
                refine g_top (nI_add 1 (Y % 20)) ?_
                refine gx_cVi S G hF hl 7 (hV 7 _ (by first | decide | (show _ < 1; omega))) (by decide) (c_X6_setPrice l hlf _ _ _ _ _ hV) (cwV 2 S.2.2.2.2 gL_step_X6_setPrice rfl rfl rfl (by decide +kernel) ⟨Nat.le_of_ble_eq_true rfl, Nat.le_of_ble_eq_true rfl⟩) rfl rfl (Nat.le_of_ble_eq_true rfl) dL_step_265 ⟨Nat.le_of_ble_eq_true rfl, Nat.le_of_ble_eq_true rfl⟩ (fun _ _ _ _ _ _ hp _ _ _ _ => (xE_0 hp.1 hT).elim) (fun r_265 u_265 H locs hp_265 G => ?_)
                obtain ⟨-, rfl, rfl⟩ := hp_265
                have G : gS D aC A s _ _ (gk _) H locs := G
                rw [tN_nI (show X % 12 < 2 ^ 31 by omega)] at G
                obtain ⟨J2, e2⟩ := op_setPrice J.1 hT
                rw [tN_nI (show X % 12 < 2 ^ 31 by omega)] at J2 e2
                refine g_top (congrArg (fun z => κ 5 z 2) (tN_nI (show X % 12 < 2 ^ 31 by omega))) ?_
                refine lv_istore (lv' := [(7, _), (0, _), (1, _), (2, _), (3, _), (4, _), (5, _), (6, _)]) S.1 S.2.1 dL_step_268 hl (by decide) rfl (fun ls hl => ?_)
                refine lv_iload S.1 S.2.1 dL_step_270 (lv_at hl 0 rfl) ?_
                refine lv_if_le (tgt := 309) S.1 S.2.1 dL_step_272 (by decide) (fun c_272 => ?_) (fun c_272 => ?_)
                · exact absurd c_272 pr1
                · refine lv_iload S.1 S.2.1 dL_step_275 (lv_at hl 0 rfl) ?_
                  refine lv_bipush (v := 20) S.1 S.2.1 dL_step_277 (by decide) ?_
                  refine lv_icmp_gt (tgt := 309) S.1 S.2.1 dL_step_279 (by decide) (fun c_279 => ?_) (fun c_279 => ?_)
                  · exact absurd c_279 pr2
                  · refine lv_aload_n S.1 S.2.1 dL_step_282 rfl (lv_at hl 1 rfl) ?_
                    refine lv_iload_n S.1 S.2.1 dL_step_283 rfl (lv_at hl 3 rfl) ?_
                    refine lv_bipush (v := 12) S.1 S.2.1 dL_step_284 (by decide) ?_
                    refine lv_irem S.1 S.2.1 dL_step_286 (by decide) ?_
                    refine g_top (jrem12 (by omega)) ?_
                    refine lv_iconst (v := 1) S.1 S.2.1 dL_step_287 (by decide) ?_
                    refine lv_iload_n S.1 S.2.1 dL_step_288 rfl (lv_at hl 4 rfl) ?_
                    refine lv_bipush (v := 20) S.1 S.2.1 dL_step_289 (by decide) ?_
                    refine lv_irem S.1 S.2.1 dL_step_291 (by decide) ?_
                    refine g_top (jrem20 (by omega)) ?_
                    refine lv_iadd S.1 S.2.1 dL_step_292 ?_
                    refine g_top (nI_add 1 (Y % 20)) ?_
                    refine gx_cVi S G hF hl 7 (hV 7 _ (by first | decide | (show _ < 1; omega))) (by decide) (c_X6_setPrice l hlf _ _ _ _ _ hV) (cwV 2 S.2.2.2.2 gL_step_X6_setPrice rfl rfl rfl (by decide +kernel) ⟨Nat.le_of_ble_eq_true rfl, Nat.le_of_ble_eq_true rfl⟩) rfl rfl (Nat.le_of_ble_eq_true rfl) dL_step_293 ⟨Nat.le_of_ble_eq_true rfl, Nat.le_of_ble_eq_true rfl⟩ (fun _ _ _ _ _ _ hp _ _ _ _ => (xE_0 hp.1 hT).elim) (fun r_293 u_293 H locs hp_293 G => ?_)
                    obtain ⟨-, rfl, rfl⟩ := hp_293
                    have G : gS D aC A s _ _ (gk _) H locs := G
                    rw [tN_nI (show X % 12 < 2 ^ 31 by omega)] at G
                    obtain ⟨J3, e3⟩ := op_setPrice J2 hT
                    rw [tN_nI (show X % 12 < 2 ^ 31 by omega)] at J3 e3
                    refine g_top (show _ = nI (1 + Y % 20) from by rw [tN_nI (show X % 12 < 2 ^ 31 by omega), upd3_s]) ?_
                    refine lv_iconst (v := 1) S.1 S.2.1 dL_step_296 (by decide) ?_
                    refine lv_iload_n S.1 S.2.1 dL_step_297 rfl (lv_at hl 4 rfl) ?_
                    refine lv_bipush (v := 20) S.1 S.2.1 dL_step_298 (by decide) ?_
                    refine lv_irem S.1 S.2.1 dL_step_300 (by decide) ?_
                    refine g_top (jrem20 (by omega)) ?_
                    refine lv_iadd S.1 S.2.1 dL_step_301 ?_
                    refine g_top (nI_add 1 (Y % 20)) ?_
                    refine lv_icmp_ne (tgt := 309) S.1 S.2.1 dL_step_302 (by decide) (fun c_302 => ?_) (fun c_302 => ?_)
                    · exact absurd rfl c_302
                    · refine lv_iconst (v := 1) S.1 S.2.1 dL_step_305 (by decide) ?_
                      refine lv_goto (tgt := 310) S.1 S.2.1 dL_step_306 (by decide) ?_
                      exact g_zret S G hr hlk (by decide) (⟨rfl, ids, ad, _, rfl, (J.to J2 e2 rfl (fun f i k hf => upd3_n (by omega)) (Nat.le_refl _) (Nat.le_refl _)).to J3 e3 rfl (fun f i k hf => upd3_n (by omega)) (Nat.le_succ N) (Nat.le_add_right _ _), rfl, rfl, rfl, rfl⟩) (Nat.le_of_ble_eq_true rfl) (Nat.le_of_ble_eq_true rfl) dL_step_310
            · refine lv_iload_n S.1 S.2.1 dL_step_149 rfl (lv_at hl 3 rfl) ?_
              refine lv_bipush (v := 6) S.1 S.2.1 dL_step_150 (by decide) ?_
              refine lv_irem S.1 S.2.1 dL_step_152 (by decide) ?_
              refine g_top (jrem6 (by omega)) ?_
              refine lv_istore (lv' := [(7, _), (0, _), (1, _), (2, _), (3, _), (4, _), (5, _), (6, _)]) S.1 S.2.1 dL_step_153 hl (by decide) rfl (fun ls hl => ?_)
              refine lv_aload_n S.1 S.2.1 dL_step_155 rfl (lv_at hl 1 rfl) ?_
              refine lv_iload_n S.1 S.2.1 dL_step_156 rfl (lv_at hl 3 rfl) ?_
              refine lv_bipush (v := 12) S.1 S.2.1 dL_step_157 (by decide) ?_
              refine lv_irem S.1 S.2.1 dL_step_159 (by decide) ?_
              refine g_top (jrem12 (by omega)) ?_
              refine lv_iload S.1 S.2.1 dL_step_160 (lv_at hl 0 rfl) ?_
              have hT := attT_0 (a := X % 12) (b := Y % 6) (by omega) (by omega)
              obtain ⟨h9, eh9⟩ : ∃ z, tN (κ 5 (X % 12) 1) = z := ⟨_, rfl⟩
              have hh9 : h9 < 6 := by rw [← eh9]; exact (hW.2.2.2.2.2.1 (X % 12) (by omega)).2
              refine gx_cVi S G hF hl 7 (hV 7 _ (by first | decide | (show _ < 1; omega))) (by decide) (c_X6_attach l hlf _ _ _ _ _ hV hW) (cwV 2 S.2.2.2.2 gL_step_X6_attach rfl rfl rfl (by decide +kernel) ⟨Nat.le_of_ble_eq_true rfl, Nat.le_of_ble_eq_true rfl⟩) rfl rfl (Nat.le_of_ble_eq_true rfl) dL_step_162 ⟨Nat.le_of_ble_eq_true rfl, Nat.le_of_ble_eq_true rfl⟩ (fun _ _ _ _ _ _ hp _ _ _ _ => (xE_0 hp.1 hT).elim) (fun r_162 u_162 H locs hp_162 G => ?_)
              obtain ⟨-, rfl, rfl⟩ := hp_162
              have G : gS D aC A s _ _ (gk _) H locs := G
              rw [tN_nI (show X % 12 < 2 ^ 31 by omega), tN_nI (show Y % 6 < 2 ^ 31 by omega)] at G
              obtain ⟨J2, e2⟩ := op_attach J.1 hT
              rw [tN_nI (show X % 12 < 2 ^ 31 by omega), tN_nI (show Y % 6 < 2 ^ 31 by omega)] at J2 e2
              obtain ⟨w9, ew9⟩ : ∃ z, tN (κ 4 (1 + X % 5) 1) = z := ⟨_, rfl⟩
              have hw9 : w9 < 1 + X % 5 := by rw [← ew9]; exact (hW.2.2.2.2.1 (1 + X % 5) (by omega) (by omega)).2
              refine g_top (show _ = nI h9 from by rw [tN_nI (show X % 12 < 2 ^ 31 by omega), eh9]) ?_
              refine lv_istore (lv' := [(8, _), (7, _), (0, _), (1, _), (2, _), (3, _), (4, _), (5, _), (6, _)]) S.1 S.2.1 dL_step_165 hl (by decide) rfl (fun ls hl => ?_)
              refine lv_aload_n S.1 S.2.1 dL_step_167 rfl (lv_at hl 2 rfl) ?_
              refine lv_iconst (v := 5) S.1 S.2.1 dL_step_168 (by decide) ?_
              refine lv_iconst (v := 1) S.1 S.2.1 dL_step_169 (by decide) ?_
              refine lv_iload_n S.1 S.2.1 dL_step_170 rfl (lv_at hl 4 rfl) ?_
              refine lv_iconst (v := 5) S.1 S.2.1 dL_step_171 (by decide) ?_
              refine lv_irem S.1 S.2.1 dL_step_172 (by decide) ?_
              refine g_top (jrem5 (by omega)) ?_
              refine lv_iadd S.1 S.2.1 dL_step_173 ?_
              refine g_top (nI_add 1 (X % 5)) ?_
              refine lv_iload_n S.1 S.2.1 dL_step_174 rfl (lv_at hl 5 rfl) ?_
              refine lv_iconst (v := 5) S.1 S.2.1 dL_step_175 (by decide) ?_
              refine lv_irem S.1 S.2.1 dL_step_176 (by decide) ?_
              refine g_top (jrem5 (by omega)) ?_
              refine lv_iconst (v := 0) S.1 S.2.1 dL_step_177 (by decide) ?_
              by_cases hq : Y % 5 ≤ X % 5
              · have hH : sHangT (nI (1 + X % 5)) (nI (Y % 5)) = 0 := by rw [hangT_at (by omega) (by omega) (by omega), if_pos (by omega)]
                have hno : ¬ sHangT (nI (1 + X % 5)) (nI (Y % 5)) = 2 := by rw [hH]; decide
                refine g_cSWi S G hF hl (c_L_asks_hang l hlf ids ad _ _ _ _ hV J2.2.1 hno) (vx_cwSW 5 S.2.2.2.2 gL_step_L_asks rfl rfl rfl (by decide +kernel) ⟨Nat.le_of_ble_eq_true rfl, Nat.le_of_ble_eq_true rfl⟩) rfl rfl (Nat.le_of_ble_eq_true rfl) dL_step_178 ⟨Nat.le_of_ble_eq_true rfl, Nat.le_of_ble_eq_true rfl⟩ (fun r9 u9 H locs hp G => ?_)
                obtain ⟨rfl, rfl⟩ := or3_0 hp hH
                have G : gS D aC A s _ _ (gk _) H locs := G
                rw [tN_nI (show 1 + X % 5 < 2 ^ 31 by omega), tN_nI (show Y % 5 < 2 ^ 31 by omega)] at G
                obtain ⟨J4, e4⟩ := op_hang J2 hH
                rw [tN_nI (show 1 + X % 5 < 2 ^ 31 by omega), tN_nI (show Y % 5 < 2 ^ 31 by omega)] at J4 e4
                have P4 : PL (N + 1) (B + 12) ids _ := (J.to J2 e2 rfl (fun f i k hf => upd3_n (by omega)) (Nat.le_refl _) (Nat.le_refl _)).to J4 e4 rfl (fun f i k hf => upd3_n (by omega)) (Nat.le_succ N) (Nat.le_add_right _ _)
                have k4 : upd3 (upd3 κ 5 (X % 12) 1 (nI (Y % 6))) 4 (1 + X % 5) 1 (nI (Y % 5)) 5 (X % 12) 1 = nI (Y % 6) := (upd3_f (by decide)).trans upd3_s
                refine g_top (show _ = nI w9 from by rw [tN_nI (show 1 + X % 5 < 2 ^ 31 by omega)]; exact congrArg nI ew9) ?_
                refine lv_istore (lv' := [(9, _), (8, _), (7, _), (0, _), (1, _), (2, _), (3, _), (4, _), (5, _), (6, _)]) S.1 S.2.1 dL_step_181 hl (by decide) rfl (fun ls hl => ?_)
                refine lv_iload S.1 S.2.1 dL_step_183 (lv_at hl 1 rfl) ?_
                refine lv_if_lt (tgt := 246) S.1 S.2.1 dL_step_185 (by decide) (fun c_185 => ?_) (fun c_185 => ?_)
                · exact absurd c_185 (nI_pos (by omega))
                · refine lv_iload S.1 S.2.1 dL_step_188 (lv_at hl 1 rfl) ?_
                  refine lv_bipush (v := 6) S.1 S.2.1 dL_step_190 (by decide) ?_
                  refine lv_icmp_ge (tgt := 246) S.1 S.2.1 dL_step_192 (by decide) (fun c_192 => ?_) (fun c_192 => ?_)
                  · exact absurd ((nI_leI (a := 6) (b := h9) (by decide) (by omega)).mp c_192) (by omega)
                  · refine lv_aload_n S.1 S.2.1 dL_step_195 rfl (lv_at hl 3 rfl) ?_
                    refine lv_iload_n S.1 S.2.1 dL_step_196 rfl (lv_at hl 5 rfl) ?_
                    refine lv_bipush (v := 12) S.1 S.2.1 dL_step_197 (by decide) ?_
                    refine lv_irem S.1 S.2.1 dL_step_199 (by decide) ?_
                    refine g_top (jrem12 (by omega)) ?_
                    refine lv_iload S.1 S.2.1 dL_step_200 (lv_at hl 2 rfl) ?_
                    have hT := attT_0 (a := X % 12) (b := Y % 6) (by omega) (by omega)
                    refine gx_cVi S G hF hl 7 (hV 7 _ (by first | decide | (show _ < 1; omega))) (by decide) (c_X6_attach l hlf _ _ _ _ _ hV J4.2.1) (cwV 2 S.2.2.2.2 gL_step_X6_attach rfl rfl rfl (by decide +kernel) ⟨Nat.le_of_ble_eq_true rfl, Nat.le_of_ble_eq_true rfl⟩) rfl rfl (Nat.le_of_ble_eq_true rfl) dL_step_202 ⟨Nat.le_of_ble_eq_true rfl, Nat.le_of_ble_eq_true rfl⟩ (fun _ _ _ _ _ _ hp _ _ _ _ => (xE_0 hp.1 hT).elim) (fun r_202 u_202 H locs hp_202 G => ?_)
                    obtain ⟨-, rfl, rfl⟩ := hp_202
                    have G : gS D aC A s _ _ (gk _) H locs := G
                    rw [tN_nI (show X % 12 < 2 ^ 31 by omega), tN_nI (show Y % 6 < 2 ^ 31 by omega)] at G
                    obtain ⟨J5, e5⟩ := op_attach J4 hT
                    rw [tN_nI (show X % 12 < 2 ^ 31 by omega), tN_nI (show Y % 6 < 2 ^ 31 by omega)] at J5 e5
                    refine g_top (show _ = nI (Y % 6) from by rw [tN_nI (show X % 12 < 2 ^ 31 by omega), k4, tN_nI (by omega)]) ?_
                    refine lv_iload S.1 S.2.1 dL_step_205 (lv_at hl 2 rfl) ?_
                    refine lv_icmp_ne (tgt := 246) S.1 S.2.1 dL_step_207 (by decide) (fun c_207 => ?_) (fun c_207 => ?_)
                    · exact absurd rfl c_207
                    · refine lv_iload_n S.1 S.2.1 dL_step_210 rfl (lv_at hl 6 rfl) ?_
                      refine lv_iconst (v := 5) S.1 S.2.1 dL_step_211 (by decide) ?_
                      refine lv_irem S.1 S.2.1 dL_step_212 (by decide) ?_
                      refine g_top (jrem5 (by omega)) ?_
                      refine lv_iload_n S.1 S.2.1 dL_step_213 rfl (lv_at hl 5 rfl) ?_
                      refine lv_iconst (v := 5) S.1 S.2.1 dL_step_214 (by decide) ?_
                      refine lv_irem S.1 S.2.1 dL_step_215 (by decide) ?_
                      refine g_top (jrem5 (by omega)) ?_
                      refine lv_icmp_le (tgt := 229) S.1 S.2.1 dL_step_216 (by decide) (fun c_216 => ?_) (fun c_216 => ?_)
                      · refine lv_iload S.1 S.2.1 dL_step_229 (lv_at hl 0 rfl) ?_
                        refine lv_if_lt (tgt := 246) S.1 S.2.1 dL_step_231 (by decide) (fun c_231 => ?_) (fun c_231 => ?_)
                        · exact absurd c_231 (nI_pos (by omega))
                        · refine lv_iload S.1 S.2.1 dL_step_234 (lv_at hl 0 rfl) ?_
                          refine lv_iload_n S.1 S.2.1 dL_step_236 rfl (lv_at hl 5 rfl) ?_
                          refine lv_iconst (v := 5) S.1 S.2.1 dL_step_237 (by decide) ?_
                          refine lv_irem S.1 S.2.1 dL_step_238 (by decide) ?_
                          refine g_top (jrem5 (by omega)) ?_
                          refine lv_icmp_gt (tgt := 246) S.1 S.2.1 dL_step_239 (by decide) (fun c_239 => ?_) (fun c_239 => ?_)
                          · exact absurd ((nI_ltI (by omega) (by omega)).mp c_239) (by omega)
                          · refine lv_iconst (v := 1) S.1 S.2.1 dL_step_242 (by decide) ?_
                            refine lv_goto (tgt := 247) S.1 S.2.1 dL_step_243 (by decide) ?_
                            exact g_zret S G hr hlk (by decide) (⟨rfl, ids, ad, _, rfl, P4.to J5 e5 rfl (fun f i k hf => upd3_n (by omega)) (Nat.le_refl _) (Nat.le_refl _), rfl, rfl, rfl, rfl⟩) (Nat.le_of_ble_eq_true rfl) (Nat.le_of_ble_eq_true rfl) dL_step_247
                      · exact absurd ((nI_leI (by omega) (by omega)).mpr hq) c_216
              · have hH : sHangT (nI (1 + X % 5)) (nI (Y % 5)) = 1 := by rw [hangT_at (by omega) (by omega) (by omega), if_neg (by omega)]
                have hno : ¬ sHangT (nI (1 + X % 5)) (nI (Y % 5)) = 2 := by rw [hH]; decide
                refine g_cSWi S G hF hl (c_L_asks_hang l hlf ids ad _ _ _ _ hV J2.2.1 hno) (vx_cwSW 5 S.2.2.2.2 gL_step_L_asks rfl rfl rfl (by decide +kernel) ⟨Nat.le_of_ble_eq_true rfl, Nat.le_of_ble_eq_true rfl⟩) rfl rfl (Nat.le_of_ble_eq_true rfl) dL_step_178 ⟨Nat.le_of_ble_eq_true rfl, Nat.le_of_ble_eq_true rfl⟩ (fun r9 u9 H locs hp G => ?_)
                obtain ⟨rfl, rfl⟩ := or3_1 hp hH
                have G : gS D aC A s _ _ (gk _) H locs := G
                have J4 := J2
                have P4 : PL (N + 1) (B + 12) ids _ := J.to J2 e2 rfl (fun f i k hf => upd3_n (by omega)) (Nat.le_succ N) (Nat.le_add_right _ _)
                have k4 : upd3 κ 5 (X % 12) 1 (nI (Y % 6)) 5 (X % 12) 1 = nI (Y % 6) := upd3_s
                refine lv_istore (lv' := [(9, _), (8, _), (7, _), (0, _), (1, _), (2, _), (3, _), (4, _), (5, _), (6, _)]) S.1 S.2.1 dL_step_181 hl (by decide) rfl (fun ls hl => ?_)
                refine lv_iload S.1 S.2.1 dL_step_183 (lv_at hl 1 rfl) ?_
                refine lv_if_lt (tgt := 246) S.1 S.2.1 dL_step_185 (by decide) (fun c_185 => ?_) (fun c_185 => ?_)
                · exact absurd c_185 (nI_pos (by omega))
                · refine lv_iload S.1 S.2.1 dL_step_188 (lv_at hl 1 rfl) ?_
                  refine lv_bipush (v := 6) S.1 S.2.1 dL_step_190 (by decide) ?_
                  refine lv_icmp_ge (tgt := 246) S.1 S.2.1 dL_step_192 (by decide) (fun c_192 => ?_) (fun c_192 => ?_)
                  · exact absurd ((nI_leI (a := 6) (b := h9) (by decide) (by omega)).mp c_192) (by omega)
                  · refine lv_aload_n S.1 S.2.1 dL_step_195 rfl (lv_at hl 3 rfl) ?_
                    refine lv_iload_n S.1 S.2.1 dL_step_196 rfl (lv_at hl 5 rfl) ?_
                    refine lv_bipush (v := 12) S.1 S.2.1 dL_step_197 (by decide) ?_
                    refine lv_irem S.1 S.2.1 dL_step_199 (by decide) ?_
                    refine g_top (jrem12 (by omega)) ?_
                    refine lv_iload S.1 S.2.1 dL_step_200 (lv_at hl 2 rfl) ?_
                    have hT := attT_0 (a := X % 12) (b := Y % 6) (by omega) (by omega)
                    refine gx_cVi S G hF hl 7 (hV 7 _ (by first | decide | (show _ < 1; omega))) (by decide) (c_X6_attach l hlf _ _ _ _ _ hV J4.2.1) (cwV 2 S.2.2.2.2 gL_step_X6_attach rfl rfl rfl (by decide +kernel) ⟨Nat.le_of_ble_eq_true rfl, Nat.le_of_ble_eq_true rfl⟩) rfl rfl (Nat.le_of_ble_eq_true rfl) dL_step_202 ⟨Nat.le_of_ble_eq_true rfl, Nat.le_of_ble_eq_true rfl⟩ (fun _ _ _ _ _ _ hp _ _ _ _ => (xE_0 hp.1 hT).elim) (fun r_202 u_202 H locs hp_202 G => ?_)
                    obtain ⟨-, rfl, rfl⟩ := hp_202
                    have G : gS D aC A s _ _ (gk _) H locs := G
                    rw [tN_nI (show X % 12 < 2 ^ 31 by omega), tN_nI (show Y % 6 < 2 ^ 31 by omega)] at G
                    obtain ⟨J5, e5⟩ := op_attach J4 hT
                    rw [tN_nI (show X % 12 < 2 ^ 31 by omega), tN_nI (show Y % 6 < 2 ^ 31 by omega)] at J5 e5
                    refine g_top (show _ = nI (Y % 6) from by rw [tN_nI (show X % 12 < 2 ^ 31 by omega), k4, tN_nI (by omega)]) ?_
                    refine lv_iload S.1 S.2.1 dL_step_205 (lv_at hl 2 rfl) ?_
                    refine lv_icmp_ne (tgt := 246) S.1 S.2.1 dL_step_207 (by decide) (fun c_207 => ?_) (fun c_207 => ?_)
                    · exact absurd rfl c_207
                    · refine lv_iload_n S.1 S.2.1 dL_step_210 rfl (lv_at hl 6 rfl) ?_
                      refine lv_iconst (v := 5) S.1 S.2.1 dL_step_211 (by decide) ?_
                      refine lv_irem S.1 S.2.1 dL_step_212 (by decide) ?_
                      refine g_top (jrem5 (by omega)) ?_
                      refine lv_iload_n S.1 S.2.1 dL_step_213 rfl (lv_at hl 5 rfl) ?_
                      refine lv_iconst (v := 5) S.1 S.2.1 dL_step_214 (by decide) ?_
                      refine lv_irem S.1 S.2.1 dL_step_215 (by decide) ?_
                      refine g_top (jrem5 (by omega)) ?_
                      refine lv_icmp_le (tgt := 229) S.1 S.2.1 dL_step_216 (by decide) (fun c_216 => ?_) (fun c_216 => ?_)
                      · exact absurd ((nI_leI (by omega) (by omega)).mp c_216) hq
                      · refine lv_iload S.1 S.2.1 dL_step_219 (lv_at hl 0 rfl) ?_
                        refine lv_bipush (v := (-107)) S.1 S.2.1 dL_step_221 (by decide) ?_
                        refine lv_icmp_ne (tgt := 246) S.1 S.2.1 dL_step_223 (by decide) (fun c_223 => ?_) (fun c_223 => ?_)
                        · exact absurd c_223 (by decide)
                        · refine lv_goto (tgt := 242) S.1 S.2.1 dL_step_226 (by decide) ?_
                          refine lv_iconst (v := 1) S.1 S.2.1 dL_step_242 (by decide) ?_
                          refine lv_goto (tgt := 247) S.1 S.2.1 dL_step_243 (by decide) ?_
                          exact g_zret S G hr hlk (by decide) (⟨rfl, ids, ad, _, rfl, P4.to J5 e5 rfl (fun f i k hf => upd3_n (by omega)) (Nat.le_refl _) (Nat.le_refl _), rfl, rfl, rfl, rfl⟩) (Nat.le_of_ble_eq_true rfl) (Nat.le_of_ble_eq_true rfl) dL_step_247
          · refine jnN (X := fun n => W p l e (headSpec wsL_step ({ frames := 10, cells := 24, slots := 192, locals := 198 } : Room)).room s m ([.ref (ad 7 0), .int what, .int (nI X), .int (nI Y), .ref (ad 20 0), .ref (ad 21 0), .ref (ad 22 0)] : List Value).toArray below meth c s.heap [] (0) (0) (MQ below (va_Qi (fun q u => q = 1 ∧ ∃ (ids' : gIds) (ad' : gAd) (κ' : gMem), u = (ids', ad', gk κ') ∧ PL (N + 1) (B + 12) ids' κ' ∧ ad' 7 0 = ad 7 0 ∧ ad' 20 0 = ad 20 0 ∧ ad' 21 0 = ad 21 0 ∧ ad' 22 0 = ad 22 0) (gE D aC A) A) ([.ref (ad 7 0), .int what, .int (nI X), .int (nI Y), .ref (ad 20 0), .ref (ad 21 0), .ref (ad 22 0)] : List Value).toArray s 24 192 A) (F0 m 105 ls [.int (nI n)])) (fun n => n = 0 ∨ (2 ≤ n ∧ n ≤ 9)) (fun K105 => ?_) ?_
            · refine lv_iload_n S.1 S.2.1 dL_step_88 rfl (lv_at hl 3 rfl) ?_
              refine lv_bipush (v := 9) S.1 S.2.1 dL_step_89 (by decide) ?_
              refine lv_irem S.1 S.2.1 dL_step_91 (by decide) ?_
              refine g_top (jrem9 (by omega)) ?_
              refine lv_if_ne (tgt := 99) S.1 S.2.1 dL_step_92 (by decide) (fun c_92 => ?_) (fun c_92 => ?_)
              · refine lv_iconst (v := 1) S.1 S.2.1 dL_step_99 (by decide) ?_
                refine lv_iload_n S.1 S.2.1 dL_step_100 rfl (lv_at hl 3 rfl) ?_
                refine lv_bipush (v := 9) S.1 S.2.1 dL_step_101 (by decide) ?_
                refine lv_irem S.1 S.2.1 dL_step_103 (by decide) ?_
                refine g_top (jrem9 (by omega)) ?_
                refine lv_iadd S.1 S.2.1 dL_step_104 ?_
                refine g_top (nI_add 1 (Y % 9)) ?_
                exact K105 (1 + Y % 9) (Or.inr ⟨by have : Y % 9 ≠ 0 := fun z => c_92 (by rw [z]; rfl); omega, by omega⟩)
              · refine lv_iconst (v := 0) S.1 S.2.1 dL_step_95 (by decide) ?_
                refine lv_goto (tgt := 105) S.1 S.2.1 dL_step_96 (by decide) ?_
                exact K105 0 (Or.inl rfl)
            · intro n9 hn9
              refine lv_istore (lv' := [(7, _), (0, _), (1, _), (2, _), (3, _), (4, _), (5, _), (6, _)]) S.1 S.2.1 dL_step_105 hl (by decide) rfl (fun ls hl => ?_)
              refine lv_aload_n S.1 S.2.1 dL_step_107 rfl (lv_at hl 1 rfl) ?_
              refine lv_iload_n S.1 S.2.1 dL_step_108 rfl (lv_at hl 3 rfl) ?_
              refine lv_bipush (v := 6) S.1 S.2.1 dL_step_109 (by decide) ?_
              refine lv_irem S.1 S.2.1 dL_step_111 (by decide) ?_
              refine g_top (jrem6 (by omega)) ?_
              refine lv_iload S.1 S.2.1 dL_step_112 (lv_at hl 0 rfl) ?_
              have hT := lossT_0 (a := X % 6) (n := n9) (by omega) hn9
              refine gx_cVi S G hF hl 7 (hV 7 _ (by first | decide | (show _ < 1; omega))) (by decide) (c_X6_setLoss l hlf _ _ _ _ _ hV) (cwV 2 S.2.2.2.2 gL_step_X6_setLoss rfl rfl rfl (by decide +kernel) ⟨Nat.le_of_ble_eq_true rfl, Nat.le_of_ble_eq_true rfl⟩) rfl rfl (Nat.le_of_ble_eq_true rfl) dL_step_114 ⟨Nat.le_of_ble_eq_true rfl, Nat.le_of_ble_eq_true rfl⟩ (fun _ _ _ _ _ _ hp _ _ _ _ => (xE_0 hp.1 hT).elim) (fun r_114 u_114 H locs hp_114 G => ?_)
              obtain ⟨-, rfl, rfl⟩ := hp_114
              have G : gS D aC A s _ _ (gk _) H locs := G
              rw [tN_nI (show X % 6 < 2 ^ 31 by omega)] at G
              obtain ⟨J2, e2⟩ := op_setLoss J.1 hT
              rw [tN_nI (show X % 6 < 2 ^ 31 by omega)] at J2 e2
              refine g_top (congrArg (sLost κ) (tN_nI (show X % 6 < 2 ^ 31 by omega))) ?_
              refine lv_istore (lv' := [(8, _), (7, _), (0, _), (1, _), (2, _), (3, _), (4, _), (5, _), (6, _)]) S.1 S.2.1 dL_step_117 hl (by decide) rfl (fun ls hl => ?_)
              refine lv_iload S.1 S.2.1 dL_step_119 (lv_at hl 0 rfl) ?_
              refine lv_if_lt (tgt := 141) S.1 S.2.1 dL_step_121 (by decide) (fun c_121 => ?_) (fun c_121 => ?_)
              · exact absurd c_121 (loss_nn J.1 (by omega))
              · refine lv_aload_n S.1 S.2.1 dL_step_124 rfl (lv_at hl 2 rfl) ?_
                refine lv_iload_n S.1 S.2.1 dL_step_125 rfl (lv_at hl 4 rfl) ?_
                refine lv_bipush (v := 6) S.1 S.2.1 dL_step_126 (by decide) ?_
                refine lv_irem S.1 S.2.1 dL_step_128 (by decide) ?_
                refine g_top (jrem6 (by omega)) ?_
                refine lv_iload S.1 S.2.1 dL_step_129 (lv_at hl 1 rfl) ?_
                refine gx_cVi S G hF hl 7 (hV 7 _ (by first | decide | (show _ < 1; omega))) (by decide) (c_X6_setLoss l hlf _ _ _ _ _ hV) (cwV 2 S.2.2.2.2 gL_step_X6_setLoss rfl rfl rfl (by decide +kernel) ⟨Nat.le_of_ble_eq_true rfl, Nat.le_of_ble_eq_true rfl⟩) rfl rfl (Nat.le_of_ble_eq_true rfl) dL_step_131 ⟨Nat.le_of_ble_eq_true rfl, Nat.le_of_ble_eq_true rfl⟩ (fun _ _ _ _ _ _ hp _ _ _ _ => (xE_0 hp.1 hT).elim) (fun r_131 u_131 H locs hp_131 G => ?_)
                obtain ⟨-, rfl, rfl⟩ := hp_131
                have G : gS D aC A s _ _ (gk _) H locs := G
                rw [tN_nI (show X % 6 < 2 ^ 31 by omega)] at G
                obtain ⟨J3, e3⟩ := op_setLoss J2 hT
                rw [tN_nI (show X % 6 < 2 ^ 31 by omega)] at J3 e3
                refine g_top (show _ = (0 : Int32) from by rw [tN_nI (show X % 6 < 2 ^ 31 by omega)]; exact loss_0 (by omega)) ?_
                refine lv_if_ne (tgt := 141) S.1 S.2.1 dL_step_134 (by decide) (fun c_134 => ?_) (fun c_134 => ?_)
                · exact absurd rfl c_134
                · refine lv_iconst (v := 1) S.1 S.2.1 dL_step_137 (by decide) ?_
                  refine lv_goto (tgt := 142) S.1 S.2.1 dL_step_138 (by decide) ?_
                  exact g_zret S G hr hlk (by decide) (⟨rfl, ids, ad, _, rfl, (J.to J2 e2 rfl (fun f i k hf => (upd3_n (by omega)).trans (upd3_n (by omega))) (Nat.le_refl _) (Nat.le_refl _)).to J3 e3 rfl (fun f i k hf => (upd3_n (by omega)).trans (upd3_n (by omega))) (Nat.le_succ N) (Nat.le_add_right _ _), rfl, rfl, rfl, rfl⟩) (Nat.le_of_ble_eq_true rfl) (Nat.le_of_ble_eq_true rfl) dL_step_142
        · refine lv_aload S.1 S.2.1 dL_step_64 (lv_at hl 5 rfl) ?_
          refine lv_iconst (v := 1) S.1 S.2.1 dL_step_66 (by decide) ?_
          refine k_iald S G 21 h21 rfl rfl rfl rfl (show 1 < 2 by decide) dL_step_67 ?_
          refine lv_if_le (tgt := 82) S.1 S.2.1 dL_step_68 (by decide) (fun c_68 => ?_) (fun c_68 => ?_)
          · refine lv_iload_n S.1 S.2.1 dL_step_82 rfl (lv_at hl 1 rfl) ?_
            refine lv_bipush (v := 18) S.1 S.2.1 dL_step_83 (by decide) ?_
            refine lv_icmp_ne (tgt := 143) S.1 S.2.1 dL_step_85 (by decide) (fun c_85 => ?_) (fun c_85 => ?_)
            · refine lv_iload_n S.1 S.2.1 dL_step_143 rfl (lv_at hl 1 rfl) ?_
              refine lv_bipush (v := 19) S.1 S.2.1 dL_step_144 (by decide) ?_
              refine lv_icmp_ne (tgt := 248) S.1 S.2.1 dL_step_146 (by decide) (fun c_146 => ?_) (fun c_146 => ?_)
              · refine lv_iload_n S.1 S.2.1 dL_step_248 rfl (lv_at hl 1 rfl) ?_
                refine lv_bipush (v := 20) S.1 S.2.1 dL_step_249 (by decide) ?_
                refine lv_icmp_ne (tgt := 311) S.1 S.2.1 dL_step_251 (by decide) (fun c_251 => ?_) (fun c_251 => ?_)
                · refine lv_iload_n S.1 S.2.1 dL_step_311 rfl (lv_at hl 1 rfl) ?_
                  refine lv_bipush (v := 21) S.1 S.2.1 dL_step_312 (by decide) ?_
                  refine lv_icmp_ne (tgt := 433) S.1 S.2.1 dL_step_314 (by decide) (fun c_314 => ?_) (fun c_314 => ?_)
                  · refine jnN (X := fun n => W p l e (headSpec wsL_step ({ frames := 10, cells := 24, slots := 192, locals := 198 } : Room)).room s m ([.ref (ad 7 0), .int what, .int (nI X), .int (nI Y), .ref (ad 20 0), .ref (ad 21 0), .ref (ad 22 0)] : List Value).toArray below meth c s.heap [] (0) (0) (MQ below (va_Qi (fun q u => q = 1 ∧ ∃ (ids' : gIds) (ad' : gAd) (κ' : gMem), u = (ids', ad', gk κ') ∧ PL (N + 1) (B + 12) ids' κ' ∧ ad' 7 0 = ad 7 0 ∧ ad' 20 0 = ad 20 0 ∧ ad' 21 0 = ad 21 0 ∧ ad' 22 0 = ad 22 0) (gE D aC A) A) ([.ref (ad 7 0), .int what, .int (nI X), .int (nI Y), .ref (ad 20 0), .ref (ad 21 0), .ref (ad 22 0)] : List Value).toArray s 24 192 A) (F0 m 449 ls [.int (nI n)])) (fun n => 1 ≤ n ∧ n ≤ 12) (fun K449 => ?_) ?_
                    · refine lv_iconst (v := 1) S.1 S.2.1 dL_step_433 (by decide) ?_
                      refine lv_iload_n S.1 S.2.1 dL_step_434 rfl (lv_at hl 3 rfl) ?_
                      refine lv_iload_n S.1 S.2.1 dL_step_435 rfl (lv_at hl 3 rfl) ?_
                      refine lv_iconst (v := 5) S.1 S.2.1 dL_step_436 (by decide) ?_
                      refine lv_irem S.1 S.2.1 dL_step_437 (by decide) ?_
                      refine g_top (jrem5 (by omega)) ?_
                      refine lv_if_ne (tgt := 446) S.1 S.2.1 dL_step_438 (by decide) (fun c_438 => ?_) (fun c_438 => ?_)
                      · refine lv_iconst (v := 2) S.1 S.2.1 dL_step_446 (by decide) ?_
                        refine lv_irem S.1 S.2.1 dL_step_447 (by decide) ?_
                        refine g_top (jrem2 (by omega)) ?_
                        refine lv_iadd S.1 S.2.1 dL_step_448 ?_
                        refine g_top (nI_add 1 (Y % 2)) ?_
                        exact K449 (1 + Y % 2) ⟨by omega, by omega⟩
                      · refine lv_bipush (v := 12) S.1 S.2.1 dL_step_441 (by decide) ?_
                        refine lv_goto (tgt := 447) S.1 S.2.1 dL_step_443 (by decide) ?_
                        refine lv_irem S.1 S.2.1 dL_step_447 (by decide) ?_
                        refine g_top (jrem12 (by omega)) ?_
                        refine lv_iadd S.1 S.2.1 dL_step_448 ?_
                        refine g_top (nI_add 1 (Y % 12)) ?_
                        exact K449 (1 + Y % 12) ⟨by omega, by omega⟩
                    · intro n9 hn9
                      refine lv_istore (lv' := [(7, _), (0, _), (1, _), (2, _), (3, _), (4, _), (5, _), (6, _)]) S.1 S.2.1 dL_step_449 hl (by decide) rfl (fun ls hl => ?_)
                      refine lv_aload S.1 S.2.1 dL_step_451 (lv_at hl 6 rfl) ?_
                      refine lv_iconst (v := 0) S.1 S.2.1 dL_step_453 (by decide) ?_
                      refine lv_dup2_11 S.1 S.2.1 dL_step_454 rfl rfl ?_
                      refine k_iald S G 21 h21 rfl rfl rfl rfl (show 0 < 2 by decide) dL_step_455 ?_
                      refine g_top (hc0.trans hT7) ?_
                      refine lv_iload S.1 S.2.1 dL_step_456 (lv_at hl 0 rfl) ?_
                      refine lv_iadd S.1 S.2.1 dL_step_458 ?_
                      refine g_top (nI_add T n9) ?_
                      refine k_iast S G 21 h21 rfl rfl rfl rfl (show 0 < 2 by decide) dL_step_459 (fun H locs G => ?_)
                      have hT1 : ixL (upd3 κ 21 0 0 (nI (T + n9)) 7 0 6) 10001 := J.1.T
                      have hTA := advT_0 (κ := upd3 κ 21 0 0 (nI (T + n9))) hT7 hn9.1 hn9.2 (show T ≤ 9000 by omega)
                      obtain ⟨J2, p76, p21⟩ := J.adv hT7 hn9.1 hn9.2 (show T ≤ 9000 by omega) (Nat.le_succ N) (Nat.le_refl _)
                      refine lv_aload_n S.1 S.2.1 dL_step_460 rfl (lv_at hl 1 rfl) ?_
                      refine lv_iload S.1 S.2.1 dL_step_461 (lv_at hl 0 rfl) ?_
                      refine gx_cVi S G hF hl 7 (hV 7 _ (by first | decide | (show _ < 1; omega))) (by decide) (c_X6_advance l hlf _ _ _ _ hV (hW.upd (f := 21) (i := 0) (k := 0) (x := nI (T + n9)) rfl) hT1) (cwV 1 S.2.2.2.2 gL_step_X6_advance rfl rfl rfl (by decide +kernel) ⟨Nat.le_of_ble_eq_true rfl, Nat.le_of_ble_eq_true rfl⟩) rfl rfl (Nat.le_of_ble_eq_true rfl) dL_step_463 ⟨Nat.le_of_ble_eq_true rfl, Nat.le_of_ble_eq_true rfl⟩ (fun _ _ _ _ _ _ hp _ _ _ _ => (xE_0 hp.1 hTA).elim) (fun r_463 u_463 H locs hp_463 G => ?_)
                      obtain ⟨-, rfl, rfl⟩ := hp_463
                      have G : gS D aC A s _ _ (gk _) H locs := G
                      refine g_top p76 ?_
                      refine lv_aload S.1 S.2.1 dL_step_466 (lv_at hl 6 rfl) ?_
                      refine lv_iconst (v := 0) S.1 S.2.1 dL_step_468 (by decide) ?_
                      refine k_iald S G 21 h21 rfl rfl rfl rfl (show 0 < 2 by decide) dL_step_469 ?_
                      refine g_top p21 ?_
                      refine lv_icmp_ne (tgt := 477) S.1 S.2.1 dL_step_470 (by decide) (fun c_470 => ?_) (fun c_470 => ?_)
                      · exact absurd rfl c_470
                      · refine lv_iconst (v := 1) S.1 S.2.1 dL_step_473 (by decide) ?_
                        refine lv_goto (tgt := 478) S.1 S.2.1 dL_step_474 (by decide) ?_
                        exact g_zret S G hr hlk (by decide) (⟨rfl, ids, ad, _, rfl, J2, rfl, rfl, rfl, rfl⟩) (Nat.le_of_ble_eq_true rfl) (Nat.le_of_ble_eq_true rfl) dL_step_478
                  · obtain ⟨t9, et⟩ : ∃ z, X % 12 = z := ⟨_, rfl⟩
                    obtain ⟨n9, en⟩ : ∃ z, 1 + Y % 12 = z := ⟨_, rfl⟩
                    have ht9 : t9 < 12 := by omega
                    have hn9 : 1 ≤ n9 ∧ n9 ≤ 12 := by omega
                    have hTq := topT_at (κ := κ) ht9 hn9.1 (show n9 ≤ 20 by omega)
                    refine lv_iload_n S.1 S.2.1 dL_step_317 rfl (lv_at hl 2 rfl) ?_
                    refine lv_bipush (v := 12) S.1 S.2.1 dL_step_318 (by decide) ?_
                    refine lv_irem S.1 S.2.1 dL_step_320 (by decide) ?_
                    refine g_top ((jrem12 (by omega)).trans (congrArg nI et)) ?_
                    refine lv_istore (lv' := [(7, _), (0, _), (1, _), (2, _), (3, _), (4, _), (5, _), (6, _)]) S.1 S.2.1 dL_step_321 hl (by decide) rfl (fun ls hl => ?_)
                    refine lv_iconst (v := 1) S.1 S.2.1 dL_step_323 (by decide) ?_
                    refine lv_iload_n S.1 S.2.1 dL_step_324 rfl (lv_at hl 4 rfl) ?_
                    refine lv_bipush (v := 12) S.1 S.2.1 dL_step_325 (by decide) ?_
                    refine lv_irem S.1 S.2.1 dL_step_327 (by decide) ?_
                    refine g_top (jrem12 (by omega)) ?_
                    refine lv_iadd S.1 S.2.1 dL_step_328 ?_
                    refine g_top ((nI_add 1 (Y % 12)).trans (congrArg nI en)) ?_
                    refine lv_istore (lv' := [(8, _), (7, _), (0, _), (1, _), (2, _), (3, _), (4, _), (5, _), (6, _)]) S.1 S.2.1 dL_step_329 hl (by decide) rfl (fun ls hl => ?_)
                    refine lv_aload_n S.1 S.2.1 dL_step_331 rfl (lv_at hl 2 rfl) ?_
                    refine lv_iload S.1 S.2.1 dL_step_332 (lv_at hl 1 rfl) ?_
                    refine g_cVi S G hF hl 7 (hV 7 _ (by first | decide | (show _ < 1; omega))) (by decide) (c_X6_earnedk l _ _ _ _ hV ht9) (cwV 1 S.2.2.2.2 gL_step_X6_earned rfl rfl rfl (by decide +kernel) ⟨Nat.le_of_ble_eq_true rfl, Nat.le_of_ble_eq_true rfl⟩) rfl rfl (Nat.le_of_ble_eq_true rfl) dL_step_334 ⟨Nat.le_of_ble_eq_true rfl, Nat.le_of_ble_eq_true rfl⟩ (fun r_334 u_334 H locs hp_334 G => ?_)
                    obtain ⟨rfl, rfl⟩ := hp_334
                    have G : gS D aC A s _ _ (gk _) H locs := G
                    refine lv_istore (lv' := [(9, _), (8, _), (7, _), (0, _), (1, _), (2, _), (3, _), (4, _), (5, _), (6, _)]) S.1 S.2.1 dL_step_337 hl (by decide) rfl (fun ls hl => ?_)
                    refine lv_aload_n S.1 S.2.1 dL_step_339 rfl (lv_at hl 3 rfl) ?_
                    refine lv_iload S.1 S.2.1 dL_step_340 (lv_at hl 2 rfl) ?_
                    refine g_cVi S G hF hl 7 (hV 7 _ (by first | decide | (show _ < 1; omega))) (by decide) (c_X6_bondk l _ _ _ _ hV ht9) (cwV 1 S.2.2.2.2 gL_step_X6_bond rfl rfl rfl (by decide +kernel) ⟨Nat.le_of_ble_eq_true rfl, Nat.le_of_ble_eq_true rfl⟩) rfl rfl (Nat.le_of_ble_eq_true rfl) dL_step_342 ⟨Nat.le_of_ble_eq_true rfl, Nat.le_of_ble_eq_true rfl⟩ (fun r_342 u_342 H locs hp_342 G => ?_)
                    obtain ⟨rfl, rfl⟩ := hp_342
                    have G : gS D aC A s _ _ (gk _) H locs := G
                    refine lv_istore (lv' := [(10, _), (9, _), (8, _), (7, _), (0, _), (1, _), (2, _), (3, _), (4, _), (5, _), (6, _)]) S.1 S.2.1 dL_step_345 hl (by decide) rfl (fun ls hl => ?_)
                    refine lv_aload_n S.1 S.2.1 dL_step_347 rfl (lv_at hl 4 rfl) ?_
                    refine lv_iconst (v := 4) S.1 S.2.1 dL_step_348 (by decide) ?_
                    refine lv_iload S.1 S.2.1 dL_step_349 (lv_at hl 3 rfl) ?_
                    refine lv_iload S.1 S.2.1 dL_step_351 (lv_at hl 2 rfl) ?_
                    refine lv_iconst (v := 0) S.1 S.2.1 dL_step_353 (by decide) ?_
                    by_cases hT : sTopUpT κ (nI t9) (nI n9) = 0
                    · have hno : ¬ sTopUpT κ (nI t9) (nI n9) = 2 := by rw [hT]; decide
                      refine g_cSWi S G hF hl (c_L_asks_topUp l hlf ids ad _ _ _ _ hV hno) (vx_cwSW 5 S.2.2.2.2 gL_step_L_asks rfl rfl rfl (by decide +kernel) ⟨Nat.le_of_ble_eq_true rfl, Nat.le_of_ble_eq_true rfl⟩) rfl rfl (Nat.le_of_ble_eq_true rfl) dL_step_354 ⟨Nat.le_of_ble_eq_true rfl, Nat.le_of_ble_eq_true rfl⟩ (fun r9 u9 H locs hp G => ?_)
                      obtain ⟨rfl, rfl⟩ := or3_0 hp hT
                      have G : gS D aC A s _ _ (gk _) H locs := G
                      rw [tN_nI (show t9 < 2 ^ 31 by omega)] at G
                      obtain ⟨J2, e2, p1, p2⟩ := op_topUp J.1 hT
                      rw [tN_nI (show t9 < 2 ^ 31 by omega)] at J2 e2 p1 p2
                      refine g_top (show _ = κ 5 t9 3 + nI n9 from by rw [tN_nI (show t9 < 2 ^ 31 by omega)]; exact p2) ?_
                      refine lv_istore (lv' := [(11, _), (10, _), (9, _), (8, _), (7, _), (0, _), (1, _), (2, _), (3, _), (4, _), (5, _), (6, _)]) S.1 S.2.1 dL_step_357 hl (by decide) rfl (fun ls hl => ?_)
                      refine lv_iload S.1 S.2.1 dL_step_359 (lv_at hl 2 rfl) ?_
                      refine lv_iload S.1 S.2.1 dL_step_361 (lv_at hl 3 rfl) ?_
                      refine lv_icmp_ge (tgt := 392) S.1 S.2.1 dL_step_363 (by decide) (fun c_363 => ?_) (fun c_363 => ?_)
                      · refine lv_iload S.1 S.2.1 dL_step_392 (lv_at hl 0 rfl) ?_
                        refine lv_iload S.1 S.2.1 dL_step_394 (lv_at hl 1 rfl) ?_
                        refine lv_iload S.1 S.2.1 dL_step_396 (lv_at hl 3 rfl) ?_
                        refine lv_iadd S.1 S.2.1 dL_step_398 ?_
                        refine lv_icmp_ne (tgt := 431) S.1 S.2.1 dL_step_399 (by decide) (fun c_399 => ?_) (fun c_399 => ?_)
                        · exact absurd rfl c_399
                        · refine lv_aload_n S.1 S.2.1 dL_step_402 rfl (lv_at hl 5 rfl) ?_
                          refine lv_iload S.1 S.2.1 dL_step_403 (lv_at hl 4 rfl) ?_
                          refine g_cVi S G hF hl 7 (hV 7 _ (by first | decide | (show _ < 1; omega))) (by decide) (c_X6_earnedk l _ _ _ _ hV ht9) (cwV 1 S.2.2.2.2 gL_step_X6_earned rfl rfl rfl (by decide +kernel) ⟨Nat.le_of_ble_eq_true rfl, Nat.le_of_ble_eq_true rfl⟩) rfl rfl (Nat.le_of_ble_eq_true rfl) dL_step_405 ⟨Nat.le_of_ble_eq_true rfl, Nat.le_of_ble_eq_true rfl⟩ (fun r_405 u_405 H locs hp_405 G => ?_)
                          obtain ⟨rfl, rfl⟩ := hp_405
                          have G : gS D aC A s _ _ (gk _) H locs := G
                          refine g_top (show _ = κ 5 t9 4 - nI n9 from p1) ?_
                          refine lv_iload S.1 S.2.1 dL_step_408 (lv_at hl 2 rfl) ?_
                          refine lv_iload S.1 S.2.1 dL_step_410 (lv_at hl 3 rfl) ?_
                          refine lv_isub S.1 S.2.1 dL_step_412 ?_
                          refine lv_icmp_ne (tgt := 431) S.1 S.2.1 dL_step_413 (by decide) (fun c_413 => ?_) (fun c_413 => ?_)
                          · exact absurd rfl c_413
                          · refine lv_aload_n S.1 S.2.1 dL_step_416 rfl (lv_at hl 5 rfl) ?_
                            refine lv_iload S.1 S.2.1 dL_step_417 (lv_at hl 4 rfl) ?_
                            refine g_cVi S G hF hl 7 (hV 7 _ (by first | decide | (show _ < 1; omega))) (by decide) (c_X6_bondk l _ _ _ _ hV ht9) (cwV 1 S.2.2.2.2 gL_step_X6_bond rfl rfl rfl (by decide +kernel) ⟨Nat.le_of_ble_eq_true rfl, Nat.le_of_ble_eq_true rfl⟩) rfl rfl (Nat.le_of_ble_eq_true rfl) dL_step_419 ⟨Nat.le_of_ble_eq_true rfl, Nat.le_of_ble_eq_true rfl⟩ (fun r_419 u_419 H locs hp_419 G => ?_)
                            obtain ⟨rfl, rfl⟩ := hp_419
                            have G : gS D aC A s _ _ (gk _) H locs := G
                            refine g_top (show _ = κ 5 t9 3 + nI n9 from p2) ?_
                            refine lv_iload S.1 S.2.1 dL_step_422 (lv_at hl 0 rfl) ?_
                            refine lv_icmp_ne (tgt := 431) S.1 S.2.1 dL_step_424 (by decide) (fun c_424 => ?_) (fun c_424 => ?_)
                            · exact absurd rfl c_424
                            · refine lv_iconst (v := 1) S.1 S.2.1 dL_step_427 (by decide) ?_
                              refine lv_goto (tgt := 432) S.1 S.2.1 dL_step_428 (by decide) ?_
                              exact g_zret S G hr hlk (by decide) (⟨rfl, ids, ad, _, rfl, J.to J2 e2 rfl (fun f i k hf => by rw [sTopUpK]; exact (upd3_n (by omega)).trans ((upd3_n (by omega)).trans (upd3_n (by omega)))) (Nat.le_succ N) (Nat.le_add_right _ _), rfl, rfl, rfl, rfl⟩) (Nat.le_of_ble_eq_true rfl) (Nat.le_of_ble_eq_true rfl) dL_step_432
                      · exact absurd (by rw [hTq] at hT; exact Decidable.byContradiction (fun z => absurd (hT.symm.trans (if_neg z)) (by decide))) c_363
                    · have hT3 : sTopUpT κ (nI t9) (nI n9) = 3 := by
                        rw [hTq] at hT ⊢
                        exact if_neg (fun z => hT (if_pos z))
                      have hno : ¬ sTopUpT κ (nI t9) (nI n9) = 2 := by rw [hT3]; decide
                      refine g_cSWi S G hF hl (c_L_asks_topUp l hlf ids ad _ _ _ _ hV hno) (vx_cwSW 5 S.2.2.2.2 gL_step_L_asks rfl rfl rfl (by decide +kernel) ⟨Nat.le_of_ble_eq_true rfl, Nat.le_of_ble_eq_true rfl⟩) rfl rfl (Nat.le_of_ble_eq_true rfl) dL_step_354 ⟨Nat.le_of_ble_eq_true rfl, Nat.le_of_ble_eq_true rfl⟩ (fun r9 u9 H locs hp G => ?_)
                      obtain ⟨rfl, rfl⟩ := or3_3 hp hT3
                      have G : gS D aC A s _ _ (gk _) H locs := G
                      refine lv_istore (lv' := [(11, _), (10, _), (9, _), (8, _), (7, _), (0, _), (1, _), (2, _), (3, _), (4, _), (5, _), (6, _)]) S.1 S.2.1 dL_step_357 hl (by decide) rfl (fun ls hl => ?_)
                      refine lv_iload S.1 S.2.1 dL_step_359 (lv_at hl 2 rfl) ?_
                      refine lv_iload S.1 S.2.1 dL_step_361 (lv_at hl 3 rfl) ?_
                      refine lv_icmp_ge (tgt := 392) S.1 S.2.1 dL_step_363 (by decide) (fun c_363 => ?_) (fun c_363 => ?_)
                      · exact absurd (hTq.trans (if_pos c_363)) hT
                      · refine lv_iload S.1 S.2.1 dL_step_366 (lv_at hl 0 rfl) ?_
                        refine lv_bipush (v := (-108)) S.1 S.2.1 dL_step_368 (by decide) ?_
                        refine lv_icmp_ne (tgt := 388) S.1 S.2.1 dL_step_370 (by decide) (fun c_370 => ?_) (fun c_370 => ?_)
                        · exact absurd c_370 (by decide)
                        · refine lv_aload_n S.1 S.2.1 dL_step_373 rfl (lv_at hl 5 rfl) ?_
                          refine lv_iload S.1 S.2.1 dL_step_374 (lv_at hl 4 rfl) ?_
                          refine g_cVi S G hF hl 7 (hV 7 _ (by first | decide | (show _ < 1; omega))) (by decide) (c_X6_bondk l _ _ _ _ hV ht9) (cwV 1 S.2.2.2.2 gL_step_X6_bond rfl rfl rfl (by decide +kernel) ⟨Nat.le_of_ble_eq_true rfl, Nat.le_of_ble_eq_true rfl⟩) rfl rfl (Nat.le_of_ble_eq_true rfl) dL_step_376 ⟨Nat.le_of_ble_eq_true rfl, Nat.le_of_ble_eq_true rfl⟩ (fun r_376 u_376 H locs hp_376 G => ?_)
                          obtain ⟨rfl, rfl⟩ := hp_376
                          have G : gS D aC A s _ _ (gk _) H locs := G
                          refine lv_iload S.1 S.2.1 dL_step_379 (lv_at hl 1 rfl) ?_
                          refine lv_icmp_ne (tgt := 388) S.1 S.2.1 dL_step_381 (by decide) (fun c_381 => ?_) (fun c_381 => ?_)
                          · exact absurd rfl c_381
                          · refine lv_iconst (v := 1) S.1 S.2.1 dL_step_384 (by decide) ?_
                            refine lv_goto (tgt := 432) S.1 S.2.1 dL_step_385 (by decide) ?_
                            exact g_zret S G hr hlk (by decide) (⟨rfl, ids, ad, κ, rfl, J.up (Nat.le_succ N) (Nat.le_add_right _ _), rfl, rfl, rfl, rfl⟩) (Nat.le_of_ble_eq_true rfl) (Nat.le_of_ble_eq_true rfl) dL_step_432
                · refine lv_aload_n S.1 S.2.1 dL_step_254 rfl (lv_at hl 0 rfl) ?_
                  refine lv_iload_n S.1 S.2.1 dL_step_255 rfl (lv_at hl 2 rfl) ?_
                  refine lv_bipush (v := 12) S.1 S.2.1 dL_step_256 (by decide) ?_
                  refine lv_irem S.1 S.2.1 dL_step_258 (by decide) ?_
                  refine g_top (jrem12 (by omega)) ?_
                  refine lv_iconst (v := 1) S.1 S.2.1 dL_step_259 (by decide) ?_
                  refine lv_iload_n S.1 S.2.1 dL_step_260 rfl (lv_at hl 3 rfl) ?_
                  refine lv_bipush (v := 20) S.1 S.2.1 dL_step_261 (by decide) ?_
                  refine lv_irem S.1 S.2.1 dL_step_263 (by decide) ?_
                  refine g_top (jrem20 (by omega)) ?_
                  refine lv_iadd S.1 S.2.1 dL_step_264 ?_
                  have hT := prcT_0 (a := X % 12) (n := 1 + Y % 20) (by omega) (by omega) (by omega)
                  obtain ⟨pr1, pr2⟩ := prc_rng (j := X % 12) J.1 (by omega)
                  refine g_top (nI_add 1 (Y % 20)) ?_
                  refine gx_cVi S G hF hl 7 (hV 7 _ (by first | decide | (show _ < 1; omega))) (by decide) (c_X6_setPrice l hlf _ _ _ _ _ hV) (cwV 2 S.2.2.2.2 gL_step_X6_setPrice rfl rfl rfl (by decide +kernel) ⟨Nat.le_of_ble_eq_true rfl, Nat.le_of_ble_eq_true rfl⟩) rfl rfl (Nat.le_of_ble_eq_true rfl) dL_step_265 ⟨Nat.le_of_ble_eq_true rfl, Nat.le_of_ble_eq_true rfl⟩ (fun _ _ _ _ _ _ hp _ _ _ _ => (xE_0 hp.1 hT).elim) (fun r_265 u_265 H locs hp_265 G => ?_)
                  obtain ⟨-, rfl, rfl⟩ := hp_265
                  have G : gS D aC A s _ _ (gk _) H locs := G
                  rw [tN_nI (show X % 12 < 2 ^ 31 by omega)] at G
                  obtain ⟨J2, e2⟩ := op_setPrice J.1 hT
                  rw [tN_nI (show X % 12 < 2 ^ 31 by omega)] at J2 e2
                  refine g_top (congrArg (fun z => κ 5 z 2) (tN_nI (show X % 12 < 2 ^ 31 by omega))) ?_
                  refine lv_istore (lv' := [(7, _), (0, _), (1, _), (2, _), (3, _), (4, _), (5, _), (6, _)]) S.1 S.2.1 dL_step_268 hl (by decide) rfl (fun ls hl => ?_)
                  refine lv_iload S.1 S.2.1 dL_step_270 (lv_at hl 0 rfl) ?_
                  refine lv_if_le (tgt := 309) S.1 S.2.1 dL_step_272 (by decide) (fun c_272 => ?_) (fun c_272 => ?_)
                  · exact absurd c_272 pr1
                  · refine lv_iload S.1 S.2.1 dL_step_275 (lv_at hl 0 rfl) ?_
                    refine lv_bipush (v := 20) S.1 S.2.1 dL_step_277 (by decide) ?_
                    refine lv_icmp_gt (tgt := 309) S.1 S.2.1 dL_step_279 (by decide) (fun c_279 => ?_) (fun c_279 => ?_)
                    · exact absurd c_279 pr2
                    · refine lv_aload_n S.1 S.2.1 dL_step_282 rfl (lv_at hl 1 rfl) ?_
                      refine lv_iload_n S.1 S.2.1 dL_step_283 rfl (lv_at hl 3 rfl) ?_
                      refine lv_bipush (v := 12) S.1 S.2.1 dL_step_284 (by decide) ?_
                      refine lv_irem S.1 S.2.1 dL_step_286 (by decide) ?_
                      refine g_top (jrem12 (by omega)) ?_
                      refine lv_iconst (v := 1) S.1 S.2.1 dL_step_287 (by decide) ?_
                      refine lv_iload_n S.1 S.2.1 dL_step_288 rfl (lv_at hl 4 rfl) ?_
                      refine lv_bipush (v := 20) S.1 S.2.1 dL_step_289 (by decide) ?_
                      refine lv_irem S.1 S.2.1 dL_step_291 (by decide) ?_
                      refine g_top (jrem20 (by omega)) ?_
                      refine lv_iadd S.1 S.2.1 dL_step_292 ?_
                      refine g_top (nI_add 1 (Y % 20)) ?_
                      refine gx_cVi S G hF hl 7 (hV 7 _ (by first | decide | (show _ < 1; omega))) (by decide) (c_X6_setPrice l hlf _ _ _ _ _ hV) (cwV 2 S.2.2.2.2 gL_step_X6_setPrice rfl rfl rfl (by decide +kernel) ⟨Nat.le_of_ble_eq_true rfl, Nat.le_of_ble_eq_true rfl⟩) rfl rfl (Nat.le_of_ble_eq_true rfl) dL_step_293 ⟨Nat.le_of_ble_eq_true rfl, Nat.le_of_ble_eq_true rfl⟩ (fun _ _ _ _ _ _ hp _ _ _ _ => (xE_0 hp.1 hT).elim) (fun r_293 u_293 H locs hp_293 G => ?_)
                      obtain ⟨-, rfl, rfl⟩ := hp_293
                      have G : gS D aC A s _ _ (gk _) H locs := G
                      rw [tN_nI (show X % 12 < 2 ^ 31 by omega)] at G
                      obtain ⟨J3, e3⟩ := op_setPrice J2 hT
                      rw [tN_nI (show X % 12 < 2 ^ 31 by omega)] at J3 e3
                      refine g_top (show _ = nI (1 + Y % 20) from by rw [tN_nI (show X % 12 < 2 ^ 31 by omega), upd3_s]) ?_
                      refine lv_iconst (v := 1) S.1 S.2.1 dL_step_296 (by decide) ?_
                      refine lv_iload_n S.1 S.2.1 dL_step_297 rfl (lv_at hl 4 rfl) ?_
                      refine lv_bipush (v := 20) S.1 S.2.1 dL_step_298 (by decide) ?_
                      refine lv_irem S.1 S.2.1 dL_step_300 (by decide) ?_
                      refine g_top (jrem20 (by omega)) ?_
                      refine lv_iadd S.1 S.2.1 dL_step_301 ?_
                      refine g_top (nI_add 1 (Y % 20)) ?_
                      refine lv_icmp_ne (tgt := 309) S.1 S.2.1 dL_step_302 (by decide) (fun c_302 => ?_) (fun c_302 => ?_)
                      · exact absurd rfl c_302
                      · refine lv_iconst (v := 1) S.1 S.2.1 dL_step_305 (by decide) ?_
                        refine lv_goto (tgt := 310) S.1 S.2.1 dL_step_306 (by decide) ?_
                        exact g_zret S G hr hlk (by decide) (⟨rfl, ids, ad, _, rfl, (J.to J2 e2 rfl (fun f i k hf => upd3_n (by omega)) (Nat.le_refl _) (Nat.le_refl _)).to J3 e3 rfl (fun f i k hf => upd3_n (by omega)) (Nat.le_succ N) (Nat.le_add_right _ _), rfl, rfl, rfl, rfl⟩) (Nat.le_of_ble_eq_true rfl) (Nat.le_of_ble_eq_true rfl) dL_step_310
              · refine lv_iload_n S.1 S.2.1 dL_step_149 rfl (lv_at hl 3 rfl) ?_
                refine lv_bipush (v := 6) S.1 S.2.1 dL_step_150 (by decide) ?_
                refine lv_irem S.1 S.2.1 dL_step_152 (by decide) ?_
                refine g_top (jrem6 (by omega)) ?_
                refine lv_istore (lv' := [(7, _), (0, _), (1, _), (2, _), (3, _), (4, _), (5, _), (6, _)]) S.1 S.2.1 dL_step_153 hl (by decide) rfl (fun ls hl => ?_)
                refine lv_aload_n S.1 S.2.1 dL_step_155 rfl (lv_at hl 1 rfl) ?_
                refine lv_iload_n S.1 S.2.1 dL_step_156 rfl (lv_at hl 3 rfl) ?_
                refine lv_bipush (v := 12) S.1 S.2.1 dL_step_157 (by decide) ?_
                refine lv_irem S.1 S.2.1 dL_step_159 (by decide) ?_
                refine g_top (jrem12 (by omega)) ?_
                refine lv_iload S.1 S.2.1 dL_step_160 (lv_at hl 0 rfl) ?_
                have hT := attT_0 (a := X % 12) (b := Y % 6) (by omega) (by omega)
                obtain ⟨h9, eh9⟩ : ∃ z, tN (κ 5 (X % 12) 1) = z := ⟨_, rfl⟩
                have hh9 : h9 < 6 := by rw [← eh9]; exact (hW.2.2.2.2.2.1 (X % 12) (by omega)).2
                refine gx_cVi S G hF hl 7 (hV 7 _ (by first | decide | (show _ < 1; omega))) (by decide) (c_X6_attach l hlf _ _ _ _ _ hV hW) (cwV 2 S.2.2.2.2 gL_step_X6_attach rfl rfl rfl (by decide +kernel) ⟨Nat.le_of_ble_eq_true rfl, Nat.le_of_ble_eq_true rfl⟩) rfl rfl (Nat.le_of_ble_eq_true rfl) dL_step_162 ⟨Nat.le_of_ble_eq_true rfl, Nat.le_of_ble_eq_true rfl⟩ (fun _ _ _ _ _ _ hp _ _ _ _ => (xE_0 hp.1 hT).elim) (fun r_162 u_162 H locs hp_162 G => ?_)
                obtain ⟨-, rfl, rfl⟩ := hp_162
                have G : gS D aC A s _ _ (gk _) H locs := G
                rw [tN_nI (show X % 12 < 2 ^ 31 by omega), tN_nI (show Y % 6 < 2 ^ 31 by omega)] at G
                obtain ⟨J2, e2⟩ := op_attach J.1 hT
                rw [tN_nI (show X % 12 < 2 ^ 31 by omega), tN_nI (show Y % 6 < 2 ^ 31 by omega)] at J2 e2
                obtain ⟨w9, ew9⟩ : ∃ z, tN (κ 4 (1 + X % 5) 1) = z := ⟨_, rfl⟩
                have hw9 : w9 < 1 + X % 5 := by rw [← ew9]; exact (hW.2.2.2.2.1 (1 + X % 5) (by omega) (by omega)).2
                refine g_top (show _ = nI h9 from by rw [tN_nI (show X % 12 < 2 ^ 31 by omega), eh9]) ?_
                refine lv_istore (lv' := [(8, _), (7, _), (0, _), (1, _), (2, _), (3, _), (4, _), (5, _), (6, _)]) S.1 S.2.1 dL_step_165 hl (by decide) rfl (fun ls hl => ?_)
                refine lv_aload_n S.1 S.2.1 dL_step_167 rfl (lv_at hl 2 rfl) ?_
                refine lv_iconst (v := 5) S.1 S.2.1 dL_step_168 (by decide) ?_
                refine lv_iconst (v := 1) S.1 S.2.1 dL_step_169 (by decide) ?_
                refine lv_iload_n S.1 S.2.1 dL_step_170 rfl (lv_at hl 4 rfl) ?_
                refine lv_iconst (v := 5) S.1 S.2.1 dL_step_171 (by decide) ?_
                refine lv_irem S.1 S.2.1 dL_step_172 (by decide) ?_
                refine g_top (jrem5 (by omega)) ?_
                refine lv_iadd S.1 S.2.1 dL_step_173 ?_
                refine g_top (nI_add 1 (X % 5)) ?_
                refine lv_iload_n S.1 S.2.1 dL_step_174 rfl (lv_at hl 5 rfl) ?_
                refine lv_iconst (v := 5) S.1 S.2.1 dL_step_175 (by decide) ?_
                refine lv_irem S.1 S.2.1 dL_step_176 (by decide) ?_
                refine g_top (jrem5 (by omega)) ?_
                refine lv_iconst (v := 0) S.1 S.2.1 dL_step_177 (by decide) ?_
                by_cases hq : Y % 5 ≤ X % 5
                · have hH : sHangT (nI (1 + X % 5)) (nI (Y % 5)) = 0 := by rw [hangT_at (by omega) (by omega) (by omega), if_pos (by omega)]
                  have hno : ¬ sHangT (nI (1 + X % 5)) (nI (Y % 5)) = 2 := by rw [hH]; decide
                  refine g_cSWi S G hF hl (c_L_asks_hang l hlf ids ad _ _ _ _ hV J2.2.1 hno) (vx_cwSW 5 S.2.2.2.2 gL_step_L_asks rfl rfl rfl (by decide +kernel) ⟨Nat.le_of_ble_eq_true rfl, Nat.le_of_ble_eq_true rfl⟩) rfl rfl (Nat.le_of_ble_eq_true rfl) dL_step_178 ⟨Nat.le_of_ble_eq_true rfl, Nat.le_of_ble_eq_true rfl⟩ (fun r9 u9 H locs hp G => ?_)
                  obtain ⟨rfl, rfl⟩ := or3_0 hp hH
                  have G : gS D aC A s _ _ (gk _) H locs := G
                  rw [tN_nI (show 1 + X % 5 < 2 ^ 31 by omega), tN_nI (show Y % 5 < 2 ^ 31 by omega)] at G
                  obtain ⟨J4, e4⟩ := op_hang J2 hH
                  rw [tN_nI (show 1 + X % 5 < 2 ^ 31 by omega), tN_nI (show Y % 5 < 2 ^ 31 by omega)] at J4 e4
                  have P4 : PL (N + 1) (B + 12) ids _ := (J.to J2 e2 rfl (fun f i k hf => upd3_n (by omega)) (Nat.le_refl _) (Nat.le_refl _)).to J4 e4 rfl (fun f i k hf => upd3_n (by omega)) (Nat.le_succ N) (Nat.le_add_right _ _)
                  have k4 : upd3 (upd3 κ 5 (X % 12) 1 (nI (Y % 6))) 4 (1 + X % 5) 1 (nI (Y % 5)) 5 (X % 12) 1 = nI (Y % 6) := (upd3_f (by decide)).trans upd3_s
                  refine g_top (show _ = nI w9 from by rw [tN_nI (show 1 + X % 5 < 2 ^ 31 by omega)]; exact congrArg nI ew9) ?_
                  refine lv_istore (lv' := [(9, _), (8, _), (7, _), (0, _), (1, _), (2, _), (3, _), (4, _), (5, _), (6, _)]) S.1 S.2.1 dL_step_181 hl (by decide) rfl (fun ls hl => ?_)
                  refine lv_iload S.1 S.2.1 dL_step_183 (lv_at hl 1 rfl) ?_
                  refine lv_if_lt (tgt := 246) S.1 S.2.1 dL_step_185 (by decide) (fun c_185 => ?_) (fun c_185 => ?_)
                  · exact absurd c_185 (nI_pos (by omega))
                  · refine lv_iload S.1 S.2.1 dL_step_188 (lv_at hl 1 rfl) ?_
                    refine lv_bipush (v := 6) S.1 S.2.1 dL_step_190 (by decide) ?_
                    refine lv_icmp_ge (tgt := 246) S.1 S.2.1 dL_step_192 (by decide) (fun c_192 => ?_) (fun c_192 => ?_)
                    · exact absurd ((nI_leI (a := 6) (b := h9) (by decide) (by omega)).mp c_192) (by omega)
                    · refine lv_aload_n S.1 S.2.1 dL_step_195 rfl (lv_at hl 3 rfl) ?_
                      refine lv_iload_n S.1 S.2.1 dL_step_196 rfl (lv_at hl 5 rfl) ?_
                      refine lv_bipush (v := 12) S.1 S.2.1 dL_step_197 (by decide) ?_
                      refine lv_irem S.1 S.2.1 dL_step_199 (by decide) ?_
                      refine g_top (jrem12 (by omega)) ?_
                      refine lv_iload S.1 S.2.1 dL_step_200 (lv_at hl 2 rfl) ?_
                      have hT := attT_0 (a := X % 12) (b := Y % 6) (by omega) (by omega)
                      refine gx_cVi S G hF hl 7 (hV 7 _ (by first | decide | (show _ < 1; omega))) (by decide) (c_X6_attach l hlf _ _ _ _ _ hV J4.2.1) (cwV 2 S.2.2.2.2 gL_step_X6_attach rfl rfl rfl (by decide +kernel) ⟨Nat.le_of_ble_eq_true rfl, Nat.le_of_ble_eq_true rfl⟩) rfl rfl (Nat.le_of_ble_eq_true rfl) dL_step_202 ⟨Nat.le_of_ble_eq_true rfl, Nat.le_of_ble_eq_true rfl⟩ (fun _ _ _ _ _ _ hp _ _ _ _ => (xE_0 hp.1 hT).elim) (fun r_202 u_202 H locs hp_202 G => ?_)
                      obtain ⟨-, rfl, rfl⟩ := hp_202
                      have G : gS D aC A s _ _ (gk _) H locs := G
                      rw [tN_nI (show X % 12 < 2 ^ 31 by omega), tN_nI (show Y % 6 < 2 ^ 31 by omega)] at G
                      obtain ⟨J5, e5⟩ := op_attach J4 hT
                      rw [tN_nI (show X % 12 < 2 ^ 31 by omega), tN_nI (show Y % 6 < 2 ^ 31 by omega)] at J5 e5
                      refine g_top (show _ = nI (Y % 6) from by rw [tN_nI (show X % 12 < 2 ^ 31 by omega), k4, tN_nI (by omega)]) ?_
                      refine lv_iload S.1 S.2.1 dL_step_205 (lv_at hl 2 rfl) ?_
                      refine lv_icmp_ne (tgt := 246) S.1 S.2.1 dL_step_207 (by decide) (fun c_207 => ?_) (fun c_207 => ?_)
                      · exact absurd rfl c_207
                      · refine lv_iload_n S.1 S.2.1 dL_step_210 rfl (lv_at hl 6 rfl) ?_
                        refine lv_iconst (v := 5) S.1 S.2.1 dL_step_211 (by decide) ?_
                        refine lv_irem S.1 S.2.1 dL_step_212 (by decide) ?_
                        refine g_top (jrem5 (by omega)) ?_
                        refine lv_iload_n S.1 S.2.1 dL_step_213 rfl (lv_at hl 5 rfl) ?_
                        refine lv_iconst (v := 5) S.1 S.2.1 dL_step_214 (by decide) ?_
                        refine lv_irem S.1 S.2.1 dL_step_215 (by decide) ?_
                        refine g_top (jrem5 (by omega)) ?_
                        refine lv_icmp_le (tgt := 229) S.1 S.2.1 dL_step_216 (by decide) (fun c_216 => ?_) (fun c_216 => ?_)
                        · refine lv_iload S.1 S.2.1 dL_step_229 (lv_at hl 0 rfl) ?_
                          refine lv_if_lt (tgt := 246) S.1 S.2.1 dL_step_231 (by decide) (fun c_231 => ?_) (fun c_231 => ?_)
                          · exact absurd c_231 (nI_pos (by omega))
                          · refine lv_iload S.1 S.2.1 dL_step_234 (lv_at hl 0 rfl) ?_
                            refine lv_iload_n S.1 S.2.1 dL_step_236 rfl (lv_at hl 5 rfl) ?_
                            refine lv_iconst (v := 5) S.1 S.2.1 dL_step_237 (by decide) ?_
                            refine lv_irem S.1 S.2.1 dL_step_238 (by decide) ?_
                            refine g_top (jrem5 (by omega)) ?_
                            refine lv_icmp_gt (tgt := 246) S.1 S.2.1 dL_step_239 (by decide) (fun c_239 => ?_) (fun c_239 => ?_)
                            · exact absurd ((nI_ltI (by omega) (by omega)).mp c_239) (by omega)
                            · refine lv_iconst (v := 1) S.1 S.2.1 dL_step_242 (by decide) ?_
                              refine lv_goto (tgt := 247) S.1 S.2.1 dL_step_243 (by decide) ?_
                              exact g_zret S G hr hlk (by decide) (⟨rfl, ids, ad, _, rfl, P4.to J5 e5 rfl (fun f i k hf => upd3_n (by omega)) (Nat.le_refl _) (Nat.le_refl _), rfl, rfl, rfl, rfl⟩) (Nat.le_of_ble_eq_true rfl) (Nat.le_of_ble_eq_true rfl) dL_step_247
                        · exact absurd ((nI_leI (by omega) (by omega)).mpr hq) c_216
                · have hH : sHangT (nI (1 + X % 5)) (nI (Y % 5)) = 1 := by rw [hangT_at (by omega) (by omega) (by omega), if_neg (by omega)]
                  have hno : ¬ sHangT (nI (1 + X % 5)) (nI (Y % 5)) = 2 := by rw [hH]; decide
                  refine g_cSWi S G hF hl (c_L_asks_hang l hlf ids ad _ _ _ _ hV J2.2.1 hno) (vx_cwSW 5 S.2.2.2.2 gL_step_L_asks rfl rfl rfl (by decide +kernel) ⟨Nat.le_of_ble_eq_true rfl, Nat.le_of_ble_eq_true rfl⟩) rfl rfl (Nat.le_of_ble_eq_true rfl) dL_step_178 ⟨Nat.le_of_ble_eq_true rfl, Nat.le_of_ble_eq_true rfl⟩ (fun r9 u9 H locs hp G => ?_)
                  obtain ⟨rfl, rfl⟩ := or3_1 hp hH
                  have G : gS D aC A s _ _ (gk _) H locs := G
                  have J4 := J2
                  have P4 : PL (N + 1) (B + 12) ids _ := J.to J2 e2 rfl (fun f i k hf => upd3_n (by omega)) (Nat.le_succ N) (Nat.le_add_right _ _)
                  have k4 : upd3 κ 5 (X % 12) 1 (nI (Y % 6)) 5 (X % 12) 1 = nI (Y % 6) := upd3_s
                  refine lv_istore (lv' := [(9, _), (8, _), (7, _), (0, _), (1, _), (2, _), (3, _), (4, _), (5, _), (6, _)]) S.1 S.2.1 dL_step_181 hl (by decide) rfl (fun ls hl => ?_)
                  refine lv_iload S.1 S.2.1 dL_step_183 (lv_at hl 1 rfl) ?_
                  refine lv_if_lt (tgt := 246) S.1 S.2.1 dL_step_185 (by decide) (fun c_185 => ?_) (fun c_185 => ?_)
                  · exact absurd c_185 (nI_pos (by omega))
                  · refine lv_iload S.1 S.2.1 dL_step_188 (lv_at hl 1 rfl) ?_
                    refine lv_bipush (v := 6) S.1 S.2.1 dL_step_190 (by decide) ?_
                    refine lv_icmp_ge (tgt := 246) S.1 S.2.1 dL_step_192 (by decide) (fun c_192 => ?_) (fun c_192 => ?_)
                    · exact absurd ((nI_leI (a := 6) (b := h9) (by decide) (by omega)).mp c_192) (by omega)
                    · refine lv_aload_n S.1 S.2.1 dL_step_195 rfl (lv_at hl 3 rfl) ?_
                      refine lv_iload_n S.1 S.2.1 dL_step_196 rfl (lv_at hl 5 rfl) ?_
                      refine lv_bipush (v := 12) S.1 S.2.1 dL_step_197 (by decide) ?_
                      refine lv_irem S.1 S.2.1 dL_step_199 (by decide) ?_
                      refine g_top (jrem12 (by omega)) ?_
                      refine lv_iload S.1 S.2.1 dL_step_200 (lv_at hl 2 rfl) ?_
                      have hT := attT_0 (a := X % 12) (b := Y % 6) (by omega) (by omega)
                      refine gx_cVi S G hF hl 7 (hV 7 _ (by first | decide | (show _ < 1; omega))) (by decide) (c_X6_attach l hlf _ _ _ _ _ hV J4.2.1) (cwV 2 S.2.2.2.2 gL_step_X6_attach rfl rfl rfl (by decide +kernel) ⟨Nat.le_of_ble_eq_true rfl, Nat.le_of_ble_eq_true rfl⟩) rfl rfl (Nat.le_of_ble_eq_true rfl) dL_step_202 ⟨Nat.le_of_ble_eq_true rfl, Nat.le_of_ble_eq_true rfl⟩ (fun _ _ _ _ _ _ hp _ _ _ _ => (xE_0 hp.1 hT).elim) (fun r_202 u_202 H locs hp_202 G => ?_)
                      obtain ⟨-, rfl, rfl⟩ := hp_202
                      have G : gS D aC A s _ _ (gk _) H locs := G
                      rw [tN_nI (show X % 12 < 2 ^ 31 by omega), tN_nI (show Y % 6 < 2 ^ 31 by omega)] at G
                      obtain ⟨J5, e5⟩ := op_attach J4 hT
                      rw [tN_nI (show X % 12 < 2 ^ 31 by omega), tN_nI (show Y % 6 < 2 ^ 31 by omega)] at J5 e5
                      refine g_top (show _ = nI (Y % 6) from by rw [tN_nI (show X % 12 < 2 ^ 31 by omega), k4, tN_nI (by omega)]) ?_
                      refine lv_iload S.1 S.2.1 dL_step_205 (lv_at hl 2 rfl) ?_
                      refine lv_icmp_ne (tgt := 246) S.1 S.2.1 dL_step_207 (by decide) (fun c_207 => ?_) (fun c_207 => ?_)
                      · exact absurd rfl c_207
                      · refine lv_iload_n S.1 S.2.1 dL_step_210 rfl (lv_at hl 6 rfl) ?_
                        refine lv_iconst (v := 5) S.1 S.2.1 dL_step_211 (by decide) ?_
                        refine lv_irem S.1 S.2.1 dL_step_212 (by decide) ?_
                        refine g_top (jrem5 (by omega)) ?_
                        refine lv_iload_n S.1 S.2.1 dL_step_213 rfl (lv_at hl 5 rfl) ?_
                        refine lv_iconst (v := 5) S.1 S.2.1 dL_step_214 (by decide) ?_
                        refine lv_irem S.1 S.2.1 dL_step_215 (by decide) ?_
                        refine g_top (jrem5 (by omega)) ?_
                        refine lv_icmp_le (tgt := 229) S.1 S.2.1 dL_step_216 (by decide) (fun c_216 => ?_) (fun c_216 => ?_)
                        · exact absurd ((nI_leI (by omega) (by omega)).mp c_216) hq
                        · refine lv_iload S.1 S.2.1 dL_step_219 (lv_at hl 0 rfl) ?_
                          refine lv_bipush (v := (-107)) S.1 S.2.1 dL_step_221 (by decide) ?_
                          refine lv_icmp_ne (tgt := 246) S.1 S.2.1 dL_step_223 (by decide) (fun c_223 => ?_) (fun c_223 => ?_)
                          · exact absurd c_223 (by decide)
                          · refine lv_goto (tgt := 242) S.1 S.2.1 dL_step_226 (by decide) ?_
                            refine lv_iconst (v := 1) S.1 S.2.1 dL_step_242 (by decide) ?_
                            refine lv_goto (tgt := 247) S.1 S.2.1 dL_step_243 (by decide) ?_
                            exact g_zret S G hr hlk (by decide) (⟨rfl, ids, ad, _, rfl, P4.to J5 e5 rfl (fun f i k hf => upd3_n (by omega)) (Nat.le_refl _) (Nat.le_refl _), rfl, rfl, rfl, rfl⟩) (Nat.le_of_ble_eq_true rfl) (Nat.le_of_ble_eq_true rfl) dL_step_247
            · refine jnN (X := fun n => W p l e (headSpec wsL_step ({ frames := 10, cells := 24, slots := 192, locals := 198 } : Room)).room s m ([.ref (ad 7 0), .int what, .int (nI X), .int (nI Y), .ref (ad 20 0), .ref (ad 21 0), .ref (ad 22 0)] : List Value).toArray below meth c s.heap [] (0) (0) (MQ below (va_Qi (fun q u => q = 1 ∧ ∃ (ids' : gIds) (ad' : gAd) (κ' : gMem), u = (ids', ad', gk κ') ∧ PL (N + 1) (B + 12) ids' κ' ∧ ad' 7 0 = ad 7 0 ∧ ad' 20 0 = ad 20 0 ∧ ad' 21 0 = ad 21 0 ∧ ad' 22 0 = ad 22 0) (gE D aC A) A) ([.ref (ad 7 0), .int what, .int (nI X), .int (nI Y), .ref (ad 20 0), .ref (ad 21 0), .ref (ad 22 0)] : List Value).toArray s 24 192 A) (F0 m 105 ls [.int (nI n)])) (fun n => n = 0 ∨ (2 ≤ n ∧ n ≤ 9)) (fun K105 => ?_) ?_
              · refine lv_iload_n S.1 S.2.1 dL_step_88 rfl (lv_at hl 3 rfl) ?_
                refine lv_bipush (v := 9) S.1 S.2.1 dL_step_89 (by decide) ?_
                refine lv_irem S.1 S.2.1 dL_step_91 (by decide) ?_
                refine g_top (jrem9 (by omega)) ?_
                refine lv_if_ne (tgt := 99) S.1 S.2.1 dL_step_92 (by decide) (fun c_92 => ?_) (fun c_92 => ?_)
                · refine lv_iconst (v := 1) S.1 S.2.1 dL_step_99 (by decide) ?_
                  refine lv_iload_n S.1 S.2.1 dL_step_100 rfl (lv_at hl 3 rfl) ?_
                  refine lv_bipush (v := 9) S.1 S.2.1 dL_step_101 (by decide) ?_
                  refine lv_irem S.1 S.2.1 dL_step_103 (by decide) ?_
                  refine g_top (jrem9 (by omega)) ?_
                  refine lv_iadd S.1 S.2.1 dL_step_104 ?_
                  refine g_top (nI_add 1 (Y % 9)) ?_
                  exact K105 (1 + Y % 9) (Or.inr ⟨by have : Y % 9 ≠ 0 := fun z => c_92 (by rw [z]; rfl); omega, by omega⟩)
                · refine lv_iconst (v := 0) S.1 S.2.1 dL_step_95 (by decide) ?_
                  refine lv_goto (tgt := 105) S.1 S.2.1 dL_step_96 (by decide) ?_
                  exact K105 0 (Or.inl rfl)
              · intro n9 hn9
                refine lv_istore (lv' := [(7, _), (0, _), (1, _), (2, _), (3, _), (4, _), (5, _), (6, _)]) S.1 S.2.1 dL_step_105 hl (by decide) rfl (fun ls hl => ?_)
                refine lv_aload_n S.1 S.2.1 dL_step_107 rfl (lv_at hl 1 rfl) ?_
                refine lv_iload_n S.1 S.2.1 dL_step_108 rfl (lv_at hl 3 rfl) ?_
                refine lv_bipush (v := 6) S.1 S.2.1 dL_step_109 (by decide) ?_
                refine lv_irem S.1 S.2.1 dL_step_111 (by decide) ?_
                refine g_top (jrem6 (by omega)) ?_
                refine lv_iload S.1 S.2.1 dL_step_112 (lv_at hl 0 rfl) ?_
                have hT := lossT_0 (a := X % 6) (n := n9) (by omega) hn9
                refine gx_cVi S G hF hl 7 (hV 7 _ (by first | decide | (show _ < 1; omega))) (by decide) (c_X6_setLoss l hlf _ _ _ _ _ hV) (cwV 2 S.2.2.2.2 gL_step_X6_setLoss rfl rfl rfl (by decide +kernel) ⟨Nat.le_of_ble_eq_true rfl, Nat.le_of_ble_eq_true rfl⟩) rfl rfl (Nat.le_of_ble_eq_true rfl) dL_step_114 ⟨Nat.le_of_ble_eq_true rfl, Nat.le_of_ble_eq_true rfl⟩ (fun _ _ _ _ _ _ hp _ _ _ _ => (xE_0 hp.1 hT).elim) (fun r_114 u_114 H locs hp_114 G => ?_)
                obtain ⟨-, rfl, rfl⟩ := hp_114
                have G : gS D aC A s _ _ (gk _) H locs := G
                rw [tN_nI (show X % 6 < 2 ^ 31 by omega)] at G
                obtain ⟨J2, e2⟩ := op_setLoss J.1 hT
                rw [tN_nI (show X % 6 < 2 ^ 31 by omega)] at J2 e2
                refine g_top (congrArg (sLost κ) (tN_nI (show X % 6 < 2 ^ 31 by omega))) ?_
                refine lv_istore (lv' := [(8, _), (7, _), (0, _), (1, _), (2, _), (3, _), (4, _), (5, _), (6, _)]) S.1 S.2.1 dL_step_117 hl (by decide) rfl (fun ls hl => ?_)
                refine lv_iload S.1 S.2.1 dL_step_119 (lv_at hl 0 rfl) ?_
                refine lv_if_lt (tgt := 141) S.1 S.2.1 dL_step_121 (by decide) (fun c_121 => ?_) (fun c_121 => ?_)
                · exact absurd c_121 (loss_nn J.1 (by omega))
                · refine lv_aload_n S.1 S.2.1 dL_step_124 rfl (lv_at hl 2 rfl) ?_
                  refine lv_iload_n S.1 S.2.1 dL_step_125 rfl (lv_at hl 4 rfl) ?_
                  refine lv_bipush (v := 6) S.1 S.2.1 dL_step_126 (by decide) ?_
                  refine lv_irem S.1 S.2.1 dL_step_128 (by decide) ?_
                  refine g_top (jrem6 (by omega)) ?_
                  refine lv_iload S.1 S.2.1 dL_step_129 (lv_at hl 1 rfl) ?_
                  refine gx_cVi S G hF hl 7 (hV 7 _ (by first | decide | (show _ < 1; omega))) (by decide) (c_X6_setLoss l hlf _ _ _ _ _ hV) (cwV 2 S.2.2.2.2 gL_step_X6_setLoss rfl rfl rfl (by decide +kernel) ⟨Nat.le_of_ble_eq_true rfl, Nat.le_of_ble_eq_true rfl⟩) rfl rfl (Nat.le_of_ble_eq_true rfl) dL_step_131 ⟨Nat.le_of_ble_eq_true rfl, Nat.le_of_ble_eq_true rfl⟩ (fun _ _ _ _ _ _ hp _ _ _ _ => (xE_0 hp.1 hT).elim) (fun r_131 u_131 H locs hp_131 G => ?_)
                  obtain ⟨-, rfl, rfl⟩ := hp_131
                  have G : gS D aC A s _ _ (gk _) H locs := G
                  rw [tN_nI (show X % 6 < 2 ^ 31 by omega)] at G
                  obtain ⟨J3, e3⟩ := op_setLoss J2 hT
                  rw [tN_nI (show X % 6 < 2 ^ 31 by omega)] at J3 e3
                  refine g_top (show _ = (0 : Int32) from by rw [tN_nI (show X % 6 < 2 ^ 31 by omega)]; exact loss_0 (by omega)) ?_
                  refine lv_if_ne (tgt := 141) S.1 S.2.1 dL_step_134 (by decide) (fun c_134 => ?_) (fun c_134 => ?_)
                  · exact absurd rfl c_134
                  · refine lv_iconst (v := 1) S.1 S.2.1 dL_step_137 (by decide) ?_
                    refine lv_goto (tgt := 142) S.1 S.2.1 dL_step_138 (by decide) ?_
                    exact g_zret S G hr hlk (by decide) (⟨rfl, ids, ad, _, rfl, (J.to J2 e2 rfl (fun f i k hf => (upd3_n (by omega)).trans (upd3_n (by omega))) (Nat.le_refl _) (Nat.le_refl _)).to J3 e3 rfl (fun f i k hf => (upd3_n (by omega)).trans (upd3_n (by omega))) (Nat.le_succ N) (Nat.le_add_right _ _), rfl, rfl, rfl, rfl⟩) (Nat.le_of_ble_eq_true rfl) (Nat.le_of_ble_eq_true rfl) dL_step_142
          · have h0 : 0 < r := by
              rcases Nat.eq_zero_or_pos r with z | z
              · exact absurd (by rw [hc1, hn, z]; decide) c_68
              · exact z
            refine lv_aload_n S.1 S.2.1 dL_step_71 rfl (lv_at hl 0 rfl) ?_
            refine lv_iload_n S.1 S.2.1 dL_step_72 rfl (lv_at hl 2 rfl) ?_
            refine lv_iload_n S.1 S.2.1 dL_step_73 rfl (lv_at hl 3 rfl) ?_
            refine lv_aload S.1 S.2.1 dL_step_74 (lv_at hl 4 rfl) ?_
            refine lv_aload S.1 S.2.1 dL_step_76 (lv_at hl 5 rfl) ?_
            refine g_cSi S G hF hl (c_L_samples l _ _ _ _ _ hlf _ _ J (by omega) (by omega) (by omega) (by omega)) (va_cwS 5 S.2.2.2.2 gL_step_L_samples rfl rfl rfl (by decide +kernel) ⟨Nat.le_of_ble_eq_true rfl, Nat.le_of_ble_eq_true rfl⟩) rfl rfl (Nat.le_of_ble_eq_true rfl) dL_step_78 ⟨Nat.le_of_ble_eq_true rfl, Nat.le_of_ble_eq_true rfl⟩ (fun r_78 u_78 H locs hp_78 G => ?_)
            obtain ⟨rfl, ids_78, ad_78, κ_78, rfl, J_78, a7_78, a20_78, a21_78, a22_78⟩ := hp_78
            have G : gS D aC A s _ _ (gk _) H locs := G
            exact g_zret S G hr hlk (by decide) (⟨rfl, ids_78, ad_78, κ_78, rfl, J_78.up (Nat.le_refl _) (Nat.le_add_right _ _), a7_78, a20_78, a21_78, a22_78⟩) (Nat.le_of_ble_eq_true rfl) (Nat.le_of_ble_eq_true rfl) dL_step_81
      · refine lv_aload S.1 S.2.1 dL_step_40 (lv_at hl 5 rfl) ?_
        refine lv_iconst (v := 1) S.1 S.2.1 dL_step_42 (by decide) ?_
        refine k_iald S G 21 h21 rfl rfl rfl rfl (show 1 < 2 by decide) dL_step_43 ?_
        refine lv_if_le (tgt := 58) S.1 S.2.1 dL_step_44 (by decide) (fun c_44 => ?_) (fun c_44 => ?_)
        · refine lv_iload_n S.1 S.2.1 dL_step_58 rfl (lv_at hl 1 rfl) ?_
          refine lv_bipush (v := 18) S.1 S.2.1 dL_step_59 (by decide) ?_
          refine lv_icmp_ge (tgt := 82) S.1 S.2.1 dL_step_61 (by decide) (fun c_61 => ?_) (fun c_61 => ?_)
          · refine lv_iload_n S.1 S.2.1 dL_step_82 rfl (lv_at hl 1 rfl) ?_
            refine lv_bipush (v := 18) S.1 S.2.1 dL_step_83 (by decide) ?_
            refine lv_icmp_ne (tgt := 143) S.1 S.2.1 dL_step_85 (by decide) (fun c_85 => ?_) (fun c_85 => ?_)
            · refine lv_iload_n S.1 S.2.1 dL_step_143 rfl (lv_at hl 1 rfl) ?_
              refine lv_bipush (v := 19) S.1 S.2.1 dL_step_144 (by decide) ?_
              refine lv_icmp_ne (tgt := 248) S.1 S.2.1 dL_step_146 (by decide) (fun c_146 => ?_) (fun c_146 => ?_)
              · refine lv_iload_n S.1 S.2.1 dL_step_248 rfl (lv_at hl 1 rfl) ?_
                refine lv_bipush (v := 20) S.1 S.2.1 dL_step_249 (by decide) ?_
                refine lv_icmp_ne (tgt := 311) S.1 S.2.1 dL_step_251 (by decide) (fun c_251 => ?_) (fun c_251 => ?_)
                · refine lv_iload_n S.1 S.2.1 dL_step_311 rfl (lv_at hl 1 rfl) ?_
                  refine lv_bipush (v := 21) S.1 S.2.1 dL_step_312 (by decide) ?_
                  refine lv_icmp_ne (tgt := 433) S.1 S.2.1 dL_step_314 (by decide) (fun c_314 => ?_) (fun c_314 => ?_)
                  · refine jnN (X := fun n => W p l e (headSpec wsL_step ({ frames := 10, cells := 24, slots := 192, locals := 198 } : Room)).room s m ([.ref (ad 7 0), .int what, .int (nI X), .int (nI Y), .ref (ad 20 0), .ref (ad 21 0), .ref (ad 22 0)] : List Value).toArray below meth c s.heap [] (0) (0) (MQ below (va_Qi (fun q u => q = 1 ∧ ∃ (ids' : gIds) (ad' : gAd) (κ' : gMem), u = (ids', ad', gk κ') ∧ PL (N + 1) (B + 12) ids' κ' ∧ ad' 7 0 = ad 7 0 ∧ ad' 20 0 = ad 20 0 ∧ ad' 21 0 = ad 21 0 ∧ ad' 22 0 = ad 22 0) (gE D aC A) A) ([.ref (ad 7 0), .int what, .int (nI X), .int (nI Y), .ref (ad 20 0), .ref (ad 21 0), .ref (ad 22 0)] : List Value).toArray s 24 192 A) (F0 m 449 ls [.int (nI n)])) (fun n => 1 ≤ n ∧ n ≤ 12) (fun K449 => ?_) ?_
                    · refine lv_iconst (v := 1) S.1 S.2.1 dL_step_433 (by decide) ?_
                      refine lv_iload_n S.1 S.2.1 dL_step_434 rfl (lv_at hl 3 rfl) ?_
                      refine lv_iload_n S.1 S.2.1 dL_step_435 rfl (lv_at hl 3 rfl) ?_
                      refine lv_iconst (v := 5) S.1 S.2.1 dL_step_436 (by decide) ?_
                      refine lv_irem S.1 S.2.1 dL_step_437 (by decide) ?_
                      refine g_top (jrem5 (by omega)) ?_
                      refine lv_if_ne (tgt := 446) S.1 S.2.1 dL_step_438 (by decide) (fun c_438 => ?_) (fun c_438 => ?_)
                      · refine lv_iconst (v := 2) S.1 S.2.1 dL_step_446 (by decide) ?_
                        refine lv_irem S.1 S.2.1 dL_step_447 (by decide) ?_
                        refine g_top (jrem2 (by omega)) ?_
                        refine lv_iadd S.1 S.2.1 dL_step_448 ?_
                        refine g_top (nI_add 1 (Y % 2)) ?_
                        exact K449 (1 + Y % 2) ⟨by omega, by omega⟩
                      · refine lv_bipush (v := 12) S.1 S.2.1 dL_step_441 (by decide) ?_
                        refine lv_goto (tgt := 447) S.1 S.2.1 dL_step_443 (by decide) ?_
                        refine lv_irem S.1 S.2.1 dL_step_447 (by decide) ?_
                        refine g_top (jrem12 (by omega)) ?_
                        refine lv_iadd S.1 S.2.1 dL_step_448 ?_
                        refine g_top (nI_add 1 (Y % 12)) ?_
                        exact K449 (1 + Y % 12) ⟨by omega, by omega⟩
                    · intro n9 hn9
                      refine lv_istore (lv' := [(7, _), (0, _), (1, _), (2, _), (3, _), (4, _), (5, _), (6, _)]) S.1 S.2.1 dL_step_449 hl (by decide) rfl (fun ls hl => ?_)
                      refine lv_aload S.1 S.2.1 dL_step_451 (lv_at hl 6 rfl) ?_
                      refine lv_iconst (v := 0) S.1 S.2.1 dL_step_453 (by decide) ?_
                      refine lv_dup2_11 S.1 S.2.1 dL_step_454 rfl rfl ?_
                      refine k_iald S G 21 h21 rfl rfl rfl rfl (show 0 < 2 by decide) dL_step_455 ?_
                      refine g_top (hc0.trans hT7) ?_
                      refine lv_iload S.1 S.2.1 dL_step_456 (lv_at hl 0 rfl) ?_
                      refine lv_iadd S.1 S.2.1 dL_step_458 ?_
                      refine g_top (nI_add T n9) ?_
                      refine k_iast S G 21 h21 rfl rfl rfl rfl (show 0 < 2 by decide) dL_step_459 (fun H locs G => ?_)
                      have hT1 : ixL (upd3 κ 21 0 0 (nI (T + n9)) 7 0 6) 10001 := J.1.T
                      have hTA := advT_0 (κ := upd3 κ 21 0 0 (nI (T + n9))) hT7 hn9.1 hn9.2 (show T ≤ 9000 by omega)
                      obtain ⟨J2, p76, p21⟩ := J.adv hT7 hn9.1 hn9.2 (show T ≤ 9000 by omega) (Nat.le_succ N) (Nat.le_refl _)
                      refine lv_aload_n S.1 S.2.1 dL_step_460 rfl (lv_at hl 1 rfl) ?_
                      refine lv_iload S.1 S.2.1 dL_step_461 (lv_at hl 0 rfl) ?_
                      refine gx_cVi S G hF hl 7 (hV 7 _ (by first | decide | (show _ < 1; omega))) (by decide) (c_X6_advance l hlf _ _ _ _ hV (hW.upd (f := 21) (i := 0) (k := 0) (x := nI (T + n9)) rfl) hT1) (cwV 1 S.2.2.2.2 gL_step_X6_advance rfl rfl rfl (by decide +kernel) ⟨Nat.le_of_ble_eq_true rfl, Nat.le_of_ble_eq_true rfl⟩) rfl rfl (Nat.le_of_ble_eq_true rfl) dL_step_463 ⟨Nat.le_of_ble_eq_true rfl, Nat.le_of_ble_eq_true rfl⟩ (fun _ _ _ _ _ _ hp _ _ _ _ => (xE_0 hp.1 hTA).elim) (fun r_463 u_463 H locs hp_463 G => ?_)
                      obtain ⟨-, rfl, rfl⟩ := hp_463
                      have G : gS D aC A s _ _ (gk _) H locs := G
                      refine g_top p76 ?_
                      refine lv_aload S.1 S.2.1 dL_step_466 (lv_at hl 6 rfl) ?_
                      refine lv_iconst (v := 0) S.1 S.2.1 dL_step_468 (by decide) ?_
                      refine k_iald S G 21 h21 rfl rfl rfl rfl (show 0 < 2 by decide) dL_step_469 ?_
                      refine g_top p21 ?_
                      refine lv_icmp_ne (tgt := 477) S.1 S.2.1 dL_step_470 (by decide) (fun c_470 => ?_) (fun c_470 => ?_)
                      · exact absurd rfl c_470
                      · refine lv_iconst (v := 1) S.1 S.2.1 dL_step_473 (by decide) ?_
                        refine lv_goto (tgt := 478) S.1 S.2.1 dL_step_474 (by decide) ?_
                        exact g_zret S G hr hlk (by decide) (⟨rfl, ids, ad, _, rfl, J2, rfl, rfl, rfl, rfl⟩) (Nat.le_of_ble_eq_true rfl) (Nat.le_of_ble_eq_true rfl) dL_step_478
                  · obtain ⟨t9, et⟩ : ∃ z, X % 12 = z := ⟨_, rfl⟩
                    obtain ⟨n9, en⟩ : ∃ z, 1 + Y % 12 = z := ⟨_, rfl⟩
                    have ht9 : t9 < 12 := by omega
                    have hn9 : 1 ≤ n9 ∧ n9 ≤ 12 := by omega
                    have hTq := topT_at (κ := κ) ht9 hn9.1 (show n9 ≤ 20 by omega)
                    refine lv_iload_n S.1 S.2.1 dL_step_317 rfl (lv_at hl 2 rfl) ?_
                    refine lv_bipush (v := 12) S.1 S.2.1 dL_step_318 (by decide) ?_
                    refine lv_irem S.1 S.2.1 dL_step_320 (by decide) ?_
                    refine g_top ((jrem12 (by omega)).trans (congrArg nI et)) ?_
                    refine lv_istore (lv' := [(7, _), (0, _), (1, _), (2, _), (3, _), (4, _), (5, _), (6, _)]) S.1 S.2.1 dL_step_321 hl (by decide) rfl (fun ls hl => ?_)
                    refine lv_iconst (v := 1) S.1 S.2.1 dL_step_323 (by decide) ?_
                    refine lv_iload_n S.1 S.2.1 dL_step_324 rfl (lv_at hl 4 rfl) ?_
                    refine lv_bipush (v := 12) S.1 S.2.1 dL_step_325 (by decide) ?_
                    refine lv_irem S.1 S.2.1 dL_step_327 (by decide) ?_
                    refine g_top (jrem12 (by omega)) ?_
                    refine lv_iadd S.1 S.2.1 dL_step_328 ?_
                    refine g_top ((nI_add 1 (Y % 12)).trans (congrArg nI en)) ?_
                    refine lv_istore (lv' := [(8, _), (7, _), (0, _), (1, _), (2, _), (3, _), (4, _), (5, _), (6, _)]) S.1 S.2.1 dL_step_329 hl (by decide) rfl (fun ls hl => ?_)
                    refine lv_aload_n S.1 S.2.1 dL_step_331 rfl (lv_at hl 2 rfl) ?_
                    refine lv_iload S.1 S.2.1 dL_step_332 (lv_at hl 1 rfl) ?_
                    refine g_cVi S G hF hl 7 (hV 7 _ (by first | decide | (show _ < 1; omega))) (by decide) (c_X6_earnedk l _ _ _ _ hV ht9) (cwV 1 S.2.2.2.2 gL_step_X6_earned rfl rfl rfl (by decide +kernel) ⟨Nat.le_of_ble_eq_true rfl, Nat.le_of_ble_eq_true rfl⟩) rfl rfl (Nat.le_of_ble_eq_true rfl) dL_step_334 ⟨Nat.le_of_ble_eq_true rfl, Nat.le_of_ble_eq_true rfl⟩ (fun r_334 u_334 H locs hp_334 G => ?_)
                    obtain ⟨rfl, rfl⟩ := hp_334
                    have G : gS D aC A s _ _ (gk _) H locs := G
                    refine lv_istore (lv' := [(9, _), (8, _), (7, _), (0, _), (1, _), (2, _), (3, _), (4, _), (5, _), (6, _)]) S.1 S.2.1 dL_step_337 hl (by decide) rfl (fun ls hl => ?_)
                    refine lv_aload_n S.1 S.2.1 dL_step_339 rfl (lv_at hl 3 rfl) ?_
                    refine lv_iload S.1 S.2.1 dL_step_340 (lv_at hl 2 rfl) ?_
                    refine g_cVi S G hF hl 7 (hV 7 _ (by first | decide | (show _ < 1; omega))) (by decide) (c_X6_bondk l _ _ _ _ hV ht9) (cwV 1 S.2.2.2.2 gL_step_X6_bond rfl rfl rfl (by decide +kernel) ⟨Nat.le_of_ble_eq_true rfl, Nat.le_of_ble_eq_true rfl⟩) rfl rfl (Nat.le_of_ble_eq_true rfl) dL_step_342 ⟨Nat.le_of_ble_eq_true rfl, Nat.le_of_ble_eq_true rfl⟩ (fun r_342 u_342 H locs hp_342 G => ?_)
                    obtain ⟨rfl, rfl⟩ := hp_342
                    have G : gS D aC A s _ _ (gk _) H locs := G
                    refine lv_istore (lv' := [(10, _), (9, _), (8, _), (7, _), (0, _), (1, _), (2, _), (3, _), (4, _), (5, _), (6, _)]) S.1 S.2.1 dL_step_345 hl (by decide) rfl (fun ls hl => ?_)
                    refine lv_aload_n S.1 S.2.1 dL_step_347 rfl (lv_at hl 4 rfl) ?_
                    refine lv_iconst (v := 4) S.1 S.2.1 dL_step_348 (by decide) ?_
                    refine lv_iload S.1 S.2.1 dL_step_349 (lv_at hl 3 rfl) ?_
                    refine lv_iload S.1 S.2.1 dL_step_351 (lv_at hl 2 rfl) ?_
                    refine lv_iconst (v := 0) S.1 S.2.1 dL_step_353 (by decide) ?_
                    by_cases hT : sTopUpT κ (nI t9) (nI n9) = 0
                    · have hno : ¬ sTopUpT κ (nI t9) (nI n9) = 2 := by rw [hT]; decide
                      refine g_cSWi S G hF hl (c_L_asks_topUp l hlf ids ad _ _ _ _ hV hno) (vx_cwSW 5 S.2.2.2.2 gL_step_L_asks rfl rfl rfl (by decide +kernel) ⟨Nat.le_of_ble_eq_true rfl, Nat.le_of_ble_eq_true rfl⟩) rfl rfl (Nat.le_of_ble_eq_true rfl) dL_step_354 ⟨Nat.le_of_ble_eq_true rfl, Nat.le_of_ble_eq_true rfl⟩ (fun r9 u9 H locs hp G => ?_)
                      obtain ⟨rfl, rfl⟩ := or3_0 hp hT
                      have G : gS D aC A s _ _ (gk _) H locs := G
                      rw [tN_nI (show t9 < 2 ^ 31 by omega)] at G
                      obtain ⟨J2, e2, p1, p2⟩ := op_topUp J.1 hT
                      rw [tN_nI (show t9 < 2 ^ 31 by omega)] at J2 e2 p1 p2
                      refine g_top (show _ = κ 5 t9 3 + nI n9 from by rw [tN_nI (show t9 < 2 ^ 31 by omega)]; exact p2) ?_
                      refine lv_istore (lv' := [(11, _), (10, _), (9, _), (8, _), (7, _), (0, _), (1, _), (2, _), (3, _), (4, _), (5, _), (6, _)]) S.1 S.2.1 dL_step_357 hl (by decide) rfl (fun ls hl => ?_)
                      refine lv_iload S.1 S.2.1 dL_step_359 (lv_at hl 2 rfl) ?_
                      refine lv_iload S.1 S.2.1 dL_step_361 (lv_at hl 3 rfl) ?_
                      refine lv_icmp_ge (tgt := 392) S.1 S.2.1 dL_step_363 (by decide) (fun c_363 => ?_) (fun c_363 => ?_)
                      · refine lv_iload S.1 S.2.1 dL_step_392 (lv_at hl 0 rfl) ?_
                        refine lv_iload S.1 S.2.1 dL_step_394 (lv_at hl 1 rfl) ?_
                        refine lv_iload S.1 S.2.1 dL_step_396 (lv_at hl 3 rfl) ?_
                        refine lv_iadd S.1 S.2.1 dL_step_398 ?_
                        refine lv_icmp_ne (tgt := 431) S.1 S.2.1 dL_step_399 (by decide) (fun c_399 => ?_) (fun c_399 => ?_)
                        · exact absurd rfl c_399
                        · refine lv_aload_n S.1 S.2.1 dL_step_402 rfl (lv_at hl 5 rfl) ?_
                          refine lv_iload S.1 S.2.1 dL_step_403 (lv_at hl 4 rfl) ?_
                          refine g_cVi S G hF hl 7 (hV 7 _ (by first | decide | (show _ < 1; omega))) (by decide) (c_X6_earnedk l _ _ _ _ hV ht9) (cwV 1 S.2.2.2.2 gL_step_X6_earned rfl rfl rfl (by decide +kernel) ⟨Nat.le_of_ble_eq_true rfl, Nat.le_of_ble_eq_true rfl⟩) rfl rfl (Nat.le_of_ble_eq_true rfl) dL_step_405 ⟨Nat.le_of_ble_eq_true rfl, Nat.le_of_ble_eq_true rfl⟩ (fun r_405 u_405 H locs hp_405 G => ?_)
                          obtain ⟨rfl, rfl⟩ := hp_405
                          have G : gS D aC A s _ _ (gk _) H locs := G
                          refine g_top (show _ = κ 5 t9 4 - nI n9 from p1) ?_
                          refine lv_iload S.1 S.2.1 dL_step_408 (lv_at hl 2 rfl) ?_
                          refine lv_iload S.1 S.2.1 dL_step_410 (lv_at hl 3 rfl) ?_
                          refine lv_isub S.1 S.2.1 dL_step_412 ?_
                          refine lv_icmp_ne (tgt := 431) S.1 S.2.1 dL_step_413 (by decide) (fun c_413 => ?_) (fun c_413 => ?_)
                          · exact absurd rfl c_413
                          · refine lv_aload_n S.1 S.2.1 dL_step_416 rfl (lv_at hl 5 rfl) ?_
                            refine lv_iload S.1 S.2.1 dL_step_417 (lv_at hl 4 rfl) ?_
                            refine g_cVi S G hF hl 7 (hV 7 _ (by first | decide | (show _ < 1; omega))) (by decide) (c_X6_bondk l _ _ _ _ hV ht9) (cwV 1 S.2.2.2.2 gL_step_X6_bond rfl rfl rfl (by decide +kernel) ⟨Nat.le_of_ble_eq_true rfl, Nat.le_of_ble_eq_true rfl⟩) rfl rfl (Nat.le_of_ble_eq_true rfl) dL_step_419 ⟨Nat.le_of_ble_eq_true rfl, Nat.le_of_ble_eq_true rfl⟩ (fun r_419 u_419 H locs hp_419 G => ?_)
                            obtain ⟨rfl, rfl⟩ := hp_419
                            have G : gS D aC A s _ _ (gk _) H locs := G
                            refine g_top (show _ = κ 5 t9 3 + nI n9 from p2) ?_
                            refine lv_iload S.1 S.2.1 dL_step_422 (lv_at hl 0 rfl) ?_
                            refine lv_icmp_ne (tgt := 431) S.1 S.2.1 dL_step_424 (by decide) (fun c_424 => ?_) (fun c_424 => ?_)
                            · exact absurd rfl c_424
                            · refine lv_iconst (v := 1) S.1 S.2.1 dL_step_427 (by decide) ?_
                              refine lv_goto (tgt := 432) S.1 S.2.1 dL_step_428 (by decide) ?_
                              exact g_zret S G hr hlk (by decide) (⟨rfl, ids, ad, _, rfl, J.to J2 e2 rfl (fun f i k hf => by rw [sTopUpK]; exact (upd3_n (by omega)).trans ((upd3_n (by omega)).trans (upd3_n (by omega)))) (Nat.le_succ N) (Nat.le_add_right _ _), rfl, rfl, rfl, rfl⟩) (Nat.le_of_ble_eq_true rfl) (Nat.le_of_ble_eq_true rfl) dL_step_432
                      · exact absurd (by rw [hTq] at hT; exact Decidable.byContradiction (fun z => absurd (hT.symm.trans (if_neg z)) (by decide))) c_363
                    · have hT3 : sTopUpT κ (nI t9) (nI n9) = 3 := by
                        rw [hTq] at hT ⊢
                        exact if_neg (fun z => hT (if_pos z))
                      have hno : ¬ sTopUpT κ (nI t9) (nI n9) = 2 := by rw [hT3]; decide
                      refine g_cSWi S G hF hl (c_L_asks_topUp l hlf ids ad _ _ _ _ hV hno) (vx_cwSW 5 S.2.2.2.2 gL_step_L_asks rfl rfl rfl (by decide +kernel) ⟨Nat.le_of_ble_eq_true rfl, Nat.le_of_ble_eq_true rfl⟩) rfl rfl (Nat.le_of_ble_eq_true rfl) dL_step_354 ⟨Nat.le_of_ble_eq_true rfl, Nat.le_of_ble_eq_true rfl⟩ (fun r9 u9 H locs hp G => ?_)
                      obtain ⟨rfl, rfl⟩ := or3_3 hp hT3
                      have G : gS D aC A s _ _ (gk _) H locs := G
                      refine lv_istore (lv' := [(11, _), (10, _), (9, _), (8, _), (7, _), (0, _), (1, _), (2, _), (3, _), (4, _), (5, _), (6, _)]) S.1 S.2.1 dL_step_357 hl (by decide) rfl (fun ls hl => ?_)
                      refine lv_iload S.1 S.2.1 dL_step_359 (lv_at hl 2 rfl) ?_
                      refine lv_iload S.1 S.2.1 dL_step_361 (lv_at hl 3 rfl) ?_
                      refine lv_icmp_ge (tgt := 392) S.1 S.2.1 dL_step_363 (by decide) (fun c_363 => ?_) (fun c_363 => ?_)
                      · exact absurd (hTq.trans (if_pos c_363)) hT
                      · refine lv_iload S.1 S.2.1 dL_step_366 (lv_at hl 0 rfl) ?_
                        refine lv_bipush (v := (-108)) S.1 S.2.1 dL_step_368 (by decide) ?_
                        refine lv_icmp_ne (tgt := 388) S.1 S.2.1 dL_step_370 (by decide) (fun c_370 => ?_) (fun c_370 => ?_)
                        · exact absurd c_370 (by decide)
                        · refine lv_aload_n S.1 S.2.1 dL_step_373 rfl (lv_at hl 5 rfl) ?_
                          refine lv_iload S.1 S.2.1 dL_step_374 (lv_at hl 4 rfl) ?_
                          refine g_cVi S G hF hl 7 (hV 7 _ (by first | decide | (show _ < 1; omega))) (by decide) (c_X6_bondk l _ _ _ _ hV ht9) (cwV 1 S.2.2.2.2 gL_step_X6_bond rfl rfl rfl (by decide +kernel) ⟨Nat.le_of_ble_eq_true rfl, Nat.le_of_ble_eq_true rfl⟩) rfl rfl (Nat.le_of_ble_eq_true rfl) dL_step_376 ⟨Nat.le_of_ble_eq_true rfl, Nat.le_of_ble_eq_true rfl⟩ (fun r_376 u_376 H locs hp_376 G => ?_)
                          obtain ⟨rfl, rfl⟩ := hp_376
                          have G : gS D aC A s _ _ (gk _) H locs := G
                          refine lv_iload S.1 S.2.1 dL_step_379 (lv_at hl 1 rfl) ?_
                          refine lv_icmp_ne (tgt := 388) S.1 S.2.1 dL_step_381 (by decide) (fun c_381 => ?_) (fun c_381 => ?_)
                          · exact absurd rfl c_381
                          · refine lv_iconst (v := 1) S.1 S.2.1 dL_step_384 (by decide) ?_
                            refine lv_goto (tgt := 432) S.1 S.2.1 dL_step_385 (by decide) ?_
                            exact g_zret S G hr hlk (by decide) (⟨rfl, ids, ad, κ, rfl, J.up (Nat.le_succ N) (Nat.le_add_right _ _), rfl, rfl, rfl, rfl⟩) (Nat.le_of_ble_eq_true rfl) (Nat.le_of_ble_eq_true rfl) dL_step_432
                · refine lv_aload_n S.1 S.2.1 dL_step_254 rfl (lv_at hl 0 rfl) ?_
                  refine lv_iload_n S.1 S.2.1 dL_step_255 rfl (lv_at hl 2 rfl) ?_
                  refine lv_bipush (v := 12) S.1 S.2.1 dL_step_256 (by decide) ?_
                  refine lv_irem S.1 S.2.1 dL_step_258 (by decide) ?_
                  refine g_top (jrem12 (by omega)) ?_
                  refine lv_iconst (v := 1) S.1 S.2.1 dL_step_259 (by decide) ?_
                  refine lv_iload_n S.1 S.2.1 dL_step_260 rfl (lv_at hl 3 rfl) ?_
                  refine lv_bipush (v := 20) S.1 S.2.1 dL_step_261 (by decide) ?_
                  refine lv_irem S.1 S.2.1 dL_step_263 (by decide) ?_
                  refine g_top (jrem20 (by omega)) ?_
                  refine lv_iadd S.1 S.2.1 dL_step_264 ?_
                  have hT := prcT_0 (a := X % 12) (n := 1 + Y % 20) (by omega) (by omega) (by omega)
                  obtain ⟨pr1, pr2⟩ := prc_rng (j := X % 12) J.1 (by omega)
                  refine g_top (nI_add 1 (Y % 20)) ?_
                  refine gx_cVi S G hF hl 7 (hV 7 _ (by first | decide | (show _ < 1; omega))) (by decide) (c_X6_setPrice l hlf _ _ _ _ _ hV) (cwV 2 S.2.2.2.2 gL_step_X6_setPrice rfl rfl rfl (by decide +kernel) ⟨Nat.le_of_ble_eq_true rfl, Nat.le_of_ble_eq_true rfl⟩) rfl rfl (Nat.le_of_ble_eq_true rfl) dL_step_265 ⟨Nat.le_of_ble_eq_true rfl, Nat.le_of_ble_eq_true rfl⟩ (fun _ _ _ _ _ _ hp _ _ _ _ => (xE_0 hp.1 hT).elim) (fun r_265 u_265 H locs hp_265 G => ?_)
                  obtain ⟨-, rfl, rfl⟩ := hp_265
                  have G : gS D aC A s _ _ (gk _) H locs := G
                  rw [tN_nI (show X % 12 < 2 ^ 31 by omega)] at G
                  obtain ⟨J2, e2⟩ := op_setPrice J.1 hT
                  rw [tN_nI (show X % 12 < 2 ^ 31 by omega)] at J2 e2
                  refine g_top (congrArg (fun z => κ 5 z 2) (tN_nI (show X % 12 < 2 ^ 31 by omega))) ?_
                  refine lv_istore (lv' := [(7, _), (0, _), (1, _), (2, _), (3, _), (4, _), (5, _), (6, _)]) S.1 S.2.1 dL_step_268 hl (by decide) rfl (fun ls hl => ?_)
                  refine lv_iload S.1 S.2.1 dL_step_270 (lv_at hl 0 rfl) ?_
                  refine lv_if_le (tgt := 309) S.1 S.2.1 dL_step_272 (by decide) (fun c_272 => ?_) (fun c_272 => ?_)
                  · exact absurd c_272 pr1
                  · refine lv_iload S.1 S.2.1 dL_step_275 (lv_at hl 0 rfl) ?_
                    refine lv_bipush (v := 20) S.1 S.2.1 dL_step_277 (by decide) ?_
                    refine lv_icmp_gt (tgt := 309) S.1 S.2.1 dL_step_279 (by decide) (fun c_279 => ?_) (fun c_279 => ?_)
                    · exact absurd c_279 pr2
                    · refine lv_aload_n S.1 S.2.1 dL_step_282 rfl (lv_at hl 1 rfl) ?_
                      refine lv_iload_n S.1 S.2.1 dL_step_283 rfl (lv_at hl 3 rfl) ?_
                      refine lv_bipush (v := 12) S.1 S.2.1 dL_step_284 (by decide) ?_
                      refine lv_irem S.1 S.2.1 dL_step_286 (by decide) ?_
                      refine g_top (jrem12 (by omega)) ?_
                      refine lv_iconst (v := 1) S.1 S.2.1 dL_step_287 (by decide) ?_
                      refine lv_iload_n S.1 S.2.1 dL_step_288 rfl (lv_at hl 4 rfl) ?_
                      refine lv_bipush (v := 20) S.1 S.2.1 dL_step_289 (by decide) ?_
                      refine lv_irem S.1 S.2.1 dL_step_291 (by decide) ?_
                      refine g_top (jrem20 (by omega)) ?_
                      refine lv_iadd S.1 S.2.1 dL_step_292 ?_
                      refine g_top (nI_add 1 (Y % 20)) ?_
                      refine gx_cVi S G hF hl 7 (hV 7 _ (by first | decide | (show _ < 1; omega))) (by decide) (c_X6_setPrice l hlf _ _ _ _ _ hV) (cwV 2 S.2.2.2.2 gL_step_X6_setPrice rfl rfl rfl (by decide +kernel) ⟨Nat.le_of_ble_eq_true rfl, Nat.le_of_ble_eq_true rfl⟩) rfl rfl (Nat.le_of_ble_eq_true rfl) dL_step_293 ⟨Nat.le_of_ble_eq_true rfl, Nat.le_of_ble_eq_true rfl⟩ (fun _ _ _ _ _ _ hp _ _ _ _ => (xE_0 hp.1 hT).elim) (fun r_293 u_293 H locs hp_293 G => ?_)
                      obtain ⟨-, rfl, rfl⟩ := hp_293
                      have G : gS D aC A s _ _ (gk _) H locs := G
                      rw [tN_nI (show X % 12 < 2 ^ 31 by omega)] at G
                      obtain ⟨J3, e3⟩ := op_setPrice J2 hT
                      rw [tN_nI (show X % 12 < 2 ^ 31 by omega)] at J3 e3
                      refine g_top (show _ = nI (1 + Y % 20) from by rw [tN_nI (show X % 12 < 2 ^ 31 by omega), upd3_s]) ?_
                      refine lv_iconst (v := 1) S.1 S.2.1 dL_step_296 (by decide) ?_
                      refine lv_iload_n S.1 S.2.1 dL_step_297 rfl (lv_at hl 4 rfl) ?_
                      refine lv_bipush (v := 20) S.1 S.2.1 dL_step_298 (by decide) ?_
                      refine lv_irem S.1 S.2.1 dL_step_300 (by decide) ?_
                      refine g_top (jrem20 (by omega)) ?_
                      refine lv_iadd S.1 S.2.1 dL_step_301 ?_
                      refine g_top (nI_add 1 (Y % 20)) ?_
                      refine lv_icmp_ne (tgt := 309) S.1 S.2.1 dL_step_302 (by decide) (fun c_302 => ?_) (fun c_302 => ?_)
                      · exact absurd rfl c_302
                      · refine lv_iconst (v := 1) S.1 S.2.1 dL_step_305 (by decide) ?_
                        refine lv_goto (tgt := 310) S.1 S.2.1 dL_step_306 (by decide) ?_
                        exact g_zret S G hr hlk (by decide) (⟨rfl, ids, ad, _, rfl, (J.to J2 e2 rfl (fun f i k hf => upd3_n (by omega)) (Nat.le_refl _) (Nat.le_refl _)).to J3 e3 rfl (fun f i k hf => upd3_n (by omega)) (Nat.le_succ N) (Nat.le_add_right _ _), rfl, rfl, rfl, rfl⟩) (Nat.le_of_ble_eq_true rfl) (Nat.le_of_ble_eq_true rfl) dL_step_310
              · refine lv_iload_n S.1 S.2.1 dL_step_149 rfl (lv_at hl 3 rfl) ?_
                refine lv_bipush (v := 6) S.1 S.2.1 dL_step_150 (by decide) ?_
                refine lv_irem S.1 S.2.1 dL_step_152 (by decide) ?_
                refine g_top (jrem6 (by omega)) ?_
                refine lv_istore (lv' := [(7, _), (0, _), (1, _), (2, _), (3, _), (4, _), (5, _), (6, _)]) S.1 S.2.1 dL_step_153 hl (by decide) rfl (fun ls hl => ?_)
                refine lv_aload_n S.1 S.2.1 dL_step_155 rfl (lv_at hl 1 rfl) ?_
                refine lv_iload_n S.1 S.2.1 dL_step_156 rfl (lv_at hl 3 rfl) ?_
                refine lv_bipush (v := 12) S.1 S.2.1 dL_step_157 (by decide) ?_
                refine lv_irem S.1 S.2.1 dL_step_159 (by decide) ?_
                refine g_top (jrem12 (by omega)) ?_
                refine lv_iload S.1 S.2.1 dL_step_160 (lv_at hl 0 rfl) ?_
                have hT := attT_0 (a := X % 12) (b := Y % 6) (by omega) (by omega)
                obtain ⟨h9, eh9⟩ : ∃ z, tN (κ 5 (X % 12) 1) = z := ⟨_, rfl⟩
                have hh9 : h9 < 6 := by rw [← eh9]; exact (hW.2.2.2.2.2.1 (X % 12) (by omega)).2
                refine gx_cVi S G hF hl 7 (hV 7 _ (by first | decide | (show _ < 1; omega))) (by decide) (c_X6_attach l hlf _ _ _ _ _ hV hW) (cwV 2 S.2.2.2.2 gL_step_X6_attach rfl rfl rfl (by decide +kernel) ⟨Nat.le_of_ble_eq_true rfl, Nat.le_of_ble_eq_true rfl⟩) rfl rfl (Nat.le_of_ble_eq_true rfl) dL_step_162 ⟨Nat.le_of_ble_eq_true rfl, Nat.le_of_ble_eq_true rfl⟩ (fun _ _ _ _ _ _ hp _ _ _ _ => (xE_0 hp.1 hT).elim) (fun r_162 u_162 H locs hp_162 G => ?_)
                obtain ⟨-, rfl, rfl⟩ := hp_162
                have G : gS D aC A s _ _ (gk _) H locs := G
                rw [tN_nI (show X % 12 < 2 ^ 31 by omega), tN_nI (show Y % 6 < 2 ^ 31 by omega)] at G
                obtain ⟨J2, e2⟩ := op_attach J.1 hT
                rw [tN_nI (show X % 12 < 2 ^ 31 by omega), tN_nI (show Y % 6 < 2 ^ 31 by omega)] at J2 e2
                obtain ⟨w9, ew9⟩ : ∃ z, tN (κ 4 (1 + X % 5) 1) = z := ⟨_, rfl⟩
                have hw9 : w9 < 1 + X % 5 := by rw [← ew9]; exact (hW.2.2.2.2.1 (1 + X % 5) (by omega) (by omega)).2
                refine g_top (show _ = nI h9 from by rw [tN_nI (show X % 12 < 2 ^ 31 by omega), eh9]) ?_
                refine lv_istore (lv' := [(8, _), (7, _), (0, _), (1, _), (2, _), (3, _), (4, _), (5, _), (6, _)]) S.1 S.2.1 dL_step_165 hl (by decide) rfl (fun ls hl => ?_)
                refine lv_aload_n S.1 S.2.1 dL_step_167 rfl (lv_at hl 2 rfl) ?_
                refine lv_iconst (v := 5) S.1 S.2.1 dL_step_168 (by decide) ?_
                refine lv_iconst (v := 1) S.1 S.2.1 dL_step_169 (by decide) ?_
                refine lv_iload_n S.1 S.2.1 dL_step_170 rfl (lv_at hl 4 rfl) ?_
                refine lv_iconst (v := 5) S.1 S.2.1 dL_step_171 (by decide) ?_
                refine lv_irem S.1 S.2.1 dL_step_172 (by decide) ?_
                refine g_top (jrem5 (by omega)) ?_
                refine lv_iadd S.1 S.2.1 dL_step_173 ?_
                refine g_top (nI_add 1 (X % 5)) ?_
                refine lv_iload_n S.1 S.2.1 dL_step_174 rfl (lv_at hl 5 rfl) ?_
                refine lv_iconst (v := 5) S.1 S.2.1 dL_step_175 (by decide) ?_
                refine lv_irem S.1 S.2.1 dL_step_176 (by decide) ?_
                refine g_top (jrem5 (by omega)) ?_
                refine lv_iconst (v := 0) S.1 S.2.1 dL_step_177 (by decide) ?_
                by_cases hq : Y % 5 ≤ X % 5
                · have hH : sHangT (nI (1 + X % 5)) (nI (Y % 5)) = 0 := by rw [hangT_at (by omega) (by omega) (by omega), if_pos (by omega)]
                  have hno : ¬ sHangT (nI (1 + X % 5)) (nI (Y % 5)) = 2 := by rw [hH]; decide
                  refine g_cSWi S G hF hl (c_L_asks_hang l hlf ids ad _ _ _ _ hV J2.2.1 hno) (vx_cwSW 5 S.2.2.2.2 gL_step_L_asks rfl rfl rfl (by decide +kernel) ⟨Nat.le_of_ble_eq_true rfl, Nat.le_of_ble_eq_true rfl⟩) rfl rfl (Nat.le_of_ble_eq_true rfl) dL_step_178 ⟨Nat.le_of_ble_eq_true rfl, Nat.le_of_ble_eq_true rfl⟩ (fun r9 u9 H locs hp G => ?_)
                  obtain ⟨rfl, rfl⟩ := or3_0 hp hH
                  have G : gS D aC A s _ _ (gk _) H locs := G
                  rw [tN_nI (show 1 + X % 5 < 2 ^ 31 by omega), tN_nI (show Y % 5 < 2 ^ 31 by omega)] at G
                  obtain ⟨J4, e4⟩ := op_hang J2 hH
                  rw [tN_nI (show 1 + X % 5 < 2 ^ 31 by omega), tN_nI (show Y % 5 < 2 ^ 31 by omega)] at J4 e4
                  have P4 : PL (N + 1) (B + 12) ids _ := (J.to J2 e2 rfl (fun f i k hf => upd3_n (by omega)) (Nat.le_refl _) (Nat.le_refl _)).to J4 e4 rfl (fun f i k hf => upd3_n (by omega)) (Nat.le_succ N) (Nat.le_add_right _ _)
                  have k4 : upd3 (upd3 κ 5 (X % 12) 1 (nI (Y % 6))) 4 (1 + X % 5) 1 (nI (Y % 5)) 5 (X % 12) 1 = nI (Y % 6) := (upd3_f (by decide)).trans upd3_s
                  refine g_top (show _ = nI w9 from by rw [tN_nI (show 1 + X % 5 < 2 ^ 31 by omega)]; exact congrArg nI ew9) ?_
                  refine lv_istore (lv' := [(9, _), (8, _), (7, _), (0, _), (1, _), (2, _), (3, _), (4, _), (5, _), (6, _)]) S.1 S.2.1 dL_step_181 hl (by decide) rfl (fun ls hl => ?_)
                  refine lv_iload S.1 S.2.1 dL_step_183 (lv_at hl 1 rfl) ?_
                  refine lv_if_lt (tgt := 246) S.1 S.2.1 dL_step_185 (by decide) (fun c_185 => ?_) (fun c_185 => ?_)
                  · exact absurd c_185 (nI_pos (by omega))
                  · refine lv_iload S.1 S.2.1 dL_step_188 (lv_at hl 1 rfl) ?_
                    refine lv_bipush (v := 6) S.1 S.2.1 dL_step_190 (by decide) ?_
                    refine lv_icmp_ge (tgt := 246) S.1 S.2.1 dL_step_192 (by decide) (fun c_192 => ?_) (fun c_192 => ?_)
                    · exact absurd ((nI_leI (a := 6) (b := h9) (by decide) (by omega)).mp c_192) (by omega)
                    · refine lv_aload_n S.1 S.2.1 dL_step_195 rfl (lv_at hl 3 rfl) ?_
                      refine lv_iload_n S.1 S.2.1 dL_step_196 rfl (lv_at hl 5 rfl) ?_
                      refine lv_bipush (v := 12) S.1 S.2.1 dL_step_197 (by decide) ?_
                      refine lv_irem S.1 S.2.1 dL_step_199 (by decide) ?_
                      refine g_top (jrem12 (by omega)) ?_
                      refine lv_iload S.1 S.2.1 dL_step_200 (lv_at hl 2 rfl) ?_
                      have hT := attT_0 (a := X % 12) (b := Y % 6) (by omega) (by omega)
                      refine gx_cVi S G hF hl 7 (hV 7 _ (by first | decide | (show _ < 1; omega))) (by decide) (c_X6_attach l hlf _ _ _ _ _ hV J4.2.1) (cwV 2 S.2.2.2.2 gL_step_X6_attach rfl rfl rfl (by decide +kernel) ⟨Nat.le_of_ble_eq_true rfl, Nat.le_of_ble_eq_true rfl⟩) rfl rfl (Nat.le_of_ble_eq_true rfl) dL_step_202 ⟨Nat.le_of_ble_eq_true rfl, Nat.le_of_ble_eq_true rfl⟩ (fun _ _ _ _ _ _ hp _ _ _ _ => (xE_0 hp.1 hT).elim) (fun r_202 u_202 H locs hp_202 G => ?_)
                      obtain ⟨-, rfl, rfl⟩ := hp_202
                      have G : gS D aC A s _ _ (gk _) H locs := G
                      rw [tN_nI (show X % 12 < 2 ^ 31 by omega), tN_nI (show Y % 6 < 2 ^ 31 by omega)] at G
                      obtain ⟨J5, e5⟩ := op_attach J4 hT
                      rw [tN_nI (show X % 12 < 2 ^ 31 by omega), tN_nI (show Y % 6 < 2 ^ 31 by omega)] at J5 e5
                      refine g_top (show _ = nI (Y % 6) from by rw [tN_nI (show X % 12 < 2 ^ 31 by omega), k4, tN_nI (by omega)]) ?_
                      refine lv_iload S.1 S.2.1 dL_step_205 (lv_at hl 2 rfl) ?_
                      refine lv_icmp_ne (tgt := 246) S.1 S.2.1 dL_step_207 (by decide) (fun c_207 => ?_) (fun c_207 => ?_)
                      · exact absurd rfl c_207
                      · refine lv_iload_n S.1 S.2.1 dL_step_210 rfl (lv_at hl 6 rfl) ?_
                        refine lv_iconst (v := 5) S.1 S.2.1 dL_step_211 (by decide) ?_
                        refine lv_irem S.1 S.2.1 dL_step_212 (by decide) ?_
                        refine g_top (jrem5 (by omega)) ?_
                        refine lv_iload_n S.1 S.2.1 dL_step_213 rfl (lv_at hl 5 rfl) ?_
                        refine lv_iconst (v := 5) S.1 S.2.1 dL_step_214 (by decide) ?_
                        refine lv_irem S.1 S.2.1 dL_step_215 (by decide) ?_
                        refine g_top (jrem5 (by omega)) ?_
                        refine lv_icmp_le (tgt := 229) S.1 S.2.1 dL_step_216 (by decide) (fun c_216 => ?_) (fun c_216 => ?_)
                        · refine lv_iload S.1 S.2.1 dL_step_229 (lv_at hl 0 rfl) ?_
                          refine lv_if_lt (tgt := 246) S.1 S.2.1 dL_step_231 (by decide) (fun c_231 => ?_) (fun c_231 => ?_)
                          · exact absurd c_231 (nI_pos (by omega))
                          · refine lv_iload S.1 S.2.1 dL_step_234 (lv_at hl 0 rfl) ?_
                            refine lv_iload_n S.1 S.2.1 dL_step_236 rfl (lv_at hl 5 rfl) ?_
                            refine lv_iconst (v := 5) S.1 S.2.1 dL_step_237 (by decide) ?_
                            refine lv_irem S.1 S.2.1 dL_step_238 (by decide) ?_
                            refine g_top (jrem5 (by omega)) ?_
                            refine lv_icmp_gt (tgt := 246) S.1 S.2.1 dL_step_239 (by decide) (fun c_239 => ?_) (fun c_239 => ?_)
                            · exact absurd ((nI_ltI (by omega) (by omega)).mp c_239) (by omega)
                            · refine lv_iconst (v := 1) S.1 S.2.1 dL_step_242 (by decide) ?_
                              refine lv_goto (tgt := 247) S.1 S.2.1 dL_step_243 (by decide) ?_
                              exact g_zret S G hr hlk (by decide) (⟨rfl, ids, ad, _, rfl, P4.to J5 e5 rfl (fun f i k hf => upd3_n (by omega)) (Nat.le_refl _) (Nat.le_refl _), rfl, rfl, rfl, rfl⟩) (Nat.le_of_ble_eq_true rfl) (Nat.le_of_ble_eq_true rfl) dL_step_247
                        · exact absurd ((nI_leI (by omega) (by omega)).mpr hq) c_216
                · have hH : sHangT (nI (1 + X % 5)) (nI (Y % 5)) = 1 := by rw [hangT_at (by omega) (by omega) (by omega), if_neg (by omega)]
                  have hno : ¬ sHangT (nI (1 + X % 5)) (nI (Y % 5)) = 2 := by rw [hH]; decide
                  refine g_cSWi S G hF hl (c_L_asks_hang l hlf ids ad _ _ _ _ hV J2.2.1 hno) (vx_cwSW 5 S.2.2.2.2 gL_step_L_asks rfl rfl rfl (by decide +kernel) ⟨Nat.le_of_ble_eq_true rfl, Nat.le_of_ble_eq_true rfl⟩) rfl rfl (Nat.le_of_ble_eq_true rfl) dL_step_178 ⟨Nat.le_of_ble_eq_true rfl, Nat.le_of_ble_eq_true rfl⟩ (fun r9 u9 H locs hp G => ?_)
                  obtain ⟨rfl, rfl⟩ := or3_1 hp hH
                  have G : gS D aC A s _ _ (gk _) H locs := G
                  have J4 := J2
                  have P4 : PL (N + 1) (B + 12) ids _ := J.to J2 e2 rfl (fun f i k hf => upd3_n (by omega)) (Nat.le_succ N) (Nat.le_add_right _ _)
                  have k4 : upd3 κ 5 (X % 12) 1 (nI (Y % 6)) 5 (X % 12) 1 = nI (Y % 6) := upd3_s
                  refine lv_istore (lv' := [(9, _), (8, _), (7, _), (0, _), (1, _), (2, _), (3, _), (4, _), (5, _), (6, _)]) S.1 S.2.1 dL_step_181 hl (by decide) rfl (fun ls hl => ?_)
                  refine lv_iload S.1 S.2.1 dL_step_183 (lv_at hl 1 rfl) ?_
                  refine lv_if_lt (tgt := 246) S.1 S.2.1 dL_step_185 (by decide) (fun c_185 => ?_) (fun c_185 => ?_)
                  · exact absurd c_185 (nI_pos (by omega))
                  · refine lv_iload S.1 S.2.1 dL_step_188 (lv_at hl 1 rfl) ?_
                    refine lv_bipush (v := 6) S.1 S.2.1 dL_step_190 (by decide) ?_
                    refine lv_icmp_ge (tgt := 246) S.1 S.2.1 dL_step_192 (by decide) (fun c_192 => ?_) (fun c_192 => ?_)
                    · exact absurd ((nI_leI (a := 6) (b := h9) (by decide) (by omega)).mp c_192) (by omega)
                    · refine lv_aload_n S.1 S.2.1 dL_step_195 rfl (lv_at hl 3 rfl) ?_
                      refine lv_iload_n S.1 S.2.1 dL_step_196 rfl (lv_at hl 5 rfl) ?_
                      refine lv_bipush (v := 12) S.1 S.2.1 dL_step_197 (by decide) ?_
                      refine lv_irem S.1 S.2.1 dL_step_199 (by decide) ?_
                      refine g_top (jrem12 (by omega)) ?_
                      refine lv_iload S.1 S.2.1 dL_step_200 (lv_at hl 2 rfl) ?_
                      have hT := attT_0 (a := X % 12) (b := Y % 6) (by omega) (by omega)
                      refine gx_cVi S G hF hl 7 (hV 7 _ (by first | decide | (show _ < 1; omega))) (by decide) (c_X6_attach l hlf _ _ _ _ _ hV J4.2.1) (cwV 2 S.2.2.2.2 gL_step_X6_attach rfl rfl rfl (by decide +kernel) ⟨Nat.le_of_ble_eq_true rfl, Nat.le_of_ble_eq_true rfl⟩) rfl rfl (Nat.le_of_ble_eq_true rfl) dL_step_202 ⟨Nat.le_of_ble_eq_true rfl, Nat.le_of_ble_eq_true rfl⟩ (fun _ _ _ _ _ _ hp _ _ _ _ => (xE_0 hp.1 hT).elim) (fun r_202 u_202 H locs hp_202 G => ?_)
                      obtain ⟨-, rfl, rfl⟩ := hp_202
                      have G : gS D aC A s _ _ (gk _) H locs := G
                      rw [tN_nI (show X % 12 < 2 ^ 31 by omega), tN_nI (show Y % 6 < 2 ^ 31 by omega)] at G
                      obtain ⟨J5, e5⟩ := op_attach J4 hT
                      rw [tN_nI (show X % 12 < 2 ^ 31 by omega), tN_nI (show Y % 6 < 2 ^ 31 by omega)] at J5 e5
                      refine g_top (show _ = nI (Y % 6) from by rw [tN_nI (show X % 12 < 2 ^ 31 by omega), k4, tN_nI (by omega)]) ?_
                      refine lv_iload S.1 S.2.1 dL_step_205 (lv_at hl 2 rfl) ?_
                      refine lv_icmp_ne (tgt := 246) S.1 S.2.1 dL_step_207 (by decide) (fun c_207 => ?_) (fun c_207 => ?_)
                      · exact absurd rfl c_207
                      · refine lv_iload_n S.1 S.2.1 dL_step_210 rfl (lv_at hl 6 rfl) ?_
                        refine lv_iconst (v := 5) S.1 S.2.1 dL_step_211 (by decide) ?_
                        refine lv_irem S.1 S.2.1 dL_step_212 (by decide) ?_
                        refine g_top (jrem5 (by omega)) ?_
                        refine lv_iload_n S.1 S.2.1 dL_step_213 rfl (lv_at hl 5 rfl) ?_
                        refine lv_iconst (v := 5) S.1 S.2.1 dL_step_214 (by decide) ?_
                        refine lv_irem S.1 S.2.1 dL_step_215 (by decide) ?_
                        refine g_top (jrem5 (by omega)) ?_
                        refine lv_icmp_le (tgt := 229) S.1 S.2.1 dL_step_216 (by decide) (fun c_216 => ?_) (fun c_216 => ?_)
                        · exact absurd ((nI_leI (by omega) (by omega)).mp c_216) hq
                        · refine lv_iload S.1 S.2.1 dL_step_219 (lv_at hl 0 rfl) ?_
                          refine lv_bipush (v := (-107)) S.1 S.2.1 dL_step_221 (by decide) ?_
                          refine lv_icmp_ne (tgt := 246) S.1 S.2.1 dL_step_223 (by decide) (fun c_223 => ?_) (fun c_223 => ?_)
                          · exact absurd c_223 (by decide)
                          · refine lv_goto (tgt := 242) S.1 S.2.1 dL_step_226 (by decide) ?_
                            refine lv_iconst (v := 1) S.1 S.2.1 dL_step_242 (by decide) ?_
                            refine lv_goto (tgt := 247) S.1 S.2.1 dL_step_243 (by decide) ?_
                            exact g_zret S G hr hlk (by decide) (⟨rfl, ids, ad, _, rfl, P4.to J5 e5 rfl (fun f i k hf => upd3_n (by omega)) (Nat.le_refl _) (Nat.le_refl _), rfl, rfl, rfl, rfl⟩) (Nat.le_of_ble_eq_true rfl) (Nat.le_of_ble_eq_true rfl) dL_step_247
            · refine jnN (X := fun n => W p l e (headSpec wsL_step ({ frames := 10, cells := 24, slots := 192, locals := 198 } : Room)).room s m ([.ref (ad 7 0), .int what, .int (nI X), .int (nI Y), .ref (ad 20 0), .ref (ad 21 0), .ref (ad 22 0)] : List Value).toArray below meth c s.heap [] (0) (0) (MQ below (va_Qi (fun q u => q = 1 ∧ ∃ (ids' : gIds) (ad' : gAd) (κ' : gMem), u = (ids', ad', gk κ') ∧ PL (N + 1) (B + 12) ids' κ' ∧ ad' 7 0 = ad 7 0 ∧ ad' 20 0 = ad 20 0 ∧ ad' 21 0 = ad 21 0 ∧ ad' 22 0 = ad 22 0) (gE D aC A) A) ([.ref (ad 7 0), .int what, .int (nI X), .int (nI Y), .ref (ad 20 0), .ref (ad 21 0), .ref (ad 22 0)] : List Value).toArray s 24 192 A) (F0 m 105 ls [.int (nI n)])) (fun n => n = 0 ∨ (2 ≤ n ∧ n ≤ 9)) (fun K105 => ?_) ?_
              · refine lv_iload_n S.1 S.2.1 dL_step_88 rfl (lv_at hl 3 rfl) ?_
                refine lv_bipush (v := 9) S.1 S.2.1 dL_step_89 (by decide) ?_
                refine lv_irem S.1 S.2.1 dL_step_91 (by decide) ?_
                refine g_top (jrem9 (by omega)) ?_
                refine lv_if_ne (tgt := 99) S.1 S.2.1 dL_step_92 (by decide) (fun c_92 => ?_) (fun c_92 => ?_)
                · refine lv_iconst (v := 1) S.1 S.2.1 dL_step_99 (by decide) ?_
                  refine lv_iload_n S.1 S.2.1 dL_step_100 rfl (lv_at hl 3 rfl) ?_
                  refine lv_bipush (v := 9) S.1 S.2.1 dL_step_101 (by decide) ?_
                  refine lv_irem S.1 S.2.1 dL_step_103 (by decide) ?_
                  refine g_top (jrem9 (by omega)) ?_
                  refine lv_iadd S.1 S.2.1 dL_step_104 ?_
                  refine g_top (nI_add 1 (Y % 9)) ?_
                  exact K105 (1 + Y % 9) (Or.inr ⟨by have : Y % 9 ≠ 0 := fun z => c_92 (by rw [z]; rfl); omega, by omega⟩)
                · refine lv_iconst (v := 0) S.1 S.2.1 dL_step_95 (by decide) ?_
                  refine lv_goto (tgt := 105) S.1 S.2.1 dL_step_96 (by decide) ?_
                  exact K105 0 (Or.inl rfl)
              · intro n9 hn9
                refine lv_istore (lv' := [(7, _), (0, _), (1, _), (2, _), (3, _), (4, _), (5, _), (6, _)]) S.1 S.2.1 dL_step_105 hl (by decide) rfl (fun ls hl => ?_)
                refine lv_aload_n S.1 S.2.1 dL_step_107 rfl (lv_at hl 1 rfl) ?_
                refine lv_iload_n S.1 S.2.1 dL_step_108 rfl (lv_at hl 3 rfl) ?_
                refine lv_bipush (v := 6) S.1 S.2.1 dL_step_109 (by decide) ?_
                refine lv_irem S.1 S.2.1 dL_step_111 (by decide) ?_
                refine g_top (jrem6 (by omega)) ?_
                refine lv_iload S.1 S.2.1 dL_step_112 (lv_at hl 0 rfl) ?_
                have hT := lossT_0 (a := X % 6) (n := n9) (by omega) hn9
                refine gx_cVi S G hF hl 7 (hV 7 _ (by first | decide | (show _ < 1; omega))) (by decide) (c_X6_setLoss l hlf _ _ _ _ _ hV) (cwV 2 S.2.2.2.2 gL_step_X6_setLoss rfl rfl rfl (by decide +kernel) ⟨Nat.le_of_ble_eq_true rfl, Nat.le_of_ble_eq_true rfl⟩) rfl rfl (Nat.le_of_ble_eq_true rfl) dL_step_114 ⟨Nat.le_of_ble_eq_true rfl, Nat.le_of_ble_eq_true rfl⟩ (fun _ _ _ _ _ _ hp _ _ _ _ => (xE_0 hp.1 hT).elim) (fun r_114 u_114 H locs hp_114 G => ?_)
                obtain ⟨-, rfl, rfl⟩ := hp_114
                have G : gS D aC A s _ _ (gk _) H locs := G
                rw [tN_nI (show X % 6 < 2 ^ 31 by omega)] at G
                obtain ⟨J2, e2⟩ := op_setLoss J.1 hT
                rw [tN_nI (show X % 6 < 2 ^ 31 by omega)] at J2 e2
                refine g_top (congrArg (sLost κ) (tN_nI (show X % 6 < 2 ^ 31 by omega))) ?_
                refine lv_istore (lv' := [(8, _), (7, _), (0, _), (1, _), (2, _), (3, _), (4, _), (5, _), (6, _)]) S.1 S.2.1 dL_step_117 hl (by decide) rfl (fun ls hl => ?_)
                refine lv_iload S.1 S.2.1 dL_step_119 (lv_at hl 0 rfl) ?_
                refine lv_if_lt (tgt := 141) S.1 S.2.1 dL_step_121 (by decide) (fun c_121 => ?_) (fun c_121 => ?_)
                · exact absurd c_121 (loss_nn J.1 (by omega))
                · refine lv_aload_n S.1 S.2.1 dL_step_124 rfl (lv_at hl 2 rfl) ?_
                  refine lv_iload_n S.1 S.2.1 dL_step_125 rfl (lv_at hl 4 rfl) ?_
                  refine lv_bipush (v := 6) S.1 S.2.1 dL_step_126 (by decide) ?_
                  refine lv_irem S.1 S.2.1 dL_step_128 (by decide) ?_
                  refine g_top (jrem6 (by omega)) ?_
                  refine lv_iload S.1 S.2.1 dL_step_129 (lv_at hl 1 rfl) ?_
                  refine gx_cVi S G hF hl 7 (hV 7 _ (by first | decide | (show _ < 1; omega))) (by decide) (c_X6_setLoss l hlf _ _ _ _ _ hV) (cwV 2 S.2.2.2.2 gL_step_X6_setLoss rfl rfl rfl (by decide +kernel) ⟨Nat.le_of_ble_eq_true rfl, Nat.le_of_ble_eq_true rfl⟩) rfl rfl (Nat.le_of_ble_eq_true rfl) dL_step_131 ⟨Nat.le_of_ble_eq_true rfl, Nat.le_of_ble_eq_true rfl⟩ (fun _ _ _ _ _ _ hp _ _ _ _ => (xE_0 hp.1 hT).elim) (fun r_131 u_131 H locs hp_131 G => ?_)
                  obtain ⟨-, rfl, rfl⟩ := hp_131
                  have G : gS D aC A s _ _ (gk _) H locs := G
                  rw [tN_nI (show X % 6 < 2 ^ 31 by omega)] at G
                  obtain ⟨J3, e3⟩ := op_setLoss J2 hT
                  rw [tN_nI (show X % 6 < 2 ^ 31 by omega)] at J3 e3
                  refine g_top (show _ = (0 : Int32) from by rw [tN_nI (show X % 6 < 2 ^ 31 by omega)]; exact loss_0 (by omega)) ?_
                  refine lv_if_ne (tgt := 141) S.1 S.2.1 dL_step_134 (by decide) (fun c_134 => ?_) (fun c_134 => ?_)
                  · exact absurd rfl c_134
                  · refine lv_iconst (v := 1) S.1 S.2.1 dL_step_137 (by decide) ?_
                    refine lv_goto (tgt := 142) S.1 S.2.1 dL_step_138 (by decide) ?_
                    exact g_zret S G hr hlk (by decide) (⟨rfl, ids, ad, _, rfl, (J.to J2 e2 rfl (fun f i k hf => (upd3_n (by omega)).trans (upd3_n (by omega))) (Nat.le_refl _) (Nat.le_refl _)).to J3 e3 rfl (fun f i k hf => (upd3_n (by omega)).trans (upd3_n (by omega))) (Nat.le_succ N) (Nat.le_add_right _ _), rfl, rfl, rfl, rfl⟩) (Nat.le_of_ble_eq_true rfl) (Nat.le_of_ble_eq_true rfl) dL_step_142
          · refine lv_aload S.1 S.2.1 dL_step_64 (lv_at hl 5 rfl) ?_
            refine lv_iconst (v := 1) S.1 S.2.1 dL_step_66 (by decide) ?_
            refine k_iald S G 21 h21 rfl rfl rfl rfl (show 1 < 2 by decide) dL_step_67 ?_
            refine lv_if_le (tgt := 82) S.1 S.2.1 dL_step_68 (by decide) (fun c_68 => ?_) (fun c_68 => ?_)
            · refine lv_iload_n S.1 S.2.1 dL_step_82 rfl (lv_at hl 1 rfl) ?_
              refine lv_bipush (v := 18) S.1 S.2.1 dL_step_83 (by decide) ?_
              refine lv_icmp_ne (tgt := 143) S.1 S.2.1 dL_step_85 (by decide) (fun c_85 => ?_) (fun c_85 => ?_)
              · refine lv_iload_n S.1 S.2.1 dL_step_143 rfl (lv_at hl 1 rfl) ?_
                refine lv_bipush (v := 19) S.1 S.2.1 dL_step_144 (by decide) ?_
                refine lv_icmp_ne (tgt := 248) S.1 S.2.1 dL_step_146 (by decide) (fun c_146 => ?_) (fun c_146 => ?_)
                · refine lv_iload_n S.1 S.2.1 dL_step_248 rfl (lv_at hl 1 rfl) ?_
                  refine lv_bipush (v := 20) S.1 S.2.1 dL_step_249 (by decide) ?_
                  refine lv_icmp_ne (tgt := 311) S.1 S.2.1 dL_step_251 (by decide) (fun c_251 => ?_) (fun c_251 => ?_)
                  · refine lv_iload_n S.1 S.2.1 dL_step_311 rfl (lv_at hl 1 rfl) ?_
                    refine lv_bipush (v := 21) S.1 S.2.1 dL_step_312 (by decide) ?_
                    refine lv_icmp_ne (tgt := 433) S.1 S.2.1 dL_step_314 (by decide) (fun c_314 => ?_) (fun c_314 => ?_)
                    · refine jnN (X := fun n => W p l e (headSpec wsL_step ({ frames := 10, cells := 24, slots := 192, locals := 198 } : Room)).room s m ([.ref (ad 7 0), .int what, .int (nI X), .int (nI Y), .ref (ad 20 0), .ref (ad 21 0), .ref (ad 22 0)] : List Value).toArray below meth c s.heap [] (0) (0) (MQ below (va_Qi (fun q u => q = 1 ∧ ∃ (ids' : gIds) (ad' : gAd) (κ' : gMem), u = (ids', ad', gk κ') ∧ PL (N + 1) (B + 12) ids' κ' ∧ ad' 7 0 = ad 7 0 ∧ ad' 20 0 = ad 20 0 ∧ ad' 21 0 = ad 21 0 ∧ ad' 22 0 = ad 22 0) (gE D aC A) A) ([.ref (ad 7 0), .int what, .int (nI X), .int (nI Y), .ref (ad 20 0), .ref (ad 21 0), .ref (ad 22 0)] : List Value).toArray s 24 192 A) (F0 m 449 ls [.int (nI n)])) (fun n => 1 ≤ n ∧ n ≤ 12) (fun K449 => ?_) ?_
                      · refine lv_iconst (v := 1) S.1 S.2.1 dL_step_433 (by decide) ?_
                        refine lv_iload_n S.1 S.2.1 dL_step_434 rfl (lv_at hl 3 rfl) ?_
                        refine lv_iload_n S.1 S.2.1 dL_step_435 rfl (lv_at hl 3 rfl) ?_
                        refine lv_iconst (v := 5) S.1 S.2.1 dL_step_436 (by decide) ?_
                        refine lv_irem S.1 S.2.1 dL_step_437 (by decide) ?_
                        refine g_top (jrem5 (by omega)) ?_
                        refine lv_if_ne (tgt := 446) S.1 S.2.1 dL_step_438 (by decide) (fun c_438 => ?_) (fun c_438 => ?_)
                        · refine lv_iconst (v := 2) S.1 S.2.1 dL_step_446 (by decide) ?_
                          refine lv_irem S.1 S.2.1 dL_step_447 (by decide) ?_
                          refine g_top (jrem2 (by omega)) ?_
                          refine lv_iadd S.1 S.2.1 dL_step_448 ?_
                          refine g_top (nI_add 1 (Y % 2)) ?_
                          exact K449 (1 + Y % 2) ⟨by omega, by omega⟩
                        · refine lv_bipush (v := 12) S.1 S.2.1 dL_step_441 (by decide) ?_
                          refine lv_goto (tgt := 447) S.1 S.2.1 dL_step_443 (by decide) ?_
                          refine lv_irem S.1 S.2.1 dL_step_447 (by decide) ?_
                          refine g_top (jrem12 (by omega)) ?_
                          refine lv_iadd S.1 S.2.1 dL_step_448 ?_
                          refine g_top (nI_add 1 (Y % 12)) ?_
                          exact K449 (1 + Y % 12) ⟨by omega, by omega⟩
                      · intro n9 hn9
                        refine lv_istore (lv' := [(7, _), (0, _), (1, _), (2, _), (3, _), (4, _), (5, _), (6, _)]) S.1 S.2.1 dL_step_449 hl (by decide) rfl (fun ls hl => ?_)
                        refine lv_aload S.1 S.2.1 dL_step_451 (lv_at hl 6 rfl) ?_
                        refine lv_iconst (v := 0) S.1 S.2.1 dL_step_453 (by decide) ?_
                        refine lv_dup2_11 S.1 S.2.1 dL_step_454 rfl rfl ?_
                        refine k_iald S G 21 h21 rfl rfl rfl rfl (show 0 < 2 by decide) dL_step_455 ?_
                        refine g_top (hc0.trans hT7) ?_
                        refine lv_iload S.1 S.2.1 dL_step_456 (lv_at hl 0 rfl) ?_
                        refine lv_iadd S.1 S.2.1 dL_step_458 ?_
                        refine g_top (nI_add T n9) ?_
                        refine k_iast S G 21 h21 rfl rfl rfl rfl (show 0 < 2 by decide) dL_step_459 (fun H locs G => ?_)
                        have hT1 : ixL (upd3 κ 21 0 0 (nI (T + n9)) 7 0 6) 10001 := J.1.T
                        have hTA := advT_0 (κ := upd3 κ 21 0 0 (nI (T + n9))) hT7 hn9.1 hn9.2 (show T ≤ 9000 by omega)
                        obtain ⟨J2, p76, p21⟩ := J.adv hT7 hn9.1 hn9.2 (show T ≤ 9000 by omega) (Nat.le_succ N) (Nat.le_refl _)
                        refine lv_aload_n S.1 S.2.1 dL_step_460 rfl (lv_at hl 1 rfl) ?_
                        refine lv_iload S.1 S.2.1 dL_step_461 (lv_at hl 0 rfl) ?_
                        refine gx_cVi S G hF hl 7 (hV 7 _ (by first | decide | (show _ < 1; omega))) (by decide) (c_X6_advance l hlf _ _ _ _ hV (hW.upd (f := 21) (i := 0) (k := 0) (x := nI (T + n9)) rfl) hT1) (cwV 1 S.2.2.2.2 gL_step_X6_advance rfl rfl rfl (by decide +kernel) ⟨Nat.le_of_ble_eq_true rfl, Nat.le_of_ble_eq_true rfl⟩) rfl rfl (Nat.le_of_ble_eq_true rfl) dL_step_463 ⟨Nat.le_of_ble_eq_true rfl, Nat.le_of_ble_eq_true rfl⟩ (fun _ _ _ _ _ _ hp _ _ _ _ => (xE_0 hp.1 hTA).elim) (fun r_463 u_463 H locs hp_463 G => ?_)
                        obtain ⟨-, rfl, rfl⟩ := hp_463
                        have G : gS D aC A s _ _ (gk _) H locs := G
                        refine g_top p76 ?_
                        refine lv_aload S.1 S.2.1 dL_step_466 (lv_at hl 6 rfl) ?_
                        refine lv_iconst (v := 0) S.1 S.2.1 dL_step_468 (by decide) ?_
                        refine k_iald S G 21 h21 rfl rfl rfl rfl (show 0 < 2 by decide) dL_step_469 ?_
                        refine g_top p21 ?_
                        refine lv_icmp_ne (tgt := 477) S.1 S.2.1 dL_step_470 (by decide) (fun c_470 => ?_) (fun c_470 => ?_)
                        · exact absurd rfl c_470
                        · refine lv_iconst (v := 1) S.1 S.2.1 dL_step_473 (by decide) ?_
                          refine lv_goto (tgt := 478) S.1 S.2.1 dL_step_474 (by decide) ?_
                          exact g_zret S G hr hlk (by decide) (⟨rfl, ids, ad, _, rfl, J2, rfl, rfl, rfl, rfl⟩) (Nat.le_of_ble_eq_true rfl) (Nat.le_of_ble_eq_true rfl) dL_step_478
                    · obtain ⟨t9, et⟩ : ∃ z, X % 12 = z := ⟨_, rfl⟩
                      obtain ⟨n9, en⟩ : ∃ z, 1 + Y % 12 = z := ⟨_, rfl⟩
                      have ht9 : t9 < 12 := by omega
                      have hn9 : 1 ≤ n9 ∧ n9 ≤ 12 := by omega
                      have hTq := topT_at (κ := κ) ht9 hn9.1 (show n9 ≤ 20 by omega)
                      refine lv_iload_n S.1 S.2.1 dL_step_317 rfl (lv_at hl 2 rfl) ?_
                      refine lv_bipush (v := 12) S.1 S.2.1 dL_step_318 (by decide) ?_
                      refine lv_irem S.1 S.2.1 dL_step_320 (by decide) ?_
                      refine g_top ((jrem12 (by omega)).trans (congrArg nI et)) ?_
                      refine lv_istore (lv' := [(7, _), (0, _), (1, _), (2, _), (3, _), (4, _), (5, _), (6, _)]) S.1 S.2.1 dL_step_321 hl (by decide) rfl (fun ls hl => ?_)
                      refine lv_iconst (v := 1) S.1 S.2.1 dL_step_323 (by decide) ?_
                      refine lv_iload_n S.1 S.2.1 dL_step_324 rfl (lv_at hl 4 rfl) ?_
                      refine lv_bipush (v := 12) S.1 S.2.1 dL_step_325 (by decide) ?_
                      refine lv_irem S.1 S.2.1 dL_step_327 (by decide) ?_
                      refine g_top (jrem12 (by omega)) ?_
                      refine lv_iadd S.1 S.2.1 dL_step_328 ?_
                      refine g_top ((nI_add 1 (Y % 12)).trans (congrArg nI en)) ?_
                      refine lv_istore (lv' := [(8, _), (7, _), (0, _), (1, _), (2, _), (3, _), (4, _), (5, _), (6, _)]) S.1 S.2.1 dL_step_329 hl (by decide) rfl (fun ls hl => ?_)
                      refine lv_aload_n S.1 S.2.1 dL_step_331 rfl (lv_at hl 2 rfl) ?_
                      refine lv_iload S.1 S.2.1 dL_step_332 (lv_at hl 1 rfl) ?_
                      refine g_cVi S G hF hl 7 (hV 7 _ (by first | decide | (show _ < 1; omega))) (by decide) (c_X6_earnedk l _ _ _ _ hV ht9) (cwV 1 S.2.2.2.2 gL_step_X6_earned rfl rfl rfl (by decide +kernel) ⟨Nat.le_of_ble_eq_true rfl, Nat.le_of_ble_eq_true rfl⟩) rfl rfl (Nat.le_of_ble_eq_true rfl) dL_step_334 ⟨Nat.le_of_ble_eq_true rfl, Nat.le_of_ble_eq_true rfl⟩ (fun r_334 u_334 H locs hp_334 G => ?_)
                      obtain ⟨rfl, rfl⟩ := hp_334
                      have G : gS D aC A s _ _ (gk _) H locs := G
                      refine lv_istore (lv' := [(9, _), (8, _), (7, _), (0, _), (1, _), (2, _), (3, _), (4, _), (5, _), (6, _)]) S.1 S.2.1 dL_step_337 hl (by decide) rfl (fun ls hl => ?_)
                      refine lv_aload_n S.1 S.2.1 dL_step_339 rfl (lv_at hl 3 rfl) ?_
                      refine lv_iload S.1 S.2.1 dL_step_340 (lv_at hl 2 rfl) ?_
                      refine g_cVi S G hF hl 7 (hV 7 _ (by first | decide | (show _ < 1; omega))) (by decide) (c_X6_bondk l _ _ _ _ hV ht9) (cwV 1 S.2.2.2.2 gL_step_X6_bond rfl rfl rfl (by decide +kernel) ⟨Nat.le_of_ble_eq_true rfl, Nat.le_of_ble_eq_true rfl⟩) rfl rfl (Nat.le_of_ble_eq_true rfl) dL_step_342 ⟨Nat.le_of_ble_eq_true rfl, Nat.le_of_ble_eq_true rfl⟩ (fun r_342 u_342 H locs hp_342 G => ?_)
                      obtain ⟨rfl, rfl⟩ := hp_342
                      have G : gS D aC A s _ _ (gk _) H locs := G
                      refine lv_istore (lv' := [(10, _), (9, _), (8, _), (7, _), (0, _), (1, _), (2, _), (3, _), (4, _), (5, _), (6, _)]) S.1 S.2.1 dL_step_345 hl (by decide) rfl (fun ls hl => ?_)
                      refine lv_aload_n S.1 S.2.1 dL_step_347 rfl (lv_at hl 4 rfl) ?_
                      refine lv_iconst (v := 4) S.1 S.2.1 dL_step_348 (by decide) ?_
                      refine lv_iload S.1 S.2.1 dL_step_349 (lv_at hl 3 rfl) ?_
                      refine lv_iload S.1 S.2.1 dL_step_351 (lv_at hl 2 rfl) ?_
                      refine lv_iconst (v := 0) S.1 S.2.1 dL_step_353 (by decide) ?_
                      by_cases hT : sTopUpT κ (nI t9) (nI n9) = 0
                      · have hno : ¬ sTopUpT κ (nI t9) (nI n9) = 2 := by rw [hT]; decide
                        refine g_cSWi S G hF hl (c_L_asks_topUp l hlf ids ad _ _ _ _ hV hno) (vx_cwSW 5 S.2.2.2.2 gL_step_L_asks rfl rfl rfl (by decide +kernel) ⟨Nat.le_of_ble_eq_true rfl, Nat.le_of_ble_eq_true rfl⟩) rfl rfl (Nat.le_of_ble_eq_true rfl) dL_step_354 ⟨Nat.le_of_ble_eq_true rfl, Nat.le_of_ble_eq_true rfl⟩ (fun r9 u9 H locs hp G => ?_)
                        obtain ⟨rfl, rfl⟩ := or3_0 hp hT
                        have G : gS D aC A s _ _ (gk _) H locs := G
                        rw [tN_nI (show t9 < 2 ^ 31 by omega)] at G
                        obtain ⟨J2, e2, p1, p2⟩ := op_topUp J.1 hT
                        rw [tN_nI (show t9 < 2 ^ 31 by omega)] at J2 e2 p1 p2
                        refine g_top (show _ = κ 5 t9 3 + nI n9 from by rw [tN_nI (show t9 < 2 ^ 31 by omega)]; exact p2) ?_
                        refine lv_istore (lv' := [(11, _), (10, _), (9, _), (8, _), (7, _), (0, _), (1, _), (2, _), (3, _), (4, _), (5, _), (6, _)]) S.1 S.2.1 dL_step_357 hl (by decide) rfl (fun ls hl => ?_)
                        refine lv_iload S.1 S.2.1 dL_step_359 (lv_at hl 2 rfl) ?_
                        refine lv_iload S.1 S.2.1 dL_step_361 (lv_at hl 3 rfl) ?_
                        refine lv_icmp_ge (tgt := 392) S.1 S.2.1 dL_step_363 (by decide) (fun c_363 => ?_) (fun c_363 => ?_)
                        · refine lv_iload S.1 S.2.1 dL_step_392 (lv_at hl 0 rfl) ?_
                          refine lv_iload S.1 S.2.1 dL_step_394 (lv_at hl 1 rfl) ?_
                          refine lv_iload S.1 S.2.1 dL_step_396 (lv_at hl 3 rfl) ?_
                          refine lv_iadd S.1 S.2.1 dL_step_398 ?_
                          refine lv_icmp_ne (tgt := 431) S.1 S.2.1 dL_step_399 (by decide) (fun c_399 => ?_) (fun c_399 => ?_)
                          · exact absurd rfl c_399
                          · refine lv_aload_n S.1 S.2.1 dL_step_402 rfl (lv_at hl 5 rfl) ?_
                            refine lv_iload S.1 S.2.1 dL_step_403 (lv_at hl 4 rfl) ?_
                            refine g_cVi S G hF hl 7 (hV 7 _ (by first | decide | (show _ < 1; omega))) (by decide) (c_X6_earnedk l _ _ _ _ hV ht9) (cwV 1 S.2.2.2.2 gL_step_X6_earned rfl rfl rfl (by decide +kernel) ⟨Nat.le_of_ble_eq_true rfl, Nat.le_of_ble_eq_true rfl⟩) rfl rfl (Nat.le_of_ble_eq_true rfl) dL_step_405 ⟨Nat.le_of_ble_eq_true rfl, Nat.le_of_ble_eq_true rfl⟩ (fun r_405 u_405 H locs hp_405 G => ?_)
                            obtain ⟨rfl, rfl⟩ := hp_405
                            have G : gS D aC A s _ _ (gk _) H locs := G
                            refine g_top (show _ = κ 5 t9 4 - nI n9 from p1) ?_
                            refine lv_iload S.1 S.2.1 dL_step_408 (lv_at hl 2 rfl) ?_
                            refine lv_iload S.1 S.2.1 dL_step_410 (lv_at hl 3 rfl) ?_
                            refine lv_isub S.1 S.2.1 dL_step_412 ?_
                            refine lv_icmp_ne (tgt := 431) S.1 S.2.1 dL_step_413 (by decide) (fun c_413 => ?_) (fun c_413 => ?_)
                            · exact absurd rfl c_413
                            · refine lv_aload_n S.1 S.2.1 dL_step_416 rfl (lv_at hl 5 rfl) ?_
                              refine lv_iload S.1 S.2.1 dL_step_417 (lv_at hl 4 rfl) ?_
                              refine g_cVi S G hF hl 7 (hV 7 _ (by first | decide | (show _ < 1; omega))) (by decide) (c_X6_bondk l _ _ _ _ hV ht9) (cwV 1 S.2.2.2.2 gL_step_X6_bond rfl rfl rfl (by decide +kernel) ⟨Nat.le_of_ble_eq_true rfl, Nat.le_of_ble_eq_true rfl⟩) rfl rfl (Nat.le_of_ble_eq_true rfl) dL_step_419 ⟨Nat.le_of_ble_eq_true rfl, Nat.le_of_ble_eq_true rfl⟩ (fun r_419 u_419 H locs hp_419 G => ?_)
                              obtain ⟨rfl, rfl⟩ := hp_419
                              have G : gS D aC A s _ _ (gk _) H locs := G
                              refine g_top (show _ = κ 5 t9 3 + nI n9 from p2) ?_
                              refine lv_iload S.1 S.2.1 dL_step_422 (lv_at hl 0 rfl) ?_
                              refine lv_icmp_ne (tgt := 431) S.1 S.2.1 dL_step_424 (by decide) (fun c_424 => ?_) (fun c_424 => ?_)
                              · exact absurd rfl c_424
                              · refine lv_iconst (v := 1) S.1 S.2.1 dL_step_427 (by decide) ?_
                                refine lv_goto (tgt := 432) S.1 S.2.1 dL_step_428 (by decide) ?_
                                exact g_zret S G hr hlk (by decide) (⟨rfl, ids, ad, _, rfl, J.to J2 e2 rfl (fun f i k hf => by rw [sTopUpK]; exact (upd3_n (by omega)).trans ((upd3_n (by omega)).trans (upd3_n (by omega)))) (Nat.le_succ N) (Nat.le_add_right _ _), rfl, rfl, rfl, rfl⟩) (Nat.le_of_ble_eq_true rfl) (Nat.le_of_ble_eq_true rfl) dL_step_432
                        · exact absurd (by rw [hTq] at hT; exact Decidable.byContradiction (fun z => absurd (hT.symm.trans (if_neg z)) (by decide))) c_363
                      · have hT3 : sTopUpT κ (nI t9) (nI n9) = 3 := by
                          rw [hTq] at hT ⊢
                          exact if_neg (fun z => hT (if_pos z))
                        have hno : ¬ sTopUpT κ (nI t9) (nI n9) = 2 := by rw [hT3]; decide
                        refine g_cSWi S G hF hl (c_L_asks_topUp l hlf ids ad _ _ _ _ hV hno) (vx_cwSW 5 S.2.2.2.2 gL_step_L_asks rfl rfl rfl (by decide +kernel) ⟨Nat.le_of_ble_eq_true rfl, Nat.le_of_ble_eq_true rfl⟩) rfl rfl (Nat.le_of_ble_eq_true rfl) dL_step_354 ⟨Nat.le_of_ble_eq_true rfl, Nat.le_of_ble_eq_true rfl⟩ (fun r9 u9 H locs hp G => ?_)
                        obtain ⟨rfl, rfl⟩ := or3_3 hp hT3
                        have G : gS D aC A s _ _ (gk _) H locs := G
                        refine lv_istore (lv' := [(11, _), (10, _), (9, _), (8, _), (7, _), (0, _), (1, _), (2, _), (3, _), (4, _), (5, _), (6, _)]) S.1 S.2.1 dL_step_357 hl (by decide) rfl (fun ls hl => ?_)
                        refine lv_iload S.1 S.2.1 dL_step_359 (lv_at hl 2 rfl) ?_
                        refine lv_iload S.1 S.2.1 dL_step_361 (lv_at hl 3 rfl) ?_
                        refine lv_icmp_ge (tgt := 392) S.1 S.2.1 dL_step_363 (by decide) (fun c_363 => ?_) (fun c_363 => ?_)
                        · exact absurd (hTq.trans (if_pos c_363)) hT
                        · refine lv_iload S.1 S.2.1 dL_step_366 (lv_at hl 0 rfl) ?_
                          refine lv_bipush (v := (-108)) S.1 S.2.1 dL_step_368 (by decide) ?_
                          refine lv_icmp_ne (tgt := 388) S.1 S.2.1 dL_step_370 (by decide) (fun c_370 => ?_) (fun c_370 => ?_)
                          · exact absurd c_370 (by decide)
                          · refine lv_aload_n S.1 S.2.1 dL_step_373 rfl (lv_at hl 5 rfl) ?_
                            refine lv_iload S.1 S.2.1 dL_step_374 (lv_at hl 4 rfl) ?_
                            refine g_cVi S G hF hl 7 (hV 7 _ (by first | decide | (show _ < 1; omega))) (by decide) (c_X6_bondk l _ _ _ _ hV ht9) (cwV 1 S.2.2.2.2 gL_step_X6_bond rfl rfl rfl (by decide +kernel) ⟨Nat.le_of_ble_eq_true rfl, Nat.le_of_ble_eq_true rfl⟩) rfl rfl (Nat.le_of_ble_eq_true rfl) dL_step_376 ⟨Nat.le_of_ble_eq_true rfl, Nat.le_of_ble_eq_true rfl⟩ (fun r_376 u_376 H locs hp_376 G => ?_)
                            obtain ⟨rfl, rfl⟩ := hp_376
                            have G : gS D aC A s _ _ (gk _) H locs := G
                            refine lv_iload S.1 S.2.1 dL_step_379 (lv_at hl 1 rfl) ?_
                            refine lv_icmp_ne (tgt := 388) S.1 S.2.1 dL_step_381 (by decide) (fun c_381 => ?_) (fun c_381 => ?_)
                            · exact absurd rfl c_381
                            · refine lv_iconst (v := 1) S.1 S.2.1 dL_step_384 (by decide) ?_
                              refine lv_goto (tgt := 432) S.1 S.2.1 dL_step_385 (by decide) ?_
                              exact g_zret S G hr hlk (by decide) (⟨rfl, ids, ad, κ, rfl, J.up (Nat.le_succ N) (Nat.le_add_right _ _), rfl, rfl, rfl, rfl⟩) (Nat.le_of_ble_eq_true rfl) (Nat.le_of_ble_eq_true rfl) dL_step_432
                  · refine lv_aload_n S.1 S.2.1 dL_step_254 rfl (lv_at hl 0 rfl) ?_
                    refine lv_iload_n S.1 S.2.1 dL_step_255 rfl (lv_at hl 2 rfl) ?_
                    refine lv_bipush (v := 12) S.1 S.2.1 dL_step_256 (by decide) ?_
                    refine lv_irem S.1 S.2.1 dL_step_258 (by decide) ?_
                    refine g_top (jrem12 (by omega)) ?_
                    refine lv_iconst (v := 1) S.1 S.2.1 dL_step_259 (by decide) ?_
                    refine lv_iload_n S.1 S.2.1 dL_step_260 rfl (lv_at hl 3 rfl) ?_
                    refine lv_bipush (v := 20) S.1 S.2.1 dL_step_261 (by decide) ?_
                    refine lv_irem S.1 S.2.1 dL_step_263 (by decide) ?_
                    refine g_top (jrem20 (by omega)) ?_
                    refine lv_iadd S.1 S.2.1 dL_step_264 ?_
                    have hT := prcT_0 (a := X % 12) (n := 1 + Y % 20) (by omega) (by omega) (by omega)
                    obtain ⟨pr1, pr2⟩ := prc_rng (j := X % 12) J.1 (by omega)
                    refine g_top (nI_add 1 (Y % 20)) ?_
                    refine gx_cVi S G hF hl 7 (hV 7 _ (by first | decide | (show _ < 1; omega))) (by decide) (c_X6_setPrice l hlf _ _ _ _ _ hV) (cwV 2 S.2.2.2.2 gL_step_X6_setPrice rfl rfl rfl (by decide +kernel) ⟨Nat.le_of_ble_eq_true rfl, Nat.le_of_ble_eq_true rfl⟩) rfl rfl (Nat.le_of_ble_eq_true rfl) dL_step_265 ⟨Nat.le_of_ble_eq_true rfl, Nat.le_of_ble_eq_true rfl⟩ (fun _ _ _ _ _ _ hp _ _ _ _ => (xE_0 hp.1 hT).elim) (fun r_265 u_265 H locs hp_265 G => ?_)
                    obtain ⟨-, rfl, rfl⟩ := hp_265
                    have G : gS D aC A s _ _ (gk _) H locs := G
                    rw [tN_nI (show X % 12 < 2 ^ 31 by omega)] at G
                    obtain ⟨J2, e2⟩ := op_setPrice J.1 hT
                    rw [tN_nI (show X % 12 < 2 ^ 31 by omega)] at J2 e2
                    refine g_top (congrArg (fun z => κ 5 z 2) (tN_nI (show X % 12 < 2 ^ 31 by omega))) ?_
                    refine lv_istore (lv' := [(7, _), (0, _), (1, _), (2, _), (3, _), (4, _), (5, _), (6, _)]) S.1 S.2.1 dL_step_268 hl (by decide) rfl (fun ls hl => ?_)
                    refine lv_iload S.1 S.2.1 dL_step_270 (lv_at hl 0 rfl) ?_
                    refine lv_if_le (tgt := 309) S.1 S.2.1 dL_step_272 (by decide) (fun c_272 => ?_) (fun c_272 => ?_)
                    · exact absurd c_272 pr1
                    · refine lv_iload S.1 S.2.1 dL_step_275 (lv_at hl 0 rfl) ?_
                      refine lv_bipush (v := 20) S.1 S.2.1 dL_step_277 (by decide) ?_
                      refine lv_icmp_gt (tgt := 309) S.1 S.2.1 dL_step_279 (by decide) (fun c_279 => ?_) (fun c_279 => ?_)
                      · exact absurd c_279 pr2
                      · refine lv_aload_n S.1 S.2.1 dL_step_282 rfl (lv_at hl 1 rfl) ?_
                        refine lv_iload_n S.1 S.2.1 dL_step_283 rfl (lv_at hl 3 rfl) ?_
                        refine lv_bipush (v := 12) S.1 S.2.1 dL_step_284 (by decide) ?_
                        refine lv_irem S.1 S.2.1 dL_step_286 (by decide) ?_
                        refine g_top (jrem12 (by omega)) ?_
                        refine lv_iconst (v := 1) S.1 S.2.1 dL_step_287 (by decide) ?_
                        refine lv_iload_n S.1 S.2.1 dL_step_288 rfl (lv_at hl 4 rfl) ?_
                        refine lv_bipush (v := 20) S.1 S.2.1 dL_step_289 (by decide) ?_
                        refine lv_irem S.1 S.2.1 dL_step_291 (by decide) ?_
                        refine g_top (jrem20 (by omega)) ?_
                        refine lv_iadd S.1 S.2.1 dL_step_292 ?_
                        refine g_top (nI_add 1 (Y % 20)) ?_
                        refine gx_cVi S G hF hl 7 (hV 7 _ (by first | decide | (show _ < 1; omega))) (by decide) (c_X6_setPrice l hlf _ _ _ _ _ hV) (cwV 2 S.2.2.2.2 gL_step_X6_setPrice rfl rfl rfl (by decide +kernel) ⟨Nat.le_of_ble_eq_true rfl, Nat.le_of_ble_eq_true rfl⟩) rfl rfl (Nat.le_of_ble_eq_true rfl) dL_step_293 ⟨Nat.le_of_ble_eq_true rfl, Nat.le_of_ble_eq_true rfl⟩ (fun _ _ _ _ _ _ hp _ _ _ _ => (xE_0 hp.1 hT).elim) (fun r_293 u_293 H locs hp_293 G => ?_)
                        obtain ⟨-, rfl, rfl⟩ := hp_293
                        have G : gS D aC A s _ _ (gk _) H locs := G
                        rw [tN_nI (show X % 12 < 2 ^ 31 by omega)] at G
                        obtain ⟨J3, e3⟩ := op_setPrice J2 hT
                        rw [tN_nI (show X % 12 < 2 ^ 31 by omega)] at J3 e3
                        refine g_top (show _ = nI (1 + Y % 20) from by rw [tN_nI (show X % 12 < 2 ^ 31 by omega), upd3_s]) ?_
                        refine lv_iconst (v := 1) S.1 S.2.1 dL_step_296 (by decide) ?_
                        refine lv_iload_n S.1 S.2.1 dL_step_297 rfl (lv_at hl 4 rfl) ?_
                        refine lv_bipush (v := 20) S.1 S.2.1 dL_step_298 (by decide) ?_
                        refine lv_irem S.1 S.2.1 dL_step_300 (by decide) ?_
                        refine g_top (jrem20 (by omega)) ?_
                        refine lv_iadd S.1 S.2.1 dL_step_301 ?_
                        refine g_top (nI_add 1 (Y % 20)) ?_
                        refine lv_icmp_ne (tgt := 309) S.1 S.2.1 dL_step_302 (by decide) (fun c_302 => ?_) (fun c_302 => ?_)
                        · exact absurd rfl c_302
                        · refine lv_iconst (v := 1) S.1 S.2.1 dL_step_305 (by decide) ?_
                          refine lv_goto (tgt := 310) S.1 S.2.1 dL_step_306 (by decide) ?_
                          exact g_zret S G hr hlk (by decide) (⟨rfl, ids, ad, _, rfl, (J.to J2 e2 rfl (fun f i k hf => upd3_n (by omega)) (Nat.le_refl _) (Nat.le_refl _)).to J3 e3 rfl (fun f i k hf => upd3_n (by omega)) (Nat.le_succ N) (Nat.le_add_right _ _), rfl, rfl, rfl, rfl⟩) (Nat.le_of_ble_eq_true rfl) (Nat.le_of_ble_eq_true rfl) dL_step_310
                · refine lv_iload_n S.1 S.2.1 dL_step_149 rfl (lv_at hl 3 rfl) ?_
                  refine lv_bipush (v := 6) S.1 S.2.1 dL_step_150 (by decide) ?_
                  refine lv_irem S.1 S.2.1 dL_step_152 (by decide) ?_
                  refine g_top (jrem6 (by omega)) ?_
                  refine lv_istore (lv' := [(7, _), (0, _), (1, _), (2, _), (3, _), (4, _), (5, _), (6, _)]) S.1 S.2.1 dL_step_153 hl (by decide) rfl (fun ls hl => ?_)
                  refine lv_aload_n S.1 S.2.1 dL_step_155 rfl (lv_at hl 1 rfl) ?_
                  refine lv_iload_n S.1 S.2.1 dL_step_156 rfl (lv_at hl 3 rfl) ?_
                  refine lv_bipush (v := 12) S.1 S.2.1 dL_step_157 (by decide) ?_
                  refine lv_irem S.1 S.2.1 dL_step_159 (by decide) ?_
                  refine g_top (jrem12 (by omega)) ?_
                  refine lv_iload S.1 S.2.1 dL_step_160 (lv_at hl 0 rfl) ?_
                  have hT := attT_0 (a := X % 12) (b := Y % 6) (by omega) (by omega)
                  obtain ⟨h9, eh9⟩ : ∃ z, tN (κ 5 (X % 12) 1) = z := ⟨_, rfl⟩
                  have hh9 : h9 < 6 := by rw [← eh9]; exact (hW.2.2.2.2.2.1 (X % 12) (by omega)).2
                  refine gx_cVi S G hF hl 7 (hV 7 _ (by first | decide | (show _ < 1; omega))) (by decide) (c_X6_attach l hlf _ _ _ _ _ hV hW) (cwV 2 S.2.2.2.2 gL_step_X6_attach rfl rfl rfl (by decide +kernel) ⟨Nat.le_of_ble_eq_true rfl, Nat.le_of_ble_eq_true rfl⟩) rfl rfl (Nat.le_of_ble_eq_true rfl) dL_step_162 ⟨Nat.le_of_ble_eq_true rfl, Nat.le_of_ble_eq_true rfl⟩ (fun _ _ _ _ _ _ hp _ _ _ _ => (xE_0 hp.1 hT).elim) (fun r_162 u_162 H locs hp_162 G => ?_)
                  obtain ⟨-, rfl, rfl⟩ := hp_162
                  have G : gS D aC A s _ _ (gk _) H locs := G
                  rw [tN_nI (show X % 12 < 2 ^ 31 by omega), tN_nI (show Y % 6 < 2 ^ 31 by omega)] at G
                  obtain ⟨J2, e2⟩ := op_attach J.1 hT
                  rw [tN_nI (show X % 12 < 2 ^ 31 by omega), tN_nI (show Y % 6 < 2 ^ 31 by omega)] at J2 e2
                  obtain ⟨w9, ew9⟩ : ∃ z, tN (κ 4 (1 + X % 5) 1) = z := ⟨_, rfl⟩
                  have hw9 : w9 < 1 + X % 5 := by rw [← ew9]; exact (hW.2.2.2.2.1 (1 + X % 5) (by omega) (by omega)).2
                  refine g_top (show _ = nI h9 from by rw [tN_nI (show X % 12 < 2 ^ 31 by omega), eh9]) ?_
                  refine lv_istore (lv' := [(8, _), (7, _), (0, _), (1, _), (2, _), (3, _), (4, _), (5, _), (6, _)]) S.1 S.2.1 dL_step_165 hl (by decide) rfl (fun ls hl => ?_)
                  refine lv_aload_n S.1 S.2.1 dL_step_167 rfl (lv_at hl 2 rfl) ?_
                  refine lv_iconst (v := 5) S.1 S.2.1 dL_step_168 (by decide) ?_
                  refine lv_iconst (v := 1) S.1 S.2.1 dL_step_169 (by decide) ?_
                  refine lv_iload_n S.1 S.2.1 dL_step_170 rfl (lv_at hl 4 rfl) ?_
                  refine lv_iconst (v := 5) S.1 S.2.1 dL_step_171 (by decide) ?_
                  refine lv_irem S.1 S.2.1 dL_step_172 (by decide) ?_
                  refine g_top (jrem5 (by omega)) ?_
                  refine lv_iadd S.1 S.2.1 dL_step_173 ?_
                  refine g_top (nI_add 1 (X % 5)) ?_
                  refine lv_iload_n S.1 S.2.1 dL_step_174 rfl (lv_at hl 5 rfl) ?_
                  refine lv_iconst (v := 5) S.1 S.2.1 dL_step_175 (by decide) ?_
                  refine lv_irem S.1 S.2.1 dL_step_176 (by decide) ?_
                  refine g_top (jrem5 (by omega)) ?_
                  refine lv_iconst (v := 0) S.1 S.2.1 dL_step_177 (by decide) ?_
                  by_cases hq : Y % 5 ≤ X % 5
                  · have hH : sHangT (nI (1 + X % 5)) (nI (Y % 5)) = 0 := by rw [hangT_at (by omega) (by omega) (by omega), if_pos (by omega)]
                    have hno : ¬ sHangT (nI (1 + X % 5)) (nI (Y % 5)) = 2 := by rw [hH]; decide
                    refine g_cSWi S G hF hl (c_L_asks_hang l hlf ids ad _ _ _ _ hV J2.2.1 hno) (vx_cwSW 5 S.2.2.2.2 gL_step_L_asks rfl rfl rfl (by decide +kernel) ⟨Nat.le_of_ble_eq_true rfl, Nat.le_of_ble_eq_true rfl⟩) rfl rfl (Nat.le_of_ble_eq_true rfl) dL_step_178 ⟨Nat.le_of_ble_eq_true rfl, Nat.le_of_ble_eq_true rfl⟩ (fun r9 u9 H locs hp G => ?_)
                    obtain ⟨rfl, rfl⟩ := or3_0 hp hH
                    have G : gS D aC A s _ _ (gk _) H locs := G
                    rw [tN_nI (show 1 + X % 5 < 2 ^ 31 by omega), tN_nI (show Y % 5 < 2 ^ 31 by omega)] at G
                    obtain ⟨J4, e4⟩ := op_hang J2 hH
                    rw [tN_nI (show 1 + X % 5 < 2 ^ 31 by omega), tN_nI (show Y % 5 < 2 ^ 31 by omega)] at J4 e4
                    have P4 : PL (N + 1) (B + 12) ids _ := (J.to J2 e2 rfl (fun f i k hf => upd3_n (by omega)) (Nat.le_refl _) (Nat.le_refl _)).to J4 e4 rfl (fun f i k hf => upd3_n (by omega)) (Nat.le_succ N) (Nat.le_add_right _ _)
                    have k4 : upd3 (upd3 κ 5 (X % 12) 1 (nI (Y % 6))) 4 (1 + X % 5) 1 (nI (Y % 5)) 5 (X % 12) 1 = nI (Y % 6) := (upd3_f (by decide)).trans upd3_s
                    refine g_top (show _ = nI w9 from by rw [tN_nI (show 1 + X % 5 < 2 ^ 31 by omega)]; exact congrArg nI ew9) ?_
                    refine lv_istore (lv' := [(9, _), (8, _), (7, _), (0, _), (1, _), (2, _), (3, _), (4, _), (5, _), (6, _)]) S.1 S.2.1 dL_step_181 hl (by decide) rfl (fun ls hl => ?_)
                    refine lv_iload S.1 S.2.1 dL_step_183 (lv_at hl 1 rfl) ?_
                    refine lv_if_lt (tgt := 246) S.1 S.2.1 dL_step_185 (by decide) (fun c_185 => ?_) (fun c_185 => ?_)
                    · exact absurd c_185 (nI_pos (by omega))
                    · refine lv_iload S.1 S.2.1 dL_step_188 (lv_at hl 1 rfl) ?_
                      refine lv_bipush (v := 6) S.1 S.2.1 dL_step_190 (by decide) ?_
                      refine lv_icmp_ge (tgt := 246) S.1 S.2.1 dL_step_192 (by decide) (fun c_192 => ?_) (fun c_192 => ?_)
                      · exact absurd ((nI_leI (a := 6) (b := h9) (by decide) (by omega)).mp c_192) (by omega)
                      · refine lv_aload_n S.1 S.2.1 dL_step_195 rfl (lv_at hl 3 rfl) ?_
                        refine lv_iload_n S.1 S.2.1 dL_step_196 rfl (lv_at hl 5 rfl) ?_
                        refine lv_bipush (v := 12) S.1 S.2.1 dL_step_197 (by decide) ?_
                        refine lv_irem S.1 S.2.1 dL_step_199 (by decide) ?_
                        refine g_top (jrem12 (by omega)) ?_
                        refine lv_iload S.1 S.2.1 dL_step_200 (lv_at hl 2 rfl) ?_
                        have hT := attT_0 (a := X % 12) (b := Y % 6) (by omega) (by omega)
                        refine gx_cVi S G hF hl 7 (hV 7 _ (by first | decide | (show _ < 1; omega))) (by decide) (c_X6_attach l hlf _ _ _ _ _ hV J4.2.1) (cwV 2 S.2.2.2.2 gL_step_X6_attach rfl rfl rfl (by decide +kernel) ⟨Nat.le_of_ble_eq_true rfl, Nat.le_of_ble_eq_true rfl⟩) rfl rfl (Nat.le_of_ble_eq_true rfl) dL_step_202 ⟨Nat.le_of_ble_eq_true rfl, Nat.le_of_ble_eq_true rfl⟩ (fun _ _ _ _ _ _ hp _ _ _ _ => (xE_0 hp.1 hT).elim) (fun r_202 u_202 H locs hp_202 G => ?_)
                        obtain ⟨-, rfl, rfl⟩ := hp_202
                        have G : gS D aC A s _ _ (gk _) H locs := G
                        rw [tN_nI (show X % 12 < 2 ^ 31 by omega), tN_nI (show Y % 6 < 2 ^ 31 by omega)] at G
                        obtain ⟨J5, e5⟩ := op_attach J4 hT
                        rw [tN_nI (show X % 12 < 2 ^ 31 by omega), tN_nI (show Y % 6 < 2 ^ 31 by omega)] at J5 e5
                        refine g_top (show _ = nI (Y % 6) from by rw [tN_nI (show X % 12 < 2 ^ 31 by omega), k4, tN_nI (by omega)]) ?_
                        refine lv_iload S.1 S.2.1 dL_step_205 (lv_at hl 2 rfl) ?_
                        refine lv_icmp_ne (tgt := 246) S.1 S.2.1 dL_step_207 (by decide) (fun c_207 => ?_) (fun c_207 => ?_)
                        · exact absurd rfl c_207
                        · refine lv_iload_n S.1 S.2.1 dL_step_210 rfl (lv_at hl 6 rfl) ?_
                          refine lv_iconst (v := 5) S.1 S.2.1 dL_step_211 (by decide) ?_
                          refine lv_irem S.1 S.2.1 dL_step_212 (by decide) ?_
                          refine g_top (jrem5 (by omega)) ?_
                          refine lv_iload_n S.1 S.2.1 dL_step_213 rfl (lv_at hl 5 rfl) ?_
                          refine lv_iconst (v := 5) S.1 S.2.1 dL_step_214 (by decide) ?_
                          refine lv_irem S.1 S.2.1 dL_step_215 (by decide) ?_
                          refine g_top (jrem5 (by omega)) ?_
                          refine lv_icmp_le (tgt := 229) S.1 S.2.1 dL_step_216 (by decide) (fun c_216 => ?_) (fun c_216 => ?_)
                          · refine lv_iload S.1 S.2.1 dL_step_229 (lv_at hl 0 rfl) ?_
                            refine lv_if_lt (tgt := 246) S.1 S.2.1 dL_step_231 (by decide) (fun c_231 => ?_) (fun c_231 => ?_)
                            · exact absurd c_231 (nI_pos (by omega))
                            · refine lv_iload S.1 S.2.1 dL_step_234 (lv_at hl 0 rfl) ?_
                              refine lv_iload_n S.1 S.2.1 dL_step_236 rfl (lv_at hl 5 rfl) ?_
                              refine lv_iconst (v := 5) S.1 S.2.1 dL_step_237 (by decide) ?_
                              refine lv_irem S.1 S.2.1 dL_step_238 (by decide) ?_
                              refine g_top (jrem5 (by omega)) ?_
                              refine lv_icmp_gt (tgt := 246) S.1 S.2.1 dL_step_239 (by decide) (fun c_239 => ?_) (fun c_239 => ?_)
                              · exact absurd ((nI_ltI (by omega) (by omega)).mp c_239) (by omega)
                              · refine lv_iconst (v := 1) S.1 S.2.1 dL_step_242 (by decide) ?_
                                refine lv_goto (tgt := 247) S.1 S.2.1 dL_step_243 (by decide) ?_
                                exact g_zret S G hr hlk (by decide) (⟨rfl, ids, ad, _, rfl, P4.to J5 e5 rfl (fun f i k hf => upd3_n (by omega)) (Nat.le_refl _) (Nat.le_refl _), rfl, rfl, rfl, rfl⟩) (Nat.le_of_ble_eq_true rfl) (Nat.le_of_ble_eq_true rfl) dL_step_247
                          · exact absurd ((nI_leI (by omega) (by omega)).mpr hq) c_216
                  · have hH : sHangT (nI (1 + X % 5)) (nI (Y % 5)) = 1 := by rw [hangT_at (by omega) (by omega) (by omega), if_neg (by omega)]
                    have hno : ¬ sHangT (nI (1 + X % 5)) (nI (Y % 5)) = 2 := by rw [hH]; decide
                    refine g_cSWi S G hF hl (c_L_asks_hang l hlf ids ad _ _ _ _ hV J2.2.1 hno) (vx_cwSW 5 S.2.2.2.2 gL_step_L_asks rfl rfl rfl (by decide +kernel) ⟨Nat.le_of_ble_eq_true rfl, Nat.le_of_ble_eq_true rfl⟩) rfl rfl (Nat.le_of_ble_eq_true rfl) dL_step_178 ⟨Nat.le_of_ble_eq_true rfl, Nat.le_of_ble_eq_true rfl⟩ (fun r9 u9 H locs hp G => ?_)
                    obtain ⟨rfl, rfl⟩ := or3_1 hp hH
                    have G : gS D aC A s _ _ (gk _) H locs := G
                    have J4 := J2
                    have P4 : PL (N + 1) (B + 12) ids _ := J.to J2 e2 rfl (fun f i k hf => upd3_n (by omega)) (Nat.le_succ N) (Nat.le_add_right _ _)
                    have k4 : upd3 κ 5 (X % 12) 1 (nI (Y % 6)) 5 (X % 12) 1 = nI (Y % 6) := upd3_s
                    refine lv_istore (lv' := [(9, _), (8, _), (7, _), (0, _), (1, _), (2, _), (3, _), (4, _), (5, _), (6, _)]) S.1 S.2.1 dL_step_181 hl (by decide) rfl (fun ls hl => ?_)
                    refine lv_iload S.1 S.2.1 dL_step_183 (lv_at hl 1 rfl) ?_
                    refine lv_if_lt (tgt := 246) S.1 S.2.1 dL_step_185 (by decide) (fun c_185 => ?_) (fun c_185 => ?_)
                    · exact absurd c_185 (nI_pos (by omega))
                    · refine lv_iload S.1 S.2.1 dL_step_188 (lv_at hl 1 rfl) ?_
                      refine lv_bipush (v := 6) S.1 S.2.1 dL_step_190 (by decide) ?_
                      refine lv_icmp_ge (tgt := 246) S.1 S.2.1 dL_step_192 (by decide) (fun c_192 => ?_) (fun c_192 => ?_)
                      · exact absurd ((nI_leI (a := 6) (b := h9) (by decide) (by omega)).mp c_192) (by omega)
                      · refine lv_aload_n S.1 S.2.1 dL_step_195 rfl (lv_at hl 3 rfl) ?_
                        refine lv_iload_n S.1 S.2.1 dL_step_196 rfl (lv_at hl 5 rfl) ?_
                        refine lv_bipush (v := 12) S.1 S.2.1 dL_step_197 (by decide) ?_
                        refine lv_irem S.1 S.2.1 dL_step_199 (by decide) ?_
                        refine g_top (jrem12 (by omega)) ?_
                        refine lv_iload S.1 S.2.1 dL_step_200 (lv_at hl 2 rfl) ?_
                        have hT := attT_0 (a := X % 12) (b := Y % 6) (by omega) (by omega)
                        refine gx_cVi S G hF hl 7 (hV 7 _ (by first | decide | (show _ < 1; omega))) (by decide) (c_X6_attach l hlf _ _ _ _ _ hV J4.2.1) (cwV 2 S.2.2.2.2 gL_step_X6_attach rfl rfl rfl (by decide +kernel) ⟨Nat.le_of_ble_eq_true rfl, Nat.le_of_ble_eq_true rfl⟩) rfl rfl (Nat.le_of_ble_eq_true rfl) dL_step_202 ⟨Nat.le_of_ble_eq_true rfl, Nat.le_of_ble_eq_true rfl⟩ (fun _ _ _ _ _ _ hp _ _ _ _ => (xE_0 hp.1 hT).elim) (fun r_202 u_202 H locs hp_202 G => ?_)
                        obtain ⟨-, rfl, rfl⟩ := hp_202
                        have G : gS D aC A s _ _ (gk _) H locs := G
                        rw [tN_nI (show X % 12 < 2 ^ 31 by omega), tN_nI (show Y % 6 < 2 ^ 31 by omega)] at G
                        obtain ⟨J5, e5⟩ := op_attach J4 hT
                        rw [tN_nI (show X % 12 < 2 ^ 31 by omega), tN_nI (show Y % 6 < 2 ^ 31 by omega)] at J5 e5
                        refine g_top (show _ = nI (Y % 6) from by rw [tN_nI (show X % 12 < 2 ^ 31 by omega), k4, tN_nI (by omega)]) ?_
                        refine lv_iload S.1 S.2.1 dL_step_205 (lv_at hl 2 rfl) ?_
                        refine lv_icmp_ne (tgt := 246) S.1 S.2.1 dL_step_207 (by decide) (fun c_207 => ?_) (fun c_207 => ?_)
                        · exact absurd rfl c_207
                        · refine lv_iload_n S.1 S.2.1 dL_step_210 rfl (lv_at hl 6 rfl) ?_
                          refine lv_iconst (v := 5) S.1 S.2.1 dL_step_211 (by decide) ?_
                          refine lv_irem S.1 S.2.1 dL_step_212 (by decide) ?_
                          refine g_top (jrem5 (by omega)) ?_
                          refine lv_iload_n S.1 S.2.1 dL_step_213 rfl (lv_at hl 5 rfl) ?_
                          refine lv_iconst (v := 5) S.1 S.2.1 dL_step_214 (by decide) ?_
                          refine lv_irem S.1 S.2.1 dL_step_215 (by decide) ?_
                          refine g_top (jrem5 (by omega)) ?_
                          refine lv_icmp_le (tgt := 229) S.1 S.2.1 dL_step_216 (by decide) (fun c_216 => ?_) (fun c_216 => ?_)
                          · exact absurd ((nI_leI (by omega) (by omega)).mp c_216) hq
                          · refine lv_iload S.1 S.2.1 dL_step_219 (lv_at hl 0 rfl) ?_
                            refine lv_bipush (v := (-107)) S.1 S.2.1 dL_step_221 (by decide) ?_
                            refine lv_icmp_ne (tgt := 246) S.1 S.2.1 dL_step_223 (by decide) (fun c_223 => ?_) (fun c_223 => ?_)
                            · exact absurd c_223 (by decide)
                            · refine lv_goto (tgt := 242) S.1 S.2.1 dL_step_226 (by decide) ?_
                              refine lv_iconst (v := 1) S.1 S.2.1 dL_step_242 (by decide) ?_
                              refine lv_goto (tgt := 247) S.1 S.2.1 dL_step_243 (by decide) ?_
                              exact g_zret S G hr hlk (by decide) (⟨rfl, ids, ad, _, rfl, P4.to J5 e5 rfl (fun f i k hf => upd3_n (by omega)) (Nat.le_refl _) (Nat.le_refl _), rfl, rfl, rfl, rfl⟩) (Nat.le_of_ble_eq_true rfl) (Nat.le_of_ble_eq_true rfl) dL_step_247
              · refine jnN (X := fun n => W p l e (headSpec wsL_step ({ frames := 10, cells := 24, slots := 192, locals := 198 } : Room)).room s m ([.ref (ad 7 0), .int what, .int (nI X), .int (nI Y), .ref (ad 20 0), .ref (ad 21 0), .ref (ad 22 0)] : List Value).toArray below meth c s.heap [] (0) (0) (MQ below (va_Qi (fun q u => q = 1 ∧ ∃ (ids' : gIds) (ad' : gAd) (κ' : gMem), u = (ids', ad', gk κ') ∧ PL (N + 1) (B + 12) ids' κ' ∧ ad' 7 0 = ad 7 0 ∧ ad' 20 0 = ad 20 0 ∧ ad' 21 0 = ad 21 0 ∧ ad' 22 0 = ad 22 0) (gE D aC A) A) ([.ref (ad 7 0), .int what, .int (nI X), .int (nI Y), .ref (ad 20 0), .ref (ad 21 0), .ref (ad 22 0)] : List Value).toArray s 24 192 A) (F0 m 105 ls [.int (nI n)])) (fun n => n = 0 ∨ (2 ≤ n ∧ n ≤ 9)) (fun K105 => ?_) ?_
                · refine lv_iload_n S.1 S.2.1 dL_step_88 rfl (lv_at hl 3 rfl) ?_
                  refine lv_bipush (v := 9) S.1 S.2.1 dL_step_89 (by decide) ?_
                  refine lv_irem S.1 S.2.1 dL_step_91 (by decide) ?_
                  refine g_top (jrem9 (by omega)) ?_
                  refine lv_if_ne (tgt := 99) S.1 S.2.1 dL_step_92 (by decide) (fun c_92 => ?_) (fun c_92 => ?_)
                  · refine lv_iconst (v := 1) S.1 S.2.1 dL_step_99 (by decide) ?_
                    refine lv_iload_n S.1 S.2.1 dL_step_100 rfl (lv_at hl 3 rfl) ?_
                    refine lv_bipush (v := 9) S.1 S.2.1 dL_step_101 (by decide) ?_
                    refine lv_irem S.1 S.2.1 dL_step_103 (by decide) ?_
                    refine g_top (jrem9 (by omega)) ?_
                    refine lv_iadd S.1 S.2.1 dL_step_104 ?_
                    refine g_top (nI_add 1 (Y % 9)) ?_
                    exact K105 (1 + Y % 9) (Or.inr ⟨by have : Y % 9 ≠ 0 := fun z => c_92 (by rw [z]; rfl); omega, by omega⟩)
                  · refine lv_iconst (v := 0) S.1 S.2.1 dL_step_95 (by decide) ?_
                    refine lv_goto (tgt := 105) S.1 S.2.1 dL_step_96 (by decide) ?_
                    exact K105 0 (Or.inl rfl)
                · intro n9 hn9
                  refine lv_istore (lv' := [(7, _), (0, _), (1, _), (2, _), (3, _), (4, _), (5, _), (6, _)]) S.1 S.2.1 dL_step_105 hl (by decide) rfl (fun ls hl => ?_)
                  refine lv_aload_n S.1 S.2.1 dL_step_107 rfl (lv_at hl 1 rfl) ?_
                  refine lv_iload_n S.1 S.2.1 dL_step_108 rfl (lv_at hl 3 rfl) ?_
                  refine lv_bipush (v := 6) S.1 S.2.1 dL_step_109 (by decide) ?_
                  refine lv_irem S.1 S.2.1 dL_step_111 (by decide) ?_
                  refine g_top (jrem6 (by omega)) ?_
                  refine lv_iload S.1 S.2.1 dL_step_112 (lv_at hl 0 rfl) ?_
                  have hT := lossT_0 (a := X % 6) (n := n9) (by omega) hn9
                  refine gx_cVi S G hF hl 7 (hV 7 _ (by first | decide | (show _ < 1; omega))) (by decide) (c_X6_setLoss l hlf _ _ _ _ _ hV) (cwV 2 S.2.2.2.2 gL_step_X6_setLoss rfl rfl rfl (by decide +kernel) ⟨Nat.le_of_ble_eq_true rfl, Nat.le_of_ble_eq_true rfl⟩) rfl rfl (Nat.le_of_ble_eq_true rfl) dL_step_114 ⟨Nat.le_of_ble_eq_true rfl, Nat.le_of_ble_eq_true rfl⟩ (fun _ _ _ _ _ _ hp _ _ _ _ => (xE_0 hp.1 hT).elim) (fun r_114 u_114 H locs hp_114 G => ?_)
                  obtain ⟨-, rfl, rfl⟩ := hp_114
                  have G : gS D aC A s _ _ (gk _) H locs := G
                  rw [tN_nI (show X % 6 < 2 ^ 31 by omega)] at G
                  obtain ⟨J2, e2⟩ := op_setLoss J.1 hT
                  rw [tN_nI (show X % 6 < 2 ^ 31 by omega)] at J2 e2
                  refine g_top (congrArg (sLost κ) (tN_nI (show X % 6 < 2 ^ 31 by omega))) ?_
                  refine lv_istore (lv' := [(8, _), (7, _), (0, _), (1, _), (2, _), (3, _), (4, _), (5, _), (6, _)]) S.1 S.2.1 dL_step_117 hl (by decide) rfl (fun ls hl => ?_)
                  refine lv_iload S.1 S.2.1 dL_step_119 (lv_at hl 0 rfl) ?_
                  refine lv_if_lt (tgt := 141) S.1 S.2.1 dL_step_121 (by decide) (fun c_121 => ?_) (fun c_121 => ?_)
                  · exact absurd c_121 (loss_nn J.1 (by omega))
                  · refine lv_aload_n S.1 S.2.1 dL_step_124 rfl (lv_at hl 2 rfl) ?_
                    refine lv_iload_n S.1 S.2.1 dL_step_125 rfl (lv_at hl 4 rfl) ?_
                    refine lv_bipush (v := 6) S.1 S.2.1 dL_step_126 (by decide) ?_
                    refine lv_irem S.1 S.2.1 dL_step_128 (by decide) ?_
                    refine g_top (jrem6 (by omega)) ?_
                    refine lv_iload S.1 S.2.1 dL_step_129 (lv_at hl 1 rfl) ?_
                    refine gx_cVi S G hF hl 7 (hV 7 _ (by first | decide | (show _ < 1; omega))) (by decide) (c_X6_setLoss l hlf _ _ _ _ _ hV) (cwV 2 S.2.2.2.2 gL_step_X6_setLoss rfl rfl rfl (by decide +kernel) ⟨Nat.le_of_ble_eq_true rfl, Nat.le_of_ble_eq_true rfl⟩) rfl rfl (Nat.le_of_ble_eq_true rfl) dL_step_131 ⟨Nat.le_of_ble_eq_true rfl, Nat.le_of_ble_eq_true rfl⟩ (fun _ _ _ _ _ _ hp _ _ _ _ => (xE_0 hp.1 hT).elim) (fun r_131 u_131 H locs hp_131 G => ?_)
                    obtain ⟨-, rfl, rfl⟩ := hp_131
                    have G : gS D aC A s _ _ (gk _) H locs := G
                    rw [tN_nI (show X % 6 < 2 ^ 31 by omega)] at G
                    obtain ⟨J3, e3⟩ := op_setLoss J2 hT
                    rw [tN_nI (show X % 6 < 2 ^ 31 by omega)] at J3 e3
                    refine g_top (show _ = (0 : Int32) from by rw [tN_nI (show X % 6 < 2 ^ 31 by omega)]; exact loss_0 (by omega)) ?_
                    refine lv_if_ne (tgt := 141) S.1 S.2.1 dL_step_134 (by decide) (fun c_134 => ?_) (fun c_134 => ?_)
                    · exact absurd rfl c_134
                    · refine lv_iconst (v := 1) S.1 S.2.1 dL_step_137 (by decide) ?_
                      refine lv_goto (tgt := 142) S.1 S.2.1 dL_step_138 (by decide) ?_
                      exact g_zret S G hr hlk (by decide) (⟨rfl, ids, ad, _, rfl, (J.to J2 e2 rfl (fun f i k hf => (upd3_n (by omega)).trans (upd3_n (by omega))) (Nat.le_refl _) (Nat.le_refl _)).to J3 e3 rfl (fun f i k hf => (upd3_n (by omega)).trans (upd3_n (by omega))) (Nat.le_succ N) (Nat.le_add_right _ _), rfl, rfl, rfl, rfl⟩) (Nat.le_of_ble_eq_true rfl) (Nat.le_of_ble_eq_true rfl) dL_step_142
            · have h0 : 0 < r := by
                rcases Nat.eq_zero_or_pos r with z | z
                · exact absurd (by rw [hc1, hn, z]; decide) c_68
                · exact z
              refine lv_aload_n S.1 S.2.1 dL_step_71 rfl (lv_at hl 0 rfl) ?_
              refine lv_iload_n S.1 S.2.1 dL_step_72 rfl (lv_at hl 2 rfl) ?_
              refine lv_iload_n S.1 S.2.1 dL_step_73 rfl (lv_at hl 3 rfl) ?_
              refine lv_aload S.1 S.2.1 dL_step_74 (lv_at hl 4 rfl) ?_
              refine lv_aload S.1 S.2.1 dL_step_76 (lv_at hl 5 rfl) ?_
              refine g_cSi S G hF hl (c_L_samples l _ _ _ _ _ hlf _ _ J (by omega) (by omega) (by omega) (by omega)) (va_cwS 5 S.2.2.2.2 gL_step_L_samples rfl rfl rfl (by decide +kernel) ⟨Nat.le_of_ble_eq_true rfl, Nat.le_of_ble_eq_true rfl⟩) rfl rfl (Nat.le_of_ble_eq_true rfl) dL_step_78 ⟨Nat.le_of_ble_eq_true rfl, Nat.le_of_ble_eq_true rfl⟩ (fun r_78 u_78 H locs hp_78 G => ?_)
              obtain ⟨rfl, ids_78, ad_78, κ_78, rfl, J_78, a7_78, a20_78, a21_78, a22_78⟩ := hp_78
              have G : gS D aC A s _ _ (gk _) H locs := G
              exact g_zret S G hr hlk (by decide) (⟨rfl, ids_78, ad_78, κ_78, rfl, J_78.up (Nat.le_refl _) (Nat.le_add_right _ _), a7_78, a20_78, a21_78, a22_78⟩) (Nat.le_of_ble_eq_true rfl) (Nat.le_of_ble_eq_true rfl) dL_step_81
        · have h0 : 0 < r := by
            rcases Nat.eq_zero_or_pos r with z | z
            · exact absurd (by rw [hc1, hn, z]; decide) c_44
            · exact z
          refine lv_aload_n S.1 S.2.1 dL_step_47 rfl (lv_at hl 0 rfl) ?_
          refine lv_iload_n S.1 S.2.1 dL_step_48 rfl (lv_at hl 2 rfl) ?_
          refine lv_iload_n S.1 S.2.1 dL_step_49 rfl (lv_at hl 3 rfl) ?_
          refine lv_aload S.1 S.2.1 dL_step_50 (lv_at hl 4 rfl) ?_
          refine lv_aload S.1 S.2.1 dL_step_52 (lv_at hl 5 rfl) ?_
          refine g_cSi S G hF hl (c_L_challenges l _ _ _ _ _ hlf _ _ J (by omega) (by omega) (by omega) (by omega)) (va_cwS 5 S.2.2.2.2 gL_step_L_challenges rfl rfl rfl (by decide +kernel) ⟨Nat.le_of_ble_eq_true rfl, Nat.le_of_ble_eq_true rfl⟩) rfl rfl (Nat.le_of_ble_eq_true rfl) dL_step_54 ⟨Nat.le_of_ble_eq_true rfl, Nat.le_of_ble_eq_true rfl⟩ (fun r_54 u_54 H locs hp_54 G => ?_)
          obtain ⟨rfl, ids_54, ad_54, κ_54, rfl, J_54, a7_54, a20_54, a21_54, a22_54⟩ := hp_54
          have G : gS D aC A s _ _ (gk _) H locs := G
          exact g_zret S G hr hlk (by decide) (⟨rfl, ids_54, ad_54, κ_54, rfl, J_54.up (Nat.le_refl _) (Nat.le_add_right _ _), a7_54, a20_54, a21_54, a22_54⟩) (Nat.le_of_ble_eq_true rfl) (Nat.le_of_ble_eq_true rfl) dL_step_57
    · refine lv_aload_n S.1 S.2.1 dL_step_25 rfl (lv_at hl 0 rfl) ?_
      refine lv_iload_n S.1 S.2.1 dL_step_26 rfl (lv_at hl 2 rfl) ?_
      refine lv_iload_n S.1 S.2.1 dL_step_27 rfl (lv_at hl 3 rfl) ?_
      refine lv_aload S.1 S.2.1 dL_step_28 (lv_at hl 5 rfl) ?_
      refine g_cSi S G hF hl (c_L_opens l _ _ _ _ _ hlf _ _ J (by omega) (by omega) (by omega)) (va_cwS 4 S.2.2.2.2 gL_step_L_opens rfl rfl rfl (by decide +kernel) ⟨Nat.le_of_ble_eq_true rfl, Nat.le_of_ble_eq_true rfl⟩) rfl rfl (Nat.le_of_ble_eq_true rfl) dL_step_30 ⟨Nat.le_of_ble_eq_true rfl, Nat.le_of_ble_eq_true rfl⟩ (fun r_30 u_30 H locs hp_30 G => ?_)
      obtain ⟨rfl, ids_30, ad_30, κ_30, rfl, J_30, a7_30, a20_30, a21_30, a22_30⟩ := hp_30
      have G : gS D aC A s _ _ (gk _) H locs := G
      exact g_zret S G hr hlk (by decide) (⟨rfl, ids_30, ad_30, κ_30, rfl, J_30.up (Nat.le_refl _) (Nat.le_add_right _ _), a7_30, a20_30, a21_30, a22_30⟩) (Nat.le_of_ble_eq_true rfl) (Nat.le_of_ble_eq_true rfl) dL_step_33
  · refine lv_aload_n S.1 S.2.1 dL_step_6 rfl (lv_at hl 0 rfl) ?_
    refine lv_iload_n S.1 S.2.1 dL_step_7 rfl (lv_at hl 2 rfl) ?_
    refine lv_iload_n S.1 S.2.1 dL_step_8 rfl (lv_at hl 3 rfl) ?_
    refine lv_aload S.1 S.2.1 dL_step_9 (lv_at hl 4 rfl) ?_
    refine lv_aload S.1 S.2.1 dL_step_11 (lv_at hl 5 rfl) ?_
    refine lv_aload S.1 S.2.1 dL_step_13 (lv_at hl 6 rfl) ?_
    refine g_cSi S G hF hl (c_L_tells l _ _ _ _ _ hlf _ _ J (by omega) (by omega) (by omega)) (va_cwS 6 S.2.2.2.2 gL_step_L_tells rfl rfl rfl (by decide +kernel) ⟨Nat.le_of_ble_eq_true rfl, Nat.le_of_ble_eq_true rfl⟩) rfl rfl (Nat.le_of_ble_eq_true rfl) dL_step_15 ⟨Nat.le_of_ble_eq_true rfl, Nat.le_of_ble_eq_true rfl⟩ (fun r_15 u_15 H locs hp_15 G => ?_)
    obtain ⟨rfl, ids_15, ad_15, κ_15, rfl, J_15, a7_15, a20_15, a21_15, a22_15⟩ := hp_15
    have G : gS D aC A s _ _ (gk _) H locs := G
    exact g_zret S G hr hlk (by decide) (⟨rfl, ids_15, ad_15, κ_15, rfl, J_15.up (Nat.le_refl _) (Nat.le_add_right _ _), a7_15, a20_15, a21_15, a22_15⟩) (Nat.le_of_ble_eq_true rfl) (Nat.le_of_ble_eq_true rfl) dL_step_18
