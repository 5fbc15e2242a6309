/-! ===== two ways that meet again ===== -/
theorem jn2 {X Y : Prop} (h : X → Y) (k : X) : Y := h k
theorem jnP {X Y : Prop} (P : Prop) (h : (P → X) → Y) (k : P → X) : Y := h k
theorem jnZ {X : Int32 → Prop} {Y : Prop} (h : (∀ z, X z) → Y) (k : ∀ z, X z) : Y := h k
theorem jnN {X : Nat → Prop} {Y : Prop} (P : Nat → Prop) (h : (∀ z, P z → X z) → Y) (k : ∀ z, P z → X z) : Y := h k
theorem jnH {X : Heap → List Loc → Prop} {Y : Prop} (P : Heap → List Loc → Prop) (h : (∀ H L, P H L → X H L) → Y) (k : ∀ H L, P H L → X H L) : Y := h k
theorem jnNH {X : Nat → Heap → List Loc → Prop} {Y : Prop} (P : Nat → Heap → List Loc → Prop) (h : (∀ z H L, P z H L → X z H L) → Y) (k : ∀ z H L, P z H L → X z H L) : Y := h k
/-! differences of small numbers -/
theorem sub_gt5 {a b : Nat} (ha : a ≤ 100000) (hb : b ≤ 100000) : 5 < nI a - nI b ↔ b + 5 < a := by
  have e := pk_sub_toInt (a := a) (b := b) (by omega) (by omega)
  have z5 : (5 : Int32).toInt = 5 := by decide +kernel
  rw [Int32.lt_iff_toInt_lt, z5, e]; omega
theorem sub_le5 {a b : Nat} (ha : a ≤ 100000) (hb : b ≤ 100000) : nI a - nI b ≤ 5 ↔ a ≤ b + 5 := by
  have e := pk_sub_toInt (a := a) (b := b) (by omega) (by omega)
  have z5 : (5 : Int32).toInt = 5 := by decide +kernel
  rw [Int32.le_iff_toInt_le, z5, e]; omega
theorem sub_ge5 {a b : Nat} (ha : a ≤ 100000) (hb : b ≤ 100000) : 5 ≤ nI a - nI b ↔ b + 5 ≤ a := by
  have e := pk_sub_toInt (a := a) (b := b) (by omega) (by omega)
  have z5 : (5 : Int32).toInt = 5 := by decide +kernel
  rw [Int32.le_iff_toInt_le, z5, e]; omega
theorem LR.oth {κ : gMem} {r q : Nat} {x : Int32} (h : LR κ r) (hq : q ≠ r) : LR (upd3 κ 20 0 q x) r := h.to (Nat.le_refl _) (upd3_k (Ne.symm hq)) rfl rfl rfl rfl
/-- a reading's mark in v -/
theorem PL.setv {N B : Nat} {ids : gIds} {κ : gMem} {r s v S τ : Nat} (J : PL N B ids κ) (hr : r < tN (κ 7 0 4)) (hs : s < 12) (hv : v < 100) (hS : S < 5) (e0 : κ 3 r 0 = nI s) (e1 : κ 3 r 1 = nI v) (e3 : κ 3 r 3 = nI S) (hτ : τ ≤ tN (κ 7 0 6)) (h4 : S < 2 → κ 3 r 4 = nI (τ + 4)) : PL N B ids (upd3 κ 20 0 r (nI (enc τ S v s))) := by
  refine ⟨J.1.w (Or.inl rfl), ⟨J.2.1.1, J.2.1.2.1, J.2.1.2.2.1, fun q hq => ?_⟩, J.2.2.1, J.2.2.2.1, J.2.2.2.2⟩
  by_cases e : q = r
  · subst e
    refine ⟨S, τ, by omega, hτ, ?_, ?_, fun z => ?_⟩
    · show upd3 κ 20 0 q (nI (enc τ S v s)) 20 0 q = nI (enc τ S (tN (κ 3 q 1)) (tN (κ 3 q 0)))
      rw [upd3_s, e0, e1, tN_nI (by omega), tN_nI (by omega)]
    · show (S < 2 ∧ S ≤ tN (κ 3 q 3) ∧ tN (κ 3 q 3) < 4) ∨ (2 ≤ S ∧ tN (κ 3 q 3) = S)
      rw [e3, tN_nI (by omega)]; omega
    · have z : tN (κ 3 q 3) < 2 := z
      rw [e3, tN_nI (by omega)] at z
      exact h4 z
  · exact (J.2.1.2.2.2 q hq).oth (Ne.symm e)
theorem nI_imp {a b : Nat} (h : a = b) : nI a = nI b := by rw [h]
set_option maxHeartbeats 4000000 in
set_option maxRecDepth 100000 in
theorem c_L_areReadings (l : Launch) (ids : gIds) (ad : gAd) (κ : gMem) (hlf : l.stackTraces = false) (N B : Nat) (J : PL N B ids κ) (hN : N ≤ 62) (hB : B ≤ 9000)  : gMi l yL_areReadings wsL_areReadings ({ frames := 8, cells := 2480, slots := 19840, locals := 135 } : Room) 2480 19840 [.ref (ad 7 0), .ref (ad 20 0), .ref (ad 21 0)] (ids, ad, gk κ) (fun q u => q = 1 ∧ ∃ κ', u = (ids, ad, gk κ') ∧ PL N B ids κ') := by
  intro D aC A
  refine g_of (cc := cL_areReadings) (maxL := 13) (ret := (some .boolean)) (by decide +kernel) rfl (Nat.le_of_ble_eq_true rfl) ?_
  intro p e s m below meth c ls S G hF hr hlk hnm hl
  have hl : lv_has ls 13 [(0, _), (1, _), (2, _)] := hl
  have hV := J.1.1
  have hW := J.1.2.1
  obtain ⟨h20, h21, h22⟩ := J.2.2.1
  obtain ⟨hn, hn80⟩ := hW.cnt
  have hc0 := J.2.1.1
  have hc1 := J.2.1.2.1
  have hI := J.1.2.2.1
  refine lv_aload_n S.1 S.2.1 dL_areReadings_0 rfl (lv_at hl 0 rfl) ?_
  refine g_cVi S G hF hl 7 (hV 7 _ (by first | decide | (show _ < 1; omega))) (by decide) (c_X6_readings l ids ad _ hV) (cwV 0 S.2.2.2.2 gL_areReadings_X6_readings rfl rfl rfl (by decide +kernel) ⟨Nat.le_of_ble_eq_true rfl, Nat.le_of_ble_eq_true rfl⟩) rfl rfl (Nat.le_of_ble_eq_true rfl) dL_areReadings_1 ⟨by show _ ≤ 2480; omega, by show _ ≤ 19840; omega⟩ (fun r_1 u_1 H locs hp_1 G => ?_)
  obtain ⟨rfl, rfl⟩ := hp_1
  have G : gS D aC A s ids ad (gk _) H locs := G
  refine lv_aload_n S.1 S.2.1 dL_areReadings_4 rfl (lv_at hl 2 rfl) ?_
  refine lv_iconst (v := 1) S.1 S.2.1 dL_areReadings_5 (by decide) ?_
  refine k_iald S G 21 h21 rfl rfl rfl rfl (show 1 < 2 by decide) dL_areReadings_6 ?_
  refine lv_icmp_ne (tgt := 24) S.1 S.2.1 dL_areReadings_7 (by decide) (fun c_7 => ?_) (fun c_7 => ?_)
  · exact absurd hc1.symm c_7
  · refine lv_aload_n S.1 S.2.1 dL_areReadings_10 rfl (lv_at hl 0 rfl) ?_
    refine g_cVi S G hF hl 7 (hV 7 _ (by first | decide | (show _ < 1; omega))) (by decide) (c_X6_tick l ids ad _ hV) (cwV 0 S.2.2.2.2 gL_areReadings_X6_tick rfl rfl rfl (by decide +kernel) ⟨Nat.le_of_ble_eq_true rfl, Nat.le_of_ble_eq_true rfl⟩) rfl rfl (Nat.le_of_ble_eq_true rfl) dL_areReadings_11 ⟨by show _ ≤ 2480; omega, by show _ ≤ 19840; omega⟩ (fun r_11 u_11 H locs hp_11 G => ?_)
    obtain ⟨rfl, rfl⟩ := hp_11
    have G : gS D aC A s ids ad (gk _) H locs := G
    refine lv_aload_n S.1 S.2.1 dL_areReadings_14 rfl (lv_at hl 2 rfl) ?_
    refine lv_iconst (v := 0) S.1 S.2.1 dL_areReadings_15 (by decide) ?_
    refine k_iald S G 21 h21 rfl rfl rfl rfl (show 0 < 2 by decide) dL_areReadings_16 ?_
    refine lv_icmp_ne (tgt := 24) S.1 S.2.1 dL_areReadings_17 (by decide) (fun c_17 => ?_) (fun c_17 => ?_)
    · exact absurd hc0.symm c_17
    · refine lv_iconst (v := 1) S.1 S.2.1 dL_areReadings_20 (by decide) ?_
      refine lv_goto (tgt := 25) S.1 S.2.1 dL_areReadings_21 (by decide) ?_
      refine lv_istore_n (lv' := [(3, _), (0, _), (1, _), (2, _)]) S.1 S.2.1 dL_areReadings_25 rfl hl (by decide) rfl (fun ls hl => ?_)
      refine lv_iconst (v := 0) S.1 S.2.1 dL_areReadings_26 (by decide) ?_
      refine lv_istore (lv' := [(4, _), (3, _), (0, _), (1, _), (2, _)]) S.1 S.2.1 dL_areReadings_27 hl (by decide) rfl (fun ls hl => ?_)
      obtain ⟨nn, hnn⟩ : ∃ z, tN (κ 7 0 4) = z := ⟨_, rfl⟩
      refine g_cs (k := 40 * 0) (n := 320 * 0) rfl rfl ?_
      refine g_whilex (σ := Nat × gMem) (fun y => y.1 ≤ nn ∧ PL N B ids y.2 ∧ tN (y.2 7 0 4) = nn) (fun y => nn - y.1) (fun _ => ids) (fun _ => ad) (fun y => gk y.2) (fun y => 40 * y.1) (fun y => 320 * y.1) (fun y => [(4, .int (nI y.1)), (3, .int 1), (2, .ref (ad 21 0)), (1, .ref (ad 20 0)), (0, .ref (ad 7 0))]) ?_ (0, κ) ⟨Nat.zero_le _, J, hnn⟩ G (lv_sub hl [0, 1, 4, 3, 2] rfl)
      clear hW hn hn80 hc0 hc1 hI
      rintro ⟨k, κ1⟩ H locs ls ⟨hk, J1, hnk⟩ G hl ih_29
      dsimp only at hk J1 hnk G hl ih_29
      refine g_cs (k := 40 * k) (n := 320 * k) rfl rfl ?_
      have hW := J1.1.2.1
      have hI := J1.1.2.2.1
      obtain ⟨hn, hn80⟩ := hW.cnt
      have hc0 := J1.2.1.1
      have hc1 := J1.2.1.2.1
      have hN6 := J1.2.2.2.1
      have hk62 : k ≤ 62 := by omega
      have hl : lv_has ls 13 [(4, _), (3, _), (2, _), (1, _), (0, _)] := hl
      refine lv_iload S.1 S.2.1 dL_areReadings_29 (lv_at hl 0 rfl) ?_
      refine lv_aload_n S.1 S.2.1 dL_areReadings_31 rfl (lv_at hl 2 rfl) ?_
      refine lv_iconst (v := 1) S.1 S.2.1 dL_areReadings_32 (by decide) ?_
      refine k_iald S G 21 h21 rfl rfl rfl rfl (show 1 < 2 by decide) dL_areReadings_33 ?_
      refine g_top (hc1.trans hn) ?_
      refine lv_icmp_ge (tgt := 549) S.1 S.2.1 dL_areReadings_34 (by decide) (fun c_34 => ?_) (fun c_34 => ?_)
      · skip
        refine lv_iload_n S.1 S.2.1 dL_areReadings_549 rfl (lv_at hl 1 rfl) ?_
        exact g_zret S G hr hlk (by decide) (⟨rfl, κ1, rfl, J1⟩) (by show _ ≤ 2480; omega) (by show _ ≤ 19840; omega) dL_areReadings_550
      · have hlt : k < tN (κ1 7 0 4) := g_stay c_34 (by omega) (by omega)
        refine lv_iload_n S.1 S.2.1 dL_areReadings_37 rfl (lv_at hl 1 rfl) ?_
        refine lv_if_eq (tgt := 549) S.1 S.2.1 dL_areReadings_38 (by decide) (fun c_38 => ?_) (fun c_38 => ?_)
        · exact absurd c_38 (by decide)
        · have hk62 : k < 62 := by omega
          obtain ⟨s9, v9, S, P, U, st, τ, b1, b2, b3, b4, b5, b6, b7, b8, b9, b10, b11, b12, b13, b14, b15, b16, b17, b18, ⟨Hd, c1, c2, c3, c4, c5⟩, M, m1, m2, m3, m4, m5⟩ := J1.rd hlt
          have eT : κ1 7 0 6 = nI (tN (κ1 7 0 6)) := J1.1.T.1
          have hvx : ixL (κ1 3 k 1) 100 := by rw [b10]; exact ixL.nI b2 (by decide)
          obtain ⟨t0, t1, t2⟩ := tx_at J1 hlt b9 b10 b2
          have e3s : mSign (κ1 3 k 3) = mSign (nI S) := by rw [b11]
          rcases (by omega : S = 0 ∨ S = 1 ∨ S = 2 ∨ S = 3 ∨ S = 4) with rfl | rfl | rfl | rfl | rfl
          · refine lv_aload_n S.1 S.2.1 dL_areReadings_41 rfl (lv_at hl 4 rfl) ?_
            refine lv_iload S.1 S.2.1 dL_areReadings_42 (lv_at hl 0 rfl) ?_
            refine g_cVi S G hF hl 7 (hV 7 _ (by first | decide | (show _ < 1; omega))) (by decide) (c_X6_stateOfk l ids ad _ _ hV hW hlt) (cwV 1 S.2.2.2.2 gL_areReadings_X6_stateOf rfl rfl rfl (by decide +kernel) ⟨Nat.le_of_ble_eq_true rfl, Nat.le_of_ble_eq_true rfl⟩) rfl rfl (Nat.le_of_ble_eq_true rfl) dL_areReadings_44 ⟨by show _ ≤ 2480; omega, by show _ ≤ 19840; omega⟩ (fun r_44 u_44 H locs hp_44 G => ?_)
            obtain ⟨rfl, rfl⟩ := hp_44
            have G : gS D aC A s ids ad (gk _) H locs := G
            have hP :  (3 : Int32) ≤ nI P := (nI_leI (a := 3) (b := P) (by decide) (by omega)).mpr (by omega)
            have hst : st ≤ 0 ∧ st < 2 := by omega
            refine g_top (show _ = (0 : Int32) from by exact b11) ?_
            refine lv_istore (lv' := [(5, _), (4, _), (3, _), (2, _), (1, _), (0, _)]) S.1 S.2.1 dL_areReadings_47 hl (by decide) rfl (fun ls hl => ?_)
            refine lv_aload_n S.1 S.2.1 dL_areReadings_49 rfl (lv_at hl 4 rfl) ?_
            refine lv_iload S.1 S.2.1 dL_areReadings_50 (lv_at hl 1 rfl) ?_
            refine k_iald S G 20 h20 rfl rfl rfl rfl (show k < 64 by omega) dL_areReadings_52 ?_
            refine lv_bipush (v := 11) S.1 S.2.1 dL_areReadings_53 (by decide) ?_
            refine lv_ishr S.1 S.2.1 dL_areReadings_55 ?_
            refine lv_bipush (v := 7) S.1 S.2.1 dL_areReadings_56 (by decide) ?_
            refine lv_iand S.1 S.2.1 dL_areReadings_58 ?_
            refine g_top (show _ = nI st from by rw [b14]; exact enc_st (by omega) (by omega) (by omega) (by omega)) ?_
            refine lv_istore (lv' := [(6, _), (5, _), (4, _), (3, _), (2, _), (1, _), (0, _)]) S.1 S.2.1 dL_areReadings_59 hl (by decide) rfl (fun ls hl => ?_)
            refine lv_aload_n S.1 S.2.1 dL_areReadings_61 rfl (lv_at hl 5 rfl) ?_
            refine lv_iload S.1 S.2.1 dL_areReadings_62 (lv_at hl 2 rfl) ?_
            refine k_iald S G 20 h20 rfl rfl rfl rfl (show k < 64 by omega) dL_areReadings_64 ?_
            refine lv_iconst (v := 4) S.1 S.2.1 dL_areReadings_65 (by decide) ?_
            refine lv_ishr S.1 S.2.1 dL_areReadings_66 ?_
            refine lv_bipush (v := 127) S.1 S.2.1 dL_areReadings_67 (by decide) ?_
            refine lv_iand S.1 S.2.1 dL_areReadings_69 ?_
            refine g_top (show _ = nI v9 from by rw [b14]; exact enc_v (by omega) (by omega) (by omega) (by omega)) ?_
            refine lv_istore (lv' := [(7, _), (6, _), (5, _), (4, _), (3, _), (2, _), (1, _), (0, _)]) S.1 S.2.1 dL_areReadings_70 hl (by decide) rfl (fun ls hl => ?_)
            refine lv_iload S.1 S.2.1 dL_areReadings_72 (lv_at hl 0 rfl) ?_
            refine lv_bipush (v := 10) S.1 S.2.1 dL_areReadings_74 (by decide) ?_
            refine lv_icmp_ge (tgt := 83) S.1 S.2.1 dL_areReadings_76 (by decide) (fun c_76 => ?_) (fun c_76 => ?_)
            · have hd : ¬ v9 < 10 := fun z => by have := (nI_leI (a := 10) (b := v9) (by decide) (by omega)).mp c_76; omega
              refine lv_iconst (v := 2) S.1 S.2.1 dL_areReadings_83 (by decide) ?_
              refine lv_istore (lv' := [(8, _), (7, _), (6, _), (5, _), (4, _), (3, _), (2, _), (1, _), (0, _)]) S.1 S.2.1 dL_areReadings_84 hl (by decide) rfl (fun ls hl => ?_)
              refine lv_aload_n S.1 S.2.1 dL_areReadings_86 rfl (lv_at hl 8 rfl) ?_
              refine lv_iload S.1 S.2.1 dL_areReadings_87 (lv_at hl 4 rfl) ?_
              refine g_cVi S G hF hl 7 (hV 7 _ (by first | decide | (show _ < 1; omega))) (by decide) (c_X6_partsk l ids ad _ _ hV hW hlt) (cwV 1 S.2.2.2.2 gL_areReadings_X6_parts rfl rfl rfl (by decide +kernel) ⟨Nat.le_of_ble_eq_true rfl, Nat.le_of_ble_eq_true rfl⟩) rfl rfl (Nat.le_of_ble_eq_true rfl) dL_areReadings_89 ⟨by show _ ≤ 2480; omega, by show _ ≤ 19840; omega⟩ (fun r_89 u_89 H locs hp_89 G => ?_)
              obtain ⟨rfl, rfl⟩ := hp_89
              have G : gS D aC A s ids ad (gk _) H locs := G
              refine g_top b12 ?_
              refine lv_istore (lv' := [(9, _), (8, _), (7, _), (6, _), (5, _), (4, _), (3, _), (2, _), (1, _), (0, _)]) S.1 S.2.1 dL_areReadings_92 hl (by decide) rfl (fun ls hl => ?_)
              refine lv_iload S.1 S.2.1 dL_areReadings_94 (lv_at hl 4 rfl) ?_
              refine lv_if_ne (tgt := 104) S.1 S.2.1 dL_areReadings_96 (by decide) (fun c_96 => ?_) (fun c_96 => ?_)
              · exact absurd c_96 (by decide)
              · refine lv_bipush (v := 46) S.1 S.2.1 dL_areReadings_99 (by decide) ?_
                refine lv_goto (tgt := 139) S.1 S.2.1 dL_areReadings_101 (by decide) ?_
                refine lv_istore (lv' := [(10, _), (9, _), (8, _), (7, _), (6, _), (5, _), (4, _), (3, _), (2, _), (1, _), (0, _)]) S.1 S.2.1 dL_areReadings_139 hl (by decide) rfl (fun ls hl => ?_)
                refine lv_iload S.1 S.2.1 dL_areReadings_141 (lv_at hl 5 rfl) ?_
                refine lv_if_lt (tgt := 323) S.1 S.2.1 dL_areReadings_143 (by decide) (fun c_143 => ?_) (fun c_143 => ?_)
                · exact absurd c_143 (by decide)
                · refine lv_iload S.1 S.2.1 dL_areReadings_146 (lv_at hl 5 rfl) ?_
                  refine lv_iconst (v := 4) S.1 S.2.1 dL_areReadings_148 (by decide) ?_
                  refine lv_icmp_gt (tgt := 323) S.1 S.2.1 dL_areReadings_149 (by decide) (fun c_149 => ?_) (fun c_149 => ?_)
                  · exact absurd c_149 (by decide)
                  · refine lv_iload S.1 S.2.1 dL_areReadings_152 (lv_at hl 5 rfl) ?_
                    refine lv_iconst (v := 4) S.1 S.2.1 dL_areReadings_154 (by decide) ?_
                    refine lv_icmp_ne (tgt := 162) S.1 S.2.1 dL_areReadings_155 (by decide) (fun c_155 => ?_) (fun c_155 => ?_)
                    · refine lv_iconst (v := 0) S.1 S.2.1 dL_areReadings_162 (by decide) ?_
                      refine lv_iload S.1 S.2.1 dL_areReadings_163 (lv_at hl 1 rfl) ?_
                      refine lv_iconst (v := 3) S.1 S.2.1 dL_areReadings_165 (by decide) ?_
                      refine lv_icmp_ge (tgt := 173) S.1 S.2.1 dL_areReadings_166 (by decide) (fun c_166 => ?_) (fun c_166 => ?_)
                      · refine lv_iconst (v := 0) S.1 S.2.1 dL_areReadings_173 (by decide) ?_
                        refine lv_icmp_ne (tgt := 323) S.1 S.2.1 dL_areReadings_174 (by decide) (fun c_174 => ?_) (fun c_174 => ?_)
                        · exact absurd c_174 (by decide)
                        · refine lv_iload S.1 S.2.1 dL_areReadings_177 (lv_at hl 1 rfl) ?_
                          refine lv_if_lt (tgt := 323) S.1 S.2.1 dL_areReadings_179 (by decide) (fun c_179 => ?_) (fun c_179 => ?_)
                          · exact absurd c_179 (nI_pos (by omega))
                          · refine lv_iload S.1 S.2.1 dL_areReadings_182 (lv_at hl 1 rfl) ?_
                            refine lv_iconst (v := 4) S.1 S.2.1 dL_areReadings_184 (by decide) ?_
                            refine lv_icmp_gt (tgt := 323) S.1 S.2.1 dL_areReadings_185 (by decide) (fun c_185 => ?_) (fun c_185 => ?_)
                            · exact absurd c_185 (not_gt (n := 4) (ixL.nI (by omega) (by decide)) (by decide))
                            · refine lv_iload S.1 S.2.1 dL_areReadings_188 (lv_at hl 4 rfl) ?_
                              refine lv_iconst (v := 2) S.1 S.2.1 dL_areReadings_190 (by decide) ?_
                              refine lv_icmp_ge (tgt := 210) S.1 S.2.1 dL_areReadings_191 (by decide) (fun c_191 => ?_) (fun c_191 => ?_)
                              · exact absurd ((nI_leI (a := 2) (b := st) (by decide) (by omega)).mp c_191) (by omega)
                              · have h2st := mt (nI_leI (a := 2) (b := st) (by decide) (by omega)).mpr c_191
                                refine lv_iload S.1 S.2.1 dL_areReadings_194 (lv_at hl 5 rfl) ?_
                                refine lv_iconst (v := 4) S.1 S.2.1 dL_areReadings_196 (by decide) ?_
                                refine lv_icmp_ge (tgt := 323) S.1 S.2.1 dL_areReadings_197 (by decide) (fun c_197 => ?_) (fun c_197 => ?_)
                                · exact absurd c_197 (by decide)
                                · refine lv_iload S.1 S.2.1 dL_areReadings_200 (lv_at hl 5 rfl) ?_
                                  refine lv_iload S.1 S.2.1 dL_areReadings_202 (lv_at hl 4 rfl) ?_
                                  refine lv_icmp_lt (tgt := 323) S.1 S.2.1 dL_areReadings_204 (by decide) (fun c_204 => ?_) (fun c_204 => ?_)
                                  · exact absurd ((nI_ltI (a := 0) (b := st) (by decide) (by omega)).mp c_204) (by omega)
                                  · refine lv_goto (tgt := 217) S.1 S.2.1 dL_areReadings_207 (by decide) ?_
                                    refine lv_aload_n S.1 S.2.1 dL_areReadings_217 rfl (lv_at hl 10 rfl) ?_
                                    refine lv_iload S.1 S.2.1 dL_areReadings_218 (lv_at hl 6 rfl) ?_
                                    refine lv_iconst (v := 0) S.1 S.2.1 dL_areReadings_220 (by decide) ?_
                                    refine gx_cVi S G hF hl 7 (hV 7 _ (by first | decide | (show _ < 1; omega))) (by decide) (c_X6_textAt l hlf ids ad _ _ _ hV hW hI (fun _ => by rw [tN_nI (by omega)]; exact hvx)) (cwV 2 S.2.2.2.2 gL_areReadings_X6_textAt rfl rfl rfl (by decide +kernel) ⟨Nat.le_of_ble_eq_true rfl, Nat.le_of_ble_eq_true rfl⟩) rfl rfl (Nat.le_of_ble_eq_true rfl) dL_areReadings_221 ⟨by show _ ≤ 2480; omega, by show _ ≤ 19840; omega⟩ (fun _ _ _ _ _ _ hp _ _ _ _ => (xE_0 hp.1 (txT_0 hlt hn hn80 (by decide))).elim) (fun r_221 u_221 H locs hp_221 G => ?_)
                                    obtain ⟨-, rfl, rfl⟩ := hp_221
                                    have G : gS D aC A s ids ad (gk _) H locs := G
                                    refine g_top (show _ = 97 + nI s9 from by rw [tN_nI (by omega)]; exact t0) ?_
                                    refine lv_bipush (v := 97) S.1 S.2.1 dL_areReadings_224 (by decide) ?_
                                    refine lv_aload_n S.1 S.2.1 dL_areReadings_226 rfl (lv_at hl 9 rfl) ?_
                                    refine lv_iload S.1 S.2.1 dL_areReadings_227 (lv_at hl 6 rfl) ?_
                                    refine k_iald S G 20 h20 rfl rfl rfl rfl (show k < 64 by omega) dL_areReadings_229 ?_
                                    refine lv_bipush (v := 15) S.1 S.2.1 dL_areReadings_230 (by decide) ?_
                                    refine lv_iand S.1 S.2.1 dL_areReadings_232 ?_
                                    refine g_top (show _ = nI s9 from by rw [b14]; exact enc_s (by omega) (by omega) (by omega) (by omega)) ?_
                                    refine lv_iadd S.1 S.2.1 dL_areReadings_233 ?_
                                    refine lv_icmp_ne (tgt := 323) S.1 S.2.1 dL_areReadings_234 (by decide) (fun c_234 => ?_) (fun c_234 => ?_)
                                    · exact absurd rfl c_234
                                    · refine lv_aload_n S.1 S.2.1 dL_areReadings_237 rfl (lv_at hl 10 rfl) ?_
                                      refine lv_iload S.1 S.2.1 dL_areReadings_238 (lv_at hl 6 rfl) ?_
                                      refine lv_iconst (v := 1) S.1 S.2.1 dL_areReadings_240 (by decide) ?_
                                      refine gx_cVi S G hF hl 7 (hV 7 _ (by first | decide | (show _ < 1; omega))) (by decide) (c_X6_textAt l hlf ids ad _ _ _ hV hW hI (fun _ => by rw [tN_nI (by omega)]; exact hvx)) (cwV 2 S.2.2.2.2 gL_areReadings_X6_textAt rfl rfl rfl (by decide +kernel) ⟨Nat.le_of_ble_eq_true rfl, Nat.le_of_ble_eq_true rfl⟩) rfl rfl (Nat.le_of_ble_eq_true rfl) dL_areReadings_241 ⟨by show _ ≤ 2480; omega, by show _ ≤ 19840; omega⟩ (fun _ _ _ _ _ _ hp _ _ _ _ => (xE_0 hp.1 (txT_0 hlt hn hn80 (by decide))).elim) (fun r_241 u_241 H locs hp_241 G => ?_)
                                      obtain ⟨-, rfl, rfl⟩ := hp_241
                                      have G : gS D aC A s ids ad (gk _) H locs := G
                                      refine g_top (show _ = 48 + nI v9 / 10 from by rw [tN_nI (by omega)]; exact (t2 hd).1) ?_
                                      refine lv_bipush (v := 48) S.1 S.2.1 dL_areReadings_244 (by decide) ?_
                                      refine lv_iload S.1 S.2.1 dL_areReadings_246 (lv_at hl 2 rfl) ?_
                                      refine lv_iconst (v := 1) S.1 S.2.1 dL_areReadings_248 (by decide) ?_
                                      refine lv_icmp_ne (tgt := 257) S.1 S.2.1 dL_areReadings_249 (by decide) (fun c_249 => ?_) (fun c_249 => ?_)
                                      · refine lv_iload S.1 S.2.1 dL_areReadings_257 (lv_at hl 3 rfl) ?_
                                        refine lv_bipush (v := 10) S.1 S.2.1 dL_areReadings_259 (by decide) ?_
                                        refine lv_idiv S.1 S.2.1 dL_areReadings_261 (by decide) ?_
                                        refine lv_iadd S.1 S.2.1 dL_areReadings_262 ?_
                                        refine lv_icmp_ne (tgt := 323) S.1 S.2.1 dL_areReadings_263 (by decide) (fun c_263 => ?_) (fun c_263 => ?_)
                                        · exact absurd rfl c_263
                                        · refine lv_iload S.1 S.2.1 dL_areReadings_266 (lv_at hl 2 rfl) ?_
                                          refine lv_iconst (v := 1) S.1 S.2.1 dL_areReadings_268 (by decide) ?_
                                          refine lv_icmp_eq (tgt := 290) S.1 S.2.1 dL_areReadings_269 (by decide) (fun c_269 => ?_) (fun c_269 => ?_)
                                          · exact absurd c_269 (by decide)
                                          · refine lv_aload_n S.1 S.2.1 dL_areReadings_272 rfl (lv_at hl 10 rfl) ?_
                                            refine lv_iload S.1 S.2.1 dL_areReadings_273 (lv_at hl 6 rfl) ?_
                                            refine lv_iconst (v := 2) S.1 S.2.1 dL_areReadings_275 (by decide) ?_
                                            refine gx_cVi S G hF hl 7 (hV 7 _ (by first | decide | (show _ < 1; omega))) (by decide) (c_X6_textAt l hlf ids ad _ _ _ hV hW hI (fun _ => by rw [tN_nI (by omega)]; exact hvx)) (cwV 2 S.2.2.2.2 gL_areReadings_X6_textAt rfl rfl rfl (by decide +kernel) ⟨Nat.le_of_ble_eq_true rfl, Nat.le_of_ble_eq_true rfl⟩) rfl rfl (Nat.le_of_ble_eq_true rfl) dL_areReadings_276 ⟨by show _ ≤ 2480; omega, by show _ ≤ 19840; omega⟩ (fun _ _ _ _ _ _ hp _ _ _ _ => (xE_0 hp.1 (txT_0 hlt hn hn80 (by decide))).elim) (fun r_276 u_276 H locs hp_276 G => ?_)
                                            obtain ⟨-, rfl, rfl⟩ := hp_276
                                            have G : gS D aC A s ids ad (gk _) H locs := G
                                            refine g_top (show _ = 48 + (nI v9 - nI v9 / 10 * 10) from by rw [tN_nI (by omega)]; exact (t2 hd).2.1) ?_
                                            refine lv_bipush (v := 48) S.1 S.2.1 dL_areReadings_279 (by decide) ?_
                                            refine lv_iload S.1 S.2.1 dL_areReadings_281 (lv_at hl 3 rfl) ?_
                                            refine lv_bipush (v := 10) S.1 S.2.1 dL_areReadings_283 (by decide) ?_
                                            refine lv_irem S.1 S.2.1 dL_areReadings_285 (by decide) ?_
                                            refine lv_iadd S.1 S.2.1 dL_areReadings_286 ?_
                                            refine lv_icmp_ne (tgt := 323) S.1 S.2.1 dL_areReadings_287 (by decide) (fun c_287 => ?_) (fun c_287 => ?_)
                                            · exact absurd rfl c_287
                                            · refine lv_aload_n S.1 S.2.1 dL_areReadings_290 rfl (lv_at hl 10 rfl) ?_
                                              refine lv_iload S.1 S.2.1 dL_areReadings_291 (lv_at hl 6 rfl) ?_
                                              refine lv_iload S.1 S.2.1 dL_areReadings_293 (lv_at hl 2 rfl) ?_
                                              refine lv_iconst (v := 1) S.1 S.2.1 dL_areReadings_295 (by decide) ?_
                                              refine lv_iadd S.1 S.2.1 dL_areReadings_296 ?_
                                              refine g_top (show _ = (3 : Int32) from by decide) ?_
                                              refine gx_cVi S G hF hl 7 (hV 7 _ (by first | decide | (show _ < 1; omega))) (by decide) (c_X6_textAt l hlf ids ad _ _ _ hV hW hI (fun _ => by rw [tN_nI (by omega)]; exact hvx)) (cwV 2 S.2.2.2.2 gL_areReadings_X6_textAt rfl rfl rfl (by decide +kernel) ⟨Nat.le_of_ble_eq_true rfl, Nat.le_of_ble_eq_true rfl⟩) rfl rfl (Nat.le_of_ble_eq_true rfl) dL_areReadings_297 ⟨by show _ ≤ 2480; omega, by show _ ≤ 19840; omega⟩ (fun _ _ _ _ _ _ hp _ _ _ _ => (xE_0 hp.1 (txT_0 hlt hn hn80 (by decide))).elim) (fun r_297 u_297 H locs hp_297 G => ?_)
                                              obtain ⟨-, rfl, rfl⟩ := hp_297
                                              have G : gS D aC A s ids ad (gk _) H locs := G
                                              refine g_top (show _ = (46 : Int32) from by rw [tN_nI (by omega)]; exact (t2 hd).2.2.1.trans e3s) ?_
                                              refine lv_iload S.1 S.2.1 dL_areReadings_300 (lv_at hl 0 rfl) ?_
                                              refine lv_icmp_ne (tgt := 323) S.1 S.2.1 dL_areReadings_302 (by decide) (fun c_302 => ?_) (fun c_302 => ?_)
                                              · exact absurd c_302 (by decide)
                                              · refine lv_aload_n S.1 S.2.1 dL_areReadings_305 rfl (lv_at hl 10 rfl) ?_
                                                refine lv_iload S.1 S.2.1 dL_areReadings_306 (lv_at hl 6 rfl) ?_
                                                refine lv_iload S.1 S.2.1 dL_areReadings_308 (lv_at hl 2 rfl) ?_
                                                refine lv_iconst (v := 2) S.1 S.2.1 dL_areReadings_310 (by decide) ?_
                                                refine lv_iadd S.1 S.2.1 dL_areReadings_311 ?_
                                                refine g_top (show _ = (4 : Int32) from by decide) ?_
                                                refine gx_cVi S G hF hl 7 (hV 7 _ (by first | decide | (show _ < 1; omega))) (by decide) (c_X6_textAt l hlf ids ad _ _ _ hV hW hI (fun _ => by rw [tN_nI (by omega)]; exact hvx)) (cwV 2 S.2.2.2.2 gL_areReadings_X6_textAt rfl rfl rfl (by decide +kernel) ⟨Nat.le_of_ble_eq_true rfl, Nat.le_of_ble_eq_true rfl⟩) rfl rfl (Nat.le_of_ble_eq_true rfl) dL_areReadings_312 ⟨by show _ ≤ 2480; omega, by show _ ≤ 19840; omega⟩ (fun _ _ _ _ _ _ hp _ _ _ _ => (xE_0 hp.1 (txT_0 hlt hn hn80 (by decide))).elim) (fun r_312 u_312 H locs hp_312 G => ?_)
                                                obtain ⟨-, rfl, rfl⟩ := hp_312
                                                have G : gS D aC A s ids ad (gk _) H locs := G
                                                refine g_top (show _ = (-1 : Int32) from by rw [tN_nI (by omega)]; exact (t2 hd).2.2.2) ?_
                                                refine lv_iconst (v := (-1)) S.1 S.2.1 dL_areReadings_315 (by decide) ?_
                                                refine lv_icmp_ne (tgt := 323) S.1 S.2.1 dL_areReadings_316 (by decide) (fun c_316 => ?_) (fun c_316 => ?_)
                                                · exact absurd c_316 (by decide)
                                                · refine lv_iconst (v := 1) S.1 S.2.1 dL_areReadings_319 (by decide) ?_
                                                  refine lv_goto (tgt := 324) S.1 S.2.1 dL_areReadings_320 (by decide) ?_
                                                  refine lv_istore_n (lv' := [(3, _), (10, _), (9, _), (8, _), (7, _), (6, _), (5, _), (4, _), (2, _), (1, _), (0, _)]) S.1 S.2.1 dL_areReadings_324 rfl hl (by decide) rfl (fun ls hl => ?_)
                                                  refine lv_aload_n S.1 S.2.1 dL_areReadings_325 rfl (lv_at hl 10 rfl) ?_
                                                  refine lv_iload S.1 S.2.1 dL_areReadings_326 (lv_at hl 7 rfl) ?_
                                                  refine g_cVi S G hF hl 7 (hV 7 _ (by first | decide | (show _ < 1; omega))) (by decide) (c_X6_usersk l ids ad _ _ hV hW hlt) (cwV 1 S.2.2.2.2 gL_areReadings_X6_users rfl rfl rfl (by decide +kernel) ⟨Nat.le_of_ble_eq_true rfl, Nat.le_of_ble_eq_true rfl⟩) rfl rfl (Nat.le_of_ble_eq_true rfl) dL_areReadings_328 ⟨by show _ ≤ 2480; omega, by show _ ≤ 19840; omega⟩ (fun r_328 u_328 H locs hp_328 G => ?_)
                                                  obtain ⟨rfl, rfl⟩ := hp_328
                                                  have G : gS D aC A s ids ad (gk _) H locs := G
                                                  refine g_top b13 ?_
                                                  refine lv_istore (lv' := [(11, _), (3, _), (10, _), (9, _), (8, _), (7, _), (6, _), (5, _), (4, _), (2, _), (1, _), (0, _)]) S.1 S.2.1 dL_areReadings_331 hl (by decide) rfl (fun ls hl => ?_)
                                                  refine lv_aload_n S.1 S.2.1 dL_areReadings_333 rfl (lv_at hl 11 rfl) ?_
                                                  refine lv_iload S.1 S.2.1 dL_areReadings_334 (lv_at hl 8 rfl) ?_
                                                  refine g_cVi S G hF hl 7 (hV 7 _ (by first | decide | (show _ < 1; omega))) (by decide) (c_X6_heldk l ids ad _ _ hV hW hlt) (cwV 1 S.2.2.2.2 gL_areReadings_X6_held rfl rfl rfl (by decide +kernel) ⟨Nat.le_of_ble_eq_true rfl, Nat.le_of_ble_eq_true rfl⟩) rfl rfl (Nat.le_of_ble_eq_true rfl) dL_areReadings_336 ⟨by show _ ≤ 2480; omega, by show _ ≤ 19840; omega⟩ (fun r_336 u_336 H locs hp_336 G => ?_)
                                                  obtain ⟨rfl, rfl⟩ := hp_336
                                                  have G : gS D aC A s ids ad (gk _) H locs := G
                                                  refine g_top c1 ?_
                                                  refine lv_istore (lv' := [(12, _), (11, _), (3, _), (10, _), (9, _), (8, _), (7, _), (6, _), (5, _), (4, _), (2, _), (1, _), (0, _)]) S.1 S.2.1 dL_areReadings_339 hl (by decide) rfl (fun ls hl => ?_)
                                                  refine lv_iload_n S.1 S.2.1 dL_areReadings_341 rfl (lv_at hl 2 rfl) ?_
                                                  refine lv_if_eq (tgt := 492) S.1 S.2.1 dL_areReadings_342 (by decide) (fun c_342 => ?_) (fun c_342 => ?_)
                                                  · exact absurd c_342 (by decide)
                                                  · refine lv_iload S.1 S.2.1 dL_areReadings_345 (lv_at hl 1 rfl) ?_
                                                    refine lv_if_lt (tgt := 492) S.1 S.2.1 dL_areReadings_347 (by decide) (fun c_347 => ?_) (fun c_347 => ?_)
                                                    · exact absurd c_347 (nI_pos (by omega))
                                                    · refine lv_iload S.1 S.2.1 dL_areReadings_350 (lv_at hl 1 rfl) ?_
                                                      refine lv_bipush (v := 6) S.1 S.2.1 dL_areReadings_352 (by decide) ?_
                                                      refine lv_icmp_gt (tgt := 492) S.1 S.2.1 dL_areReadings_354 (by decide) (fun c_354 => ?_) (fun c_354 => ?_)
                                                      · exact absurd c_354 (not_gt (n := 6) (ixL.nI (by omega) (by decide)) (by decide))
                                                      · refine lv_iload S.1 S.2.1 dL_areReadings_357 (lv_at hl 0 rfl) ?_
                                                        refine lv_bipush (v := 20) S.1 S.2.1 dL_areReadings_359 (by decide) ?_
                                                        refine lv_iload S.1 S.2.1 dL_areReadings_361 (lv_at hl 1 rfl) ?_
                                                        refine lv_imul S.1 S.2.1 dL_areReadings_363 ?_
                                                        refine g_top (pk_mul 20 U) ?_
                                                        refine lv_icmp_gt (tgt := 492) S.1 S.2.1 dL_areReadings_364 (by decide) (fun c_364 => ?_) (fun c_364 => ?_)
                                                        · exact absurd ((nI_ltI (by omega) (by omega)).mp c_364) (by omega)
                                                        · refine lv_iload S.1 S.2.1 dL_areReadings_367 (lv_at hl 8 rfl) ?_
                                                          refine lv_iconst (v := 2) S.1 S.2.1 dL_areReadings_369 (by decide) ?_
                                                          refine lv_icmp_ge (tgt := 383) S.1 S.2.1 dL_areReadings_370 (by decide) (fun c_370 => ?_) (fun c_370 => ?_)
                                                          · exact absurd c_370 (by decide)
                                                          · refine lv_iload S.1 S.2.1 dL_areReadings_373 (lv_at hl 0 rfl) ?_
                                                            refine lv_iload S.1 S.2.1 dL_areReadings_375 (lv_at hl 1 rfl) ?_
                                                            refine lv_icmp_lt (tgt := 492) S.1 S.2.1 dL_areReadings_377 (by decide) (fun c_377 => ?_) (fun c_377 => ?_)
                                                            · exact absurd ((nI_ltI (by omega) (by omega)).mp c_377) (by omega)
                                                            · refine lv_goto (tgt := 388) S.1 S.2.1 dL_areReadings_380 (by decide) ?_
                                                              refine lv_iload S.1 S.2.1 dL_areReadings_388 (lv_at hl 8 rfl) ?_
                                                              refine lv_iconst (v := 4) S.1 S.2.1 dL_areReadings_390 (by decide) ?_
                                                              refine lv_icmp_lt (tgt := 399) S.1 S.2.1 dL_areReadings_391 (by decide) (fun c_391 => ?_) (fun c_391 => ?_)
                                                              · refine lv_iload S.1 S.2.1 dL_areReadings_399 (lv_at hl 8 rfl) ?_
                                                                refine lv_iconst (v := 3) S.1 S.2.1 dL_areReadings_401 (by decide) ?_
                                                                refine lv_icmp_ne (tgt := 440) S.1 S.2.1 dL_areReadings_402 (by decide) (fun c_402 => ?_) (fun c_402 => ?_)
                                                                · refine lv_iload S.1 S.2.1 dL_areReadings_440 (lv_at hl 8 rfl) ?_
                                                                  refine lv_iconst (v := 2) S.1 S.2.1 dL_areReadings_442 (by decide) ?_
                                                                  refine lv_icmp_lt (tgt := 488) S.1 S.2.1 dL_areReadings_443 (by decide) (fun c_443 => ?_) (fun c_443 => ?_)
                                                                  · refine lv_iconst (v := 1) S.1 S.2.1 dL_areReadings_488 (by decide) ?_
                                                                    refine lv_goto (tgt := 493) S.1 S.2.1 dL_areReadings_489 (by decide) ?_
                                                                    refine lv_istore_n (lv' := [(3, _), (12, _), (11, _), (10, _), (9, _), (8, _), (7, _), (6, _), (5, _), (4, _), (2, _), (1, _), (0, _)]) S.1 S.2.1 dL_areReadings_493 rfl hl (by decide) rfl (fun ls hl => ?_)
                                                                    refine lv_iload_n S.1 S.2.1 dL_areReadings_494 rfl (lv_at hl 0 rfl) ?_
                                                                    refine lv_if_eq (tgt := 523) S.1 S.2.1 dL_areReadings_495 (by decide) (fun c_495 => ?_) (fun c_495 => ?_)
                                                                    · exact absurd c_495 (by decide)
                                                                    · refine lv_iload S.1 S.2.1 dL_areReadings_498 (lv_at hl 8 rfl) ?_
                                                                      refine lv_iconst (v := 1) S.1 S.2.1 dL_areReadings_500 (by decide) ?_
                                                                      refine lv_icmp_gt (tgt := 519) S.1 S.2.1 dL_areReadings_501 (by decide) (fun c_501 => ?_) (fun c_501 => ?_)
                                                                      · exact absurd c_501 (by decide)
                                                                      · refine lv_aload_n S.1 S.2.1 dL_areReadings_504 rfl (lv_at hl 10 rfl) ?_
                                                                        refine lv_iconst (v := 0) S.1 S.2.1 dL_areReadings_505 (by decide) ?_
                                                                        refine k_iald S G 21 h21 rfl rfl rfl rfl (show 0 < 2 by decide) dL_areReadings_506 ?_
                                                                        refine g_top (hc0.trans eT) ?_
                                                                        refine lv_aload_n S.1 S.2.1 dL_areReadings_507 rfl (lv_at hl 11 rfl) ?_
                                                                        refine lv_iload S.1 S.2.1 dL_areReadings_508 (lv_at hl 9 rfl) ?_
                                                                        refine k_iald S G 20 h20 rfl rfl rfl rfl (show k < 64 by omega) dL_areReadings_510 ?_
                                                                        refine lv_bipush (v := 14) S.1 S.2.1 dL_areReadings_511 (by decide) ?_
                                                                        refine lv_ishr S.1 S.2.1 dL_areReadings_513 ?_
                                                                        refine g_top (show _ = nI τ from by rw [b14]; exact enc_t (by omega) (by omega) (by omega) (by omega)) ?_
                                                                        refine lv_isub S.1 S.2.1 dL_areReadings_514 ?_
                                                                        refine lv_iconst (v := 5) S.1 S.2.1 dL_areReadings_515 (by decide) ?_
                                                                        refine lv_icmp_ge (tgt := 523) S.1 S.2.1 dL_areReadings_516 (by decide) (fun c_516 => ?_) (fun c_516 => ?_)
                                                                        · exact absurd ((sub_ge5 (by omega) (by omega)).mp c_516) (by omega)
                                                                        · refine lv_iconst (v := 1) S.1 S.2.1 dL_areReadings_519 (by decide) ?_
                                                                          refine lv_goto (tgt := 524) S.1 S.2.1 dL_areReadings_520 (by decide) ?_
                                                                          refine lv_istore_n (lv' := [(3, _), (12, _), (11, _), (10, _), (9, _), (8, _), (7, _), (6, _), (5, _), (4, _), (2, _), (1, _), (0, _)]) S.1 S.2.1 dL_areReadings_524 rfl hl (by decide) rfl (fun ls hl => ?_)
                                                                          refine lv_aload_n S.1 S.2.1 dL_areReadings_525 rfl (lv_at hl 11 rfl) ?_
                                                                          refine lv_iload S.1 S.2.1 dL_areReadings_526 (lv_at hl 9 rfl) ?_
                                                                          refine lv_aload_n S.1 S.2.1 dL_areReadings_528 rfl (lv_at hl 11 rfl) ?_
                                                                          refine lv_iload S.1 S.2.1 dL_areReadings_529 (lv_at hl 9 rfl) ?_
                                                                          refine k_iald S G 20 h20 rfl rfl rfl rfl (show k < 64 by omega) dL_areReadings_531 ?_
                                                                          refine lv_sipush (v := (-14337)) S.1 S.2.1 dL_areReadings_532 (by decide) ?_
                                                                          refine lv_iand S.1 S.2.1 dL_areReadings_535 ?_
                                                                          refine lv_iload S.1 S.2.1 dL_areReadings_536 (lv_at hl 8 rfl) ?_
                                                                          refine lv_bipush (v := 11) S.1 S.2.1 dL_areReadings_538 (by decide) ?_
                                                                          refine lv_ishl S.1 S.2.1 dL_areReadings_540 ?_
                                                                          refine lv_ior S.1 S.2.1 dL_areReadings_541 ?_
                                                                          refine g_top (show _ = nI (enc τ 0 v9 s9) from by rw [b14]; exact enc_set (S := 0) (by omega) (by omega) (by omega) (by omega) (by decide)) ?_
                                                                          refine k_iast S G 20 h20 rfl rfl rfl rfl (show k < 64 by omega) dL_areReadings_542 (fun H locs G => ?_)
                                                                          refine lv_iinc (k := 9) (lv' := [(4, _), (3, _), (12, _), (11, _), (10, _), (9, _), (8, _), (7, _), (6, _), (5, _), (2, _), (1, _), (0, _)]) S.1 S.2.1 dL_areReadings_543 hl rfl (g_inc _) (by decide) rfl (fun ls hl => ?_)
                                                                          refine lv_goto (tgt := 29) S.1 S.2.1 dL_areReadings_546 (by decide) ?_
                                                                          refine W.widen (k := 40 * (k + 1)) (n := 320 * (k + 1)) (by omega) (by omega) ?_
                                                                          exact ih_29 (k + 1, upd3 κ1 20 0 k (nI (enc τ 0 v9 s9))) H locs ls ⟨by show k + 1 ≤ nn; omega, J1.setv hlt b1 b2 (by decide) b9 b10 b11 b7 (fun z => (b16 z).1), hnk⟩ (by show nn - (k + 1) < nn - k; omega) G (lv_sub hl [0, 1, 10, 11, 12] rfl)
                                                                  · exact absurd c_443 (by decide)
                                                                · exact absurd c_402 (by decide)
                                                              · exact absurd c_391 (by decide)
                                      · exact absurd c_249 (by decide)
                      · exact absurd hP c_166
                    · exact absurd c_155 (by decide)
            · have hd : v9 < 10 := by have := mt (nI_leI (a := 10) (b := v9) (by decide) (by omega)).mpr c_76; omega
              refine lv_iconst (v := 1) S.1 S.2.1 dL_areReadings_79 (by decide) ?_
              refine lv_goto (tgt := 84) S.1 S.2.1 dL_areReadings_80 (by decide) ?_
              refine lv_istore (lv' := [(8, _), (7, _), (6, _), (5, _), (4, _), (3, _), (2, _), (1, _), (0, _)]) S.1 S.2.1 dL_areReadings_84 hl (by decide) rfl (fun ls hl => ?_)
              refine lv_aload_n S.1 S.2.1 dL_areReadings_86 rfl (lv_at hl 8 rfl) ?_
              refine lv_iload S.1 S.2.1 dL_areReadings_87 (lv_at hl 4 rfl) ?_
              refine g_cVi S G hF hl 7 (hV 7 _ (by first | decide | (show _ < 1; omega))) (by decide) (c_X6_partsk l ids ad _ _ hV hW hlt) (cwV 1 S.2.2.2.2 gL_areReadings_X6_parts rfl rfl rfl (by decide +kernel) ⟨Nat.le_of_ble_eq_true rfl, Nat.le_of_ble_eq_true rfl⟩) rfl rfl (Nat.le_of_ble_eq_true rfl) dL_areReadings_89 ⟨by show _ ≤ 2480; omega, by show _ ≤ 19840; omega⟩ (fun r_89 u_89 H locs hp_89 G => ?_)
              obtain ⟨rfl, rfl⟩ := hp_89
              have G : gS D aC A s ids ad (gk _) H locs := G
              refine g_top b12 ?_
              refine lv_istore (lv' := [(9, _), (8, _), (7, _), (6, _), (5, _), (4, _), (3, _), (2, _), (1, _), (0, _)]) S.1 S.2.1 dL_areReadings_92 hl (by decide) rfl (fun ls hl => ?_)
              refine lv_iload S.1 S.2.1 dL_areReadings_94 (lv_at hl 4 rfl) ?_
              refine lv_if_ne (tgt := 104) S.1 S.2.1 dL_areReadings_96 (by decide) (fun c_96 => ?_) (fun c_96 => ?_)
              · exact absurd c_96 (by decide)
              · refine lv_bipush (v := 46) S.1 S.2.1 dL_areReadings_99 (by decide) ?_
                refine lv_goto (tgt := 139) S.1 S.2.1 dL_areReadings_101 (by decide) ?_
                refine lv_istore (lv' := [(10, _), (9, _), (8, _), (7, _), (6, _), (5, _), (4, _), (3, _), (2, _), (1, _), (0, _)]) S.1 S.2.1 dL_areReadings_139 hl (by decide) rfl (fun ls hl => ?_)
                refine lv_iload S.1 S.2.1 dL_areReadings_141 (lv_at hl 5 rfl) ?_
                refine lv_if_lt (tgt := 323) S.1 S.2.1 dL_areReadings_143 (by decide) (fun c_143 => ?_) (fun c_143 => ?_)
                · exact absurd c_143 (by decide)
                · refine lv_iload S.1 S.2.1 dL_areReadings_146 (lv_at hl 5 rfl) ?_
                  refine lv_iconst (v := 4) S.1 S.2.1 dL_areReadings_148 (by decide) ?_
                  refine lv_icmp_gt (tgt := 323) S.1 S.2.1 dL_areReadings_149 (by decide) (fun c_149 => ?_) (fun c_149 => ?_)
                  · exact absurd c_149 (by decide)
                  · refine lv_iload S.1 S.2.1 dL_areReadings_152 (lv_at hl 5 rfl) ?_
                    refine lv_iconst (v := 4) S.1 S.2.1 dL_areReadings_154 (by decide) ?_
                    refine lv_icmp_ne (tgt := 162) S.1 S.2.1 dL_areReadings_155 (by decide) (fun c_155 => ?_) (fun c_155 => ?_)
                    · refine lv_iconst (v := 0) S.1 S.2.1 dL_areReadings_162 (by decide) ?_
                      refine lv_iload S.1 S.2.1 dL_areReadings_163 (lv_at hl 1 rfl) ?_
                      refine lv_iconst (v := 3) S.1 S.2.1 dL_areReadings_165 (by decide) ?_
                      refine lv_icmp_ge (tgt := 173) S.1 S.2.1 dL_areReadings_166 (by decide) (fun c_166 => ?_) (fun c_166 => ?_)
                      · refine lv_iconst (v := 0) S.1 S.2.1 dL_areReadings_173 (by decide) ?_
                        refine lv_icmp_ne (tgt := 323) S.1 S.2.1 dL_areReadings_174 (by decide) (fun c_174 => ?_) (fun c_174 => ?_)
                        · exact absurd c_174 (by decide)
                        · refine lv_iload S.1 S.2.1 dL_areReadings_177 (lv_at hl 1 rfl) ?_
                          refine lv_if_lt (tgt := 323) S.1 S.2.1 dL_areReadings_179 (by decide) (fun c_179 => ?_) (fun c_179 => ?_)
                          · exact absurd c_179 (nI_pos (by omega))
                          · refine lv_iload S.1 S.2.1 dL_areReadings_182 (lv_at hl 1 rfl) ?_
                            refine lv_iconst (v := 4) S.1 S.2.1 dL_areReadings_184 (by decide) ?_
                            refine lv_icmp_gt (tgt := 323) S.1 S.2.1 dL_areReadings_185 (by decide) (fun c_185 => ?_) (fun c_185 => ?_)
                            · exact absurd c_185 (not_gt (n := 4) (ixL.nI (by omega) (by decide)) (by decide))
                            · refine lv_iload S.1 S.2.1 dL_areReadings_188 (lv_at hl 4 rfl) ?_
                              refine lv_iconst (v := 2) S.1 S.2.1 dL_areReadings_190 (by decide) ?_
                              refine lv_icmp_ge (tgt := 210) S.1 S.2.1 dL_areReadings_191 (by decide) (fun c_191 => ?_) (fun c_191 => ?_)
                              · exact absurd ((nI_leI (a := 2) (b := st) (by decide) (by omega)).mp c_191) (by omega)
                              · have h2st := mt (nI_leI (a := 2) (b := st) (by decide) (by omega)).mpr c_191
                                refine lv_iload S.1 S.2.1 dL_areReadings_194 (lv_at hl 5 rfl) ?_
                                refine lv_iconst (v := 4) S.1 S.2.1 dL_areReadings_196 (by decide) ?_
                                refine lv_icmp_ge (tgt := 323) S.1 S.2.1 dL_areReadings_197 (by decide) (fun c_197 => ?_) (fun c_197 => ?_)
                                · exact absurd c_197 (by decide)
                                · refine lv_iload S.1 S.2.1 dL_areReadings_200 (lv_at hl 5 rfl) ?_
                                  refine lv_iload S.1 S.2.1 dL_areReadings_202 (lv_at hl 4 rfl) ?_
                                  refine lv_icmp_lt (tgt := 323) S.1 S.2.1 dL_areReadings_204 (by decide) (fun c_204 => ?_) (fun c_204 => ?_)
                                  · exact absurd ((nI_ltI (a := 0) (b := st) (by decide) (by omega)).mp c_204) (by omega)
                                  · refine lv_goto (tgt := 217) S.1 S.2.1 dL_areReadings_207 (by decide) ?_
                                    refine lv_aload_n S.1 S.2.1 dL_areReadings_217 rfl (lv_at hl 10 rfl) ?_
                                    refine lv_iload S.1 S.2.1 dL_areReadings_218 (lv_at hl 6 rfl) ?_
                                    refine lv_iconst (v := 0) S.1 S.2.1 dL_areReadings_220 (by decide) ?_
                                    refine gx_cVi S G hF hl 7 (hV 7 _ (by first | decide | (show _ < 1; omega))) (by decide) (c_X6_textAt l hlf ids ad _ _ _ hV hW hI (fun _ => by rw [tN_nI (by omega)]; exact hvx)) (cwV 2 S.2.2.2.2 gL_areReadings_X6_textAt rfl rfl rfl (by decide +kernel) ⟨Nat.le_of_ble_eq_true rfl, Nat.le_of_ble_eq_true rfl⟩) rfl rfl (Nat.le_of_ble_eq_true rfl) dL_areReadings_221 ⟨by show _ ≤ 2480; omega, by show _ ≤ 19840; omega⟩ (fun _ _ _ _ _ _ hp _ _ _ _ => (xE_0 hp.1 (txT_0 hlt hn hn80 (by decide))).elim) (fun r_221 u_221 H locs hp_221 G => ?_)
                                    obtain ⟨-, rfl, rfl⟩ := hp_221
                                    have G : gS D aC A s ids ad (gk _) H locs := G
                                    refine g_top (show _ = 97 + nI s9 from by rw [tN_nI (by omega)]; exact t0) ?_
                                    refine lv_bipush (v := 97) S.1 S.2.1 dL_areReadings_224 (by decide) ?_
                                    refine lv_aload_n S.1 S.2.1 dL_areReadings_226 rfl (lv_at hl 9 rfl) ?_
                                    refine lv_iload S.1 S.2.1 dL_areReadings_227 (lv_at hl 6 rfl) ?_
                                    refine k_iald S G 20 h20 rfl rfl rfl rfl (show k < 64 by omega) dL_areReadings_229 ?_
                                    refine lv_bipush (v := 15) S.1 S.2.1 dL_areReadings_230 (by decide) ?_
                                    refine lv_iand S.1 S.2.1 dL_areReadings_232 ?_
                                    refine g_top (show _ = nI s9 from by rw [b14]; exact enc_s (by omega) (by omega) (by omega) (by omega)) ?_
                                    refine lv_iadd S.1 S.2.1 dL_areReadings_233 ?_
                                    refine lv_icmp_ne (tgt := 323) S.1 S.2.1 dL_areReadings_234 (by decide) (fun c_234 => ?_) (fun c_234 => ?_)
                                    · exact absurd rfl c_234
                                    · refine lv_aload_n S.1 S.2.1 dL_areReadings_237 rfl (lv_at hl 10 rfl) ?_
                                      refine lv_iload S.1 S.2.1 dL_areReadings_238 (lv_at hl 6 rfl) ?_
                                      refine lv_iconst (v := 1) S.1 S.2.1 dL_areReadings_240 (by decide) ?_
                                      refine gx_cVi S G hF hl 7 (hV 7 _ (by first | decide | (show _ < 1; omega))) (by decide) (c_X6_textAt l hlf ids ad _ _ _ hV hW hI (fun _ => by rw [tN_nI (by omega)]; exact hvx)) (cwV 2 S.2.2.2.2 gL_areReadings_X6_textAt rfl rfl rfl (by decide +kernel) ⟨Nat.le_of_ble_eq_true rfl, Nat.le_of_ble_eq_true rfl⟩) rfl rfl (Nat.le_of_ble_eq_true rfl) dL_areReadings_241 ⟨by show _ ≤ 2480; omega, by show _ ≤ 19840; omega⟩ (fun _ _ _ _ _ _ hp _ _ _ _ => (xE_0 hp.1 (txT_0 hlt hn hn80 (by decide))).elim) (fun r_241 u_241 H locs hp_241 G => ?_)
                                      obtain ⟨-, rfl, rfl⟩ := hp_241
                                      have G : gS D aC A s ids ad (gk _) H locs := G
                                      refine g_top (show _ = 48 + nI v9 from by rw [tN_nI (by omega)]; exact (t1 hd).1) ?_
                                      refine lv_bipush (v := 48) S.1 S.2.1 dL_areReadings_244 (by decide) ?_
                                      refine lv_iload S.1 S.2.1 dL_areReadings_246 (lv_at hl 2 rfl) ?_
                                      refine lv_iconst (v := 1) S.1 S.2.1 dL_areReadings_248 (by decide) ?_
                                      refine lv_icmp_ne (tgt := 257) S.1 S.2.1 dL_areReadings_249 (by decide) (fun c_249 => ?_) (fun c_249 => ?_)
                                      · exact absurd c_249 (by decide)
                                      · refine lv_iload S.1 S.2.1 dL_areReadings_252 (lv_at hl 3 rfl) ?_
                                        refine lv_goto (tgt := 262) S.1 S.2.1 dL_areReadings_254 (by decide) ?_
                                        refine lv_iadd S.1 S.2.1 dL_areReadings_262 ?_
                                        refine lv_icmp_ne (tgt := 323) S.1 S.2.1 dL_areReadings_263 (by decide) (fun c_263 => ?_) (fun c_263 => ?_)
                                        · exact absurd rfl c_263
                                        · refine lv_iload S.1 S.2.1 dL_areReadings_266 (lv_at hl 2 rfl) ?_
                                          refine lv_iconst (v := 1) S.1 S.2.1 dL_areReadings_268 (by decide) ?_
                                          refine lv_icmp_eq (tgt := 290) S.1 S.2.1 dL_areReadings_269 (by decide) (fun c_269 => ?_) (fun c_269 => ?_)
                                          · refine lv_aload_n S.1 S.2.1 dL_areReadings_290 rfl (lv_at hl 10 rfl) ?_
                                            refine lv_iload S.1 S.2.1 dL_areReadings_291 (lv_at hl 6 rfl) ?_
                                            refine lv_iload S.1 S.2.1 dL_areReadings_293 (lv_at hl 2 rfl) ?_
                                            refine lv_iconst (v := 1) S.1 S.2.1 dL_areReadings_295 (by decide) ?_
                                            refine lv_iadd S.1 S.2.1 dL_areReadings_296 ?_
                                            refine g_top (show _ = (2 : Int32) from by decide) ?_
                                            refine gx_cVi S G hF hl 7 (hV 7 _ (by first | decide | (show _ < 1; omega))) (by decide) (c_X6_textAt l hlf ids ad _ _ _ hV hW hI (fun _ => by rw [tN_nI (by omega)]; exact hvx)) (cwV 2 S.2.2.2.2 gL_areReadings_X6_textAt rfl rfl rfl (by decide +kernel) ⟨Nat.le_of_ble_eq_true rfl, Nat.le_of_ble_eq_true rfl⟩) rfl rfl (Nat.le_of_ble_eq_true rfl) dL_areReadings_297 ⟨by show _ ≤ 2480; omega, by show _ ≤ 19840; omega⟩ (fun _ _ _ _ _ _ hp _ _ _ _ => (xE_0 hp.1 (txT_0 hlt hn hn80 (by decide))).elim) (fun r_297 u_297 H locs hp_297 G => ?_)
                                            obtain ⟨-, rfl, rfl⟩ := hp_297
                                            have G : gS D aC A s ids ad (gk _) H locs := G
                                            refine g_top (show _ = (46 : Int32) from by rw [tN_nI (by omega)]; exact (t1 hd).2.1.trans e3s) ?_
                                            refine lv_iload S.1 S.2.1 dL_areReadings_300 (lv_at hl 0 rfl) ?_
                                            refine lv_icmp_ne (tgt := 323) S.1 S.2.1 dL_areReadings_302 (by decide) (fun c_302 => ?_) (fun c_302 => ?_)
                                            · exact absurd c_302 (by decide)
                                            · refine lv_aload_n S.1 S.2.1 dL_areReadings_305 rfl (lv_at hl 10 rfl) ?_
                                              refine lv_iload S.1 S.2.1 dL_areReadings_306 (lv_at hl 6 rfl) ?_
                                              refine lv_iload S.1 S.2.1 dL_areReadings_308 (lv_at hl 2 rfl) ?_
                                              refine lv_iconst (v := 2) S.1 S.2.1 dL_areReadings_310 (by decide) ?_
                                              refine lv_iadd S.1 S.2.1 dL_areReadings_311 ?_
                                              refine g_top (show _ = (3 : Int32) from by decide) ?_
                                              refine gx_cVi S G hF hl 7 (hV 7 _ (by first | decide | (show _ < 1; omega))) (by decide) (c_X6_textAt l hlf ids ad _ _ _ hV hW hI (fun _ => by rw [tN_nI (by omega)]; exact hvx)) (cwV 2 S.2.2.2.2 gL_areReadings_X6_textAt rfl rfl rfl (by decide +kernel) ⟨Nat.le_of_ble_eq_true rfl, Nat.le_of_ble_eq_true rfl⟩) rfl rfl (Nat.le_of_ble_eq_true rfl) dL_areReadings_312 ⟨by show _ ≤ 2480; omega, by show _ ≤ 19840; omega⟩ (fun _ _ _ _ _ _ hp _ _ _ _ => (xE_0 hp.1 (txT_0 hlt hn hn80 (by decide))).elim) (fun r_312 u_312 H locs hp_312 G => ?_)
                                              obtain ⟨-, rfl, rfl⟩ := hp_312
                                              have G : gS D aC A s ids ad (gk _) H locs := G
                                              refine g_top (show _ = (-1 : Int32) from by rw [tN_nI (by omega)]; exact (t1 hd).2.2) ?_
                                              refine lv_iconst (v := (-1)) S.1 S.2.1 dL_areReadings_315 (by decide) ?_
                                              refine lv_icmp_ne (tgt := 323) S.1 S.2.1 dL_areReadings_316 (by decide) (fun c_316 => ?_) (fun c_316 => ?_)
                                              · exact absurd c_316 (by decide)
                                              · refine lv_iconst (v := 1) S.1 S.2.1 dL_areReadings_319 (by decide) ?_
                                                refine lv_goto (tgt := 324) S.1 S.2.1 dL_areReadings_320 (by decide) ?_
                                                refine lv_istore_n (lv' := [(3, _), (10, _), (9, _), (8, _), (7, _), (6, _), (5, _), (4, _), (2, _), (1, _), (0, _)]) S.1 S.2.1 dL_areReadings_324 rfl hl (by decide) rfl (fun ls hl => ?_)
                                                refine lv_aload_n S.1 S.2.1 dL_areReadings_325 rfl (lv_at hl 10 rfl) ?_
                                                refine lv_iload S.1 S.2.1 dL_areReadings_326 (lv_at hl 7 rfl) ?_
                                                refine g_cVi S G hF hl 7 (hV 7 _ (by first | decide | (show _ < 1; omega))) (by decide) (c_X6_usersk l ids ad _ _ hV hW hlt) (cwV 1 S.2.2.2.2 gL_areReadings_X6_users rfl rfl rfl (by decide +kernel) ⟨Nat.le_of_ble_eq_true rfl, Nat.le_of_ble_eq_true rfl⟩) rfl rfl (Nat.le_of_ble_eq_true rfl) dL_areReadings_328 ⟨by show _ ≤ 2480; omega, by show _ ≤ 19840; omega⟩ (fun r_328 u_328 H locs hp_328 G => ?_)
                                                obtain ⟨rfl, rfl⟩ := hp_328
                                                have G : gS D aC A s ids ad (gk _) H locs := G
                                                refine g_top b13 ?_
                                                refine lv_istore (lv' := [(11, _), (3, _), (10, _), (9, _), (8, _), (7, _), (6, _), (5, _), (4, _), (2, _), (1, _), (0, _)]) S.1 S.2.1 dL_areReadings_331 hl (by decide) rfl (fun ls hl => ?_)
                                                refine lv_aload_n S.1 S.2.1 dL_areReadings_333 rfl (lv_at hl 11 rfl) ?_
                                                refine lv_iload S.1 S.2.1 dL_areReadings_334 (lv_at hl 8 rfl) ?_
                                                refine g_cVi S G hF hl 7 (hV 7 _ (by first | decide | (show _ < 1; omega))) (by decide) (c_X6_heldk l ids ad _ _ hV hW hlt) (cwV 1 S.2.2.2.2 gL_areReadings_X6_held rfl rfl rfl (by decide +kernel) ⟨Nat.le_of_ble_eq_true rfl, Nat.le_of_ble_eq_true rfl⟩) rfl rfl (Nat.le_of_ble_eq_true rfl) dL_areReadings_336 ⟨by show _ ≤ 2480; omega, by show _ ≤ 19840; omega⟩ (fun r_336 u_336 H locs hp_336 G => ?_)
                                                obtain ⟨rfl, rfl⟩ := hp_336
                                                have G : gS D aC A s ids ad (gk _) H locs := G
                                                refine g_top c1 ?_
                                                refine lv_istore (lv' := [(12, _), (11, _), (3, _), (10, _), (9, _), (8, _), (7, _), (6, _), (5, _), (4, _), (2, _), (1, _), (0, _)]) S.1 S.2.1 dL_areReadings_339 hl (by decide) rfl (fun ls hl => ?_)
                                                refine lv_iload_n S.1 S.2.1 dL_areReadings_341 rfl (lv_at hl 2 rfl) ?_
                                                refine lv_if_eq (tgt := 492) S.1 S.2.1 dL_areReadings_342 (by decide) (fun c_342 => ?_) (fun c_342 => ?_)
                                                · exact absurd c_342 (by decide)
                                                · refine lv_iload S.1 S.2.1 dL_areReadings_345 (lv_at hl 1 rfl) ?_
                                                  refine lv_if_lt (tgt := 492) S.1 S.2.1 dL_areReadings_347 (by decide) (fun c_347 => ?_) (fun c_347 => ?_)
                                                  · exact absurd c_347 (nI_pos (by omega))
                                                  · refine lv_iload S.1 S.2.1 dL_areReadings_350 (lv_at hl 1 rfl) ?_
                                                    refine lv_bipush (v := 6) S.1 S.2.1 dL_areReadings_352 (by decide) ?_
                                                    refine lv_icmp_gt (tgt := 492) S.1 S.2.1 dL_areReadings_354 (by decide) (fun c_354 => ?_) (fun c_354 => ?_)
                                                    · exact absurd c_354 (not_gt (n := 6) (ixL.nI (by omega) (by decide)) (by decide))
                                                    · refine lv_iload S.1 S.2.1 dL_areReadings_357 (lv_at hl 0 rfl) ?_
                                                      refine lv_bipush (v := 20) S.1 S.2.1 dL_areReadings_359 (by decide) ?_
                                                      refine lv_iload S.1 S.2.1 dL_areReadings_361 (lv_at hl 1 rfl) ?_
                                                      refine lv_imul S.1 S.2.1 dL_areReadings_363 ?_
                                                      refine g_top (pk_mul 20 U) ?_
                                                      refine lv_icmp_gt (tgt := 492) S.1 S.2.1 dL_areReadings_364 (by decide) (fun c_364 => ?_) (fun c_364 => ?_)
                                                      · exact absurd ((nI_ltI (by omega) (by omega)).mp c_364) (by omega)
                                                      · refine lv_iload S.1 S.2.1 dL_areReadings_367 (lv_at hl 8 rfl) ?_
                                                        refine lv_iconst (v := 2) S.1 S.2.1 dL_areReadings_369 (by decide) ?_
                                                        refine lv_icmp_ge (tgt := 383) S.1 S.2.1 dL_areReadings_370 (by decide) (fun c_370 => ?_) (fun c_370 => ?_)
                                                        · exact absurd c_370 (by decide)
                                                        · refine lv_iload S.1 S.2.1 dL_areReadings_373 (lv_at hl 0 rfl) ?_
                                                          refine lv_iload S.1 S.2.1 dL_areReadings_375 (lv_at hl 1 rfl) ?_
                                                          refine lv_icmp_lt (tgt := 492) S.1 S.2.1 dL_areReadings_377 (by decide) (fun c_377 => ?_) (fun c_377 => ?_)
                                                          · exact absurd ((nI_ltI (by omega) (by omega)).mp c_377) (by omega)
                                                          · refine lv_goto (tgt := 388) S.1 S.2.1 dL_areReadings_380 (by decide) ?_
                                                            refine lv_iload S.1 S.2.1 dL_areReadings_388 (lv_at hl 8 rfl) ?_
                                                            refine lv_iconst (v := 4) S.1 S.2.1 dL_areReadings_390 (by decide) ?_
                                                            refine lv_icmp_lt (tgt := 399) S.1 S.2.1 dL_areReadings_391 (by decide) (fun c_391 => ?_) (fun c_391 => ?_)
                                                            · refine lv_iload S.1 S.2.1 dL_areReadings_399 (lv_at hl 8 rfl) ?_
                                                              refine lv_iconst (v := 3) S.1 S.2.1 dL_areReadings_401 (by decide) ?_
                                                              refine lv_icmp_ne (tgt := 440) S.1 S.2.1 dL_areReadings_402 (by decide) (fun c_402 => ?_) (fun c_402 => ?_)
                                                              · refine lv_iload S.1 S.2.1 dL_areReadings_440 (lv_at hl 8 rfl) ?_
                                                                refine lv_iconst (v := 2) S.1 S.2.1 dL_areReadings_442 (by decide) ?_
                                                                refine lv_icmp_lt (tgt := 488) S.1 S.2.1 dL_areReadings_443 (by decide) (fun c_443 => ?_) (fun c_443 => ?_)
                                                                · refine lv_iconst (v := 1) S.1 S.2.1 dL_areReadings_488 (by decide) ?_
                                                                  refine lv_goto (tgt := 493) S.1 S.2.1 dL_areReadings_489 (by decide) ?_
                                                                  refine lv_istore_n (lv' := [(3, _), (12, _), (11, _), (10, _), (9, _), (8, _), (7, _), (6, _), (5, _), (4, _), (2, _), (1, _), (0, _)]) S.1 S.2.1 dL_areReadings_493 rfl hl (by decide) rfl (fun ls hl => ?_)
                                                                  refine lv_iload_n S.1 S.2.1 dL_areReadings_494 rfl (lv_at hl 0 rfl) ?_
                                                                  refine lv_if_eq (tgt := 523) S.1 S.2.1 dL_areReadings_495 (by decide) (fun c_495 => ?_) (fun c_495 => ?_)
                                                                  · exact absurd c_495 (by decide)
                                                                  · refine lv_iload S.1 S.2.1 dL_areReadings_498 (lv_at hl 8 rfl) ?_
                                                                    refine lv_iconst (v := 1) S.1 S.2.1 dL_areReadings_500 (by decide) ?_
                                                                    refine lv_icmp_gt (tgt := 519) S.1 S.2.1 dL_areReadings_501 (by decide) (fun c_501 => ?_) (fun c_501 => ?_)
                                                                    · exact absurd c_501 (by decide)
                                                                    · refine lv_aload_n S.1 S.2.1 dL_areReadings_504 rfl (lv_at hl 10 rfl) ?_
                                                                      refine lv_iconst (v := 0) S.1 S.2.1 dL_areReadings_505 (by decide) ?_
                                                                      refine k_iald S G 21 h21 rfl rfl rfl rfl (show 0 < 2 by decide) dL_areReadings_506 ?_
                                                                      refine g_top (hc0.trans eT) ?_
                                                                      refine lv_aload_n S.1 S.2.1 dL_areReadings_507 rfl (lv_at hl 11 rfl) ?_
                                                                      refine lv_iload S.1 S.2.1 dL_areReadings_508 (lv_at hl 9 rfl) ?_
                                                                      refine k_iald S G 20 h20 rfl rfl rfl rfl (show k < 64 by omega) dL_areReadings_510 ?_
                                                                      refine lv_bipush (v := 14) S.1 S.2.1 dL_areReadings_511 (by decide) ?_
                                                                      refine lv_ishr S.1 S.2.1 dL_areReadings_513 ?_
                                                                      refine g_top (show _ = nI τ from by rw [b14]; exact enc_t (by omega) (by omega) (by omega) (by omega)) ?_
                                                                      refine lv_isub S.1 S.2.1 dL_areReadings_514 ?_
                                                                      refine lv_iconst (v := 5) S.1 S.2.1 dL_areReadings_515 (by decide) ?_
                                                                      refine lv_icmp_ge (tgt := 523) S.1 S.2.1 dL_areReadings_516 (by decide) (fun c_516 => ?_) (fun c_516 => ?_)
                                                                      · exact absurd ((sub_ge5 (by omega) (by omega)).mp c_516) (by omega)
                                                                      · refine lv_iconst (v := 1) S.1 S.2.1 dL_areReadings_519 (by decide) ?_
                                                                        refine lv_goto (tgt := 524) S.1 S.2.1 dL_areReadings_520 (by decide) ?_
                                                                        refine lv_istore_n (lv' := [(3, _), (12, _), (11, _), (10, _), (9, _), (8, _), (7, _), (6, _), (5, _), (4, _), (2, _), (1, _), (0, _)]) S.1 S.2.1 dL_areReadings_524 rfl hl (by decide) rfl (fun ls hl => ?_)
                                                                        refine lv_aload_n S.1 S.2.1 dL_areReadings_525 rfl (lv_at hl 11 rfl) ?_
                                                                        refine lv_iload S.1 S.2.1 dL_areReadings_526 (lv_at hl 9 rfl) ?_
                                                                        refine lv_aload_n S.1 S.2.1 dL_areReadings_528 rfl (lv_at hl 11 rfl) ?_
                                                                        refine lv_iload S.1 S.2.1 dL_areReadings_529 (lv_at hl 9 rfl) ?_
                                                                        refine k_iald S G 20 h20 rfl rfl rfl rfl (show k < 64 by omega) dL_areReadings_531 ?_
                                                                        refine lv_sipush (v := (-14337)) S.1 S.2.1 dL_areReadings_532 (by decide) ?_
                                                                        refine lv_iand S.1 S.2.1 dL_areReadings_535 ?_
                                                                        refine lv_iload S.1 S.2.1 dL_areReadings_536 (lv_at hl 8 rfl) ?_
                                                                        refine lv_bipush (v := 11) S.1 S.2.1 dL_areReadings_538 (by decide) ?_
                                                                        refine lv_ishl S.1 S.2.1 dL_areReadings_540 ?_
                                                                        refine lv_ior S.1 S.2.1 dL_areReadings_541 ?_
                                                                        refine g_top (show _ = nI (enc τ 0 v9 s9) from by rw [b14]; exact enc_set (S := 0) (by omega) (by omega) (by omega) (by omega) (by decide)) ?_
                                                                        refine k_iast S G 20 h20 rfl rfl rfl rfl (show k < 64 by omega) dL_areReadings_542 (fun H locs G => ?_)
                                                                        refine lv_iinc (k := 9) (lv' := [(4, _), (3, _), (12, _), (11, _), (10, _), (9, _), (8, _), (7, _), (6, _), (5, _), (2, _), (1, _), (0, _)]) S.1 S.2.1 dL_areReadings_543 hl rfl (g_inc _) (by decide) rfl (fun ls hl => ?_)
                                                                        refine lv_goto (tgt := 29) S.1 S.2.1 dL_areReadings_546 (by decide) ?_
                                                                        refine W.widen (k := 40 * (k + 1)) (n := 320 * (k + 1)) (by omega) (by omega) ?_
                                                                        exact ih_29 (k + 1, upd3 κ1 20 0 k (nI (enc τ 0 v9 s9))) H locs ls ⟨by show k + 1 ≤ nn; omega, J1.setv hlt b1 b2 (by decide) b9 b10 b11 b7 (fun z => (b16 z).1), hnk⟩ (by show nn - (k + 1) < nn - k; omega) G (lv_sub hl [0, 1, 10, 11, 12] rfl)
                                                                · exact absurd c_443 (by decide)
                                                              · exact absurd c_402 (by decide)
                                                            · exact absurd c_391 (by decide)
                                          · exact absurd c_269 (by decide)
                      · exact absurd hP c_166
                    · exact absurd c_155 (by decide)
          · refine lv_aload_n S.1 S.2.1 dL_areReadings_41 rfl (lv_at hl 4 rfl) ?_
            refine lv_iload S.1 S.2.1 dL_areReadings_42 (lv_at hl 0 rfl) ?_
            refine g_cVi S G hF hl 7 (hV 7 _ (by first | decide | (show _ < 1; omega))) (by decide) (c_X6_stateOfk l ids ad _ _ hV hW hlt) (cwV 1 S.2.2.2.2 gL_areReadings_X6_stateOf rfl rfl rfl (by decide +kernel) ⟨Nat.le_of_ble_eq_true rfl, Nat.le_of_ble_eq_true rfl⟩) rfl rfl (Nat.le_of_ble_eq_true rfl) dL_areReadings_44 ⟨by show _ ≤ 2480; omega, by show _ ≤ 19840; omega⟩ (fun r_44 u_44 H locs hp_44 G => ?_)
            obtain ⟨rfl, rfl⟩ := hp_44
            have G : gS D aC A s ids ad (gk _) H locs := G
            have hP :  (3 : Int32) ≤ nI P := (nI_leI (a := 3) (b := P) (by decide) (by omega)).mpr (by omega)
            have hst : st ≤ 1 ∧ st < 2 := by omega
            refine g_top (show _ = (1 : Int32) from by exact b11) ?_
            refine lv_istore (lv' := [(5, _), (4, _), (3, _), (2, _), (1, _), (0, _)]) S.1 S.2.1 dL_areReadings_47 hl (by decide) rfl (fun ls hl => ?_)
            refine lv_aload_n S.1 S.2.1 dL_areReadings_49 rfl (lv_at hl 4 rfl) ?_
            refine lv_iload S.1 S.2.1 dL_areReadings_50 (lv_at hl 1 rfl) ?_
            refine k_iald S G 20 h20 rfl rfl rfl rfl (show k < 64 by omega) dL_areReadings_52 ?_
            refine lv_bipush (v := 11) S.1 S.2.1 dL_areReadings_53 (by decide) ?_
            refine lv_ishr S.1 S.2.1 dL_areReadings_55 ?_
            refine lv_bipush (v := 7) S.1 S.2.1 dL_areReadings_56 (by decide) ?_
            refine lv_iand S.1 S.2.1 dL_areReadings_58 ?_
            refine g_top (show _ = nI st from by rw [b14]; exact enc_st (by omega) (by omega) (by omega) (by omega)) ?_
            refine lv_istore (lv' := [(6, _), (5, _), (4, _), (3, _), (2, _), (1, _), (0, _)]) S.1 S.2.1 dL_areReadings_59 hl (by decide) rfl (fun ls hl => ?_)
            refine lv_aload_n S.1 S.2.1 dL_areReadings_61 rfl (lv_at hl 5 rfl) ?_
            refine lv_iload S.1 S.2.1 dL_areReadings_62 (lv_at hl 2 rfl) ?_
            refine k_iald S G 20 h20 rfl rfl rfl rfl (show k < 64 by omega) dL_areReadings_64 ?_
            refine lv_iconst (v := 4) S.1 S.2.1 dL_areReadings_65 (by decide) ?_
            refine lv_ishr S.1 S.2.1 dL_areReadings_66 ?_
            refine lv_bipush (v := 127) S.1 S.2.1 dL_areReadings_67 (by decide) ?_
            refine lv_iand S.1 S.2.1 dL_areReadings_69 ?_
            refine g_top (show _ = nI v9 from by rw [b14]; exact enc_v (by omega) (by omega) (by omega) (by omega)) ?_
            refine lv_istore (lv' := [(7, _), (6, _), (5, _), (4, _), (3, _), (2, _), (1, _), (0, _)]) S.1 S.2.1 dL_areReadings_70 hl (by decide) rfl (fun ls hl => ?_)
            refine lv_iload S.1 S.2.1 dL_areReadings_72 (lv_at hl 0 rfl) ?_
            refine lv_bipush (v := 10) S.1 S.2.1 dL_areReadings_74 (by decide) ?_
            refine lv_icmp_ge (tgt := 83) S.1 S.2.1 dL_areReadings_76 (by decide) (fun c_76 => ?_) (fun c_76 => ?_)
            · have hd : ¬ v9 < 10 := fun z => by have := (nI_leI (a := 10) (b := v9) (by decide) (by omega)).mp c_76; omega
              refine lv_iconst (v := 2) S.1 S.2.1 dL_areReadings_83 (by decide) ?_
              refine lv_istore (lv' := [(8, _), (7, _), (6, _), (5, _), (4, _), (3, _), (2, _), (1, _), (0, _)]) S.1 S.2.1 dL_areReadings_84 hl (by decide) rfl (fun ls hl => ?_)
              refine lv_aload_n S.1 S.2.1 dL_areReadings_86 rfl (lv_at hl 8 rfl) ?_
              refine lv_iload S.1 S.2.1 dL_areReadings_87 (lv_at hl 4 rfl) ?_
              refine g_cVi S G hF hl 7 (hV 7 _ (by first | decide | (show _ < 1; omega))) (by decide) (c_X6_partsk l ids ad _ _ hV hW hlt) (cwV 1 S.2.2.2.2 gL_areReadings_X6_parts rfl rfl rfl (by decide +kernel) ⟨Nat.le_of_ble_eq_true rfl, Nat.le_of_ble_eq_true rfl⟩) rfl rfl (Nat.le_of_ble_eq_true rfl) dL_areReadings_89 ⟨by show _ ≤ 2480; omega, by show _ ≤ 19840; omega⟩ (fun r_89 u_89 H locs hp_89 G => ?_)
              obtain ⟨rfl, rfl⟩ := hp_89
              have G : gS D aC A s ids ad (gk _) H locs := G
              refine g_top b12 ?_
              refine lv_istore (lv' := [(9, _), (8, _), (7, _), (6, _), (5, _), (4, _), (3, _), (2, _), (1, _), (0, _)]) S.1 S.2.1 dL_areReadings_92 hl (by decide) rfl (fun ls hl => ?_)
              refine lv_iload S.1 S.2.1 dL_areReadings_94 (lv_at hl 4 rfl) ?_
              refine lv_if_ne (tgt := 104) S.1 S.2.1 dL_areReadings_96 (by decide) (fun c_96 => ?_) (fun c_96 => ?_)
              · refine lv_iload S.1 S.2.1 dL_areReadings_104 (lv_at hl 4 rfl) ?_
                refine lv_iconst (v := 1) S.1 S.2.1 dL_areReadings_106 (by decide) ?_
                refine lv_icmp_ne (tgt := 115) S.1 S.2.1 dL_areReadings_107 (by decide) (fun c_107 => ?_) (fun c_107 => ?_)
                · exact absurd c_107 (by decide)
                · refine lv_bipush (v := 63) S.1 S.2.1 dL_areReadings_110 (by decide) ?_
                  refine lv_goto (tgt := 139) S.1 S.2.1 dL_areReadings_112 (by decide) ?_
                  refine lv_istore (lv' := [(10, _), (9, _), (8, _), (7, _), (6, _), (5, _), (4, _), (3, _), (2, _), (1, _), (0, _)]) S.1 S.2.1 dL_areReadings_139 hl (by decide) rfl (fun ls hl => ?_)
                  refine lv_iload S.1 S.2.1 dL_areReadings_141 (lv_at hl 5 rfl) ?_
                  refine lv_if_lt (tgt := 323) S.1 S.2.1 dL_areReadings_143 (by decide) (fun c_143 => ?_) (fun c_143 => ?_)
                  · exact absurd c_143 (by decide)
                  · refine lv_iload S.1 S.2.1 dL_areReadings_146 (lv_at hl 5 rfl) ?_
                    refine lv_iconst (v := 4) S.1 S.2.1 dL_areReadings_148 (by decide) ?_
                    refine lv_icmp_gt (tgt := 323) S.1 S.2.1 dL_areReadings_149 (by decide) (fun c_149 => ?_) (fun c_149 => ?_)
                    · exact absurd c_149 (by decide)
                    · refine lv_iload S.1 S.2.1 dL_areReadings_152 (lv_at hl 5 rfl) ?_
                      refine lv_iconst (v := 4) S.1 S.2.1 dL_areReadings_154 (by decide) ?_
                      refine lv_icmp_ne (tgt := 162) S.1 S.2.1 dL_areReadings_155 (by decide) (fun c_155 => ?_) (fun c_155 => ?_)
                      · refine lv_iconst (v := 0) S.1 S.2.1 dL_areReadings_162 (by decide) ?_
                        refine lv_iload S.1 S.2.1 dL_areReadings_163 (lv_at hl 1 rfl) ?_
                        refine lv_iconst (v := 3) S.1 S.2.1 dL_areReadings_165 (by decide) ?_
                        refine lv_icmp_ge (tgt := 173) S.1 S.2.1 dL_areReadings_166 (by decide) (fun c_166 => ?_) (fun c_166 => ?_)
                        · refine lv_iconst (v := 0) S.1 S.2.1 dL_areReadings_173 (by decide) ?_
                          refine lv_icmp_ne (tgt := 323) S.1 S.2.1 dL_areReadings_174 (by decide) (fun c_174 => ?_) (fun c_174 => ?_)
                          · exact absurd c_174 (by decide)
                          · refine lv_iload S.1 S.2.1 dL_areReadings_177 (lv_at hl 1 rfl) ?_
                            refine lv_if_lt (tgt := 323) S.1 S.2.1 dL_areReadings_179 (by decide) (fun c_179 => ?_) (fun c_179 => ?_)
                            · exact absurd c_179 (nI_pos (by omega))
                            · refine lv_iload S.1 S.2.1 dL_areReadings_182 (lv_at hl 1 rfl) ?_
                              refine lv_iconst (v := 4) S.1 S.2.1 dL_areReadings_184 (by decide) ?_
                              refine lv_icmp_gt (tgt := 323) S.1 S.2.1 dL_areReadings_185 (by decide) (fun c_185 => ?_) (fun c_185 => ?_)
                              · exact absurd c_185 (not_gt (n := 4) (ixL.nI (by omega) (by decide)) (by decide))
                              · refine lv_iload S.1 S.2.1 dL_areReadings_188 (lv_at hl 4 rfl) ?_
                                refine lv_iconst (v := 2) S.1 S.2.1 dL_areReadings_190 (by decide) ?_
                                refine lv_icmp_ge (tgt := 210) S.1 S.2.1 dL_areReadings_191 (by decide) (fun c_191 => ?_) (fun c_191 => ?_)
                                · exact absurd ((nI_leI (a := 2) (b := st) (by decide) (by omega)).mp c_191) (by omega)
                                · have h2st := mt (nI_leI (a := 2) (b := st) (by decide) (by omega)).mpr c_191
                                  refine lv_iload S.1 S.2.1 dL_areReadings_194 (lv_at hl 5 rfl) ?_
                                  refine lv_iconst (v := 4) S.1 S.2.1 dL_areReadings_196 (by decide) ?_
                                  refine lv_icmp_ge (tgt := 323) S.1 S.2.1 dL_areReadings_197 (by decide) (fun c_197 => ?_) (fun c_197 => ?_)
                                  · exact absurd c_197 (by decide)
                                  · refine lv_iload S.1 S.2.1 dL_areReadings_200 (lv_at hl 5 rfl) ?_
                                    refine lv_iload S.1 S.2.1 dL_areReadings_202 (lv_at hl 4 rfl) ?_
                                    refine lv_icmp_lt (tgt := 323) S.1 S.2.1 dL_areReadings_204 (by decide) (fun c_204 => ?_) (fun c_204 => ?_)
                                    · exact absurd ((nI_ltI (a := 1) (b := st) (by decide) (by omega)).mp c_204) (by omega)
                                    · refine lv_goto (tgt := 217) S.1 S.2.1 dL_areReadings_207 (by decide) ?_
                                      refine lv_aload_n S.1 S.2.1 dL_areReadings_217 rfl (lv_at hl 10 rfl) ?_
                                      refine lv_iload S.1 S.2.1 dL_areReadings_218 (lv_at hl 6 rfl) ?_
                                      refine lv_iconst (v := 0) S.1 S.2.1 dL_areReadings_220 (by decide) ?_
                                      refine gx_cVi S G hF hl 7 (hV 7 _ (by first | decide | (show _ < 1; omega))) (by decide) (c_X6_textAt l hlf ids ad _ _ _ hV hW hI (fun _ => by rw [tN_nI (by omega)]; exact hvx)) (cwV 2 S.2.2.2.2 gL_areReadings_X6_textAt rfl rfl rfl (by decide +kernel) ⟨Nat.le_of_ble_eq_true rfl, Nat.le_of_ble_eq_true rfl⟩) rfl rfl (Nat.le_of_ble_eq_true rfl) dL_areReadings_221 ⟨by show _ ≤ 2480; omega, by show _ ≤ 19840; omega⟩ (fun _ _ _ _ _ _ hp _ _ _ _ => (xE_0 hp.1 (txT_0 hlt hn hn80 (by decide))).elim) (fun r_221 u_221 H locs hp_221 G => ?_)
                                      obtain ⟨-, rfl, rfl⟩ := hp_221
                                      have G : gS D aC A s ids ad (gk _) H locs := G
                                      refine g_top (show _ = 97 + nI s9 from by rw [tN_nI (by omega)]; exact t0) ?_
                                      refine lv_bipush (v := 97) S.1 S.2.1 dL_areReadings_224 (by decide) ?_
                                      refine lv_aload_n S.1 S.2.1 dL_areReadings_226 rfl (lv_at hl 9 rfl) ?_
                                      refine lv_iload S.1 S.2.1 dL_areReadings_227 (lv_at hl 6 rfl) ?_
                                      refine k_iald S G 20 h20 rfl rfl rfl rfl (show k < 64 by omega) dL_areReadings_229 ?_
                                      refine lv_bipush (v := 15) S.1 S.2.1 dL_areReadings_230 (by decide) ?_
                                      refine lv_iand S.1 S.2.1 dL_areReadings_232 ?_
                                      refine g_top (show _ = nI s9 from by rw [b14]; exact enc_s (by omega) (by omega) (by omega) (by omega)) ?_
                                      refine lv_iadd S.1 S.2.1 dL_areReadings_233 ?_
                                      refine lv_icmp_ne (tgt := 323) S.1 S.2.1 dL_areReadings_234 (by decide) (fun c_234 => ?_) (fun c_234 => ?_)
                                      · exact absurd rfl c_234
                                      · refine lv_aload_n S.1 S.2.1 dL_areReadings_237 rfl (lv_at hl 10 rfl) ?_
                                        refine lv_iload S.1 S.2.1 dL_areReadings_238 (lv_at hl 6 rfl) ?_
                                        refine lv_iconst (v := 1) S.1 S.2.1 dL_areReadings_240 (by decide) ?_
                                        refine gx_cVi S G hF hl 7 (hV 7 _ (by first | decide | (show _ < 1; omega))) (by decide) (c_X6_textAt l hlf ids ad _ _ _ hV hW hI (fun _ => by rw [tN_nI (by omega)]; exact hvx)) (cwV 2 S.2.2.2.2 gL_areReadings_X6_textAt rfl rfl rfl (by decide +kernel) ⟨Nat.le_of_ble_eq_true rfl, Nat.le_of_ble_eq_true rfl⟩) rfl rfl (Nat.le_of_ble_eq_true rfl) dL_areReadings_241 ⟨by show _ ≤ 2480; omega, by show _ ≤ 19840; omega⟩ (fun _ _ _ _ _ _ hp _ _ _ _ => (xE_0 hp.1 (txT_0 hlt hn hn80 (by decide))).elim) (fun r_241 u_241 H locs hp_241 G => ?_)
                                        obtain ⟨-, rfl, rfl⟩ := hp_241
                                        have G : gS D aC A s ids ad (gk _) H locs := G
                                        refine g_top (show _ = 48 + nI v9 / 10 from by rw [tN_nI (by omega)]; exact (t2 hd).1) ?_
                                        refine lv_bipush (v := 48) S.1 S.2.1 dL_areReadings_244 (by decide) ?_
                                        refine lv_iload S.1 S.2.1 dL_areReadings_246 (lv_at hl 2 rfl) ?_
                                        refine lv_iconst (v := 1) S.1 S.2.1 dL_areReadings_248 (by decide) ?_
                                        refine lv_icmp_ne (tgt := 257) S.1 S.2.1 dL_areReadings_249 (by decide) (fun c_249 => ?_) (fun c_249 => ?_)
                                        · refine lv_iload S.1 S.2.1 dL_areReadings_257 (lv_at hl 3 rfl) ?_
                                          refine lv_bipush (v := 10) S.1 S.2.1 dL_areReadings_259 (by decide) ?_
                                          refine lv_idiv S.1 S.2.1 dL_areReadings_261 (by decide) ?_
                                          refine lv_iadd S.1 S.2.1 dL_areReadings_262 ?_
                                          refine lv_icmp_ne (tgt := 323) S.1 S.2.1 dL_areReadings_263 (by decide) (fun c_263 => ?_) (fun c_263 => ?_)
                                          · exact absurd rfl c_263
                                          · refine lv_iload S.1 S.2.1 dL_areReadings_266 (lv_at hl 2 rfl) ?_
                                            refine lv_iconst (v := 1) S.1 S.2.1 dL_areReadings_268 (by decide) ?_
                                            refine lv_icmp_eq (tgt := 290) S.1 S.2.1 dL_areReadings_269 (by decide) (fun c_269 => ?_) (fun c_269 => ?_)
                                            · exact absurd c_269 (by decide)
                                            · refine lv_aload_n S.1 S.2.1 dL_areReadings_272 rfl (lv_at hl 10 rfl) ?_
                                              refine lv_iload S.1 S.2.1 dL_areReadings_273 (lv_at hl 6 rfl) ?_
                                              refine lv_iconst (v := 2) S.1 S.2.1 dL_areReadings_275 (by decide) ?_
                                              refine gx_cVi S G hF hl 7 (hV 7 _ (by first | decide | (show _ < 1; omega))) (by decide) (c_X6_textAt l hlf ids ad _ _ _ hV hW hI (fun _ => by rw [tN_nI (by omega)]; exact hvx)) (cwV 2 S.2.2.2.2 gL_areReadings_X6_textAt rfl rfl rfl (by decide +kernel) ⟨Nat.le_of_ble_eq_true rfl, Nat.le_of_ble_eq_true rfl⟩) rfl rfl (Nat.le_of_ble_eq_true rfl) dL_areReadings_276 ⟨by show _ ≤ 2480; omega, by show _ ≤ 19840; omega⟩ (fun _ _ _ _ _ _ hp _ _ _ _ => (xE_0 hp.1 (txT_0 hlt hn hn80 (by decide))).elim) (fun r_276 u_276 H locs hp_276 G => ?_)
                                              obtain ⟨-, rfl, rfl⟩ := hp_276
                                              have G : gS D aC A s ids ad (gk _) H locs := G
                                              refine g_top (show _ = 48 + (nI v9 - nI v9 / 10 * 10) from by rw [tN_nI (by omega)]; exact (t2 hd).2.1) ?_
                                              refine lv_bipush (v := 48) S.1 S.2.1 dL_areReadings_279 (by decide) ?_
                                              refine lv_iload S.1 S.2.1 dL_areReadings_281 (lv_at hl 3 rfl) ?_
                                              refine lv_bipush (v := 10) S.1 S.2.1 dL_areReadings_283 (by decide) ?_
                                              refine lv_irem S.1 S.2.1 dL_areReadings_285 (by decide) ?_
                                              refine lv_iadd S.1 S.2.1 dL_areReadings_286 ?_
                                              refine lv_icmp_ne (tgt := 323) S.1 S.2.1 dL_areReadings_287 (by decide) (fun c_287 => ?_) (fun c_287 => ?_)
                                              · exact absurd rfl c_287
                                              · refine lv_aload_n S.1 S.2.1 dL_areReadings_290 rfl (lv_at hl 10 rfl) ?_
                                                refine lv_iload S.1 S.2.1 dL_areReadings_291 (lv_at hl 6 rfl) ?_
                                                refine lv_iload S.1 S.2.1 dL_areReadings_293 (lv_at hl 2 rfl) ?_
                                                refine lv_iconst (v := 1) S.1 S.2.1 dL_areReadings_295 (by decide) ?_
                                                refine lv_iadd S.1 S.2.1 dL_areReadings_296 ?_
                                                refine g_top (show _ = (3 : Int32) from by decide) ?_
                                                refine gx_cVi S G hF hl 7 (hV 7 _ (by first | decide | (show _ < 1; omega))) (by decide) (c_X6_textAt l hlf ids ad _ _ _ hV hW hI (fun _ => by rw [tN_nI (by omega)]; exact hvx)) (cwV 2 S.2.2.2.2 gL_areReadings_X6_textAt rfl rfl rfl (by decide +kernel) ⟨Nat.le_of_ble_eq_true rfl, Nat.le_of_ble_eq_true rfl⟩) rfl rfl (Nat.le_of_ble_eq_true rfl) dL_areReadings_297 ⟨by show _ ≤ 2480; omega, by show _ ≤ 19840; omega⟩ (fun _ _ _ _ _ _ hp _ _ _ _ => (xE_0 hp.1 (txT_0 hlt hn hn80 (by decide))).elim) (fun r_297 u_297 H locs hp_297 G => ?_)
                                                obtain ⟨-, rfl, rfl⟩ := hp_297
                                                have G : gS D aC A s ids ad (gk _) H locs := G
                                                refine g_top (show _ = (63 : Int32) from by rw [tN_nI (by omega)]; exact (t2 hd).2.2.1.trans e3s) ?_
                                                refine lv_iload S.1 S.2.1 dL_areReadings_300 (lv_at hl 0 rfl) ?_
                                                refine lv_icmp_ne (tgt := 323) S.1 S.2.1 dL_areReadings_302 (by decide) (fun c_302 => ?_) (fun c_302 => ?_)
                                                · exact absurd c_302 (by decide)
                                                · refine lv_aload_n S.1 S.2.1 dL_areReadings_305 rfl (lv_at hl 10 rfl) ?_
                                                  refine lv_iload S.1 S.2.1 dL_areReadings_306 (lv_at hl 6 rfl) ?_
                                                  refine lv_iload S.1 S.2.1 dL_areReadings_308 (lv_at hl 2 rfl) ?_
                                                  refine lv_iconst (v := 2) S.1 S.2.1 dL_areReadings_310 (by decide) ?_
                                                  refine lv_iadd S.1 S.2.1 dL_areReadings_311 ?_
                                                  refine g_top (show _ = (4 : Int32) from by decide) ?_
                                                  refine gx_cVi S G hF hl 7 (hV 7 _ (by first | decide | (show _ < 1; omega))) (by decide) (c_X6_textAt l hlf ids ad _ _ _ hV hW hI (fun _ => by rw [tN_nI (by omega)]; exact hvx)) (cwV 2 S.2.2.2.2 gL_areReadings_X6_textAt rfl rfl rfl (by decide +kernel) ⟨Nat.le_of_ble_eq_true rfl, Nat.le_of_ble_eq_true rfl⟩) rfl rfl (Nat.le_of_ble_eq_true rfl) dL_areReadings_312 ⟨by show _ ≤ 2480; omega, by show _ ≤ 19840; omega⟩ (fun _ _ _ _ _ _ hp _ _ _ _ => (xE_0 hp.1 (txT_0 hlt hn hn80 (by decide))).elim) (fun r_312 u_312 H locs hp_312 G => ?_)
                                                  obtain ⟨-, rfl, rfl⟩ := hp_312
                                                  have G : gS D aC A s ids ad (gk _) H locs := G
                                                  refine g_top (show _ = (-1 : Int32) from by rw [tN_nI (by omega)]; exact (t2 hd).2.2.2) ?_
                                                  refine lv_iconst (v := (-1)) S.1 S.2.1 dL_areReadings_315 (by decide) ?_
                                                  refine lv_icmp_ne (tgt := 323) S.1 S.2.1 dL_areReadings_316 (by decide) (fun c_316 => ?_) (fun c_316 => ?_)
                                                  · exact absurd c_316 (by decide)
                                                  · refine lv_iconst (v := 1) S.1 S.2.1 dL_areReadings_319 (by decide) ?_
                                                    refine lv_goto (tgt := 324) S.1 S.2.1 dL_areReadings_320 (by decide) ?_
                                                    refine lv_istore_n (lv' := [(3, _), (10, _), (9, _), (8, _), (7, _), (6, _), (5, _), (4, _), (2, _), (1, _), (0, _)]) S.1 S.2.1 dL_areReadings_324 rfl hl (by decide) rfl (fun ls hl => ?_)
                                                    refine lv_aload_n S.1 S.2.1 dL_areReadings_325 rfl (lv_at hl 10 rfl) ?_
                                                    refine lv_iload S.1 S.2.1 dL_areReadings_326 (lv_at hl 7 rfl) ?_
                                                    refine g_cVi S G hF hl 7 (hV 7 _ (by first | decide | (show _ < 1; omega))) (by decide) (c_X6_usersk l ids ad _ _ hV hW hlt) (cwV 1 S.2.2.2.2 gL_areReadings_X6_users rfl rfl rfl (by decide +kernel) ⟨Nat.le_of_ble_eq_true rfl, Nat.le_of_ble_eq_true rfl⟩) rfl rfl (Nat.le_of_ble_eq_true rfl) dL_areReadings_328 ⟨by show _ ≤ 2480; omega, by show _ ≤ 19840; omega⟩ (fun r_328 u_328 H locs hp_328 G => ?_)
                                                    obtain ⟨rfl, rfl⟩ := hp_328
                                                    have G : gS D aC A s ids ad (gk _) H locs := G
                                                    refine g_top b13 ?_
                                                    refine lv_istore (lv' := [(11, _), (3, _), (10, _), (9, _), (8, _), (7, _), (6, _), (5, _), (4, _), (2, _), (1, _), (0, _)]) S.1 S.2.1 dL_areReadings_331 hl (by decide) rfl (fun ls hl => ?_)
                                                    refine lv_aload_n S.1 S.2.1 dL_areReadings_333 rfl (lv_at hl 11 rfl) ?_
                                                    refine lv_iload S.1 S.2.1 dL_areReadings_334 (lv_at hl 8 rfl) ?_
                                                    refine g_cVi S G hF hl 7 (hV 7 _ (by first | decide | (show _ < 1; omega))) (by decide) (c_X6_heldk l ids ad _ _ hV hW hlt) (cwV 1 S.2.2.2.2 gL_areReadings_X6_held rfl rfl rfl (by decide +kernel) ⟨Nat.le_of_ble_eq_true rfl, Nat.le_of_ble_eq_true rfl⟩) rfl rfl (Nat.le_of_ble_eq_true rfl) dL_areReadings_336 ⟨by show _ ≤ 2480; omega, by show _ ≤ 19840; omega⟩ (fun r_336 u_336 H locs hp_336 G => ?_)
                                                    obtain ⟨rfl, rfl⟩ := hp_336
                                                    have G : gS D aC A s ids ad (gk _) H locs := G
                                                    refine g_top c1 ?_
                                                    refine lv_istore (lv' := [(12, _), (11, _), (3, _), (10, _), (9, _), (8, _), (7, _), (6, _), (5, _), (4, _), (2, _), (1, _), (0, _)]) S.1 S.2.1 dL_areReadings_339 hl (by decide) rfl (fun ls hl => ?_)
                                                    refine lv_iload_n S.1 S.2.1 dL_areReadings_341 rfl (lv_at hl 2 rfl) ?_
                                                    refine lv_if_eq (tgt := 492) S.1 S.2.1 dL_areReadings_342 (by decide) (fun c_342 => ?_) (fun c_342 => ?_)
                                                    · exact absurd c_342 (by decide)
                                                    · refine lv_iload S.1 S.2.1 dL_areReadings_345 (lv_at hl 1 rfl) ?_
                                                      refine lv_if_lt (tgt := 492) S.1 S.2.1 dL_areReadings_347 (by decide) (fun c_347 => ?_) (fun c_347 => ?_)
                                                      · exact absurd c_347 (nI_pos (by omega))
                                                      · refine lv_iload S.1 S.2.1 dL_areReadings_350 (lv_at hl 1 rfl) ?_
                                                        refine lv_bipush (v := 6) S.1 S.2.1 dL_areReadings_352 (by decide) ?_
                                                        refine lv_icmp_gt (tgt := 492) S.1 S.2.1 dL_areReadings_354 (by decide) (fun c_354 => ?_) (fun c_354 => ?_)
                                                        · exact absurd c_354 (not_gt (n := 6) (ixL.nI (by omega) (by decide)) (by decide))
                                                        · refine lv_iload S.1 S.2.1 dL_areReadings_357 (lv_at hl 0 rfl) ?_
                                                          refine lv_bipush (v := 20) S.1 S.2.1 dL_areReadings_359 (by decide) ?_
                                                          refine lv_iload S.1 S.2.1 dL_areReadings_361 (lv_at hl 1 rfl) ?_
                                                          refine lv_imul S.1 S.2.1 dL_areReadings_363 ?_
                                                          refine g_top (pk_mul 20 U) ?_
                                                          refine lv_icmp_gt (tgt := 492) S.1 S.2.1 dL_areReadings_364 (by decide) (fun c_364 => ?_) (fun c_364 => ?_)
                                                          · exact absurd ((nI_ltI (by omega) (by omega)).mp c_364) (by omega)
                                                          · refine lv_iload S.1 S.2.1 dL_areReadings_367 (lv_at hl 8 rfl) ?_
                                                            refine lv_iconst (v := 2) S.1 S.2.1 dL_areReadings_369 (by decide) ?_
                                                            refine lv_icmp_ge (tgt := 383) S.1 S.2.1 dL_areReadings_370 (by decide) (fun c_370 => ?_) (fun c_370 => ?_)
                                                            · exact absurd c_370 (by decide)
                                                            · refine lv_iload S.1 S.2.1 dL_areReadings_373 (lv_at hl 0 rfl) ?_
                                                              refine lv_iload S.1 S.2.1 dL_areReadings_375 (lv_at hl 1 rfl) ?_
                                                              refine lv_icmp_lt (tgt := 492) S.1 S.2.1 dL_areReadings_377 (by decide) (fun c_377 => ?_) (fun c_377 => ?_)
                                                              · exact absurd ((nI_ltI (by omega) (by omega)).mp c_377) (by omega)
                                                              · refine lv_goto (tgt := 388) S.1 S.2.1 dL_areReadings_380 (by decide) ?_
                                                                refine lv_iload S.1 S.2.1 dL_areReadings_388 (lv_at hl 8 rfl) ?_
                                                                refine lv_iconst (v := 4) S.1 S.2.1 dL_areReadings_390 (by decide) ?_
                                                                refine lv_icmp_lt (tgt := 399) S.1 S.2.1 dL_areReadings_391 (by decide) (fun c_391 => ?_) (fun c_391 => ?_)
                                                                · refine lv_iload S.1 S.2.1 dL_areReadings_399 (lv_at hl 8 rfl) ?_
                                                                  refine lv_iconst (v := 3) S.1 S.2.1 dL_areReadings_401 (by decide) ?_
                                                                  refine lv_icmp_ne (tgt := 440) S.1 S.2.1 dL_areReadings_402 (by decide) (fun c_402 => ?_) (fun c_402 => ?_)
                                                                  · refine lv_iload S.1 S.2.1 dL_areReadings_440 (lv_at hl 8 rfl) ?_
                                                                    refine lv_iconst (v := 2) S.1 S.2.1 dL_areReadings_442 (by decide) ?_
                                                                    refine lv_icmp_lt (tgt := 488) S.1 S.2.1 dL_areReadings_443 (by decide) (fun c_443 => ?_) (fun c_443 => ?_)
                                                                    · refine lv_iconst (v := 1) S.1 S.2.1 dL_areReadings_488 (by decide) ?_
                                                                      refine lv_goto (tgt := 493) S.1 S.2.1 dL_areReadings_489 (by decide) ?_
                                                                      refine lv_istore_n (lv' := [(3, _), (12, _), (11, _), (10, _), (9, _), (8, _), (7, _), (6, _), (5, _), (4, _), (2, _), (1, _), (0, _)]) S.1 S.2.1 dL_areReadings_493 rfl hl (by decide) rfl (fun ls hl => ?_)
                                                                      refine lv_iload_n S.1 S.2.1 dL_areReadings_494 rfl (lv_at hl 0 rfl) ?_
                                                                      refine lv_if_eq (tgt := 523) S.1 S.2.1 dL_areReadings_495 (by decide) (fun c_495 => ?_) (fun c_495 => ?_)
                                                                      · exact absurd c_495 (by decide)
                                                                      · refine lv_iload S.1 S.2.1 dL_areReadings_498 (lv_at hl 8 rfl) ?_
                                                                        refine lv_iconst (v := 1) S.1 S.2.1 dL_areReadings_500 (by decide) ?_
                                                                        refine lv_icmp_gt (tgt := 519) S.1 S.2.1 dL_areReadings_501 (by decide) (fun c_501 => ?_) (fun c_501 => ?_)
                                                                        · exact absurd c_501 (by decide)
                                                                        · refine lv_aload_n S.1 S.2.1 dL_areReadings_504 rfl (lv_at hl 10 rfl) ?_
                                                                          refine lv_iconst (v := 0) S.1 S.2.1 dL_areReadings_505 (by decide) ?_
                                                                          refine k_iald S G 21 h21 rfl rfl rfl rfl (show 0 < 2 by decide) dL_areReadings_506 ?_
                                                                          refine g_top (hc0.trans eT) ?_
                                                                          refine lv_aload_n S.1 S.2.1 dL_areReadings_507 rfl (lv_at hl 11 rfl) ?_
                                                                          refine lv_iload S.1 S.2.1 dL_areReadings_508 (lv_at hl 9 rfl) ?_
                                                                          refine k_iald S G 20 h20 rfl rfl rfl rfl (show k < 64 by omega) dL_areReadings_510 ?_
                                                                          refine lv_bipush (v := 14) S.1 S.2.1 dL_areReadings_511 (by decide) ?_
                                                                          refine lv_ishr S.1 S.2.1 dL_areReadings_513 ?_
                                                                          refine g_top (show _ = nI τ from by rw [b14]; exact enc_t (by omega) (by omega) (by omega) (by omega)) ?_
                                                                          refine lv_isub S.1 S.2.1 dL_areReadings_514 ?_
                                                                          refine lv_iconst (v := 5) S.1 S.2.1 dL_areReadings_515 (by decide) ?_
                                                                          refine lv_icmp_ge (tgt := 523) S.1 S.2.1 dL_areReadings_516 (by decide) (fun c_516 => ?_) (fun c_516 => ?_)
                                                                          · exact absurd ((sub_ge5 (by omega) (by omega)).mp c_516) (by omega)
                                                                          · refine lv_iconst (v := 1) S.1 S.2.1 dL_areReadings_519 (by decide) ?_
                                                                            refine lv_goto (tgt := 524) S.1 S.2.1 dL_areReadings_520 (by decide) ?_
                                                                            refine lv_istore_n (lv' := [(3, _), (12, _), (11, _), (10, _), (9, _), (8, _), (7, _), (6, _), (5, _), (4, _), (2, _), (1, _), (0, _)]) S.1 S.2.1 dL_areReadings_524 rfl hl (by decide) rfl (fun ls hl => ?_)
                                                                            refine lv_aload_n S.1 S.2.1 dL_areReadings_525 rfl (lv_at hl 11 rfl) ?_
                                                                            refine lv_iload S.1 S.2.1 dL_areReadings_526 (lv_at hl 9 rfl) ?_
                                                                            refine lv_aload_n S.1 S.2.1 dL_areReadings_528 rfl (lv_at hl 11 rfl) ?_
                                                                            refine lv_iload S.1 S.2.1 dL_areReadings_529 (lv_at hl 9 rfl) ?_
                                                                            refine k_iald S G 20 h20 rfl rfl rfl rfl (show k < 64 by omega) dL_areReadings_531 ?_
                                                                            refine lv_sipush (v := (-14337)) S.1 S.2.1 dL_areReadings_532 (by decide) ?_
                                                                            refine lv_iand S.1 S.2.1 dL_areReadings_535 ?_
                                                                            refine lv_iload S.1 S.2.1 dL_areReadings_536 (lv_at hl 8 rfl) ?_
                                                                            refine lv_bipush (v := 11) S.1 S.2.1 dL_areReadings_538 (by decide) ?_
                                                                            refine lv_ishl S.1 S.2.1 dL_areReadings_540 ?_
                                                                            refine lv_ior S.1 S.2.1 dL_areReadings_541 ?_
                                                                            refine g_top (show _ = nI (enc τ 1 v9 s9) from by rw [b14]; exact enc_set (S := 1) (by omega) (by omega) (by omega) (by omega) (by decide)) ?_
                                                                            refine k_iast S G 20 h20 rfl rfl rfl rfl (show k < 64 by omega) dL_areReadings_542 (fun H locs G => ?_)
                                                                            refine lv_iinc (k := 9) (lv' := [(4, _), (3, _), (12, _), (11, _), (10, _), (9, _), (8, _), (7, _), (6, _), (5, _), (2, _), (1, _), (0, _)]) S.1 S.2.1 dL_areReadings_543 hl rfl (g_inc _) (by decide) rfl (fun ls hl => ?_)
                                                                            refine lv_goto (tgt := 29) S.1 S.2.1 dL_areReadings_546 (by decide) ?_
                                                                            refine W.widen (k := 40 * (k + 1)) (n := 320 * (k + 1)) (by omega) (by omega) ?_
                                                                            exact ih_29 (k + 1, upd3 κ1 20 0 k (nI (enc τ 1 v9 s9))) H locs ls ⟨by show k + 1 ≤ nn; omega, J1.setv hlt b1 b2 (by decide) b9 b10 b11 b7 (fun z => (b16 z).1), hnk⟩ (by show nn - (k + 1) < nn - k; omega) G (lv_sub hl [0, 1, 10, 11, 12] rfl)
                                                                    · exact absurd c_443 (by decide)
                                                                  · exact absurd c_402 (by decide)
                                                                · exact absurd c_391 (by decide)
                                        · exact absurd c_249 (by decide)
                        · exact absurd hP c_166
                      · exact absurd c_155 (by decide)
              · exact absurd c_96 (by decide)
            · have hd : v9 < 10 := by have := mt (nI_leI (a := 10) (b := v9) (by decide) (by omega)).mpr c_76; omega
              refine lv_iconst (v := 1) S.1 S.2.1 dL_areReadings_79 (by decide) ?_
              refine lv_goto (tgt := 84) S.1 S.2.1 dL_areReadings_80 (by decide) ?_
              refine lv_istore (lv' := [(8, _), (7, _), (6, _), (5, _), (4, _), (3, _), (2, _), (1, _), (0, _)]) S.1 S.2.1 dL_areReadings_84 hl (by decide) rfl (fun ls hl => ?_)
              refine lv_aload_n S.1 S.2.1 dL_areReadings_86 rfl (lv_at hl 8 rfl) ?_
              refine lv_iload S.1 S.2.1 dL_areReadings_87 (lv_at hl 4 rfl) ?_
              refine g_cVi S G hF hl 7 (hV 7 _ (by first | decide | (show _ < 1; omega))) (by decide) (c_X6_partsk l ids ad _ _ hV hW hlt) (cwV 1 S.2.2.2.2 gL_areReadings_X6_parts rfl rfl rfl (by decide +kernel) ⟨Nat.le_of_ble_eq_true rfl, Nat.le_of_ble_eq_true rfl⟩) rfl rfl (Nat.le_of_ble_eq_true rfl) dL_areReadings_89 ⟨by show _ ≤ 2480; omega, by show _ ≤ 19840; omega⟩ (fun r_89 u_89 H locs hp_89 G => ?_)
              obtain ⟨rfl, rfl⟩ := hp_89
              have G : gS D aC A s ids ad (gk _) H locs := G
              refine g_top b12 ?_
              refine lv_istore (lv' := [(9, _), (8, _), (7, _), (6, _), (5, _), (4, _), (3, _), (2, _), (1, _), (0, _)]) S.1 S.2.1 dL_areReadings_92 hl (by decide) rfl (fun ls hl => ?_)
              refine lv_iload S.1 S.2.1 dL_areReadings_94 (lv_at hl 4 rfl) ?_
              refine lv_if_ne (tgt := 104) S.1 S.2.1 dL_areReadings_96 (by decide) (fun c_96 => ?_) (fun c_96 => ?_)
              · refine lv_iload S.1 S.2.1 dL_areReadings_104 (lv_at hl 4 rfl) ?_
                refine lv_iconst (v := 1) S.1 S.2.1 dL_areReadings_106 (by decide) ?_
                refine lv_icmp_ne (tgt := 115) S.1 S.2.1 dL_areReadings_107 (by decide) (fun c_107 => ?_) (fun c_107 => ?_)
                · exact absurd c_107 (by decide)
                · refine lv_bipush (v := 63) S.1 S.2.1 dL_areReadings_110 (by decide) ?_
                  refine lv_goto (tgt := 139) S.1 S.2.1 dL_areReadings_112 (by decide) ?_
                  refine lv_istore (lv' := [(10, _), (9, _), (8, _), (7, _), (6, _), (5, _), (4, _), (3, _), (2, _), (1, _), (0, _)]) S.1 S.2.1 dL_areReadings_139 hl (by decide) rfl (fun ls hl => ?_)
                  refine lv_iload S.1 S.2.1 dL_areReadings_141 (lv_at hl 5 rfl) ?_
                  refine lv_if_lt (tgt := 323) S.1 S.2.1 dL_areReadings_143 (by decide) (fun c_143 => ?_) (fun c_143 => ?_)
                  · exact absurd c_143 (by decide)
                  · refine lv_iload S.1 S.2.1 dL_areReadings_146 (lv_at hl 5 rfl) ?_
                    refine lv_iconst (v := 4) S.1 S.2.1 dL_areReadings_148 (by decide) ?_
                    refine lv_icmp_gt (tgt := 323) S.1 S.2.1 dL_areReadings_149 (by decide) (fun c_149 => ?_) (fun c_149 => ?_)
                    · exact absurd c_149 (by decide)
                    · refine lv_iload S.1 S.2.1 dL_areReadings_152 (lv_at hl 5 rfl) ?_
                      refine lv_iconst (v := 4) S.1 S.2.1 dL_areReadings_154 (by decide) ?_
                      refine lv_icmp_ne (tgt := 162) S.1 S.2.1 dL_areReadings_155 (by decide) (fun c_155 => ?_) (fun c_155 => ?_)
                      · refine lv_iconst (v := 0) S.1 S.2.1 dL_areReadings_162 (by decide) ?_
                        refine lv_iload S.1 S.2.1 dL_areReadings_163 (lv_at hl 1 rfl) ?_
                        refine lv_iconst (v := 3) S.1 S.2.1 dL_areReadings_165 (by decide) ?_
                        refine lv_icmp_ge (tgt := 173) S.1 S.2.1 dL_areReadings_166 (by decide) (fun c_166 => ?_) (fun c_166 => ?_)
                        · refine lv_iconst (v := 0) S.1 S.2.1 dL_areReadings_173 (by decide) ?_
                          refine lv_icmp_ne (tgt := 323) S.1 S.2.1 dL_areReadings_174 (by decide) (fun c_174 => ?_) (fun c_174 => ?_)
                          · exact absurd c_174 (by decide)
                          · refine lv_iload S.1 S.2.1 dL_areReadings_177 (lv_at hl 1 rfl) ?_
                            refine lv_if_lt (tgt := 323) S.1 S.2.1 dL_areReadings_179 (by decide) (fun c_179 => ?_) (fun c_179 => ?_)
                            · exact absurd c_179 (nI_pos (by omega))
                            · refine lv_iload S.1 S.2.1 dL_areReadings_182 (lv_at hl 1 rfl) ?_
                              refine lv_iconst (v := 4) S.1 S.2.1 dL_areReadings_184 (by decide) ?_
                              refine lv_icmp_gt (tgt := 323) S.1 S.2.1 dL_areReadings_185 (by decide) (fun c_185 => ?_) (fun c_185 => ?_)
                              · exact absurd c_185 (not_gt (n := 4) (ixL.nI (by omega) (by decide)) (by decide))
                              · refine lv_iload S.1 S.2.1 dL_areReadings_188 (lv_at hl 4 rfl) ?_
                                refine lv_iconst (v := 2) S.1 S.2.1 dL_areReadings_190 (by decide) ?_
                                refine lv_icmp_ge (tgt := 210) S.1 S.2.1 dL_areReadings_191 (by decide) (fun c_191 => ?_) (fun c_191 => ?_)
                                · exact absurd ((nI_leI (a := 2) (b := st) (by decide) (by omega)).mp c_191) (by omega)
                                · have h2st := mt (nI_leI (a := 2) (b := st) (by decide) (by omega)).mpr c_191
                                  refine lv_iload S.1 S.2.1 dL_areReadings_194 (lv_at hl 5 rfl) ?_
                                  refine lv_iconst (v := 4) S.1 S.2.1 dL_areReadings_196 (by decide) ?_
                                  refine lv_icmp_ge (tgt := 323) S.1 S.2.1 dL_areReadings_197 (by decide) (fun c_197 => ?_) (fun c_197 => ?_)
                                  · exact absurd c_197 (by decide)
                                  · refine lv_iload S.1 S.2.1 dL_areReadings_200 (lv_at hl 5 rfl) ?_
                                    refine lv_iload S.1 S.2.1 dL_areReadings_202 (lv_at hl 4 rfl) ?_
                                    refine lv_icmp_lt (tgt := 323) S.1 S.2.1 dL_areReadings_204 (by decide) (fun c_204 => ?_) (fun c_204 => ?_)
                                    · exact absurd ((nI_ltI (a := 1) (b := st) (by decide) (by omega)).mp c_204) (by omega)
                                    · refine lv_goto (tgt := 217) S.1 S.2.1 dL_areReadings_207 (by decide) ?_
                                      refine lv_aload_n S.1 S.2.1 dL_areReadings_217 rfl (lv_at hl 10 rfl) ?_
                                      refine lv_iload S.1 S.2.1 dL_areReadings_218 (lv_at hl 6 rfl) ?_
                                      refine lv_iconst (v := 0) S.1 S.2.1 dL_areReadings_220 (by decide) ?_
                                      refine gx_cVi S G hF hl 7 (hV 7 _ (by first | decide | (show _ < 1; omega))) (by decide) (c_X6_textAt l hlf ids ad _ _ _ hV hW hI (fun _ => by rw [tN_nI (by omega)]; exact hvx)) (cwV 2 S.2.2.2.2 gL_areReadings_X6_textAt rfl rfl rfl (by decide +kernel) ⟨Nat.le_of_ble_eq_true rfl, Nat.le_of_ble_eq_true rfl⟩) rfl rfl (Nat.le_of_ble_eq_true rfl) dL_areReadings_221 ⟨by show _ ≤ 2480; omega, by show _ ≤ 19840; omega⟩ (fun _ _ _ _ _ _ hp _ _ _ _ => (xE_0 hp.1 (txT_0 hlt hn hn80 (by decide))).elim) (fun r_221 u_221 H locs hp_221 G => ?_)
                                      obtain ⟨-, rfl, rfl⟩ := hp_221
                                      have G : gS D aC A s ids ad (gk _) H locs := G
                                      refine g_top (show _ = 97 + nI s9 from by rw [tN_nI (by omega)]; exact t0) ?_
                                      refine lv_bipush (v := 97) S.1 S.2.1 dL_areReadings_224 (by decide) ?_
                                      refine lv_aload_n S.1 S.2.1 dL_areReadings_226 rfl (lv_at hl 9 rfl) ?_
                                      refine lv_iload S.1 S.2.1 dL_areReadings_227 (lv_at hl 6 rfl) ?_
                                      refine k_iald S G 20 h20 rfl rfl rfl rfl (show k < 64 by omega) dL_areReadings_229 ?_
                                      refine lv_bipush (v := 15) S.1 S.2.1 dL_areReadings_230 (by decide) ?_
                                      refine lv_iand S.1 S.2.1 dL_areReadings_232 ?_
                                      refine g_top (show _ = nI s9 from by rw [b14]; exact enc_s (by omega) (by omega) (by omega) (by omega)) ?_
                                      refine lv_iadd S.1 S.2.1 dL_areReadings_233 ?_
                                      refine lv_icmp_ne (tgt := 323) S.1 S.2.1 dL_areReadings_234 (by decide) (fun c_234 => ?_) (fun c_234 => ?_)
                                      · exact absurd rfl c_234
                                      · refine lv_aload_n S.1 S.2.1 dL_areReadings_237 rfl (lv_at hl 10 rfl) ?_
                                        refine lv_iload S.1 S.2.1 dL_areReadings_238 (lv_at hl 6 rfl) ?_
                                        refine lv_iconst (v := 1) S.1 S.2.1 dL_areReadings_240 (by decide) ?_
                                        refine gx_cVi S G hF hl 7 (hV 7 _ (by first | decide | (show _ < 1; omega))) (by decide) (c_X6_textAt l hlf ids ad _ _ _ hV hW hI (fun _ => by rw [tN_nI (by omega)]; exact hvx)) (cwV 2 S.2.2.2.2 gL_areReadings_X6_textAt rfl rfl rfl (by decide +kernel) ⟨Nat.le_of_ble_eq_true rfl, Nat.le_of_ble_eq_true rfl⟩) rfl rfl (Nat.le_of_ble_eq_true rfl) dL_areReadings_241 ⟨by show _ ≤ 2480; omega, by show _ ≤ 19840; omega⟩ (fun _ _ _ _ _ _ hp _ _ _ _ => (xE_0 hp.1 (txT_0 hlt hn hn80 (by decide))).elim) (fun r_241 u_241 H locs hp_241 G => ?_)
                                        obtain ⟨-, rfl, rfl⟩ := hp_241
                                        have G : gS D aC A s ids ad (gk _) H locs := G
                                        refine g_top (show _ = 48 + nI v9 from by rw [tN_nI (by omega)]; exact (t1 hd).1) ?_
                                        refine lv_bipush (v := 48) S.1 S.2.1 dL_areReadings_244 (by decide) ?_
                                        refine lv_iload S.1 S.2.1 dL_areReadings_246 (lv_at hl 2 rfl) ?_
                                        refine lv_iconst (v := 1) S.1 S.2.1 dL_areReadings_248 (by decide) ?_
                                        refine lv_icmp_ne (tgt := 257) S.1 S.2.1 dL_areReadings_249 (by decide) (fun c_249 => ?_) (fun c_249 => ?_)
                                        · exact absurd c_249 (by decide)
                                        · refine lv_iload S.1 S.2.1 dL_areReadings_252 (lv_at hl 3 rfl) ?_
                                          refine lv_goto (tgt := 262) S.1 S.2.1 dL_areReadings_254 (by decide) ?_
                                          refine lv_iadd S.1 S.2.1 dL_areReadings_262 ?_
                                          refine lv_icmp_ne (tgt := 323) S.1 S.2.1 dL_areReadings_263 (by decide) (fun c_263 => ?_) (fun c_263 => ?_)
                                          · exact absurd rfl c_263
                                          · refine lv_iload S.1 S.2.1 dL_areReadings_266 (lv_at hl 2 rfl) ?_
                                            refine lv_iconst (v := 1) S.1 S.2.1 dL_areReadings_268 (by decide) ?_
                                            refine lv_icmp_eq (tgt := 290) S.1 S.2.1 dL_areReadings_269 (by decide) (fun c_269 => ?_) (fun c_269 => ?_)
                                            · refine lv_aload_n S.1 S.2.1 dL_areReadings_290 rfl (lv_at hl 10 rfl) ?_
                                              refine lv_iload S.1 S.2.1 dL_areReadings_291 (lv_at hl 6 rfl) ?_
                                              refine lv_iload S.1 S.2.1 dL_areReadings_293 (lv_at hl 2 rfl) ?_
                                              refine lv_iconst (v := 1) S.1 S.2.1 dL_areReadings_295 (by decide) ?_
                                              refine lv_iadd S.1 S.2.1 dL_areReadings_296 ?_
                                              refine g_top (show _ = (2 : Int32) from by decide) ?_
                                              refine gx_cVi S G hF hl 7 (hV 7 _ (by first | decide | (show _ < 1; omega))) (by decide) (c_X6_textAt l hlf ids ad _ _ _ hV hW hI (fun _ => by rw [tN_nI (by omega)]; exact hvx)) (cwV 2 S.2.2.2.2 gL_areReadings_X6_textAt rfl rfl rfl (by decide +kernel) ⟨Nat.le_of_ble_eq_true rfl, Nat.le_of_ble_eq_true rfl⟩) rfl rfl (Nat.le_of_ble_eq_true rfl) dL_areReadings_297 ⟨by show _ ≤ 2480; omega, by show _ ≤ 19840; omega⟩ (fun _ _ _ _ _ _ hp _ _ _ _ => (xE_0 hp.1 (txT_0 hlt hn hn80 (by decide))).elim) (fun r_297 u_297 H locs hp_297 G => ?_)
                                              obtain ⟨-, rfl, rfl⟩ := hp_297
                                              have G : gS D aC A s ids ad (gk _) H locs := G
                                              refine g_top (show _ = (63 : Int32) from by rw [tN_nI (by omega)]; exact (t1 hd).2.1.trans e3s) ?_
                                              refine lv_iload S.1 S.2.1 dL_areReadings_300 (lv_at hl 0 rfl) ?_
                                              refine lv_icmp_ne (tgt := 323) S.1 S.2.1 dL_areReadings_302 (by decide) (fun c_302 => ?_) (fun c_302 => ?_)
                                              · exact absurd c_302 (by decide)
                                              · refine lv_aload_n S.1 S.2.1 dL_areReadings_305 rfl (lv_at hl 10 rfl) ?_
                                                refine lv_iload S.1 S.2.1 dL_areReadings_306 (lv_at hl 6 rfl) ?_
                                                refine lv_iload S.1 S.2.1 dL_areReadings_308 (lv_at hl 2 rfl) ?_
                                                refine lv_iconst (v := 2) S.1 S.2.1 dL_areReadings_310 (by decide) ?_
                                                refine lv_iadd S.1 S.2.1 dL_areReadings_311 ?_
                                                refine g_top (show _ = (3 : Int32) from by decide) ?_
                                                refine gx_cVi S G hF hl 7 (hV 7 _ (by first | decide | (show _ < 1; omega))) (by decide) (c_X6_textAt l hlf ids ad _ _ _ hV hW hI (fun _ => by rw [tN_nI (by omega)]; exact hvx)) (cwV 2 S.2.2.2.2 gL_areReadings_X6_textAt rfl rfl rfl (by decide +kernel) ⟨Nat.le_of_ble_eq_true rfl, Nat.le_of_ble_eq_true rfl⟩) rfl rfl (Nat.le_of_ble_eq_true rfl) dL_areReadings_312 ⟨by show _ ≤ 2480; omega, by show _ ≤ 19840; omega⟩ (fun _ _ _ _ _ _ hp _ _ _ _ => (xE_0 hp.1 (txT_0 hlt hn hn80 (by decide))).elim) (fun r_312 u_312 H locs hp_312 G => ?_)
                                                obtain ⟨-, rfl, rfl⟩ := hp_312
                                                have G : gS D aC A s ids ad (gk _) H locs := G
                                                refine g_top (show _ = (-1 : Int32) from by rw [tN_nI (by omega)]; exact (t1 hd).2.2) ?_
                                                refine lv_iconst (v := (-1)) S.1 S.2.1 dL_areReadings_315 (by decide) ?_
                                                refine lv_icmp_ne (tgt := 323) S.1 S.2.1 dL_areReadings_316 (by decide) (fun c_316 => ?_) (fun c_316 => ?_)
                                                · exact absurd c_316 (by decide)
                                                · refine lv_iconst (v := 1) S.1 S.2.1 dL_areReadings_319 (by decide) ?_
                                                  refine lv_goto (tgt := 324) S.1 S.2.1 dL_areReadings_320 (by decide) ?_
                                                  refine lv_istore_n (lv' := [(3, _), (10, _), (9, _), (8, _), (7, _), (6, _), (5, _), (4, _), (2, _), (1, _), (0, _)]) S.1 S.2.1 dL_areReadings_324 rfl hl (by decide) rfl (fun ls hl => ?_)
                                                  refine lv_aload_n S.1 S.2.1 dL_areReadings_325 rfl (lv_at hl 10 rfl) ?_
                                                  refine lv_iload S.1 S.2.1 dL_areReadings_326 (lv_at hl 7 rfl) ?_
                                                  refine g_cVi S G hF hl 7 (hV 7 _ (by first | decide | (show _ < 1; omega))) (by decide) (c_X6_usersk l ids ad _ _ hV hW hlt) (cwV 1 S.2.2.2.2 gL_areReadings_X6_users rfl rfl rfl (by decide +kernel) ⟨Nat.le_of_ble_eq_true rfl, Nat.le_of_ble_eq_true rfl⟩) rfl rfl (Nat.le_of_ble_eq_true rfl) dL_areReadings_328 ⟨by show _ ≤ 2480; omega, by show _ ≤ 19840; omega⟩ (fun r_328 u_328 H locs hp_328 G => ?_)
                                                  obtain ⟨rfl, rfl⟩ := hp_328
                                                  have G : gS D aC A s ids ad (gk _) H locs := G
                                                  refine g_top b13 ?_
                                                  refine lv_istore (lv' := [(11, _), (3, _), (10, _), (9, _), (8, _), (7, _), (6, _), (5, _), (4, _), (2, _), (1, _), (0, _)]) S.1 S.2.1 dL_areReadings_331 hl (by decide) rfl (fun ls hl => ?_)
                                                  refine lv_aload_n S.1 S.2.1 dL_areReadings_333 rfl (lv_at hl 11 rfl) ?_
                                                  refine lv_iload S.1 S.2.1 dL_areReadings_334 (lv_at hl 8 rfl) ?_
                                                  refine g_cVi S G hF hl 7 (hV 7 _ (by first | decide | (show _ < 1; omega))) (by decide) (c_X6_heldk l ids ad _ _ hV hW hlt) (cwV 1 S.2.2.2.2 gL_areReadings_X6_held rfl rfl rfl (by decide +kernel) ⟨Nat.le_of_ble_eq_true rfl, Nat.le_of_ble_eq_true rfl⟩) rfl rfl (Nat.le_of_ble_eq_true rfl) dL_areReadings_336 ⟨by show _ ≤ 2480; omega, by show _ ≤ 19840; omega⟩ (fun r_336 u_336 H locs hp_336 G => ?_)
                                                  obtain ⟨rfl, rfl⟩ := hp_336
                                                  have G : gS D aC A s ids ad (gk _) H locs := G
                                                  refine g_top c1 ?_
                                                  refine lv_istore (lv' := [(12, _), (11, _), (3, _), (10, _), (9, _), (8, _), (7, _), (6, _), (5, _), (4, _), (2, _), (1, _), (0, _)]) S.1 S.2.1 dL_areReadings_339 hl (by decide) rfl (fun ls hl => ?_)
                                                  refine lv_iload_n S.1 S.2.1 dL_areReadings_341 rfl (lv_at hl 2 rfl) ?_
                                                  refine lv_if_eq (tgt := 492) S.1 S.2.1 dL_areReadings_342 (by decide) (fun c_342 => ?_) (fun c_342 => ?_)
                                                  · exact absurd c_342 (by decide)
                                                  · refine lv_iload S.1 S.2.1 dL_areReadings_345 (lv_at hl 1 rfl) ?_
                                                    refine lv_if_lt (tgt := 492) S.1 S.2.1 dL_areReadings_347 (by decide) (fun c_347 => ?_) (fun c_347 => ?_)
                                                    · exact absurd c_347 (nI_pos (by omega))
                                                    · refine lv_iload S.1 S.2.1 dL_areReadings_350 (lv_at hl 1 rfl) ?_
                                                      refine lv_bipush (v := 6) S.1 S.2.1 dL_areReadings_352 (by decide) ?_
                                                      refine lv_icmp_gt (tgt := 492) S.1 S.2.1 dL_areReadings_354 (by decide) (fun c_354 => ?_) (fun c_354 => ?_)
                                                      · exact absurd c_354 (not_gt (n := 6) (ixL.nI (by omega) (by decide)) (by decide))
                                                      · refine lv_iload S.1 S.2.1 dL_areReadings_357 (lv_at hl 0 rfl) ?_
                                                        refine lv_bipush (v := 20) S.1 S.2.1 dL_areReadings_359 (by decide) ?_
                                                        refine lv_iload S.1 S.2.1 dL_areReadings_361 (lv_at hl 1 rfl) ?_
                                                        refine lv_imul S.1 S.2.1 dL_areReadings_363 ?_
                                                        refine g_top (pk_mul 20 U) ?_
                                                        refine lv_icmp_gt (tgt := 492) S.1 S.2.1 dL_areReadings_364 (by decide) (fun c_364 => ?_) (fun c_364 => ?_)
                                                        · exact absurd ((nI_ltI (by omega) (by omega)).mp c_364) (by omega)
                                                        · refine lv_iload S.1 S.2.1 dL_areReadings_367 (lv_at hl 8 rfl) ?_
                                                          refine lv_iconst (v := 2) S.1 S.2.1 dL_areReadings_369 (by decide) ?_
                                                          refine lv_icmp_ge (tgt := 383) S.1 S.2.1 dL_areReadings_370 (by decide) (fun c_370 => ?_) (fun c_370 => ?_)
                                                          · exact absurd c_370 (by decide)
                                                          · refine lv_iload S.1 S.2.1 dL_areReadings_373 (lv_at hl 0 rfl) ?_
                                                            refine lv_iload S.1 S.2.1 dL_areReadings_375 (lv_at hl 1 rfl) ?_
                                                            refine lv_icmp_lt (tgt := 492) S.1 S.2.1 dL_areReadings_377 (by decide) (fun c_377 => ?_) (fun c_377 => ?_)
                                                            · exact absurd ((nI_ltI (by omega) (by omega)).mp c_377) (by omega)
                                                            · refine lv_goto (tgt := 388) S.1 S.2.1 dL_areReadings_380 (by decide) ?_
                                                              refine lv_iload S.1 S.2.1 dL_areReadings_388 (lv_at hl 8 rfl) ?_
                                                              refine lv_iconst (v := 4) S.1 S.2.1 dL_areReadings_390 (by decide) ?_
                                                              refine lv_icmp_lt (tgt := 399) S.1 S.2.1 dL_areReadings_391 (by decide) (fun c_391 => ?_) (fun c_391 => ?_)
                                                              · refine lv_iload S.1 S.2.1 dL_areReadings_399 (lv_at hl 8 rfl) ?_
                                                                refine lv_iconst (v := 3) S.1 S.2.1 dL_areReadings_401 (by decide) ?_
                                                                refine lv_icmp_ne (tgt := 440) S.1 S.2.1 dL_areReadings_402 (by decide) (fun c_402 => ?_) (fun c_402 => ?_)
                                                                · refine lv_iload S.1 S.2.1 dL_areReadings_440 (lv_at hl 8 rfl) ?_
                                                                  refine lv_iconst (v := 2) S.1 S.2.1 dL_areReadings_442 (by decide) ?_
                                                                  refine lv_icmp_lt (tgt := 488) S.1 S.2.1 dL_areReadings_443 (by decide) (fun c_443 => ?_) (fun c_443 => ?_)
                                                                  · refine lv_iconst (v := 1) S.1 S.2.1 dL_areReadings_488 (by decide) ?_
                                                                    refine lv_goto (tgt := 493) S.1 S.2.1 dL_areReadings_489 (by decide) ?_
                                                                    refine lv_istore_n (lv' := [(3, _), (12, _), (11, _), (10, _), (9, _), (8, _), (7, _), (6, _), (5, _), (4, _), (2, _), (1, _), (0, _)]) S.1 S.2.1 dL_areReadings_493 rfl hl (by decide) rfl (fun ls hl => ?_)
                                                                    refine lv_iload_n S.1 S.2.1 dL_areReadings_494 rfl (lv_at hl 0 rfl) ?_
                                                                    refine lv_if_eq (tgt := 523) S.1 S.2.1 dL_areReadings_495 (by decide) (fun c_495 => ?_) (fun c_495 => ?_)
                                                                    · exact absurd c_495 (by decide)
                                                                    · refine lv_iload S.1 S.2.1 dL_areReadings_498 (lv_at hl 8 rfl) ?_
                                                                      refine lv_iconst (v := 1) S.1 S.2.1 dL_areReadings_500 (by decide) ?_
                                                                      refine lv_icmp_gt (tgt := 519) S.1 S.2.1 dL_areReadings_501 (by decide) (fun c_501 => ?_) (fun c_501 => ?_)
                                                                      · exact absurd c_501 (by decide)
                                                                      · refine lv_aload_n S.1 S.2.1 dL_areReadings_504 rfl (lv_at hl 10 rfl) ?_
                                                                        refine lv_iconst (v := 0) S.1 S.2.1 dL_areReadings_505 (by decide) ?_
                                                                        refine k_iald S G 21 h21 rfl rfl rfl rfl (show 0 < 2 by decide) dL_areReadings_506 ?_
                                                                        refine g_top (hc0.trans eT) ?_
                                                                        refine lv_aload_n S.1 S.2.1 dL_areReadings_507 rfl (lv_at hl 11 rfl) ?_
                                                                        refine lv_iload S.1 S.2.1 dL_areReadings_508 (lv_at hl 9 rfl) ?_
                                                                        refine k_iald S G 20 h20 rfl rfl rfl rfl (show k < 64 by omega) dL_areReadings_510 ?_
                                                                        refine lv_bipush (v := 14) S.1 S.2.1 dL_areReadings_511 (by decide) ?_
                                                                        refine lv_ishr S.1 S.2.1 dL_areReadings_513 ?_
                                                                        refine g_top (show _ = nI τ from by rw [b14]; exact enc_t (by omega) (by omega) (by omega) (by omega)) ?_
                                                                        refine lv_isub S.1 S.2.1 dL_areReadings_514 ?_
                                                                        refine lv_iconst (v := 5) S.1 S.2.1 dL_areReadings_515 (by decide) ?_
                                                                        refine lv_icmp_ge (tgt := 523) S.1 S.2.1 dL_areReadings_516 (by decide) (fun c_516 => ?_) (fun c_516 => ?_)
                                                                        · exact absurd ((sub_ge5 (by omega) (by omega)).mp c_516) (by omega)
                                                                        · refine lv_iconst (v := 1) S.1 S.2.1 dL_areReadings_519 (by decide) ?_
                                                                          refine lv_goto (tgt := 524) S.1 S.2.1 dL_areReadings_520 (by decide) ?_
                                                                          refine lv_istore_n (lv' := [(3, _), (12, _), (11, _), (10, _), (9, _), (8, _), (7, _), (6, _), (5, _), (4, _), (2, _), (1, _), (0, _)]) S.1 S.2.1 dL_areReadings_524 rfl hl (by decide) rfl (fun ls hl => ?_)
                                                                          refine lv_aload_n S.1 S.2.1 dL_areReadings_525 rfl (lv_at hl 11 rfl) ?_
                                                                          refine lv_iload S.1 S.2.1 dL_areReadings_526 (lv_at hl 9 rfl) ?_
                                                                          refine lv_aload_n S.1 S.2.1 dL_areReadings_528 rfl (lv_at hl 11 rfl) ?_
                                                                          refine lv_iload S.1 S.2.1 dL_areReadings_529 (lv_at hl 9 rfl) ?_
                                                                          refine k_iald S G 20 h20 rfl rfl rfl rfl (show k < 64 by omega) dL_areReadings_531 ?_
                                                                          refine lv_sipush (v := (-14337)) S.1 S.2.1 dL_areReadings_532 (by decide) ?_
                                                                          refine lv_iand S.1 S.2.1 dL_areReadings_535 ?_
                                                                          refine lv_iload S.1 S.2.1 dL_areReadings_536 (lv_at hl 8 rfl) ?_
                                                                          refine lv_bipush (v := 11) S.1 S.2.1 dL_areReadings_538 (by decide) ?_
                                                                          refine lv_ishl S.1 S.2.1 dL_areReadings_540 ?_
                                                                          refine lv_ior S.1 S.2.1 dL_areReadings_541 ?_
                                                                          refine g_top (show _ = nI (enc τ 1 v9 s9) from by rw [b14]; exact enc_set (S := 1) (by omega) (by omega) (by omega) (by omega) (by decide)) ?_
                                                                          refine k_iast S G 20 h20 rfl rfl rfl rfl (show k < 64 by omega) dL_areReadings_542 (fun H locs G => ?_)
                                                                          refine lv_iinc (k := 9) (lv' := [(4, _), (3, _), (12, _), (11, _), (10, _), (9, _), (8, _), (7, _), (6, _), (5, _), (2, _), (1, _), (0, _)]) S.1 S.2.1 dL_areReadings_543 hl rfl (g_inc _) (by decide) rfl (fun ls hl => ?_)
                                                                          refine lv_goto (tgt := 29) S.1 S.2.1 dL_areReadings_546 (by decide) ?_
                                                                          refine W.widen (k := 40 * (k + 1)) (n := 320 * (k + 1)) (by omega) (by omega) ?_
                                                                          exact ih_29 (k + 1, upd3 κ1 20 0 k (nI (enc τ 1 v9 s9))) H locs ls ⟨by show k + 1 ≤ nn; omega, J1.setv hlt b1 b2 (by decide) b9 b10 b11 b7 (fun z => (b16 z).1), hnk⟩ (by show nn - (k + 1) < nn - k; omega) G (lv_sub hl [0, 1, 10, 11, 12] rfl)
                                                                  · exact absurd c_443 (by decide)
                                                                · exact absurd c_402 (by decide)
                                                              · exact absurd c_391 (by decide)
                                            · exact absurd c_269 (by decide)
                        · exact absurd hP c_166
                      · exact absurd c_155 (by decide)
              · exact absurd c_96 (by decide)
          · refine lv_aload_n S.1 S.2.1 dL_areReadings_41 rfl (lv_at hl 4 rfl) ?_
            refine lv_iload S.1 S.2.1 dL_areReadings_42 (lv_at hl 0 rfl) ?_
            refine g_cVi S G hF hl 7 (hV 7 _ (by first | decide | (show _ < 1; omega))) (by decide) (c_X6_stateOfk l ids ad _ _ hV hW hlt) (cwV 1 S.2.2.2.2 gL_areReadings_X6_stateOf rfl rfl rfl (by decide +kernel) ⟨Nat.le_of_ble_eq_true rfl, Nat.le_of_ble_eq_true rfl⟩) rfl rfl (Nat.le_of_ble_eq_true rfl) dL_areReadings_44 ⟨by show _ ≤ 2480; omega, by show _ ≤ 19840; omega⟩ (fun r_44 u_44 H locs hp_44 G => ?_)
            obtain ⟨rfl, rfl⟩ := hp_44
            have G : gS D aC A s ids ad (gk _) H locs := G
            have hP :  (3 : Int32) ≤ nI P := (nI_leI (a := 3) (b := P) (by decide) (by omega)).mpr (by omega)
            have hst : st ≤ 2 ∧ st ≤ 2 := by omega
            refine g_top (show _ = (2 : Int32) from by exact b11) ?_
            refine lv_istore (lv' := [(5, _), (4, _), (3, _), (2, _), (1, _), (0, _)]) S.1 S.2.1 dL_areReadings_47 hl (by decide) rfl (fun ls hl => ?_)
            refine lv_aload_n S.1 S.2.1 dL_areReadings_49 rfl (lv_at hl 4 rfl) ?_
            refine lv_iload S.1 S.2.1 dL_areReadings_50 (lv_at hl 1 rfl) ?_
            refine k_iald S G 20 h20 rfl rfl rfl rfl (show k < 64 by omega) dL_areReadings_52 ?_
            refine lv_bipush (v := 11) S.1 S.2.1 dL_areReadings_53 (by decide) ?_
            refine lv_ishr S.1 S.2.1 dL_areReadings_55 ?_
            refine lv_bipush (v := 7) S.1 S.2.1 dL_areReadings_56 (by decide) ?_
            refine lv_iand S.1 S.2.1 dL_areReadings_58 ?_
            refine g_top (show _ = nI st from by rw [b14]; exact enc_st (by omega) (by omega) (by omega) (by omega)) ?_
            refine lv_istore (lv' := [(6, _), (5, _), (4, _), (3, _), (2, _), (1, _), (0, _)]) S.1 S.2.1 dL_areReadings_59 hl (by decide) rfl (fun ls hl => ?_)
            refine lv_aload_n S.1 S.2.1 dL_areReadings_61 rfl (lv_at hl 5 rfl) ?_
            refine lv_iload S.1 S.2.1 dL_areReadings_62 (lv_at hl 2 rfl) ?_
            refine k_iald S G 20 h20 rfl rfl rfl rfl (show k < 64 by omega) dL_areReadings_64 ?_
            refine lv_iconst (v := 4) S.1 S.2.1 dL_areReadings_65 (by decide) ?_
            refine lv_ishr S.1 S.2.1 dL_areReadings_66 ?_
            refine lv_bipush (v := 127) S.1 S.2.1 dL_areReadings_67 (by decide) ?_
            refine lv_iand S.1 S.2.1 dL_areReadings_69 ?_
            refine g_top (show _ = nI v9 from by rw [b14]; exact enc_v (by omega) (by omega) (by omega) (by omega)) ?_
            refine lv_istore (lv' := [(7, _), (6, _), (5, _), (4, _), (3, _), (2, _), (1, _), (0, _)]) S.1 S.2.1 dL_areReadings_70 hl (by decide) rfl (fun ls hl => ?_)
            refine lv_iload S.1 S.2.1 dL_areReadings_72 (lv_at hl 0 rfl) ?_
            refine lv_bipush (v := 10) S.1 S.2.1 dL_areReadings_74 (by decide) ?_
            refine lv_icmp_ge (tgt := 83) S.1 S.2.1 dL_areReadings_76 (by decide) (fun c_76 => ?_) (fun c_76 => ?_)
            · have hd : ¬ v9 < 10 := fun z => by have := (nI_leI (a := 10) (b := v9) (by decide) (by omega)).mp c_76; omega
              refine lv_iconst (v := 2) S.1 S.2.1 dL_areReadings_83 (by decide) ?_
              refine lv_istore (lv' := [(8, _), (7, _), (6, _), (5, _), (4, _), (3, _), (2, _), (1, _), (0, _)]) S.1 S.2.1 dL_areReadings_84 hl (by decide) rfl (fun ls hl => ?_)
              refine lv_aload_n S.1 S.2.1 dL_areReadings_86 rfl (lv_at hl 8 rfl) ?_
              refine lv_iload S.1 S.2.1 dL_areReadings_87 (lv_at hl 4 rfl) ?_
              refine g_cVi S G hF hl 7 (hV 7 _ (by first | decide | (show _ < 1; omega))) (by decide) (c_X6_partsk l ids ad _ _ hV hW hlt) (cwV 1 S.2.2.2.2 gL_areReadings_X6_parts rfl rfl rfl (by decide +kernel) ⟨Nat.le_of_ble_eq_true rfl, Nat.le_of_ble_eq_true rfl⟩) rfl rfl (Nat.le_of_ble_eq_true rfl) dL_areReadings_89 ⟨by show _ ≤ 2480; omega, by show _ ≤ 19840; omega⟩ (fun r_89 u_89 H locs hp_89 G => ?_)
              obtain ⟨rfl, rfl⟩ := hp_89
              have G : gS D aC A s ids ad (gk _) H locs := G
              refine g_top b12 ?_
              refine lv_istore (lv' := [(9, _), (8, _), (7, _), (6, _), (5, _), (4, _), (3, _), (2, _), (1, _), (0, _)]) S.1 S.2.1 dL_areReadings_92 hl (by decide) rfl (fun ls hl => ?_)
              refine lv_iload S.1 S.2.1 dL_areReadings_94 (lv_at hl 4 rfl) ?_
              refine lv_if_ne (tgt := 104) S.1 S.2.1 dL_areReadings_96 (by decide) (fun c_96 => ?_) (fun c_96 => ?_)
              · refine lv_iload S.1 S.2.1 dL_areReadings_104 (lv_at hl 4 rfl) ?_
                refine lv_iconst (v := 1) S.1 S.2.1 dL_areReadings_106 (by decide) ?_
                refine lv_icmp_ne (tgt := 115) S.1 S.2.1 dL_areReadings_107 (by decide) (fun c_107 => ?_) (fun c_107 => ?_)
                · refine lv_iload S.1 S.2.1 dL_areReadings_115 (lv_at hl 4 rfl) ?_
                  refine lv_iconst (v := 2) S.1 S.2.1 dL_areReadings_117 (by decide) ?_
                  refine lv_icmp_ne (tgt := 126) S.1 S.2.1 dL_areReadings_118 (by decide) (fun c_118 => ?_) (fun c_118 => ?_)
                  · exact absurd c_118 (by decide)
                  · refine lv_bipush (v := 43) S.1 S.2.1 dL_areReadings_121 (by decide) ?_
                    refine lv_goto (tgt := 139) S.1 S.2.1 dL_areReadings_123 (by decide) ?_
                    refine lv_istore (lv' := [(10, _), (9, _), (8, _), (7, _), (6, _), (5, _), (4, _), (3, _), (2, _), (1, _), (0, _)]) S.1 S.2.1 dL_areReadings_139 hl (by decide) rfl (fun ls hl => ?_)
                    refine lv_iload S.1 S.2.1 dL_areReadings_141 (lv_at hl 5 rfl) ?_
                    refine lv_if_lt (tgt := 323) S.1 S.2.1 dL_areReadings_143 (by decide) (fun c_143 => ?_) (fun c_143 => ?_)
                    · exact absurd c_143 (by decide)
                    · refine lv_iload S.1 S.2.1 dL_areReadings_146 (lv_at hl 5 rfl) ?_
                      refine lv_iconst (v := 4) S.1 S.2.1 dL_areReadings_148 (by decide) ?_
                      refine lv_icmp_gt (tgt := 323) S.1 S.2.1 dL_areReadings_149 (by decide) (fun c_149 => ?_) (fun c_149 => ?_)
                      · exact absurd c_149 (by decide)
                      · refine lv_iload S.1 S.2.1 dL_areReadings_152 (lv_at hl 5 rfl) ?_
                        refine lv_iconst (v := 4) S.1 S.2.1 dL_areReadings_154 (by decide) ?_
                        refine lv_icmp_ne (tgt := 162) S.1 S.2.1 dL_areReadings_155 (by decide) (fun c_155 => ?_) (fun c_155 => ?_)
                        · refine lv_iconst (v := 0) S.1 S.2.1 dL_areReadings_162 (by decide) ?_
                          refine lv_iload S.1 S.2.1 dL_areReadings_163 (lv_at hl 1 rfl) ?_
                          refine lv_iconst (v := 3) S.1 S.2.1 dL_areReadings_165 (by decide) ?_
                          refine lv_icmp_ge (tgt := 173) S.1 S.2.1 dL_areReadings_166 (by decide) (fun c_166 => ?_) (fun c_166 => ?_)
                          · refine lv_iconst (v := 0) S.1 S.2.1 dL_areReadings_173 (by decide) ?_
                            refine lv_icmp_ne (tgt := 323) S.1 S.2.1 dL_areReadings_174 (by decide) (fun c_174 => ?_) (fun c_174 => ?_)
                            · exact absurd c_174 (by decide)
                            · refine lv_iload S.1 S.2.1 dL_areReadings_177 (lv_at hl 1 rfl) ?_
                              refine lv_if_lt (tgt := 323) S.1 S.2.1 dL_areReadings_179 (by decide) (fun c_179 => ?_) (fun c_179 => ?_)
                              · exact absurd c_179 (nI_pos (by omega))
                              · refine lv_iload S.1 S.2.1 dL_areReadings_182 (lv_at hl 1 rfl) ?_
                                refine lv_iconst (v := 4) S.1 S.2.1 dL_areReadings_184 (by decide) ?_
                                refine lv_icmp_gt (tgt := 323) S.1 S.2.1 dL_areReadings_185 (by decide) (fun c_185 => ?_) (fun c_185 => ?_)
                                · exact absurd c_185 (not_gt (n := 4) (ixL.nI (by omega) (by decide)) (by decide))
                                · refine g_cs (k := 40 * k) (n := 320 * k) (by omega) (by omega) ?_
                                  refine jn2 (X := W p l e (headSpec wsL_areReadings ({ frames := 8, cells := 2480, slots := 19840, locals := 135 } : Room)).room s m ([.ref (ad 7 0), .ref (ad 20 0), .ref (ad 21 0)] : List Value).toArray below meth c H locs (40 * k) (320 * k) (MQ below (va_Qi (fun q u => q = 1 ∧ ∃ κ', u = (ids, ad, gk κ') ∧ PL N B ids κ') (gE D aC A) A) ([.ref (ad 7 0), .ref (ad 20 0), .ref (ad 21 0)] : List Value).toArray s 2480 19840 A) (F0 m 217 ls [])) (fun K217 => ?_) ?_
                                  · refine lv_iload S.1 S.2.1 dL_areReadings_188 (lv_at hl 4 rfl) ?_
                                    refine lv_iconst (v := 2) S.1 S.2.1 dL_areReadings_190 (by decide) ?_
                                    refine lv_icmp_ge (tgt := 210) S.1 S.2.1 dL_areReadings_191 (by decide) (fun c_191 => ?_) (fun c_191 => ?_)
                                    · have h2st := (nI_leI (a := 2) (b := st) (by decide) (by omega)).mp c_191
                                      refine lv_iload S.1 S.2.1 dL_areReadings_210 (lv_at hl 5 rfl) ?_
                                      refine lv_iload S.1 S.2.1 dL_areReadings_212 (lv_at hl 4 rfl) ?_
                                      refine lv_icmp_ne (tgt := 323) S.1 S.2.1 dL_areReadings_214 (by decide) (fun c_214 => ?_) (fun c_214 => ?_)
                                      · exact absurd (nI_imp (show 2 = st by omega)) c_214
                                      · refine g_cs (k := 40 * k) (n := 320 * k) (by omega) (by omega) ?_
                                        exact K217
                                    · have h2st := mt (nI_leI (a := 2) (b := st) (by decide) (by omega)).mpr c_191
                                      refine lv_iload S.1 S.2.1 dL_areReadings_194 (lv_at hl 5 rfl) ?_
                                      refine lv_iconst (v := 4) S.1 S.2.1 dL_areReadings_196 (by decide) ?_
                                      refine lv_icmp_ge (tgt := 323) S.1 S.2.1 dL_areReadings_197 (by decide) (fun c_197 => ?_) (fun c_197 => ?_)
                                      · exact absurd c_197 (by decide)
                                      · refine lv_iload S.1 S.2.1 dL_areReadings_200 (lv_at hl 5 rfl) ?_
                                        refine lv_iload S.1 S.2.1 dL_areReadings_202 (lv_at hl 4 rfl) ?_
                                        refine lv_icmp_lt (tgt := 323) S.1 S.2.1 dL_areReadings_204 (by decide) (fun c_204 => ?_) (fun c_204 => ?_)
                                        · exact absurd ((nI_ltI (a := 2) (b := st) (by decide) (by omega)).mp c_204) (by omega)
                                        · refine lv_goto (tgt := 217) S.1 S.2.1 dL_areReadings_207 (by decide) ?_
                                          refine g_cs (k := 40 * k) (n := 320 * k) (by omega) (by omega) ?_
                                          exact K217
                                  · refine lv_aload_n S.1 S.2.1 dL_areReadings_217 rfl (lv_at hl 10 rfl) ?_
                                    refine lv_iload S.1 S.2.1 dL_areReadings_218 (lv_at hl 6 rfl) ?_
                                    refine lv_iconst (v := 0) S.1 S.2.1 dL_areReadings_220 (by decide) ?_
                                    refine gx_cVi S G hF hl 7 (hV 7 _ (by first | decide | (show _ < 1; omega))) (by decide) (c_X6_textAt l hlf ids ad _ _ _ hV hW hI (fun _ => by rw [tN_nI (by omega)]; exact hvx)) (cwV 2 S.2.2.2.2 gL_areReadings_X6_textAt rfl rfl rfl (by decide +kernel) ⟨Nat.le_of_ble_eq_true rfl, Nat.le_of_ble_eq_true rfl⟩) rfl rfl (Nat.le_of_ble_eq_true rfl) dL_areReadings_221 ⟨by show _ ≤ 2480; omega, by show _ ≤ 19840; omega⟩ (fun _ _ _ _ _ _ hp _ _ _ _ => (xE_0 hp.1 (txT_0 hlt hn hn80 (by decide))).elim) (fun r_221 u_221 H locs hp_221 G => ?_)
                                    obtain ⟨-, rfl, rfl⟩ := hp_221
                                    have G : gS D aC A s ids ad (gk _) H locs := G
                                    refine g_top (show _ = 97 + nI s9 from by rw [tN_nI (by omega)]; exact t0) ?_
                                    refine lv_bipush (v := 97) S.1 S.2.1 dL_areReadings_224 (by decide) ?_
                                    refine lv_aload_n S.1 S.2.1 dL_areReadings_226 rfl (lv_at hl 9 rfl) ?_
                                    refine lv_iload S.1 S.2.1 dL_areReadings_227 (lv_at hl 6 rfl) ?_
                                    refine k_iald S G 20 h20 rfl rfl rfl rfl (show k < 64 by omega) dL_areReadings_229 ?_
                                    refine lv_bipush (v := 15) S.1 S.2.1 dL_areReadings_230 (by decide) ?_
                                    refine lv_iand S.1 S.2.1 dL_areReadings_232 ?_
                                    refine g_top (show _ = nI s9 from by rw [b14]; exact enc_s (by omega) (by omega) (by omega) (by omega)) ?_
                                    refine lv_iadd S.1 S.2.1 dL_areReadings_233 ?_
                                    refine lv_icmp_ne (tgt := 323) S.1 S.2.1 dL_areReadings_234 (by decide) (fun c_234 => ?_) (fun c_234 => ?_)
                                    · exact absurd rfl c_234
                                    · refine lv_aload_n S.1 S.2.1 dL_areReadings_237 rfl (lv_at hl 10 rfl) ?_
                                      refine lv_iload S.1 S.2.1 dL_areReadings_238 (lv_at hl 6 rfl) ?_
                                      refine lv_iconst (v := 1) S.1 S.2.1 dL_areReadings_240 (by decide) ?_
                                      refine gx_cVi S G hF hl 7 (hV 7 _ (by first | decide | (show _ < 1; omega))) (by decide) (c_X6_textAt l hlf ids ad _ _ _ hV hW hI (fun _ => by rw [tN_nI (by omega)]; exact hvx)) (cwV 2 S.2.2.2.2 gL_areReadings_X6_textAt rfl rfl rfl (by decide +kernel) ⟨Nat.le_of_ble_eq_true rfl, Nat.le_of_ble_eq_true rfl⟩) rfl rfl (Nat.le_of_ble_eq_true rfl) dL_areReadings_241 ⟨by show _ ≤ 2480; omega, by show _ ≤ 19840; omega⟩ (fun _ _ _ _ _ _ hp _ _ _ _ => (xE_0 hp.1 (txT_0 hlt hn hn80 (by decide))).elim) (fun r_241 u_241 H locs hp_241 G => ?_)
                                      obtain ⟨-, rfl, rfl⟩ := hp_241
                                      have G : gS D aC A s ids ad (gk _) H locs := G
                                      refine g_top (show _ = 48 + nI v9 / 10 from by rw [tN_nI (by omega)]; exact (t2 hd).1) ?_
                                      refine lv_bipush (v := 48) S.1 S.2.1 dL_areReadings_244 (by decide) ?_
                                      refine lv_iload S.1 S.2.1 dL_areReadings_246 (lv_at hl 2 rfl) ?_
                                      refine lv_iconst (v := 1) S.1 S.2.1 dL_areReadings_248 (by decide) ?_
                                      refine lv_icmp_ne (tgt := 257) S.1 S.2.1 dL_areReadings_249 (by decide) (fun c_249 => ?_) (fun c_249 => ?_)
                                      · refine lv_iload S.1 S.2.1 dL_areReadings_257 (lv_at hl 3 rfl) ?_
                                        refine lv_bipush (v := 10) S.1 S.2.1 dL_areReadings_259 (by decide) ?_
                                        refine lv_idiv S.1 S.2.1 dL_areReadings_261 (by decide) ?_
                                        refine lv_iadd S.1 S.2.1 dL_areReadings_262 ?_
                                        refine lv_icmp_ne (tgt := 323) S.1 S.2.1 dL_areReadings_263 (by decide) (fun c_263 => ?_) (fun c_263 => ?_)
                                        · exact absurd rfl c_263
                                        · refine lv_iload S.1 S.2.1 dL_areReadings_266 (lv_at hl 2 rfl) ?_
                                          refine lv_iconst (v := 1) S.1 S.2.1 dL_areReadings_268 (by decide) ?_
                                          refine lv_icmp_eq (tgt := 290) S.1 S.2.1 dL_areReadings_269 (by decide) (fun c_269 => ?_) (fun c_269 => ?_)
                                          · exact absurd c_269 (by decide)
                                          · refine lv_aload_n S.1 S.2.1 dL_areReadings_272 rfl (lv_at hl 10 rfl) ?_
                                            refine lv_iload S.1 S.2.1 dL_areReadings_273 (lv_at hl 6 rfl) ?_
                                            refine lv_iconst (v := 2) S.1 S.2.1 dL_areReadings_275 (by decide) ?_
                                            refine gx_cVi S G hF hl 7 (hV 7 _ (by first | decide | (show _ < 1; omega))) (by decide) (c_X6_textAt l hlf ids ad _ _ _ hV hW hI (fun _ => by rw [tN_nI (by omega)]; exact hvx)) (cwV 2 S.2.2.2.2 gL_areReadings_X6_textAt rfl rfl rfl (by decide +kernel) ⟨Nat.le_of_ble_eq_true rfl, Nat.le_of_ble_eq_true rfl⟩) rfl rfl (Nat.le_of_ble_eq_true rfl) dL_areReadings_276 ⟨by show _ ≤ 2480; omega, by show _ ≤ 19840; omega⟩ (fun _ _ _ _ _ _ hp _ _ _ _ => (xE_0 hp.1 (txT_0 hlt hn hn80 (by decide))).elim) (fun r_276 u_276 H locs hp_276 G => ?_)
                                            obtain ⟨-, rfl, rfl⟩ := hp_276
                                            have G : gS D aC A s ids ad (gk _) H locs := G
                                            refine g_top (show _ = 48 + (nI v9 - nI v9 / 10 * 10) from by rw [tN_nI (by omega)]; exact (t2 hd).2.1) ?_
                                            refine lv_bipush (v := 48) S.1 S.2.1 dL_areReadings_279 (by decide) ?_
                                            refine lv_iload S.1 S.2.1 dL_areReadings_281 (lv_at hl 3 rfl) ?_
                                            refine lv_bipush (v := 10) S.1 S.2.1 dL_areReadings_283 (by decide) ?_
                                            refine lv_irem S.1 S.2.1 dL_areReadings_285 (by decide) ?_
                                            refine lv_iadd S.1 S.2.1 dL_areReadings_286 ?_
                                            refine lv_icmp_ne (tgt := 323) S.1 S.2.1 dL_areReadings_287 (by decide) (fun c_287 => ?_) (fun c_287 => ?_)
                                            · exact absurd rfl c_287
                                            · refine lv_aload_n S.1 S.2.1 dL_areReadings_290 rfl (lv_at hl 10 rfl) ?_
                                              refine lv_iload S.1 S.2.1 dL_areReadings_291 (lv_at hl 6 rfl) ?_
                                              refine lv_iload S.1 S.2.1 dL_areReadings_293 (lv_at hl 2 rfl) ?_
                                              refine lv_iconst (v := 1) S.1 S.2.1 dL_areReadings_295 (by decide) ?_
                                              refine lv_iadd S.1 S.2.1 dL_areReadings_296 ?_
                                              refine g_top (show _ = (3 : Int32) from by decide) ?_
                                              refine gx_cVi S G hF hl 7 (hV 7 _ (by first | decide | (show _ < 1; omega))) (by decide) (c_X6_textAt l hlf ids ad _ _ _ hV hW hI (fun _ => by rw [tN_nI (by omega)]; exact hvx)) (cwV 2 S.2.2.2.2 gL_areReadings_X6_textAt rfl rfl rfl (by decide +kernel) ⟨Nat.le_of_ble_eq_true rfl, Nat.le_of_ble_eq_true rfl⟩) rfl rfl (Nat.le_of_ble_eq_true rfl) dL_areReadings_297 ⟨by show _ ≤ 2480; omega, by show _ ≤ 19840; omega⟩ (fun _ _ _ _ _ _ hp _ _ _ _ => (xE_0 hp.1 (txT_0 hlt hn hn80 (by decide))).elim) (fun r_297 u_297 H locs hp_297 G => ?_)
                                              obtain ⟨-, rfl, rfl⟩ := hp_297
                                              have G : gS D aC A s ids ad (gk _) H locs := G
                                              refine g_top (show _ = (43 : Int32) from by rw [tN_nI (by omega)]; exact (t2 hd).2.2.1.trans e3s) ?_
                                              refine lv_iload S.1 S.2.1 dL_areReadings_300 (lv_at hl 0 rfl) ?_
                                              refine lv_icmp_ne (tgt := 323) S.1 S.2.1 dL_areReadings_302 (by decide) (fun c_302 => ?_) (fun c_302 => ?_)
                                              · exact absurd c_302 (by decide)
                                              · refine lv_aload_n S.1 S.2.1 dL_areReadings_305 rfl (lv_at hl 10 rfl) ?_
                                                refine lv_iload S.1 S.2.1 dL_areReadings_306 (lv_at hl 6 rfl) ?_
                                                refine lv_iload S.1 S.2.1 dL_areReadings_308 (lv_at hl 2 rfl) ?_
                                                refine lv_iconst (v := 2) S.1 S.2.1 dL_areReadings_310 (by decide) ?_
                                                refine lv_iadd S.1 S.2.1 dL_areReadings_311 ?_
                                                refine g_top (show _ = (4 : Int32) from by decide) ?_
                                                refine gx_cVi S G hF hl 7 (hV 7 _ (by first | decide | (show _ < 1; omega))) (by decide) (c_X6_textAt l hlf ids ad _ _ _ hV hW hI (fun _ => by rw [tN_nI (by omega)]; exact hvx)) (cwV 2 S.2.2.2.2 gL_areReadings_X6_textAt rfl rfl rfl (by decide +kernel) ⟨Nat.le_of_ble_eq_true rfl, Nat.le_of_ble_eq_true rfl⟩) rfl rfl (Nat.le_of_ble_eq_true rfl) dL_areReadings_312 ⟨by show _ ≤ 2480; omega, by show _ ≤ 19840; omega⟩ (fun _ _ _ _ _ _ hp _ _ _ _ => (xE_0 hp.1 (txT_0 hlt hn hn80 (by decide))).elim) (fun r_312 u_312 H locs hp_312 G => ?_)
                                                obtain ⟨-, rfl, rfl⟩ := hp_312
                                                have G : gS D aC A s ids ad (gk _) H locs := G
                                                refine g_top (show _ = (-1 : Int32) from by rw [tN_nI (by omega)]; exact (t2 hd).2.2.2) ?_
                                                refine lv_iconst (v := (-1)) S.1 S.2.1 dL_areReadings_315 (by decide) ?_
                                                refine lv_icmp_ne (tgt := 323) S.1 S.2.1 dL_areReadings_316 (by decide) (fun c_316 => ?_) (fun c_316 => ?_)
                                                · exact absurd c_316 (by decide)
                                                · refine lv_iconst (v := 1) S.1 S.2.1 dL_areReadings_319 (by decide) ?_
                                                  refine lv_goto (tgt := 324) S.1 S.2.1 dL_areReadings_320 (by decide) ?_
                                                  refine lv_istore_n (lv' := [(3, _), (10, _), (9, _), (8, _), (7, _), (6, _), (5, _), (4, _), (2, _), (1, _), (0, _)]) S.1 S.2.1 dL_areReadings_324 rfl hl (by decide) rfl (fun ls hl => ?_)
                                                  refine lv_aload_n S.1 S.2.1 dL_areReadings_325 rfl (lv_at hl 10 rfl) ?_
                                                  refine lv_iload S.1 S.2.1 dL_areReadings_326 (lv_at hl 7 rfl) ?_
                                                  refine g_cVi S G hF hl 7 (hV 7 _ (by first | decide | (show _ < 1; omega))) (by decide) (c_X6_usersk l ids ad _ _ hV hW hlt) (cwV 1 S.2.2.2.2 gL_areReadings_X6_users rfl rfl rfl (by decide +kernel) ⟨Nat.le_of_ble_eq_true rfl, Nat.le_of_ble_eq_true rfl⟩) rfl rfl (Nat.le_of_ble_eq_true rfl) dL_areReadings_328 ⟨by show _ ≤ 2480; omega, by show _ ≤ 19840; omega⟩ (fun r_328 u_328 H locs hp_328 G => ?_)
                                                  obtain ⟨rfl, rfl⟩ := hp_328
                                                  have G : gS D aC A s ids ad (gk _) H locs := G
                                                  refine g_top b13 ?_
                                                  refine lv_istore (lv' := [(11, _), (3, _), (10, _), (9, _), (8, _), (7, _), (6, _), (5, _), (4, _), (2, _), (1, _), (0, _)]) S.1 S.2.1 dL_areReadings_331 hl (by decide) rfl (fun ls hl => ?_)
                                                  refine lv_aload_n S.1 S.2.1 dL_areReadings_333 rfl (lv_at hl 11 rfl) ?_
                                                  refine lv_iload S.1 S.2.1 dL_areReadings_334 (lv_at hl 8 rfl) ?_
                                                  refine g_cVi S G hF hl 7 (hV 7 _ (by first | decide | (show _ < 1; omega))) (by decide) (c_X6_heldk l ids ad _ _ hV hW hlt) (cwV 1 S.2.2.2.2 gL_areReadings_X6_held rfl rfl rfl (by decide +kernel) ⟨Nat.le_of_ble_eq_true rfl, Nat.le_of_ble_eq_true rfl⟩) rfl rfl (Nat.le_of_ble_eq_true rfl) dL_areReadings_336 ⟨by show _ ≤ 2480; omega, by show _ ≤ 19840; omega⟩ (fun r_336 u_336 H locs hp_336 G => ?_)
                                                  obtain ⟨rfl, rfl⟩ := hp_336
                                                  have G : gS D aC A s ids ad (gk _) H locs := G
                                                  refine g_top c1 ?_
                                                  refine lv_istore (lv' := [(12, _), (11, _), (3, _), (10, _), (9, _), (8, _), (7, _), (6, _), (5, _), (4, _), (2, _), (1, _), (0, _)]) S.1 S.2.1 dL_areReadings_339 hl (by decide) rfl (fun ls hl => ?_)
                                                  refine lv_iload_n S.1 S.2.1 dL_areReadings_341 rfl (lv_at hl 2 rfl) ?_
                                                  refine lv_if_eq (tgt := 492) S.1 S.2.1 dL_areReadings_342 (by decide) (fun c_342 => ?_) (fun c_342 => ?_)
                                                  · exact absurd c_342 (by decide)
                                                  · refine lv_iload S.1 S.2.1 dL_areReadings_345 (lv_at hl 1 rfl) ?_
                                                    refine lv_if_lt (tgt := 492) S.1 S.2.1 dL_areReadings_347 (by decide) (fun c_347 => ?_) (fun c_347 => ?_)
                                                    · exact absurd c_347 (nI_pos (by omega))
                                                    · refine lv_iload S.1 S.2.1 dL_areReadings_350 (lv_at hl 1 rfl) ?_
                                                      refine lv_bipush (v := 6) S.1 S.2.1 dL_areReadings_352 (by decide) ?_
                                                      refine lv_icmp_gt (tgt := 492) S.1 S.2.1 dL_areReadings_354 (by decide) (fun c_354 => ?_) (fun c_354 => ?_)
                                                      · exact absurd c_354 (not_gt (n := 6) (ixL.nI (by omega) (by decide)) (by decide))
                                                      · refine lv_iload S.1 S.2.1 dL_areReadings_357 (lv_at hl 0 rfl) ?_
                                                        refine lv_bipush (v := 20) S.1 S.2.1 dL_areReadings_359 (by decide) ?_
                                                        refine lv_iload S.1 S.2.1 dL_areReadings_361 (lv_at hl 1 rfl) ?_
                                                        refine lv_imul S.1 S.2.1 dL_areReadings_363 ?_
                                                        refine g_top (pk_mul 20 U) ?_
                                                        refine lv_icmp_gt (tgt := 492) S.1 S.2.1 dL_areReadings_364 (by decide) (fun c_364 => ?_) (fun c_364 => ?_)
                                                        · exact absurd ((nI_ltI (by omega) (by omega)).mp c_364) (by omega)
                                                        · refine lv_iload S.1 S.2.1 dL_areReadings_367 (lv_at hl 8 rfl) ?_
                                                          refine lv_iconst (v := 2) S.1 S.2.1 dL_areReadings_369 (by decide) ?_
                                                          refine lv_icmp_ge (tgt := 383) S.1 S.2.1 dL_areReadings_370 (by decide) (fun c_370 => ?_) (fun c_370 => ?_)
                                                          · refine lv_iload S.1 S.2.1 dL_areReadings_383 (lv_at hl 0 rfl) ?_
                                                            refine lv_if_ne (tgt := 492) S.1 S.2.1 dL_areReadings_385 (by decide) (fun c_385 => ?_) (fun c_385 => ?_)
                                                            · exact absurd (nI_imp (show Hd = 0 by omega)) c_385
                                                            · refine lv_iload S.1 S.2.1 dL_areReadings_388 (lv_at hl 8 rfl) ?_
                                                              refine lv_iconst (v := 4) S.1 S.2.1 dL_areReadings_390 (by decide) ?_
                                                              refine lv_icmp_lt (tgt := 399) S.1 S.2.1 dL_areReadings_391 (by decide) (fun c_391 => ?_) (fun c_391 => ?_)
                                                              · refine lv_iload S.1 S.2.1 dL_areReadings_399 (lv_at hl 8 rfl) ?_
                                                                refine lv_iconst (v := 3) S.1 S.2.1 dL_areReadings_401 (by decide) ?_
                                                                refine lv_icmp_ne (tgt := 440) S.1 S.2.1 dL_areReadings_402 (by decide) (fun c_402 => ?_) (fun c_402 => ?_)
                                                                · refine lv_iload S.1 S.2.1 dL_areReadings_440 (lv_at hl 8 rfl) ?_
                                                                  refine lv_iconst (v := 2) S.1 S.2.1 dL_areReadings_442 (by decide) ?_
                                                                  refine lv_icmp_lt (tgt := 488) S.1 S.2.1 dL_areReadings_443 (by decide) (fun c_443 => ?_) (fun c_443 => ?_)
                                                                  · exact absurd c_443 (by decide)
                                                                  · refine lv_iload S.1 S.2.1 dL_areReadings_446 (lv_at hl 8 rfl) ?_
                                                                    refine lv_iconst (v := 3) S.1 S.2.1 dL_areReadings_448 (by decide) ?_
                                                                    refine lv_icmp_eq (tgt := 488) S.1 S.2.1 dL_areReadings_449 (by decide) (fun c_449 => ?_) (fun c_449 => ?_)
                                                                    · exact absurd c_449 (by decide)
                                                                    · refine g_cs (k := 40 * k + 40) (n := 320 * k + 320) (by omega) (by omega) ?_
                                                                      refine jnH (X := fun H locs => W p l e (headSpec wsL_areReadings ({ frames := 8, cells := 2480, slots := 19840, locals := 135 } : Room)).room s m ([.ref (ad 7 0), .ref (ad 20 0), .ref (ad 21 0)] : List Value).toArray below meth c H locs (40 * k + 40) (320 * k + 320) (MQ below (va_Qi (fun q u => q = 1 ∧ ∃ κ', u = (ids, ad, gk κ') ∧ PL N B ids κ') (gE D aC A) A) ([.ref (ad 7 0), .ref (ad 20 0), .ref (ad 21 0)] : List Value).toArray s 2480 19840 A) (F0 m 488 ls [])) (fun H locs => gS D aC A s ids ad (gk κ1) H locs) (fun K488 => ?_) (fun H locs G => ?_)
                                                                      · refine lv_aload_n S.1 S.2.1 dL_areReadings_452 rfl (lv_at hl 12 rfl) ?_
                                                                        refine lv_iload S.1 S.2.1 dL_areReadings_453 (lv_at hl 9 rfl) ?_
                                                                        refine g_cVi S G hF hl 7 (hV 7 _ (by first | decide | (show _ < 1; omega))) (by decide) (c_X6_middlek l ids ad _ _ hV hW hlt) (cwV 1 S.2.2.2.2 gL_areReadings_X6_middle rfl rfl rfl (by decide +kernel) ⟨Nat.le_of_ble_eq_true rfl, Nat.le_of_ble_eq_true rfl⟩) rfl rfl (Nat.le_of_ble_eq_true rfl) dL_areReadings_455 ⟨by show _ ≤ 2480; omega, by show _ ≤ 19840; omega⟩ (fun r_455 u_455 H locs hp_455 G => ?_)
                                                                        obtain ⟨rfl, rfl⟩ := hp_455
                                                                        have G : gS D aC A s ids ad (gk _) H locs := G
                                                                        refine lv_iconst (v := (-1)) S.1 S.2.1 dL_areReadings_458 (by decide) ?_
                                                                        refine lv_icmp_eq (tgt := 488) S.1 S.2.1 dL_areReadings_459 (by decide) (fun c_459 => ?_) (fun c_459 => ?_)
                                                                        · refine g_cs (k := 40 * k + 40) (n := 320 * k + 320) (by omega) (by omega) ?_
                                                                          exact K488 _ _ G
                                                                        · have hM9 : sMidA κ1 k = nI M := m2.resolve_left c_459
                                                                          have hm23 := (m3 rfl).resolve_left c_459
                                                                          refine lv_aload_n S.1 S.2.1 dL_areReadings_462 rfl (lv_at hl 12 rfl) ?_
                                                                          refine lv_iload S.1 S.2.1 dL_areReadings_463 (lv_at hl 9 rfl) ?_
                                                                          refine g_cVi S G hF hl 7 (hV 7 _ (by first | decide | (show _ < 1; omega))) (by decide) (c_X6_middlek l ids ad _ _ hV hW hlt) (cwV 1 S.2.2.2.2 gL_areReadings_X6_middle rfl rfl rfl (by decide +kernel) ⟨Nat.le_of_ble_eq_true rfl, Nat.le_of_ble_eq_true rfl⟩) rfl rfl (Nat.le_of_ble_eq_true rfl) dL_areReadings_465 ⟨by show _ ≤ 2480; omega, by show _ ≤ 19840; omega⟩ (fun r_465 u_465 H locs hp_465 G => ?_)
                                                                          obtain ⟨rfl, rfl⟩ := hp_465
                                                                          have G : gS D aC A s ids ad (gk _) H locs := G
                                                                          refine g_top hM9 ?_
                                                                          refine lv_iload S.1 S.2.1 dL_areReadings_468 (lv_at hl 6 rfl) ?_
                                                                          refine lv_isub S.1 S.2.1 dL_areReadings_470 ?_
                                                                          refine lv_iconst (v := 5) S.1 S.2.1 dL_areReadings_471 (by decide) ?_
                                                                          refine lv_icmp_gt (tgt := 492) S.1 S.2.1 dL_areReadings_472 (by decide) (fun c_472 => ?_) (fun c_472 => ?_)
                                                                          · exact absurd ((sub_gt5 (by omega) (by omega)).mp c_472) (by omega)
                                                                          · refine lv_iload S.1 S.2.1 dL_areReadings_475 (lv_at hl 6 rfl) ?_
                                                                            refine lv_aload_n S.1 S.2.1 dL_areReadings_477 rfl (lv_at hl 12 rfl) ?_
                                                                            refine lv_iload S.1 S.2.1 dL_areReadings_478 (lv_at hl 9 rfl) ?_
                                                                            refine g_cVi S G hF hl 7 (hV 7 _ (by first | decide | (show _ < 1; omega))) (by decide) (c_X6_middlek l ids ad _ _ hV hW hlt) (cwV 1 S.2.2.2.2 gL_areReadings_X6_middle rfl rfl rfl (by decide +kernel) ⟨Nat.le_of_ble_eq_true rfl, Nat.le_of_ble_eq_true rfl⟩) rfl rfl (Nat.le_of_ble_eq_true rfl) dL_areReadings_480 ⟨by show _ ≤ 2480; omega, by show _ ≤ 19840; omega⟩ (fun r_480 u_480 H locs hp_480 G => ?_)
                                                                            obtain ⟨rfl, rfl⟩ := hp_480
                                                                            have G : gS D aC A s ids ad (gk _) H locs := G
                                                                            refine g_top hM9 ?_
                                                                            refine lv_isub S.1 S.2.1 dL_areReadings_483 ?_
                                                                            refine lv_iconst (v := 5) S.1 S.2.1 dL_areReadings_484 (by decide) ?_
                                                                            refine lv_icmp_gt (tgt := 492) S.1 S.2.1 dL_areReadings_485 (by decide) (fun c_485 => ?_) (fun c_485 => ?_)
                                                                            · exact absurd ((sub_gt5 (by omega) (by omega)).mp c_485) (by omega)
                                                                            · refine g_cs (k := 40 * k + 40) (n := 320 * k + 320) (by omega) (by omega) ?_
                                                                              exact K488 _ _ G
                                                                      · refine lv_iconst (v := 1) S.1 S.2.1 dL_areReadings_488 (by decide) ?_
                                                                        refine lv_goto (tgt := 493) S.1 S.2.1 dL_areReadings_489 (by decide) ?_
                                                                        refine lv_istore_n (lv' := [(3, _), (12, _), (11, _), (10, _), (9, _), (8, _), (7, _), (6, _), (5, _), (4, _), (2, _), (1, _), (0, _)]) S.1 S.2.1 dL_areReadings_493 rfl hl (by decide) rfl (fun ls hl => ?_)
                                                                        refine lv_iload_n S.1 S.2.1 dL_areReadings_494 rfl (lv_at hl 0 rfl) ?_
                                                                        refine lv_if_eq (tgt := 523) S.1 S.2.1 dL_areReadings_495 (by decide) (fun c_495 => ?_) (fun c_495 => ?_)
                                                                        · exact absurd c_495 (by decide)
                                                                        · refine lv_iload S.1 S.2.1 dL_areReadings_498 (lv_at hl 8 rfl) ?_
                                                                          refine lv_iconst (v := 1) S.1 S.2.1 dL_areReadings_500 (by decide) ?_
                                                                          refine lv_icmp_gt (tgt := 519) S.1 S.2.1 dL_areReadings_501 (by decide) (fun c_501 => ?_) (fun c_501 => ?_)
                                                                          · refine lv_iconst (v := 1) S.1 S.2.1 dL_areReadings_519 (by decide) ?_
                                                                            refine lv_goto (tgt := 524) S.1 S.2.1 dL_areReadings_520 (by decide) ?_
                                                                            refine lv_istore_n (lv' := [(3, _), (12, _), (11, _), (10, _), (9, _), (8, _), (7, _), (6, _), (5, _), (4, _), (2, _), (1, _), (0, _)]) S.1 S.2.1 dL_areReadings_524 rfl hl (by decide) rfl (fun ls hl => ?_)
                                                                            refine lv_aload_n S.1 S.2.1 dL_areReadings_525 rfl (lv_at hl 11 rfl) ?_
                                                                            refine lv_iload S.1 S.2.1 dL_areReadings_526 (lv_at hl 9 rfl) ?_
                                                                            refine lv_aload_n S.1 S.2.1 dL_areReadings_528 rfl (lv_at hl 11 rfl) ?_
                                                                            refine lv_iload S.1 S.2.1 dL_areReadings_529 (lv_at hl 9 rfl) ?_
                                                                            refine k_iald S G 20 h20 rfl rfl rfl rfl (show k < 64 by omega) dL_areReadings_531 ?_
                                                                            refine lv_sipush (v := (-14337)) S.1 S.2.1 dL_areReadings_532 (by decide) ?_
                                                                            refine lv_iand S.1 S.2.1 dL_areReadings_535 ?_
                                                                            refine lv_iload S.1 S.2.1 dL_areReadings_536 (lv_at hl 8 rfl) ?_
                                                                            refine lv_bipush (v := 11) S.1 S.2.1 dL_areReadings_538 (by decide) ?_
                                                                            refine lv_ishl S.1 S.2.1 dL_areReadings_540 ?_
                                                                            refine lv_ior S.1 S.2.1 dL_areReadings_541 ?_
                                                                            refine g_top (show _ = nI (enc τ 2 v9 s9) from by rw [b14]; exact enc_set (S := 2) (by omega) (by omega) (by omega) (by omega) (by decide)) ?_
                                                                            refine k_iast S G 20 h20 rfl rfl rfl rfl (show k < 64 by omega) dL_areReadings_542 (fun H locs G => ?_)
                                                                            refine lv_iinc (k := 9) (lv' := [(4, _), (3, _), (12, _), (11, _), (10, _), (9, _), (8, _), (7, _), (6, _), (5, _), (2, _), (1, _), (0, _)]) S.1 S.2.1 dL_areReadings_543 hl rfl (g_inc _) (by decide) rfl (fun ls hl => ?_)
                                                                            refine lv_goto (tgt := 29) S.1 S.2.1 dL_areReadings_546 (by decide) ?_
                                                                            refine W.widen (k := 40 * (k + 1)) (n := 320 * (k + 1)) (by omega) (by omega) ?_
                                                                            exact ih_29 (k + 1, upd3 κ1 20 0 k (nI (enc τ 2 v9 s9))) H locs ls ⟨by show k + 1 ≤ nn; omega, J1.setv hlt b1 b2 (by decide) b9 b10 b11 b7 (fun z => (b16 z).1), hnk⟩ (by show nn - (k + 1) < nn - k; omega) G (lv_sub hl [0, 1, 10, 11, 12] rfl)
                                                                          · exact absurd c_501 (by decide)
                                                                · exact absurd c_402 (by decide)
                                                              · exact absurd c_391 (by decide)
                                                          · exact absurd c_370 (by decide)
                                      · exact absurd c_249 (by decide)
                          · exact absurd hP c_166
                        · exact absurd c_155 (by decide)
                · exact absurd c_107 (by decide)
              · exact absurd c_96 (by decide)
            · have hd : v9 < 10 := by have := mt (nI_leI (a := 10) (b := v9) (by decide) (by omega)).mpr c_76; omega
              refine lv_iconst (v := 1) S.1 S.2.1 dL_areReadings_79 (by decide) ?_
              refine lv_goto (tgt := 84) S.1 S.2.1 dL_areReadings_80 (by decide) ?_
              refine lv_istore (lv' := [(8, _), (7, _), (6, _), (5, _), (4, _), (3, _), (2, _), (1, _), (0, _)]) S.1 S.2.1 dL_areReadings_84 hl (by decide) rfl (fun ls hl => ?_)
              refine lv_aload_n S.1 S.2.1 dL_areReadings_86 rfl (lv_at hl 8 rfl) ?_
              refine lv_iload S.1 S.2.1 dL_areReadings_87 (lv_at hl 4 rfl) ?_
              refine g_cVi S G hF hl 7 (hV 7 _ (by first | decide | (show _ < 1; omega))) (by decide) (c_X6_partsk l ids ad _ _ hV hW hlt) (cwV 1 S.2.2.2.2 gL_areReadings_X6_parts rfl rfl rfl (by decide +kernel) ⟨Nat.le_of_ble_eq_true rfl, Nat.le_of_ble_eq_true rfl⟩) rfl rfl (Nat.le_of_ble_eq_true rfl) dL_areReadings_89 ⟨by show _ ≤ 2480; omega, by show _ ≤ 19840; omega⟩ (fun r_89 u_89 H locs hp_89 G => ?_)
              obtain ⟨rfl, rfl⟩ := hp_89
              have G : gS D aC A s ids ad (gk _) H locs := G
              refine g_top b12 ?_
              refine lv_istore (lv' := [(9, _), (8, _), (7, _), (6, _), (5, _), (4, _), (3, _), (2, _), (1, _), (0, _)]) S.1 S.2.1 dL_areReadings_92 hl (by decide) rfl (fun ls hl => ?_)
              refine lv_iload S.1 S.2.1 dL_areReadings_94 (lv_at hl 4 rfl) ?_
              refine lv_if_ne (tgt := 104) S.1 S.2.1 dL_areReadings_96 (by decide) (fun c_96 => ?_) (fun c_96 => ?_)
              · refine lv_iload S.1 S.2.1 dL_areReadings_104 (lv_at hl 4 rfl) ?_
                refine lv_iconst (v := 1) S.1 S.2.1 dL_areReadings_106 (by decide) ?_
                refine lv_icmp_ne (tgt := 115) S.1 S.2.1 dL_areReadings_107 (by decide) (fun c_107 => ?_) (fun c_107 => ?_)
                · refine lv_iload S.1 S.2.1 dL_areReadings_115 (lv_at hl 4 rfl) ?_
                  refine lv_iconst (v := 2) S.1 S.2.1 dL_areReadings_117 (by decide) ?_
                  refine lv_icmp_ne (tgt := 126) S.1 S.2.1 dL_areReadings_118 (by decide) (fun c_118 => ?_) (fun c_118 => ?_)
                  · exact absurd c_118 (by decide)
                  · refine lv_bipush (v := 43) S.1 S.2.1 dL_areReadings_121 (by decide) ?_
                    refine lv_goto (tgt := 139) S.1 S.2.1 dL_areReadings_123 (by decide) ?_
                    refine lv_istore (lv' := [(10, _), (9, _), (8, _), (7, _), (6, _), (5, _), (4, _), (3, _), (2, _), (1, _), (0, _)]) S.1 S.2.1 dL_areReadings_139 hl (by decide) rfl (fun ls hl => ?_)
                    refine lv_iload S.1 S.2.1 dL_areReadings_141 (lv_at hl 5 rfl) ?_
                    refine lv_if_lt (tgt := 323) S.1 S.2.1 dL_areReadings_143 (by decide) (fun c_143 => ?_) (fun c_143 => ?_)
                    · exact absurd c_143 (by decide)
                    · refine lv_iload S.1 S.2.1 dL_areReadings_146 (lv_at hl 5 rfl) ?_
                      refine lv_iconst (v := 4) S.1 S.2.1 dL_areReadings_148 (by decide) ?_
                      refine lv_icmp_gt (tgt := 323) S.1 S.2.1 dL_areReadings_149 (by decide) (fun c_149 => ?_) (fun c_149 => ?_)
                      · exact absurd c_149 (by decide)
                      · refine lv_iload S.1 S.2.1 dL_areReadings_152 (lv_at hl 5 rfl) ?_
                        refine lv_iconst (v := 4) S.1 S.2.1 dL_areReadings_154 (by decide) ?_
                        refine lv_icmp_ne (tgt := 162) S.1 S.2.1 dL_areReadings_155 (by decide) (fun c_155 => ?_) (fun c_155 => ?_)
                        · refine lv_iconst (v := 0) S.1 S.2.1 dL_areReadings_162 (by decide) ?_
                          refine lv_iload S.1 S.2.1 dL_areReadings_163 (lv_at hl 1 rfl) ?_
                          refine lv_iconst (v := 3) S.1 S.2.1 dL_areReadings_165 (by decide) ?_
                          refine lv_icmp_ge (tgt := 173) S.1 S.2.1 dL_areReadings_166 (by decide) (fun c_166 => ?_) (fun c_166 => ?_)
                          · refine lv_iconst (v := 0) S.1 S.2.1 dL_areReadings_173 (by decide) ?_
                            refine lv_icmp_ne (tgt := 323) S.1 S.2.1 dL_areReadings_174 (by decide) (fun c_174 => ?_) (fun c_174 => ?_)
                            · exact absurd c_174 (by decide)
                            · refine lv_iload S.1 S.2.1 dL_areReadings_177 (lv_at hl 1 rfl) ?_
                              refine lv_if_lt (tgt := 323) S.1 S.2.1 dL_areReadings_179 (by decide) (fun c_179 => ?_) (fun c_179 => ?_)
                              · exact absurd c_179 (nI_pos (by omega))
                              · refine lv_iload S.1 S.2.1 dL_areReadings_182 (lv_at hl 1 rfl) ?_
                                refine lv_iconst (v := 4) S.1 S.2.1 dL_areReadings_184 (by decide) ?_
                                refine lv_icmp_gt (tgt := 323) S.1 S.2.1 dL_areReadings_185 (by decide) (fun c_185 => ?_) (fun c_185 => ?_)
                                · exact absurd c_185 (not_gt (n := 4) (ixL.nI (by omega) (by decide)) (by decide))
                                · refine g_cs (k := 40 * k) (n := 320 * k) (by omega) (by omega) ?_
                                  refine jn2 (X := W p l e (headSpec wsL_areReadings ({ frames := 8, cells := 2480, slots := 19840, locals := 135 } : Room)).room s m ([.ref (ad 7 0), .ref (ad 20 0), .ref (ad 21 0)] : List Value).toArray below meth c H locs (40 * k) (320 * k) (MQ below (va_Qi (fun q u => q = 1 ∧ ∃ κ', u = (ids, ad, gk κ') ∧ PL N B ids κ') (gE D aC A) A) ([.ref (ad 7 0), .ref (ad 20 0), .ref (ad 21 0)] : List Value).toArray s 2480 19840 A) (F0 m 217 ls [])) (fun K217 => ?_) ?_
                                  · refine lv_iload S.1 S.2.1 dL_areReadings_188 (lv_at hl 4 rfl) ?_
                                    refine lv_iconst (v := 2) S.1 S.2.1 dL_areReadings_190 (by decide) ?_
                                    refine lv_icmp_ge (tgt := 210) S.1 S.2.1 dL_areReadings_191 (by decide) (fun c_191 => ?_) (fun c_191 => ?_)
                                    · have h2st := (nI_leI (a := 2) (b := st) (by decide) (by omega)).mp c_191
                                      refine lv_iload S.1 S.2.1 dL_areReadings_210 (lv_at hl 5 rfl) ?_
                                      refine lv_iload S.1 S.2.1 dL_areReadings_212 (lv_at hl 4 rfl) ?_
                                      refine lv_icmp_ne (tgt := 323) S.1 S.2.1 dL_areReadings_214 (by decide) (fun c_214 => ?_) (fun c_214 => ?_)
                                      · exact absurd (nI_imp (show 2 = st by omega)) c_214
                                      · refine g_cs (k := 40 * k) (n := 320 * k) (by omega) (by omega) ?_
                                        exact K217
                                    · have h2st := mt (nI_leI (a := 2) (b := st) (by decide) (by omega)).mpr c_191
                                      refine lv_iload S.1 S.2.1 dL_areReadings_194 (lv_at hl 5 rfl) ?_
                                      refine lv_iconst (v := 4) S.1 S.2.1 dL_areReadings_196 (by decide) ?_
                                      refine lv_icmp_ge (tgt := 323) S.1 S.2.1 dL_areReadings_197 (by decide) (fun c_197 => ?_) (fun c_197 => ?_)
                                      · exact absurd c_197 (by decide)
                                      · refine lv_iload S.1 S.2.1 dL_areReadings_200 (lv_at hl 5 rfl) ?_
                                        refine lv_iload S.1 S.2.1 dL_areReadings_202 (lv_at hl 4 rfl) ?_
                                        refine lv_icmp_lt (tgt := 323) S.1 S.2.1 dL_areReadings_204 (by decide) (fun c_204 => ?_) (fun c_204 => ?_)
                                        · exact absurd ((nI_ltI (a := 2) (b := st) (by decide) (by omega)).mp c_204) (by omega)
                                        · refine lv_goto (tgt := 217) S.1 S.2.1 dL_areReadings_207 (by decide) ?_
                                          refine g_cs (k := 40 * k) (n := 320 * k) (by omega) (by omega) ?_
                                          exact K217
                                  · refine lv_aload_n S.1 S.2.1 dL_areReadings_217 rfl (lv_at hl 10 rfl) ?_
                                    refine lv_iload S.1 S.2.1 dL_areReadings_218 (lv_at hl 6 rfl) ?_
                                    refine lv_iconst (v := 0) S.1 S.2.1 dL_areReadings_220 (by decide) ?_
                                    refine gx_cVi S G hF hl 7 (hV 7 _ (by first | decide | (show _ < 1; omega))) (by decide) (c_X6_textAt l hlf ids ad _ _ _ hV hW hI (fun _ => by rw [tN_nI (by omega)]; exact hvx)) (cwV 2 S.2.2.2.2 gL_areReadings_X6_textAt rfl rfl rfl (by decide +kernel) ⟨Nat.le_of_ble_eq_true rfl, Nat.le_of_ble_eq_true rfl⟩) rfl rfl (Nat.le_of_ble_eq_true rfl) dL_areReadings_221 ⟨by show _ ≤ 2480; omega, by show _ ≤ 19840; omega⟩ (fun _ _ _ _ _ _ hp _ _ _ _ => (xE_0 hp.1 (txT_0 hlt hn hn80 (by decide))).elim) (fun r_221 u_221 H locs hp_221 G => ?_)
                                    obtain ⟨-, rfl, rfl⟩ := hp_221
                                    have G : gS D aC A s ids ad (gk _) H locs := G
                                    refine g_top (show _ = 97 + nI s9 from by rw [tN_nI (by omega)]; exact t0) ?_
                                    refine lv_bipush (v := 97) S.1 S.2.1 dL_areReadings_224 (by decide) ?_
                                    refine lv_aload_n S.1 S.2.1 dL_areReadings_226 rfl (lv_at hl 9 rfl) ?_
                                    refine lv_iload S.1 S.2.1 dL_areReadings_227 (lv_at hl 6 rfl) ?_
                                    refine k_iald S G 20 h20 rfl rfl rfl rfl (show k < 64 by omega) dL_areReadings_229 ?_
                                    refine lv_bipush (v := 15) S.1 S.2.1 dL_areReadings_230 (by decide) ?_
                                    refine lv_iand S.1 S.2.1 dL_areReadings_232 ?_
                                    refine g_top (show _ = nI s9 from by rw [b14]; exact enc_s (by omega) (by omega) (by omega) (by omega)) ?_
                                    refine lv_iadd S.1 S.2.1 dL_areReadings_233 ?_
                                    refine lv_icmp_ne (tgt := 323) S.1 S.2.1 dL_areReadings_234 (by decide) (fun c_234 => ?_) (fun c_234 => ?_)
                                    · exact absurd rfl c_234
                                    · refine lv_aload_n S.1 S.2.1 dL_areReadings_237 rfl (lv_at hl 10 rfl) ?_
                                      refine lv_iload S.1 S.2.1 dL_areReadings_238 (lv_at hl 6 rfl) ?_
                                      refine lv_iconst (v := 1) S.1 S.2.1 dL_areReadings_240 (by decide) ?_
                                      refine gx_cVi S G hF hl 7 (hV 7 _ (by first | decide | (show _ < 1; omega))) (by decide) (c_X6_textAt l hlf ids ad _ _ _ hV hW hI (fun _ => by rw [tN_nI (by omega)]; exact hvx)) (cwV 2 S.2.2.2.2 gL_areReadings_X6_textAt rfl rfl rfl (by decide +kernel) ⟨Nat.le_of_ble_eq_true rfl, Nat.le_of_ble_eq_true rfl⟩) rfl rfl (Nat.le_of_ble_eq_true rfl) dL_areReadings_241 ⟨by show _ ≤ 2480; omega, by show _ ≤ 19840; omega⟩ (fun _ _ _ _ _ _ hp _ _ _ _ => (xE_0 hp.1 (txT_0 hlt hn hn80 (by decide))).elim) (fun r_241 u_241 H locs hp_241 G => ?_)
                                      obtain ⟨-, rfl, rfl⟩ := hp_241
                                      have G : gS D aC A s ids ad (gk _) H locs := G
                                      refine g_top (show _ = 48 + nI v9 from by rw [tN_nI (by omega)]; exact (t1 hd).1) ?_
                                      refine lv_bipush (v := 48) S.1 S.2.1 dL_areReadings_244 (by decide) ?_
                                      refine lv_iload S.1 S.2.1 dL_areReadings_246 (lv_at hl 2 rfl) ?_
                                      refine lv_iconst (v := 1) S.1 S.2.1 dL_areReadings_248 (by decide) ?_
                                      refine lv_icmp_ne (tgt := 257) S.1 S.2.1 dL_areReadings_249 (by decide) (fun c_249 => ?_) (fun c_249 => ?_)
                                      · exact absurd c_249 (by decide)
                                      · refine lv_iload S.1 S.2.1 dL_areReadings_252 (lv_at hl 3 rfl) ?_
                                        refine lv_goto (tgt := 262) S.1 S.2.1 dL_areReadings_254 (by decide) ?_
                                        refine lv_iadd S.1 S.2.1 dL_areReadings_262 ?_
                                        refine lv_icmp_ne (tgt := 323) S.1 S.2.1 dL_areReadings_263 (by decide) (fun c_263 => ?_) (fun c_263 => ?_)
                                        · exact absurd rfl c_263
                                        · refine lv_iload S.1 S.2.1 dL_areReadings_266 (lv_at hl 2 rfl) ?_
                                          refine lv_iconst (v := 1) S.1 S.2.1 dL_areReadings_268 (by decide) ?_
                                          refine lv_icmp_eq (tgt := 290) S.1 S.2.1 dL_areReadings_269 (by decide) (fun c_269 => ?_) (fun c_269 => ?_)
                                          · refine lv_aload_n S.1 S.2.1 dL_areReadings_290 rfl (lv_at hl 10 rfl) ?_
                                            refine lv_iload S.1 S.2.1 dL_areReadings_291 (lv_at hl 6 rfl) ?_
                                            refine lv_iload S.1 S.2.1 dL_areReadings_293 (lv_at hl 2 rfl) ?_
                                            refine lv_iconst (v := 1) S.1 S.2.1 dL_areReadings_295 (by decide) ?_
                                            refine lv_iadd S.1 S.2.1 dL_areReadings_296 ?_
                                            refine g_top (show _ = (2 : Int32) from by decide) ?_
                                            refine gx_cVi S G hF hl 7 (hV 7 _ (by first | decide | (show _ < 1; omega))) (by decide) (c_X6_textAt l hlf ids ad _ _ _ hV hW hI (fun _ => by rw [tN_nI (by omega)]; exact hvx)) (cwV 2 S.2.2.2.2 gL_areReadings_X6_textAt rfl rfl rfl (by decide +kernel) ⟨Nat.le_of_ble_eq_true rfl, Nat.le_of_ble_eq_true rfl⟩) rfl rfl (Nat.le_of_ble_eq_true rfl) dL_areReadings_297 ⟨by show _ ≤ 2480; omega, by show _ ≤ 19840; omega⟩ (fun _ _ _ _ _ _ hp _ _ _ _ => (xE_0 hp.1 (txT_0 hlt hn hn80 (by decide))).elim) (fun r_297 u_297 H locs hp_297 G => ?_)
                                            obtain ⟨-, rfl, rfl⟩ := hp_297
                                            have G : gS D aC A s ids ad (gk _) H locs := G
                                            refine g_top (show _ = (43 : Int32) from by rw [tN_nI (by omega)]; exact (t1 hd).2.1.trans e3s) ?_
                                            refine lv_iload S.1 S.2.1 dL_areReadings_300 (lv_at hl 0 rfl) ?_
                                            refine lv_icmp_ne (tgt := 323) S.1 S.2.1 dL_areReadings_302 (by decide) (fun c_302 => ?_) (fun c_302 => ?_)
                                            · exact absurd c_302 (by decide)
                                            · refine lv_aload_n S.1 S.2.1 dL_areReadings_305 rfl (lv_at hl 10 rfl) ?_
                                              refine lv_iload S.1 S.2.1 dL_areReadings_306 (lv_at hl 6 rfl) ?_
                                              refine lv_iload S.1 S.2.1 dL_areReadings_308 (lv_at hl 2 rfl) ?_
                                              refine lv_iconst (v := 2) S.1 S.2.1 dL_areReadings_310 (by decide) ?_
                                              refine lv_iadd S.1 S.2.1 dL_areReadings_311 ?_
                                              refine g_top (show _ = (3 : Int32) from by decide) ?_
                                              refine gx_cVi S G hF hl 7 (hV 7 _ (by first | decide | (show _ < 1; omega))) (by decide) (c_X6_textAt l hlf ids ad _ _ _ hV hW hI (fun _ => by rw [tN_nI (by omega)]; exact hvx)) (cwV 2 S.2.2.2.2 gL_areReadings_X6_textAt rfl rfl rfl (by decide +kernel) ⟨Nat.le_of_ble_eq_true rfl, Nat.le_of_ble_eq_true rfl⟩) rfl rfl (Nat.le_of_ble_eq_true rfl) dL_areReadings_312 ⟨by show _ ≤ 2480; omega, by show _ ≤ 19840; omega⟩ (fun _ _ _ _ _ _ hp _ _ _ _ => (xE_0 hp.1 (txT_0 hlt hn hn80 (by decide))).elim) (fun r_312 u_312 H locs hp_312 G => ?_)
                                              obtain ⟨-, rfl, rfl⟩ := hp_312
                                              have G : gS D aC A s ids ad (gk _) H locs := G
                                              refine g_top (show _ = (-1 : Int32) from by rw [tN_nI (by omega)]; exact (t1 hd).2.2) ?_
                                              refine lv_iconst (v := (-1)) S.1 S.2.1 dL_areReadings_315 (by decide) ?_
                                              refine lv_icmp_ne (tgt := 323) S.1 S.2.1 dL_areReadings_316 (by decide) (fun c_316 => ?_) (fun c_316 => ?_)
                                              · exact absurd c_316 (by decide)
                                              · refine lv_iconst (v := 1) S.1 S.2.1 dL_areReadings_319 (by decide) ?_
                                                refine lv_goto (tgt := 324) S.1 S.2.1 dL_areReadings_320 (by decide) ?_
                                                refine lv_istore_n (lv' := [(3, _), (10, _), (9, _), (8, _), (7, _), (6, _), (5, _), (4, _), (2, _), (1, _), (0, _)]) S.1 S.2.1 dL_areReadings_324 rfl hl (by decide) rfl (fun ls hl => ?_)
                                                refine lv_aload_n S.1 S.2.1 dL_areReadings_325 rfl (lv_at hl 10 rfl) ?_
                                                refine lv_iload S.1 S.2.1 dL_areReadings_326 (lv_at hl 7 rfl) ?_
                                                refine g_cVi S G hF hl 7 (hV 7 _ (by first | decide | (show _ < 1; omega))) (by decide) (c_X6_usersk l ids ad _ _ hV hW hlt) (cwV 1 S.2.2.2.2 gL_areReadings_X6_users rfl rfl rfl (by decide +kernel) ⟨Nat.le_of_ble_eq_true rfl, Nat.le_of_ble_eq_true rfl⟩) rfl rfl (Nat.le_of_ble_eq_true rfl) dL_areReadings_328 ⟨by show _ ≤ 2480; omega, by show _ ≤ 19840; omega⟩ (fun r_328 u_328 H locs hp_328 G => ?_)
                                                obtain ⟨rfl, rfl⟩ := hp_328
                                                have G : gS D aC A s ids ad (gk _) H locs := G
                                                refine g_top b13 ?_
                                                refine lv_istore (lv' := [(11, _), (3, _), (10, _), (9, _), (8, _), (7, _), (6, _), (5, _), (4, _), (2, _), (1, _), (0, _)]) S.1 S.2.1 dL_areReadings_331 hl (by decide) rfl (fun ls hl => ?_)
                                                refine lv_aload_n S.1 S.2.1 dL_areReadings_333 rfl (lv_at hl 11 rfl) ?_
                                                refine lv_iload S.1 S.2.1 dL_areReadings_334 (lv_at hl 8 rfl) ?_
                                                refine g_cVi S G hF hl 7 (hV 7 _ (by first | decide | (show _ < 1; omega))) (by decide) (c_X6_heldk l ids ad _ _ hV hW hlt) (cwV 1 S.2.2.2.2 gL_areReadings_X6_held rfl rfl rfl (by decide +kernel) ⟨Nat.le_of_ble_eq_true rfl, Nat.le_of_ble_eq_true rfl⟩) rfl rfl (Nat.le_of_ble_eq_true rfl) dL_areReadings_336 ⟨by show _ ≤ 2480; omega, by show _ ≤ 19840; omega⟩ (fun r_336 u_336 H locs hp_336 G => ?_)
                                                obtain ⟨rfl, rfl⟩ := hp_336
                                                have G : gS D aC A s ids ad (gk _) H locs := G
                                                refine g_top c1 ?_
                                                refine lv_istore (lv' := [(12, _), (11, _), (3, _), (10, _), (9, _), (8, _), (7, _), (6, _), (5, _), (4, _), (2, _), (1, _), (0, _)]) S.1 S.2.1 dL_areReadings_339 hl (by decide) rfl (fun ls hl => ?_)
                                                refine lv_iload_n S.1 S.2.1 dL_areReadings_341 rfl (lv_at hl 2 rfl) ?_
                                                refine lv_if_eq (tgt := 492) S.1 S.2.1 dL_areReadings_342 (by decide) (fun c_342 => ?_) (fun c_342 => ?_)
                                                · exact absurd c_342 (by decide)
                                                · refine lv_iload S.1 S.2.1 dL_areReadings_345 (lv_at hl 1 rfl) ?_
                                                  refine lv_if_lt (tgt := 492) S.1 S.2.1 dL_areReadings_347 (by decide) (fun c_347 => ?_) (fun c_347 => ?_)
                                                  · exact absurd c_347 (nI_pos (by omega))
                                                  · refine lv_iload S.1 S.2.1 dL_areReadings_350 (lv_at hl 1 rfl) ?_
                                                    refine lv_bipush (v := 6) S.1 S.2.1 dL_areReadings_352 (by decide) ?_
                                                    refine lv_icmp_gt (tgt := 492) S.1 S.2.1 dL_areReadings_354 (by decide) (fun c_354 => ?_) (fun c_354 => ?_)
                                                    · exact absurd c_354 (not_gt (n := 6) (ixL.nI (by omega) (by decide)) (by decide))
                                                    · refine lv_iload S.1 S.2.1 dL_areReadings_357 (lv_at hl 0 rfl) ?_
                                                      refine lv_bipush (v := 20) S.1 S.2.1 dL_areReadings_359 (by decide) ?_
                                                      refine lv_iload S.1 S.2.1 dL_areReadings_361 (lv_at hl 1 rfl) ?_
                                                      refine lv_imul S.1 S.2.1 dL_areReadings_363 ?_
                                                      refine g_top (pk_mul 20 U) ?_
                                                      refine lv_icmp_gt (tgt := 492) S.1 S.2.1 dL_areReadings_364 (by decide) (fun c_364 => ?_) (fun c_364 => ?_)
                                                      · exact absurd ((nI_ltI (by omega) (by omega)).mp c_364) (by omega)
                                                      · refine lv_iload S.1 S.2.1 dL_areReadings_367 (lv_at hl 8 rfl) ?_
                                                        refine lv_iconst (v := 2) S.1 S.2.1 dL_areReadings_369 (by decide) ?_
                                                        refine lv_icmp_ge (tgt := 383) S.1 S.2.1 dL_areReadings_370 (by decide) (fun c_370 => ?_) (fun c_370 => ?_)
                                                        · refine lv_iload S.1 S.2.1 dL_areReadings_383 (lv_at hl 0 rfl) ?_
                                                          refine lv_if_ne (tgt := 492) S.1 S.2.1 dL_areReadings_385 (by decide) (fun c_385 => ?_) (fun c_385 => ?_)
                                                          · exact absurd (nI_imp (show Hd = 0 by omega)) c_385
                                                          · refine lv_iload S.1 S.2.1 dL_areReadings_388 (lv_at hl 8 rfl) ?_
                                                            refine lv_iconst (v := 4) S.1 S.2.1 dL_areReadings_390 (by decide) ?_
                                                            refine lv_icmp_lt (tgt := 399) S.1 S.2.1 dL_areReadings_391 (by decide) (fun c_391 => ?_) (fun c_391 => ?_)
                                                            · refine lv_iload S.1 S.2.1 dL_areReadings_399 (lv_at hl 8 rfl) ?_
                                                              refine lv_iconst (v := 3) S.1 S.2.1 dL_areReadings_401 (by decide) ?_
                                                              refine lv_icmp_ne (tgt := 440) S.1 S.2.1 dL_areReadings_402 (by decide) (fun c_402 => ?_) (fun c_402 => ?_)
                                                              · refine lv_iload S.1 S.2.1 dL_areReadings_440 (lv_at hl 8 rfl) ?_
                                                                refine lv_iconst (v := 2) S.1 S.2.1 dL_areReadings_442 (by decide) ?_
                                                                refine lv_icmp_lt (tgt := 488) S.1 S.2.1 dL_areReadings_443 (by decide) (fun c_443 => ?_) (fun c_443 => ?_)
                                                                · exact absurd c_443 (by decide)
                                                                · refine lv_iload S.1 S.2.1 dL_areReadings_446 (lv_at hl 8 rfl) ?_
                                                                  refine lv_iconst (v := 3) S.1 S.2.1 dL_areReadings_448 (by decide) ?_
                                                                  refine lv_icmp_eq (tgt := 488) S.1 S.2.1 dL_areReadings_449 (by decide) (fun c_449 => ?_) (fun c_449 => ?_)
                                                                  · exact absurd c_449 (by decide)
                                                                  · refine g_cs (k := 40 * k + 32) (n := 320 * k + 256) (by omega) (by omega) ?_
                                                                    refine jnH (X := fun H locs => W p l e (headSpec wsL_areReadings ({ frames := 8, cells := 2480, slots := 19840, locals := 135 } : Room)).room s m ([.ref (ad 7 0), .ref (ad 20 0), .ref (ad 21 0)] : List Value).toArray below meth c H locs (40 * k + 32) (320 * k + 256) (MQ below (va_Qi (fun q u => q = 1 ∧ ∃ κ', u = (ids, ad, gk κ') ∧ PL N B ids κ') (gE D aC A) A) ([.ref (ad 7 0), .ref (ad 20 0), .ref (ad 21 0)] : List Value).toArray s 2480 19840 A) (F0 m 488 ls [])) (fun H locs => gS D aC A s ids ad (gk κ1) H locs) (fun K488 => ?_) (fun H locs G => ?_)
                                                                    · refine lv_aload_n S.1 S.2.1 dL_areReadings_452 rfl (lv_at hl 12 rfl) ?_
                                                                      refine lv_iload S.1 S.2.1 dL_areReadings_453 (lv_at hl 9 rfl) ?_
                                                                      refine g_cVi S G hF hl 7 (hV 7 _ (by first | decide | (show _ < 1; omega))) (by decide) (c_X6_middlek l ids ad _ _ hV hW hlt) (cwV 1 S.2.2.2.2 gL_areReadings_X6_middle rfl rfl rfl (by decide +kernel) ⟨Nat.le_of_ble_eq_true rfl, Nat.le_of_ble_eq_true rfl⟩) rfl rfl (Nat.le_of_ble_eq_true rfl) dL_areReadings_455 ⟨by show _ ≤ 2480; omega, by show _ ≤ 19840; omega⟩ (fun r_455 u_455 H locs hp_455 G => ?_)
                                                                      obtain ⟨rfl, rfl⟩ := hp_455
                                                                      have G : gS D aC A s ids ad (gk _) H locs := G
                                                                      refine lv_iconst (v := (-1)) S.1 S.2.1 dL_areReadings_458 (by decide) ?_
                                                                      refine lv_icmp_eq (tgt := 488) S.1 S.2.1 dL_areReadings_459 (by decide) (fun c_459 => ?_) (fun c_459 => ?_)
                                                                      · refine g_cs (k := 40 * k + 32) (n := 320 * k + 256) (by omega) (by omega) ?_
                                                                        exact K488 _ _ G
                                                                      · have hM9 : sMidA κ1 k = nI M := m2.resolve_left c_459
                                                                        have hm23 := (m3 rfl).resolve_left c_459
                                                                        refine lv_aload_n S.1 S.2.1 dL_areReadings_462 rfl (lv_at hl 12 rfl) ?_
                                                                        refine lv_iload S.1 S.2.1 dL_areReadings_463 (lv_at hl 9 rfl) ?_
                                                                        refine g_cVi S G hF hl 7 (hV 7 _ (by first | decide | (show _ < 1; omega))) (by decide) (c_X6_middlek l ids ad _ _ hV hW hlt) (cwV 1 S.2.2.2.2 gL_areReadings_X6_middle rfl rfl rfl (by decide +kernel) ⟨Nat.le_of_ble_eq_true rfl, Nat.le_of_ble_eq_true rfl⟩) rfl rfl (Nat.le_of_ble_eq_true rfl) dL_areReadings_465 ⟨by show _ ≤ 2480; omega, by show _ ≤ 19840; omega⟩ (fun r_465 u_465 H locs hp_465 G => ?_)
                                                                        obtain ⟨rfl, rfl⟩ := hp_465
                                                                        have G : gS D aC A s ids ad (gk _) H locs := G
                                                                        refine g_top hM9 ?_
                                                                        refine lv_iload S.1 S.2.1 dL_areReadings_468 (lv_at hl 6 rfl) ?_
                                                                        refine lv_isub S.1 S.2.1 dL_areReadings_470 ?_
                                                                        refine lv_iconst (v := 5) S.1 S.2.1 dL_areReadings_471 (by decide) ?_
                                                                        refine lv_icmp_gt (tgt := 492) S.1 S.2.1 dL_areReadings_472 (by decide) (fun c_472 => ?_) (fun c_472 => ?_)
                                                                        · exact absurd ((sub_gt5 (by omega) (by omega)).mp c_472) (by omega)
                                                                        · refine lv_iload S.1 S.2.1 dL_areReadings_475 (lv_at hl 6 rfl) ?_
                                                                          refine lv_aload_n S.1 S.2.1 dL_areReadings_477 rfl (lv_at hl 12 rfl) ?_
                                                                          refine lv_iload S.1 S.2.1 dL_areReadings_478 (lv_at hl 9 rfl) ?_
                                                                          refine g_cVi S G hF hl 7 (hV 7 _ (by first | decide | (show _ < 1; omega))) (by decide) (c_X6_middlek l ids ad _ _ hV hW hlt) (cwV 1 S.2.2.2.2 gL_areReadings_X6_middle rfl rfl rfl (by decide +kernel) ⟨Nat.le_of_ble_eq_true rfl, Nat.le_of_ble_eq_true rfl⟩) rfl rfl (Nat.le_of_ble_eq_true rfl) dL_areReadings_480 ⟨by show _ ≤ 2480; omega, by show _ ≤ 19840; omega⟩ (fun r_480 u_480 H locs hp_480 G => ?_)
                                                                          obtain ⟨rfl, rfl⟩ := hp_480
                                                                          have G : gS D aC A s ids ad (gk _) H locs := G
                                                                          refine g_top hM9 ?_
                                                                          refine lv_isub S.1 S.2.1 dL_areReadings_483 ?_
                                                                          refine lv_iconst (v := 5) S.1 S.2.1 dL_areReadings_484 (by decide) ?_
                                                                          refine lv_icmp_gt (tgt := 492) S.1 S.2.1 dL_areReadings_485 (by decide) (fun c_485 => ?_) (fun c_485 => ?_)
                                                                          · exact absurd ((sub_gt5 (by omega) (by omega)).mp c_485) (by omega)
                                                                          · refine g_cs (k := 40 * k + 32) (n := 320 * k + 256) (by omega) (by omega) ?_
                                                                            exact K488 _ _ G
                                                                    · refine lv_iconst (v := 1) S.1 S.2.1 dL_areReadings_488 (by decide) ?_
                                                                      refine lv_goto (tgt := 493) S.1 S.2.1 dL_areReadings_489 (by decide) ?_
                                                                      refine lv_istore_n (lv' := [(3, _), (12, _), (11, _), (10, _), (9, _), (8, _), (7, _), (6, _), (5, _), (4, _), (2, _), (1, _), (0, _)]) S.1 S.2.1 dL_areReadings_493 rfl hl (by decide) rfl (fun ls hl => ?_)
                                                                      refine lv_iload_n S.1 S.2.1 dL_areReadings_494 rfl (lv_at hl 0 rfl) ?_
                                                                      refine lv_if_eq (tgt := 523) S.1 S.2.1 dL_areReadings_495 (by decide) (fun c_495 => ?_) (fun c_495 => ?_)
                                                                      · exact absurd c_495 (by decide)
                                                                      · refine lv_iload S.1 S.2.1 dL_areReadings_498 (lv_at hl 8 rfl) ?_
                                                                        refine lv_iconst (v := 1) S.1 S.2.1 dL_areReadings_500 (by decide) ?_
                                                                        refine lv_icmp_gt (tgt := 519) S.1 S.2.1 dL_areReadings_501 (by decide) (fun c_501 => ?_) (fun c_501 => ?_)
                                                                        · refine lv_iconst (v := 1) S.1 S.2.1 dL_areReadings_519 (by decide) ?_
                                                                          refine lv_goto (tgt := 524) S.1 S.2.1 dL_areReadings_520 (by decide) ?_
                                                                          refine lv_istore_n (lv' := [(3, _), (12, _), (11, _), (10, _), (9, _), (8, _), (7, _), (6, _), (5, _), (4, _), (2, _), (1, _), (0, _)]) S.1 S.2.1 dL_areReadings_524 rfl hl (by decide) rfl (fun ls hl => ?_)
                                                                          refine lv_aload_n S.1 S.2.1 dL_areReadings_525 rfl (lv_at hl 11 rfl) ?_
                                                                          refine lv_iload S.1 S.2.1 dL_areReadings_526 (lv_at hl 9 rfl) ?_
                                                                          refine lv_aload_n S.1 S.2.1 dL_areReadings_528 rfl (lv_at hl 11 rfl) ?_
                                                                          refine lv_iload S.1 S.2.1 dL_areReadings_529 (lv_at hl 9 rfl) ?_
                                                                          refine k_iald S G 20 h20 rfl rfl rfl rfl (show k < 64 by omega) dL_areReadings_531 ?_
                                                                          refine lv_sipush (v := (-14337)) S.1 S.2.1 dL_areReadings_532 (by decide) ?_
                                                                          refine lv_iand S.1 S.2.1 dL_areReadings_535 ?_
                                                                          refine lv_iload S.1 S.2.1 dL_areReadings_536 (lv_at hl 8 rfl) ?_
                                                                          refine lv_bipush (v := 11) S.1 S.2.1 dL_areReadings_538 (by decide) ?_
                                                                          refine lv_ishl S.1 S.2.1 dL_areReadings_540 ?_
                                                                          refine lv_ior S.1 S.2.1 dL_areReadings_541 ?_
                                                                          refine g_top (show _ = nI (enc τ 2 v9 s9) from by rw [b14]; exact enc_set (S := 2) (by omega) (by omega) (by omega) (by omega) (by decide)) ?_
                                                                          refine k_iast S G 20 h20 rfl rfl rfl rfl (show k < 64 by omega) dL_areReadings_542 (fun H locs G => ?_)
                                                                          refine lv_iinc (k := 9) (lv' := [(4, _), (3, _), (12, _), (11, _), (10, _), (9, _), (8, _), (7, _), (6, _), (5, _), (2, _), (1, _), (0, _)]) S.1 S.2.1 dL_areReadings_543 hl rfl (g_inc _) (by decide) rfl (fun ls hl => ?_)
                                                                          refine lv_goto (tgt := 29) S.1 S.2.1 dL_areReadings_546 (by decide) ?_
                                                                          refine W.widen (k := 40 * (k + 1)) (n := 320 * (k + 1)) (by omega) (by omega) ?_
                                                                          exact ih_29 (k + 1, upd3 κ1 20 0 k (nI (enc τ 2 v9 s9))) H locs ls ⟨by show k + 1 ≤ nn; omega, J1.setv hlt b1 b2 (by decide) b9 b10 b11 b7 (fun z => (b16 z).1), hnk⟩ (by show nn - (k + 1) < nn - k; omega) G (lv_sub hl [0, 1, 10, 11, 12] rfl)
                                                                        · exact absurd c_501 (by decide)
                                                              · exact absurd c_402 (by decide)
                                                            · exact absurd c_391 (by decide)
                                                        · exact absurd c_370 (by decide)
                                          · exact absurd c_269 (by decide)
                          · exact absurd hP c_166
                        · exact absurd c_155 (by decide)
                · exact absurd c_107 (by decide)
              · exact absurd c_96 (by decide)
          · refine lv_aload_n S.1 S.2.1 dL_areReadings_41 rfl (lv_at hl 4 rfl) ?_
            refine lv_iload S.1 S.2.1 dL_areReadings_42 (lv_at hl 0 rfl) ?_
            refine g_cVi S G hF hl 7 (hV 7 _ (by first | decide | (show _ < 1; omega))) (by decide) (c_X6_stateOfk l ids ad _ _ hV hW hlt) (cwV 1 S.2.2.2.2 gL_areReadings_X6_stateOf rfl rfl rfl (by decide +kernel) ⟨Nat.le_of_ble_eq_true rfl, Nat.le_of_ble_eq_true rfl⟩) rfl rfl (Nat.le_of_ble_eq_true rfl) dL_areReadings_44 ⟨by show _ ≤ 2480; omega, by show _ ≤ 19840; omega⟩ (fun r_44 u_44 H locs hp_44 G => ?_)
            obtain ⟨rfl, rfl⟩ := hp_44
            have G : gS D aC A s ids ad (gk _) H locs := G
            have hP :  (3 : Int32) ≤ nI P := (nI_leI (a := 3) (b := P) (by decide) (by omega)).mpr (by omega)
            have hst : st ≤ 3 ∧ st ≤ 3 := by omega
            refine g_top (show _ = (3 : Int32) from by exact b11) ?_
            refine lv_istore (lv' := [(5, _), (4, _), (3, _), (2, _), (1, _), (0, _)]) S.1 S.2.1 dL_areReadings_47 hl (by decide) rfl (fun ls hl => ?_)
            refine lv_aload_n S.1 S.2.1 dL_areReadings_49 rfl (lv_at hl 4 rfl) ?_
            refine lv_iload S.1 S.2.1 dL_areReadings_50 (lv_at hl 1 rfl) ?_
            refine k_iald S G 20 h20 rfl rfl rfl rfl (show k < 64 by omega) dL_areReadings_52 ?_
            refine lv_bipush (v := 11) S.1 S.2.1 dL_areReadings_53 (by decide) ?_
            refine lv_ishr S.1 S.2.1 dL_areReadings_55 ?_
            refine lv_bipush (v := 7) S.1 S.2.1 dL_areReadings_56 (by decide) ?_
            refine lv_iand S.1 S.2.1 dL_areReadings_58 ?_
            refine g_top (show _ = nI st from by rw [b14]; exact enc_st (by omega) (by omega) (by omega) (by omega)) ?_
            refine lv_istore (lv' := [(6, _), (5, _), (4, _), (3, _), (2, _), (1, _), (0, _)]) S.1 S.2.1 dL_areReadings_59 hl (by decide) rfl (fun ls hl => ?_)
            refine lv_aload_n S.1 S.2.1 dL_areReadings_61 rfl (lv_at hl 5 rfl) ?_
            refine lv_iload S.1 S.2.1 dL_areReadings_62 (lv_at hl 2 rfl) ?_
            refine k_iald S G 20 h20 rfl rfl rfl rfl (show k < 64 by omega) dL_areReadings_64 ?_
            refine lv_iconst (v := 4) S.1 S.2.1 dL_areReadings_65 (by decide) ?_
            refine lv_ishr S.1 S.2.1 dL_areReadings_66 ?_
            refine lv_bipush (v := 127) S.1 S.2.1 dL_areReadings_67 (by decide) ?_
            refine lv_iand S.1 S.2.1 dL_areReadings_69 ?_
            refine g_top (show _ = nI v9 from by rw [b14]; exact enc_v (by omega) (by omega) (by omega) (by omega)) ?_
            refine lv_istore (lv' := [(7, _), (6, _), (5, _), (4, _), (3, _), (2, _), (1, _), (0, _)]) S.1 S.2.1 dL_areReadings_70 hl (by decide) rfl (fun ls hl => ?_)
            refine lv_iload S.1 S.2.1 dL_areReadings_72 (lv_at hl 0 rfl) ?_
            refine lv_bipush (v := 10) S.1 S.2.1 dL_areReadings_74 (by decide) ?_
            refine lv_icmp_ge (tgt := 83) S.1 S.2.1 dL_areReadings_76 (by decide) (fun c_76 => ?_) (fun c_76 => ?_)
            · have hd : ¬ v9 < 10 := fun z => by have := (nI_leI (a := 10) (b := v9) (by decide) (by omega)).mp c_76; omega
              refine lv_iconst (v := 2) S.1 S.2.1 dL_areReadings_83 (by decide) ?_
              refine lv_istore (lv' := [(8, _), (7, _), (6, _), (5, _), (4, _), (3, _), (2, _), (1, _), (0, _)]) S.1 S.2.1 dL_areReadings_84 hl (by decide) rfl (fun ls hl => ?_)
              refine lv_aload_n S.1 S.2.1 dL_areReadings_86 rfl (lv_at hl 8 rfl) ?_
              refine lv_iload S.1 S.2.1 dL_areReadings_87 (lv_at hl 4 rfl) ?_
              refine g_cVi S G hF hl 7 (hV 7 _ (by first | decide | (show _ < 1; omega))) (by decide) (c_X6_partsk l ids ad _ _ hV hW hlt) (cwV 1 S.2.2.2.2 gL_areReadings_X6_parts rfl rfl rfl (by decide +kernel) ⟨Nat.le_of_ble_eq_true rfl, Nat.le_of_ble_eq_true rfl⟩) rfl rfl (Nat.le_of_ble_eq_true rfl) dL_areReadings_89 ⟨by show _ ≤ 2480; omega, by show _ ≤ 19840; omega⟩ (fun r_89 u_89 H locs hp_89 G => ?_)
              obtain ⟨rfl, rfl⟩ := hp_89
              have G : gS D aC A s ids ad (gk _) H locs := G
              refine g_top b12 ?_
              refine lv_istore (lv' := [(9, _), (8, _), (7, _), (6, _), (5, _), (4, _), (3, _), (2, _), (1, _), (0, _)]) S.1 S.2.1 dL_areReadings_92 hl (by decide) rfl (fun ls hl => ?_)
              refine lv_iload S.1 S.2.1 dL_areReadings_94 (lv_at hl 4 rfl) ?_
              refine lv_if_ne (tgt := 104) S.1 S.2.1 dL_areReadings_96 (by decide) (fun c_96 => ?_) (fun c_96 => ?_)
              · refine lv_iload S.1 S.2.1 dL_areReadings_104 (lv_at hl 4 rfl) ?_
                refine lv_iconst (v := 1) S.1 S.2.1 dL_areReadings_106 (by decide) ?_
                refine lv_icmp_ne (tgt := 115) S.1 S.2.1 dL_areReadings_107 (by decide) (fun c_107 => ?_) (fun c_107 => ?_)
                · refine lv_iload S.1 S.2.1 dL_areReadings_115 (lv_at hl 4 rfl) ?_
                  refine lv_iconst (v := 2) S.1 S.2.1 dL_areReadings_117 (by decide) ?_
                  refine lv_icmp_ne (tgt := 126) S.1 S.2.1 dL_areReadings_118 (by decide) (fun c_118 => ?_) (fun c_118 => ?_)
                  · refine lv_iload S.1 S.2.1 dL_areReadings_126 (lv_at hl 4 rfl) ?_
                    refine lv_iconst (v := 3) S.1 S.2.1 dL_areReadings_128 (by decide) ?_
                    refine lv_icmp_ne (tgt := 137) S.1 S.2.1 dL_areReadings_129 (by decide) (fun c_129 => ?_) (fun c_129 => ?_)
                    · exact absurd c_129 (by decide)
                    · refine lv_bipush (v := 45) S.1 S.2.1 dL_areReadings_132 (by decide) ?_
                      refine lv_goto (tgt := 139) S.1 S.2.1 dL_areReadings_134 (by decide) ?_
                      refine lv_istore (lv' := [(10, _), (9, _), (8, _), (7, _), (6, _), (5, _), (4, _), (3, _), (2, _), (1, _), (0, _)]) S.1 S.2.1 dL_areReadings_139 hl (by decide) rfl (fun ls hl => ?_)
                      refine lv_iload S.1 S.2.1 dL_areReadings_141 (lv_at hl 5 rfl) ?_
                      refine lv_if_lt (tgt := 323) S.1 S.2.1 dL_areReadings_143 (by decide) (fun c_143 => ?_) (fun c_143 => ?_)
                      · exact absurd c_143 (by decide)
                      · refine lv_iload S.1 S.2.1 dL_areReadings_146 (lv_at hl 5 rfl) ?_
                        refine lv_iconst (v := 4) S.1 S.2.1 dL_areReadings_148 (by decide) ?_
                        refine lv_icmp_gt (tgt := 323) S.1 S.2.1 dL_areReadings_149 (by decide) (fun c_149 => ?_) (fun c_149 => ?_)
                        · exact absurd c_149 (by decide)
                        · refine lv_iload S.1 S.2.1 dL_areReadings_152 (lv_at hl 5 rfl) ?_
                          refine lv_iconst (v := 4) S.1 S.2.1 dL_areReadings_154 (by decide) ?_
                          refine lv_icmp_ne (tgt := 162) S.1 S.2.1 dL_areReadings_155 (by decide) (fun c_155 => ?_) (fun c_155 => ?_)
                          · refine lv_iconst (v := 0) S.1 S.2.1 dL_areReadings_162 (by decide) ?_
                            refine lv_iload S.1 S.2.1 dL_areReadings_163 (lv_at hl 1 rfl) ?_
                            refine lv_iconst (v := 3) S.1 S.2.1 dL_areReadings_165 (by decide) ?_
                            refine lv_icmp_ge (tgt := 173) S.1 S.2.1 dL_areReadings_166 (by decide) (fun c_166 => ?_) (fun c_166 => ?_)
                            · refine lv_iconst (v := 0) S.1 S.2.1 dL_areReadings_173 (by decide) ?_
                              refine lv_icmp_ne (tgt := 323) S.1 S.2.1 dL_areReadings_174 (by decide) (fun c_174 => ?_) (fun c_174 => ?_)
                              · exact absurd c_174 (by decide)
                              · refine lv_iload S.1 S.2.1 dL_areReadings_177 (lv_at hl 1 rfl) ?_
                                refine lv_if_lt (tgt := 323) S.1 S.2.1 dL_areReadings_179 (by decide) (fun c_179 => ?_) (fun c_179 => ?_)
                                · exact absurd c_179 (nI_pos (by omega))
                                · refine lv_iload S.1 S.2.1 dL_areReadings_182 (lv_at hl 1 rfl) ?_
                                  refine lv_iconst (v := 4) S.1 S.2.1 dL_areReadings_184 (by decide) ?_
                                  refine lv_icmp_gt (tgt := 323) S.1 S.2.1 dL_areReadings_185 (by decide) (fun c_185 => ?_) (fun c_185 => ?_)
                                  · exact absurd c_185 (not_gt (n := 4) (ixL.nI (by omega) (by decide)) (by decide))
                                  · refine g_cs (k := 40 * k) (n := 320 * k) (by omega) (by omega) ?_
                                    refine jn2 (X := W p l e (headSpec wsL_areReadings ({ frames := 8, cells := 2480, slots := 19840, locals := 135 } : Room)).room s m ([.ref (ad 7 0), .ref (ad 20 0), .ref (ad 21 0)] : List Value).toArray below meth c H locs (40 * k) (320 * k) (MQ below (va_Qi (fun q u => q = 1 ∧ ∃ κ', u = (ids, ad, gk κ') ∧ PL N B ids κ') (gE D aC A) A) ([.ref (ad 7 0), .ref (ad 20 0), .ref (ad 21 0)] : List Value).toArray s 2480 19840 A) (F0 m 217 ls [])) (fun K217 => ?_) ?_
                                    · refine lv_iload S.1 S.2.1 dL_areReadings_188 (lv_at hl 4 rfl) ?_
                                      refine lv_iconst (v := 2) S.1 S.2.1 dL_areReadings_190 (by decide) ?_
                                      refine lv_icmp_ge (tgt := 210) S.1 S.2.1 dL_areReadings_191 (by decide) (fun c_191 => ?_) (fun c_191 => ?_)
                                      · have h2st := (nI_leI (a := 2) (b := st) (by decide) (by omega)).mp c_191
                                        refine lv_iload S.1 S.2.1 dL_areReadings_210 (lv_at hl 5 rfl) ?_
                                        refine lv_iload S.1 S.2.1 dL_areReadings_212 (lv_at hl 4 rfl) ?_
                                        refine lv_icmp_ne (tgt := 323) S.1 S.2.1 dL_areReadings_214 (by decide) (fun c_214 => ?_) (fun c_214 => ?_)
                                        · exact absurd (nI_imp (show 3 = st by omega)) c_214
                                        · refine g_cs (k := 40 * k) (n := 320 * k) (by omega) (by omega) ?_
                                          exact K217
                                      · have h2st := mt (nI_leI (a := 2) (b := st) (by decide) (by omega)).mpr c_191
                                        refine lv_iload S.1 S.2.1 dL_areReadings_194 (lv_at hl 5 rfl) ?_
                                        refine lv_iconst (v := 4) S.1 S.2.1 dL_areReadings_196 (by decide) ?_
                                        refine lv_icmp_ge (tgt := 323) S.1 S.2.1 dL_areReadings_197 (by decide) (fun c_197 => ?_) (fun c_197 => ?_)
                                        · exact absurd c_197 (by decide)
                                        · refine lv_iload S.1 S.2.1 dL_areReadings_200 (lv_at hl 5 rfl) ?_
                                          refine lv_iload S.1 S.2.1 dL_areReadings_202 (lv_at hl 4 rfl) ?_
                                          refine lv_icmp_lt (tgt := 323) S.1 S.2.1 dL_areReadings_204 (by decide) (fun c_204 => ?_) (fun c_204 => ?_)
                                          · exact absurd ((nI_ltI (a := 3) (b := st) (by decide) (by omega)).mp c_204) (by omega)
                                          · refine lv_goto (tgt := 217) S.1 S.2.1 dL_areReadings_207 (by decide) ?_
                                            refine g_cs (k := 40 * k) (n := 320 * k) (by omega) (by omega) ?_
                                            exact K217
                                    · refine lv_aload_n S.1 S.2.1 dL_areReadings_217 rfl (lv_at hl 10 rfl) ?_
                                      refine lv_iload S.1 S.2.1 dL_areReadings_218 (lv_at hl 6 rfl) ?_
                                      refine lv_iconst (v := 0) S.1 S.2.1 dL_areReadings_220 (by decide) ?_
                                      refine gx_cVi S G hF hl 7 (hV 7 _ (by first | decide | (show _ < 1; omega))) (by decide) (c_X6_textAt l hlf ids ad _ _ _ hV hW hI (fun _ => by rw [tN_nI (by omega)]; exact hvx)) (cwV 2 S.2.2.2.2 gL_areReadings_X6_textAt rfl rfl rfl (by decide +kernel) ⟨Nat.le_of_ble_eq_true rfl, Nat.le_of_ble_eq_true rfl⟩) rfl rfl (Nat.le_of_ble_eq_true rfl) dL_areReadings_221 ⟨by show _ ≤ 2480; omega, by show _ ≤ 19840; omega⟩ (fun _ _ _ _ _ _ hp _ _ _ _ => (xE_0 hp.1 (txT_0 hlt hn hn80 (by decide))).elim) (fun r_221 u_221 H locs hp_221 G => ?_)
                                      obtain ⟨-, rfl, rfl⟩ := hp_221
                                      have G : gS D aC A s ids ad (gk _) H locs := G
                                      refine g_top (show _ = 97 + nI s9 from by rw [tN_nI (by omega)]; exact t0) ?_
                                      refine lv_bipush (v := 97) S.1 S.2.1 dL_areReadings_224 (by decide) ?_
                                      refine lv_aload_n S.1 S.2.1 dL_areReadings_226 rfl (lv_at hl 9 rfl) ?_
                                      refine lv_iload S.1 S.2.1 dL_areReadings_227 (lv_at hl 6 rfl) ?_
                                      refine k_iald S G 20 h20 rfl rfl rfl rfl (show k < 64 by omega) dL_areReadings_229 ?_
                                      refine lv_bipush (v := 15) S.1 S.2.1 dL_areReadings_230 (by decide) ?_
                                      refine lv_iand S.1 S.2.1 dL_areReadings_232 ?_
                                      refine g_top (show _ = nI s9 from by rw [b14]; exact enc_s (by omega) (by omega) (by omega) (by omega)) ?_
                                      refine lv_iadd S.1 S.2.1 dL_areReadings_233 ?_
                                      refine lv_icmp_ne (tgt := 323) S.1 S.2.1 dL_areReadings_234 (by decide) (fun c_234 => ?_) (fun c_234 => ?_)
                                      · exact absurd rfl c_234
                                      · refine lv_aload_n S.1 S.2.1 dL_areReadings_237 rfl (lv_at hl 10 rfl) ?_
                                        refine lv_iload S.1 S.2.1 dL_areReadings_238 (lv_at hl 6 rfl) ?_
                                        refine lv_iconst (v := 1) S.1 S.2.1 dL_areReadings_240 (by decide) ?_
                                        refine gx_cVi S G hF hl 7 (hV 7 _ (by first | decide | (show _ < 1; omega))) (by decide) (c_X6_textAt l hlf ids ad _ _ _ hV hW hI (fun _ => by rw [tN_nI (by omega)]; exact hvx)) (cwV 2 S.2.2.2.2 gL_areReadings_X6_textAt rfl rfl rfl (by decide +kernel) ⟨Nat.le_of_ble_eq_true rfl, Nat.le_of_ble_eq_true rfl⟩) rfl rfl (Nat.le_of_ble_eq_true rfl) dL_areReadings_241 ⟨by show _ ≤ 2480; omega, by show _ ≤ 19840; omega⟩ (fun _ _ _ _ _ _ hp _ _ _ _ => (xE_0 hp.1 (txT_0 hlt hn hn80 (by decide))).elim) (fun r_241 u_241 H locs hp_241 G => ?_)
                                        obtain ⟨-, rfl, rfl⟩ := hp_241
                                        have G : gS D aC A s ids ad (gk _) H locs := G
                                        refine g_top (show _ = 48 + nI v9 / 10 from by rw [tN_nI (by omega)]; exact (t2 hd).1) ?_
                                        refine lv_bipush (v := 48) S.1 S.2.1 dL_areReadings_244 (by decide) ?_
                                        refine lv_iload S.1 S.2.1 dL_areReadings_246 (lv_at hl 2 rfl) ?_
                                        refine lv_iconst (v := 1) S.1 S.2.1 dL_areReadings_248 (by decide) ?_
                                        refine lv_icmp_ne (tgt := 257) S.1 S.2.1 dL_areReadings_249 (by decide) (fun c_249 => ?_) (fun c_249 => ?_)
                                        · refine lv_iload S.1 S.2.1 dL_areReadings_257 (lv_at hl 3 rfl) ?_
                                          refine lv_bipush (v := 10) S.1 S.2.1 dL_areReadings_259 (by decide) ?_
                                          refine lv_idiv S.1 S.2.1 dL_areReadings_261 (by decide) ?_
                                          refine lv_iadd S.1 S.2.1 dL_areReadings_262 ?_
                                          refine lv_icmp_ne (tgt := 323) S.1 S.2.1 dL_areReadings_263 (by decide) (fun c_263 => ?_) (fun c_263 => ?_)
                                          · exact absurd rfl c_263
                                          · refine lv_iload S.1 S.2.1 dL_areReadings_266 (lv_at hl 2 rfl) ?_
                                            refine lv_iconst (v := 1) S.1 S.2.1 dL_areReadings_268 (by decide) ?_
                                            refine lv_icmp_eq (tgt := 290) S.1 S.2.1 dL_areReadings_269 (by decide) (fun c_269 => ?_) (fun c_269 => ?_)
                                            · exact absurd c_269 (by decide)
                                            · refine lv_aload_n S.1 S.2.1 dL_areReadings_272 rfl (lv_at hl 10 rfl) ?_
                                              refine lv_iload S.1 S.2.1 dL_areReadings_273 (lv_at hl 6 rfl) ?_
                                              refine lv_iconst (v := 2) S.1 S.2.1 dL_areReadings_275 (by decide) ?_
                                              refine gx_cVi S G hF hl 7 (hV 7 _ (by first | decide | (show _ < 1; omega))) (by decide) (c_X6_textAt l hlf ids ad _ _ _ hV hW hI (fun _ => by rw [tN_nI (by omega)]; exact hvx)) (cwV 2 S.2.2.2.2 gL_areReadings_X6_textAt rfl rfl rfl (by decide +kernel) ⟨Nat.le_of_ble_eq_true rfl, Nat.le_of_ble_eq_true rfl⟩) rfl rfl (Nat.le_of_ble_eq_true rfl) dL_areReadings_276 ⟨by show _ ≤ 2480; omega, by show _ ≤ 19840; omega⟩ (fun _ _ _ _ _ _ hp _ _ _ _ => (xE_0 hp.1 (txT_0 hlt hn hn80 (by decide))).elim) (fun r_276 u_276 H locs hp_276 G => ?_)
                                              obtain ⟨-, rfl, rfl⟩ := hp_276
                                              have G : gS D aC A s ids ad (gk _) H locs := G
                                              refine g_top (show _ = 48 + (nI v9 - nI v9 / 10 * 10) from by rw [tN_nI (by omega)]; exact (t2 hd).2.1) ?_
                                              refine lv_bipush (v := 48) S.1 S.2.1 dL_areReadings_279 (by decide) ?_
                                              refine lv_iload S.1 S.2.1 dL_areReadings_281 (lv_at hl 3 rfl) ?_
                                              refine lv_bipush (v := 10) S.1 S.2.1 dL_areReadings_283 (by decide) ?_
                                              refine lv_irem S.1 S.2.1 dL_areReadings_285 (by decide) ?_
                                              refine lv_iadd S.1 S.2.1 dL_areReadings_286 ?_
                                              refine lv_icmp_ne (tgt := 323) S.1 S.2.1 dL_areReadings_287 (by decide) (fun c_287 => ?_) (fun c_287 => ?_)
                                              · exact absurd rfl c_287
                                              · refine lv_aload_n S.1 S.2.1 dL_areReadings_290 rfl (lv_at hl 10 rfl) ?_
                                                refine lv_iload S.1 S.2.1 dL_areReadings_291 (lv_at hl 6 rfl) ?_
                                                refine lv_iload S.1 S.2.1 dL_areReadings_293 (lv_at hl 2 rfl) ?_
                                                refine lv_iconst (v := 1) S.1 S.2.1 dL_areReadings_295 (by decide) ?_
                                                refine lv_iadd S.1 S.2.1 dL_areReadings_296 ?_
                                                refine g_top (show _ = (3 : Int32) from by decide) ?_
                                                refine gx_cVi S G hF hl 7 (hV 7 _ (by first | decide | (show _ < 1; omega))) (by decide) (c_X6_textAt l hlf ids ad _ _ _ hV hW hI (fun _ => by rw [tN_nI (by omega)]; exact hvx)) (cwV 2 S.2.2.2.2 gL_areReadings_X6_textAt rfl rfl rfl (by decide +kernel) ⟨Nat.le_of_ble_eq_true rfl, Nat.le_of_ble_eq_true rfl⟩) rfl rfl (Nat.le_of_ble_eq_true rfl) dL_areReadings_297 ⟨by show _ ≤ 2480; omega, by show _ ≤ 19840; omega⟩ (fun _ _ _ _ _ _ hp _ _ _ _ => (xE_0 hp.1 (txT_0 hlt hn hn80 (by decide))).elim) (fun r_297 u_297 H locs hp_297 G => ?_)
                                                obtain ⟨-, rfl, rfl⟩ := hp_297
                                                have G : gS D aC A s ids ad (gk _) H locs := G
                                                refine g_top (show _ = (45 : Int32) from by rw [tN_nI (by omega)]; exact (t2 hd).2.2.1.trans e3s) ?_
                                                refine lv_iload S.1 S.2.1 dL_areReadings_300 (lv_at hl 0 rfl) ?_
                                                refine lv_icmp_ne (tgt := 323) S.1 S.2.1 dL_areReadings_302 (by decide) (fun c_302 => ?_) (fun c_302 => ?_)
                                                · exact absurd c_302 (by decide)
                                                · refine lv_aload_n S.1 S.2.1 dL_areReadings_305 rfl (lv_at hl 10 rfl) ?_
                                                  refine lv_iload S.1 S.2.1 dL_areReadings_306 (lv_at hl 6 rfl) ?_
                                                  refine lv_iload S.1 S.2.1 dL_areReadings_308 (lv_at hl 2 rfl) ?_
                                                  refine lv_iconst (v := 2) S.1 S.2.1 dL_areReadings_310 (by decide) ?_
                                                  refine lv_iadd S.1 S.2.1 dL_areReadings_311 ?_
                                                  refine g_top (show _ = (4 : Int32) from by decide) ?_
                                                  refine gx_cVi S G hF hl 7 (hV 7 _ (by first | decide | (show _ < 1; omega))) (by decide) (c_X6_textAt l hlf ids ad _ _ _ hV hW hI (fun _ => by rw [tN_nI (by omega)]; exact hvx)) (cwV 2 S.2.2.2.2 gL_areReadings_X6_textAt rfl rfl rfl (by decide +kernel) ⟨Nat.le_of_ble_eq_true rfl, Nat.le_of_ble_eq_true rfl⟩) rfl rfl (Nat.le_of_ble_eq_true rfl) dL_areReadings_312 ⟨by show _ ≤ 2480; omega, by show _ ≤ 19840; omega⟩ (fun _ _ _ _ _ _ hp _ _ _ _ => (xE_0 hp.1 (txT_0 hlt hn hn80 (by decide))).elim) (fun r_312 u_312 H locs hp_312 G => ?_)
                                                  obtain ⟨-, rfl, rfl⟩ := hp_312
                                                  have G : gS D aC A s ids ad (gk _) H locs := G
                                                  refine g_top (show _ = (-1 : Int32) from by rw [tN_nI (by omega)]; exact (t2 hd).2.2.2) ?_
                                                  refine lv_iconst (v := (-1)) S.1 S.2.1 dL_areReadings_315 (by decide) ?_
                                                  refine lv_icmp_ne (tgt := 323) S.1 S.2.1 dL_areReadings_316 (by decide) (fun c_316 => ?_) (fun c_316 => ?_)
                                                  · exact absurd c_316 (by decide)
                                                  · refine lv_iconst (v := 1) S.1 S.2.1 dL_areReadings_319 (by decide) ?_
                                                    refine lv_goto (tgt := 324) S.1 S.2.1 dL_areReadings_320 (by decide) ?_
                                                    refine lv_istore_n (lv' := [(3, _), (10, _), (9, _), (8, _), (7, _), (6, _), (5, _), (4, _), (2, _), (1, _), (0, _)]) S.1 S.2.1 dL_areReadings_324 rfl hl (by decide) rfl (fun ls hl => ?_)
                                                    refine lv_aload_n S.1 S.2.1 dL_areReadings_325 rfl (lv_at hl 10 rfl) ?_
                                                    refine lv_iload S.1 S.2.1 dL_areReadings_326 (lv_at hl 7 rfl) ?_
                                                    refine g_cVi S G hF hl 7 (hV 7 _ (by first | decide | (show _ < 1; omega))) (by decide) (c_X6_usersk l ids ad _ _ hV hW hlt) (cwV 1 S.2.2.2.2 gL_areReadings_X6_users rfl rfl rfl (by decide +kernel) ⟨Nat.le_of_ble_eq_true rfl, Nat.le_of_ble_eq_true rfl⟩) rfl rfl (Nat.le_of_ble_eq_true rfl) dL_areReadings_328 ⟨by show _ ≤ 2480; omega, by show _ ≤ 19840; omega⟩ (fun r_328 u_328 H locs hp_328 G => ?_)
                                                    obtain ⟨rfl, rfl⟩ := hp_328
                                                    have G : gS D aC A s ids ad (gk _) H locs := G
                                                    refine g_top b13 ?_
                                                    refine lv_istore (lv' := [(11, _), (3, _), (10, _), (9, _), (8, _), (7, _), (6, _), (5, _), (4, _), (2, _), (1, _), (0, _)]) S.1 S.2.1 dL_areReadings_331 hl (by decide) rfl (fun ls hl => ?_)
                                                    refine lv_aload_n S.1 S.2.1 dL_areReadings_333 rfl (lv_at hl 11 rfl) ?_
                                                    refine lv_iload S.1 S.2.1 dL_areReadings_334 (lv_at hl 8 rfl) ?_
                                                    refine g_cVi S G hF hl 7 (hV 7 _ (by first | decide | (show _ < 1; omega))) (by decide) (c_X6_heldk l ids ad _ _ hV hW hlt) (cwV 1 S.2.2.2.2 gL_areReadings_X6_held rfl rfl rfl (by decide +kernel) ⟨Nat.le_of_ble_eq_true rfl, Nat.le_of_ble_eq_true rfl⟩) rfl rfl (Nat.le_of_ble_eq_true rfl) dL_areReadings_336 ⟨by show _ ≤ 2480; omega, by show _ ≤ 19840; omega⟩ (fun r_336 u_336 H locs hp_336 G => ?_)
                                                    obtain ⟨rfl, rfl⟩ := hp_336
                                                    have G : gS D aC A s ids ad (gk _) H locs := G
                                                    refine g_top c1 ?_
                                                    refine lv_istore (lv' := [(12, _), (11, _), (3, _), (10, _), (9, _), (8, _), (7, _), (6, _), (5, _), (4, _), (2, _), (1, _), (0, _)]) S.1 S.2.1 dL_areReadings_339 hl (by decide) rfl (fun ls hl => ?_)
                                                    refine lv_iload_n S.1 S.2.1 dL_areReadings_341 rfl (lv_at hl 2 rfl) ?_
                                                    refine lv_if_eq (tgt := 492) S.1 S.2.1 dL_areReadings_342 (by decide) (fun c_342 => ?_) (fun c_342 => ?_)
                                                    · exact absurd c_342 (by decide)
                                                    · refine lv_iload S.1 S.2.1 dL_areReadings_345 (lv_at hl 1 rfl) ?_
                                                      refine lv_if_lt (tgt := 492) S.1 S.2.1 dL_areReadings_347 (by decide) (fun c_347 => ?_) (fun c_347 => ?_)
                                                      · exact absurd c_347 (nI_pos (by omega))
                                                      · refine lv_iload S.1 S.2.1 dL_areReadings_350 (lv_at hl 1 rfl) ?_
                                                        refine lv_bipush (v := 6) S.1 S.2.1 dL_areReadings_352 (by decide) ?_
                                                        refine lv_icmp_gt (tgt := 492) S.1 S.2.1 dL_areReadings_354 (by decide) (fun c_354 => ?_) (fun c_354 => ?_)
                                                        · exact absurd c_354 (not_gt (n := 6) (ixL.nI (by omega) (by decide)) (by decide))
                                                        · refine lv_iload S.1 S.2.1 dL_areReadings_357 (lv_at hl 0 rfl) ?_
                                                          refine lv_bipush (v := 20) S.1 S.2.1 dL_areReadings_359 (by decide) ?_
                                                          refine lv_iload S.1 S.2.1 dL_areReadings_361 (lv_at hl 1 rfl) ?_
                                                          refine lv_imul S.1 S.2.1 dL_areReadings_363 ?_
                                                          refine g_top (pk_mul 20 U) ?_
                                                          refine lv_icmp_gt (tgt := 492) S.1 S.2.1 dL_areReadings_364 (by decide) (fun c_364 => ?_) (fun c_364 => ?_)
                                                          · exact absurd ((nI_ltI (by omega) (by omega)).mp c_364) (by omega)
                                                          · refine lv_iload S.1 S.2.1 dL_areReadings_367 (lv_at hl 8 rfl) ?_
                                                            refine lv_iconst (v := 2) S.1 S.2.1 dL_areReadings_369 (by decide) ?_
                                                            refine lv_icmp_ge (tgt := 383) S.1 S.2.1 dL_areReadings_370 (by decide) (fun c_370 => ?_) (fun c_370 => ?_)
                                                            · refine lv_iload S.1 S.2.1 dL_areReadings_383 (lv_at hl 0 rfl) ?_
                                                              refine lv_if_ne (tgt := 492) S.1 S.2.1 dL_areReadings_385 (by decide) (fun c_385 => ?_) (fun c_385 => ?_)
                                                              · exact absurd (nI_imp (show Hd = 0 by omega)) c_385
                                                              · refine lv_iload S.1 S.2.1 dL_areReadings_388 (lv_at hl 8 rfl) ?_
                                                                refine lv_iconst (v := 4) S.1 S.2.1 dL_areReadings_390 (by decide) ?_
                                                                refine lv_icmp_lt (tgt := 399) S.1 S.2.1 dL_areReadings_391 (by decide) (fun c_391 => ?_) (fun c_391 => ?_)
                                                                · refine lv_iload S.1 S.2.1 dL_areReadings_399 (lv_at hl 8 rfl) ?_
                                                                  refine lv_iconst (v := 3) S.1 S.2.1 dL_areReadings_401 (by decide) ?_
                                                                  refine lv_icmp_ne (tgt := 440) S.1 S.2.1 dL_areReadings_402 (by decide) (fun c_402 => ?_) (fun c_402 => ?_)
                                                                  · exact absurd c_402 (by decide)
                                                                  · refine g_cs (k := 40 * k + 40) (n := 320 * k + 320) (by omega) (by omega) ?_
                                                                    refine jnH (X := fun H locs => W p l e (headSpec wsL_areReadings ({ frames := 8, cells := 2480, slots := 19840, locals := 135 } : Room)).room s m ([.ref (ad 7 0), .ref (ad 20 0), .ref (ad 21 0)] : List Value).toArray below meth c H locs (40 * k + 40) (320 * k + 320) (MQ below (va_Qi (fun q u => q = 1 ∧ ∃ κ', u = (ids, ad, gk κ') ∧ PL N B ids κ') (gE D aC A) A) ([.ref (ad 7 0), .ref (ad 20 0), .ref (ad 21 0)] : List Value).toArray s 2480 19840 A) (F0 m 488 ls [])) (fun H locs => gS D aC A s ids ad (gk κ1) H locs) (fun K488 => ?_) (fun H locs G => ?_)
                                                                    · refine lv_aload_n S.1 S.2.1 dL_areReadings_405 rfl (lv_at hl 12 rfl) ?_
                                                                      refine lv_iload S.1 S.2.1 dL_areReadings_406 (lv_at hl 9 rfl) ?_
                                                                      refine g_cVi S G hF hl 7 (hV 7 _ (by first | decide | (show _ < 1; omega))) (by decide) (c_X6_middlek l ids ad _ _ hV hW hlt) (cwV 1 S.2.2.2.2 gL_areReadings_X6_middle rfl rfl rfl (by decide +kernel) ⟨Nat.le_of_ble_eq_true rfl, Nat.le_of_ble_eq_true rfl⟩) rfl rfl (Nat.le_of_ble_eq_true rfl) dL_areReadings_408 ⟨by show _ ≤ 2480; omega, by show _ ≤ 19840; omega⟩ (fun r_408 u_408 H locs hp_408 G => ?_)
                                                                      obtain ⟨rfl, rfl⟩ := hp_408
                                                                      have G : gS D aC A s ids ad (gk _) H locs := G
                                                                      refine g_top (m4 rfl).1 ?_
                                                                      refine lv_if_lt (tgt := 492) S.1 S.2.1 dL_areReadings_411 (by decide) (fun c_411 => ?_) (fun c_411 => ?_)
                                                                      · exact absurd c_411 (nI_pos (by omega))
                                                                      · have hm34 := (m4 rfl).2
                                                                        refine lv_aload_n S.1 S.2.1 dL_areReadings_414 rfl (lv_at hl 12 rfl) ?_
                                                                        refine lv_iload S.1 S.2.1 dL_areReadings_415 (lv_at hl 9 rfl) ?_
                                                                        refine g_cVi S G hF hl 7 (hV 7 _ (by first | decide | (show _ < 1; omega))) (by decide) (c_X6_middlek l ids ad _ _ hV hW hlt) (cwV 1 S.2.2.2.2 gL_areReadings_X6_middle rfl rfl rfl (by decide +kernel) ⟨Nat.le_of_ble_eq_true rfl, Nat.le_of_ble_eq_true rfl⟩) rfl rfl (Nat.le_of_ble_eq_true rfl) dL_areReadings_417 ⟨by show _ ≤ 2480; omega, by show _ ≤ 19840; omega⟩ (fun r_417 u_417 H locs hp_417 G => ?_)
                                                                        obtain ⟨rfl, rfl⟩ := hp_417
                                                                        have G : gS D aC A s ids ad (gk _) H locs := G
                                                                        refine g_top (m4 rfl).1 ?_
                                                                        refine lv_iload S.1 S.2.1 dL_areReadings_420 (lv_at hl 6 rfl) ?_
                                                                        refine lv_isub S.1 S.2.1 dL_areReadings_422 ?_
                                                                        refine lv_iconst (v := 5) S.1 S.2.1 dL_areReadings_423 (by decide) ?_
                                                                        refine lv_icmp_gt (tgt := 440) S.1 S.2.1 dL_areReadings_424 (by decide) (fun c_424 => ?_) (fun c_424 => ?_)
                                                                        · refine lv_iload S.1 S.2.1 dL_areReadings_440 (lv_at hl 8 rfl) ?_
                                                                          refine lv_iconst (v := 2) S.1 S.2.1 dL_areReadings_442 (by decide) ?_
                                                                          refine lv_icmp_lt (tgt := 488) S.1 S.2.1 dL_areReadings_443 (by decide) (fun c_443 => ?_) (fun c_443 => ?_)
                                                                          · exact absurd c_443 (by decide)
                                                                          · refine lv_iload S.1 S.2.1 dL_areReadings_446 (lv_at hl 8 rfl) ?_
                                                                            refine lv_iconst (v := 3) S.1 S.2.1 dL_areReadings_448 (by decide) ?_
                                                                            refine lv_icmp_eq (tgt := 488) S.1 S.2.1 dL_areReadings_449 (by decide) (fun c_449 => ?_) (fun c_449 => ?_)
                                                                            · refine g_cs (k := 40 * k + 40) (n := 320 * k + 320) (by omega) (by omega) ?_
                                                                              exact K488 _ _ G
                                                                            · exact absurd c_449 (by decide)
                                                                        · refine lv_iload S.1 S.2.1 dL_areReadings_427 (lv_at hl 6 rfl) ?_
                                                                          refine lv_aload_n S.1 S.2.1 dL_areReadings_429 rfl (lv_at hl 12 rfl) ?_
                                                                          refine lv_iload S.1 S.2.1 dL_areReadings_430 (lv_at hl 9 rfl) ?_
                                                                          refine g_cVi S G hF hl 7 (hV 7 _ (by first | decide | (show _ < 1; omega))) (by decide) (c_X6_middlek l ids ad _ _ hV hW hlt) (cwV 1 S.2.2.2.2 gL_areReadings_X6_middle rfl rfl rfl (by decide +kernel) ⟨Nat.le_of_ble_eq_true rfl, Nat.le_of_ble_eq_true rfl⟩) rfl rfl (Nat.le_of_ble_eq_true rfl) dL_areReadings_432 ⟨by show _ ≤ 2480; omega, by show _ ≤ 19840; omega⟩ (fun r_432 u_432 H locs hp_432 G => ?_)
                                                                          obtain ⟨rfl, rfl⟩ := hp_432
                                                                          have G : gS D aC A s ids ad (gk _) H locs := G
                                                                          refine g_top (m4 rfl).1 ?_
                                                                          refine lv_isub S.1 S.2.1 dL_areReadings_435 ?_
                                                                          refine lv_iconst (v := 5) S.1 S.2.1 dL_areReadings_436 (by decide) ?_
                                                                          refine lv_icmp_le (tgt := 492) S.1 S.2.1 dL_areReadings_437 (by decide) (fun c_437 => ?_) (fun c_437 => ?_)
                                                                          · exact absurd ((sub_le5 (by omega) (by omega)).mp c_437) (by have h1 := mt (sub_gt5 (a := M) (b := v9) (by omega) (by omega)).mpr c_424; omega)
                                                                          · refine lv_iload S.1 S.2.1 dL_areReadings_440 (lv_at hl 8 rfl) ?_
                                                                            refine lv_iconst (v := 2) S.1 S.2.1 dL_areReadings_442 (by decide) ?_
                                                                            refine lv_icmp_lt (tgt := 488) S.1 S.2.1 dL_areReadings_443 (by decide) (fun c_443 => ?_) (fun c_443 => ?_)
                                                                            · exact absurd c_443 (by decide)
                                                                            · refine lv_iload S.1 S.2.1 dL_areReadings_446 (lv_at hl 8 rfl) ?_
                                                                              refine lv_iconst (v := 3) S.1 S.2.1 dL_areReadings_448 (by decide) ?_
                                                                              refine lv_icmp_eq (tgt := 488) S.1 S.2.1 dL_areReadings_449 (by decide) (fun c_449 => ?_) (fun c_449 => ?_)
                                                                              · refine g_cs (k := 40 * k + 40) (n := 320 * k + 320) (by omega) (by omega) ?_
                                                                                exact K488 _ _ G
                                                                              · exact absurd c_449 (by decide)
                                                                    · refine lv_iconst (v := 1) S.1 S.2.1 dL_areReadings_488 (by decide) ?_
                                                                      refine lv_goto (tgt := 493) S.1 S.2.1 dL_areReadings_489 (by decide) ?_
                                                                      refine lv_istore_n (lv' := [(3, _), (12, _), (11, _), (10, _), (9, _), (8, _), (7, _), (6, _), (5, _), (4, _), (2, _), (1, _), (0, _)]) S.1 S.2.1 dL_areReadings_493 rfl hl (by decide) rfl (fun ls hl => ?_)
                                                                      refine lv_iload_n S.1 S.2.1 dL_areReadings_494 rfl (lv_at hl 0 rfl) ?_
                                                                      refine lv_if_eq (tgt := 523) S.1 S.2.1 dL_areReadings_495 (by decide) (fun c_495 => ?_) (fun c_495 => ?_)
                                                                      · exact absurd c_495 (by decide)
                                                                      · refine lv_iload S.1 S.2.1 dL_areReadings_498 (lv_at hl 8 rfl) ?_
                                                                        refine lv_iconst (v := 1) S.1 S.2.1 dL_areReadings_500 (by decide) ?_
                                                                        refine lv_icmp_gt (tgt := 519) S.1 S.2.1 dL_areReadings_501 (by decide) (fun c_501 => ?_) (fun c_501 => ?_)
                                                                        · refine lv_iconst (v := 1) S.1 S.2.1 dL_areReadings_519 (by decide) ?_
                                                                          refine lv_goto (tgt := 524) S.1 S.2.1 dL_areReadings_520 (by decide) ?_
                                                                          refine lv_istore_n (lv' := [(3, _), (12, _), (11, _), (10, _), (9, _), (8, _), (7, _), (6, _), (5, _), (4, _), (2, _), (1, _), (0, _)]) S.1 S.2.1 dL_areReadings_524 rfl hl (by decide) rfl (fun ls hl => ?_)
                                                                          refine lv_aload_n S.1 S.2.1 dL_areReadings_525 rfl (lv_at hl 11 rfl) ?_
                                                                          refine lv_iload S.1 S.2.1 dL_areReadings_526 (lv_at hl 9 rfl) ?_
                                                                          refine lv_aload_n S.1 S.2.1 dL_areReadings_528 rfl (lv_at hl 11 rfl) ?_
                                                                          refine lv_iload S.1 S.2.1 dL_areReadings_529 (lv_at hl 9 rfl) ?_
                                                                          refine k_iald S G 20 h20 rfl rfl rfl rfl (show k < 64 by omega) dL_areReadings_531 ?_
                                                                          refine lv_sipush (v := (-14337)) S.1 S.2.1 dL_areReadings_532 (by decide) ?_
                                                                          refine lv_iand S.1 S.2.1 dL_areReadings_535 ?_
                                                                          refine lv_iload S.1 S.2.1 dL_areReadings_536 (lv_at hl 8 rfl) ?_
                                                                          refine lv_bipush (v := 11) S.1 S.2.1 dL_areReadings_538 (by decide) ?_
                                                                          refine lv_ishl S.1 S.2.1 dL_areReadings_540 ?_
                                                                          refine lv_ior S.1 S.2.1 dL_areReadings_541 ?_
                                                                          refine g_top (show _ = nI (enc τ 3 v9 s9) from by rw [b14]; exact enc_set (S := 3) (by omega) (by omega) (by omega) (by omega) (by decide)) ?_
                                                                          refine k_iast S G 20 h20 rfl rfl rfl rfl (show k < 64 by omega) dL_areReadings_542 (fun H locs G => ?_)
                                                                          refine lv_iinc (k := 9) (lv' := [(4, _), (3, _), (12, _), (11, _), (10, _), (9, _), (8, _), (7, _), (6, _), (5, _), (2, _), (1, _), (0, _)]) S.1 S.2.1 dL_areReadings_543 hl rfl (g_inc _) (by decide) rfl (fun ls hl => ?_)
                                                                          refine lv_goto (tgt := 29) S.1 S.2.1 dL_areReadings_546 (by decide) ?_
                                                                          refine W.widen (k := 40 * (k + 1)) (n := 320 * (k + 1)) (by omega) (by omega) ?_
                                                                          exact ih_29 (k + 1, upd3 κ1 20 0 k (nI (enc τ 3 v9 s9))) H locs ls ⟨by show k + 1 ≤ nn; omega, J1.setv hlt b1 b2 (by decide) b9 b10 b11 b7 (fun z => (b16 z).1), hnk⟩ (by show nn - (k + 1) < nn - k; omega) G (lv_sub hl [0, 1, 10, 11, 12] rfl)
                                                                        · exact absurd c_501 (by decide)
                                                                · exact absurd c_391 (by decide)
                                                            · exact absurd c_370 (by decide)
                                        · exact absurd c_249 (by decide)
                            · exact absurd hP c_166
                          · exact absurd c_155 (by decide)
                  · exact absurd c_118 (by decide)
                · exact absurd c_107 (by decide)
              · exact absurd c_96 (by decide)
            · have hd : v9 < 10 := by have := mt (nI_leI (a := 10) (b := v9) (by decide) (by omega)).mpr c_76; omega
              refine lv_iconst (v := 1) S.1 S.2.1 dL_areReadings_79 (by decide) ?_
              refine lv_goto (tgt := 84) S.1 S.2.1 dL_areReadings_80 (by decide) ?_
              refine lv_istore (lv' := [(8, _), (7, _), (6, _), (5, _), (4, _), (3, _), (2, _), (1, _), (0, _)]) S.1 S.2.1 dL_areReadings_84 hl (by decide) rfl (fun ls hl => ?_)
              refine lv_aload_n S.1 S.2.1 dL_areReadings_86 rfl (lv_at hl 8 rfl) ?_
              refine lv_iload S.1 S.2.1 dL_areReadings_87 (lv_at hl 4 rfl) ?_
              refine g_cVi S G hF hl 7 (hV 7 _ (by first | decide | (show _ < 1; omega))) (by decide) (c_X6_partsk l ids ad _ _ hV hW hlt) (cwV 1 S.2.2.2.2 gL_areReadings_X6_parts rfl rfl rfl (by decide +kernel) ⟨Nat.le_of_ble_eq_true rfl, Nat.le_of_ble_eq_true rfl⟩) rfl rfl (Nat.le_of_ble_eq_true rfl) dL_areReadings_89 ⟨by show _ ≤ 2480; omega, by show _ ≤ 19840; omega⟩ (fun r_89 u_89 H locs hp_89 G => ?_)
              obtain ⟨rfl, rfl⟩ := hp_89
              have G : gS D aC A s ids ad (gk _) H locs := G
              refine g_top b12 ?_
              refine lv_istore (lv' := [(9, _), (8, _), (7, _), (6, _), (5, _), (4, _), (3, _), (2, _), (1, _), (0, _)]) S.1 S.2.1 dL_areReadings_92 hl (by decide) rfl (fun ls hl => ?_)
              refine lv_iload S.1 S.2.1 dL_areReadings_94 (lv_at hl 4 rfl) ?_
              refine lv_if_ne (tgt := 104) S.1 S.2.1 dL_areReadings_96 (by decide) (fun c_96 => ?_) (fun c_96 => ?_)
              · refine lv_iload S.1 S.2.1 dL_areReadings_104 (lv_at hl 4 rfl) ?_
                refine lv_iconst (v := 1) S.1 S.2.1 dL_areReadings_106 (by decide) ?_
                refine lv_icmp_ne (tgt := 115) S.1 S.2.1 dL_areReadings_107 (by decide) (fun c_107 => ?_) (fun c_107 => ?_)
                · refine lv_iload S.1 S.2.1 dL_areReadings_115 (lv_at hl 4 rfl) ?_
                  refine lv_iconst (v := 2) S.1 S.2.1 dL_areReadings_117 (by decide) ?_
                  refine lv_icmp_ne (tgt := 126) S.1 S.2.1 dL_areReadings_118 (by decide) (fun c_118 => ?_) (fun c_118 => ?_)
                  · refine lv_iload S.1 S.2.1 dL_areReadings_126 (lv_at hl 4 rfl) ?_
                    refine lv_iconst (v := 3) S.1 S.2.1 dL_areReadings_128 (by decide) ?_
                    refine lv_icmp_ne (tgt := 137) S.1 S.2.1 dL_areReadings_129 (by decide) (fun c_129 => ?_) (fun c_129 => ?_)
                    · exact absurd c_129 (by decide)
                    · refine lv_bipush (v := 45) S.1 S.2.1 dL_areReadings_132 (by decide) ?_
                      refine lv_goto (tgt := 139) S.1 S.2.1 dL_areReadings_134 (by decide) ?_
                      refine lv_istore (lv' := [(10, _), (9, _), (8, _), (7, _), (6, _), (5, _), (4, _), (3, _), (2, _), (1, _), (0, _)]) S.1 S.2.1 dL_areReadings_139 hl (by decide) rfl (fun ls hl => ?_)
                      refine lv_iload S.1 S.2.1 dL_areReadings_141 (lv_at hl 5 rfl) ?_
                      refine lv_if_lt (tgt := 323) S.1 S.2.1 dL_areReadings_143 (by decide) (fun c_143 => ?_) (fun c_143 => ?_)
                      · exact absurd c_143 (by decide)
                      · refine lv_iload S.1 S.2.1 dL_areReadings_146 (lv_at hl 5 rfl) ?_
                        refine lv_iconst (v := 4) S.1 S.2.1 dL_areReadings_148 (by decide) ?_
                        refine lv_icmp_gt (tgt := 323) S.1 S.2.1 dL_areReadings_149 (by decide) (fun c_149 => ?_) (fun c_149 => ?_)
                        · exact absurd c_149 (by decide)
                        · refine lv_iload S.1 S.2.1 dL_areReadings_152 (lv_at hl 5 rfl) ?_
                          refine lv_iconst (v := 4) S.1 S.2.1 dL_areReadings_154 (by decide) ?_
                          refine lv_icmp_ne (tgt := 162) S.1 S.2.1 dL_areReadings_155 (by decide) (fun c_155 => ?_) (fun c_155 => ?_)
                          · refine lv_iconst (v := 0) S.1 S.2.1 dL_areReadings_162 (by decide) ?_
                            refine lv_iload S.1 S.2.1 dL_areReadings_163 (lv_at hl 1 rfl) ?_
                            refine lv_iconst (v := 3) S.1 S.2.1 dL_areReadings_165 (by decide) ?_
                            refine lv_icmp_ge (tgt := 173) S.1 S.2.1 dL_areReadings_166 (by decide) (fun c_166 => ?_) (fun c_166 => ?_)
                            · refine lv_iconst (v := 0) S.1 S.2.1 dL_areReadings_173 (by decide) ?_
                              refine lv_icmp_ne (tgt := 323) S.1 S.2.1 dL_areReadings_174 (by decide) (fun c_174 => ?_) (fun c_174 => ?_)
                              · exact absurd c_174 (by decide)
                              · refine lv_iload S.1 S.2.1 dL_areReadings_177 (lv_at hl 1 rfl) ?_
                                refine lv_if_lt (tgt := 323) S.1 S.2.1 dL_areReadings_179 (by decide) (fun c_179 => ?_) (fun c_179 => ?_)
                                · exact absurd c_179 (nI_pos (by omega))
                                · refine lv_iload S.1 S.2.1 dL_areReadings_182 (lv_at hl 1 rfl) ?_
                                  refine lv_iconst (v := 4) S.1 S.2.1 dL_areReadings_184 (by decide) ?_
                                  refine lv_icmp_gt (tgt := 323) S.1 S.2.1 dL_areReadings_185 (by decide) (fun c_185 => ?_) (fun c_185 => ?_)
                                  · exact absurd c_185 (not_gt (n := 4) (ixL.nI (by omega) (by decide)) (by decide))
                                  · refine g_cs (k := 40 * k) (n := 320 * k) (by omega) (by omega) ?_
                                    refine jn2 (X := W p l e (headSpec wsL_areReadings ({ frames := 8, cells := 2480, slots := 19840, locals := 135 } : Room)).room s m ([.ref (ad 7 0), .ref (ad 20 0), .ref (ad 21 0)] : List Value).toArray below meth c H locs (40 * k) (320 * k) (MQ below (va_Qi (fun q u => q = 1 ∧ ∃ κ', u = (ids, ad, gk κ') ∧ PL N B ids κ') (gE D aC A) A) ([.ref (ad 7 0), .ref (ad 20 0), .ref (ad 21 0)] : List Value).toArray s 2480 19840 A) (F0 m 217 ls [])) (fun K217 => ?_) ?_
                                    · refine lv_iload S.1 S.2.1 dL_areReadings_188 (lv_at hl 4 rfl) ?_
                                      refine lv_iconst (v := 2) S.1 S.2.1 dL_areReadings_190 (by decide) ?_
                                      refine lv_icmp_ge (tgt := 210) S.1 S.2.1 dL_areReadings_191 (by decide) (fun c_191 => ?_) (fun c_191 => ?_)
                                      · have h2st := (nI_leI (a := 2) (b := st) (by decide) (by omega)).mp c_191
                                        refine lv_iload S.1 S.2.1 dL_areReadings_210 (lv_at hl 5 rfl) ?_
                                        refine lv_iload S.1 S.2.1 dL_areReadings_212 (lv_at hl 4 rfl) ?_
                                        refine lv_icmp_ne (tgt := 323) S.1 S.2.1 dL_areReadings_214 (by decide) (fun c_214 => ?_) (fun c_214 => ?_)
                                        · exact absurd (nI_imp (show 3 = st by omega)) c_214
                                        · refine g_cs (k := 40 * k) (n := 320 * k) (by omega) (by omega) ?_
                                          exact K217
                                      · have h2st := mt (nI_leI (a := 2) (b := st) (by decide) (by omega)).mpr c_191
                                        refine lv_iload S.1 S.2.1 dL_areReadings_194 (lv_at hl 5 rfl) ?_
                                        refine lv_iconst (v := 4) S.1 S.2.1 dL_areReadings_196 (by decide) ?_
                                        refine lv_icmp_ge (tgt := 323) S.1 S.2.1 dL_areReadings_197 (by decide) (fun c_197 => ?_) (fun c_197 => ?_)
                                        · exact absurd c_197 (by decide)
                                        · refine lv_iload S.1 S.2.1 dL_areReadings_200 (lv_at hl 5 rfl) ?_
                                          refine lv_iload S.1 S.2.1 dL_areReadings_202 (lv_at hl 4 rfl) ?_
                                          refine lv_icmp_lt (tgt := 323) S.1 S.2.1 dL_areReadings_204 (by decide) (fun c_204 => ?_) (fun c_204 => ?_)
                                          · exact absurd ((nI_ltI (a := 3) (b := st) (by decide) (by omega)).mp c_204) (by omega)
                                          · refine lv_goto (tgt := 217) S.1 S.2.1 dL_areReadings_207 (by decide) ?_
                                            refine g_cs (k := 40 * k) (n := 320 * k) (by omega) (by omega) ?_
                                            exact K217
                                    · refine lv_aload_n S.1 S.2.1 dL_areReadings_217 rfl (lv_at hl 10 rfl) ?_
                                      refine lv_iload S.1 S.2.1 dL_areReadings_218 (lv_at hl 6 rfl) ?_
                                      refine lv_iconst (v := 0) S.1 S.2.1 dL_areReadings_220 (by decide) ?_
                                      refine gx_cVi S G hF hl 7 (hV 7 _ (by first | decide | (show _ < 1; omega))) (by decide) (c_X6_textAt l hlf ids ad _ _ _ hV hW hI (fun _ => by rw [tN_nI (by omega)]; exact hvx)) (cwV 2 S.2.2.2.2 gL_areReadings_X6_textAt rfl rfl rfl (by decide +kernel) ⟨Nat.le_of_ble_eq_true rfl, Nat.le_of_ble_eq_true rfl⟩) rfl rfl (Nat.le_of_ble_eq_true rfl) dL_areReadings_221 ⟨by show _ ≤ 2480; omega, by show _ ≤ 19840; omega⟩ (fun _ _ _ _ _ _ hp _ _ _ _ => (xE_0 hp.1 (txT_0 hlt hn hn80 (by decide))).elim) (fun r_221 u_221 H locs hp_221 G => ?_)
                                      obtain ⟨-, rfl, rfl⟩ := hp_221
                                      have G : gS D aC A s ids ad (gk _) H locs := G
                                      refine g_top (show _ = 97 + nI s9 from by rw [tN_nI (by omega)]; exact t0) ?_
                                      refine lv_bipush (v := 97) S.1 S.2.1 dL_areReadings_224 (by decide) ?_
                                      refine lv_aload_n S.1 S.2.1 dL_areReadings_226 rfl (lv_at hl 9 rfl) ?_
                                      refine lv_iload S.1 S.2.1 dL_areReadings_227 (lv_at hl 6 rfl) ?_
                                      refine k_iald S G 20 h20 rfl rfl rfl rfl (show k < 64 by omega) dL_areReadings_229 ?_
                                      refine lv_bipush (v := 15) S.1 S.2.1 dL_areReadings_230 (by decide) ?_
                                      refine lv_iand S.1 S.2.1 dL_areReadings_232 ?_
                                      refine g_top (show _ = nI s9 from by rw [b14]; exact enc_s (by omega) (by omega) (by omega) (by omega)) ?_
                                      refine lv_iadd S.1 S.2.1 dL_areReadings_233 ?_
                                      refine lv_icmp_ne (tgt := 323) S.1 S.2.1 dL_areReadings_234 (by decide) (fun c_234 => ?_) (fun c_234 => ?_)
                                      · exact absurd rfl c_234
                                      · refine lv_aload_n S.1 S.2.1 dL_areReadings_237 rfl (lv_at hl 10 rfl) ?_
                                        refine lv_iload S.1 S.2.1 dL_areReadings_238 (lv_at hl 6 rfl) ?_
                                        refine lv_iconst (v := 1) S.1 S.2.1 dL_areReadings_240 (by decide) ?_
                                        refine gx_cVi S G hF hl 7 (hV 7 _ (by first | decide | (show _ < 1; omega))) (by decide) (c_X6_textAt l hlf ids ad _ _ _ hV hW hI (fun _ => by rw [tN_nI (by omega)]; exact hvx)) (cwV 2 S.2.2.2.2 gL_areReadings_X6_textAt rfl rfl rfl (by decide +kernel) ⟨Nat.le_of_ble_eq_true rfl, Nat.le_of_ble_eq_true rfl⟩) rfl rfl (Nat.le_of_ble_eq_true rfl) dL_areReadings_241 ⟨by show _ ≤ 2480; omega, by show _ ≤ 19840; omega⟩ (fun _ _ _ _ _ _ hp _ _ _ _ => (xE_0 hp.1 (txT_0 hlt hn hn80 (by decide))).elim) (fun r_241 u_241 H locs hp_241 G => ?_)
                                        obtain ⟨-, rfl, rfl⟩ := hp_241
                                        have G : gS D aC A s ids ad (gk _) H locs := G
                                        refine g_top (show _ = 48 + nI v9 from by rw [tN_nI (by omega)]; exact (t1 hd).1) ?_
                                        refine lv_bipush (v := 48) S.1 S.2.1 dL_areReadings_244 (by decide) ?_
                                        refine lv_iload S.1 S.2.1 dL_areReadings_246 (lv_at hl 2 rfl) ?_
                                        refine lv_iconst (v := 1) S.1 S.2.1 dL_areReadings_248 (by decide) ?_
                                        refine lv_icmp_ne (tgt := 257) S.1 S.2.1 dL_areReadings_249 (by decide) (fun c_249 => ?_) (fun c_249 => ?_)
                                        · exact absurd c_249 (by decide)
                                        · refine lv_iload S.1 S.2.1 dL_areReadings_252 (lv_at hl 3 rfl) ?_
                                          refine lv_goto (tgt := 262) S.1 S.2.1 dL_areReadings_254 (by decide) ?_
                                          refine lv_iadd S.1 S.2.1 dL_areReadings_262 ?_
                                          refine lv_icmp_ne (tgt := 323) S.1 S.2.1 dL_areReadings_263 (by decide) (fun c_263 => ?_) (fun c_263 => ?_)
                                          · exact absurd rfl c_263
                                          · refine lv_iload S.1 S.2.1 dL_areReadings_266 (lv_at hl 2 rfl) ?_
                                            refine lv_iconst (v := 1) S.1 S.2.1 dL_areReadings_268 (by decide) ?_
                                            refine lv_icmp_eq (tgt := 290) S.1 S.2.1 dL_areReadings_269 (by decide) (fun c_269 => ?_) (fun c_269 => ?_)
                                            · refine lv_aload_n S.1 S.2.1 dL_areReadings_290 rfl (lv_at hl 10 rfl) ?_
                                              refine lv_iload S.1 S.2.1 dL_areReadings_291 (lv_at hl 6 rfl) ?_
                                              refine lv_iload S.1 S.2.1 dL_areReadings_293 (lv_at hl 2 rfl) ?_
                                              refine lv_iconst (v := 1) S.1 S.2.1 dL_areReadings_295 (by decide) ?_
                                              refine lv_iadd S.1 S.2.1 dL_areReadings_296 ?_
                                              refine g_top (show _ = (2 : Int32) from by decide) ?_
                                              refine gx_cVi S G hF hl 7 (hV 7 _ (by first | decide | (show _ < 1; omega))) (by decide) (c_X6_textAt l hlf ids ad _ _ _ hV hW hI (fun _ => by rw [tN_nI (by omega)]; exact hvx)) (cwV 2 S.2.2.2.2 gL_areReadings_X6_textAt rfl rfl rfl (by decide +kernel) ⟨Nat.le_of_ble_eq_true rfl, Nat.le_of_ble_eq_true rfl⟩) rfl rfl (Nat.le_of_ble_eq_true rfl) dL_areReadings_297 ⟨by show _ ≤ 2480; omega, by show _ ≤ 19840; omega⟩ (fun _ _ _ _ _ _ hp _ _ _ _ => (xE_0 hp.1 (txT_0 hlt hn hn80 (by decide))).elim) (fun r_297 u_297 H locs hp_297 G => ?_)
                                              obtain ⟨-, rfl, rfl⟩ := hp_297
                                              have G : gS D aC A s ids ad (gk _) H locs := G
                                              refine g_top (show _ = (45 : Int32) from by rw [tN_nI (by omega)]; exact (t1 hd).2.1.trans e3s) ?_
                                              refine lv_iload S.1 S.2.1 dL_areReadings_300 (lv_at hl 0 rfl) ?_
                                              refine lv_icmp_ne (tgt := 323) S.1 S.2.1 dL_areReadings_302 (by decide) (fun c_302 => ?_) (fun c_302 => ?_)
                                              · exact absurd c_302 (by decide)
                                              · refine lv_aload_n S.1 S.2.1 dL_areReadings_305 rfl (lv_at hl 10 rfl) ?_
                                                refine lv_iload S.1 S.2.1 dL_areReadings_306 (lv_at hl 6 rfl) ?_
                                                refine lv_iload S.1 S.2.1 dL_areReadings_308 (lv_at hl 2 rfl) ?_
                                                refine lv_iconst (v := 2) S.1 S.2.1 dL_areReadings_310 (by decide) ?_
                                                refine lv_iadd S.1 S.2.1 dL_areReadings_311 ?_
                                                refine g_top (show _ = (3 : Int32) from by decide) ?_
                                                refine gx_cVi S G hF hl 7 (hV 7 _ (by first | decide | (show _ < 1; omega))) (by decide) (c_X6_textAt l hlf ids ad _ _ _ hV hW hI (fun _ => by rw [tN_nI (by omega)]; exact hvx)) (cwV 2 S.2.2.2.2 gL_areReadings_X6_textAt rfl rfl rfl (by decide +kernel) ⟨Nat.le_of_ble_eq_true rfl, Nat.le_of_ble_eq_true rfl⟩) rfl rfl (Nat.le_of_ble_eq_true rfl) dL_areReadings_312 ⟨by show _ ≤ 2480; omega, by show _ ≤ 19840; omega⟩ (fun _ _ _ _ _ _ hp _ _ _ _ => (xE_0 hp.1 (txT_0 hlt hn hn80 (by decide))).elim) (fun r_312 u_312 H locs hp_312 G => ?_)
                                                obtain ⟨-, rfl, rfl⟩ := hp_312
                                                have G : gS D aC A s ids ad (gk _) H locs := G
                                                refine g_top (show _ = (-1 : Int32) from by rw [tN_nI (by omega)]; exact (t1 hd).2.2) ?_
                                                refine lv_iconst (v := (-1)) S.1 S.2.1 dL_areReadings_315 (by decide) ?_
                                                refine lv_icmp_ne (tgt := 323) S.1 S.2.1 dL_areReadings_316 (by decide) (fun c_316 => ?_) (fun c_316 => ?_)
                                                · exact absurd c_316 (by decide)
                                                · refine lv_iconst (v := 1) S.1 S.2.1 dL_areReadings_319 (by decide) ?_
                                                  refine lv_goto (tgt := 324) S.1 S.2.1 dL_areReadings_320 (by decide) ?_
                                                  refine lv_istore_n (lv' := [(3, _), (10, _), (9, _), (8, _), (7, _), (6, _), (5, _), (4, _), (2, _), (1, _), (0, _)]) S.1 S.2.1 dL_areReadings_324 rfl hl (by decide) rfl (fun ls hl => ?_)
                                                  refine lv_aload_n S.1 S.2.1 dL_areReadings_325 rfl (lv_at hl 10 rfl) ?_
                                                  refine lv_iload S.1 S.2.1 dL_areReadings_326 (lv_at hl 7 rfl) ?_
                                                  refine g_cVi S G hF hl 7 (hV 7 _ (by first | decide | (show _ < 1; omega))) (by decide) (c_X6_usersk l ids ad _ _ hV hW hlt) (cwV 1 S.2.2.2.2 gL_areReadings_X6_users rfl rfl rfl (by decide +kernel) ⟨Nat.le_of_ble_eq_true rfl, Nat.le_of_ble_eq_true rfl⟩) rfl rfl (Nat.le_of_ble_eq_true rfl) dL_areReadings_328 ⟨by show _ ≤ 2480; omega, by show _ ≤ 19840; omega⟩ (fun r_328 u_328 H locs hp_328 G => ?_)
                                                  obtain ⟨rfl, rfl⟩ := hp_328
                                                  have G : gS D aC A s ids ad (gk _) H locs := G
                                                  refine g_top b13 ?_
                                                  refine lv_istore (lv' := [(11, _), (3, _), (10, _), (9, _), (8, _), (7, _), (6, _), (5, _), (4, _), (2, _), (1, _), (0, _)]) S.1 S.2.1 dL_areReadings_331 hl (by decide) rfl (fun ls hl => ?_)
                                                  refine lv_aload_n S.1 S.2.1 dL_areReadings_333 rfl (lv_at hl 11 rfl) ?_
                                                  refine lv_iload S.1 S.2.1 dL_areReadings_334 (lv_at hl 8 rfl) ?_
                                                  refine g_cVi S G hF hl 7 (hV 7 _ (by first | decide | (show _ < 1; omega))) (by decide) (c_X6_heldk l ids ad _ _ hV hW hlt) (cwV 1 S.2.2.2.2 gL_areReadings_X6_held rfl rfl rfl (by decide +kernel) ⟨Nat.le_of_ble_eq_true rfl, Nat.le_of_ble_eq_true rfl⟩) rfl rfl (Nat.le_of_ble_eq_true rfl) dL_areReadings_336 ⟨by show _ ≤ 2480; omega, by show _ ≤ 19840; omega⟩ (fun r_336 u_336 H locs hp_336 G => ?_)
                                                  obtain ⟨rfl, rfl⟩ := hp_336
                                                  have G : gS D aC A s ids ad (gk _) H locs := G
                                                  refine g_top c1 ?_
                                                  refine lv_istore (lv' := [(12, _), (11, _), (3, _), (10, _), (9, _), (8, _), (7, _), (6, _), (5, _), (4, _), (2, _), (1, _), (0, _)]) S.1 S.2.1 dL_areReadings_339 hl (by decide) rfl (fun ls hl => ?_)
                                                  refine lv_iload_n S.1 S.2.1 dL_areReadings_341 rfl (lv_at hl 2 rfl) ?_
                                                  refine lv_if_eq (tgt := 492) S.1 S.2.1 dL_areReadings_342 (by decide) (fun c_342 => ?_) (fun c_342 => ?_)
                                                  · exact absurd c_342 (by decide)
                                                  · refine lv_iload S.1 S.2.1 dL_areReadings_345 (lv_at hl 1 rfl) ?_
                                                    refine lv_if_lt (tgt := 492) S.1 S.2.1 dL_areReadings_347 (by decide) (fun c_347 => ?_) (fun c_347 => ?_)
                                                    · exact absurd c_347 (nI_pos (by omega))
                                                    · refine lv_iload S.1 S.2.1 dL_areReadings_350 (lv_at hl 1 rfl) ?_
                                                      refine lv_bipush (v := 6) S.1 S.2.1 dL_areReadings_352 (by decide) ?_
                                                      refine lv_icmp_gt (tgt := 492) S.1 S.2.1 dL_areReadings_354 (by decide) (fun c_354 => ?_) (fun c_354 => ?_)
                                                      · exact absurd c_354 (not_gt (n := 6) (ixL.nI (by omega) (by decide)) (by decide))
                                                      · refine lv_iload S.1 S.2.1 dL_areReadings_357 (lv_at hl 0 rfl) ?_
                                                        refine lv_bipush (v := 20) S.1 S.2.1 dL_areReadings_359 (by decide) ?_
                                                        refine lv_iload S.1 S.2.1 dL_areReadings_361 (lv_at hl 1 rfl) ?_
                                                        refine lv_imul S.1 S.2.1 dL_areReadings_363 ?_
                                                        refine g_top (pk_mul 20 U) ?_
                                                        refine lv_icmp_gt (tgt := 492) S.1 S.2.1 dL_areReadings_364 (by decide) (fun c_364 => ?_) (fun c_364 => ?_)
                                                        · exact absurd ((nI_ltI (by omega) (by omega)).mp c_364) (by omega)
                                                        · refine lv_iload S.1 S.2.1 dL_areReadings_367 (lv_at hl 8 rfl) ?_
                                                          refine lv_iconst (v := 2) S.1 S.2.1 dL_areReadings_369 (by decide) ?_
                                                          refine lv_icmp_ge (tgt := 383) S.1 S.2.1 dL_areReadings_370 (by decide) (fun c_370 => ?_) (fun c_370 => ?_)
                                                          · refine lv_iload S.1 S.2.1 dL_areReadings_383 (lv_at hl 0 rfl) ?_
                                                            refine lv_if_ne (tgt := 492) S.1 S.2.1 dL_areReadings_385 (by decide) (fun c_385 => ?_) (fun c_385 => ?_)
                                                            · exact absurd (nI_imp (show Hd = 0 by omega)) c_385
                                                            · refine lv_iload S.1 S.2.1 dL_areReadings_388 (lv_at hl 8 rfl) ?_
                                                              refine lv_iconst (v := 4) S.1 S.2.1 dL_areReadings_390 (by decide) ?_
                                                              refine lv_icmp_lt (tgt := 399) S.1 S.2.1 dL_areReadings_391 (by decide) (fun c_391 => ?_) (fun c_391 => ?_)
                                                              · refine lv_iload S.1 S.2.1 dL_areReadings_399 (lv_at hl 8 rfl) ?_
                                                                refine lv_iconst (v := 3) S.1 S.2.1 dL_areReadings_401 (by decide) ?_
                                                                refine lv_icmp_ne (tgt := 440) S.1 S.2.1 dL_areReadings_402 (by decide) (fun c_402 => ?_) (fun c_402 => ?_)
                                                                · exact absurd c_402 (by decide)
                                                                · refine g_cs (k := 40 * k + 32) (n := 320 * k + 256) (by omega) (by omega) ?_
                                                                  refine jnH (X := fun H locs => W p l e (headSpec wsL_areReadings ({ frames := 8, cells := 2480, slots := 19840, locals := 135 } : Room)).room s m ([.ref (ad 7 0), .ref (ad 20 0), .ref (ad 21 0)] : List Value).toArray below meth c H locs (40 * k + 32) (320 * k + 256) (MQ below (va_Qi (fun q u => q = 1 ∧ ∃ κ', u = (ids, ad, gk κ') ∧ PL N B ids κ') (gE D aC A) A) ([.ref (ad 7 0), .ref (ad 20 0), .ref (ad 21 0)] : List Value).toArray s 2480 19840 A) (F0 m 488 ls [])) (fun H locs => gS D aC A s ids ad (gk κ1) H locs) (fun K488 => ?_) (fun H locs G => ?_)
                                                                  · refine lv_aload_n S.1 S.2.1 dL_areReadings_405 rfl (lv_at hl 12 rfl) ?_
                                                                    refine lv_iload S.1 S.2.1 dL_areReadings_406 (lv_at hl 9 rfl) ?_
                                                                    refine g_cVi S G hF hl 7 (hV 7 _ (by first | decide | (show _ < 1; omega))) (by decide) (c_X6_middlek l ids ad _ _ hV hW hlt) (cwV 1 S.2.2.2.2 gL_areReadings_X6_middle rfl rfl rfl (by decide +kernel) ⟨Nat.le_of_ble_eq_true rfl, Nat.le_of_ble_eq_true rfl⟩) rfl rfl (Nat.le_of_ble_eq_true rfl) dL_areReadings_408 ⟨by show _ ≤ 2480; omega, by show _ ≤ 19840; omega⟩ (fun r_408 u_408 H locs hp_408 G => ?_)
                                                                    obtain ⟨rfl, rfl⟩ := hp_408
                                                                    have G : gS D aC A s ids ad (gk _) H locs := G
                                                                    refine g_top (m4 rfl).1 ?_
                                                                    refine lv_if_lt (tgt := 492) S.1 S.2.1 dL_areReadings_411 (by decide) (fun c_411 => ?_) (fun c_411 => ?_)
                                                                    · exact absurd c_411 (nI_pos (by omega))
                                                                    · have hm34 := (m4 rfl).2
                                                                      refine lv_aload_n S.1 S.2.1 dL_areReadings_414 rfl (lv_at hl 12 rfl) ?_
                                                                      refine lv_iload S.1 S.2.1 dL_areReadings_415 (lv_at hl 9 rfl) ?_
                                                                      refine g_cVi S G hF hl 7 (hV 7 _ (by first | decide | (show _ < 1; omega))) (by decide) (c_X6_middlek l ids ad _ _ hV hW hlt) (cwV 1 S.2.2.2.2 gL_areReadings_X6_middle rfl rfl rfl (by decide +kernel) ⟨Nat.le_of_ble_eq_true rfl, Nat.le_of_ble_eq_true rfl⟩) rfl rfl (Nat.le_of_ble_eq_true rfl) dL_areReadings_417 ⟨by show _ ≤ 2480; omega, by show _ ≤ 19840; omega⟩ (fun r_417 u_417 H locs hp_417 G => ?_)
                                                                      obtain ⟨rfl, rfl⟩ := hp_417
                                                                      have G : gS D aC A s ids ad (gk _) H locs := G
                                                                      refine g_top (m4 rfl).1 ?_
                                                                      refine lv_iload S.1 S.2.1 dL_areReadings_420 (lv_at hl 6 rfl) ?_
                                                                      refine lv_isub S.1 S.2.1 dL_areReadings_422 ?_
                                                                      refine lv_iconst (v := 5) S.1 S.2.1 dL_areReadings_423 (by decide) ?_
                                                                      refine lv_icmp_gt (tgt := 440) S.1 S.2.1 dL_areReadings_424 (by decide) (fun c_424 => ?_) (fun c_424 => ?_)
                                                                      · refine lv_iload S.1 S.2.1 dL_areReadings_440 (lv_at hl 8 rfl) ?_
                                                                        refine lv_iconst (v := 2) S.1 S.2.1 dL_areReadings_442 (by decide) ?_
                                                                        refine lv_icmp_lt (tgt := 488) S.1 S.2.1 dL_areReadings_443 (by decide) (fun c_443 => ?_) (fun c_443 => ?_)
                                                                        · exact absurd c_443 (by decide)
                                                                        · refine lv_iload S.1 S.2.1 dL_areReadings_446 (lv_at hl 8 rfl) ?_
                                                                          refine lv_iconst (v := 3) S.1 S.2.1 dL_areReadings_448 (by decide) ?_
                                                                          refine lv_icmp_eq (tgt := 488) S.1 S.2.1 dL_areReadings_449 (by decide) (fun c_449 => ?_) (fun c_449 => ?_)
                                                                          · refine g_cs (k := 40 * k + 32) (n := 320 * k + 256) (by omega) (by omega) ?_
                                                                            exact K488 _ _ G
                                                                          · exact absurd c_449 (by decide)
                                                                      · refine lv_iload S.1 S.2.1 dL_areReadings_427 (lv_at hl 6 rfl) ?_
                                                                        refine lv_aload_n S.1 S.2.1 dL_areReadings_429 rfl (lv_at hl 12 rfl) ?_
                                                                        refine lv_iload S.1 S.2.1 dL_areReadings_430 (lv_at hl 9 rfl) ?_
                                                                        refine g_cVi S G hF hl 7 (hV 7 _ (by first | decide | (show _ < 1; omega))) (by decide) (c_X6_middlek l ids ad _ _ hV hW hlt) (cwV 1 S.2.2.2.2 gL_areReadings_X6_middle rfl rfl rfl (by decide +kernel) ⟨Nat.le_of_ble_eq_true rfl, Nat.le_of_ble_eq_true rfl⟩) rfl rfl (Nat.le_of_ble_eq_true rfl) dL_areReadings_432 ⟨by show _ ≤ 2480; omega, by show _ ≤ 19840; omega⟩ (fun r_432 u_432 H locs hp_432 G => ?_)
                                                                        obtain ⟨rfl, rfl⟩ := hp_432
                                                                        have G : gS D aC A s ids ad (gk _) H locs := G
                                                                        refine g_top (m4 rfl).1 ?_
                                                                        refine lv_isub S.1 S.2.1 dL_areReadings_435 ?_
                                                                        refine lv_iconst (v := 5) S.1 S.2.1 dL_areReadings_436 (by decide) ?_
                                                                        refine lv_icmp_le (tgt := 492) S.1 S.2.1 dL_areReadings_437 (by decide) (fun c_437 => ?_) (fun c_437 => ?_)
                                                                        · exact absurd ((sub_le5 (by omega) (by omega)).mp c_437) (by have h1 := mt (sub_gt5 (a := M) (b := v9) (by omega) (by omega)).mpr c_424; omega)
                                                                        · refine lv_iload S.1 S.2.1 dL_areReadings_440 (lv_at hl 8 rfl) ?_
                                                                          refine lv_iconst (v := 2) S.1 S.2.1 dL_areReadings_442 (by decide) ?_
                                                                          refine lv_icmp_lt (tgt := 488) S.1 S.2.1 dL_areReadings_443 (by decide) (fun c_443 => ?_) (fun c_443 => ?_)
                                                                          · exact absurd c_443 (by decide)
                                                                          · refine lv_iload S.1 S.2.1 dL_areReadings_446 (lv_at hl 8 rfl) ?_
                                                                            refine lv_iconst (v := 3) S.1 S.2.1 dL_areReadings_448 (by decide) ?_
                                                                            refine lv_icmp_eq (tgt := 488) S.1 S.2.1 dL_areReadings_449 (by decide) (fun c_449 => ?_) (fun c_449 => ?_)
                                                                            · refine g_cs (k := 40 * k + 32) (n := 320 * k + 256) (by omega) (by omega) ?_
                                                                              exact K488 _ _ G
                                                                            · exact absurd c_449 (by decide)
                                                                  · refine lv_iconst (v := 1) S.1 S.2.1 dL_areReadings_488 (by decide) ?_
                                                                    refine lv_goto (tgt := 493) S.1 S.2.1 dL_areReadings_489 (by decide) ?_
                                                                    refine lv_istore_n (lv' := [(3, _), (12, _), (11, _), (10, _), (9, _), (8, _), (7, _), (6, _), (5, _), (4, _), (2, _), (1, _), (0, _)]) S.1 S.2.1 dL_areReadings_493 rfl hl (by decide) rfl (fun ls hl => ?_)
                                                                    refine lv_iload_n S.1 S.2.1 dL_areReadings_494 rfl (lv_at hl 0 rfl) ?_
                                                                    refine lv_if_eq (tgt := 523) S.1 S.2.1 dL_areReadings_495 (by decide) (fun c_495 => ?_) (fun c_495 => ?_)
                                                                    · exact absurd c_495 (by decide)
                                                                    · refine lv_iload S.1 S.2.1 dL_areReadings_498 (lv_at hl 8 rfl) ?_
                                                                      refine lv_iconst (v := 1) S.1 S.2.1 dL_areReadings_500 (by decide) ?_
                                                                      refine lv_icmp_gt (tgt := 519) S.1 S.2.1 dL_areReadings_501 (by decide) (fun c_501 => ?_) (fun c_501 => ?_)
                                                                      · refine lv_iconst (v := 1) S.1 S.2.1 dL_areReadings_519 (by decide) ?_
                                                                        refine lv_goto (tgt := 524) S.1 S.2.1 dL_areReadings_520 (by decide) ?_
                                                                        refine lv_istore_n (lv' := [(3, _), (12, _), (11, _), (10, _), (9, _), (8, _), (7, _), (6, _), (5, _), (4, _), (2, _), (1, _), (0, _)]) S.1 S.2.1 dL_areReadings_524 rfl hl (by decide) rfl (fun ls hl => ?_)
                                                                        refine lv_aload_n S.1 S.2.1 dL_areReadings_525 rfl (lv_at hl 11 rfl) ?_
                                                                        refine lv_iload S.1 S.2.1 dL_areReadings_526 (lv_at hl 9 rfl) ?_
                                                                        refine lv_aload_n S.1 S.2.1 dL_areReadings_528 rfl (lv_at hl 11 rfl) ?_
                                                                        refine lv_iload S.1 S.2.1 dL_areReadings_529 (lv_at hl 9 rfl) ?_
                                                                        refine k_iald S G 20 h20 rfl rfl rfl rfl (show k < 64 by omega) dL_areReadings_531 ?_
                                                                        refine lv_sipush (v := (-14337)) S.1 S.2.1 dL_areReadings_532 (by decide) ?_
                                                                        refine lv_iand S.1 S.2.1 dL_areReadings_535 ?_
                                                                        refine lv_iload S.1 S.2.1 dL_areReadings_536 (lv_at hl 8 rfl) ?_
                                                                        refine lv_bipush (v := 11) S.1 S.2.1 dL_areReadings_538 (by decide) ?_
                                                                        refine lv_ishl S.1 S.2.1 dL_areReadings_540 ?_
                                                                        refine lv_ior S.1 S.2.1 dL_areReadings_541 ?_
                                                                        refine g_top (show _ = nI (enc τ 3 v9 s9) from by rw [b14]; exact enc_set (S := 3) (by omega) (by omega) (by omega) (by omega) (by decide)) ?_
                                                                        refine k_iast S G 20 h20 rfl rfl rfl rfl (show k < 64 by omega) dL_areReadings_542 (fun H locs G => ?_)
                                                                        refine lv_iinc (k := 9) (lv' := [(4, _), (3, _), (12, _), (11, _), (10, _), (9, _), (8, _), (7, _), (6, _), (5, _), (2, _), (1, _), (0, _)]) S.1 S.2.1 dL_areReadings_543 hl rfl (g_inc _) (by decide) rfl (fun ls hl => ?_)
                                                                        refine lv_goto (tgt := 29) S.1 S.2.1 dL_areReadings_546 (by decide) ?_
                                                                        refine W.widen (k := 40 * (k + 1)) (n := 320 * (k + 1)) (by omega) (by omega) ?_
                                                                        exact ih_29 (k + 1, upd3 κ1 20 0 k (nI (enc τ 3 v9 s9))) H locs ls ⟨by show k + 1 ≤ nn; omega, J1.setv hlt b1 b2 (by decide) b9 b10 b11 b7 (fun z => (b16 z).1), hnk⟩ (by show nn - (k + 1) < nn - k; omega) G (lv_sub hl [0, 1, 10, 11, 12] rfl)
                                                                      · exact absurd c_501 (by decide)
                                                              · exact absurd c_391 (by decide)
                                                          · exact absurd c_370 (by decide)
                                            · exact absurd c_269 (by decide)
                            · exact absurd hP c_166
                          · exact absurd c_155 (by decide)
                  · exact absurd c_118 (by decide)
                · exact absurd c_107 (by decide)
              · exact absurd c_96 (by decide)
          · refine lv_aload_n S.1 S.2.1 dL_areReadings_41 rfl (lv_at hl 4 rfl) ?_
            refine lv_iload S.1 S.2.1 dL_areReadings_42 (lv_at hl 0 rfl) ?_
            refine g_cVi S G hF hl 7 (hV 7 _ (by first | decide | (show _ < 1; omega))) (by decide) (c_X6_stateOfk l ids ad _ _ hV hW hlt) (cwV 1 S.2.2.2.2 gL_areReadings_X6_stateOf rfl rfl rfl (by decide +kernel) ⟨Nat.le_of_ble_eq_true rfl, Nat.le_of_ble_eq_true rfl⟩) rfl rfl (Nat.le_of_ble_eq_true rfl) dL_areReadings_44 ⟨by show _ ≤ 2480; omega, by show _ ≤ 19840; omega⟩ (fun r_44 u_44 H locs hp_44 G => ?_)
            obtain ⟨rfl, rfl⟩ := hp_44
            have G : gS D aC A s ids ad (gk _) H locs := G
            have hP : ¬ (3 : Int32) ≤ nI P := fun z => by have := (nI_leI (a := 3) (by decide) (by omega)).mp z; omega
            have hst : st ≤ 4 ∧ st = 4 := by omega
            refine g_top (show _ = (4 : Int32) from by exact b11) ?_
            refine lv_istore (lv' := [(5, _), (4, _), (3, _), (2, _), (1, _), (0, _)]) S.1 S.2.1 dL_areReadings_47 hl (by decide) rfl (fun ls hl => ?_)
            refine lv_aload_n S.1 S.2.1 dL_areReadings_49 rfl (lv_at hl 4 rfl) ?_
            refine lv_iload S.1 S.2.1 dL_areReadings_50 (lv_at hl 1 rfl) ?_
            refine k_iald S G 20 h20 rfl rfl rfl rfl (show k < 64 by omega) dL_areReadings_52 ?_
            refine lv_bipush (v := 11) S.1 S.2.1 dL_areReadings_53 (by decide) ?_
            refine lv_ishr S.1 S.2.1 dL_areReadings_55 ?_
            refine lv_bipush (v := 7) S.1 S.2.1 dL_areReadings_56 (by decide) ?_
            refine lv_iand S.1 S.2.1 dL_areReadings_58 ?_
            refine g_top (show _ = nI st from by rw [b14]; exact enc_st (by omega) (by omega) (by omega) (by omega)) ?_
            refine lv_istore (lv' := [(6, _), (5, _), (4, _), (3, _), (2, _), (1, _), (0, _)]) S.1 S.2.1 dL_areReadings_59 hl (by decide) rfl (fun ls hl => ?_)
            refine lv_aload_n S.1 S.2.1 dL_areReadings_61 rfl (lv_at hl 5 rfl) ?_
            refine lv_iload S.1 S.2.1 dL_areReadings_62 (lv_at hl 2 rfl) ?_
            refine k_iald S G 20 h20 rfl rfl rfl rfl (show k < 64 by omega) dL_areReadings_64 ?_
            refine lv_iconst (v := 4) S.1 S.2.1 dL_areReadings_65 (by decide) ?_
            refine lv_ishr S.1 S.2.1 dL_areReadings_66 ?_
            refine lv_bipush (v := 127) S.1 S.2.1 dL_areReadings_67 (by decide) ?_
            refine lv_iand S.1 S.2.1 dL_areReadings_69 ?_
            refine g_top (show _ = nI v9 from by rw [b14]; exact enc_v (by omega) (by omega) (by omega) (by omega)) ?_
            refine lv_istore (lv' := [(7, _), (6, _), (5, _), (4, _), (3, _), (2, _), (1, _), (0, _)]) S.1 S.2.1 dL_areReadings_70 hl (by decide) rfl (fun ls hl => ?_)
            refine lv_iload S.1 S.2.1 dL_areReadings_72 (lv_at hl 0 rfl) ?_
            refine lv_bipush (v := 10) S.1 S.2.1 dL_areReadings_74 (by decide) ?_
            refine lv_icmp_ge (tgt := 83) S.1 S.2.1 dL_areReadings_76 (by decide) (fun c_76 => ?_) (fun c_76 => ?_)
            · have hd : ¬ v9 < 10 := fun z => by have := (nI_leI (a := 10) (b := v9) (by decide) (by omega)).mp c_76; omega
              refine lv_iconst (v := 2) S.1 S.2.1 dL_areReadings_83 (by decide) ?_
              refine lv_istore (lv' := [(8, _), (7, _), (6, _), (5, _), (4, _), (3, _), (2, _), (1, _), (0, _)]) S.1 S.2.1 dL_areReadings_84 hl (by decide) rfl (fun ls hl => ?_)
              refine lv_aload_n S.1 S.2.1 dL_areReadings_86 rfl (lv_at hl 8 rfl) ?_
              refine lv_iload S.1 S.2.1 dL_areReadings_87 (lv_at hl 4 rfl) ?_
              refine g_cVi S G hF hl 7 (hV 7 _ (by first | decide | (show _ < 1; omega))) (by decide) (c_X6_partsk l ids ad _ _ hV hW hlt) (cwV 1 S.2.2.2.2 gL_areReadings_X6_parts rfl rfl rfl (by decide +kernel) ⟨Nat.le_of_ble_eq_true rfl, Nat.le_of_ble_eq_true rfl⟩) rfl rfl (Nat.le_of_ble_eq_true rfl) dL_areReadings_89 ⟨by show _ ≤ 2480; omega, by show _ ≤ 19840; omega⟩ (fun r_89 u_89 H locs hp_89 G => ?_)
              obtain ⟨rfl, rfl⟩ := hp_89
              have G : gS D aC A s ids ad (gk _) H locs := G
              refine g_top b12 ?_
              refine lv_istore (lv' := [(9, _), (8, _), (7, _), (6, _), (5, _), (4, _), (3, _), (2, _), (1, _), (0, _)]) S.1 S.2.1 dL_areReadings_92 hl (by decide) rfl (fun ls hl => ?_)
              refine lv_iload S.1 S.2.1 dL_areReadings_94 (lv_at hl 4 rfl) ?_
              refine lv_if_ne (tgt := 104) S.1 S.2.1 dL_areReadings_96 (by decide) (fun c_96 => ?_) (fun c_96 => ?_)
              · refine lv_iload S.1 S.2.1 dL_areReadings_104 (lv_at hl 4 rfl) ?_
                refine lv_iconst (v := 1) S.1 S.2.1 dL_areReadings_106 (by decide) ?_
                refine lv_icmp_ne (tgt := 115) S.1 S.2.1 dL_areReadings_107 (by decide) (fun c_107 => ?_) (fun c_107 => ?_)
                · refine lv_iload S.1 S.2.1 dL_areReadings_115 (lv_at hl 4 rfl) ?_
                  refine lv_iconst (v := 2) S.1 S.2.1 dL_areReadings_117 (by decide) ?_
                  refine lv_icmp_ne (tgt := 126) S.1 S.2.1 dL_areReadings_118 (by decide) (fun c_118 => ?_) (fun c_118 => ?_)
                  · refine lv_iload S.1 S.2.1 dL_areReadings_126 (lv_at hl 4 rfl) ?_
                    refine lv_iconst (v := 3) S.1 S.2.1 dL_areReadings_128 (by decide) ?_
                    refine lv_icmp_ne (tgt := 137) S.1 S.2.1 dL_areReadings_129 (by decide) (fun c_129 => ?_) (fun c_129 => ?_)
                    · refine lv_bipush (v := 120) S.1 S.2.1 dL_areReadings_137 (by decide) ?_
                      refine lv_istore (lv' := [(10, _), (9, _), (8, _), (7, _), (6, _), (5, _), (4, _), (3, _), (2, _), (1, _), (0, _)]) S.1 S.2.1 dL_areReadings_139 hl (by decide) rfl (fun ls hl => ?_)
                      refine lv_iload S.1 S.2.1 dL_areReadings_141 (lv_at hl 5 rfl) ?_
                      refine lv_if_lt (tgt := 323) S.1 S.2.1 dL_areReadings_143 (by decide) (fun c_143 => ?_) (fun c_143 => ?_)
                      · exact absurd c_143 (by decide)
                      · refine lv_iload S.1 S.2.1 dL_areReadings_146 (lv_at hl 5 rfl) ?_
                        refine lv_iconst (v := 4) S.1 S.2.1 dL_areReadings_148 (by decide) ?_
                        refine lv_icmp_gt (tgt := 323) S.1 S.2.1 dL_areReadings_149 (by decide) (fun c_149 => ?_) (fun c_149 => ?_)
                        · exact absurd c_149 (by decide)
                        · refine lv_iload S.1 S.2.1 dL_areReadings_152 (lv_at hl 5 rfl) ?_
                          refine lv_iconst (v := 4) S.1 S.2.1 dL_areReadings_154 (by decide) ?_
                          refine lv_icmp_ne (tgt := 162) S.1 S.2.1 dL_areReadings_155 (by decide) (fun c_155 => ?_) (fun c_155 => ?_)
                          · exact absurd c_155 (by decide)
                          · refine lv_iconst (v := 1) S.1 S.2.1 dL_areReadings_158 (by decide) ?_
                            refine lv_goto (tgt := 163) S.1 S.2.1 dL_areReadings_159 (by decide) ?_
                            refine lv_iload S.1 S.2.1 dL_areReadings_163 (lv_at hl 1 rfl) ?_
                            refine lv_iconst (v := 3) S.1 S.2.1 dL_areReadings_165 (by decide) ?_
                            refine lv_icmp_ge (tgt := 173) S.1 S.2.1 dL_areReadings_166 (by decide) (fun c_166 => ?_) (fun c_166 => ?_)
                            · exact absurd c_166 hP
                            · refine lv_iconst (v := 1) S.1 S.2.1 dL_areReadings_169 (by decide) ?_
                              refine lv_goto (tgt := 174) S.1 S.2.1 dL_areReadings_170 (by decide) ?_
                              refine lv_icmp_ne (tgt := 323) S.1 S.2.1 dL_areReadings_174 (by decide) (fun c_174 => ?_) (fun c_174 => ?_)
                              · exact absurd c_174 (by decide)
                              · refine lv_iload S.1 S.2.1 dL_areReadings_177 (lv_at hl 1 rfl) ?_
                                refine lv_if_lt (tgt := 323) S.1 S.2.1 dL_areReadings_179 (by decide) (fun c_179 => ?_) (fun c_179 => ?_)
                                · exact absurd c_179 (nI_pos (by omega))
                                · refine lv_iload S.1 S.2.1 dL_areReadings_182 (lv_at hl 1 rfl) ?_
                                  refine lv_iconst (v := 4) S.1 S.2.1 dL_areReadings_184 (by decide) ?_
                                  refine lv_icmp_gt (tgt := 323) S.1 S.2.1 dL_areReadings_185 (by decide) (fun c_185 => ?_) (fun c_185 => ?_)
                                  · exact absurd c_185 (not_gt (n := 4) (ixL.nI (by omega) (by decide)) (by decide))
                                  · refine lv_iload S.1 S.2.1 dL_areReadings_188 (lv_at hl 4 rfl) ?_
                                    refine lv_iconst (v := 2) S.1 S.2.1 dL_areReadings_190 (by decide) ?_
                                    refine lv_icmp_ge (tgt := 210) S.1 S.2.1 dL_areReadings_191 (by decide) (fun c_191 => ?_) (fun c_191 => ?_)
                                    · have h2st := (nI_leI (a := 2) (b := st) (by decide) (by omega)).mp c_191
                                      refine lv_iload S.1 S.2.1 dL_areReadings_210 (lv_at hl 5 rfl) ?_
                                      refine lv_iload S.1 S.2.1 dL_areReadings_212 (lv_at hl 4 rfl) ?_
                                      refine lv_icmp_ne (tgt := 323) S.1 S.2.1 dL_areReadings_214 (by decide) (fun c_214 => ?_) (fun c_214 => ?_)
                                      · exact absurd (nI_imp (show 4 = st by omega)) c_214
                                      · refine lv_aload_n S.1 S.2.1 dL_areReadings_217 rfl (lv_at hl 10 rfl) ?_
                                        refine lv_iload S.1 S.2.1 dL_areReadings_218 (lv_at hl 6 rfl) ?_
                                        refine lv_iconst (v := 0) S.1 S.2.1 dL_areReadings_220 (by decide) ?_
                                        refine gx_cVi S G hF hl 7 (hV 7 _ (by first | decide | (show _ < 1; omega))) (by decide) (c_X6_textAt l hlf ids ad _ _ _ hV hW hI (fun _ => by rw [tN_nI (by omega)]; exact hvx)) (cwV 2 S.2.2.2.2 gL_areReadings_X6_textAt rfl rfl rfl (by decide +kernel) ⟨Nat.le_of_ble_eq_true rfl, Nat.le_of_ble_eq_true rfl⟩) rfl rfl (Nat.le_of_ble_eq_true rfl) dL_areReadings_221 ⟨by show _ ≤ 2480; omega, by show _ ≤ 19840; omega⟩ (fun _ _ _ _ _ _ hp _ _ _ _ => (xE_0 hp.1 (txT_0 hlt hn hn80 (by decide))).elim) (fun r_221 u_221 H locs hp_221 G => ?_)
                                        obtain ⟨-, rfl, rfl⟩ := hp_221
                                        have G : gS D aC A s ids ad (gk _) H locs := G
                                        refine g_top (show _ = 97 + nI s9 from by rw [tN_nI (by omega)]; exact t0) ?_
                                        refine lv_bipush (v := 97) S.1 S.2.1 dL_areReadings_224 (by decide) ?_
                                        refine lv_aload_n S.1 S.2.1 dL_areReadings_226 rfl (lv_at hl 9 rfl) ?_
                                        refine lv_iload S.1 S.2.1 dL_areReadings_227 (lv_at hl 6 rfl) ?_
                                        refine k_iald S G 20 h20 rfl rfl rfl rfl (show k < 64 by omega) dL_areReadings_229 ?_
                                        refine lv_bipush (v := 15) S.1 S.2.1 dL_areReadings_230 (by decide) ?_
                                        refine lv_iand S.1 S.2.1 dL_areReadings_232 ?_
                                        refine g_top (show _ = nI s9 from by rw [b14]; exact enc_s (by omega) (by omega) (by omega) (by omega)) ?_
                                        refine lv_iadd S.1 S.2.1 dL_areReadings_233 ?_
                                        refine lv_icmp_ne (tgt := 323) S.1 S.2.1 dL_areReadings_234 (by decide) (fun c_234 => ?_) (fun c_234 => ?_)
                                        · exact absurd rfl c_234
                                        · refine lv_aload_n S.1 S.2.1 dL_areReadings_237 rfl (lv_at hl 10 rfl) ?_
                                          refine lv_iload S.1 S.2.1 dL_areReadings_238 (lv_at hl 6 rfl) ?_
                                          refine lv_iconst (v := 1) S.1 S.2.1 dL_areReadings_240 (by decide) ?_
                                          refine gx_cVi S G hF hl 7 (hV 7 _ (by first | decide | (show _ < 1; omega))) (by decide) (c_X6_textAt l hlf ids ad _ _ _ hV hW hI (fun _ => by rw [tN_nI (by omega)]; exact hvx)) (cwV 2 S.2.2.2.2 gL_areReadings_X6_textAt rfl rfl rfl (by decide +kernel) ⟨Nat.le_of_ble_eq_true rfl, Nat.le_of_ble_eq_true rfl⟩) rfl rfl (Nat.le_of_ble_eq_true rfl) dL_areReadings_241 ⟨by show _ ≤ 2480; omega, by show _ ≤ 19840; omega⟩ (fun _ _ _ _ _ _ hp _ _ _ _ => (xE_0 hp.1 (txT_0 hlt hn hn80 (by decide))).elim) (fun r_241 u_241 H locs hp_241 G => ?_)
                                          obtain ⟨-, rfl, rfl⟩ := hp_241
                                          have G : gS D aC A s ids ad (gk _) H locs := G
                                          refine g_top (show _ = 48 + nI v9 / 10 from by rw [tN_nI (by omega)]; exact (t2 hd).1) ?_
                                          refine lv_bipush (v := 48) S.1 S.2.1 dL_areReadings_244 (by decide) ?_
                                          refine lv_iload S.1 S.2.1 dL_areReadings_246 (lv_at hl 2 rfl) ?_
                                          refine lv_iconst (v := 1) S.1 S.2.1 dL_areReadings_248 (by decide) ?_
                                          refine lv_icmp_ne (tgt := 257) S.1 S.2.1 dL_areReadings_249 (by decide) (fun c_249 => ?_) (fun c_249 => ?_)
                                          · refine lv_iload S.1 S.2.1 dL_areReadings_257 (lv_at hl 3 rfl) ?_
                                            refine lv_bipush (v := 10) S.1 S.2.1 dL_areReadings_259 (by decide) ?_
                                            refine lv_idiv S.1 S.2.1 dL_areReadings_261 (by decide) ?_
                                            refine lv_iadd S.1 S.2.1 dL_areReadings_262 ?_
                                            refine lv_icmp_ne (tgt := 323) S.1 S.2.1 dL_areReadings_263 (by decide) (fun c_263 => ?_) (fun c_263 => ?_)
                                            · exact absurd rfl c_263
                                            · refine lv_iload S.1 S.2.1 dL_areReadings_266 (lv_at hl 2 rfl) ?_
                                              refine lv_iconst (v := 1) S.1 S.2.1 dL_areReadings_268 (by decide) ?_
                                              refine lv_icmp_eq (tgt := 290) S.1 S.2.1 dL_areReadings_269 (by decide) (fun c_269 => ?_) (fun c_269 => ?_)
                                              · exact absurd c_269 (by decide)
                                              · refine lv_aload_n S.1 S.2.1 dL_areReadings_272 rfl (lv_at hl 10 rfl) ?_
                                                refine lv_iload S.1 S.2.1 dL_areReadings_273 (lv_at hl 6 rfl) ?_
                                                refine lv_iconst (v := 2) S.1 S.2.1 dL_areReadings_275 (by decide) ?_
                                                refine gx_cVi S G hF hl 7 (hV 7 _ (by first | decide | (show _ < 1; omega))) (by decide) (c_X6_textAt l hlf ids ad _ _ _ hV hW hI (fun _ => by rw [tN_nI (by omega)]; exact hvx)) (cwV 2 S.2.2.2.2 gL_areReadings_X6_textAt rfl rfl rfl (by decide +kernel) ⟨Nat.le_of_ble_eq_true rfl, Nat.le_of_ble_eq_true rfl⟩) rfl rfl (Nat.le_of_ble_eq_true rfl) dL_areReadings_276 ⟨by show _ ≤ 2480; omega, by show _ ≤ 19840; omega⟩ (fun _ _ _ _ _ _ hp _ _ _ _ => (xE_0 hp.1 (txT_0 hlt hn hn80 (by decide))).elim) (fun r_276 u_276 H locs hp_276 G => ?_)
                                                obtain ⟨-, rfl, rfl⟩ := hp_276
                                                have G : gS D aC A s ids ad (gk _) H locs := G
                                                refine g_top (show _ = 48 + (nI v9 - nI v9 / 10 * 10) from by rw [tN_nI (by omega)]; exact (t2 hd).2.1) ?_
                                                refine lv_bipush (v := 48) S.1 S.2.1 dL_areReadings_279 (by decide) ?_
                                                refine lv_iload S.1 S.2.1 dL_areReadings_281 (lv_at hl 3 rfl) ?_
                                                refine lv_bipush (v := 10) S.1 S.2.1 dL_areReadings_283 (by decide) ?_
                                                refine lv_irem S.1 S.2.1 dL_areReadings_285 (by decide) ?_
                                                refine lv_iadd S.1 S.2.1 dL_areReadings_286 ?_
                                                refine lv_icmp_ne (tgt := 323) S.1 S.2.1 dL_areReadings_287 (by decide) (fun c_287 => ?_) (fun c_287 => ?_)
                                                · exact absurd rfl c_287
                                                · refine lv_aload_n S.1 S.2.1 dL_areReadings_290 rfl (lv_at hl 10 rfl) ?_
                                                  refine lv_iload S.1 S.2.1 dL_areReadings_291 (lv_at hl 6 rfl) ?_
                                                  refine lv_iload S.1 S.2.1 dL_areReadings_293 (lv_at hl 2 rfl) ?_
                                                  refine lv_iconst (v := 1) S.1 S.2.1 dL_areReadings_295 (by decide) ?_
                                                  refine lv_iadd S.1 S.2.1 dL_areReadings_296 ?_
                                                  refine g_top (show _ = (3 : Int32) from by decide) ?_
                                                  refine gx_cVi S G hF hl 7 (hV 7 _ (by first | decide | (show _ < 1; omega))) (by decide) (c_X6_textAt l hlf ids ad _ _ _ hV hW hI (fun _ => by rw [tN_nI (by omega)]; exact hvx)) (cwV 2 S.2.2.2.2 gL_areReadings_X6_textAt rfl rfl rfl (by decide +kernel) ⟨Nat.le_of_ble_eq_true rfl, Nat.le_of_ble_eq_true rfl⟩) rfl rfl (Nat.le_of_ble_eq_true rfl) dL_areReadings_297 ⟨by show _ ≤ 2480; omega, by show _ ≤ 19840; omega⟩ (fun _ _ _ _ _ _ hp _ _ _ _ => (xE_0 hp.1 (txT_0 hlt hn hn80 (by decide))).elim) (fun r_297 u_297 H locs hp_297 G => ?_)
                                                  obtain ⟨-, rfl, rfl⟩ := hp_297
                                                  have G : gS D aC A s ids ad (gk _) H locs := G
                                                  refine g_top (show _ = (120 : Int32) from by rw [tN_nI (by omega)]; exact (t2 hd).2.2.1.trans e3s) ?_
                                                  refine lv_iload S.1 S.2.1 dL_areReadings_300 (lv_at hl 0 rfl) ?_
                                                  refine lv_icmp_ne (tgt := 323) S.1 S.2.1 dL_areReadings_302 (by decide) (fun c_302 => ?_) (fun c_302 => ?_)
                                                  · exact absurd c_302 (by decide)
                                                  · refine lv_aload_n S.1 S.2.1 dL_areReadings_305 rfl (lv_at hl 10 rfl) ?_
                                                    refine lv_iload S.1 S.2.1 dL_areReadings_306 (lv_at hl 6 rfl) ?_
                                                    refine lv_iload S.1 S.2.1 dL_areReadings_308 (lv_at hl 2 rfl) ?_
                                                    refine lv_iconst (v := 2) S.1 S.2.1 dL_areReadings_310 (by decide) ?_
                                                    refine lv_iadd S.1 S.2.1 dL_areReadings_311 ?_
                                                    refine g_top (show _ = (4 : Int32) from by decide) ?_
                                                    refine gx_cVi S G hF hl 7 (hV 7 _ (by first | decide | (show _ < 1; omega))) (by decide) (c_X6_textAt l hlf ids ad _ _ _ hV hW hI (fun _ => by rw [tN_nI (by omega)]; exact hvx)) (cwV 2 S.2.2.2.2 gL_areReadings_X6_textAt rfl rfl rfl (by decide +kernel) ⟨Nat.le_of_ble_eq_true rfl, Nat.le_of_ble_eq_true rfl⟩) rfl rfl (Nat.le_of_ble_eq_true rfl) dL_areReadings_312 ⟨by show _ ≤ 2480; omega, by show _ ≤ 19840; omega⟩ (fun _ _ _ _ _ _ hp _ _ _ _ => (xE_0 hp.1 (txT_0 hlt hn hn80 (by decide))).elim) (fun r_312 u_312 H locs hp_312 G => ?_)
                                                    obtain ⟨-, rfl, rfl⟩ := hp_312
                                                    have G : gS D aC A s ids ad (gk _) H locs := G
                                                    refine g_top (show _ = (-1 : Int32) from by rw [tN_nI (by omega)]; exact (t2 hd).2.2.2) ?_
                                                    refine lv_iconst (v := (-1)) S.1 S.2.1 dL_areReadings_315 (by decide) ?_
                                                    refine lv_icmp_ne (tgt := 323) S.1 S.2.1 dL_areReadings_316 (by decide) (fun c_316 => ?_) (fun c_316 => ?_)
                                                    · exact absurd c_316 (by decide)
                                                    · refine lv_iconst (v := 1) S.1 S.2.1 dL_areReadings_319 (by decide) ?_
                                                      refine lv_goto (tgt := 324) S.1 S.2.1 dL_areReadings_320 (by decide) ?_
                                                      refine lv_istore_n (lv' := [(3, _), (10, _), (9, _), (8, _), (7, _), (6, _), (5, _), (4, _), (2, _), (1, _), (0, _)]) S.1 S.2.1 dL_areReadings_324 rfl hl (by decide) rfl (fun ls hl => ?_)
                                                      refine lv_aload_n S.1 S.2.1 dL_areReadings_325 rfl (lv_at hl 10 rfl) ?_
                                                      refine lv_iload S.1 S.2.1 dL_areReadings_326 (lv_at hl 7 rfl) ?_
                                                      refine g_cVi S G hF hl 7 (hV 7 _ (by first | decide | (show _ < 1; omega))) (by decide) (c_X6_usersk l ids ad _ _ hV hW hlt) (cwV 1 S.2.2.2.2 gL_areReadings_X6_users rfl rfl rfl (by decide +kernel) ⟨Nat.le_of_ble_eq_true rfl, Nat.le_of_ble_eq_true rfl⟩) rfl rfl (Nat.le_of_ble_eq_true rfl) dL_areReadings_328 ⟨by show _ ≤ 2480; omega, by show _ ≤ 19840; omega⟩ (fun r_328 u_328 H locs hp_328 G => ?_)
                                                      obtain ⟨rfl, rfl⟩ := hp_328
                                                      have G : gS D aC A s ids ad (gk _) H locs := G
                                                      refine g_top b13 ?_
                                                      refine lv_istore (lv' := [(11, _), (3, _), (10, _), (9, _), (8, _), (7, _), (6, _), (5, _), (4, _), (2, _), (1, _), (0, _)]) S.1 S.2.1 dL_areReadings_331 hl (by decide) rfl (fun ls hl => ?_)
                                                      refine lv_aload_n S.1 S.2.1 dL_areReadings_333 rfl (lv_at hl 11 rfl) ?_
                                                      refine lv_iload S.1 S.2.1 dL_areReadings_334 (lv_at hl 8 rfl) ?_
                                                      refine g_cVi S G hF hl 7 (hV 7 _ (by first | decide | (show _ < 1; omega))) (by decide) (c_X6_heldk l ids ad _ _ hV hW hlt) (cwV 1 S.2.2.2.2 gL_areReadings_X6_held rfl rfl rfl (by decide +kernel) ⟨Nat.le_of_ble_eq_true rfl, Nat.le_of_ble_eq_true rfl⟩) rfl rfl (Nat.le_of_ble_eq_true rfl) dL_areReadings_336 ⟨by show _ ≤ 2480; omega, by show _ ≤ 19840; omega⟩ (fun r_336 u_336 H locs hp_336 G => ?_)
                                                      obtain ⟨rfl, rfl⟩ := hp_336
                                                      have G : gS D aC A s ids ad (gk _) H locs := G
                                                      refine g_top c1 ?_
                                                      refine lv_istore (lv' := [(12, _), (11, _), (3, _), (10, _), (9, _), (8, _), (7, _), (6, _), (5, _), (4, _), (2, _), (1, _), (0, _)]) S.1 S.2.1 dL_areReadings_339 hl (by decide) rfl (fun ls hl => ?_)
                                                      refine lv_iload_n S.1 S.2.1 dL_areReadings_341 rfl (lv_at hl 2 rfl) ?_
                                                      refine lv_if_eq (tgt := 492) S.1 S.2.1 dL_areReadings_342 (by decide) (fun c_342 => ?_) (fun c_342 => ?_)
                                                      · exact absurd c_342 (by decide)
                                                      · refine lv_iload S.1 S.2.1 dL_areReadings_345 (lv_at hl 1 rfl) ?_
                                                        refine lv_if_lt (tgt := 492) S.1 S.2.1 dL_areReadings_347 (by decide) (fun c_347 => ?_) (fun c_347 => ?_)
                                                        · exact absurd c_347 (nI_pos (by omega))
                                                        · refine lv_iload S.1 S.2.1 dL_areReadings_350 (lv_at hl 1 rfl) ?_
                                                          refine lv_bipush (v := 6) S.1 S.2.1 dL_areReadings_352 (by decide) ?_
                                                          refine lv_icmp_gt (tgt := 492) S.1 S.2.1 dL_areReadings_354 (by decide) (fun c_354 => ?_) (fun c_354 => ?_)
                                                          · exact absurd c_354 (not_gt (n := 6) (ixL.nI (by omega) (by decide)) (by decide))
                                                          · refine lv_iload S.1 S.2.1 dL_areReadings_357 (lv_at hl 0 rfl) ?_
                                                            refine lv_bipush (v := 20) S.1 S.2.1 dL_areReadings_359 (by decide) ?_
                                                            refine lv_iload S.1 S.2.1 dL_areReadings_361 (lv_at hl 1 rfl) ?_
                                                            refine lv_imul S.1 S.2.1 dL_areReadings_363 ?_
                                                            refine g_top (pk_mul 20 U) ?_
                                                            refine lv_icmp_gt (tgt := 492) S.1 S.2.1 dL_areReadings_364 (by decide) (fun c_364 => ?_) (fun c_364 => ?_)
                                                            · exact absurd ((nI_ltI (by omega) (by omega)).mp c_364) (by omega)
                                                            · refine lv_iload S.1 S.2.1 dL_areReadings_367 (lv_at hl 8 rfl) ?_
                                                              refine lv_iconst (v := 2) S.1 S.2.1 dL_areReadings_369 (by decide) ?_
                                                              refine lv_icmp_ge (tgt := 383) S.1 S.2.1 dL_areReadings_370 (by decide) (fun c_370 => ?_) (fun c_370 => ?_)
                                                              · refine lv_iload S.1 S.2.1 dL_areReadings_383 (lv_at hl 0 rfl) ?_
                                                                refine lv_if_ne (tgt := 492) S.1 S.2.1 dL_areReadings_385 (by decide) (fun c_385 => ?_) (fun c_385 => ?_)
                                                                · exact absurd (nI_imp (show Hd = 0 by omega)) c_385
                                                                · refine lv_iload S.1 S.2.1 dL_areReadings_388 (lv_at hl 8 rfl) ?_
                                                                  refine lv_iconst (v := 4) S.1 S.2.1 dL_areReadings_390 (by decide) ?_
                                                                  refine lv_icmp_lt (tgt := 399) S.1 S.2.1 dL_areReadings_391 (by decide) (fun c_391 => ?_) (fun c_391 => ?_)
                                                                  · exact absurd c_391 (by decide)
                                                                  · refine lv_iload S.1 S.2.1 dL_areReadings_394 (lv_at hl 1 rfl) ?_
                                                                    refine lv_if_ne (tgt := 492) S.1 S.2.1 dL_areReadings_396 (by decide) (fun c_396 => ?_) (fun c_396 => ?_)
                                                                    · exact absurd (nI_imp (show U = 0 by omega)) c_396
                                                                    · refine lv_iload S.1 S.2.1 dL_areReadings_399 (lv_at hl 8 rfl) ?_
                                                                      refine lv_iconst (v := 3) S.1 S.2.1 dL_areReadings_401 (by decide) ?_
                                                                      refine lv_icmp_ne (tgt := 440) S.1 S.2.1 dL_areReadings_402 (by decide) (fun c_402 => ?_) (fun c_402 => ?_)
                                                                      · refine lv_iload S.1 S.2.1 dL_areReadings_440 (lv_at hl 8 rfl) ?_
                                                                        refine lv_iconst (v := 2) S.1 S.2.1 dL_areReadings_442 (by decide) ?_
                                                                        refine lv_icmp_lt (tgt := 488) S.1 S.2.1 dL_areReadings_443 (by decide) (fun c_443 => ?_) (fun c_443 => ?_)
                                                                        · exact absurd c_443 (by decide)
                                                                        · refine lv_iload S.1 S.2.1 dL_areReadings_446 (lv_at hl 8 rfl) ?_
                                                                          refine lv_iconst (v := 3) S.1 S.2.1 dL_areReadings_448 (by decide) ?_
                                                                          refine lv_icmp_eq (tgt := 488) S.1 S.2.1 dL_areReadings_449 (by decide) (fun c_449 => ?_) (fun c_449 => ?_)
                                                                          · exact absurd c_449 (by decide)
                                                                          · refine lv_aload_n S.1 S.2.1 dL_areReadings_452 rfl (lv_at hl 12 rfl) ?_
                                                                            refine lv_iload S.1 S.2.1 dL_areReadings_453 (lv_at hl 9 rfl) ?_
                                                                            refine g_cVi S G hF hl 7 (hV 7 _ (by first | decide | (show _ < 1; omega))) (by decide) (c_X6_middlek l ids ad _ _ hV hW hlt) (cwV 1 S.2.2.2.2 gL_areReadings_X6_middle rfl rfl rfl (by decide +kernel) ⟨Nat.le_of_ble_eq_true rfl, Nat.le_of_ble_eq_true rfl⟩) rfl rfl (Nat.le_of_ble_eq_true rfl) dL_areReadings_455 ⟨by show _ ≤ 2480; omega, by show _ ≤ 19840; omega⟩ (fun r_455 u_455 H locs hp_455 G => ?_)
                                                                            obtain ⟨rfl, rfl⟩ := hp_455
                                                                            have G : gS D aC A s ids ad (gk _) H locs := G
                                                                            refine g_top (show _ = (-1 : Int32) from by exact m5 rfl) ?_
                                                                            refine lv_iconst (v := (-1)) S.1 S.2.1 dL_areReadings_458 (by decide) ?_
                                                                            refine lv_icmp_eq (tgt := 488) S.1 S.2.1 dL_areReadings_459 (by decide) (fun c_459 => ?_) (fun c_459 => ?_)
                                                                            · refine lv_iconst (v := 1) S.1 S.2.1 dL_areReadings_488 (by decide) ?_
                                                                              refine lv_goto (tgt := 493) S.1 S.2.1 dL_areReadings_489 (by decide) ?_
                                                                              refine lv_istore_n (lv' := [(3, _), (12, _), (11, _), (10, _), (9, _), (8, _), (7, _), (6, _), (5, _), (4, _), (2, _), (1, _), (0, _)]) S.1 S.2.1 dL_areReadings_493 rfl hl (by decide) rfl (fun ls hl => ?_)
                                                                              refine lv_iload_n S.1 S.2.1 dL_areReadings_494 rfl (lv_at hl 0 rfl) ?_
                                                                              refine lv_if_eq (tgt := 523) S.1 S.2.1 dL_areReadings_495 (by decide) (fun c_495 => ?_) (fun c_495 => ?_)
                                                                              · exact absurd c_495 (by decide)
                                                                              · refine lv_iload S.1 S.2.1 dL_areReadings_498 (lv_at hl 8 rfl) ?_
                                                                                refine lv_iconst (v := 1) S.1 S.2.1 dL_areReadings_500 (by decide) ?_
                                                                                refine lv_icmp_gt (tgt := 519) S.1 S.2.1 dL_areReadings_501 (by decide) (fun c_501 => ?_) (fun c_501 => ?_)
                                                                                · refine lv_iconst (v := 1) S.1 S.2.1 dL_areReadings_519 (by decide) ?_
                                                                                  refine lv_goto (tgt := 524) S.1 S.2.1 dL_areReadings_520 (by decide) ?_
                                                                                  refine lv_istore_n (lv' := [(3, _), (12, _), (11, _), (10, _), (9, _), (8, _), (7, _), (6, _), (5, _), (4, _), (2, _), (1, _), (0, _)]) S.1 S.2.1 dL_areReadings_524 rfl hl (by decide) rfl (fun ls hl => ?_)
                                                                                  refine lv_aload_n S.1 S.2.1 dL_areReadings_525 rfl (lv_at hl 11 rfl) ?_
                                                                                  refine lv_iload S.1 S.2.1 dL_areReadings_526 (lv_at hl 9 rfl) ?_
                                                                                  refine lv_aload_n S.1 S.2.1 dL_areReadings_528 rfl (lv_at hl 11 rfl) ?_
                                                                                  refine lv_iload S.1 S.2.1 dL_areReadings_529 (lv_at hl 9 rfl) ?_
                                                                                  refine k_iald S G 20 h20 rfl rfl rfl rfl (show k < 64 by omega) dL_areReadings_531 ?_
                                                                                  refine lv_sipush (v := (-14337)) S.1 S.2.1 dL_areReadings_532 (by decide) ?_
                                                                                  refine lv_iand S.1 S.2.1 dL_areReadings_535 ?_
                                                                                  refine lv_iload S.1 S.2.1 dL_areReadings_536 (lv_at hl 8 rfl) ?_
                                                                                  refine lv_bipush (v := 11) S.1 S.2.1 dL_areReadings_538 (by decide) ?_
                                                                                  refine lv_ishl S.1 S.2.1 dL_areReadings_540 ?_
                                                                                  refine lv_ior S.1 S.2.1 dL_areReadings_541 ?_
                                                                                  refine g_top (show _ = nI (enc τ 4 v9 s9) from by rw [b14]; exact enc_set (S := 4) (by omega) (by omega) (by omega) (by omega) (by decide)) ?_
                                                                                  refine k_iast S G 20 h20 rfl rfl rfl rfl (show k < 64 by omega) dL_areReadings_542 (fun H locs G => ?_)
                                                                                  refine lv_iinc (k := 9) (lv' := [(4, _), (3, _), (12, _), (11, _), (10, _), (9, _), (8, _), (7, _), (6, _), (5, _), (2, _), (1, _), (0, _)]) S.1 S.2.1 dL_areReadings_543 hl rfl (g_inc _) (by decide) rfl (fun ls hl => ?_)
                                                                                  refine lv_goto (tgt := 29) S.1 S.2.1 dL_areReadings_546 (by decide) ?_
                                                                                  refine W.widen (k := 40 * (k + 1)) (n := 320 * (k + 1)) (by omega) (by omega) ?_
                                                                                  exact ih_29 (k + 1, upd3 κ1 20 0 k (nI (enc τ 4 v9 s9))) H locs ls ⟨by show k + 1 ≤ nn; omega, J1.setv hlt b1 b2 (by decide) b9 b10 b11 b7 (fun z => (b16 z).1), hnk⟩ (by show nn - (k + 1) < nn - k; omega) G (lv_sub hl [0, 1, 10, 11, 12] rfl)
                                                                                · exact absurd c_501 (by decide)
                                                                            · exact absurd c_459 (by decide)
                                                                      · exact absurd c_402 (by decide)
                                                              · exact absurd c_370 (by decide)
                                          · exact absurd c_249 (by decide)
                                    · exact absurd ((nI_leI (a := 2) (b := st) (by decide) (by omega)).mpr (by omega)) c_191
                    · exact absurd c_129 (by decide)
                  · exact absurd c_118 (by decide)
                · exact absurd c_107 (by decide)
              · exact absurd c_96 (by decide)
            · have hd : v9 < 10 := by have := mt (nI_leI (a := 10) (b := v9) (by decide) (by omega)).mpr c_76; omega
              refine lv_iconst (v := 1) S.1 S.2.1 dL_areReadings_79 (by decide) ?_
              refine lv_goto (tgt := 84) S.1 S.2.1 dL_areReadings_80 (by decide) ?_
              refine lv_istore (lv' := [(8, _), (7, _), (6, _), (5, _), (4, _), (3, _), (2, _), (1, _), (0, _)]) S.1 S.2.1 dL_areReadings_84 hl (by decide) rfl (fun ls hl => ?_)
              refine lv_aload_n S.1 S.2.1 dL_areReadings_86 rfl (lv_at hl 8 rfl) ?_
              refine lv_iload S.1 S.2.1 dL_areReadings_87 (lv_at hl 4 rfl) ?_
              refine g_cVi S G hF hl 7 (hV 7 _ (by first | decide | (show _ < 1; omega))) (by decide) (c_X6_partsk l ids ad _ _ hV hW hlt) (cwV 1 S.2.2.2.2 gL_areReadings_X6_parts rfl rfl rfl (by decide +kernel) ⟨Nat.le_of_ble_eq_true rfl, Nat.le_of_ble_eq_true rfl⟩) rfl rfl (Nat.le_of_ble_eq_true rfl) dL_areReadings_89 ⟨by show _ ≤ 2480; omega, by show _ ≤ 19840; omega⟩ (fun r_89 u_89 H locs hp_89 G => ?_)
              obtain ⟨rfl, rfl⟩ := hp_89
              have G : gS D aC A s ids ad (gk _) H locs := G
              refine g_top b12 ?_
              refine lv_istore (lv' := [(9, _), (8, _), (7, _), (6, _), (5, _), (4, _), (3, _), (2, _), (1, _), (0, _)]) S.1 S.2.1 dL_areReadings_92 hl (by decide) rfl (fun ls hl => ?_)
              refine lv_iload S.1 S.2.1 dL_areReadings_94 (lv_at hl 4 rfl) ?_
              refine lv_if_ne (tgt := 104) S.1 S.2.1 dL_areReadings_96 (by decide) (fun c_96 => ?_) (fun c_96 => ?_)
              · refine lv_iload S.1 S.2.1 dL_areReadings_104 (lv_at hl 4 rfl) ?_
                refine lv_iconst (v := 1) S.1 S.2.1 dL_areReadings_106 (by decide) ?_
                refine lv_icmp_ne (tgt := 115) S.1 S.2.1 dL_areReadings_107 (by decide) (fun c_107 => ?_) (fun c_107 => ?_)
                · refine lv_iload S.1 S.2.1 dL_areReadings_115 (lv_at hl 4 rfl) ?_
                  refine lv_iconst (v := 2) S.1 S.2.1 dL_areReadings_117 (by decide) ?_
                  refine lv_icmp_ne (tgt := 126) S.1 S.2.1 dL_areReadings_118 (by decide) (fun c_118 => ?_) (fun c_118 => ?_)
                  · refine lv_iload S.1 S.2.1 dL_areReadings_126 (lv_at hl 4 rfl) ?_
                    refine lv_iconst (v := 3) S.1 S.2.1 dL_areReadings_128 (by decide) ?_
                    refine lv_icmp_ne (tgt := 137) S.1 S.2.1 dL_areReadings_129 (by decide) (fun c_129 => ?_) (fun c_129 => ?_)
                    · refine lv_bipush (v := 120) S.1 S.2.1 dL_areReadings_137 (by decide) ?_
                      refine lv_istore (lv' := [(10, _), (9, _), (8, _), (7, _), (6, _), (5, _), (4, _), (3, _), (2, _), (1, _), (0, _)]) S.1 S.2.1 dL_areReadings_139 hl (by decide) rfl (fun ls hl => ?_)
                      refine lv_iload S.1 S.2.1 dL_areReadings_141 (lv_at hl 5 rfl) ?_
                      refine lv_if_lt (tgt := 323) S.1 S.2.1 dL_areReadings_143 (by decide) (fun c_143 => ?_) (fun c_143 => ?_)
                      · exact absurd c_143 (by decide)
                      · refine lv_iload S.1 S.2.1 dL_areReadings_146 (lv_at hl 5 rfl) ?_
                        refine lv_iconst (v := 4) S.1 S.2.1 dL_areReadings_148 (by decide) ?_
                        refine lv_icmp_gt (tgt := 323) S.1 S.2.1 dL_areReadings_149 (by decide) (fun c_149 => ?_) (fun c_149 => ?_)
                        · exact absurd c_149 (by decide)
                        · refine lv_iload S.1 S.2.1 dL_areReadings_152 (lv_at hl 5 rfl) ?_
                          refine lv_iconst (v := 4) S.1 S.2.1 dL_areReadings_154 (by decide) ?_
                          refine lv_icmp_ne (tgt := 162) S.1 S.2.1 dL_areReadings_155 (by decide) (fun c_155 => ?_) (fun c_155 => ?_)
                          · exact absurd c_155 (by decide)
                          · refine lv_iconst (v := 1) S.1 S.2.1 dL_areReadings_158 (by decide) ?_
                            refine lv_goto (tgt := 163) S.1 S.2.1 dL_areReadings_159 (by decide) ?_
                            refine lv_iload S.1 S.2.1 dL_areReadings_163 (lv_at hl 1 rfl) ?_
                            refine lv_iconst (v := 3) S.1 S.2.1 dL_areReadings_165 (by decide) ?_
                            refine lv_icmp_ge (tgt := 173) S.1 S.2.1 dL_areReadings_166 (by decide) (fun c_166 => ?_) (fun c_166 => ?_)
                            · exact absurd c_166 hP
                            · refine lv_iconst (v := 1) S.1 S.2.1 dL_areReadings_169 (by decide) ?_
                              refine lv_goto (tgt := 174) S.1 S.2.1 dL_areReadings_170 (by decide) ?_
                              refine lv_icmp_ne (tgt := 323) S.1 S.2.1 dL_areReadings_174 (by decide) (fun c_174 => ?_) (fun c_174 => ?_)
                              · exact absurd c_174 (by decide)
                              · refine lv_iload S.1 S.2.1 dL_areReadings_177 (lv_at hl 1 rfl) ?_
                                refine lv_if_lt (tgt := 323) S.1 S.2.1 dL_areReadings_179 (by decide) (fun c_179 => ?_) (fun c_179 => ?_)
                                · exact absurd c_179 (nI_pos (by omega))
                                · refine lv_iload S.1 S.2.1 dL_areReadings_182 (lv_at hl 1 rfl) ?_
                                  refine lv_iconst (v := 4) S.1 S.2.1 dL_areReadings_184 (by decide) ?_
                                  refine lv_icmp_gt (tgt := 323) S.1 S.2.1 dL_areReadings_185 (by decide) (fun c_185 => ?_) (fun c_185 => ?_)
                                  · exact absurd c_185 (not_gt (n := 4) (ixL.nI (by omega) (by decide)) (by decide))
                                  · refine lv_iload S.1 S.2.1 dL_areReadings_188 (lv_at hl 4 rfl) ?_
                                    refine lv_iconst (v := 2) S.1 S.2.1 dL_areReadings_190 (by decide) ?_
                                    refine lv_icmp_ge (tgt := 210) S.1 S.2.1 dL_areReadings_191 (by decide) (fun c_191 => ?_) (fun c_191 => ?_)
                                    · have h2st := (nI_leI (a := 2) (b := st) (by decide) (by omega)).mp c_191
                                      refine lv_iload S.1 S.2.1 dL_areReadings_210 (lv_at hl 5 rfl) ?_
                                      refine lv_iload S.1 S.2.1 dL_areReadings_212 (lv_at hl 4 rfl) ?_
                                      refine lv_icmp_ne (tgt := 323) S.1 S.2.1 dL_areReadings_214 (by decide) (fun c_214 => ?_) (fun c_214 => ?_)
                                      · exact absurd (nI_imp (show 4 = st by omega)) c_214
                                      · refine lv_aload_n S.1 S.2.1 dL_areReadings_217 rfl (lv_at hl 10 rfl) ?_
                                        refine lv_iload S.1 S.2.1 dL_areReadings_218 (lv_at hl 6 rfl) ?_
                                        refine lv_iconst (v := 0) S.1 S.2.1 dL_areReadings_220 (by decide) ?_
                                        refine gx_cVi S G hF hl 7 (hV 7 _ (by first | decide | (show _ < 1; omega))) (by decide) (c_X6_textAt l hlf ids ad _ _ _ hV hW hI (fun _ => by rw [tN_nI (by omega)]; exact hvx)) (cwV 2 S.2.2.2.2 gL_areReadings_X6_textAt rfl rfl rfl (by decide +kernel) ⟨Nat.le_of_ble_eq_true rfl, Nat.le_of_ble_eq_true rfl⟩) rfl rfl (Nat.le_of_ble_eq_true rfl) dL_areReadings_221 ⟨by show _ ≤ 2480; omega, by show _ ≤ 19840; omega⟩ (fun _ _ _ _ _ _ hp _ _ _ _ => (xE_0 hp.1 (txT_0 hlt hn hn80 (by decide))).elim) (fun r_221 u_221 H locs hp_221 G => ?_)
                                        obtain ⟨-, rfl, rfl⟩ := hp_221
                                        have G : gS D aC A s ids ad (gk _) H locs := G
                                        refine g_top (show _ = 97 + nI s9 from by rw [tN_nI (by omega)]; exact t0) ?_
                                        refine lv_bipush (v := 97) S.1 S.2.1 dL_areReadings_224 (by decide) ?_
                                        refine lv_aload_n S.1 S.2.1 dL_areReadings_226 rfl (lv_at hl 9 rfl) ?_
                                        refine lv_iload S.1 S.2.1 dL_areReadings_227 (lv_at hl 6 rfl) ?_
                                        refine k_iald S G 20 h20 rfl rfl rfl rfl (show k < 64 by omega) dL_areReadings_229 ?_
                                        refine lv_bipush (v := 15) S.1 S.2.1 dL_areReadings_230 (by decide) ?_
                                        refine lv_iand S.1 S.2.1 dL_areReadings_232 ?_
                                        refine g_top (show _ = nI s9 from by rw [b14]; exact enc_s (by omega) (by omega) (by omega) (by omega)) ?_
                                        refine lv_iadd S.1 S.2.1 dL_areReadings_233 ?_
                                        refine lv_icmp_ne (tgt := 323) S.1 S.2.1 dL_areReadings_234 (by decide) (fun c_234 => ?_) (fun c_234 => ?_)
                                        · exact absurd rfl c_234
                                        · refine lv_aload_n S.1 S.2.1 dL_areReadings_237 rfl (lv_at hl 10 rfl) ?_
                                          refine lv_iload S.1 S.2.1 dL_areReadings_238 (lv_at hl 6 rfl) ?_
                                          refine lv_iconst (v := 1) S.1 S.2.1 dL_areReadings_240 (by decide) ?_
                                          refine gx_cVi S G hF hl 7 (hV 7 _ (by first | decide | (show _ < 1; omega))) (by decide) (c_X6_textAt l hlf ids ad _ _ _ hV hW hI (fun _ => by rw [tN_nI (by omega)]; exact hvx)) (cwV 2 S.2.2.2.2 gL_areReadings_X6_textAt rfl rfl rfl (by decide +kernel) ⟨Nat.le_of_ble_eq_true rfl, Nat.le_of_ble_eq_true rfl⟩) rfl rfl (Nat.le_of_ble_eq_true rfl) dL_areReadings_241 ⟨by show _ ≤ 2480; omega, by show _ ≤ 19840; omega⟩ (fun _ _ _ _ _ _ hp _ _ _ _ => (xE_0 hp.1 (txT_0 hlt hn hn80 (by decide))).elim) (fun r_241 u_241 H locs hp_241 G => ?_)
                                          obtain ⟨-, rfl, rfl⟩ := hp_241
                                          have G : gS D aC A s ids ad (gk _) H locs := G
                                          refine g_top (show _ = 48 + nI v9 from by rw [tN_nI (by omega)]; exact (t1 hd).1) ?_
                                          refine lv_bipush (v := 48) S.1 S.2.1 dL_areReadings_244 (by decide) ?_
                                          refine lv_iload S.1 S.2.1 dL_areReadings_246 (lv_at hl 2 rfl) ?_
                                          refine lv_iconst (v := 1) S.1 S.2.1 dL_areReadings_248 (by decide) ?_
                                          refine lv_icmp_ne (tgt := 257) S.1 S.2.1 dL_areReadings_249 (by decide) (fun c_249 => ?_) (fun c_249 => ?_)
                                          · exact absurd c_249 (by decide)
                                          · refine lv_iload S.1 S.2.1 dL_areReadings_252 (lv_at hl 3 rfl) ?_
                                            refine lv_goto (tgt := 262) S.1 S.2.1 dL_areReadings_254 (by decide) ?_
                                            refine lv_iadd S.1 S.2.1 dL_areReadings_262 ?_
                                            refine lv_icmp_ne (tgt := 323) S.1 S.2.1 dL_areReadings_263 (by decide) (fun c_263 => ?_) (fun c_263 => ?_)
                                            · exact absurd rfl c_263
                                            · refine lv_iload S.1 S.2.1 dL_areReadings_266 (lv_at hl 2 rfl) ?_
                                              refine lv_iconst (v := 1) S.1 S.2.1 dL_areReadings_268 (by decide) ?_
                                              refine lv_icmp_eq (tgt := 290) S.1 S.2.1 dL_areReadings_269 (by decide) (fun c_269 => ?_) (fun c_269 => ?_)
                                              · refine lv_aload_n S.1 S.2.1 dL_areReadings_290 rfl (lv_at hl 10 rfl) ?_
                                                refine lv_iload S.1 S.2.1 dL_areReadings_291 (lv_at hl 6 rfl) ?_
                                                refine lv_iload S.1 S.2.1 dL_areReadings_293 (lv_at hl 2 rfl) ?_
                                                refine lv_iconst (v := 1) S.1 S.2.1 dL_areReadings_295 (by decide) ?_
                                                refine lv_iadd S.1 S.2.1 dL_areReadings_296 ?_
                                                refine g_top (show _ = (2 : Int32) from by decide) ?_
                                                refine gx_cVi S G hF hl 7 (hV 7 _ (by first | decide | (show _ < 1; omega))) (by decide) (c_X6_textAt l hlf ids ad _ _ _ hV hW hI (fun _ => by rw [tN_nI (by omega)]; exact hvx)) (cwV 2 S.2.2.2.2 gL_areReadings_X6_textAt rfl rfl rfl (by decide +kernel) ⟨Nat.le_of_ble_eq_true rfl, Nat.le_of_ble_eq_true rfl⟩) rfl rfl (Nat.le_of_ble_eq_true rfl) dL_areReadings_297 ⟨by show _ ≤ 2480; omega, by show _ ≤ 19840; omega⟩ (fun _ _ _ _ _ _ hp _ _ _ _ => (xE_0 hp.1 (txT_0 hlt hn hn80 (by decide))).elim) (fun r_297 u_297 H locs hp_297 G => ?_)
                                                obtain ⟨-, rfl, rfl⟩ := hp_297
                                                have G : gS D aC A s ids ad (gk _) H locs := G
                                                refine g_top (show _ = (120 : Int32) from by rw [tN_nI (by omega)]; exact (t1 hd).2.1.trans e3s) ?_
                                                refine lv_iload S.1 S.2.1 dL_areReadings_300 (lv_at hl 0 rfl) ?_
                                                refine lv_icmp_ne (tgt := 323) S.1 S.2.1 dL_areReadings_302 (by decide) (fun c_302 => ?_) (fun c_302 => ?_)
                                                · exact absurd c_302 (by decide)
                                                · refine lv_aload_n S.1 S.2.1 dL_areReadings_305 rfl (lv_at hl 10 rfl) ?_
                                                  refine lv_iload S.1 S.2.1 dL_areReadings_306 (lv_at hl 6 rfl) ?_
                                                  refine lv_iload S.1 S.2.1 dL_areReadings_308 (lv_at hl 2 rfl) ?_
                                                  refine lv_iconst (v := 2) S.1 S.2.1 dL_areReadings_310 (by decide) ?_
                                                  refine lv_iadd S.1 S.2.1 dL_areReadings_311 ?_
                                                  refine g_top (show _ = (3 : Int32) from by decide) ?_
                                                  refine gx_cVi S G hF hl 7 (hV 7 _ (by first | decide | (show _ < 1; omega))) (by decide) (c_X6_textAt l hlf ids ad _ _ _ hV hW hI (fun _ => by rw [tN_nI (by omega)]; exact hvx)) (cwV 2 S.2.2.2.2 gL_areReadings_X6_textAt rfl rfl rfl (by decide +kernel) ⟨Nat.le_of_ble_eq_true rfl, Nat.le_of_ble_eq_true rfl⟩) rfl rfl (Nat.le_of_ble_eq_true rfl) dL_areReadings_312 ⟨by show _ ≤ 2480; omega, by show _ ≤ 19840; omega⟩ (fun _ _ _ _ _ _ hp _ _ _ _ => (xE_0 hp.1 (txT_0 hlt hn hn80 (by decide))).elim) (fun r_312 u_312 H locs hp_312 G => ?_)
                                                  obtain ⟨-, rfl, rfl⟩ := hp_312
                                                  have G : gS D aC A s ids ad (gk _) H locs := G
                                                  refine g_top (show _ = (-1 : Int32) from by rw [tN_nI (by omega)]; exact (t1 hd).2.2) ?_
                                                  refine lv_iconst (v := (-1)) S.1 S.2.1 dL_areReadings_315 (by decide) ?_
                                                  refine lv_icmp_ne (tgt := 323) S.1 S.2.1 dL_areReadings_316 (by decide) (fun c_316 => ?_) (fun c_316 => ?_)
                                                  · exact absurd c_316 (by decide)
                                                  · refine lv_iconst (v := 1) S.1 S.2.1 dL_areReadings_319 (by decide) ?_
                                                    refine lv_goto (tgt := 324) S.1 S.2.1 dL_areReadings_320 (by decide) ?_
                                                    refine lv_istore_n (lv' := [(3, _), (10, _), (9, _), (8, _), (7, _), (6, _), (5, _), (4, _), (2, _), (1, _), (0, _)]) S.1 S.2.1 dL_areReadings_324 rfl hl (by decide) rfl (fun ls hl => ?_)
                                                    refine lv_aload_n S.1 S.2.1 dL_areReadings_325 rfl (lv_at hl 10 rfl) ?_
                                                    refine lv_iload S.1 S.2.1 dL_areReadings_326 (lv_at hl 7 rfl) ?_
                                                    refine g_cVi S G hF hl 7 (hV 7 _ (by first | decide | (show _ < 1; omega))) (by decide) (c_X6_usersk l ids ad _ _ hV hW hlt) (cwV 1 S.2.2.2.2 gL_areReadings_X6_users rfl rfl rfl (by decide +kernel) ⟨Nat.le_of_ble_eq_true rfl, Nat.le_of_ble_eq_true rfl⟩) rfl rfl (Nat.le_of_ble_eq_true rfl) dL_areReadings_328 ⟨by show _ ≤ 2480; omega, by show _ ≤ 19840; omega⟩ (fun r_328 u_328 H locs hp_328 G => ?_)
                                                    obtain ⟨rfl, rfl⟩ := hp_328
                                                    have G : gS D aC A s ids ad (gk _) H locs := G
                                                    refine g_top b13 ?_
                                                    refine lv_istore (lv' := [(11, _), (3, _), (10, _), (9, _), (8, _), (7, _), (6, _), (5, _), (4, _), (2, _), (1, _), (0, _)]) S.1 S.2.1 dL_areReadings_331 hl (by decide) rfl (fun ls hl => ?_)
                                                    refine lv_aload_n S.1 S.2.1 dL_areReadings_333 rfl (lv_at hl 11 rfl) ?_
                                                    refine lv_iload S.1 S.2.1 dL_areReadings_334 (lv_at hl 8 rfl) ?_
                                                    refine g_cVi S G hF hl 7 (hV 7 _ (by first | decide | (show _ < 1; omega))) (by decide) (c_X6_heldk l ids ad _ _ hV hW hlt) (cwV 1 S.2.2.2.2 gL_areReadings_X6_held rfl rfl rfl (by decide +kernel) ⟨Nat.le_of_ble_eq_true rfl, Nat.le_of_ble_eq_true rfl⟩) rfl rfl (Nat.le_of_ble_eq_true rfl) dL_areReadings_336 ⟨by show _ ≤ 2480; omega, by show _ ≤ 19840; omega⟩ (fun r_336 u_336 H locs hp_336 G => ?_)
                                                    obtain ⟨rfl, rfl⟩ := hp_336
                                                    have G : gS D aC A s ids ad (gk _) H locs := G
                                                    refine g_top c1 ?_
                                                    refine lv_istore (lv' := [(12, _), (11, _), (3, _), (10, _), (9, _), (8, _), (7, _), (6, _), (5, _), (4, _), (2, _), (1, _), (0, _)]) S.1 S.2.1 dL_areReadings_339 hl (by decide) rfl (fun ls hl => ?_)
                                                    refine lv_iload_n S.1 S.2.1 dL_areReadings_341 rfl (lv_at hl 2 rfl) ?_
                                                    refine lv_if_eq (tgt := 492) S.1 S.2.1 dL_areReadings_342 (by decide) (fun c_342 => ?_) (fun c_342 => ?_)
                                                    · exact absurd c_342 (by decide)
                                                    · refine lv_iload S.1 S.2.1 dL_areReadings_345 (lv_at hl 1 rfl) ?_
                                                      refine lv_if_lt (tgt := 492) S.1 S.2.1 dL_areReadings_347 (by decide) (fun c_347 => ?_) (fun c_347 => ?_)
                                                      · exact absurd c_347 (nI_pos (by omega))
                                                      · refine lv_iload S.1 S.2.1 dL_areReadings_350 (lv_at hl 1 rfl) ?_
                                                        refine lv_bipush (v := 6) S.1 S.2.1 dL_areReadings_352 (by decide) ?_
                                                        refine lv_icmp_gt (tgt := 492) S.1 S.2.1 dL_areReadings_354 (by decide) (fun c_354 => ?_) (fun c_354 => ?_)
                                                        · exact absurd c_354 (not_gt (n := 6) (ixL.nI (by omega) (by decide)) (by decide))
                                                        · refine lv_iload S.1 S.2.1 dL_areReadings_357 (lv_at hl 0 rfl) ?_
                                                          refine lv_bipush (v := 20) S.1 S.2.1 dL_areReadings_359 (by decide) ?_
                                                          refine lv_iload S.1 S.2.1 dL_areReadings_361 (lv_at hl 1 rfl) ?_
                                                          refine lv_imul S.1 S.2.1 dL_areReadings_363 ?_
                                                          refine g_top (pk_mul 20 U) ?_
                                                          refine lv_icmp_gt (tgt := 492) S.1 S.2.1 dL_areReadings_364 (by decide) (fun c_364 => ?_) (fun c_364 => ?_)
                                                          · exact absurd ((nI_ltI (by omega) (by omega)).mp c_364) (by omega)
                                                          · refine lv_iload S.1 S.2.1 dL_areReadings_367 (lv_at hl 8 rfl) ?_
                                                            refine lv_iconst (v := 2) S.1 S.2.1 dL_areReadings_369 (by decide) ?_
                                                            refine lv_icmp_ge (tgt := 383) S.1 S.2.1 dL_areReadings_370 (by decide) (fun c_370 => ?_) (fun c_370 => ?_)
                                                            · refine lv_iload S.1 S.2.1 dL_areReadings_383 (lv_at hl 0 rfl) ?_
                                                              refine lv_if_ne (tgt := 492) S.1 S.2.1 dL_areReadings_385 (by decide) (fun c_385 => ?_) (fun c_385 => ?_)
                                                              · exact absurd (nI_imp (show Hd = 0 by omega)) c_385
                                                              · refine lv_iload S.1 S.2.1 dL_areReadings_388 (lv_at hl 8 rfl) ?_
                                                                refine lv_iconst (v := 4) S.1 S.2.1 dL_areReadings_390 (by decide) ?_
                                                                refine lv_icmp_lt (tgt := 399) S.1 S.2.1 dL_areReadings_391 (by decide) (fun c_391 => ?_) (fun c_391 => ?_)
                                                                · exact absurd c_391 (by decide)
                                                                · refine lv_iload S.1 S.2.1 dL_areReadings_394 (lv_at hl 1 rfl) ?_
                                                                  refine lv_if_ne (tgt := 492) S.1 S.2.1 dL_areReadings_396 (by decide) (fun c_396 => ?_) (fun c_396 => ?_)
                                                                  · exact absurd (nI_imp (show U = 0 by omega)) c_396
                                                                  · refine lv_iload S.1 S.2.1 dL_areReadings_399 (lv_at hl 8 rfl) ?_
                                                                    refine lv_iconst (v := 3) S.1 S.2.1 dL_areReadings_401 (by decide) ?_
                                                                    refine lv_icmp_ne (tgt := 440) S.1 S.2.1 dL_areReadings_402 (by decide) (fun c_402 => ?_) (fun c_402 => ?_)
                                                                    · refine lv_iload S.1 S.2.1 dL_areReadings_440 (lv_at hl 8 rfl) ?_
                                                                      refine lv_iconst (v := 2) S.1 S.2.1 dL_areReadings_442 (by decide) ?_
                                                                      refine lv_icmp_lt (tgt := 488) S.1 S.2.1 dL_areReadings_443 (by decide) (fun c_443 => ?_) (fun c_443 => ?_)
                                                                      · exact absurd c_443 (by decide)
                                                                      · refine lv_iload S.1 S.2.1 dL_areReadings_446 (lv_at hl 8 rfl) ?_
                                                                        refine lv_iconst (v := 3) S.1 S.2.1 dL_areReadings_448 (by decide) ?_
                                                                        refine lv_icmp_eq (tgt := 488) S.1 S.2.1 dL_areReadings_449 (by decide) (fun c_449 => ?_) (fun c_449 => ?_)
                                                                        · exact absurd c_449 (by decide)
                                                                        · refine lv_aload_n S.1 S.2.1 dL_areReadings_452 rfl (lv_at hl 12 rfl) ?_
                                                                          refine lv_iload S.1 S.2.1 dL_areReadings_453 (lv_at hl 9 rfl) ?_
                                                                          refine g_cVi S G hF hl 7 (hV 7 _ (by first | decide | (show _ < 1; omega))) (by decide) (c_X6_middlek l ids ad _ _ hV hW hlt) (cwV 1 S.2.2.2.2 gL_areReadings_X6_middle rfl rfl rfl (by decide +kernel) ⟨Nat.le_of_ble_eq_true rfl, Nat.le_of_ble_eq_true rfl⟩) rfl rfl (Nat.le_of_ble_eq_true rfl) dL_areReadings_455 ⟨by show _ ≤ 2480; omega, by show _ ≤ 19840; omega⟩ (fun r_455 u_455 H locs hp_455 G => ?_)
                                                                          obtain ⟨rfl, rfl⟩ := hp_455
                                                                          have G : gS D aC A s ids ad (gk _) H locs := G
                                                                          refine g_top (show _ = (-1 : Int32) from by exact m5 rfl) ?_
                                                                          refine lv_iconst (v := (-1)) S.1 S.2.1 dL_areReadings_458 (by decide) ?_
                                                                          refine lv_icmp_eq (tgt := 488) S.1 S.2.1 dL_areReadings_459 (by decide) (fun c_459 => ?_) (fun c_459 => ?_)
                                                                          · refine lv_iconst (v := 1) S.1 S.2.1 dL_areReadings_488 (by decide) ?_
                                                                            refine lv_goto (tgt := 493) S.1 S.2.1 dL_areReadings_489 (by decide) ?_
                                                                            refine lv_istore_n (lv' := [(3, _), (12, _), (11, _), (10, _), (9, _), (8, _), (7, _), (6, _), (5, _), (4, _), (2, _), (1, _), (0, _)]) S.1 S.2.1 dL_areReadings_493 rfl hl (by decide) rfl (fun ls hl => ?_)
                                                                            refine lv_iload_n S.1 S.2.1 dL_areReadings_494 rfl (lv_at hl 0 rfl) ?_
                                                                            refine lv_if_eq (tgt := 523) S.1 S.2.1 dL_areReadings_495 (by decide) (fun c_495 => ?_) (fun c_495 => ?_)
                                                                            · exact absurd c_495 (by decide)
                                                                            · refine lv_iload S.1 S.2.1 dL_areReadings_498 (lv_at hl 8 rfl) ?_
                                                                              refine lv_iconst (v := 1) S.1 S.2.1 dL_areReadings_500 (by decide) ?_
                                                                              refine lv_icmp_gt (tgt := 519) S.1 S.2.1 dL_areReadings_501 (by decide) (fun c_501 => ?_) (fun c_501 => ?_)
                                                                              · refine lv_iconst (v := 1) S.1 S.2.1 dL_areReadings_519 (by decide) ?_
                                                                                refine lv_goto (tgt := 524) S.1 S.2.1 dL_areReadings_520 (by decide) ?_
                                                                                refine lv_istore_n (lv' := [(3, _), (12, _), (11, _), (10, _), (9, _), (8, _), (7, _), (6, _), (5, _), (4, _), (2, _), (1, _), (0, _)]) S.1 S.2.1 dL_areReadings_524 rfl hl (by decide) rfl (fun ls hl => ?_)
                                                                                refine lv_aload_n S.1 S.2.1 dL_areReadings_525 rfl (lv_at hl 11 rfl) ?_
                                                                                refine lv_iload S.1 S.2.1 dL_areReadings_526 (lv_at hl 9 rfl) ?_
                                                                                refine lv_aload_n S.1 S.2.1 dL_areReadings_528 rfl (lv_at hl 11 rfl) ?_
                                                                                refine lv_iload S.1 S.2.1 dL_areReadings_529 (lv_at hl 9 rfl) ?_
                                                                                refine k_iald S G 20 h20 rfl rfl rfl rfl (show k < 64 by omega) dL_areReadings_531 ?_
                                                                                refine lv_sipush (v := (-14337)) S.1 S.2.1 dL_areReadings_532 (by decide) ?_
                                                                                refine lv_iand S.1 S.2.1 dL_areReadings_535 ?_
                                                                                refine lv_iload S.1 S.2.1 dL_areReadings_536 (lv_at hl 8 rfl) ?_
                                                                                refine lv_bipush (v := 11) S.1 S.2.1 dL_areReadings_538 (by decide) ?_
                                                                                refine lv_ishl S.1 S.2.1 dL_areReadings_540 ?_
                                                                                refine lv_ior S.1 S.2.1 dL_areReadings_541 ?_
                                                                                refine g_top (show _ = nI (enc τ 4 v9 s9) from by rw [b14]; exact enc_set (S := 4) (by omega) (by omega) (by omega) (by omega) (by decide)) ?_
                                                                                refine k_iast S G 20 h20 rfl rfl rfl rfl (show k < 64 by omega) dL_areReadings_542 (fun H locs G => ?_)
                                                                                refine lv_iinc (k := 9) (lv' := [(4, _), (3, _), (12, _), (11, _), (10, _), (9, _), (8, _), (7, _), (6, _), (5, _), (2, _), (1, _), (0, _)]) S.1 S.2.1 dL_areReadings_543 hl rfl (g_inc _) (by decide) rfl (fun ls hl => ?_)
                                                                                refine lv_goto (tgt := 29) S.1 S.2.1 dL_areReadings_546 (by decide) ?_
                                                                                refine W.widen (k := 40 * (k + 1)) (n := 320 * (k + 1)) (by omega) (by omega) ?_
                                                                                exact ih_29 (k + 1, upd3 κ1 20 0 k (nI (enc τ 4 v9 s9))) H locs ls ⟨by show k + 1 ≤ nn; omega, J1.setv hlt b1 b2 (by decide) b9 b10 b11 b7 (fun z => (b16 z).1), hnk⟩ (by show nn - (k + 1) < nn - k; omega) G (lv_sub hl [0, 1, 10, 11, 12] rfl)
                                                                              · exact absurd c_501 (by decide)
                                                                          · exact absurd c_459 (by decide)
                                                                    · exact absurd c_402 (by decide)
                                                            · exact absurd c_370 (by decide)
                                              · exact absurd c_269 (by decide)
                                    · exact absurd ((nI_leI (a := 2) (b := st) (by decide) (by omega)).mpr (by omega)) c_191
                    · exact absurd c_129 (by decide)
                  · exact absurd c_118 (by decide)
                · exact absurd c_107 (by decide)
              · exact absurd c_96 (by decide)
