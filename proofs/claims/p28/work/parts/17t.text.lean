/-! ===== a text in the making: StringBuilder's methods ===== -/
section GT
variable {p : Program} {l : Launch} {e : Env} {R : Room} {s : State} {m : MethodId} {args : Array Value} {below : List Frame} {meth : Method} {c : Code} {H : Heap} {locs : List Loc} {cells slots : Nat} {Q : State → Prop}
variable {cc bytes : ByteArray} {pc nL maxL index n mc ms : Nat} {ls : Array Slot} {rest st0 As : List Value} {lv : List (Nat × Value)} {Ts ws : List Cond} {own host : String} {y : MethodName} {ret : Option FieldType} {rm : Room}
variable {D : va_G} {aC : Nat → ClassId} {A : Nat → Prop} {ids : gIds} {ad : gAd} {π : gMem}
theorem g_cSUi (S : CallFix p m c cc nL s args Ts own) (G : gS D aC A s ids ad π H locs) (hF : gF A s s.heap) (hl : lv_has ls nL lv) (f : Nat) {i : Nat} (hV : (f, i) ∈ ids) (hf : f < 8) {post : Int32 → GSt → Prop} (hM : gMi l y ws rm mc ms (.ref (ad f i) :: As) (ids, ad, π) post) (cw : va_CS R s args own index y bytes maxL ret ws rm mc ms n) (hn : As.length = n) (hst : st0 = As.reverse ++ .ref (ad f i) :: rest) (hroom : (rest.map fun v => v.category).sum ≤ 8) (hdg : decode cc pc = .ok (.invokespecial index, 3)) (hfit : cells + mc ≤ R.cells ∧ slots + ms ≤ R.slots)
    (kk : ∀ (r : Int32) (u : GSt) (H1 : Heap) (locs1 : List Loc), post r u → gS D aC A s u.1 u.2.1 u.2.2 H1 locs1 → W p l e R s m args below meth c H1 locs1 (cells + mc) (slots + ms) Q (F0 m (pc + 3) ls (.int r :: rest))) : W p l e R s m args below meth c H locs cells slots Q (F0 m pc ls st0) :=
  g_behi G (va_runSU (G.2.2.1.1 f _ (gCl_at f hf)).2 S (hM D aC A) cw (gPreV G hF f hV hf) rfl hn hl.1 hst (lv_room hroom) hdg hfit) kk
theorem g_cSUr (S : CallFix p m c cc nL s args Ts own) (G : gS D aC A s ids ad π H locs) (hF : gF A s s.heap) (hl : lv_has ls nL lv) (f : Nat) {i : Nat} (hV : (f, i) ∈ ids) (hf : f < 8) {post : Nat → GSt → Prop} (hM : gMr l y ws rm mc ms (.ref (ad f i) :: As) (ids, ad, π) post) (cw : va_CS R s args own index y bytes maxL ret ws rm mc ms n) (hn : As.length = n) (hst : st0 = As.reverse ++ .ref (ad f i) :: rest) (hroom : (rest.map fun v => v.category).sum ≤ 8) (hdg : decode cc pc = .ok (.invokespecial index, 3)) (hfit : cells + mc ≤ R.cells ∧ slots + ms ≤ R.slots)
    (kk : ∀ (r : Nat) (u : GSt) (H1 : Heap) (locs1 : List Loc), post r u → gS D aC A s u.1 u.2.1 u.2.2 H1 locs1 → W p l e R s m args below meth c H1 locs1 (cells + mc) (slots + ms) Q (F0 m (pc + 3) ls (.ref r :: rest))) : W p l e R s m args below meth c H locs cells slots Q (F0 m pc ls st0) :=
  g_behr G (va_runSU (G.2.2.1.1 f _ (gCl_at f hf)).2 S (hM D aC A) cw (gPreV G hF f hV hf) rfl hn hl.1 hst (lv_room hroom) hdg hfit) kk
end GT
theorem tCap : ∀ a, a ≤ 16 → nI a - 16 >>> ((0 : Int32) &&& 31) ≤ 0 := by decide +kernel
def tEnc (x : Int32) : Int32 := if 255 < x then 0 else 1
set_option maxHeartbeats 4000000 in
set_option maxRecDepth 100000 in
theorem c_J1_canEncode_fc78d (l : Launch) (ids : gIds) (ad : gAd) (κ : gMem) (a : Int32)  : gMi l yJ1_canEncode_fc78d wsJ1_canEncode_fc78d ({ frames := 0, cells := 0, slots := 0, locals := 0 } : Room) 0 0 [.int a] (ids, ad, gk κ) (fun q u => q = tEnc a ∧ u = (ids, ad, gk (κ))) := by
  intro D aC A
  refine g_of (cc := cJ1_canEncode_fc78d) (maxL := 1) (ret := (some .boolean)) (by decide +kernel) rfl (Nat.le_of_ble_eq_true rfl) ?_
  intro p e s m below meth c ls S G hF hr hlk hnm hl
  have hl : lv_has ls 1 [(0, _)] := hl
  refine lv_iload_n S.1 S.2.1 dJ1_canEncode_fc78d_0 rfl (lv_at hl 0 rfl) ?_
  refine lv_sipush (v := 255) S.1 S.2.1 dJ1_canEncode_fc78d_1 (by decide) ?_
  refine lv_icmp_gt (tgt := 11) S.1 S.2.1 dJ1_canEncode_fc78d_4 (by decide) (fun c_4 => ?_) (fun c_4 => ?_)
  · refine lv_iconst (v := 0) S.1 S.2.1 dJ1_canEncode_fc78d_11 (by decide) ?_
    exact g_zret S G hr hlk (by decide) (⟨by simp only [tEnc, if_pos c_4], rfl⟩) (Nat.le_of_ble_eq_true rfl) (Nat.le_of_ble_eq_true rfl) dJ1_canEncode_fc78d_12
  · refine lv_iconst (v := 1) S.1 S.2.1 dJ1_canEncode_fc78d_7 (by decide) ?_
    refine lv_goto (tgt := 12) S.1 S.2.1 dJ1_canEncode_fc78d_8 (by decide) ?_
    exact g_zret S G hr hlk (by decide) (⟨by simp only [tEnc, if_neg c_4], rfl⟩) (Nat.le_of_ble_eq_true rfl) (Nat.le_of_ble_eq_true rfl) dJ1_canEncode_fc78d_12
set_option maxHeartbeats 4000000 in
set_option maxRecDepth 100000 in
theorem c_J5_length_8abf5 (l : Launch) (ids : gIds) (ad : gAd) (κ : gMem) (h0 : (0, 0) ∈ ids)  : gMi l yJ5_length_8abf5 wsJ5_length_8abf5 ({ frames := 0, cells := 0, slots := 0, locals := 0 } : Room) 0 0 [.ref (ad 0 0)] (ids, ad, gk κ) (fun q u => q = κ 0 0 3 ∧ u = (ids, ad, gk (κ))) := by
  intro D aC A
  refine g_of (cc := cJ5_length_8abf5) (maxL := 1) (ret := (some .int)) (by decide +kernel) rfl (Nat.le_of_ble_eq_true rfl) ?_
  intro p e s m below meth c ls S G hF hr hlk hnm hl
  have hl : lv_has ls 1 [(0, _)] := hl
  have i0 : ∀ w ∈ wsJ40, w ∈ wsJ5_length_8abf5 := by decide +kernel
  refine lv_aload_n S.1 S.2.1 dJ5_length_8abf5_0 rfl (lv_at hl 0 rfl) ?_
  refine g_get S G 0 3 h0 (by decide) (by decide) i0 (S.2.2.2.2 (.fieldLink RJ5 79 "java/lang/AbstractStringBuilder" "count" "I") (by decide +kernel)) (gvk_i rfl rfl) dJ5_length_8abf5_1 ?_
  exact g_iret S G hr hlk (⟨rfl, rfl⟩) (Nat.le_of_ble_eq_true rfl) (Nat.le_of_ble_eq_true rfl) dJ5_length_8abf5_4
set_option maxHeartbeats 4000000 in
set_option maxRecDepth 100000 in
theorem c_J5_ensureCapacityInternal_d00df (l : Launch) (ids : gIds) (ad : gAd) (κ : gMem) (a : Nat) (h0 : (0, 0) ∈ ids) (h17 : (17, 0) ∈ ids) (hv : κ 0 0 0 = nI 0) (hz : κ 0 0 1 = 0) (ha : a ≤ 16)  : gMv l yJ5_ensureCapacityInternal_d00df wsJ5_ensureCapacityInternal_d00df ({ frames := 0, cells := 0, slots := 0, locals := 0 } : Room) 0 0 [.ref (ad 0 0), .int (nI a)] (ids, ad, gk κ) (fun u => u = (ids, ad, gk (κ))) := by
  intro D aC A
  refine g_of (cc := cJ5_ensureCapacityInternal_d00df) (maxL := 3) (ret := none) (by decide +kernel) rfl (Nat.le_of_ble_eq_true rfl) ?_
  intro p e s m below meth c ls S G hF hr hlk hnm hl
  have hl : lv_has ls 3 [(0, _), (1, _)] := hl
  have i0 : ∀ w ∈ wsJ40, w ∈ wsJ5_ensureCapacityInternal_d00df := by decide +kernel
  refine lv_aload_n S.1 S.2.1 dJ5_ensureCapacityInternal_d00df_0 rfl (lv_at hl 0 rfl) ?_
  refine g_get S G 0 0 h0 (by decide) (by decide) i0 (S.2.2.2.2 (.fieldLink RJ5 15 "java/lang/AbstractStringBuilder" "value" "[B") (by decide +kernel)) (gvk_r rfl rfl hv (by decide)) dJ5_ensureCapacityInternal_d00df_1 ?_
  refine g_alen S G 17 h17 (by decide) rfl rfl dJ5_ensureCapacityInternal_d00df_4 ?_
  refine lv_aload_n S.1 S.2.1 dJ5_ensureCapacityInternal_d00df_5 rfl (lv_at hl 0 rfl) ?_
  refine g_get S G 0 1 h0 (by decide) (by decide) i0 (S.2.2.2.2 (.fieldLink RJ5 22 "java/lang/AbstractStringBuilder" "coder" "B") (by decide +kernel)) (gvk_i rfl rfl) dJ5_ensureCapacityInternal_d00df_6 ?_
  refine lv_ishr S.1 S.2.1 dJ5_ensureCapacityInternal_d00df_9 ?_
  refine lv_istore_n (lv' := [(2, _), (0, _), (1, _)]) S.1 S.2.1 dJ5_ensureCapacityInternal_d00df_10 rfl hl (by decide) rfl (fun ls hl => ?_)
  refine lv_iload_n S.1 S.2.1 dJ5_ensureCapacityInternal_d00df_11 rfl (lv_at hl 2 rfl) ?_
  refine lv_iload_n S.1 S.2.1 dJ5_ensureCapacityInternal_d00df_12 rfl (lv_at hl 0 rfl) ?_
  refine lv_isub S.1 S.2.1 dJ5_ensureCapacityInternal_d00df_13 ?_
  refine lv_if_le (tgt := 38) S.1 S.2.1 dJ5_ensureCapacityInternal_d00df_14 (by decide) (fun c_14 => ?_) (fun c_14 => ?_)
  · exact g_vret S G hr hlk (rfl) (Nat.le_of_ble_eq_true rfl) (Nat.le_of_ble_eq_true rfl) dJ5_ensureCapacityInternal_d00df_38
  · exact absurd (by rw [hz]; exact tCap a ha) c_14
set_option maxHeartbeats 4000000 in
set_option maxRecDepth 100000 in
theorem c_J4_length_8abf5 (l : Launch) (ids : gIds) (ad : gAd) (κ : gMem) (h0 : (0, 0) ∈ ids)  : gMi l yJ4_length_8abf5 wsJ4_length_8abf5 ({ frames := 1, cells := 0, slots := 0, locals := 20 } : Room) 0 0 [.ref (ad 0 0)] (ids, ad, gk κ) (fun q u => q = κ 0 0 3 ∧ u = (ids, ad, gk (κ))) := by
  intro D aC A
  refine g_of (cc := cJ4_length_8abf5) (maxL := 1) (ret := (some .int)) (by decide +kernel) rfl (Nat.le_of_ble_eq_true rfl) ?_
  intro p e s m below meth c ls S G hF hr hlk hnm hl
  have hl : lv_has ls 1 [(0, _)] := hl
  refine lv_aload_n S.1 S.2.1 dJ4_length_8abf5_0 rfl (lv_at hl 0 rfl) ?_
  refine g_cSUi S G hF hl 0 h0 (by decide) (c_J5_length_8abf5 l ids ad κ h0) (va_cwSU 0 S.2.2.2.2 gJ4_length_8abf5_J5_length_8abf5_s343 rfl rfl rfl (by decide +kernel) ⟨Nat.le_of_ble_eq_true rfl, Nat.le_of_ble_eq_true rfl⟩) rfl rfl (Nat.le_of_ble_eq_true rfl) dJ4_length_8abf5_1 ⟨Nat.le_of_ble_eq_true rfl, Nat.le_of_ble_eq_true rfl⟩ (fun r9 u H locs hp G => ?_)
  obtain ⟨rfl, rfl⟩ := hp
  exact g_iret S G hr hlk (⟨rfl, rfl⟩) (Nat.le_of_ble_eq_true rfl) (Nat.le_of_ble_eq_true rfl) dJ4_length_8abf5_4
theorem gF.cs {A : Nat → Prop} {U : State} {H : Heap} (h : gF A U H) : va_Z "java/lang/String" "COMPACT_STRINGS" "Z" (.int 1) A U H := h.2.2.2.2.2.2.2.2.1
set_option maxHeartbeats 4000000 in
set_option maxRecDepth 100000 in
theorem c_J5_isLatin1_aae02 (l : Launch) (ids : gIds) (ad : gAd) (κ : gMem) (h0 : (0, 0) ∈ ids) (hz : κ 0 0 1 = 0) : gMi l yJ5_isLatin1_aae02 wsJ5_isLatin1_aae02 ({ frames := 0, cells := 0, slots := 0, locals := 0 } : Room) 0 0 [.ref (ad 0 0)] (ids, ad, gk κ) (fun q u => q = 1 ∧ u = (ids, ad, gk (κ))) := by
  intro D aC A
  refine g_of (cc := cJ5_isLatin1_aae02) (maxL := 1) (ret := (some .boolean)) (by decide +kernel) rfl (Nat.le_of_ble_eq_true rfl) ?_
  intro p e s m below meth c ls S G hF hr hlk hnm hl
  have hl : lv_has ls 1 [(0, _)] := hl
  have i0 : ∀ w ∈ wsJ40, w ∈ wsJ5_isLatin1_aae02 := by decide +kernel
  refine va_gets S.1 S.2.1 hF.cs G.2.2.2.1 S.2.2.2.1 (S.2.2.2.2 (.fieldLink RJ5 18 "java/lang/String" "COMPACT_STRINGS" "Z") (by decide +kernel)) (fun _ h => h) dJ5_isLatin1_aae02_0 ?_
  refine lv_if_eq (tgt := 17) S.1 S.2.1 dJ5_isLatin1_aae02_3 (by decide) (fun cz => absurd cz (by decide)) (fun _ => ?_)
  refine lv_aload_n S.1 S.2.1 dJ5_isLatin1_aae02_6 rfl (lv_at hl 0 rfl) ?_
  refine g_get S G 0 1 h0 (by decide) (by decide) i0 (S.2.2.2.2 (.fieldLink RJ5 22 "java/lang/AbstractStringBuilder" "coder" "B") (by decide +kernel)) (gvk_i rfl rfl) dJ5_isLatin1_aae02_7 ?_
  refine lv_if_ne (tgt := 17) S.1 S.2.1 dJ5_isLatin1_aae02_10 (by decide) (fun cz => absurd hz cz) (fun _ => ?_)
  refine lv_iconst (v := 1) S.1 S.2.1 dJ5_isLatin1_aae02_13 (by decide) ?_
  refine lv_goto (tgt := 18) S.1 S.2.1 dJ5_isLatin1_aae02_14 (by decide) ?_
  exact g_zret S G hr hlk (by decide) (⟨rfl, rfl⟩) (Nat.le_of_ble_eq_true rfl) (Nat.le_of_ble_eq_true rfl) dJ5_isLatin1_aae02_18
def tSize (i : Nat) : Int32 := if i < 10 then 1 else 2
set_option maxHeartbeats 4000000 in
set_option maxRecDepth 100000 in
theorem c_J6_stringSize_0f7a4 (l : Launch) (ids : gIds) (ad : gAd) (κ : gMem) (i : Nat) (hi : i < 100) : gMi l yJ6_stringSize_0f7a4 wsJ6_stringSize_0f7a4 ({ frames := 0, cells := 0, slots := 0, locals := 0 } : Room) 0 0 [.int (nI i)] (ids, ad, gk κ) (fun q u => q = tSize i ∧ u = (ids, ad, gk (κ))) := by
  intro D aC A
  refine g_of (cc := cJ6_stringSize_0f7a4) (maxL := 4) (ret := (some .int)) (by decide +kernel) rfl (Nat.le_of_ble_eq_true rfl) ?_
  intro p e s m below meth c ls S G hF hr hlk hnm hl
  have hl : lv_has ls 4 [(0, _)] := hl
  have e2 : ∀ i, i < 100 → ¬ -nI i ≤ 10 * -10 := by decide +kernel
  have e3 : ∀ i, i < 100 → -nI i ≤ -10 → tSize i = 2 + 0 := by decide +kernel
  have e4 : ∀ i, i < 100 → ¬ -nI i ≤ -10 → tSize i = 1 + 0 := by decide +kernel
  refine lv_iconst (v := 1) S.1 S.2.1 dJ6_stringSize_0f7a4_0 (by decide) ?_
  refine lv_istore_n (lv' := [(1, _), (0, _)]) S.1 S.2.1 dJ6_stringSize_0f7a4_1 rfl hl (by decide) rfl (fun ls hl => ?_)
  refine lv_iload_n S.1 S.2.1 dJ6_stringSize_0f7a4_2 rfl (lv_at hl 1 rfl) ?_
  refine lv_if_lt (tgt := 11) S.1 S.2.1 dJ6_stringSize_0f7a4_3 (by decide) (fun cz => absurd cz (nI_pos (by omega))) (fun _ => ?_)
  refine lv_iconst (v := 0) S.1 S.2.1 dJ6_stringSize_0f7a4_6 (by decide) ?_
  refine lv_istore_n (lv' := [(1, _), (0, _)]) S.1 S.2.1 dJ6_stringSize_0f7a4_7 rfl hl (by decide) rfl (fun ls hl => ?_)
  refine lv_iload_n S.1 S.2.1 dJ6_stringSize_0f7a4_8 rfl (lv_at hl 1 rfl) ?_
  refine lv_ineg S.1 S.2.1 dJ6_stringSize_0f7a4_9 ?_
  refine lv_istore_n (lv' := [(0, _), (1, _)]) S.1 S.2.1 dJ6_stringSize_0f7a4_10 rfl hl (by decide) rfl (fun ls hl => ?_)
  refine lv_bipush (v := -10) S.1 S.2.1 dJ6_stringSize_0f7a4_11 (by decide) ?_
  refine lv_istore_n (lv' := [(2, _), (0, _), (1, _)]) S.1 S.2.1 dJ6_stringSize_0f7a4_13 rfl hl (by decide) rfl (fun ls hl => ?_)
  refine lv_iconst (v := 1) S.1 S.2.1 dJ6_stringSize_0f7a4_14 (by decide) ?_
  refine lv_istore_n (lv' := [(3, _), (2, _), (0, _), (1, _)]) S.1 S.2.1 dJ6_stringSize_0f7a4_15 rfl hl (by decide) rfl (fun ls hl => ?_)
  refine lv_iload_n S.1 S.2.1 dJ6_stringSize_0f7a4_16 rfl (lv_at hl 0 rfl) ?_
  refine lv_bipush (v := 10) S.1 S.2.1 dJ6_stringSize_0f7a4_17 (by decide) ?_
  refine lv_icmp_ge (tgt := 42) S.1 S.2.1 dJ6_stringSize_0f7a4_19 (by decide) (fun cz => absurd cz (by decide)) (fun _ => ?_)
  refine lv_iload_n S.1 S.2.1 dJ6_stringSize_0f7a4_22 rfl (lv_at hl 2 rfl) ?_
  refine lv_iload_n S.1 S.2.1 dJ6_stringSize_0f7a4_23 rfl (lv_at hl 1 rfl) ?_
  refine lv_icmp_le (tgt := 31) S.1 S.2.1 dJ6_stringSize_0f7a4_24 (by decide) (fun c1 => ?_) (fun c1 => ?_)
  · refine lv_bipush (v := 10) S.1 S.2.1 dJ6_stringSize_0f7a4_31 (by decide) ?_
    refine lv_iload_n S.1 S.2.1 dJ6_stringSize_0f7a4_33 rfl (lv_at hl 1 rfl) ?_
    refine lv_imul S.1 S.2.1 dJ6_stringSize_0f7a4_34 ?_
    refine lv_istore_n (lv' := [(2, _), (3, _), (0, _), (1, _)]) S.1 S.2.1 dJ6_stringSize_0f7a4_35 rfl hl (by decide) rfl (fun ls hl => ?_)
    refine lv_iinc (k := 1) (v := 2) (lv' := [(3, _), (2, _), (0, _), (1, _)]) S.1 S.2.1 dJ6_stringSize_0f7a4_36 hl rfl (by decide) (by decide) rfl (fun ls hl => ?_)
    refine lv_goto (tgt := 16) S.1 S.2.1 dJ6_stringSize_0f7a4_39 (by decide) ?_
    refine lv_iload_n S.1 S.2.1 dJ6_stringSize_0f7a4_16 rfl (lv_at hl 0 rfl) ?_
    refine lv_bipush (v := 10) S.1 S.2.1 dJ6_stringSize_0f7a4_17 (by decide) ?_
    refine lv_icmp_ge (tgt := 42) S.1 S.2.1 dJ6_stringSize_0f7a4_19 (by decide) (fun cz => absurd cz (by decide)) (fun _ => ?_)
    refine lv_iload_n S.1 S.2.1 dJ6_stringSize_0f7a4_22 rfl (lv_at hl 2 rfl) ?_
    refine lv_iload_n S.1 S.2.1 dJ6_stringSize_0f7a4_23 rfl (lv_at hl 1 rfl) ?_
    refine lv_icmp_le (tgt := 31) S.1 S.2.1 dJ6_stringSize_0f7a4_24 (by decide) (fun c2 => absurd c2 (e2 i hi)) (fun _ => ?_)
    refine lv_iload_n S.1 S.2.1 dJ6_stringSize_0f7a4_27 rfl (lv_at hl 0 rfl) ?_
    refine lv_iload_n S.1 S.2.1 dJ6_stringSize_0f7a4_28 rfl (lv_at hl 3 rfl) ?_
    refine lv_iadd S.1 S.2.1 dJ6_stringSize_0f7a4_29 ?_
    exact g_iret S G hr hlk (⟨(e3 i hi c1).symm, rfl⟩) (Nat.le_of_ble_eq_true rfl) (Nat.le_of_ble_eq_true rfl) dJ6_stringSize_0f7a4_30
  · refine lv_iload_n S.1 S.2.1 dJ6_stringSize_0f7a4_27 rfl (lv_at hl 0 rfl) ?_
    refine lv_iload_n S.1 S.2.1 dJ6_stringSize_0f7a4_28 rfl (lv_at hl 3 rfl) ?_
    refine lv_iadd S.1 S.2.1 dJ6_stringSize_0f7a4_29 ?_
    exact g_iret S G hr hlk (⟨(e4 i hi c1).symm, rfl⟩) (Nat.le_of_ble_eq_true rfl) (Nat.le_of_ble_eq_true rfl) dJ6_stringSize_0f7a4_30
set_option maxHeartbeats 4000000 in
set_option maxRecDepth 100000 in
theorem c_J3_checkIndexN (l : Launch) (ids : gIds) (ad : gAd) (κ : gMem) (i n : Nat) (hi : i < n) (hn : n < 2 ^ 31) : gMi l yJ3_checkIndex_8e157 wsJ3_checkIndex_8e157 ({ frames := 0, cells := 0, slots := 0, locals := 0 } : Room) 0 0 [.int (nI i), .int (nI n), .null] (ids, ad, gk κ) (fun q u => q = nI i ∧ u = (ids, ad, gk (κ))) := by
  intro D aC A
  refine g_of (cc := cJ3_checkIndex_8e157) (maxL := 3) (ret := (some .int)) (by decide +kernel) rfl (Nat.le_of_ble_eq_true rfl) ?_
  intro p e s m below meth c ls S G hF hr hlk hnm hl
  have hl : lv_has ls 3 [(0, _), (1, _), (2, _)] := hl
  refine lv_iload_n S.1 S.2.1 dJ3_checkIndex_8e157_0 rfl (lv_at hl 0 rfl) ?_
  refine lv_if_lt (tgt := 9) S.1 S.2.1 dJ3_checkIndex_8e157_1 (by decide) (fun cz => absurd cz (nI_pos (by omega))) (fun _ => ?_)
  refine lv_iload_n S.1 S.2.1 dJ3_checkIndex_8e157_4 rfl (lv_at hl 0 rfl) ?_
  refine lv_iload_n S.1 S.2.1 dJ3_checkIndex_8e157_5 rfl (lv_at hl 1 rfl) ?_
  refine lv_icmp_lt (tgt := 16) S.1 S.2.1 dJ3_checkIndex_8e157_6 (by decide) (fun _ => ?_) (fun cz => absurd ((nI_ltI (by omega) hn).mpr hi) cz)
  refine lv_iload_n S.1 S.2.1 dJ3_checkIndex_8e157_16 rfl (lv_at hl 0 rfl) ?_
  exact g_iret S G hr hlk (⟨rfl, rfl⟩) (Nat.le_of_ble_eq_true rfl) (Nat.le_of_ble_eq_true rfl) dJ3_checkIndex_8e157_17
set_option maxHeartbeats 4000000 in
set_option maxRecDepth 100000 in
theorem c_J3_checkIndexR (l : Launch) (ids : gIds) (ad : gAd) (κ : gMem) (i n : Nat) (t : Nat) (hi : i < n) (hn : n < 2 ^ 31) : gMi l yJ3_checkIndex_8e157 wsJ3_checkIndex_8e157 ({ frames := 0, cells := 0, slots := 0, locals := 0 } : Room) 0 0 [.int (nI i), .int (nI n), .ref t] (ids, ad, gk κ) (fun q u => q = nI i ∧ u = (ids, ad, gk (κ))) := by
  intro D aC A
  refine g_of (cc := cJ3_checkIndex_8e157) (maxL := 3) (ret := (some .int)) (by decide +kernel) rfl (Nat.le_of_ble_eq_true rfl) ?_
  intro p e s m below meth c ls S G hF hr hlk hnm hl
  have hl : lv_has ls 3 [(0, _), (1, _), (2, _)] := hl
  refine lv_iload_n S.1 S.2.1 dJ3_checkIndex_8e157_0 rfl (lv_at hl 0 rfl) ?_
  refine lv_if_lt (tgt := 9) S.1 S.2.1 dJ3_checkIndex_8e157_1 (by decide) (fun cz => absurd cz (nI_pos (by omega))) (fun _ => ?_)
  refine lv_iload_n S.1 S.2.1 dJ3_checkIndex_8e157_4 rfl (lv_at hl 0 rfl) ?_
  refine lv_iload_n S.1 S.2.1 dJ3_checkIndex_8e157_5 rfl (lv_at hl 1 rfl) ?_
  refine lv_icmp_lt (tgt := 16) S.1 S.2.1 dJ3_checkIndex_8e157_6 (by decide) (fun _ => ?_) (fun cz => absurd ((nI_ltI (by omega) hn).mpr hi) cz)
  refine lv_iload_n S.1 S.2.1 dJ3_checkIndex_8e157_16 rfl (lv_at hl 0 rfl) ?_
  exact g_iret S G hr hlk (⟨rfl, rfl⟩) (Nat.le_of_ble_eq_true rfl) (Nat.le_of_ble_eq_true rfl) dJ3_checkIndex_8e157_17
theorem gF.sf {A : Nat → Prop} {U : State} {H : Heap} (h : gF A U H) : va_Zq "jdk/internal/util/Preconditions" "SIOOBE_FORMATTER" "Ljava/util/function/BiFunction;" A U H := by
  obtain ⟨t1, t2, h1, h2, h3, h4, h5⟩ := h.2.2.2.2.2.2.2.2.2
  exact h5
set_option maxHeartbeats 4000000 in
set_option maxRecDepth 100000 in
theorem c_J0_checkIndex_df160 (l : Launch) (ids : gIds) (ad : gAd) (κ : gMem) (i n : Nat) (hi : i < n) (hn : n < 2 ^ 31) : gMv l yJ0_checkIndex_df160 wsJ0_checkIndex_df160 ({ frames := 1, cells := 0, slots := 0, locals := 22 } : Room) 0 0 [.int (nI i), .int (nI n)] (ids, ad, gk κ) (fun u => u = (ids, ad, gk (κ))) := by
  intro D aC A
  refine g_of (cc := cJ0_checkIndex_df160) (maxL := 2) (ret := none) (by decide +kernel) rfl (Nat.le_of_ble_eq_true rfl) ?_
  intro p e s m below meth c ls S G hF hr hlk hnm hl
  have hl : lv_has ls 2 [(0, _), (1, _)] := hl
  refine lv_iload_n S.1 S.2.1 dJ0_checkIndex_df160_0 rfl (lv_at hl 0 rfl) ?_
  refine lv_iload_n S.1 S.2.1 dJ0_checkIndex_df160_1 rfl (lv_at hl 1 rfl) ?_
  rcases hF.sf with hZ | ⟨t, hZ⟩
  · refine va_gets S.1 S.2.1 hZ G.2.2.2.1 S.2.2.2.1 (S.2.2.2.2 (.fieldLink RJ0 1053 "jdk/internal/util/Preconditions" "SIOOBE_FORMATTER" "Ljava/util/function/BiFunction;") (by decide +kernel)) (fun _ h => h) dJ0_checkIndex_df160_2 ?_
    refine g_cSi S G hF hl (c_J3_checkIndexN l ids ad κ _ _ hi hn) (va_cwS 3 S.2.2.2.2 gJ0_checkIndex_df160_J3_checkIndex_8e157 rfl rfl rfl (by decide +kernel) ⟨Nat.le_of_ble_eq_true rfl, Nat.le_of_ble_eq_true rfl⟩) rfl rfl (Nat.le_of_ble_eq_true rfl) dJ0_checkIndex_df160_5 ⟨Nat.le_of_ble_eq_true rfl, Nat.le_of_ble_eq_true rfl⟩ (fun r9 u H locs hp G => ?_)
    obtain ⟨rfl, rfl⟩ := hp
    refine lv_pop S.1 S.2.1 dJ0_checkIndex_df160_8 rfl ?_
    exact g_vret S G hr hlk (rfl) (Nat.le_of_ble_eq_true rfl) (Nat.le_of_ble_eq_true rfl) dJ0_checkIndex_df160_9
  · refine va_gets S.1 S.2.1 hZ G.2.2.2.1 S.2.2.2.1 (S.2.2.2.2 (.fieldLink RJ0 1053 "jdk/internal/util/Preconditions" "SIOOBE_FORMATTER" "Ljava/util/function/BiFunction;") (by decide +kernel)) (fun _ h => h) dJ0_checkIndex_df160_2 ?_
    refine g_cSi S G hF hl (c_J3_checkIndexR l ids ad κ _ _ t hi hn) (va_cwS 3 S.2.2.2.2 gJ0_checkIndex_df160_J3_checkIndex_8e157 rfl rfl rfl (by decide +kernel) ⟨Nat.le_of_ble_eq_true rfl, Nat.le_of_ble_eq_true rfl⟩) rfl rfl (Nat.le_of_ble_eq_true rfl) dJ0_checkIndex_df160_5 ⟨Nat.le_of_ble_eq_true rfl, Nat.le_of_ble_eq_true rfl⟩ (fun r9 u H locs hp G => ?_)
    obtain ⟨rfl, rfl⟩ := hp
    refine lv_pop S.1 S.2.1 dJ0_checkIndex_df160_8 rfl ?_
    exact g_vret S G hr hlk (rfl) (Nat.le_of_ble_eq_true rfl) (Nat.le_of_ble_eq_true rfl) dJ0_checkIndex_df160_9
/-! ===== the text: a row of letters, and how many ===== -/
def sTxN (κ : gMem) (r : Nat) : Nat := if κ 3 r 1 < 10 then 3 else 4
def sTxB (κ : gMem) (r : Nat) : Nat → Int32 := fun k =>
  if k = 0 then 97 + κ 3 r 0 else if κ 3 r 1 < 10 then (if k = 1 then 48 + κ 3 r 1 else sSign (κ 3 r 3))
  else if k = 1 then 48 + κ 3 r 1 / 10 else if k = 2 then 48 + (κ 3 r 1 - κ 3 r 1 / 10 * 10) else sSign (κ 3 r 3)
def sText (κ : gMem) (r : Nat) (q : Int32) : Int32 := if q < nI (sTxN κ r) then sTxB κ r (tN q) else -1
def tB (κ : gMem) (r : Nat → Int32) (n : Nat) : gMem := updR (updR κ 17 0 r) 0 0 (fun k => if k = 3 then nI n else 0)
theorem tB_s {κ : gMem} {r : Nat → Int32} {n k : Nat} : tB κ r n 0 0 k = if k = 3 then nI n else 0 := by rw [tB, updR_s]
theorem tB_0 {κ : gMem} {r : Nat → Int32} {n : Nat} : tB κ r n 0 0 0 = nI 0 := by rw [tB_s]; rfl
theorem tB_1 {κ : gMem} {r : Nat → Int32} {n : Nat} : tB κ r n 0 0 1 = 0 := by rw [tB_s]; rfl
theorem tB_3 {κ : gMem} {r : Nat → Int32} {n : Nat} : tB κ r n 0 0 3 = nI n := by rw [tB_s]; rfl
theorem tB_17 {κ : gMem} {r : Nat → Int32} {n k : Nat} : tB κ r n 17 0 k = r k := by
  rw [tB, updR_far (by decide), updR_s]
theorem tB_f {κ : gMem} {r : Nat → Int32} {n f i k : Nat} (h : ¬ f = 0) (h2 : ¬ f = 17) : tB κ r n f i k = κ f i k := by
  rw [tB, updR_far (fun z => h z.1), updR_far (fun z => h2 z.1)]
theorem tB_cnt {κ : gMem} {r : Nat → Int32} {n q : Nat} : upd3 (tB κ r n) 0 0 3 (nI q) = tB κ r q := by
  funext f i k
  by_cases h : f = 0 ∧ i = 0
  · obtain ⟨rfl, rfl⟩ := h
    by_cases hk : k = 3
    · subst hk; rw [upd3_s, tB_s, if_pos rfl]
    · rw [upd3_n (fun z => hk z.2.2), tB_s, tB_s, if_neg hk, if_neg hk]
  · rw [upd3_n (fun z => h ⟨z.1, z.2.1⟩), tB, tB, updR_far h, updR_far h]
theorem tB_row {κ : gMem} {r : Nat → Int32} {n j : Nat} {x : Int32} : upd3 (tB κ r n) 17 0 j x = tB κ (upd r j x) n := by
  funext f i k
  by_cases h : f = 17 ∧ i = 0
  · obtain ⟨rfl, rfl⟩ := h
    rw [upd3_row, tB_17]
    have e : tB κ r n 17 0 = r := by funext q; exact tB_17
    rw [e]
  · rw [upd3_n (fun z => h ⟨z.1, z.2.1⟩)]
    by_cases h0 : f = 0 ∧ i = 0
    · obtain ⟨rfl, rfl⟩ := h0
      rw [tB_s, tB_s]
    · rw [tB, tB, updR_far h0, updR_far h0, updR_far h, updR_far h]
theorem gDef0_all (k : Nat) : k ≠ 0 → gDef 0 k = 0 := by
  intro h
  have e : gm_t 0 k = if k = 0 then 18 else 0 := rfl
  rw [if_neg h] at e
  simp only [gDef, e, if_true]
theorem tB_start {κ : gMem} {r r0 : Nat → Int32} {n : Nat} : tB (updR (gk κ) 0 0 r0) r n = gk (tB κ r n) := by
  funext f i k
  by_cases h : f = 0 ∧ i = 0
  · obtain ⟨rfl, rfl⟩ := h
    rw [tB_s, gk_n rfl, tB_s]
  · by_cases h2 : f = 17 ∧ i = 0
    · obtain ⟨rfl, rfl⟩ := h2
      rw [tB_17, gk_n rfl, tB_17]
    · have e : tB κ r n f i k = κ f i k := by rw [tB, updR_far h, updR_far h2]
      have e2 : tB (updR (gk κ) 0 0 r0) r n f i k = gk κ f i k := by rw [tB, updR_far h, updR_far h2, updR_far h]
      rw [e2]
      simp only [gk]
      split
      · rfl
      · exact e.symm
def tSz (i : Nat) : Nat := if i < 10 then 1 else 2
theorem tSz_eq (i : Nat) : tSize i = nI (tSz i) := by
  unfold tSize tSz
  split <;> rfl
theorem tSz_le (i : Nat) : tSz i ≤ 2 := by
  unfold tSz
  split <;> omega
def tI (r : Nat → Int32) (n i : Nat) : Nat → Int32 := if i < 10 then upd r n (nI (48 + i % 10)) else upd (upd r (n + 1) (nI (48 + i % 10))) n (nI (48 + i / 10))
theorem tNar : ∀ c, c < 128 → vp_nar .byte (nI c) = nI c := by decide +kernel
theorem tI2b : ∀ c, c < 128 → (nI c).toInt8.toInt32 = nI c := by decide +kernel
theorem tI2c : ∀ c, c < 128 → ((nI c).toUInt32 % 65536).toInt32 = nI c := by decide +kernel
theorem tAnd : ∀ c, c < 128 → nI c &&& 255 = nI c := by decide +kernel
theorem tEncC : ∀ c, c < 128 → ¬ tEnc (nI c) = 0 := by decide +kernel
theorem tMin : ∀ n, n ≤ 16 → (if (16 : Int32) >>> ((0 : Int32) &&& 31) < nI n then (16 : Int32) >>> ((0 : Int32) &&& 31) else nI n) = nI n := by decide +kernel
theorem tNcI (c : Nat) (h : c < 128) : narrow .char (.int (nI c)) = .int (nI c) := congrArg Value.int (tI2c c h)
theorem sSign_ix (x : Int32) : ixL (sSign x) 128 := by
  unfold sSign
  repeat' split
  all_goals exact ⟨by decide, by decide⟩
section GT2
variable {p : Program} {l : Launch} {e : Env} {R : Room} {s : State} {m : MethodId} {args : Array Value} {below : List Frame} {meth : Method} {c : Code} {H : Heap} {locs : List Loc} {cells slots : Nat} {Q : State → Prop}
variable {cc bytes : ByteArray} {pc nL maxL index n mc ms : Nat} {ls : Array Slot} {rest st0 As : List Value} {lv : List (Nat × Value)} {Ts ws : List Cond} {own owner : String} {x y : MethodName} {ret : Option FieldType} {rm : Room}
variable {D : va_G} {aC : Nat → ClassId} {A : Nat → Prop} {ids : gIds} {ad : gAd} {π : gMem}
theorem g_cUi (S : CallFix p m c cc nL s args Ts own) (G : gS D aC A s ids ad π H locs) (hF : gF A s s.heap) (hl : lv_has ls nL lv) (f : Nat) {i : Nat} (hV : (f, i) ∈ ids) (hf : f < 8) {post : Int32 → GSt → Prop} (hM : gMi l y ws rm mc ms (.ref (ad f i) :: As) (ids, ad, π) post) (cw : va_CU R s args own (gCl f).1 owner index x y bytes maxL ret ws rm mc ms n) (hn : As.length = n) (hst : st0 = As.reverse ++ .ref (ad f i) :: rest) (hroom : (rest.map fun v => v.category).sum ≤ 8) (hdg : decode cc pc = .ok (.invokevirtual index, 3)) (hfit : cells + mc ≤ R.cells ∧ slots + ms ≤ R.slots)
    (kk : ∀ (r : Int32) (u : GSt) (H1 : Heap) (locs1 : List Loc), post r u → gS D aC A s u.1 u.2.1 u.2.2 H1 locs1 → W p l e R s m args below meth c H1 locs1 (cells + mc) (slots + ms) Q (F0 m (pc + 3) ls (.int r :: rest))) : W p l e R s m args below meth c H locs cells slots Q (F0 m pc ls st0) :=
  g_behi G (va_runU S (hM D aC A) cw (gPreV G hF f hV hf) rfl hn hl.1 hst (lv_room hroom) hdg hfit) kk
theorem g_cUv (S : CallFix p m c cc nL s args Ts own) (G : gS D aC A s ids ad π H locs) (hF : gF A s s.heap) (hl : lv_has ls nL lv) (f : Nat) {i : Nat} (hV : (f, i) ∈ ids) (hf : f < 8) {post : GSt → Prop} (hM : gMv l y ws rm mc ms (.ref (ad f i) :: As) (ids, ad, π) post) (cw : va_CU R s args own (gCl f).1 owner index x y bytes maxL ret ws rm mc ms n) (hn : As.length = n) (hst : st0 = As.reverse ++ .ref (ad f i) :: rest) (hroom : (rest.map fun v => v.category).sum ≤ 8) (hdg : decode cc pc = .ok (.invokevirtual index, 3)) (hfit : cells + mc ≤ R.cells ∧ slots + ms ≤ R.slots)
    (kk : ∀ (u : GSt) (H1 : Heap) (locs1 : List Loc), post u → gS D aC A s u.1 u.2.1 u.2.2 H1 locs1 → W p l e R s m args below meth c H1 locs1 (cells + mc) (slots + ms) Q (F0 m (pc + 3) ls rest)) : W p l e R s m args below meth c H locs cells slots Q (F0 m pc ls st0) :=
  g_behv G (va_runU S (hM D aC A) cw (gPreV G hF f hV hf) rfl hn hl.1 hst (lv_room hroom) hdg hfit) kk
end GT2
/-- the text's cells fall out of sight -/
theorem gm_t_i1 {f k : Nat} (h : gm_t f k = 1) : False := by
  rcases (by omega : f = 0 ∨ f = 1 ∨ f = 2 ∨ f = 3 ∨ f = 4 ∨ f = 5 ∨ f = 6 ∨ f = 7 ∨ f = 8 ∨ f = 9 ∨ f = 10 ∨ f = 11 ∨ f = 12 ∨ f = 13 ∨ f = 14 ∨ 15 ≤ f) with rfl | rfl | rfl | rfl | rfl | rfl | rfl | rfl | rfl | rfl | rfl | rfl | rfl | rfl | rfl | hb
  · have e : gm_t 0 k = if k = 0 then 18 else 0 := rfl
    rw [e] at h
    split at h <;> omega
  · have e : gm_t 1 k = if k = 1 then 15 else 0 := rfl
    rw [e] at h
    split at h <;> omega
  · have e : gm_t 2 k = if k = 0 then 2 else if k = 1 then 17 else 0 := rfl
    rw [e] at h
    repeat' split at h
    all_goals omega
  · have e : gm_t 3 k = if k = 0 then 6 else if k = 5 then 16 else if k = 9 then 3 else 0 := rfl
    rw [e] at h
    repeat' split at h
    all_goals omega
  · have e : gm_t 4 k = if k = 1 then 5 else 0 := rfl
    rw [e] at h
    split at h <;> omega
  · have e : gm_t 5 k = if k = 1 then 5 else 0 := rfl
    rw [e] at h
    split at h <;> omega
  · have e : gm_t 6 k = 0 := rfl
    omega
  · have e : gm_t 7 k = if k < 4 then 11 + k else 0 := rfl
    rw [e] at h
    split at h <;> omega
  · have e : gm_t 8 k = if k = 0 then 0 else if k = 11 then 0 else if k = 16 then 0 else if k = 26 then 0 else 21 + k := rfl
    rw [e] at h
    repeat' split at h
    all_goals omega
  · have e : gm_t 9 k = 0 := rfl
    omega
  · have e : gm_t 10 k = 5 := rfl
    omega
  · have e : gm_t 11 k = 6 := rfl
    omega
  · have e : gm_t 12 k = 2 := rfl
    omega
  · have e : gm_t 13 k = 4 := rfl
    omega
  · have e : gm_t 14 k = 7 := rfl
    omega
  · rw [gm_t_big hb] at h; omega
theorem gS.textOut {D : va_G} {aC : Nat → ClassId} {A : Nat → Prop} {s : State} {ids : gIds} {ad : gAd} {κ : gMem} {H : Heap} {locs : List Loc} {q1 q2 n : Nat} {r : Nat → Int32} (G : gS D aC A s ((ids ++ [(0, 0)]) ++ [(17, 0)]) (updA (updA ad 0 0 q1) 17 0 q2) (gk (tB κ r n)) H locs) (h0 : ∀ r, (0, r) ∉ ids) (h17 : ∀ r, (17, r) ∉ ids) : gS D aC A s ids ad (gk κ) H locs := by
  have hsub : ∀ x ∈ ids, x ∈ (ids ++ [(0, 0)]) ++ [(17, 0)] := fun x hx => List.mem_append_left _ (List.mem_append_left _ hx)
  have hN : ids.Nodup := (List.nodup_append.mp (List.nodup_append.mp G.nodup).1).1
  refine (G.sub hsub hN).alt ?_
  rintro ⟨f, i⟩ hx
  have f0 : ¬ f = 0 := fun z => h0 i (z ▸ hx)
  have f17 : ¬ f = 17 := fun z => h17 i (z ▸ hx)
  refine ⟨?_, fun k _ => ?_⟩
  · show ad f i = updA (updA ad 0 0 q1) 17 0 q2 f i
    rw [updA_n (fun z => f17 z.1), updA_n (fun z => f0 z.1)]
  · show gm_v ad (gk κ) f i k = gm_v (updA (updA ad 0 0 q1) 17 0 q2) (gk (tB κ r n)) f i k
    have e : gk (tB κ r n) f i k = gk κ f i k := by
      simp only [gk]
      split
      · rfl
      · exact tB_f f0 f17
    rw [gm_v, gm_v, e]
    cases ht : gm_t f k with
    | zero => rfl
    | succ g =>
      have g0 : ¬ g = 0 := fun z => gm_t_i1 (by rw [ht, z])
      have g17 : ¬ g = 17 := fun z => f0 (gm_t_i18 (by rw [ht, z])).1
      simp only [gm_w, gm_r]
      split
      · rfl
      · rw [updA_n (fun z => g17 z.1), updA_n (fun z => g0 z.1)]
set_option maxHeartbeats 4000000 in
set_option maxRecDepth 100000 in
theorem c_J5_init_d00df (l : Launch) (ids : gIds) (ad : gAd) (κ : gMem) (h0 : (0, 0) ∈ ids) (hn17 : (17, 0) ∉ ids) (hf17 : gFree ids κ 17 0) (hd : ∀ k, κ 0 0 k = gDef 0 k)  : gMv l yJ5_init_d00df wsJ5_init_d00df ({ frames := 1, cells := 1, slots := 16, locals := 12 } : Room) 1 16 [.ref (ad 0 0), .int 16] (ids, ad, κ) (fun u => ∃ q, u = (ids ++ [(17, 0)], updA ad 17 0 q, tB κ (fun _ => 0) 0)) := by
  intro D aC A
  refine g_of (cc := cJ5_init_d00df) (maxL := 2) (ret := none) (by decide +kernel) rfl (Nat.le_of_ble_eq_true rfl) ?_
  intro p e s m below meth c ls S G hF hr hlk hnm hl
  have hl : lv_has ls 2 [(0, _), (1, _)] := hl
  have i0 : ∀ w ∈ wsJ40, w ∈ wsJ5_init_d00df := by decide +kernel
  refine lv_aload_n S.1 S.2.1 dJ5_init_d00df_0 rfl (lv_at hl 0 rfl) ?_
  refine g_objInit S hl (by decide +kernel) (by decide +kernel) (by decide +kernel) (Nat.le_of_ble_eq_true rfl) (Nat.le_of_ble_eq_true rfl) dJ5_init_d00df_1 ?_
  refine va_gets S.1 S.2.1 hF.cs G.2.2.2.1 S.2.2.2.1 (S.2.2.2.2 (.fieldLink RJ5 18 "java/lang/String" "COMPACT_STRINGS" "Z") (by decide +kernel)) (fun _ h => h) dJ5_init_d00df_4 ?_
  refine lv_if_eq (tgt := 25) S.1 S.2.1 dJ5_init_d00df_7 (by decide) (fun c_7 => ?_) (fun c_7 => ?_)
  · exact absurd c_7 (by decide)
  · refine lv_aload_n S.1 S.2.1 dJ5_init_d00df_10 rfl (lv_at hl 0 rfl) ?_
    refine lv_iload_n S.1 S.2.1 dJ5_init_d00df_11 rfl (lv_at hl 1 rfl) ?_
    refine g_newa S G 17 0 rfl rfl rfl (by decide +kernel) hn17 hf17 rfl (Nat.le_of_ble_eq_true rfl) (Nat.le_of_ble_eq_true rfl) (Nat.le_of_ble_eq_true rfl) dJ5_init_d00df_12 (fun q_12 H G => ?_)
    have h0 : (0, 0) ∈ ids ++ [(17, 0)] := List.mem_append_left _ h0
    refine g_put (ty := (.array .byte)) S G 0 0 h0 (by decide) (by decide) i0 (S.2.2.2.2 (.fieldLink RJ5 15 "java/lang/AbstractStringBuilder" "value" "[B") (by decide +kernel)) rfl (by decide +kernel) rfl rfl (gw_r rfl (by omega)) dJ5_init_d00df_14 (fun H locs G => ?_)
    refine lv_aload_n S.1 S.2.1 dJ5_init_d00df_17 rfl (lv_at hl 0 rfl) ?_
    refine lv_iconst (v := 0) S.1 S.2.1 dJ5_init_d00df_18 (by decide) ?_
    refine g_put (ty := .byte) S G 0 1 h0 (by decide) (by decide) i0 (S.2.2.2.2 (.fieldLink RJ5 22 "java/lang/AbstractStringBuilder" "coder" "B") (by decide +kernel)) rfl (by decide +kernel) rfl rfl (gw_i rfl) dJ5_init_d00df_19 (fun H locs G => ?_)
    refine lv_goto (tgt := 38) S.1 S.2.1 dJ5_init_d00df_22 (by decide) ?_
    have G := G.conv (π' := tB κ (fun _ => 0) 0) (by
      rintro ⟨g, jj⟩ hx k hk
      dsimp only at hk ⊢
      by_cases h0 : g = 0 ∧ jj = 0
      · obtain ⟨rfl, e0⟩ := h0
        subst e0
        have hk : k < 4 := hk
        rcases (by omega : k = 0 ∨ k = 1 ∨ k = 2 ∨ k = 3) with rfl | rfl | rfl | rfl <;> simp [upd3, updR, gk, gOwn, tB, hd, gDef0_all, nI]
      · by_cases h1 : g = 17 ∧ jj = 0
        · obtain ⟨rfl, e1⟩ := h1
          subst e1
          simp [upd3, updR, gk, gOwn, tB, hd, gDef0_all, nI]
        · simp only [tB, updR_far h0, upd3_far h0, updR_far h1, upd3_far h1])
    exact g_vret S G hr hlk (⟨_, rfl⟩) (Nat.le_of_ble_eq_true rfl) (Nat.le_of_ble_eq_true rfl) dJ5_init_d00df_38
set_option maxHeartbeats 4000000 in
set_option maxRecDepth 100000 in
theorem c_J4_init_da8c8 (l : Launch) (ids : gIds) (ad : gAd) (κ : gMem) (h0 : (0, 0) ∈ ids) (hn17 : (17, 0) ∉ ids) (hf17 : gFree ids κ 17 0) (hd : ∀ k, κ 0 0 k = gDef 0 k)  : gMv l yJ4_init_da8c8 wsJ4_init_da8c8 ({ frames := 2, cells := 1, slots := 16, locals := 33 } : Room) 1 16 [.ref (ad 0 0)] (ids, ad, κ) (fun u => ∃ q, u = (ids ++ [(17, 0)], updA ad 17 0 q, tB κ (fun _ => 0) 0)) := by
  intro D aC A
  refine g_of (cc := cJ4_init_da8c8) (maxL := 1) (ret := none) (by decide +kernel) rfl (Nat.le_of_ble_eq_true rfl) ?_
  intro p e s m below meth c ls S G hF hr hlk hnm hl
  have hl : lv_has ls 1 [(0, _)] := hl
  refine lv_aload_n S.1 S.2.1 dJ4_init_da8c8_0 rfl (lv_at hl 0 rfl) ?_
  refine lv_bipush (v := 16) S.1 S.2.1 dJ4_init_da8c8_1 (by decide) ?_
  refine g_cIv S G hF hl _ (c_J5_init_d00df l ids ad _ h0 hn17 hf17 hd) (cwI 1 S.2.2.2.2 gJ4_init_da8c8_J5_init_d00df rfl rfl rfl (S.2.2.2.2 (.initialized RJ5) (by decide +kernel)) (S.2.2.2.2 (.methodLink RJ4 1 yJ5_init_d00df) (by decide +kernel)) (S.2.2.2.2 (.instanceMethod yJ5_init_d00df) (by decide +kernel)) rfl (by decide +kernel) ⟨Nat.le_of_ble_eq_true rfl, Nat.le_of_ble_eq_true rfl⟩) rfl rfl (Nat.le_of_ble_eq_true rfl) dJ4_init_da8c8_3 ⟨Nat.le_of_ble_eq_true rfl, Nat.le_of_ble_eq_true rfl⟩ (fun u_3 H locs hp_3 G => ?_)
  obtain ⟨q_3, rfl⟩ := hp_3
  exact g_vret S G hr hlk (⟨_, rfl⟩) (Nat.le_of_ble_eq_true rfl) (Nat.le_of_ble_eq_true rfl) dJ4_init_da8c8_6
set_option maxHeartbeats 4000000 in
set_option maxRecDepth 100000 in
theorem c_J5_append_3fe6f (l : Launch) (ids : gIds) (ad : gAd) (κ : gMem) (r : Nat → Int32) (n ch : Nat) (h0 : (0, 0) ∈ ids) (h17 : (17, 0) ∈ ids) (hn : n < 16) (hc : ch < 128)  : gMr l yJ5_append_3fe6f wsJ5_append_3fe6f ({ frames := 1, cells := 0, slots := 0, locals := 22 } : Room) 0 0 [.ref (ad 0 0), .int (nI ch)] (ids, ad, gk (tB κ r n)) (fun q u => q = ad 0 0 ∧ u = (ids, ad, gk (tB κ (upd r n (nI ch)) (n + 1)))) := by
  intro D aC A
  refine g_of (cc := cJ5_append_3fe6f) (maxL := 2) (ret := (some (.object "java/lang/AbstractStringBuilder"))) (by decide +kernel) rfl (Nat.le_of_ble_eq_true rfl) ?_
  intro p e s m below meth c ls S G hF hr hlk hnm hl
  have hl : lv_has ls 2 [(0, _), (1, _)] := hl
  have i0 : ∀ w ∈ wsJ40, w ∈ wsJ5_append_3fe6f := by decide +kernel
  refine lv_aload_n S.1 S.2.1 dJ5_append_3fe6f_0 rfl (lv_at hl 0 rfl) ?_
  refine lv_aload_n S.1 S.2.1 dJ5_append_3fe6f_1 rfl (lv_at hl 0 rfl) ?_
  refine g_get S G 0 3 h0 (by decide) (by decide) i0 (S.2.2.2.2 (.fieldLink RJ5 79 "java/lang/AbstractStringBuilder" "count" "I") (by decide +kernel)) (gvk_i rfl rfl) dJ5_append_3fe6f_2 ?_
  rw [tB_3]
  refine lv_iconst (v := 1) S.1 S.2.1 dJ5_append_3fe6f_5 (by decide) ?_
  refine lv_iadd S.1 S.2.1 dJ5_append_3fe6f_6 ?_
  rw [show nI n + 1 = nI (n + 1) from nI_add n 1]
  refine g_cUv S G hF hl 0 h0 (by decide) (c_J5_ensureCapacityInternal_d00df l ids ad (tB κ r n) (n + 1) h0 h17 tB_0 tB_1 (by omega)) (va_cwU 1 S.2.2.2.2 gJ5_append_3fe6f_J5_ensureCapacityInternal_d00df_u100J4 rfl rfl rfl rfl (by decide +kernel) ⟨Nat.le_of_ble_eq_true rfl, Nat.le_of_ble_eq_true rfl⟩) rfl rfl (Nat.le_of_ble_eq_true rfl) dJ5_append_3fe6f_7 ⟨Nat.le_of_ble_eq_true rfl, Nat.le_of_ble_eq_true rfl⟩ (fun u H locs hp G => ?_)
  obtain rfl := hp
  have G : gS D aC A s ids ad (gk (tB κ r n)) H locs := G
  refine lv_aload_n S.1 S.2.1 dJ5_append_3fe6f_10 rfl (lv_at hl 0 rfl) ?_
  refine g_cUi S G hF hl 0 h0 (by decide) (c_J5_isLatin1_aae02 l ids ad (tB κ r n) h0 tB_1) (va_cwU 0 S.2.2.2.2 gJ5_append_3fe6f_J5_isLatin1_aae02_u83J4 rfl rfl rfl rfl (by decide +kernel) ⟨Nat.le_of_ble_eq_true rfl, Nat.le_of_ble_eq_true rfl⟩) rfl rfl (Nat.le_of_ble_eq_true rfl) dJ5_append_3fe6f_11 ⟨Nat.le_of_ble_eq_true rfl, Nat.le_of_ble_eq_true rfl⟩ (fun r9 u H locs hp G => ?_)
  obtain ⟨rfl, rfl⟩ := hp
  have G : gS D aC A s ids ad (gk (tB κ r n)) H locs := G
  refine lv_if_eq (tgt := 45) S.1 S.2.1 dJ5_append_3fe6f_14 (by decide) (fun c_14 => ?_) (fun c_14 => ?_)
  · exact absurd c_14 (by decide)
  · refine lv_iload_n S.1 S.2.1 dJ5_append_3fe6f_17 rfl (lv_at hl 1 rfl) ?_
    refine g_cSi S G hF hl (c_J1_canEncode_fc78d l ids ad _ _) (va_cwS 1 S.2.2.2.2 gJ5_append_3fe6f_J1_canEncode_fc78d rfl rfl rfl (by decide +kernel) ⟨Nat.le_of_ble_eq_true rfl, Nat.le_of_ble_eq_true rfl⟩) rfl rfl (Nat.le_of_ble_eq_true rfl) dJ5_append_3fe6f_18 ⟨Nat.le_of_ble_eq_true rfl, Nat.le_of_ble_eq_true rfl⟩ (fun r_18 u_18 H locs hp_18 G => ?_)
    obtain ⟨rfl, rfl⟩ := hp_18
    have G : gS D aC A s ids ad (gk _) H locs := G
    refine lv_if_eq (tgt := 45) S.1 S.2.1 dJ5_append_3fe6f_21 (by decide) (fun c_21 => ?_) (fun c_21 => ?_)
    · exact absurd c_21 (tEncC ch hc)
    · refine lv_aload_n S.1 S.2.1 dJ5_append_3fe6f_24 rfl (lv_at hl 0 rfl) ?_
      refine g_get S G 0 0 h0 (by decide) (by decide) i0 (S.2.2.2.2 (.fieldLink RJ5 15 "java/lang/AbstractStringBuilder" "value" "[B") (by decide +kernel)) (gvk_r rfl rfl tB_0 (by decide)) dJ5_append_3fe6f_25 ?_
      refine lv_aload_n S.1 S.2.1 dJ5_append_3fe6f_28 rfl (lv_at hl 0 rfl) ?_
      refine lv_dup S.1 S.2.1 dJ5_append_3fe6f_29 rfl ?_
      refine g_get S G 0 3 h0 (by decide) (by decide) i0 (S.2.2.2.2 (.fieldLink RJ5 79 "java/lang/AbstractStringBuilder" "count" "I") (by decide +kernel)) (gvk_i rfl rfl) dJ5_append_3fe6f_30 ?_
      rw [tB_3]
      refine lv_dup_x1 S.1 S.2.1 dJ5_append_3fe6f_33 rfl rfl ?_
      refine lv_iconst (v := 1) S.1 S.2.1 dJ5_append_3fe6f_34 (by decide) ?_
      refine lv_iadd S.1 S.2.1 dJ5_append_3fe6f_35 ?_
      rw [show nI n + 1 = nI (n + 1) from nI_add n 1]
      refine g_put (ty := .int) S G 0 3 h0 (by decide) (by decide) i0 (S.2.2.2.2 (.fieldLink RJ5 79 "java/lang/AbstractStringBuilder" "count" "I") (by decide +kernel)) rfl (by decide +kernel) rfl rfl (gw_i rfl) dJ5_append_3fe6f_36 (fun H locs G => ?_)
      have G := gk_S rfl G
      rw [tB_cnt] at G
      refine lv_iload_n S.1 S.2.1 dJ5_append_3fe6f_39 rfl (lv_at hl 1 rfl) ?_
      refine lv_i2b S.1 S.2.1 dJ5_append_3fe6f_40 (tI2b ch hc) ?_
      refine g_bast S G 17 h17 rfl rfl rfl (show n < 16 from hn) (tNar ch hc) dJ5_append_3fe6f_41 (fun H locs G => ?_)
      have G := gk_S rfl G
      rw [tB_row] at G
      refine lv_goto (tgt := 75) S.1 S.2.1 dJ5_append_3fe6f_42 (by decide) ?_
      refine lv_aload_n S.1 S.2.1 dJ5_append_3fe6f_75 rfl (lv_at hl 0 rfl) ?_
      exact g_aret S G hr hlk (Or.inl ⟨_, rfl⟩) (⟨rfl, rfl⟩) (Nat.le_of_ble_eq_true rfl) (Nat.le_of_ble_eq_true rfl) dJ5_append_3fe6f_76
set_option maxHeartbeats 4000000 in
set_option maxRecDepth 100000 in
theorem c_J4_append_cf468 (l : Launch) (ids : gIds) (ad : gAd) (κ : gMem) (r : Nat → Int32) (n ch : Nat) (h0 : (0, 0) ∈ ids) (h17 : (17, 0) ∈ ids) (hn : n < 16) (hc : ch < 128)  : gMr l yJ4_append_cf468 wsJ4_append_cf468 ({ frames := 2, cells := 0, slots := 0, locals := 43 } : Room) 0 0 [.ref (ad 0 0), .int (nI ch)] (ids, ad, gk (tB κ r n)) (fun q u => q = ad 0 0 ∧ u = (ids, ad, gk (tB κ (upd r n (nI ch)) (n + 1)))) := by
  intro D aC A
  refine g_of (cc := cJ4_append_cf468) (maxL := 2) (ret := (some (.object "java/lang/StringBuilder"))) (by decide +kernel) rfl (Nat.le_of_ble_eq_true rfl) ?_
  intro p e s m below meth c ls S G hF hr hlk hnm hl
  have hl : lv_has ls 2 [(0, _), (1, _)] := hl
  refine lv_aload_n S.1 S.2.1 dJ4_append_cf468_0 rfl (lv_at hl 0 rfl) ?_
  refine lv_iload_n S.1 S.2.1 dJ4_append_cf468_1 rfl (lv_at hl 1 rfl) ?_
  refine g_cSUr S G hF hl 0 h0 (by decide) (c_J5_append_3fe6f l ids ad κ r n ch h0 h17 hn hc) (va_cwSU 1 S.2.2.2.2 gJ4_append_cf468_J5_append_3fe6f_s50 rfl rfl rfl (by decide +kernel) ⟨Nat.le_of_ble_eq_true rfl, Nat.le_of_ble_eq_true rfl⟩) rfl rfl (Nat.le_of_ble_eq_true rfl) dJ4_append_cf468_2 ⟨Nat.le_of_ble_eq_true rfl, Nat.le_of_ble_eq_true rfl⟩ (fun r9 u H locs hp G => ?_)
  obtain ⟨rfl, rfl⟩ := hp
  refine lv_pop S.1 S.2.1 dJ4_append_cf468_5 rfl ?_
  refine lv_aload_n S.1 S.2.1 dJ4_append_cf468_6 rfl (lv_at hl 0 rfl) ?_
  exact g_aret S G hr hlk (Or.inl ⟨_, rfl⟩) (⟨rfl, rfl⟩) (Nat.le_of_ble_eq_true rfl) (Nat.le_of_ble_eq_true rfl) dJ4_append_cf468_7
set_option maxHeartbeats 4000000 in
set_option maxRecDepth 100000 in
theorem c_J6_getChars_ba4f3 (l : Launch) (ids : gIds) (ad : gAd) (κ : gMem) (r : Nat → Int32) (n i : Nat) (h17 : (17, 0) ∈ ids) (hn : n + 2 ≤ 16) (hi : i < 100)  : gMi l yJ6_getChars_ba4f3 wsJ6_getChars_ba4f3 ({ frames := 0, cells := 0, slots := 0, locals := 0 } : Room) 0 0 [.int (nI i), .int (nI (n + tSz i)), .ref (ad 17 0)] (ids, ad, gk (tB κ r n)) (fun _ u => u = (ids, ad, gk (tB κ (tI r n i) n))) := by
  intro D aC A
  refine g_of (cc := cJ6_getChars_ba4f3) (maxL := 7) (ret := (some .int)) (by decide +kernel) rfl (Nat.le_of_ble_eq_true rfl) ?_
  intro p e s m below meth c ls S G hF hr hlk hnm hl
  have hl : lv_has ls 7 [(0, _), (1, _), (2, _)] := hl
  obtain ⟨t1, t2, z1, z2, d1, d2, -⟩ := hF.2.2.2.2.2.2.2.2.2
  have e25 : ∀ i, i < 100 → -100 < -nI i := by decide +kernel
  have e88 : ∀ i, i < 10 → -9 ≤ -nI i := by decide +kernel
  have f88 : ∀ i, i < 100 → ¬ i < 10 → ¬ -9 ≤ -nI i := by decide +kernel
  by_cases hi10 : i < 10
  · have es : tSz i = 1 := if_pos hi10
    rw [es] at hl
    refine lv_iload_n S.1 S.2.1 dJ6_getChars_ba4f3_0 rfl (lv_at hl 1 rfl) ?_
    refine lv_istore (lv' := [(5, _), (0, _), (1, _), (2, _)]) S.1 S.2.1 dJ6_getChars_ba4f3_1 hl (by decide) rfl (fun ls hl => ?_)
    refine lv_iload_n S.1 S.2.1 dJ6_getChars_ba4f3_3 rfl (lv_at hl 1 rfl) ?_
    refine lv_if_ge (tgt := 11) S.1 S.2.1 dJ6_getChars_ba4f3_4 (by decide) (fun c_4 => ?_) (fun c_4 => ?_)
    · refine lv_iconst (v := 0) S.1 S.2.1 dJ6_getChars_ba4f3_11 (by decide) ?_
      refine lv_istore (lv' := [(6, _), (5, _), (0, _), (1, _), (2, _)]) S.1 S.2.1 dJ6_getChars_ba4f3_12 hl (by decide) rfl (fun ls hl => ?_)
      refine lv_iload S.1 S.2.1 dJ6_getChars_ba4f3_14 (lv_at hl 0 rfl) ?_
      refine lv_if_ne (tgt := 22) S.1 S.2.1 dJ6_getChars_ba4f3_16 (by decide) (fun c_16 => ?_) (fun c_16 => ?_)
      · exact absurd c_16 (by decide)
      · refine lv_iload_n S.1 S.2.1 dJ6_getChars_ba4f3_19 rfl (lv_at hl 2 rfl) ?_
        refine lv_ineg S.1 S.2.1 dJ6_getChars_ba4f3_20 ?_
        refine lv_istore_n (lv' := [(0, _), (6, _), (5, _), (1, _), (2, _)]) S.1 S.2.1 dJ6_getChars_ba4f3_21 rfl hl (by decide) rfl (fun ls hl => ?_)
        refine lv_iload_n S.1 S.2.1 dJ6_getChars_ba4f3_22 rfl (lv_at hl 0 rfl) ?_
        refine lv_bipush (v := (-100)) S.1 S.2.1 dJ6_getChars_ba4f3_23 (by decide) ?_
        refine lv_icmp_gt (tgt := 72) S.1 S.2.1 dJ6_getChars_ba4f3_25 (by decide) (fun c_25 => ?_) (fun c_25 => ?_)
        · refine lv_aload_n S.1 S.2.1 dJ6_getChars_ba4f3_72 rfl (lv_at hl 4 rfl) ?_
          refine lv_iinc (k := 2) (lv' := [(5, _), (0, _), (6, _), (1, _), (2, _)]) S.1 S.2.1 dJ6_getChars_ba4f3_73 hl rfl (nI_dec n) (by decide) rfl (fun ls hl => ?_)
          refine lv_iload S.1 S.2.1 dJ6_getChars_ba4f3_76 (lv_at hl 0 rfl) ?_
          refine va_gets S.1 S.2.1 z1 G.2.2.2.1 S.2.2.2.1 (S.2.2.2.2 (.fieldLink RJ6 83 "java/lang/Integer" "DigitOnes" "[B") (by decide +kernel)) (fun _ h => h) dJ6_getChars_ba4f3_78 ?_
          refine lv_iload_n S.1 S.2.1 dJ6_getChars_ba4f3_81 rfl (lv_at hl 1 rfl) ?_
          refine lv_ineg S.1 S.2.1 dJ6_getChars_ba4f3_82 ?_
          rw [Int32.neg_neg]
          refine va_tb S.1 S.2.1 d1 G.2.2.2.1 (vp_in_nI (show i < 100 from hi) (by decide)) (v := .int (nI (48 + i % 10))) (by rw [nI_clamp (by omega)]; rfl) dJ6_getChars_ba4f3_83 ?_
          refine g_bast S G 17 h17 rfl rfl rfl (show n < 16 by omega) (tNar (48 + i % 10) (by omega)) dJ6_getChars_ba4f3_84 (fun H locs G => ?_)
          have G := gk_S rfl G
          rw [tB_row] at G
          refine lv_iload_n S.1 S.2.1 dJ6_getChars_ba4f3_85 rfl (lv_at hl 1 rfl) ?_
          refine lv_bipush (v := (-9)) S.1 S.2.1 dJ6_getChars_ba4f3_86 (by decide) ?_
          refine lv_icmp_ge (tgt := 104) S.1 S.2.1 dJ6_getChars_ba4f3_88 (by decide) (fun c_88 => ?_) (fun c_88 => ?_)
          · refine lv_iload S.1 S.2.1 dJ6_getChars_ba4f3_104 (lv_at hl 2 rfl) ?_
            refine lv_if_eq (tgt := 118) S.1 S.2.1 dJ6_getChars_ba4f3_106 (by decide) (fun c_106 => ?_) (fun c_106 => ?_)
            · refine lv_iload S.1 S.2.1 dJ6_getChars_ba4f3_118 (lv_at hl 0 rfl) ?_
              exact g_iret S G hr hlk (by rw [tI, if_pos hi10]) (Nat.le_of_ble_eq_true rfl) (Nat.le_of_ble_eq_true rfl) dJ6_getChars_ba4f3_120
            · exact absurd c_106 (by decide)
          · exact absurd (e88 i hi10) c_88
        · exact absurd (e25 i hi) c_25
    · exact absurd (nI_pos' (by omega)) c_4
  · have es : tSz i = 2 := if_neg hi10
    rw [es] at hl
    refine lv_iload_n S.1 S.2.1 dJ6_getChars_ba4f3_0 rfl (lv_at hl 1 rfl) ?_
    refine lv_istore (lv' := [(5, _), (0, _), (1, _), (2, _)]) S.1 S.2.1 dJ6_getChars_ba4f3_1 hl (by decide) rfl (fun ls hl => ?_)
    refine lv_iload_n S.1 S.2.1 dJ6_getChars_ba4f3_3 rfl (lv_at hl 1 rfl) ?_
    refine lv_if_ge (tgt := 11) S.1 S.2.1 dJ6_getChars_ba4f3_4 (by decide) (fun c_4 => ?_) (fun c_4 => ?_)
    · refine lv_iconst (v := 0) S.1 S.2.1 dJ6_getChars_ba4f3_11 (by decide) ?_
      refine lv_istore (lv' := [(6, _), (5, _), (0, _), (1, _), (2, _)]) S.1 S.2.1 dJ6_getChars_ba4f3_12 hl (by decide) rfl (fun ls hl => ?_)
      refine lv_iload S.1 S.2.1 dJ6_getChars_ba4f3_14 (lv_at hl 0 rfl) ?_
      refine lv_if_ne (tgt := 22) S.1 S.2.1 dJ6_getChars_ba4f3_16 (by decide) (fun c_16 => ?_) (fun c_16 => ?_)
      · exact absurd c_16 (by decide)
      · refine lv_iload_n S.1 S.2.1 dJ6_getChars_ba4f3_19 rfl (lv_at hl 2 rfl) ?_
        refine lv_ineg S.1 S.2.1 dJ6_getChars_ba4f3_20 ?_
        refine lv_istore_n (lv' := [(0, _), (6, _), (5, _), (1, _), (2, _)]) S.1 S.2.1 dJ6_getChars_ba4f3_21 rfl hl (by decide) rfl (fun ls hl => ?_)
        refine lv_iload_n S.1 S.2.1 dJ6_getChars_ba4f3_22 rfl (lv_at hl 0 rfl) ?_
        refine lv_bipush (v := (-100)) S.1 S.2.1 dJ6_getChars_ba4f3_23 (by decide) ?_
        refine lv_icmp_gt (tgt := 72) S.1 S.2.1 dJ6_getChars_ba4f3_25 (by decide) (fun c_25 => ?_) (fun c_25 => ?_)
        · refine lv_aload_n S.1 S.2.1 dJ6_getChars_ba4f3_72 rfl (lv_at hl 4 rfl) ?_
          refine lv_iinc (k := 2) (lv' := [(5, _), (0, _), (6, _), (1, _), (2, _)]) S.1 S.2.1 dJ6_getChars_ba4f3_73 hl rfl (nI_dec (n + 1)) (by decide) rfl (fun ls hl => ?_)
          refine lv_iload S.1 S.2.1 dJ6_getChars_ba4f3_76 (lv_at hl 0 rfl) ?_
          refine va_gets S.1 S.2.1 z1 G.2.2.2.1 S.2.2.2.1 (S.2.2.2.2 (.fieldLink RJ6 83 "java/lang/Integer" "DigitOnes" "[B") (by decide +kernel)) (fun _ h => h) dJ6_getChars_ba4f3_78 ?_
          refine lv_iload_n S.1 S.2.1 dJ6_getChars_ba4f3_81 rfl (lv_at hl 1 rfl) ?_
          refine lv_ineg S.1 S.2.1 dJ6_getChars_ba4f3_82 ?_
          rw [Int32.neg_neg]
          refine va_tb S.1 S.2.1 d1 G.2.2.2.1 (vp_in_nI (show i < 100 from hi) (by decide)) (v := .int (nI (48 + i % 10))) (by rw [nI_clamp (by omega)]; rfl) dJ6_getChars_ba4f3_83 ?_
          refine g_bast S G 17 h17 rfl rfl rfl (show n + 1 < 16 by omega) (tNar (48 + i % 10) (by omega)) dJ6_getChars_ba4f3_84 (fun H locs G => ?_)
          have G := gk_S rfl G
          rw [tB_row] at G
          refine lv_iload_n S.1 S.2.1 dJ6_getChars_ba4f3_85 rfl (lv_at hl 1 rfl) ?_
          refine lv_bipush (v := (-9)) S.1 S.2.1 dJ6_getChars_ba4f3_86 (by decide) ?_
          refine lv_icmp_ge (tgt := 104) S.1 S.2.1 dJ6_getChars_ba4f3_88 (by decide) (fun c_88 => ?_) (fun c_88 => ?_)
          · exact absurd c_88 (f88 i hi hi10)
          · refine lv_aload_n S.1 S.2.1 dJ6_getChars_ba4f3_91 rfl (lv_at hl 4 rfl) ?_
            refine lv_iinc (k := 0) (lv' := [(5, _), (0, _), (6, _), (1, _), (2, _)]) S.1 S.2.1 dJ6_getChars_ba4f3_92 hl rfl (nI_dec n) (by decide) rfl (fun ls hl => ?_)
            refine lv_iload S.1 S.2.1 dJ6_getChars_ba4f3_95 (lv_at hl 0 rfl) ?_
            refine va_gets S.1 S.2.1 z2 G.2.2.2.1 S.2.2.2.1 (S.2.2.2.2 (.fieldLink RJ6 87 "java/lang/Integer" "DigitTens" "[B") (by decide +kernel)) (fun _ h => h) dJ6_getChars_ba4f3_97 ?_
            refine lv_iload_n S.1 S.2.1 dJ6_getChars_ba4f3_100 rfl (lv_at hl 1 rfl) ?_
            refine lv_ineg S.1 S.2.1 dJ6_getChars_ba4f3_101 ?_
            rw [Int32.neg_neg]
            refine va_tb S.1 S.2.1 d2 G.2.2.2.1 (vp_in_nI (show i < 100 from hi) (by decide)) (v := .int (nI (48 + i / 10))) (by rw [nI_clamp (by omega)]; rfl) dJ6_getChars_ba4f3_102 ?_
            refine g_bast S G 17 h17 rfl rfl rfl (show n < 16 by omega) (tNar (48 + i / 10) (by omega)) dJ6_getChars_ba4f3_103 (fun H locs G => ?_)
            have G := gk_S rfl G
            rw [tB_row] at G
            refine lv_iload S.1 S.2.1 dJ6_getChars_ba4f3_104 (lv_at hl 2 rfl) ?_
            refine lv_if_eq (tgt := 118) S.1 S.2.1 dJ6_getChars_ba4f3_106 (by decide) (fun c_106 => ?_) (fun c_106 => ?_)
            · refine lv_iload S.1 S.2.1 dJ6_getChars_ba4f3_118 (lv_at hl 0 rfl) ?_
              exact g_iret S G hr hlk (by rw [tI, if_neg hi10]) (Nat.le_of_ble_eq_true rfl) (Nat.le_of_ble_eq_true rfl) dJ6_getChars_ba4f3_120
            · exact absurd c_106 (by decide)
        · exact absurd (e25 i hi) c_25
    · exact absurd (nI_pos' (by omega)) c_4
set_option maxHeartbeats 4000000 in
set_option maxRecDepth 100000 in
theorem c_J5_append_c97b9 (l : Launch) (ids : gIds) (ad : gAd) (κ : gMem) (r : Nat → Int32) (n i : Nat) (h0 : (0, 0) ∈ ids) (h17 : (17, 0) ∈ ids) (hn : n + 2 ≤ 16) (hi : i < 100)  : gMr l yJ5_append_c97b9 wsJ5_append_c97b9 ({ frames := 1, cells := 0, slots := 0, locals := 26 } : Room) 0 0 [.ref (ad 0 0), .int (nI i)] (ids, ad, gk (tB κ r n)) (fun q u => q = ad 0 0 ∧ u = (ids, ad, gk (tB κ (tI r n i) (n + tSz i)))) := by
  intro D aC A
  refine g_of (cc := cJ5_append_c97b9) (maxL := 4) (ret := (some (.object "java/lang/AbstractStringBuilder"))) (by decide +kernel) rfl (Nat.le_of_ble_eq_true rfl) ?_
  intro p e s m below meth c ls S G hF hr hlk hnm hl
  have hl : lv_has ls 4 [(0, _), (1, _)] := hl
  have i0 : ∀ w ∈ wsJ40, w ∈ wsJ5_append_c97b9 := by decide +kernel
  refine lv_aload_n S.1 S.2.1 dJ5_append_c97b9_0 rfl (lv_at hl 0 rfl) ?_
  refine g_get S G 0 3 h0 (by decide) (by decide) i0 (S.2.2.2.2 (.fieldLink RJ5 79 "java/lang/AbstractStringBuilder" "count" "I") (by decide +kernel)) (gvk_i rfl rfl) dJ5_append_c97b9_1 ?_
  rw [tB_3]
  refine lv_istore_n (lv' := [(2, _), (0, _), (1, _)]) S.1 S.2.1 dJ5_append_c97b9_4 rfl hl (by decide) rfl (fun ls hl => ?_)
  refine lv_iload_n S.1 S.2.1 dJ5_append_c97b9_5 rfl (lv_at hl 0 rfl) ?_
  refine lv_iload_n S.1 S.2.1 dJ5_append_c97b9_6 rfl (lv_at hl 2 rfl) ?_
  refine g_cSi S G hF hl (c_J6_stringSize_0f7a4 l ids ad _ _ hi) (va_cwS 1 S.2.2.2.2 gJ5_append_c97b9_J6_stringSize_0f7a4 rfl rfl rfl (by decide +kernel) ⟨Nat.le_of_ble_eq_true rfl, Nat.le_of_ble_eq_true rfl⟩) rfl rfl (Nat.le_of_ble_eq_true rfl) dJ5_append_c97b9_7 ⟨Nat.le_of_ble_eq_true rfl, Nat.le_of_ble_eq_true rfl⟩ (fun r_7 u_7 H locs hp_7 G => ?_)
  obtain ⟨rfl, rfl⟩ := hp_7
  have G : gS D aC A s ids ad (gk _) H locs := G
  refine lv_iadd S.1 S.2.1 dJ5_append_c97b9_10 ?_
  rw [tSz_eq, nI_add]
  refine lv_istore_n (lv' := [(3, _), (2, _), (0, _), (1, _)]) S.1 S.2.1 dJ5_append_c97b9_11 rfl hl (by decide) rfl (fun ls hl => ?_)
  refine lv_aload_n S.1 S.2.1 dJ5_append_c97b9_12 rfl (lv_at hl 2 rfl) ?_
  refine lv_iload_n S.1 S.2.1 dJ5_append_c97b9_13 rfl (lv_at hl 0 rfl) ?_
  refine g_cUv S G hF hl 0 h0 (by decide) (c_J5_ensureCapacityInternal_d00df l ids ad (tB κ r n) (n + tSz i) h0 h17 tB_0 tB_1 (by have := tSz_le i; omega)) (va_cwU 1 S.2.2.2.2 gJ5_append_c97b9_J5_ensureCapacityInternal_d00df_u100J4 rfl rfl rfl rfl (by decide +kernel) ⟨Nat.le_of_ble_eq_true rfl, Nat.le_of_ble_eq_true rfl⟩) rfl rfl (Nat.le_of_ble_eq_true rfl) dJ5_append_c97b9_14 ⟨Nat.le_of_ble_eq_true rfl, Nat.le_of_ble_eq_true rfl⟩ (fun u H locs hp G => ?_)
  obtain rfl := hp
  have G : gS D aC A s ids ad (gk (tB κ r n)) H locs := G
  refine lv_aload_n S.1 S.2.1 dJ5_append_c97b9_17 rfl (lv_at hl 2 rfl) ?_
  refine g_cUi S G hF hl 0 h0 (by decide) (c_J5_isLatin1_aae02 l ids ad (tB κ r n) h0 tB_1) (va_cwU 0 S.2.2.2.2 gJ5_append_c97b9_J5_isLatin1_aae02_u83J4 rfl rfl rfl rfl (by decide +kernel) ⟨Nat.le_of_ble_eq_true rfl, Nat.le_of_ble_eq_true rfl⟩) rfl rfl (Nat.le_of_ble_eq_true rfl) dJ5_append_c97b9_18 ⟨Nat.le_of_ble_eq_true rfl, Nat.le_of_ble_eq_true rfl⟩ (fun r9 u H locs hp G => ?_)
  obtain ⟨rfl, rfl⟩ := hp
  have G : gS D aC A s ids ad (gk (tB κ r n)) H locs := G
  refine lv_if_eq (tgt := 37) S.1 S.2.1 dJ5_append_c97b9_21 (by decide) (fun c_21 => ?_) (fun c_21 => ?_)
  · exact absurd c_21 (by decide)
  · refine lv_iload_n S.1 S.2.1 dJ5_append_c97b9_24 rfl (lv_at hl 3 rfl) ?_
    refine lv_iload_n S.1 S.2.1 dJ5_append_c97b9_25 rfl (lv_at hl 0 rfl) ?_
    refine lv_aload_n S.1 S.2.1 dJ5_append_c97b9_26 rfl (lv_at hl 2 rfl) ?_
    refine g_get S G 0 0 h0 (by decide) (by decide) i0 (S.2.2.2.2 (.fieldLink RJ5 15 "java/lang/AbstractStringBuilder" "value" "[B") (by decide +kernel)) (gvk_r rfl rfl tB_0 (by decide)) dJ5_append_c97b9_27 ?_
    refine g_cSi S G hF hl (c_J6_getChars_ba4f3 l ids ad _ _ _ _ h17 hn hi) (va_cwS 3 S.2.2.2.2 gJ5_append_c97b9_J6_getChars_ba4f3 rfl rfl rfl (by decide +kernel) ⟨Nat.le_of_ble_eq_true rfl, Nat.le_of_ble_eq_true rfl⟩) rfl rfl (Nat.le_of_ble_eq_true rfl) dJ5_append_c97b9_30 ⟨Nat.le_of_ble_eq_true rfl, Nat.le_of_ble_eq_true rfl⟩ (fun r_30 u_30 H locs hp_30 G => ?_)
    obtain rfl := hp_30
    have G : gS D aC A s ids ad (gk _) H locs := G
    refine lv_pop S.1 S.2.1 dJ5_append_c97b9_33 rfl ?_
    refine lv_goto (tgt := 48) S.1 S.2.1 dJ5_append_c97b9_34 (by decide) ?_
    refine lv_aload_n S.1 S.2.1 dJ5_append_c97b9_48 rfl (lv_at hl 2 rfl) ?_
    refine lv_iload_n S.1 S.2.1 dJ5_append_c97b9_49 rfl (lv_at hl 0 rfl) ?_
    refine g_put (ty := .int) S G 0 3 h0 (by decide) (by decide) i0 (S.2.2.2.2 (.fieldLink RJ5 79 "java/lang/AbstractStringBuilder" "count" "I") (by decide +kernel)) rfl (by decide +kernel) rfl rfl (gw_i rfl) dJ5_append_c97b9_50 (fun H locs G => ?_)
    have G := gk_S rfl G
    rw [tB_cnt] at G
    refine lv_aload_n S.1 S.2.1 dJ5_append_c97b9_53 rfl (lv_at hl 2 rfl) ?_
    exact g_aret S G hr hlk (Or.inl ⟨_, rfl⟩) (⟨rfl, rfl⟩) (Nat.le_of_ble_eq_true rfl) (Nat.le_of_ble_eq_true rfl) dJ5_append_c97b9_54
set_option maxHeartbeats 4000000 in
set_option maxRecDepth 100000 in
theorem c_J4_append_bf812 (l : Launch) (ids : gIds) (ad : gAd) (κ : gMem) (r : Nat → Int32) (n i : Nat) (h0 : (0, 0) ∈ ids) (h17 : (17, 0) ∈ ids) (hn : n + 2 ≤ 16) (hi : i < 100)  : gMr l yJ4_append_bf812 wsJ4_append_bf812 ({ frames := 2, cells := 0, slots := 0, locals := 49 } : Room) 0 0 [.ref (ad 0 0), .int (nI i)] (ids, ad, gk (tB κ r n)) (fun q u => q = ad 0 0 ∧ u = (ids, ad, gk (tB κ (tI r n i) (n + tSz i)))) := by
  intro D aC A
  refine g_of (cc := cJ4_append_bf812) (maxL := 2) (ret := (some (.object "java/lang/StringBuilder"))) (by decide +kernel) rfl (Nat.le_of_ble_eq_true rfl) ?_
  intro p e s m below meth c ls S G hF hr hlk hnm hl
  have hl : lv_has ls 2 [(0, _), (1, _)] := hl
  refine lv_aload_n S.1 S.2.1 dJ4_append_bf812_0 rfl (lv_at hl 0 rfl) ?_
  refine lv_iload_n S.1 S.2.1 dJ4_append_bf812_1 rfl (lv_at hl 1 rfl) ?_
  refine g_cSUr S G hF hl 0 h0 (by decide) (c_J5_append_c97b9 l ids ad κ r n i h0 h17 hn hi) (va_cwSU 1 S.2.2.2.2 gJ4_append_bf812_J5_append_c97b9_s53 rfl rfl rfl (by decide +kernel) ⟨Nat.le_of_ble_eq_true rfl, Nat.le_of_ble_eq_true rfl⟩) rfl rfl (Nat.le_of_ble_eq_true rfl) dJ4_append_bf812_2 ⟨Nat.le_of_ble_eq_true rfl, Nat.le_of_ble_eq_true rfl⟩ (fun r9 u H locs hp G => ?_)
  obtain ⟨rfl, rfl⟩ := hp
  refine lv_pop S.1 S.2.1 dJ4_append_bf812_5 rfl ?_
  refine lv_aload_n S.1 S.2.1 dJ4_append_bf812_6 rfl (lv_at hl 0 rfl) ?_
  exact g_aret S G hr hlk (Or.inl ⟨_, rfl⟩) (⟨rfl, rfl⟩) (Nat.le_of_ble_eq_true rfl) (Nat.le_of_ble_eq_true rfl) dJ4_append_bf812_7
set_option maxHeartbeats 4000000 in
set_option maxRecDepth 100000 in
theorem c_J5_charAt_5068e (l : Launch) (ids : gIds) (ad : gAd) (κ : gMem) (r : Nat → Int32) (n i ch : Nat) (h0 : (0, 0) ∈ ids) (h17 : (17, 0) ∈ ids) (hn : n ≤ 16) (hi : i < n) (hc : ch < 128) (he : r i = nI ch)  : gMi l yJ5_charAt_5068e wsJ5_charAt_5068e ({ frames := 2, cells := 0, slots := 0, locals := 43 } : Room) 0 0 [.ref (ad 0 0), .int (nI i)] (ids, ad, gk (tB κ r n)) (fun q u => q = nI ch ∧ u = (ids, ad, gk (tB κ r n))) := by
  intro D aC A
  refine g_of (cc := cJ5_charAt_5068e) (maxL := 5) (ret := (some .char)) (by decide +kernel) rfl (Nat.le_of_ble_eq_true rfl) ?_
  intro p e s m below meth c ls S G hF hr hlk hnm hl
  have hl : lv_has ls 5 [(0, _), (1, _)] := hl
  have i0 : ∀ w ∈ wsJ40, w ∈ wsJ5_charAt_5068e := by decide +kernel
  refine lv_aload_n S.1 S.2.1 dJ5_charAt_5068e_0 rfl (lv_at hl 0 rfl) ?_
  refine g_get S G 0 1 h0 (by decide) (by decide) i0 (S.2.2.2.2 (.fieldLink RJ5 22 "java/lang/AbstractStringBuilder" "coder" "B") (by decide +kernel)) (gvk_i rfl rfl) dJ5_charAt_5068e_1 ?_
  rw [tB_1]
  refine lv_istore_n (lv' := [(2, _), (0, _), (1, _)]) S.1 S.2.1 dJ5_charAt_5068e_4 rfl hl (by decide) rfl (fun ls hl => ?_)
  refine lv_aload_n S.1 S.2.1 dJ5_charAt_5068e_5 rfl (lv_at hl 1 rfl) ?_
  refine g_get S G 0 0 h0 (by decide) (by decide) i0 (S.2.2.2.2 (.fieldLink RJ5 15 "java/lang/AbstractStringBuilder" "value" "[B") (by decide +kernel)) (gvk_r rfl rfl tB_0 (by decide)) dJ5_charAt_5068e_6 ?_
  refine lv_astore_n (lv' := [(3, _), (2, _), (0, _), (1, _)]) S.1 S.2.1 dJ5_charAt_5068e_9 rfl hl (by decide) rfl (fun ls hl => ?_)
  refine lv_aload_n S.1 S.2.1 dJ5_charAt_5068e_10 rfl (lv_at hl 2 rfl) ?_
  refine g_get S G 0 3 h0 (by decide) (by decide) i0 (S.2.2.2.2 (.fieldLink RJ5 79 "java/lang/AbstractStringBuilder" "count" "I") (by decide +kernel)) (gvk_i rfl rfl) dJ5_charAt_5068e_11 ?_
  rw [tB_3]
  refine lv_aload_n S.1 S.2.1 dJ5_charAt_5068e_14 rfl (lv_at hl 0 rfl) ?_
  refine g_alen (v := 16) S G 17 h17 (by decide) rfl rfl dJ5_charAt_5068e_15 ?_
  refine lv_iload_n S.1 S.2.1 dJ5_charAt_5068e_16 rfl (lv_at hl 1 rfl) ?_
  refine lv_ishr S.1 S.2.1 dJ5_charAt_5068e_17 ?_
  refine g_min S hl (by decide +kernel) (by decide +kernel) (by decide +kernel) (by decide +kernel) (Nat.le_of_ble_eq_true rfl) (Nat.le_of_ble_eq_true rfl) (Nat.le_of_ble_eq_true rfl) (Nat.le_of_ble_eq_true rfl) dJ5_charAt_5068e_18 ?_
  rw [tMin n hn]
  refine lv_istore (lv' := [(4, _), (3, _), (2, _), (0, _), (1, _)]) S.1 S.2.1 dJ5_charAt_5068e_21 hl (by decide) rfl (fun ls hl => ?_)
  refine lv_iload_n S.1 S.2.1 dJ5_charAt_5068e_23 rfl (lv_at hl 4 rfl) ?_
  refine lv_iload S.1 S.2.1 dJ5_charAt_5068e_24 (lv_at hl 0 rfl) ?_
  refine g_cSv S G hF hl (c_J0_checkIndex_df160 l ids ad _ _ _ hi (by omega)) (va_cwS 2 S.2.2.2.2 gJ5_charAt_5068e_J0_checkIndex_df160 rfl rfl rfl (by decide +kernel) ⟨Nat.le_of_ble_eq_true rfl, Nat.le_of_ble_eq_true rfl⟩) rfl rfl (Nat.le_of_ble_eq_true rfl) dJ5_charAt_5068e_26 ⟨Nat.le_of_ble_eq_true rfl, Nat.le_of_ble_eq_true rfl⟩ (fun u_26 H locs hp_26 G => ?_)
  obtain rfl := hp_26
  have G : gS D aC A s ids ad (gk _) H locs := G
  refine lv_iload_n S.1 S.2.1 dJ5_charAt_5068e_29 rfl (lv_at hl 2 rfl) ?_
  refine lv_if_ne (tgt := 42) S.1 S.2.1 dJ5_charAt_5068e_30 (by decide) (fun c_30 => ?_) (fun c_30 => ?_)
  · exact absurd rfl c_30
  · refine lv_aload_n S.1 S.2.1 dJ5_charAt_5068e_33 rfl (lv_at hl 1 rfl) ?_
    refine lv_iload_n S.1 S.2.1 dJ5_charAt_5068e_34 rfl (lv_at hl 4 rfl) ?_
    refine g_bald S G 17 h17 rfl rfl rfl (show i < 16 by omega) dJ5_charAt_5068e_35 ?_
    rw [gk_n (show gOwn 17 0 i = none from rfl), tB_17, he]
    refine lv_sipush (v := 255) S.1 S.2.1 dJ5_charAt_5068e_36 (by decide) ?_
    refine lv_iand S.1 S.2.1 dJ5_charAt_5068e_39 ?_
    rw [tAnd ch hc]
    refine lv_i2c S.1 S.2.1 dJ5_charAt_5068e_40 (tI2c ch hc) ?_
    exact g_zret S G hr hlk (tNcI ch hc) (⟨rfl, rfl⟩) (Nat.le_of_ble_eq_true rfl) (Nat.le_of_ble_eq_true rfl) dJ5_charAt_5068e_41
set_option maxHeartbeats 4000000 in
set_option maxRecDepth 100000 in
theorem c_J4_charAt_5068e (l : Launch) (ids : gIds) (ad : gAd) (κ : gMem) (r : Nat → Int32) (n i ch : Nat) (h0 : (0, 0) ∈ ids) (h17 : (17, 0) ∈ ids) (hn : n ≤ 16) (hi : i < n) (hc : ch < 128) (he : r i = nI ch)  : gMi l yJ4_charAt_5068e wsJ4_charAt_5068e ({ frames := 3, cells := 0, slots := 0, locals := 67 } : Room) 0 0 [.ref (ad 0 0), .int (nI i)] (ids, ad, gk (tB κ r n)) (fun q u => q = nI ch ∧ u = (ids, ad, gk (tB κ r n))) := by
  intro D aC A
  refine g_of (cc := cJ4_charAt_5068e) (maxL := 2) (ret := (some .char)) (by decide +kernel) rfl (Nat.le_of_ble_eq_true rfl) ?_
  intro p e s m below meth c ls S G hF hr hlk hnm hl
  have hl : lv_has ls 2 [(0, _), (1, _)] := hl
  refine lv_aload_n S.1 S.2.1 dJ4_charAt_5068e_0 rfl (lv_at hl 0 rfl) ?_
  refine lv_iload_n S.1 S.2.1 dJ4_charAt_5068e_1 rfl (lv_at hl 1 rfl) ?_
  refine g_cSUi S G hF hl 0 h0 (by decide) (c_J5_charAt_5068e l ids ad κ r n i ch h0 h17 hn hi hc he) (va_cwSU 1 S.2.2.2.2 gJ4_charAt_5068e_J5_charAt_5068e_s329 rfl rfl rfl (by decide +kernel) ⟨Nat.le_of_ble_eq_true rfl, Nat.le_of_ble_eq_true rfl⟩) rfl rfl (Nat.le_of_ble_eq_true rfl) dJ4_charAt_5068e_2 ⟨Nat.le_of_ble_eq_true rfl, Nat.le_of_ble_eq_true rfl⟩ (fun r9 u H locs hp G => ?_)
  obtain ⟨rfl, rfl⟩ := hp
  exact g_zret S G hr hlk (tNcI ch hc) (⟨rfl, rfl⟩) (Nat.le_of_ble_eq_true rfl) (Nat.le_of_ble_eq_true rfl) dJ4_charAt_5068e_5
/-! ===== textAt ===== -/
def tLet (s i c q : Nat) : Nat := if q = 0 then 97 + s else if i < 10 then (if q = 1 then 48 + i else c) else if q = 1 then 48 + i / 10 else if q = 2 then 48 + i % 10 else c
theorem tLet_lt {s i c q : Nat} (hs : s < 12) (hi : i < 100) (hc : c < 128) : tLet s i c q < 128 := by
  unfold tLet
  repeat' split
  all_goals omega
theorem tLet_r {s i c q : Nat} (hq : q < 0 + 1 + tSz i + 1) : upd (tI (upd (fun _ => 0) 0 (nI (97 + s))) (0 + 1) i) (0 + 1 + tSz i) (nI c) q = nI (tLet s i c q) := by
  unfold tI tLet tSz at *
  by_cases h : i < 10
  · simp only [if_pos h] at hq ⊢
    rcases (by omega : q = 0 ∨ q = 1 ∨ q = 2) with rfl | rfl | rfl <;> simp [upd, Nat.mod_eq_of_lt h]
  · simp only [if_neg h] at hq ⊢
    rcases (by omega : q = 0 ∨ q = 1 ∨ q = 2 ∨ q = 3) with rfl | rfl | rfl | rfl <;> simp [upd]
theorem tDiv10 : ∀ i, i < 100 → nI i / 10 = nI (i / 10) := by decide +kernel
theorem tMod10 : ∀ i, i < 100 → nI i - nI i / 10 * 10 = nI (i % 10) := by decide +kernel
theorem tLt10 : ∀ i, i < 100 → (nI i < 10 ↔ i < 10) := by decide +kernel
theorem tLet_n {κ : gMem} {r i : Nat} (h1 : κ 3 r 1 = nI i) (hi : i < 100) : sTxN κ r = 0 + 1 + tSz i + 1 := by
  unfold sTxN tSz
  rw [h1]
  by_cases h : i < 10
  · rw [if_pos ((tLt10 i hi).mpr h), if_pos h]
  · rw [if_neg (fun z => h ((tLt10 i hi).mp z)), if_neg h]
theorem tLet_x {κ : gMem} {r s i c q : Nat} (h0 : κ 3 r 0 = nI s) (h1 : κ 3 r 1 = nI i) (hi : i < 100) (h2 : sSign (κ 3 r 3) = nI c) : nI (tLet s i c q) = sTxB κ r q := by
  unfold sTxB tLet
  rw [h0, h1, h2, tMod10 i hi, tDiv10 i hi]
  by_cases k0 : q = 0
  · rw [if_pos k0, if_pos k0]; exact (nI_add 97 s).symm
  · rw [if_neg k0, if_neg k0]
    by_cases h : i < 10
    · rw [if_pos h, if_pos ((tLt10 i hi).mpr h)]
      by_cases k1 : q = 1
      · rw [if_pos k1, if_pos k1]; exact (nI_add 48 i).symm
      · rw [if_neg k1, if_neg k1]
    · rw [if_neg h, if_neg (fun z => h ((tLt10 i hi).mp z))]
      by_cases k1 : q = 1
      · rw [if_pos k1, if_pos k1]; exact (nI_add 48 _).symm
      · rw [if_neg k1, if_neg k1]
        by_cases k2 : q = 2
        · rw [if_pos k2, if_pos k2]; exact (nI_add 48 _).symm
        · rw [if_neg k2, if_neg k2]
theorem cI.new17 {ids : gIds} {κ : gMem} (hI : cI ids κ) : (17, 0) ∉ ids ++ [(0, 0)] ∧ gFree (ids ++ [(0, 0)]) (updR (gk κ) 0 0 (gDef 0)) 17 0 := by
  refine ⟨fun h => ?_, ?_⟩
  · rcases List.mem_append.mp h with h | h
    · exact hI.2.2.2.2.2.2.2 _ h
    · exact absurd (List.mem_singleton.mp h) (fun z => by cases z)
  rintro ⟨g, j⟩ hx k hl ht
  obtain ⟨rfl, rfl⟩ := gm_t_i18 ht
  rcases List.mem_append.mp hx with h | h
  · exact (hI.2.2.2.2.2.2.1 _ h).elim
  · have e : j = 0 := congrArg Prod.snd (List.mem_singleton.mp h)
    left
    show updR (gk κ) 0 0 (gDef 0) 0 j 0 < 0
    rw [e, updR_s]; decide
set_option maxHeartbeats 4000000 in
set_option maxRecDepth 100000 in
theorem c_X6_textAt (l : Launch) (hlf : l.stackTraces = false) (ids : gIds) (ad : gAd) (κ : gMem) (a b : Int32) (hV : cV ids) (hW : cWF ids κ) (hI : cI ids κ) (htx : tN a < tN (κ 7 0 4) → ixL (κ 3 (tN a) 1) 100)  : gXi l yX6_textAt wsX6_textAt ({ frames := 7, cells := 8, slots := 64, locals := 111 } : Room) 8 64 [.ref (ad 7 0), .int a, .int b] (ids, ad, gk κ) (fun q u => sTextT κ a b = 0 ∧ q = sText κ (tN a) b ∧ u = (ids, ad, gk (κ))) (fun E u => xE (sTextT κ a b) E ∧ u = (ids, ad, gk (κ))) := by
  intro D aC A
  refine gx_of (cc := cX6_textAt) (maxL := 5) (ret := (some .int)) (by decide +kernel) rfl (Nat.le_of_ble_eq_true rfl) ?_
  intro p e s m below meth c ls S G hF hr hlk hex hl
  have hl : lv_has ls 5 [(0, _), (1, _), (2, _)] := hl
  have i0 : ∀ w ∈ wsJ40, w ∈ wsX6_textAt := by decide +kernel
  have i3 : ∀ w ∈ wsX20, w ∈ wsX6_textAt := by decide +kernel
  have i5 : ∀ w ∈ wsX40, w ∈ wsX6_textAt := by decide +kernel
  refine lv_aload_n S.1 S.2.1 dX6_textAt_0 rfl (lv_at hl 0 rfl) ?_
  refine lv_iload_n S.1 S.2.1 dX6_textAt_1 rfl (lv_at hl 1 rfl) ?_
  refine gx_cVr S G hF hl 7 (hV 7 _ (by first | decide | (show _ < 1; omega))) (by decide) (c_X6_readingAt l hlf _ _ _ _ hV hW) (cwV 1 S.2.2.2.2 gX6_textAt_X6_readingAt rfl rfl rfl (by decide +kernel) ⟨Nat.le_of_ble_eq_true rfl, Nat.le_of_ble_eq_true rfl⟩) rfl rfl (Nat.le_of_ble_eq_true rfl) dX6_textAt_2 ⟨Nat.le_of_ble_eq_true rfl, Nat.le_of_ble_eq_true rfl⟩ (gx_pass hex hlk (fun E u h => ⟨by obtain ⟨h1, rfl, -⟩ := h; exact xE1 (by simp only [sTextT, if_pos h1]), h.2.2⟩) (Nat.le_of_ble_eq_true rfl) (Nat.le_of_ble_eq_true rfl)) (fun r_2 u_2 H locs hp_2 G => ?_)
  obtain ⟨c_2, rfl, rfl⟩ := hp_2
  have G : gS D aC A s _ _ (gk _) H locs := G
  obtain ⟨hn, hn80⟩ := hW.cnt
  obtain ⟨hx_2, hj_2⟩ := mIn_rd (n := tN (κ 7 0 4)) (by rw [← hn]; exact c_2) hn80
  have hR := hW.2.1 _ hj_2
  refine lv_astore_n (lv' := [(3, _), (0, _), (1, _), (2, _)]) S.1 S.2.1 dX6_textAt_5 rfl hl (by decide) rfl (fun ls hl => ?_)
  refine lv_iload_n S.1 S.2.1 dX6_textAt_6 rfl (lv_at hl 3 rfl) ?_
  refine lv_if_ge (tgt := 20) S.1 S.2.1 dX6_textAt_7 (by decide) (fun c_7 => ?_) (fun c_7 => ?_)
  · have hx := htx hj_2
    obtain ⟨jb, hjb, rfl⟩ := nI_of (Int32.not_lt.mpr c_7)
    have hn0 : (0, 0) ∉ ids := hI.2.2.2.2.2.2.1 0
    have hf0 : gFree ids (gk κ) 0 0 := fun x _ k _ ht => (gm_t_i1 ht).elim
    refine g_new S G 0 0 (by decide) i0 (by decide +kernel) (by decide +kernel) (by decide +kernel) hn0 hf0 (Nat.le_of_ble_eq_true rfl) (Nat.le_of_ble_eq_true rfl) dX6_textAt_20 (fun q_20 H G => ?_)
    have h0 : (0, 0) ∈ ids ++ [(0, 0)] := List.mem_append_right _ List.mem_cons_self
    obtain ⟨hn17, hf17⟩ := hI.new17
    refine lv_dup S.1 S.2.1 dX6_textAt_23 rfl ?_
    refine g_cIv S G hF hl _ (c_J4_init_da8c8 l _ _ _ h0 hn17 hf17 (fun k => by rw [updR_s])) (cwI 0 S.2.2.2.2 gX6_textAt_J4_init_da8c8 rfl rfl rfl (S.2.2.2.2 (.initialized RJ4) (by decide +kernel)) (S.2.2.2.2 (.methodLink RX6 222 yJ4_init_da8c8) (by decide +kernel)) (S.2.2.2.2 (.instanceMethod yJ4_init_da8c8) (by decide +kernel)) rfl (by decide +kernel) ⟨Nat.le_of_ble_eq_true rfl, Nat.le_of_ble_eq_true rfl⟩) rfl rfl (Nat.le_of_ble_eq_true rfl) dX6_textAt_24 ⟨Nat.le_of_ble_eq_true rfl, Nat.le_of_ble_eq_true rfl⟩ (fun u_24 H locs hp_24 G => ?_)
    obtain ⟨q_24, rfl⟩ := hp_24
    rw [tB_start] at G
    have h0 : (0, 0) ∈ (ids ++ [(0, 0)]) ++ [(17, 0)] := List.mem_append_left _ h0
    have h17 : (17, 0) ∈ (ids ++ [(0, 0)]) ++ [(17, 0)] := List.mem_append_right _ List.mem_cons_self
    have hR3 : (3, tN a) ∈ (ids ++ [(0, 0)]) ++ [(17, 0)] := List.mem_append_left _ (List.mem_append_left _ hR.2.1)
    have hV2 : cV ((ids ++ [(0, 0)]) ++ [(17, 0)]) := (hV.app _).app _
    have hz := tSz_le (tN (κ 3 (tN a) 1))
    refine lv_astore (lv' := [(4, _), (3, _), (0, _), (1, _), (2, _)]) S.1 S.2.1 dX6_textAt_27 hl (by decide) rfl (fun ls hl => ?_)
    refine lv_aload S.1 S.2.1 dX6_textAt_29 (lv_at hl 0 rfl) ?_
    refine lv_bipush (v := 97) S.1 S.2.1 dX6_textAt_31 (by decide) ?_
    refine lv_aload_n S.1 S.2.1 dX6_textAt_33 rfl (lv_at hl 1 rfl) ?_
    refine g_getN S G 3 0 hR3 (by decide) (by decide) i3 (gn_14 hF) (gvk_r rfl rfl ((tB_f (by decide) (by decide)).trans hR.2.2.2.1.1) (by have := hR.2.2.2.1.2; omega)) dX6_textAt_34 ?_
    refine g_getN S G 5 0 (hV2 5 _ (by have := hR.2.2.2.1.2; show _ < 12; omega)) (by decide) (by decide) i5 (gn_5 hF) (gvk_oi rfl rfl) dX6_textAt_37 ?_
    refine lv_iadd S.1 S.2.1 dX6_textAt_40 ?_
    rw [show (97 : Int32) + nI (tN (κ 3 (tN a) 0)) = nI (97 + (tN (κ 3 (tN a) 0))) from nI_add 97 _]
    refine lv_i2c S.1 S.2.1 dX6_textAt_41 (tI2c _ (by have := hR.2.2.2.1.2; omega)) ?_
    refine g_cVr S G hF hl 0 h0 (by decide) (c_J4_append_cf468 l _ _ _ _ _ _ h0 h17 (by decide) (by have := hR.2.2.2.1.2; omega)) (cwV 1 S.2.2.2.2 gX6_textAt_J4_append_cf468 rfl rfl rfl (by decide +kernel) ⟨Nat.le_of_ble_eq_true rfl, Nat.le_of_ble_eq_true rfl⟩) rfl rfl (Nat.le_of_ble_eq_true rfl) dX6_textAt_42 ⟨Nat.le_of_ble_eq_true rfl, Nat.le_of_ble_eq_true rfl⟩ (fun r_42 u_42 H locs hp_42 G => ?_)
    obtain ⟨rfl, rfl⟩ := hp_42
    have G : gS D aC A s _ _ (gk _) H locs := G
    refine lv_pop S.1 S.2.1 dX6_textAt_45 rfl ?_
    refine lv_aload S.1 S.2.1 dX6_textAt_46 (lv_at hl 0 rfl) ?_
    refine lv_aload_n S.1 S.2.1 dX6_textAt_48 rfl (lv_at hl 1 rfl) ?_
    refine g_getN S G 3 1 hR3 (by decide) (by decide) i3 (gn_15 hF) (gvk_i rfl rfl) dX6_textAt_49 ?_
    rw [tB_f (by decide) (by decide), hx.1]
    refine g_cVr S G hF hl 0 h0 (by decide) (c_J4_append_bf812 l _ _ _ _ _ _ h0 h17 (by decide) hx.2) (cwV 1 S.2.2.2.2 gX6_textAt_J4_append_bf812 rfl rfl rfl (by decide +kernel) ⟨Nat.le_of_ble_eq_true rfl, Nat.le_of_ble_eq_true rfl⟩) rfl rfl (Nat.le_of_ble_eq_true rfl) dX6_textAt_52 ⟨Nat.le_of_ble_eq_true rfl, Nat.le_of_ble_eq_true rfl⟩ (fun r_52 u_52 H locs hp_52 G => ?_)
    obtain ⟨rfl, rfl⟩ := hp_52
    have G : gS D aC A s _ _ (gk _) H locs := G
    refine lv_pop S.1 S.2.1 dX6_textAt_55 rfl ?_
    refine lv_aload S.1 S.2.1 dX6_textAt_56 (lv_at hl 0 rfl) ?_
    refine lv_aload_n S.1 S.2.1 dX6_textAt_58 rfl (lv_at hl 1 rfl) ?_
    refine g_getN S G 3 3 hR3 (by decide) (by decide) i3 (gn_17 hF) (gvk_i rfl rfl) dX6_textAt_59 ?_
    rw [tB_f (by decide) (by decide)]
    refine g_cSi S G hF hl (c_X6_signOf l _ _ _ _) (va_cwS 1 S.2.2.2.2 gX6_textAt_X6_signOf rfl rfl rfl (by decide +kernel) ⟨Nat.le_of_ble_eq_true rfl, Nat.le_of_ble_eq_true rfl⟩) rfl rfl (Nat.le_of_ble_eq_true rfl) dX6_textAt_62 ⟨Nat.le_of_ble_eq_true rfl, Nat.le_of_ble_eq_true rfl⟩ (fun r_62 u_62 H locs hp_62 G => ?_)
    obtain ⟨rfl, rfl⟩ := hp_62
    have G : gS D aC A s _ _ (gk _) H locs := G
    rw [(sSign_ix (κ 3 (tN a) 3)).1]
    refine g_cVr S G hF hl 0 h0 (by decide) (c_J4_append_cf468 l _ _ _ _ _ _ h0 h17 (by omega) (sSign_ix (κ 3 (tN a) 3)).2) (cwV 1 S.2.2.2.2 gX6_textAt_J4_append_cf468 rfl rfl rfl (by decide +kernel) ⟨Nat.le_of_ble_eq_true rfl, Nat.le_of_ble_eq_true rfl⟩) rfl rfl (Nat.le_of_ble_eq_true rfl) dX6_textAt_65 ⟨Nat.le_of_ble_eq_true rfl, Nat.le_of_ble_eq_true rfl⟩ (fun r_65 u_65 H locs hp_65 G => ?_)
    obtain ⟨rfl, rfl⟩ := hp_65
    have G : gS D aC A s _ _ (gk _) H locs := G
    refine lv_pop S.1 S.2.1 dX6_textAt_68 rfl ?_
    refine lv_iload_n S.1 S.2.1 dX6_textAt_69 rfl (lv_at hl 4 rfl) ?_
    refine lv_aload S.1 S.2.1 dX6_textAt_70 (lv_at hl 0 rfl) ?_
    refine g_cVi S G hF hl 0 h0 (by decide) (c_J4_length_8abf5 l _ _ _ h0) (cwV 0 S.2.2.2.2 gX6_textAt_J4_length_8abf5 rfl rfl rfl (by decide +kernel) ⟨Nat.le_of_ble_eq_true rfl, Nat.le_of_ble_eq_true rfl⟩) rfl rfl (Nat.le_of_ble_eq_true rfl) dX6_textAt_72 ⟨Nat.le_of_ble_eq_true rfl, Nat.le_of_ble_eq_true rfl⟩ (fun r_72 u_72 H locs hp_72 G => ?_)
    obtain ⟨rfl, rfl⟩ := hp_72
    have G : gS D aC A s _ _ (gk _) H locs := G
    rw [tB_3]
    refine lv_icmp_ge (tgt := 87) S.1 S.2.1 dX6_textAt_75 (by decide) (fun c_75 => ?_) (fun c_75 => ?_)
    · refine lv_iconst (v := (-1)) S.1 S.2.1 dX6_textAt_87 (by decide) ?_
      have G := G.textOut hI.2.2.2.2.2.2.1 hI.2.2.2.2.2.2.2
      refine vx_ret ?_
      exact g_iret S G hr hlk (⟨by simp only [sTextT, if_neg c_2, if_pos c_7], by rw [sText, tLet_n hx.1 hx.2, if_neg (Int32.not_lt.mpr c_75)], rfl⟩) (Nat.le_of_ble_eq_true rfl) (Nat.le_of_ble_eq_true rfl) dX6_textAt_88
    · have hjn : jb < 0 + 1 + tSz (tN (κ 3 (tN a) 1)) + 1 := (nI_ltI hjb (by omega)).mp (Int32.not_le.mp c_75)
      refine lv_aload S.1 S.2.1 dX6_textAt_78 (lv_at hl 0 rfl) ?_
      refine lv_iload_n S.1 S.2.1 dX6_textAt_80 rfl (lv_at hl 4 rfl) ?_
      refine g_cVi S G hF hl 0 h0 (by decide) (c_J4_charAt_5068e l _ _ _ _ _ _ _ h0 h17 (by omega) hjn (tLet_lt hR.2.2.2.1.2 hx.2 (sSign_ix (κ 3 (tN a) 3)).2) (tLet_r hjn)) (cwV 1 S.2.2.2.2 gX6_textAt_J4_charAt_5068e rfl rfl rfl (by decide +kernel) ⟨Nat.le_of_ble_eq_true rfl, Nat.le_of_ble_eq_true rfl⟩) rfl rfl (Nat.le_of_ble_eq_true rfl) dX6_textAt_81 ⟨Nat.le_of_ble_eq_true rfl, Nat.le_of_ble_eq_true rfl⟩ (fun r_81 u_81 H locs hp_81 G => ?_)
      obtain ⟨rfl, rfl⟩ := hp_81
      have G : gS D aC A s _ _ (gk _) H locs := G
      refine lv_goto (tgt := 88) S.1 S.2.1 dX6_textAt_84 (by decide) ?_
      have G := G.textOut hI.2.2.2.2.2.2.1 hI.2.2.2.2.2.2.2
      refine vx_ret ?_
      exact g_iret S G hr hlk (⟨by simp only [sTextT, if_neg c_2, if_pos c_7], by rw [sText, tLet_n hx.1 hx.2, if_pos (Int32.not_le.mp c_75), tN_nI hjb]; exact tLet_x hR.2.2.2.1.1 hx.1 hx.2 (sSign_ix (κ 3 (tN a) 3)).1, rfl⟩) (Nat.le_of_ble_eq_true rfl) (Nat.le_of_ble_eq_true rfl) dX6_textAt_88
  · exact g_throw (cls := "java/lang/IndexOutOfBoundsException") (text := "the place is below 0") S G hF hlf hlk hex hl.1 rfl (by decide +kernel) (by decide +kernel) (by decide +kernel) (by decide +kernel) (by decide +kernel) (by decide +kernel) (by decide +kernel) (by decide +kernel) dX6_textAt_10 dX6_textAt_13 (Or.inl ⟨dX6_textAt_14, dX6_textAt_16, dX6_textAt_19⟩) (Nat.le_of_ble_eq_true rfl) (Nat.le_of_ble_eq_true rfl) (Nat.le_of_ble_eq_true rfl) (Nat.le_of_ble_eq_true rfl) (⟨xE1 (by simp only [sTextT, if_neg c_2, if_neg c_7]), rfl⟩) (Nat.le_of_ble_eq_true rfl) (Nat.le_of_ble_eq_true rfl)
