/-! THE CLAIM OUT OF ONE WALK OF THE LAW'S BODY. Your part is whole_start (and what it stands on); all else here is the same for every law, but numbers. -/
def R_law : String := "SensorBondLaw"
def lw_P (b : Addr) (xs : List Int32) (args : Array Value) (s : State) : Prop := args = #[.ref b] ∧ s.IntsAt b xs ∧ xs.length ≤ 2048 ∧ (Jvm.Cond.and given_1 narrow_1).before args s = true
def lw_Q (_ : Array Value) (s : State) (o : Outcome) (t : State) : Prop := o = .returned (some (.int 1)) ∧ Framed s o t [] 601024 7293034
def lw_Z (below : List Frame) (a : Array Value) (s : State) : State → Prop := fun t => ∃ o, t.status = .running ∧ Ended t below o ∧ lw_Q a s o t
/-- the law's own end, with 1 on the stack, nothing written that was there before, its room as the claim has it -/
theorem lw_ret {p : Program} {l : Launch} {e : Env} {s : State} {m : MethodId} {below : List Frame} {meth : Method} {c : Code} {b : Nat} (hx : p.tables.exec = Jvm.exec) (hb : c.code = code) (hr : meth.sig.returnType = ret) (hlocks : meth.locks = false) {pc : Nat} {H : Heap} {ls : Array Slot} (hdg : decode code pc = .ok (.ireturn, 1)) : W p l e room_1 s m #[Value.ref b] below meth c H [] 601024 7293034 (lw_Z below #[Value.ref b] s) (F0 m pc ls [.int 1]) := by
  intro T hT X
  obtain ⟨fs, hret, hrun, hended, hW, hframe⟩ := X.leave (v := some (.int 1)) (hlocks := hlocks) (fun h => by rw [hr] at h; cases h)
  have hmeth' : T.vm.method? m = some meth := X.method'
  refine ⟨T.setFrames fs, ?_, .returned (some (.int 1)), hrun, hended, rfl, ⟨_, rfl⟩, hW, hframe⟩
  jvm_step X.here [X.here.top, hx, hb, hdg, hmeth', hr, ret, narrow_b1]
  (try refine ⟨rfl, ?_⟩); (try refine ⟨rfl, ?_⟩)
  first | (intro acts; rw [hret _ acts rfl rfl rfl]) | rw [hret _ _ rfl rfl rfl]
  exact Steps.refl _
/-- what holds at the law's entry: the machine, the code, the tables' words (any of lw_tbl by 'hts w (by decide +kernel)'), the script of L ints xs at the cell b, what the Statement gives of the start (any of its parts by flat_of_before) -/
def lw_At (p : Program) (s : State) (m : MethodId) (meth : Method) (c : Code) (b L : Nat) (xs : Nat → Int32) : Prop :=
  p.tables.exec = Jvm.exec ∧ c.code = code ∧ meth.sig.returnType = ret ∧ c.maxLocals = 7 ∧ s.vm.findClass R_law = some m.cls ∧ (∀ w ∈ lw_tbl, w.before #[Value.ref b] s = true) ∧ va_X b L xs s s.heap ∧ b < s.heap.size ∧ meth.locks = false ∧ (Jvm.Cond.and given_1 narrow_1).before #[Value.ref b] s = true
/-- the walk of the law's body -/
theorem whole_start {p : Program} {e : Env} {s : State} {m : MethodId} {below : List Frame} {meth : Method} {c : Code} (l : Launch) (hflags : l.flags = flags0) {b L : Nat} {xs : Nat → Int32} (hL : L ≤ 2048) (C0 : lw_At p s m meth c b L xs) : W p l e room_1 s m #[Value.ref b] below meth c s.heap [] 0 0 (lw_Z below #[Value.ref b] s) (entryFrame m ([Value.ref b] : List Value).toArray 7) := by
  obtain ⟨hx, hb, hr, hml, hown, hts, hX, hbl, hlocks, hgv⟩ := id C0
  have hlf : l.stackTraces = false := by rw [Launch.stackTraces, hflags]; decide +kernel
  obtain ⟨D, aC, hK⟩ := law_K hts
  have hF := law_gF (hK.1 7 _ rfl).2.1 hts hgv
  have hbA : ¬ (fun q : Nat => s.heap.size ≤ q) b := Nat.not_le.mpr hbl
  have G : gS D aC (fun q : Nat => s.heap.size ≤ q) s [] (fun _ _ => 0) (fun _ _ _ => 0) s.heap [] := ⟨fun k q h => by simp [gW] at h, ⟨fun i j p q h => by simp [gW] at h, fun k q h => by simp [gW] at h⟩, hK, va_S.rf, fun _ h => h⟩
  have S : CallFix p m c cL_law 7 s #[Value.ref b] wsL_law RL := ⟨hx, hb, hml, hown, fun w hw => hts w (wsL_law_in w hw)⟩
  have hl := lv_entry ([.ref b]) (n := 7) (Nat.le_of_ble_eq_true rfl)
  rw [lg_entry_eq]
  generalize (lg_sl ([.ref b]) ++ List.replicate (7 - (lg_sl ([.ref b])).length) Slot.unset).toArray = ls at hl ⊢
  have hl : lv_has ls 7 [(0, .ref b)] := hl
  refine g_new S G 7 0 (by decide) inlX6 (by decide +kernel) (by decide +kernel) (by decide +kernel) (by simp) (fun x hx => by simp at hx) (Nat.le_of_ble_eq_true rfl) (Nat.le_of_ble_eq_true rfl) dL_law_0 (fun q_0 H G => ?_)
  refine lv_dup S.1 S.2.1 dL_law_3 rfl ?_
  refine g_cIv S G hF hl _ (c_X6_init l _ _ (fun k => by rw [updR_s])) (cwI 0 S.2.2.2.2 gL_law_X6_init rfl rfl rfl (S.2.2.2.2 _ (by decide +kernel)) (S.2.2.2.2 (.methodLink RL 84 yX6_init) (by decide +kernel)) (S.2.2.2.2 (.instanceMethod yX6_init) (by decide +kernel)) rfl (by decide +kernel) ⟨Nat.le_of_ble_eq_true rfl, Nat.le_of_ble_eq_true rfl⟩) rfl rfl (Nat.le_of_ble_eq_true rfl) dL_law_4 ⟨Nat.le_of_ble_eq_true rfl, Nat.le_of_ble_eq_true rfl⟩ (fun u H locs hp G => ?_)
  obtain ⟨ad1, had, rfl⟩ := hp
  have G : gS D aC (fun q : Nat => s.heap.size ≤ q) s (iU 6) ad1 (gk (cP 6 12 6)) H locs := gS.conv (ids := iU 6) G cP_gk
  rw [← had]
  refine W.widen (k := 50) (n := 400) (Nat.le_of_ble_eq_true rfl) (Nat.le_of_ble_eq_true rfl) ?_
  refine lv_astore_n (lv' := [(1, _), (0, _)]) S.1 S.2.1 dL_law_7 rfl hl (by decide) rfl (fun ls hl => ?_)
  refine g_new S G 8 0 (by decide) inlX7 (by decide +kernel) (by decide +kernel) (by decide +kernel) (fun h => by have := iU_no h; dsimp only at this; omega) (fun x _ k _ ht => (gm_t_i9 ht).elim) (Nat.le_of_ble_eq_true rfl) (Nat.le_of_ble_eq_true rfl) dL_law_8 (fun q_8 H G => ?_)
  refine lv_dup S.1 S.2.1 dL_law_11 rfl ?_
  refine g_cIv S G hF hl _ (c_X7_init l _ _ _ iU_only iM_V) (cwI 0 S.2.2.2.2 gL_law_X7_init rfl rfl rfl (S.2.2.2.2 _ (by decide +kernel)) (S.2.2.2.2 (.methodLink RL 87 yX7_init) (by decide +kernel)) (S.2.2.2.2 (.instanceMethod yX7_init) (by decide +kernel)) rfl (by decide +kernel) ⟨Nat.le_of_ble_eq_true rfl, Nat.le_of_ble_eq_true rfl⟩) rfl rfl (Nat.le_of_ble_eq_true rfl) dL_law_12 ⟨Nat.le_of_ble_eq_true rfl, Nat.le_of_ble_eq_true rfl⟩ (fun u H locs hp G => ?_)
  obtain ⟨ad2, had7, had8, rfl⟩ := hp
  have G : gS D aC (fun q : Nat => s.heap.size ≤ q) s (iM (iU 6)) ad2 (gk (mInit (cP 6 12 6))) H locs := G
  rw [← had8]
  have hl : lv_has ls 7 [(1, .ref (ad1 7 0)), (0, .ref b)] := hl
  rw [show ad1 7 0 = ad2 7 0 from had7.symm] at hl
  refine W.widen (k := 100) (n := 3000) (Nat.le_of_ble_eq_true rfl) (Nat.le_of_ble_eq_true rfl) ?_
  refine lv_astore_n (lv' := [(2, _), (1, _), (0, _)]) S.1 S.2.1 dL_law_15 rfl hl (by decide) rfl (fun ls hl => ?_)
  refine lv_iconst (v := 1) S.1 S.2.1 dL_law_16 (by decide) ?_
  refine g_newl S G 18 0 rfl rfl (by decide +kernel) iM_no18 (fun x _ k _ ht => (gm_t_i19 ht).elim) rfl (Nat.le_of_ble_eq_true rfl) (Nat.le_of_ble_eq_true rfl) (Nat.le_of_ble_eq_true rfl) dL_law_17 (fun q_17 H G => ?_)
  have G : gS D aC (fun q : Nat => s.heap.size ≤ q) s (iM (iU 6) ++ [(18, 0)]) _ (gk (updR (mInit (cP 6 12 6)) 18 0 (fun _ => 0))) H locs := G.conv (by
    rintro ⟨f, i⟩ hx k hk
    dsimp only
    by_cases h : f = 18 ∧ i = 0
    · obtain ⟨rfl, rfl⟩ := h; rfl
    · simp only [gk, updR_far h])
  refine lv_astore_n (lv' := [(3, _), (2, _), (1, _), (0, _)]) S.1 S.2.1 dL_law_19 rfl hl (by decide) rfl (fun ls hl => ?_)
  refine lv_iconst (v := 0) S.1 S.2.1 dL_law_20 (by decide) ?_
  refine lv_istore (lv' := [(4, _), (3, _), (2, _), (1, _), (0, _)]) S.1 S.2.1 dL_law_21 hl (by decide) rfl (fun ls hl => ?_)
  refine W.widen (k := 101 + 8 * 0) (n := 3001 + 64 * 0) (Nat.le_of_ble_eq_true rfl) (Nat.le_of_ble_eq_true rfl) ?_
  refine g_whilex (σ := Nat × gIds × gAd × gMem) (fun y => 4 * y.1 ≤ L + 3 ∧ Inv y.2.1 y.2.2.2) (fun y => 1000 - y.1) (fun y => y.2.1) (fun y => y.2.2.1) (fun y => gk y.2.2.2) (fun y => 101 + 8 * y.1) (fun y => 3001 + 64 * y.1) (fun y => [(4, .int (nI (4 * y.1))), (3, .ref (y.2.2.1 18 0)), (2, .ref (y.2.2.1 8 0)), (1, .ref (y.2.2.1 7 0)), (0, .ref b)]) ?_ (0, _, _, _) (by exact ⟨Nat.zero_le _, inv_start⟩) G (by exact hl)
  rintro ⟨n, ids, ad, κ⟩ H locs ls ⟨hn3, J⟩ G hl ih
  dsimp only at hn3 J G hl ih
  have hl : lv_has ls 7 [(4, .int (nI (4 * n))), (3, .ref (ad 18 0)), (2, .ref (ad 8 0)), (1, .ref (ad 7 0)), (0, .ref b)] := hl
  refine lv_iload S.1 S.2.1 dL_law_23 (lv_at hl 0 rfl) ?_
  refine lv_aload_n S.1 S.2.1 dL_law_25 rfl (lv_at hl 4 rfl) ?_
  refine va_slen S.1 S.2.1 hX hbl hbA G.2.2.2.1 dL_law_26 ?_
  refine lv_iconst (v := 4) S.1 S.2.1 dL_law_27 (by decide) ?_
  refine lv_isub S.1 S.2.1 dL_law_28 ?_
  have e4 : (Int32.ofNat L - 4).toInt = (L : Int) - 4 := pk_sub_toInt (a := L) (b := 4) (by omega) (by decide)
  refine lv_icmp_gt (tgt := 1585) S.1 S.2.1 dL_law_29 (by decide) (fun cg => ?_) (fun cg => ?_)
  · refine va_forget G.2.2.2.1.2.2 ?_
    refine W.widen (k := 601024) (n := 7293034) (by show 101 + 8 * n ≤ 601024; omega) (by show 3001 + 64 * n ≤ 7293034; omega) ?_
    refine lv_iconst (v := 1) S.1 S.2.1 dL_law_1585 (by decide) ?_
    exact lw_ret hx hb hr hlocks dL_law_1586
  · have hn : 4 * n + 4 ≤ L := by
      have h2 : ¬ (Int32.ofNat L - 4).toInt < (nI (4 * n)).toInt := fun z => cg (Int32.lt_iff_toInt_lt.mpr z)
      rw [e4, nI_toInt (by omega)] at h2
      omega
    have hc : 101 + 8 * n + 8 ≤ 601024 := by omega
    have hs : 3001 + 64 * n + 64 ≤ 7293034 := by omega
    have KK : ∀ (ids' : gIds) (ad' : gAd) (κ' : gMem) (H1 : Heap) (locs1 : List Loc) (ls1 : Array Slot), Inv ids' κ' → gS D aC (fun q : Nat => s.heap.size ≤ q) s ids' ad' (gk κ') H1 locs1 → lv_has ls1 7 [(4, .int (nI (4 * n))), (3, .ref (ad' 18 0)), (2, .ref (ad' 8 0)), (1, .ref (ad' 7 0)), (0, .ref b)] → W p l e room_1 s m #[Value.ref b] below meth c H1 locs1 (101 + 8 * n + 8) (3001 + 64 * n + 64) (lw_Z below #[Value.ref b] s) (F0 m 1579 ls1 []) := by
      intro ids' ad' κ' H1 locs1 ls1 J1 G1 hl1
      refine lv_iinc (k := 0) (lv' := [(4, .int (nI (4 * (n + 1)))), (3, _), (2, _), (1, _), (0, _)]) S.1 S.2.1 dL_law_1579 hl1 rfl (show nI (4 * n) + Int32.ofInt 4 = nI (4 * (n + 1)) from nI_add (4 * n) 4) (by decide) rfl (fun ls hl => ?_)
      refine lv_goto (tgt := 23) S.1 S.2.1 dL_law_1582 (by decide) ?_
      exact ih (n + 1, ids', ad', κ') H1 locs1 ls ⟨by show 4 * (n + 1) ≤ L + 3; omega, J1⟩ (by show 1000 - (n + 1) < 1000 - n; omega) G1 hl
    refine lv_aload_n S.1 S.2.1 dL_law_32 rfl (lv_at hl 4 rfl) ?_
    refine lv_iload S.1 S.2.1 dL_law_33 (lv_at hl 0 rfl) ?_
    refine g_scr S G hX hbl hbA rfl (show 4 * n < L by omega) hL dL_law_35 ?_
    refine lv_bipush (v := 31) S.1 S.2.1 dL_law_36 (by decide) ?_
    refine lv_iand S.1 S.2.1 dL_law_38 ?_
    generalize xs (4 * n) &&& 31 = z
    by_cases s_0 : z = 0
    · refine lv_tableIn (tgt := 152) S.1 S.2.1 dL_law_39 (by rw [s_0]; decide) (by rw [s_0]; decide) (by rw [s_0]; rfl) (by decide) ?_
      exact lc_hang hlf S hF hX hbl hbA hn hL G hl J hc hs KK
    by_cases s_1 : z = 1
    · refine lv_tableIn (tgt := 220) S.1 S.2.1 dL_law_39 (by rw [s_1]; decide) (by rw [s_1]; decide) (by rw [s_1]; rfl) (by decide) ?_
      exact lc_attach hlf S hF hX hbl hbA hn hL G hl J hc hs KK
    by_cases s_2 : z = 2
    · refine lv_tableIn (tgt := 288) S.1 S.2.1 dL_law_39 (by rw [s_2]; decide) (by rw [s_2]; decide) (by rw [s_2]; rfl) (by decide) ?_
      exact lc_setLoss hlf S hF hX hbl hbA hn hL G hl J hc hs KK
    by_cases s_3 : z = 3
    · refine lv_tableIn (tgt := 356) S.1 S.2.1 dL_law_39 (by rw [s_3]; decide) (by rw [s_3]; decide) (by rw [s_3]; rfl) (by decide) ?_
      exact lc_setPrice hlf S hF hX hbl hbA hn hL G hl J hc hs KK
    by_cases s_4 : z = 4
    · refine lv_tableIn (tgt := 424) S.1 S.2.1 dL_law_39 (by rw [s_4]; decide) (by rw [s_4]; decide) (by rw [s_4]; rfl) (by decide) ?_
      exact lc_topUp hlf S hF hX hbl hbA hn hL G hl J hc hs KK
    by_cases s_5 : z = 5
    · refine lv_tableIn (tgt := 492) S.1 S.2.1 dL_law_39 (by rw [s_5]; decide) (by rw [s_5]; decide) (by rw [s_5]; rfl) (by decide) ?_
      exact lc_tell hlf S hF hX hbl hbA hn hL G hl J hc hs KK
    by_cases s_6 : z = 6
    · refine lv_tableIn (tgt := 560) S.1 S.2.1 dL_law_39 (by rw [s_6]; decide) (by rw [s_6]; decide) (by rw [s_6]; rfl) (by decide) ?_
      exact lc_open hlf S hF hX hbl hbA hn hL G hl J hc hs KK
    by_cases s_7 : z = 7
    · refine lv_tableIn (tgt := 640) S.1 S.2.1 dL_law_39 (by rw [s_7]; decide) (by rw [s_7]; decide) (by rw [s_7]; rfl) (by decide) ?_
      exact lc_challenge hlf S hF hX hbl hbA hn hL G hl J hc hs KK
    by_cases s_8 : z = 8
    · refine lv_tableIn (tgt := 708) S.1 S.2.1 dL_law_39 (by rw [s_8]; decide) (by rw [s_8]; decide) (by rw [s_8]; rfl) (by decide) ?_
      exact lc_sample hlf S hF hX hbl hbA hn hL G hl J hc hs KK
    by_cases s_9 : z = 9
    · refine lv_tableIn (tgt := 788) S.1 S.2.1 dL_law_39 (by rw [s_9]; decide) (by rw [s_9]; decide) (by rw [s_9]; rfl) (by decide) ?_
      exact lc_advance hlf S hF hX hbl hbA hn hL G hl J hc hs KK
    by_cases s_10 : z = 10
    · refine lv_tableIn (tgt := 844) S.1 S.2.1 dL_law_39 (by rw [s_10]; decide) (by rw [s_10]; decide) (by rw [s_10]; rfl) (by decide) ?_
      exact lc_tick hlf S hF hX hbl hbA hn hL G hl J hc hs KK
    by_cases s_11 : z = 11
    · refine lv_tableIn (tgt := 857) S.1 S.2.1 dL_law_39 (by rw [s_11]; decide) (by rw [s_11]; decide) (by rw [s_11]; rfl) (by decide) ?_
      exact lc_readings hlf S hF hX hbl hbA hn hL G hl J hc hs KK
    by_cases s_12 : z = 12
    · refine lv_tableIn (tgt := 870) S.1 S.2.1 dL_law_39 (by rw [s_12]; decide) (by rw [s_12]; decide) (by rw [s_12]; rfl) (by decide) ?_
      exact lc_stateOf hlf S hF hX hbl hbA hn hL G hl J hc hs KK
    by_cases s_13 : z = 13
    · refine lv_tableIn (tgt := 926) S.1 S.2.1 dL_law_39 (by rw [s_13]; decide) (by rw [s_13]; decide) (by rw [s_13]; rfl) (by decide) ?_
      exact lc_parts hlf S hF hX hbl hbA hn hL G hl J hc hs KK
    by_cases s_14 : z = 14
    · refine lv_tableIn (tgt := 982) S.1 S.2.1 dL_law_39 (by rw [s_14]; decide) (by rw [s_14]; decide) (by rw [s_14]; rfl) (by decide) ?_
      exact lc_users hlf S hF hX hbl hbA hn hL G hl J hc hs KK
    by_cases s_15 : z = 15
    · refine lv_tableIn (tgt := 1038) S.1 S.2.1 dL_law_39 (by rw [s_15]; decide) (by rw [s_15]; decide) (by rw [s_15]; rfl) (by decide) ?_
      exact lc_held hlf S hF hX hbl hbA hn hL G hl J hc hs KK
    by_cases s_16 : z = 16
    · refine lv_tableIn (tgt := 1094) S.1 S.2.1 dL_law_39 (by rw [s_16]; decide) (by rw [s_16]; decide) (by rw [s_16]; rfl) (by decide) ?_
      exact lc_middle hlf S hF hX hbl hbA hn hL G hl J hc hs KK
    by_cases s_17 : z = 17
    · refine lv_tableIn (tgt := 1150) S.1 S.2.1 dL_law_39 (by rw [s_17]; decide) (by rw [s_17]; decide) (by rw [s_17]; rfl) (by decide) ?_
      exact lc_textAt hlf S hF hX hbl hbA hn hL G hl J hc hs KK
    by_cases s_18 : z = 18
    · refine lv_tableIn (tgt := 1218) S.1 S.2.1 dL_law_39 (by rw [s_18]; decide) (by rw [s_18]; decide) (by rw [s_18]; rfl) (by decide) ?_
      exact lc_bond hlf S hF hX hbl hbA hn hL G hl J hc hs KK
    by_cases s_19 : z = 19
    · refine lv_tableIn (tgt := 1274) S.1 S.2.1 dL_law_39 (by rw [s_19]; decide) (by rw [s_19]; decide) (by rw [s_19]; rfl) (by decide) ?_
      exact lc_bondByCuts hlf S hF hX hbl hbA hn hL G hl J hc hs KK
    by_cases s_20 : z = 20
    · refine lv_tableIn (tgt := 1330) S.1 S.2.1 dL_law_39 (by rw [s_20]; decide) (by rw [s_20]; decide) (by rw [s_20]; rfl) (by decide) ?_
      exact lc_earned hlf S hF hX hbl hbA hn hL G hl J hc hs KK
    by_cases s_21 : z = 21
    · refine lv_tableIn (tgt := 1386) S.1 S.2.1 dL_law_39 (by rw [s_21]; decide) (by rw [s_21]; decide) (by rw [s_21]; rfl) (by decide) ?_
      exact lc_mark hlf S hF hX hbl hbA hn hL G hl J hc hs KK
    by_cases s_22 : z = 22
    · refine lv_tableIn (tgt := 1442) S.1 S.2.1 dL_law_39 (by rw [s_22]; decide) (by rw [s_22]; decide) (by rw [s_22]; rfl) (by decide) ?_
      exact lc_purse hlf S hF hX hbl hbA hn hL G hl J hc hs KK
    by_cases s_23 : z = 23
    · refine lv_tableIn (tgt := 1498) S.1 S.2.1 dL_law_39 (by rw [s_23]; decide) (by rw [s_23]; decide) (by rw [s_23]; rfl) (by decide) ?_
      exact lc_aside hlf S hF hX hbl hbA hn hL G hl J hc hs KK
    by_cases s_24 : z = 24
    · refine lv_tableIn (tgt := 1566) S.1 S.2.1 dL_law_39 (by rw [s_24]; decide) (by rw [s_24]; decide) (by rw [s_24]; rfl) (by decide) ?_
      exact lc_house hlf S hF hX hbl hbA hn hL G hl J hc hs KK
    refine lv_tableOut (tgt := 1579) S.1 S.2.1 dL_law_39 (sw25 ⟨s_0, s_1, s_2, s_3, s_4, s_5, s_6, s_7, s_8, s_9, s_10, s_11, s_12, s_13, s_14, s_15, s_16, s_17, s_18, s_19, s_20, s_21, s_22, s_23, s_24⟩) (by decide) ?_
    refine W.widen (k := 101 + 8 * n + 8) (n := 3001 + 64 * n + 64) (by omega) (by omega) ?_
    exact KK ids ad κ H locs ls J G hl
-- ===== YOUR PART ENDS =====
set_option maxHeartbeats 4000000 in
theorem lw_walk (l : Launch) (hflags : l.flags = flags0) (b : Addr) (xs : List Int32) : MetFree l x (headSpec (Jvm.Cond.code x code maxLocals ret :: tables_1) room_1) (lw_P b xs) (fun _ _ _ _ _ => True) lw_Q := by
  refine MetFree.of_bodyS (code := code) (maxLocals := maxLocals) (ret := ret) (by decide) ?_ ?_
  · intro args s m h hn
    obtain ⟨meth, c, h1, h2, h3, h4, h5, h6, -, -⟩ := Cond.code_spec hn (atoms_spec (ws := Jvm.Cond.code x code maxLocals ret :: tables_1) h _ List.mem_cons_self)
    exact ⟨meth, c, h1, h2, h3, h4, h5, h6⟩
  · intro p e s m args below meth c s₁ B hml0 hP _
    obtain ⟨rfl, hx, hbd, hgv⟩ := hP
    obtain ⟨scr, harrAt, hlist, hof, hsmall⟩ := hx
    obtain ⟨hcb, hkn, -, -⟩ := State.arrayAt?_spec harrAt
    have hown : s.vm.findClass R_law = some m.cls := findClass_of_methodNamed B.named
    have hts0 : ∀ c ∈ (Jvm.Cond.code x code maxLocals ret :: tables_1), c.before #[Value.ref b] s = true := atoms_spec (ws := Jvm.Cond.code x code maxLocals ret :: tables_1) B.pre
    have hts : ∀ w ∈ lw_tbl, w.before #[Value.ref b] s = true := fun w hw => (List.mem_append.mp hw).elim (lw_sb_ok (fun w hw => hts0 w (List.mem_cons_of_mem _ hw)) w) (k2_hts_sels lw_privs (fun w hw => hts0 w (List.mem_cons_of_mem _ hw)) lw_privs_ok w)
    have hml : c.maxLocals = 7 := B.maxLocals_eq (hts0 _ List.mem_cons_self)
    have X₀ : Stand p l e room_1 s m #[Value.ref b] below meth c s₁ [] 0 0 := Stand.of_body B
    have hh0 : s₁.heap = s.heap := by rw [B.state]; rfl
    have hsz : scr.slots.size = xs.length := by rw [← Array.length_toList, hlist, List.length_map]
    have hval : ∀ j : Nat, j < xs.length → scr.slots[j]? = some (.int (xs.getD j 0)) := fun j hj => by
      rw [← Array.getElem?_toList, hlist]
      simp [hj]
    have hbl : b < s.heap.size := (Array.getElem?_eq_some_iff.mp hcb).1
    have hX : va_X b xs.length (fun j => xs.getD j 0) s s.heap := ⟨scr, hcb, hof, hkn, hsz, hval⟩
    have K : W p l e room_1 s m #[Value.ref b] below meth c s₁.heap [] 0 0 (lw_Z below #[Value.ref b] s) (entryFrame m ([Value.ref b] : List Value).toArray 7) := by
      rw [hh0]
      exact whole_start l hflags hbd ⟨B.exec, B.bytes, B.returns, hml, hown, hts, hX, hbl, B.notSynchronized, hgv⟩
    obtain ⟨t, a1, o, b1, b2, b3⟩ := K s₁ rfl X₀
    exact ⟨t, o, a1, b1, b2, b3⟩
theorem lw_pre_spec {args : Array Value} {s : State} (h : (Jvm.Cond.and given_1 narrow_1).before args s = true) (hr : rest_1_c.before args s = true) : ∃ (b : Addr) (xs : List Int32), lw_P b xs args s := by
  have hs := flat_of_before _ h
  have hq := flat_of_before _ hr
  have hc : (Cond.count 1).before args s = true := hs _ (by decide +kernel)
  have harr : (Cond.arrayOf (.arg 0) .int).before args s = true := hs _ (by decide +kernel)
  have hle : (Cond.le (.length (.arg 0)) (.int 2048)).before args s = true := hs _ (by decide +kernel)
  have hlen : (Cond.isInt (.length (.arg 0))).before args s = true := hq _ (by decide +kernel)
  have hall : (Cond.all (.arg 0) (.isInt (.elem (.arg 0) (.index 0)))).before args s = true := hq _ (by decide +kernel)
  obtain ⟨b, xs, hb, hx⟩ := State.ints_of_pre rfl harr hlen hall
  have hsm : xs.length < 2 ^ 31 := hx.choose_spec.2.2.2
  have hev : (Term.length (.arg 0)).eval args s none [] s = some (.int xs.length.toInt32) := hx.length_eval hb
  have hv := Cond.le_ints hev (show (Term.int 2048).eval args s none [] s = some (.int 2048) from rfl)
  have hd : xs.length.toInt32 ≤ 2048 := by
    simpa [Cond.before, Cond.holds, hv] using hle
  have hN : xs.length ≤ 2048 := (Int32.ofNat_le_ofNat hsm (by decide)).mp (show Int32.ofNat xs.length ≤ Int32.ofNat 2048 from hd)
  exact ⟨b, xs, Cond.one_arg hc (show args[0]? = some (.ref b) from hb), hx, hN, h⟩
theorem lw_comes (l : Launch) (hflags : l.flags = flags0) : Comes l x (Jvm.Cond.code x code maxLocals ret :: tables_1) room_1 (fun tb e args s => Calls_1 tb e args s ∧ rest_1 tb e args s ∧ Pre_1 tb e args s)
    (fun _ _ args s o t => lw_Q args s o t) := by
  intro p e ha hc hk s m args below hf hfit hheap happ hpre
  obtain ⟨b, xs, hP⟩ := lw_pre_spec hpre.2.2 hpre.2.1
  obtain ⟨k, o, h1, h2, h3, hQ⟩ := lw_walk l hflags b xs p e ha hc hk s m args below hf ((Spec.applies_iff_loose hf).mp happ).1 hP trivial
  exact ⟨k, o, h1, h2, h3, hQ⟩
theorem lw_frame {s t : State} {o : Outcome} {args : Array Value} (h : Framed s o t [] 601024 7293034) :
    Framed s o t (fieldLocs frame_1_writes args s ++ arrayLocs frame_1_arrays args s ++ staticLocs frame_1_statics s) 601024 7293034 := h
theorem lw_limb (L : Cond) (hL : ∀ (args : Array Value) (s t : State), L.after args s (.returned (some (.int 1))) t = true) :
    ArmFor flags0 classFile x code maxLocals ret World_1 tables_1 room_1 Calls_1 rest_1 Pre_1
      (fun tb e a s o t => postC L tb e a s o t ∧ Framed s o t (fieldLocs frame_1_writes a s ++ arrayLocs frame_1_arrays a s ++ staticLocs frame_1_statics s) 601024 7293034) := by
  intro l hflags _ _ p e ha hc hk s m args below hf hfit hheap happ hpre
  obtain ⟨k, o, h1, h2, h3, rfl, hF⟩ := lw_comes l hflags p e ha hc hk s m args below hf hfit hheap happ hpre
  exact ⟨k, _, h1, h2, h3, hL args s _, lw_frame hF⟩
theorem i_vc : Claimed_1_1 ∧ Claimed_1_2 := ⟨lw_limb limb_1_1 (fun args s t => by simp [limb_1_1, Cond.after, Cond.holds, Cond.value]), lw_limb limb_1_2 (fun args s t => Cond.after_iff.mpr (by
  first | (rw [show limb_1_2 = Cond.eq .result (.int 1) from rfl, Cond.eq_ints (x := 1) (y := 1) rfl rfl]; simp; done) | (simp [limb_1_2, Cond.value, Term.eval]; done)))⟩
