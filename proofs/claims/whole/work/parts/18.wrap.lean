/-! ===== the law's own small methods: a call, and what it throws as a number ===== -/
theorem g_ofH {l : Launch} {y : MethodName} {ws ws' : List Cond} {rm : Room} {args : List Value} {σ : GSt} {Qc : Array Value → State → Outcome → State → Prop} {mc ms : Nat} {D : va_G} {aC : Nat → ClassId} {A : Nat → Prop} {cc : ByteArray} {maxL : Nat} {ret : Option FieldType} {hh : List (Nat × Nat × Nat × Nat)}
    (hy : plainName y.cls = true) (hw : ws = Cond.codeWith y cc maxL ret hh :: ws') (hlen : (lg_sl args).length ≤ maxL)
    (body : ∀ (p : Program) (e : Env) (s : State) (m : MethodId) (below : List Frame) (meth : Method) (c : Code) (ls : Array Slot), CallFix p m c cc maxL s args.toArray ws y.cls → gS D aC A s σ.1 σ.2.1 σ.2.2 s.heap [] → gF A s s.heap → meth.sig.returnType = ret → meth.locks = false → c.exceptionTable.toList = tableOf hh → lv_has ls maxL (lv_args 0 args) →
      W p l e (headSpec ws rm).room s m args.toArray below meth c s.heap [] 0 0 (MQ below Qc args.toArray s mc ms A) (F0 m 0 ls [])) : Met l y ws rm (va_Pc args (gU D aC A σ)) Qc mc ms A := by
  refine MetFree.of_bodyS (code := cc) (maxLocals := maxL) (ret := ret) hy ?_ ?_
  · intro args s m h hn
    obtain ⟨m9, meth, c, hn9, h1, h2, h3, h4, -, h5, h6, -⟩ := Cond.codeWith_spec (atoms_spec (ws := ws) h _ (by rw [hw]; exact List.mem_cons_self))
    cases hn.symm.trans hn9
    exact ⟨meth, c, h1, h2, h3, h4, h5, h6⟩
  · intro p e s m args' below meth c s₁ B hml hv _
    obtain ⟨rfl, hP, hD, hK, hA, hF⟩ := hv
    have hh0 : s₁.heap = s.heap := by rw [B.state]; rfl
    have htb := vx_table (x := y) (hh := hh) (bytes := cc) (maxL' := maxL) (ret' := ret) B (atoms_spec (ws := ws) B.pre _ (by rw [hw]; exact List.mem_cons_self))
    obtain ⟨t, a1, o, b1, b2, b3⟩ := (by
      rw [lg_entry_eq]
      exact body p e s m below meth c _ ⟨B.exec, B.bytes, hml, findClass_of_methodNamed B.named, atoms_spec (ws := ws) B.pre⟩ ⟨hP, hD, hK, va_S.rf, hA⟩ hF B.returns B.notSynchronized htb (lv_entry args hlen) : W p l e (headSpec ws rm).room s m args.toArray below meth c s.heap [] 0 0 (MQ below Qc args.toArray s mc ms A) (entryFrame m args.toArray maxL)) s₁ hh0 (Stand.of_body B)
    exact ⟨t, o, a1, b1, b2, ⟨b3.1, b3.2⟩⟩
section GLC
variable {p : Program} {l : Launch} {e : Env} {R : Room} {s : State} {m : MethodId} {args : Array Value} {below : List Frame} {meth : Method} {c : Code} {H : Heap} {locs : List Loc} {cells slots : Nat} {Q : State → Prop}
variable {cc bytes : ByteArray} {pc nL maxL index n mc ms : Nat} {ls : Array Slot} {rest st0 As : List Value} {lv : List (Nat × Value)} {Ts ws : List Cond} {own : String} {y : MethodName} {ret : Option FieldType} {rm : Room}
variable {D : va_G} {aC : Nat → ClassId} {A : Nat → Prop} {ids : gIds} {ad : gAd} {π : gMem}
theorem g_catch (S : CallFix p m c cc nL s args Ts own) (hF : gF A s s.heap) {E : String} {ce : Cell} {q : Addr} (pre : List ExceptionTableEntry) (x : ExceptionTableEntry) (suf : List ExceptionTableEntry) (htab : c.exceptionTable.toList = pre ++ x :: suf)
    (hpass : ∀ z ∈ pre, z.catchType ≠ 0 ∧ ∃ nm : String, Cond.classLink own z.catchType nm ∈ Ts ∧ (E, nm) ∈ gNX) (hx : covers x pc = true) (h0 : x.catchType ≠ 0) (hlk : Cond.classLink own x.catchType E ∈ Ts) (hc : (E, E) ∈ gNC) (h1 : H[q]? = some ce) (h2 : ce.vm = .none) (h3 : s.vm.findClass E = some ce.cls)
    (kk : W p l e R s m args below meth c H locs cells slots Q (F0 m x.handlerPc ls [.ref q])) : vx_W p l e R s m args below meth c H locs cells slots Q (F0 m pc ls rest) q :=
  vx_catch S.2.2.2.1 pre x suf htab (fun z hz => Or.inr ⟨(hpass z hz).1, (hpass z hz).2.imp fun nm h => ⟨S.2.2.2.2 _ h.1, hF.2.2.2.2.1 _ h.2⟩⟩) hx h0 (S.2.2.2.2 _ hlk) (va_Nw.use rfl (hF.2.2.1 _ hc)) h1 h2 h3 kk
theorem g_cSWi {hh : List (Nat × Nat × Nat × Nat)} (S : CallFix p m c cc nL s args Ts own) (G : gS D aC A s ids ad π H locs) (hF : gF A s s.heap) (hl : lv_has ls nL lv) {post : Int32 → GSt → Prop} (hM : gMi l y ws rm mc ms As (ids, ad, π) post) (cw : vx_CSW R s args own index y bytes maxL ret hh ws rm mc ms n) (hn : As.length = n) (hst : st0 = As.reverse ++ rest) (hroom : (rest.map fun v => v.category).sum ≤ 8) (hdg : decode cc pc = .ok (.invokestatic index, 3)) (hfit : cells + mc ≤ R.cells ∧ slots + ms ≤ R.slots)
    (kk : ∀ (r : Int32) (u : GSt) (H1 : Heap) (locs1 : List Loc), post r u → gS D aC A s u.1 u.2.1 u.2.2 H1 locs1 → W p l e R s m args below meth c H1 locs1 (cells + mc) (slots + ms) Q (F0 m (pc + 3) ls (.int r :: rest))) : W p l e R s m args below meth c H locs cells slots Q (F0 m pc ls st0) :=
  g_behi G (vx_runSW S (hM D aC A) cw (gPreS G hF) rfl hn hl.1 hst (lv_room hroom) hdg hfit) kk
end GLC
theorem i32_b1 {x : Int32} (h : x = 1) : ¬ x = 0 := by rw [h]; decide
theorem i32_b2 {x : Int32} (h : x = 2) : ¬ x = 0 := by rw [h]; decide
theorem i32_b3 {x : Int32} (h : x = 3) : ¬ x = 0 := by rw [h]; decide
def cdC (t : Int32) : Int32 := if t = 3 then 2 else t
def cdA (t : Int32) : Int32 := if t = 3 then 2 else 1
theorem sHangT_n2 {a b : Int32} (h : sHangT a b = 2) : False := by
  unfold sHangT at h
  repeat' (split at h)
  all_goals exact absurd h (by decide)
theorem sHangT_n3 {a b : Int32} (h : sHangT a b = 3) : False := by
  unfold sHangT at h
  repeat' (split at h)
  all_goals exact absurd h (by decide)
theorem mAttachT_n2 {a b : Int32} (h : mAttachT a b = 2) : False := by
  unfold mAttachT at h
  repeat' (split at h)
  all_goals exact absurd h (by decide)
theorem mAttachT_n3 {a b : Int32} (h : mAttachT a b = 3) : False := by
  unfold mAttachT at h
  repeat' (split at h)
  all_goals exact absurd h (by decide)
theorem mSetLossT_n3 {a b : Int32} (h : mSetLossT a b = 3) : False := by
  unfold mSetLossT at h
  repeat' (split at h)
  all_goals exact absurd h (by decide)
theorem mSetPriceT_n3 {a b : Int32} (h : mSetPriceT a b = 3) : False := by
  unfold mSetPriceT at h
  repeat' (split at h)
  all_goals exact absurd h (by decide)
theorem sChallengeT_n2 {κ : gMem} {a b : Int32} (h : sChallengeT κ a b = 2) : False := by
  unfold sChallengeT at h
  repeat' (split at h)
  all_goals exact absurd h (by decide)
theorem sAdvT_n1 {κ : gMem} {a : Int32} (h : sAdvT κ a = 1) : False := by
  unfold sAdvT at h
  repeat' (split at h)
  all_goals exact absurd h (by decide)
theorem sRdT_n2 {κ : gMem} {a : Int32} (h : sRdT κ a = 2) : False := by
  unfold sRdT at h
  repeat' (split at h)
  all_goals exact absurd h (by decide)
theorem sRdT_n3 {κ : gMem} {a : Int32} (h : sRdT κ a = 3) : False := by
  unfold sRdT at h
  repeat' (split at h)
  all_goals exact absurd h (by decide)
theorem sTextT_n2 {κ : gMem} {a b : Int32} (h : sTextT κ a b = 2) : False := by
  unfold sTextT at h
  repeat' (split at h)
  all_goals exact absurd h (by decide)
theorem sTextT_n3 {κ : gMem} {a b : Int32} (h : sTextT κ a b = 3) : False := by
  unfold sTextT at h
  repeat' (split at h)
  all_goals exact absurd h (by decide)
theorem mOneT_n2 {a b : Int32} (h : mOneT a b = 2) : False := by
  unfold mOneT at h
  repeat' (split at h)
  all_goals exact absurd h (by decide)
theorem mOneT_n3 {a b : Int32} (h : mOneT a b = 3) : False := by
  unfold mOneT at h
  repeat' (split at h)
  all_goals exact absurd h (by decide)
theorem mAsideT_n2 {a b : Int32} (h : mAsideT a b = 2) : False := by
  unfold mAsideT at h
  repeat' (split at h)
  all_goals exact absurd h (by decide)
theorem mAsideT_n3 {a b : Int32} (h : mAsideT a b = 3) : False := by
  unfold mAsideT at h
  repeat' (split at h)
  all_goals exact absurd h (by decide)
set_option maxHeartbeats 4000000 in
set_option maxRecDepth 100000 in
theorem c_L_hang (l : Launch) (hlf : l.stackTraces = false) (ids : gIds) (ad : gAd) (κ : gMem) (a b : Int32) (hV : cV ids) (hW : cWF ids κ) (h18 : (18, 0) ∈ ids) : gMi l yL_hang wsL_hang ({ frames := 8, cells := 8, slots := 64, locals := 136 } : Room) 8 64 [.ref (ad 7 0), .int a, .int b, .ref (ad 18 0)] (ids, ad, gk κ) (fun k u => (sHangT a b = 0 ∧ k = 0 ∧ u = (ids, ad, gk (upd3 (upd3 κ 4 (tN a) 1 (nI (tN b))) 18 0 0 (nI (tN (κ 4 (tN a) 1)))))) ∨ (¬ sHangT a b = 0 ∧ k = sHangT a b ∧ u = (ids, ad, gk κ))) := by
  intro D aC A
  refine g_ofH (cc := cL_hang) (maxL := 5) (ret := (some .int)) (hh := [(0, 10, 13, 13)]) (by decide +kernel) rfl (Nat.le_of_ble_eq_true rfl) ?_
  intro p e s m below meth c ls S G hF hr hlk htab hl
  have hl : lv_has ls 5 [(0, _), (1, _), (2, _), (3, _)] := hl
  refine lv_aload_n S.1 S.2.1 dL_hang_0 rfl (lv_at hl 3 rfl) ?_
  refine lv_iconst (v := 0) S.1 S.2.1 dL_hang_1 (by decide) ?_
  refine lv_aload_n S.1 S.2.1 dL_hang_2 rfl (lv_at hl 0 rfl) ?_
  refine lv_iload_n S.1 S.2.1 dL_hang_3 rfl (lv_at hl 1 rfl) ?_
  refine lv_iload_n S.1 S.2.1 dL_hang_4 rfl (lv_at hl 2 rfl) ?_
  refine gx_cVi S G hF hl 7 (hV 7 0 (by decide)) (by decide) (c_X6_hang l hlf ids ad _ _ _ hV hW) (cwV 2 S.2.2.2.2 gL_hang_X6_hang rfl rfl rfl (by decide +kernel) ⟨Nat.le_of_ble_eq_true rfl, Nat.le_of_ble_eq_true rfl⟩) rfl rfl (Nat.le_of_ble_eq_true rfl) dL_hang_5 ⟨Nat.le_of_ble_eq_true rfl, Nat.le_of_ble_eq_true rfl⟩ ?_ ?_
  · intro E ce q9 u H1 locs1 hp G h1 h2 h3
    obtain ⟨hxe, rfl⟩ := hp
    have G : gS D aC A s ids ad (gk κ) H1 locs1 := G
    rcases hxe with ⟨rfl, hT⟩ | ⟨rfl, hT⟩ | ⟨rfl, hT⟩
    · refine g_catch (cc := cL_hang) S hF ([] : List ExceptionTableEntry) ⟨0, 10, 13, 13⟩ [] htab (fun z hz => absurd hz List.not_mem_nil) rfl (by decide) (by decide +kernel) (by decide) h1 h2 h3 ?_
      refine lv_astore (lv' := [(4, _), (0, _), (1, _), (2, _), (3, _)]) S.1 S.2.1 dL_hang_13 hl (by decide) rfl (fun ls hl => ?_)
      refine lv_iconst (v := 1) S.1 S.2.1 dL_hang_15 (by decide) ?_
      exact g_iret S G hr hlk (Or.inr ⟨i32_b1 hT, hT.symm, rfl⟩) (Nat.le_of_ble_eq_true rfl) (Nat.le_of_ble_eq_true rfl) dL_hang_16
    · exact (sHangT_n2 hT).elim
    · exact (sHangT_n3 hT).elim
  · intro r u H locs hp G
    obtain ⟨hT, rfl, rfl⟩ := hp
    have G : gS D aC A s _ _ (gk (upd3 κ 4 (tN a) 1 (nI (tN b)))) H locs := G
    refine lv_i2l S.1 S.2.1 dL_hang_8 rfl ?_
    refine k_last (j := 0) S G 18 h18 rfl rfl rfl rfl (by decide) dL_hang_9 (fun H locs G => ?_)
    refine lv_goto (tgt := 17) S.1 S.2.1 dL_hang_10 (by decide) ?_
    refine lv_iconst (v := 0) S.1 S.2.1 dL_hang_17 (by decide) ?_
    exact g_iret S G hr hlk (Or.inl ⟨hT, rfl, rfl⟩) (Nat.le_of_ble_eq_true rfl) (Nat.le_of_ble_eq_true rfl) dL_hang_18
set_option maxHeartbeats 4000000 in
set_option maxRecDepth 100000 in
theorem c_L_attach (l : Launch) (hlf : l.stackTraces = false) (ids : gIds) (ad : gAd) (κ : gMem) (a b : Int32) (hV : cV ids) (hW : cWF ids κ) (h18 : (18, 0) ∈ ids) : gMi l yL_attach wsL_attach ({ frames := 8, cells := 8, slots := 64, locals := 136 } : Room) 8 64 [.ref (ad 7 0), .int a, .int b, .ref (ad 18 0)] (ids, ad, gk κ) (fun k u => (mAttachT a b = 0 ∧ k = 0 ∧ u = (ids, ad, gk (upd3 (upd3 κ 5 (tN a) 1 (nI (tN b))) 18 0 0 (nI (tN (κ 5 (tN a) 1)))))) ∨ (¬ mAttachT a b = 0 ∧ k = mAttachT a b ∧ u = (ids, ad, gk κ))) := by
  intro D aC A
  refine g_ofH (cc := cL_attach) (maxL := 5) (ret := (some .int)) (hh := [(0, 10, 13, 13)]) (by decide +kernel) rfl (Nat.le_of_ble_eq_true rfl) ?_
  intro p e s m below meth c ls S G hF hr hlk htab hl
  have hl : lv_has ls 5 [(0, _), (1, _), (2, _), (3, _)] := hl
  refine lv_aload_n S.1 S.2.1 dL_attach_0 rfl (lv_at hl 3 rfl) ?_
  refine lv_iconst (v := 0) S.1 S.2.1 dL_attach_1 (by decide) ?_
  refine lv_aload_n S.1 S.2.1 dL_attach_2 rfl (lv_at hl 0 rfl) ?_
  refine lv_iload_n S.1 S.2.1 dL_attach_3 rfl (lv_at hl 1 rfl) ?_
  refine lv_iload_n S.1 S.2.1 dL_attach_4 rfl (lv_at hl 2 rfl) ?_
  refine gx_cVi S G hF hl 7 (hV 7 0 (by decide)) (by decide) (c_X6_attach l hlf ids ad _ _ _ hV hW) (cwV 2 S.2.2.2.2 gL_attach_X6_attach rfl rfl rfl (by decide +kernel) ⟨Nat.le_of_ble_eq_true rfl, Nat.le_of_ble_eq_true rfl⟩) rfl rfl (Nat.le_of_ble_eq_true rfl) dL_attach_5 ⟨Nat.le_of_ble_eq_true rfl, Nat.le_of_ble_eq_true rfl⟩ ?_ ?_
  · intro E ce q9 u H1 locs1 hp G h1 h2 h3
    obtain ⟨hxe, rfl⟩ := hp
    have G : gS D aC A s ids ad (gk κ) H1 locs1 := G
    rcases hxe with ⟨rfl, hT⟩ | ⟨rfl, hT⟩ | ⟨rfl, hT⟩
    · refine g_catch (cc := cL_attach) S hF ([] : List ExceptionTableEntry) ⟨0, 10, 13, 13⟩ [] htab (fun z hz => absurd hz List.not_mem_nil) rfl (by decide) (by decide +kernel) (by decide) h1 h2 h3 ?_
      refine lv_astore (lv' := [(4, _), (0, _), (1, _), (2, _), (3, _)]) S.1 S.2.1 dL_attach_13 hl (by decide) rfl (fun ls hl => ?_)
      refine lv_iconst (v := 1) S.1 S.2.1 dL_attach_15 (by decide) ?_
      exact g_iret S G hr hlk (Or.inr ⟨i32_b1 hT, hT.symm, rfl⟩) (Nat.le_of_ble_eq_true rfl) (Nat.le_of_ble_eq_true rfl) dL_attach_16
    · exact (mAttachT_n2 hT).elim
    · exact (mAttachT_n3 hT).elim
  · intro r u H locs hp G
    obtain ⟨hT, rfl, rfl⟩ := hp
    have G : gS D aC A s _ _ (gk (upd3 κ 5 (tN a) 1 (nI (tN b)))) H locs := G
    refine lv_i2l S.1 S.2.1 dL_attach_8 rfl ?_
    refine k_last (j := 0) S G 18 h18 rfl rfl rfl rfl (by decide) dL_attach_9 (fun H locs G => ?_)
    refine lv_goto (tgt := 17) S.1 S.2.1 dL_attach_10 (by decide) ?_
    refine lv_iconst (v := 0) S.1 S.2.1 dL_attach_17 (by decide) ?_
    exact g_iret S G hr hlk (Or.inl ⟨hT, rfl, rfl⟩) (Nat.le_of_ble_eq_true rfl) (Nat.le_of_ble_eq_true rfl) dL_attach_18
set_option maxHeartbeats 4000000 in
set_option maxRecDepth 100000 in
theorem c_L_setLoss (l : Launch) (hlf : l.stackTraces = false) (ids : gIds) (ad : gAd) (κ : gMem) (a b : Int32) (hV : cV ids) (h18 : (18, 0) ∈ ids) : gMi l yL_setLoss wsL_setLoss ({ frames := 8, cells := 8, slots := 64, locals := 136 } : Room) 8 64 [.ref (ad 7 0), .int a, .int b, .ref (ad 18 0)] (ids, ad, gk κ) (fun k u => (mSetLossT a b = 0 ∧ k = 0 ∧ u = (ids, ad, gk (upd3 (sSetLossK κ (tN a) b) 18 0 0 (sLost κ (tN a))))) ∨ (¬ mSetLossT a b = 0 ∧ k = mSetLossT a b ∧ u = (ids, ad, gk κ))) := by
  intro D aC A
  refine g_ofH (cc := cL_setLoss) (maxL := 5) (ret := (some .int)) (hh := [(0, 10, 13, 13), (0, 10, 17, 21)]) (by decide +kernel) rfl (Nat.le_of_ble_eq_true rfl) ?_
  intro p e s m below meth c ls S G hF hr hlk htab hl
  have hl : lv_has ls 5 [(0, _), (1, _), (2, _), (3, _)] := hl
  refine lv_aload_n S.1 S.2.1 dL_setLoss_0 rfl (lv_at hl 3 rfl) ?_
  refine lv_iconst (v := 0) S.1 S.2.1 dL_setLoss_1 (by decide) ?_
  refine lv_aload_n S.1 S.2.1 dL_setLoss_2 rfl (lv_at hl 0 rfl) ?_
  refine lv_iload_n S.1 S.2.1 dL_setLoss_3 rfl (lv_at hl 1 rfl) ?_
  refine lv_iload_n S.1 S.2.1 dL_setLoss_4 rfl (lv_at hl 2 rfl) ?_
  refine gx_cVi S G hF hl 7 (hV 7 0 (by decide)) (by decide) (c_X6_setLoss l hlf ids ad _ _ _ hV) (cwV 2 S.2.2.2.2 gL_setLoss_X6_setLoss rfl rfl rfl (by decide +kernel) ⟨Nat.le_of_ble_eq_true rfl, Nat.le_of_ble_eq_true rfl⟩) rfl rfl (Nat.le_of_ble_eq_true rfl) dL_setLoss_5 ⟨Nat.le_of_ble_eq_true rfl, Nat.le_of_ble_eq_true rfl⟩ ?_ ?_
  · intro E ce q9 u H1 locs1 hp G h1 h2 h3
    obtain ⟨hxe, rfl⟩ := hp
    have G : gS D aC A s ids ad (gk κ) H1 locs1 := G
    rcases hxe with ⟨rfl, hT⟩ | ⟨rfl, hT⟩ | ⟨rfl, hT⟩
    · refine g_catch (cc := cL_setLoss) S hF ([] : List ExceptionTableEntry) ⟨0, 10, 13, 13⟩ [⟨0, 10, 17, 21⟩] htab (fun z hz => absurd hz List.not_mem_nil) rfl (by decide) (by decide +kernel) (by decide) h1 h2 h3 ?_
      refine lv_astore (lv' := [(4, _), (0, _), (1, _), (2, _), (3, _)]) S.1 S.2.1 dL_setLoss_13 hl (by decide) rfl (fun ls hl => ?_)
      refine lv_iconst (v := 1) S.1 S.2.1 dL_setLoss_15 (by decide) ?_
      exact g_iret S G hr hlk (Or.inr ⟨i32_b1 hT, hT.symm, rfl⟩) (Nat.le_of_ble_eq_true rfl) (Nat.le_of_ble_eq_true rfl) dL_setLoss_16
    · refine g_catch (cc := cL_setLoss) S hF ([⟨0, 10, 13, 13⟩] : List ExceptionTableEntry) ⟨0, 10, 17, 21⟩ [] htab (fun z hz => by
      rcases (show z = (⟨0, 10, 13, 13⟩ : ExceptionTableEntry) by simpa using hz) with rfl
      · exact ⟨by decide, "java/lang/IndexOutOfBoundsException", by decide +kernel, by decide⟩) rfl (by decide) (by decide +kernel) (by decide) h1 h2 h3 ?_
      refine lv_astore (lv' := [(4, _), (0, _), (1, _), (2, _), (3, _)]) S.1 S.2.1 dL_setLoss_17 hl (by decide) rfl (fun ls hl => ?_)
      refine lv_iconst (v := 2) S.1 S.2.1 dL_setLoss_19 (by decide) ?_
      exact g_iret S G hr hlk (Or.inr ⟨i32_b2 hT, hT.symm, rfl⟩) (Nat.le_of_ble_eq_true rfl) (Nat.le_of_ble_eq_true rfl) dL_setLoss_20
    · exact (mSetLossT_n3 hT).elim
  · intro r u H locs hp G
    obtain ⟨hT, rfl, rfl⟩ := hp
    have G : gS D aC A s _ _ (gk (sSetLossK κ (tN a) b)) H locs := G
    refine lv_i2l S.1 S.2.1 dL_setLoss_8 rfl ?_
    refine k_last (j := 0) S G 18 h18 rfl rfl rfl rfl (by decide) dL_setLoss_9 (fun H locs G => ?_)
    refine lv_goto (tgt := 21) S.1 S.2.1 dL_setLoss_10 (by decide) ?_
    refine lv_iconst (v := 0) S.1 S.2.1 dL_setLoss_21 (by decide) ?_
    exact g_iret S G hr hlk (Or.inl ⟨hT, rfl, rfl⟩) (Nat.le_of_ble_eq_true rfl) (Nat.le_of_ble_eq_true rfl) dL_setLoss_22
set_option maxHeartbeats 4000000 in
set_option maxRecDepth 100000 in
theorem c_L_setPrice (l : Launch) (hlf : l.stackTraces = false) (ids : gIds) (ad : gAd) (κ : gMem) (a b : Int32) (hV : cV ids) (h18 : (18, 0) ∈ ids) : gMi l yL_setPrice wsL_setPrice ({ frames := 8, cells := 8, slots := 64, locals := 136 } : Room) 8 64 [.ref (ad 7 0), .int a, .int b, .ref (ad 18 0)] (ids, ad, gk κ) (fun k u => (mSetPriceT a b = 0 ∧ k = 0 ∧ u = (ids, ad, gk (upd3 (upd3 κ 5 (tN a) 2 b) 18 0 0 (κ 5 (tN a) 2)))) ∨ (¬ mSetPriceT a b = 0 ∧ k = mSetPriceT a b ∧ u = (ids, ad, gk κ))) := by
  intro D aC A
  refine g_ofH (cc := cL_setPrice) (maxL := 5) (ret := (some .int)) (hh := [(0, 10, 13, 13), (0, 10, 17, 21)]) (by decide +kernel) rfl (Nat.le_of_ble_eq_true rfl) ?_
  intro p e s m below meth c ls S G hF hr hlk htab hl
  have hl : lv_has ls 5 [(0, _), (1, _), (2, _), (3, _)] := hl
  refine lv_aload_n S.1 S.2.1 dL_setPrice_0 rfl (lv_at hl 3 rfl) ?_
  refine lv_iconst (v := 0) S.1 S.2.1 dL_setPrice_1 (by decide) ?_
  refine lv_aload_n S.1 S.2.1 dL_setPrice_2 rfl (lv_at hl 0 rfl) ?_
  refine lv_iload_n S.1 S.2.1 dL_setPrice_3 rfl (lv_at hl 1 rfl) ?_
  refine lv_iload_n S.1 S.2.1 dL_setPrice_4 rfl (lv_at hl 2 rfl) ?_
  refine gx_cVi S G hF hl 7 (hV 7 0 (by decide)) (by decide) (c_X6_setPrice l hlf ids ad _ _ _ hV) (cwV 2 S.2.2.2.2 gL_setPrice_X6_setPrice rfl rfl rfl (by decide +kernel) ⟨Nat.le_of_ble_eq_true rfl, Nat.le_of_ble_eq_true rfl⟩) rfl rfl (Nat.le_of_ble_eq_true rfl) dL_setPrice_5 ⟨Nat.le_of_ble_eq_true rfl, Nat.le_of_ble_eq_true rfl⟩ ?_ ?_
  · intro E ce q9 u H1 locs1 hp G h1 h2 h3
    obtain ⟨hxe, rfl⟩ := hp
    have G : gS D aC A s ids ad (gk κ) H1 locs1 := G
    rcases hxe with ⟨rfl, hT⟩ | ⟨rfl, hT⟩ | ⟨rfl, hT⟩
    · refine g_catch (cc := cL_setPrice) S hF ([] : List ExceptionTableEntry) ⟨0, 10, 13, 13⟩ [⟨0, 10, 17, 21⟩] htab (fun z hz => absurd hz List.not_mem_nil) rfl (by decide) (by decide +kernel) (by decide) h1 h2 h3 ?_
      refine lv_astore (lv' := [(4, _), (0, _), (1, _), (2, _), (3, _)]) S.1 S.2.1 dL_setPrice_13 hl (by decide) rfl (fun ls hl => ?_)
      refine lv_iconst (v := 1) S.1 S.2.1 dL_setPrice_15 (by decide) ?_
      exact g_iret S G hr hlk (Or.inr ⟨i32_b1 hT, hT.symm, rfl⟩) (Nat.le_of_ble_eq_true rfl) (Nat.le_of_ble_eq_true rfl) dL_setPrice_16
    · refine g_catch (cc := cL_setPrice) S hF ([⟨0, 10, 13, 13⟩] : List ExceptionTableEntry) ⟨0, 10, 17, 21⟩ [] htab (fun z hz => by
      rcases (show z = (⟨0, 10, 13, 13⟩ : ExceptionTableEntry) by simpa using hz) with rfl
      · exact ⟨by decide, "java/lang/IndexOutOfBoundsException", by decide +kernel, by decide⟩) rfl (by decide) (by decide +kernel) (by decide) h1 h2 h3 ?_
      refine lv_astore (lv' := [(4, _), (0, _), (1, _), (2, _), (3, _)]) S.1 S.2.1 dL_setPrice_17 hl (by decide) rfl (fun ls hl => ?_)
      refine lv_iconst (v := 2) S.1 S.2.1 dL_setPrice_19 (by decide) ?_
      exact g_iret S G hr hlk (Or.inr ⟨i32_b2 hT, hT.symm, rfl⟩) (Nat.le_of_ble_eq_true rfl) (Nat.le_of_ble_eq_true rfl) dL_setPrice_20
    · exact (mSetPriceT_n3 hT).elim
  · intro r u H locs hp G
    obtain ⟨hT, rfl, rfl⟩ := hp
    have G : gS D aC A s _ _ (gk (upd3 κ 5 (tN a) 2 b)) H locs := G
    refine lv_i2l S.1 S.2.1 dL_setPrice_8 rfl ?_
    refine k_last (j := 0) S G 18 h18 rfl rfl rfl rfl (by decide) dL_setPrice_9 (fun H locs G => ?_)
    refine lv_goto (tgt := 21) S.1 S.2.1 dL_setPrice_10 (by decide) ?_
    refine lv_iconst (v := 0) S.1 S.2.1 dL_setPrice_21 (by decide) ?_
    exact g_iret S G hr hlk (Or.inl ⟨hT, rfl, rfl⟩) (Nat.le_of_ble_eq_true rfl) (Nat.le_of_ble_eq_true rfl) dL_setPrice_22
set_option maxHeartbeats 4000000 in
set_option maxRecDepth 100000 in
theorem c_L_topUp (l : Launch) (hlf : l.stackTraces = false) (ids : gIds) (ad : gAd) (κ : gMem) (a b : Int32) (hV : cV ids) (h18 : (18, 0) ∈ ids) : gMi l yL_topUp wsL_topUp ({ frames := 8, cells := 8, slots := 64, locals := 134 } : Room) 8 64 [.ref (ad 7 0), .int a, .int b, .ref (ad 18 0)] (ids, ad, gk κ) (fun k u => (sTopUpT κ a b = 0 ∧ k = 0 ∧ u = (ids, ad, gk (upd3 (sTopUpK κ (tN a) b) 18 0 0 (sTopUpK κ (tN a) b 5 (tN a) 3)))) ∨ (¬ sTopUpT κ a b = 0 ∧ k = sTopUpT κ a b ∧ u = (ids, ad, gk κ))) := by
  intro D aC A
  refine g_ofH (cc := cL_topUp) (maxL := 5) (ret := (some .int)) (hh := [(0, 10, 13, 13), (0, 10, 17, 21), (0, 10, 21, 29)]) (by decide +kernel) rfl (Nat.le_of_ble_eq_true rfl) ?_
  intro p e s m below meth c ls S G hF hr hlk htab hl
  have hl : lv_has ls 5 [(0, _), (1, _), (2, _), (3, _)] := hl
  refine lv_aload_n S.1 S.2.1 dL_topUp_0 rfl (lv_at hl 3 rfl) ?_
  refine lv_iconst (v := 0) S.1 S.2.1 dL_topUp_1 (by decide) ?_
  refine lv_aload_n S.1 S.2.1 dL_topUp_2 rfl (lv_at hl 0 rfl) ?_
  refine lv_iload_n S.1 S.2.1 dL_topUp_3 rfl (lv_at hl 1 rfl) ?_
  refine lv_iload_n S.1 S.2.1 dL_topUp_4 rfl (lv_at hl 2 rfl) ?_
  refine gx_cVi S G hF hl 7 (hV 7 0 (by decide)) (by decide) (c_X6_topUp l hlf ids ad _ _ _ hV) (cwV 2 S.2.2.2.2 gL_topUp_X6_topUp rfl rfl rfl (by decide +kernel) ⟨Nat.le_of_ble_eq_true rfl, Nat.le_of_ble_eq_true rfl⟩) rfl rfl (Nat.le_of_ble_eq_true rfl) dL_topUp_5 ⟨Nat.le_of_ble_eq_true rfl, Nat.le_of_ble_eq_true rfl⟩ ?_ ?_
  · intro E ce q9 u H1 locs1 hp G h1 h2 h3
    obtain ⟨hxe, rfl⟩ := hp
    have G : gS D aC A s ids ad (gk κ) H1 locs1 := G
    rcases hxe with ⟨rfl, hT⟩ | ⟨rfl, hT⟩ | ⟨rfl, hT⟩
    · refine g_catch (cc := cL_topUp) S hF ([] : List ExceptionTableEntry) ⟨0, 10, 13, 13⟩ [⟨0, 10, 17, 21⟩, ⟨0, 10, 21, 29⟩] htab (fun z hz => absurd hz List.not_mem_nil) rfl (by decide) (by decide +kernel) (by decide) h1 h2 h3 ?_
      refine lv_astore (lv' := [(4, _), (0, _), (1, _), (2, _), (3, _)]) S.1 S.2.1 dL_topUp_13 hl (by decide) rfl (fun ls hl => ?_)
      refine lv_iconst (v := 1) S.1 S.2.1 dL_topUp_15 (by decide) ?_
      exact g_iret S G hr hlk (Or.inr ⟨i32_b1 hT, hT.symm, rfl⟩) (Nat.le_of_ble_eq_true rfl) (Nat.le_of_ble_eq_true rfl) dL_topUp_16
    · refine g_catch (cc := cL_topUp) S hF ([⟨0, 10, 13, 13⟩] : List ExceptionTableEntry) ⟨0, 10, 17, 21⟩ [⟨0, 10, 21, 29⟩] htab (fun z hz => by
      rcases (show z = (⟨0, 10, 13, 13⟩ : ExceptionTableEntry) by simpa using hz) with rfl
      · exact ⟨by decide, "java/lang/IndexOutOfBoundsException", by decide +kernel, by decide⟩) rfl (by decide) (by decide +kernel) (by decide) h1 h2 h3 ?_
      refine lv_astore (lv' := [(4, _), (0, _), (1, _), (2, _), (3, _)]) S.1 S.2.1 dL_topUp_17 hl (by decide) rfl (fun ls hl => ?_)
      refine lv_iconst (v := 2) S.1 S.2.1 dL_topUp_19 (by decide) ?_
      exact g_iret S G hr hlk (Or.inr ⟨i32_b2 hT, hT.symm, rfl⟩) (Nat.le_of_ble_eq_true rfl) (Nat.le_of_ble_eq_true rfl) dL_topUp_20
    · refine g_catch (cc := cL_topUp) S hF ([⟨0, 10, 13, 13⟩, ⟨0, 10, 17, 21⟩] : List ExceptionTableEntry) ⟨0, 10, 21, 29⟩ [] htab (fun z hz => by
      rcases (show z = (⟨0, 10, 13, 13⟩ : ExceptionTableEntry) ∨ z = (⟨0, 10, 17, 21⟩ : ExceptionTableEntry) by simpa using hz) with rfl | rfl
      · exact ⟨by decide, "java/lang/IndexOutOfBoundsException", by decide +kernel, by decide⟩
      · exact ⟨by decide, "java/lang/IllegalArgumentException", by decide +kernel, by decide⟩) rfl (by decide) (by decide +kernel) (by decide) h1 h2 h3 ?_
      refine lv_astore (lv' := [(4, _), (0, _), (1, _), (2, _), (3, _)]) S.1 S.2.1 dL_topUp_21 hl (by decide) rfl (fun ls hl => ?_)
      refine lv_iconst (v := 3) S.1 S.2.1 dL_topUp_23 (by decide) ?_
      exact g_iret S G hr hlk (Or.inr ⟨i32_b3 hT, hT.symm, rfl⟩) (Nat.le_of_ble_eq_true rfl) (Nat.le_of_ble_eq_true rfl) dL_topUp_24
  · intro r u H locs hp G
    obtain ⟨hT, rfl, rfl⟩ := hp
    have G : gS D aC A s _ _ (gk (sTopUpK κ (tN a) b)) H locs := G
    refine lv_i2l S.1 S.2.1 dL_topUp_8 rfl ?_
    refine k_last (j := 0) S G 18 h18 rfl rfl rfl rfl (by decide) dL_topUp_9 (fun H locs G => ?_)
    refine lv_goto (tgt := 25) S.1 S.2.1 dL_topUp_10 (by decide) ?_
    refine lv_iconst (v := 0) S.1 S.2.1 dL_topUp_25 (by decide) ?_
    exact g_iret S G hr hlk (Or.inl ⟨hT, rfl, rfl⟩) (Nat.le_of_ble_eq_true rfl) (Nat.le_of_ble_eq_true rfl) dL_topUp_26
set_option maxHeartbeats 4000000 in
set_option maxRecDepth 100000 in
theorem c_L_tell (l : Launch) (hlf : l.stackTraces = false) (ids : gIds) (ad : gAd) (κ : gMem) (a b : Int32) (hV : cV ids) (hW : cWF ids κ) (hI : cI ids κ) (h18 : (18, 0) ∈ ids) : gMi l yL_tell wsL_tell ({ frames := 8, cells := 8, slots := 64, locals := 137 } : Room) 8 64 [.ref (ad 7 0), .int a, .int b, .ref (ad 18 0)] (ids, ad, gk κ) (fun k u => (sTellT κ a b = 0 ∧ k = 0 ∧ ∃ q1 q2, u = (((ids ++ [(3, tN (κ 7 0 4))]) ++ [(15, tN (κ 7 0 4))]), updA (updA ad 3 (tN (κ 7 0 4)) q1) 15 (tN (κ 7 0 4)) q2, gk (upd3 (sTellK κ (tN a) (tN (κ 7 0 4)) b) 18 0 0 (κ 7 0 4)))) ∨ (¬ sTellT κ a b = 0 ∧ k = sTellT κ a b ∧ u = (ids, ad, gk κ))) := by
  intro D aC A
  refine g_ofH (cc := cL_tell) (maxL := 5) (ret := (some .int)) (hh := [(0, 10, 13, 13), (0, 10, 17, 21), (0, 10, 21, 29)]) (by decide +kernel) rfl (Nat.le_of_ble_eq_true rfl) ?_
  intro p e s m below meth c ls S G hF hr hlk htab hl
  have hl : lv_has ls 5 [(0, _), (1, _), (2, _), (3, _)] := hl
  refine lv_aload_n S.1 S.2.1 dL_tell_0 rfl (lv_at hl 3 rfl) ?_
  refine lv_iconst (v := 0) S.1 S.2.1 dL_tell_1 (by decide) ?_
  refine lv_aload_n S.1 S.2.1 dL_tell_2 rfl (lv_at hl 0 rfl) ?_
  refine lv_iload_n S.1 S.2.1 dL_tell_3 rfl (lv_at hl 1 rfl) ?_
  refine lv_iload_n S.1 S.2.1 dL_tell_4 rfl (lv_at hl 2 rfl) ?_
  refine gx_cVi S G hF hl 7 (hV 7 0 (by decide)) (by decide) (c_X6_tell l hlf ids ad _ _ _ hV hW hI) (cwV 2 S.2.2.2.2 gL_tell_X6_tell rfl rfl rfl (by decide +kernel) ⟨Nat.le_of_ble_eq_true rfl, Nat.le_of_ble_eq_true rfl⟩) rfl rfl (Nat.le_of_ble_eq_true rfl) dL_tell_5 ⟨Nat.le_of_ble_eq_true rfl, Nat.le_of_ble_eq_true rfl⟩ ?_ ?_
  · intro E ce q9 u H1 locs1 hp G h1 h2 h3
    obtain ⟨hxe, rfl⟩ := hp
    have G : gS D aC A s ids ad (gk κ) H1 locs1 := G
    rcases hxe with ⟨rfl, hT⟩ | ⟨rfl, hT⟩ | ⟨rfl, hT⟩
    · refine g_catch (cc := cL_tell) S hF ([] : List ExceptionTableEntry) ⟨0, 10, 13, 13⟩ [⟨0, 10, 17, 21⟩, ⟨0, 10, 21, 29⟩] htab (fun z hz => absurd hz List.not_mem_nil) rfl (by decide) (by decide +kernel) (by decide) h1 h2 h3 ?_
      refine lv_astore (lv' := [(4, _), (0, _), (1, _), (2, _), (3, _)]) S.1 S.2.1 dL_tell_13 hl (by decide) rfl (fun ls hl => ?_)
      refine lv_iconst (v := 1) S.1 S.2.1 dL_tell_15 (by decide) ?_
      exact g_iret S G hr hlk (Or.inr ⟨i32_b1 hT, hT.symm, rfl⟩) (Nat.le_of_ble_eq_true rfl) (Nat.le_of_ble_eq_true rfl) dL_tell_16
    · refine g_catch (cc := cL_tell) S hF ([⟨0, 10, 13, 13⟩] : List ExceptionTableEntry) ⟨0, 10, 17, 21⟩ [⟨0, 10, 21, 29⟩] htab (fun z hz => by
      rcases (show z = (⟨0, 10, 13, 13⟩ : ExceptionTableEntry) by simpa using hz) with rfl
      · exact ⟨by decide, "java/lang/IndexOutOfBoundsException", by decide +kernel, by decide⟩) rfl (by decide) (by decide +kernel) (by decide) h1 h2 h3 ?_
      refine lv_astore (lv' := [(4, _), (0, _), (1, _), (2, _), (3, _)]) S.1 S.2.1 dL_tell_17 hl (by decide) rfl (fun ls hl => ?_)
      refine lv_iconst (v := 2) S.1 S.2.1 dL_tell_19 (by decide) ?_
      exact g_iret S G hr hlk (Or.inr ⟨i32_b2 hT, hT.symm, rfl⟩) (Nat.le_of_ble_eq_true rfl) (Nat.le_of_ble_eq_true rfl) dL_tell_20
    · refine g_catch (cc := cL_tell) S hF ([⟨0, 10, 13, 13⟩, ⟨0, 10, 17, 21⟩] : List ExceptionTableEntry) ⟨0, 10, 21, 29⟩ [] htab (fun z hz => by
      rcases (show z = (⟨0, 10, 13, 13⟩ : ExceptionTableEntry) ∨ z = (⟨0, 10, 17, 21⟩ : ExceptionTableEntry) by simpa using hz) with rfl | rfl
      · exact ⟨by decide, "java/lang/IndexOutOfBoundsException", by decide +kernel, by decide⟩
      · exact ⟨by decide, "java/lang/IllegalArgumentException", by decide +kernel, by decide⟩) rfl (by decide) (by decide +kernel) (by decide) h1 h2 h3 ?_
      refine lv_astore (lv' := [(4, _), (0, _), (1, _), (2, _), (3, _)]) S.1 S.2.1 dL_tell_21 hl (by decide) rfl (fun ls hl => ?_)
      refine lv_iconst (v := 3) S.1 S.2.1 dL_tell_23 (by decide) ?_
      exact g_iret S G hr hlk (Or.inr ⟨i32_b3 hT, hT.symm, rfl⟩) (Nat.le_of_ble_eq_true rfl) (Nat.le_of_ble_eq_true rfl) dL_tell_24
  · intro r u H locs hp G
    obtain ⟨hT, rfl, q1, q2, rfl⟩ := hp
    have G : gS D aC A s _ _ (gk (sTellK κ (tN a) (tN (κ 7 0 4)) b)) H locs := G
    refine lv_i2l S.1 S.2.1 dL_tell_8 rfl ?_
    refine k_last (j := 0) S G 18 (List.mem_append_left _ (List.mem_append_left _ h18)) rfl rfl rfl rfl (by decide) dL_tell_9 (fun H locs G => ?_)
    refine lv_goto (tgt := 25) S.1 S.2.1 dL_tell_10 (by decide) ?_
    refine lv_iconst (v := 0) S.1 S.2.1 dL_tell_25 (by decide) ?_
    exact g_iret S G hr hlk (Or.inl ⟨hT, rfl, q1, q2, rfl⟩) (Nat.le_of_ble_eq_true rfl) (Nat.le_of_ble_eq_true rfl) dL_tell_26
set_option maxHeartbeats 4000000 in
set_option maxRecDepth 100000 in
theorem c_L_open (l : Launch) (hlf : l.stackTraces = false) (ids : gIds) (ad : gAd) (κ : gMem) (a b d : Int32) (hV : cV ids) (hW : cWF ids κ) (hI : cI ids κ) (h18 : (18, 0) ∈ ids) : gMi l yL_open wsL_open ({ frames := 8, cells := 8, slots := 64, locals := 139 } : Room) 8 64 [.ref (ad 7 0), .int a, .int b, .int d, .ref (ad 18 0)] (ids, ad, gk κ) (fun k u => (sOpenT κ a b d = 0 ∧ k = 0 ∧ ∃ q1, u = ((gDrop ids (6, 12 * tN a + tN b) ++ [(6, 12 * tN a + tN b)]), updA ad 6 (12 * tN a + tN b) q1, gk (upd3 (sOpenK κ (tN a) (tN b) d) 18 0 0 (κ 7 0 6 + d - 1)))) ∨ (¬ sOpenT κ a b d = 0 ∧ k = sOpenT κ a b d ∧ u = (ids, ad, gk κ))) := by
  intro D aC A
  refine g_ofH (cc := cL_open) (maxL := 6) (ret := (some .int)) (hh := [(0, 12, 15, 13), (0, 12, 19, 21), (0, 12, 23, 29)]) (by decide +kernel) rfl (Nat.le_of_ble_eq_true rfl) ?_
  intro p e s m below meth c ls S G hF hr hlk htab hl
  have hl : lv_has ls 6 [(0, _), (1, _), (2, _), (3, _), (4, _)] := hl
  refine lv_aload S.1 S.2.1 dL_open_0 (lv_at hl 4 rfl) ?_
  refine lv_iconst (v := 0) S.1 S.2.1 dL_open_2 (by decide) ?_
  refine lv_aload_n S.1 S.2.1 dL_open_3 rfl (lv_at hl 0 rfl) ?_
  refine lv_iload_n S.1 S.2.1 dL_open_4 rfl (lv_at hl 1 rfl) ?_
  refine lv_iload_n S.1 S.2.1 dL_open_5 rfl (lv_at hl 2 rfl) ?_
  refine lv_iload_n S.1 S.2.1 dL_open_6 rfl (lv_at hl 3 rfl) ?_
  refine gx_cVi S G hF hl 7 (hV 7 0 (by decide)) (by decide) (c_X6_open l hlf ids ad _ _ _ _ hV hW hI) (cwV 3 S.2.2.2.2 gL_open_X6_open rfl rfl rfl (by decide +kernel) ⟨Nat.le_of_ble_eq_true rfl, Nat.le_of_ble_eq_true rfl⟩) rfl rfl (Nat.le_of_ble_eq_true rfl) dL_open_7 ⟨Nat.le_of_ble_eq_true rfl, Nat.le_of_ble_eq_true rfl⟩ ?_ ?_
  · intro E ce q9 u H1 locs1 hp G h1 h2 h3
    obtain ⟨hxe, rfl⟩ := hp
    have G : gS D aC A s ids ad (gk κ) H1 locs1 := G
    rcases hxe with ⟨rfl, hT⟩ | ⟨rfl, hT⟩ | ⟨rfl, hT⟩
    · refine g_catch (cc := cL_open) S hF ([] : List ExceptionTableEntry) ⟨0, 12, 15, 13⟩ [⟨0, 12, 19, 21⟩, ⟨0, 12, 23, 29⟩] htab (fun z hz => absurd hz List.not_mem_nil) rfl (by decide) (by decide +kernel) (by decide) h1 h2 h3 ?_
      refine lv_astore (lv' := [(5, _), (0, _), (1, _), (2, _), (3, _), (4, _)]) S.1 S.2.1 dL_open_15 hl (by decide) rfl (fun ls hl => ?_)
      refine lv_iconst (v := 1) S.1 S.2.1 dL_open_17 (by decide) ?_
      exact g_iret S G hr hlk (Or.inr ⟨i32_b1 hT, hT.symm, rfl⟩) (Nat.le_of_ble_eq_true rfl) (Nat.le_of_ble_eq_true rfl) dL_open_18
    · refine g_catch (cc := cL_open) S hF ([⟨0, 12, 15, 13⟩] : List ExceptionTableEntry) ⟨0, 12, 19, 21⟩ [⟨0, 12, 23, 29⟩] htab (fun z hz => by
      rcases (show z = (⟨0, 12, 15, 13⟩ : ExceptionTableEntry) by simpa using hz) with rfl
      · exact ⟨by decide, "java/lang/IndexOutOfBoundsException", by decide +kernel, by decide⟩) rfl (by decide) (by decide +kernel) (by decide) h1 h2 h3 ?_
      refine lv_astore (lv' := [(5, _), (0, _), (1, _), (2, _), (3, _), (4, _)]) S.1 S.2.1 dL_open_19 hl (by decide) rfl (fun ls hl => ?_)
      refine lv_iconst (v := 2) S.1 S.2.1 dL_open_21 (by decide) ?_
      exact g_iret S G hr hlk (Or.inr ⟨i32_b2 hT, hT.symm, rfl⟩) (Nat.le_of_ble_eq_true rfl) (Nat.le_of_ble_eq_true rfl) dL_open_22
    · refine g_catch (cc := cL_open) S hF ([⟨0, 12, 15, 13⟩, ⟨0, 12, 19, 21⟩] : List ExceptionTableEntry) ⟨0, 12, 23, 29⟩ [] htab (fun z hz => by
      rcases (show z = (⟨0, 12, 15, 13⟩ : ExceptionTableEntry) ∨ z = (⟨0, 12, 19, 21⟩ : ExceptionTableEntry) by simpa using hz) with rfl | rfl
      · exact ⟨by decide, "java/lang/IndexOutOfBoundsException", by decide +kernel, by decide⟩
      · exact ⟨by decide, "java/lang/IllegalArgumentException", by decide +kernel, by decide⟩) rfl (by decide) (by decide +kernel) (by decide) h1 h2 h3 ?_
      refine lv_astore (lv' := [(5, _), (0, _), (1, _), (2, _), (3, _), (4, _)]) S.1 S.2.1 dL_open_23 hl (by decide) rfl (fun ls hl => ?_)
      refine lv_iconst (v := 3) S.1 S.2.1 dL_open_25 (by decide) ?_
      exact g_iret S G hr hlk (Or.inr ⟨i32_b3 hT, hT.symm, rfl⟩) (Nat.le_of_ble_eq_true rfl) (Nat.le_of_ble_eq_true rfl) dL_open_26
  · intro r u H locs hp G
    obtain ⟨hT, rfl, q1, rfl⟩ := hp
    have G : gS D aC A s _ _ (gk (sOpenK κ (tN a) (tN b) d)) H locs := G
    refine lv_i2l S.1 S.2.1 dL_open_10 rfl ?_
    refine k_last (j := 0) S G 18 (List.mem_append_left _ (gDrop_m.mpr ⟨h18, by simp⟩)) rfl rfl rfl rfl (by decide) dL_open_11 (fun H locs G => ?_)
    refine lv_goto (tgt := 27) S.1 S.2.1 dL_open_12 (by decide) ?_
    refine lv_iconst (v := 0) S.1 S.2.1 dL_open_27 (by decide) ?_
    exact g_iret S G hr hlk (Or.inl ⟨hT, rfl, q1, rfl⟩) (Nat.le_of_ble_eq_true rfl) (Nat.le_of_ble_eq_true rfl) dL_open_28
set_option maxHeartbeats 4000000 in
set_option maxRecDepth 100000 in
theorem c_L_challenge (l : Launch) (hlf : l.stackTraces = false) (ids : gIds) (ad : gAd) (κ : gMem) (a b : Int32) (hV : cV ids) (hW : cWF ids κ) (hI : cI ids κ) (hfr : tN b < tN (κ 7 0 4) → κ 3 (tN b) 3 = 0 → κ 3 (tN b) 9 < 0) (h18 : (18, 0) ∈ ids) : gMi l yL_challenge wsL_challenge ({ frames := 8, cells := 8, slots := 64, locals := 135 } : Room) 8 64 [.ref (ad 7 0), .int a, .int b, .ref (ad 18 0)] (ids, ad, gk κ) (fun k u => (sChallengeT κ a b = 0 ∧ k = 0 ∧ ∃ q1 q2, u = (((ids ++ [(2, tN b)]) ++ [(16, tN b)]), updA (updA ad 2 (tN b) q1) 16 (tN b) q2, gk (upd3 (sChallengeK κ (tN a) (tN b)) 18 0 0 (sNbs (nI (tN (κ 3 (tN b) 0))) 12)))) ∨ (¬ sChallengeT κ a b = 0 ∧ k = cdC (sChallengeT κ a b) ∧ u = (ids, ad, gk κ))) := by
  intro D aC A
  refine g_ofH (cc := cL_challenge) (maxL := 5) (ret := (some .int)) (hh := [(0, 10, 13, 13), (0, 10, 17, 29)]) (by decide +kernel) rfl (Nat.le_of_ble_eq_true rfl) ?_
  intro p e s m below meth c ls S G hF hr hlk htab hl
  have hl : lv_has ls 5 [(0, _), (1, _), (2, _), (3, _)] := hl
  refine lv_aload_n S.1 S.2.1 dL_challenge_0 rfl (lv_at hl 3 rfl) ?_
  refine lv_iconst (v := 0) S.1 S.2.1 dL_challenge_1 (by decide) ?_
  refine lv_aload_n S.1 S.2.1 dL_challenge_2 rfl (lv_at hl 0 rfl) ?_
  refine lv_iload_n S.1 S.2.1 dL_challenge_3 rfl (lv_at hl 1 rfl) ?_
  refine lv_iload_n S.1 S.2.1 dL_challenge_4 rfl (lv_at hl 2 rfl) ?_
  refine gx_cVi S G hF hl 7 (hV 7 0 (by decide)) (by decide) (c_X6_challenge l hlf ids ad _ _ _ hV hW hI hfr) (cwV 2 S.2.2.2.2 gL_challenge_X6_challenge rfl rfl rfl (by decide +kernel) ⟨Nat.le_of_ble_eq_true rfl, Nat.le_of_ble_eq_true rfl⟩) rfl rfl (Nat.le_of_ble_eq_true rfl) dL_challenge_5 ⟨Nat.le_of_ble_eq_true rfl, Nat.le_of_ble_eq_true rfl⟩ ?_ ?_
  · intro E ce q9 u H1 locs1 hp G h1 h2 h3
    obtain ⟨hxe, rfl⟩ := hp
    have G : gS D aC A s ids ad (gk κ) H1 locs1 := G
    rcases hxe with ⟨rfl, hT⟩ | ⟨rfl, hT⟩ | ⟨rfl, hT⟩
    · refine g_catch (cc := cL_challenge) S hF ([] : List ExceptionTableEntry) ⟨0, 10, 13, 13⟩ [⟨0, 10, 17, 29⟩] htab (fun z hz => absurd hz List.not_mem_nil) rfl (by decide) (by decide +kernel) (by decide) h1 h2 h3 ?_
      refine lv_astore (lv' := [(4, _), (0, _), (1, _), (2, _), (3, _)]) S.1 S.2.1 dL_challenge_13 hl (by decide) rfl (fun ls hl => ?_)
      refine lv_iconst (v := 1) S.1 S.2.1 dL_challenge_15 (by decide) ?_
      exact g_iret S G hr hlk (Or.inr ⟨i32_b1 hT, (by rw [hT]; decide), rfl⟩) (Nat.le_of_ble_eq_true rfl) (Nat.le_of_ble_eq_true rfl) dL_challenge_16
    · exact (sChallengeT_n2 hT).elim
    · refine g_catch (cc := cL_challenge) S hF ([⟨0, 10, 13, 13⟩] : List ExceptionTableEntry) ⟨0, 10, 17, 29⟩ [] htab (fun z hz => by
      rcases (show z = (⟨0, 10, 13, 13⟩ : ExceptionTableEntry) by simpa using hz) with rfl
      · exact ⟨by decide, "java/lang/IndexOutOfBoundsException", by decide +kernel, by decide⟩) rfl (by decide) (by decide +kernel) (by decide) h1 h2 h3 ?_
      refine lv_astore (lv' := [(4, _), (0, _), (1, _), (2, _), (3, _)]) S.1 S.2.1 dL_challenge_17 hl (by decide) rfl (fun ls hl => ?_)
      refine lv_iconst (v := 2) S.1 S.2.1 dL_challenge_19 (by decide) ?_
      exact g_iret S G hr hlk (Or.inr ⟨i32_b3 hT, (by rw [hT]; decide), rfl⟩) (Nat.le_of_ble_eq_true rfl) (Nat.le_of_ble_eq_true rfl) dL_challenge_20
  · intro r u H locs hp G
    obtain ⟨hT, rfl, q1, q2, rfl⟩ := hp
    have G : gS D aC A s _ _ (gk (sChallengeK κ (tN a) (tN b))) H locs := G
    refine lv_i2l S.1 S.2.1 dL_challenge_8 rfl ?_
    refine k_last (j := 0) S G 18 (List.mem_append_left _ (List.mem_append_left _ h18)) rfl rfl rfl rfl (by decide) dL_challenge_9 (fun H locs G => ?_)
    refine lv_goto (tgt := 21) S.1 S.2.1 dL_challenge_10 (by decide) ?_
    refine lv_iconst (v := 0) S.1 S.2.1 dL_challenge_21 (by decide) ?_
    exact g_iret S G hr hlk (Or.inl ⟨hT, rfl, q1, q2, rfl⟩) (Nat.le_of_ble_eq_true rfl) (Nat.le_of_ble_eq_true rfl) dL_challenge_22
set_option maxHeartbeats 4000000 in
set_option maxRecDepth 100000 in
theorem c_L_sample (l : Launch) (hlf : l.stackTraces = false) (ids : gIds) (ad : gAd) (κ : gMem) (a b d : Int32) (hV : cV ids) (hW : cWF ids κ) (h18 : (18, 0) ∈ ids) : gMi l yL_sample wsL_sample ({ frames := 8, cells := 8, slots := 64, locals := 138 } : Room) 8 64 [.ref (ad 7 0), .int a, .int b, .int d, .ref (ad 18 0)] (ids, ad, gk κ) (fun k u => (sSampleT κ a b d = 0 ∧ k = 0 ∧ u = (ids, ad, gk (upd3 (sSampleK κ (tN a) (tN b) d) 18 0 0 (sSampleK κ (tN a) (tN b) d 3 (tN b) 3)))) ∨ (¬ sSampleT κ a b d = 0 ∧ k = sSampleT κ a b d ∧ u = (ids, ad, gk κ))) := by
  intro D aC A
  refine g_ofH (cc := cL_sample) (maxL := 6) (ret := (some .int)) (hh := [(0, 12, 15, 13), (0, 12, 19, 21), (0, 12, 23, 29)]) (by decide +kernel) rfl (Nat.le_of_ble_eq_true rfl) ?_
  intro p e s m below meth c ls S G hF hr hlk htab hl
  have hl : lv_has ls 6 [(0, _), (1, _), (2, _), (3, _), (4, _)] := hl
  refine lv_aload S.1 S.2.1 dL_sample_0 (lv_at hl 4 rfl) ?_
  refine lv_iconst (v := 0) S.1 S.2.1 dL_sample_2 (by decide) ?_
  refine lv_aload_n S.1 S.2.1 dL_sample_3 rfl (lv_at hl 0 rfl) ?_
  refine lv_iload_n S.1 S.2.1 dL_sample_4 rfl (lv_at hl 1 rfl) ?_
  refine lv_iload_n S.1 S.2.1 dL_sample_5 rfl (lv_at hl 2 rfl) ?_
  refine lv_iload_n S.1 S.2.1 dL_sample_6 rfl (lv_at hl 3 rfl) ?_
  refine gx_cVi S G hF hl 7 (hV 7 0 (by decide)) (by decide) (c_X6_sample l hlf ids ad _ _ _ _ hV hW) (cwV 3 S.2.2.2.2 gL_sample_X6_sample rfl rfl rfl (by decide +kernel) ⟨Nat.le_of_ble_eq_true rfl, Nat.le_of_ble_eq_true rfl⟩) rfl rfl (Nat.le_of_ble_eq_true rfl) dL_sample_7 ⟨Nat.le_of_ble_eq_true rfl, Nat.le_of_ble_eq_true rfl⟩ ?_ ?_
  · intro E ce q9 u H1 locs1 hp G h1 h2 h3
    obtain ⟨hxe, rfl⟩ := hp
    have G : gS D aC A s ids ad (gk κ) H1 locs1 := G
    rcases hxe with ⟨rfl, hT⟩ | ⟨rfl, hT⟩ | ⟨rfl, hT⟩
    · refine g_catch (cc := cL_sample) S hF ([] : List ExceptionTableEntry) ⟨0, 12, 15, 13⟩ [⟨0, 12, 19, 21⟩, ⟨0, 12, 23, 29⟩] htab (fun z hz => absurd hz List.not_mem_nil) rfl (by decide) (by decide +kernel) (by decide) h1 h2 h3 ?_
      refine lv_astore (lv' := [(5, _), (0, _), (1, _), (2, _), (3, _), (4, _)]) S.1 S.2.1 dL_sample_15 hl (by decide) rfl (fun ls hl => ?_)
      refine lv_iconst (v := 1) S.1 S.2.1 dL_sample_17 (by decide) ?_
      exact g_iret S G hr hlk (Or.inr ⟨i32_b1 hT, hT.symm, rfl⟩) (Nat.le_of_ble_eq_true rfl) (Nat.le_of_ble_eq_true rfl) dL_sample_18
    · refine g_catch (cc := cL_sample) S hF ([⟨0, 12, 15, 13⟩] : List ExceptionTableEntry) ⟨0, 12, 19, 21⟩ [⟨0, 12, 23, 29⟩] htab (fun z hz => by
      rcases (show z = (⟨0, 12, 15, 13⟩ : ExceptionTableEntry) by simpa using hz) with rfl
      · exact ⟨by decide, "java/lang/IndexOutOfBoundsException", by decide +kernel, by decide⟩) rfl (by decide) (by decide +kernel) (by decide) h1 h2 h3 ?_
      refine lv_astore (lv' := [(5, _), (0, _), (1, _), (2, _), (3, _), (4, _)]) S.1 S.2.1 dL_sample_19 hl (by decide) rfl (fun ls hl => ?_)
      refine lv_iconst (v := 2) S.1 S.2.1 dL_sample_21 (by decide) ?_
      exact g_iret S G hr hlk (Or.inr ⟨i32_b2 hT, hT.symm, rfl⟩) (Nat.le_of_ble_eq_true rfl) (Nat.le_of_ble_eq_true rfl) dL_sample_22
    · refine g_catch (cc := cL_sample) S hF ([⟨0, 12, 15, 13⟩, ⟨0, 12, 19, 21⟩] : List ExceptionTableEntry) ⟨0, 12, 23, 29⟩ [] htab (fun z hz => by
      rcases (show z = (⟨0, 12, 15, 13⟩ : ExceptionTableEntry) ∨ z = (⟨0, 12, 19, 21⟩ : ExceptionTableEntry) by simpa using hz) with rfl | rfl
      · exact ⟨by decide, "java/lang/IndexOutOfBoundsException", by decide +kernel, by decide⟩
      · exact ⟨by decide, "java/lang/IllegalArgumentException", by decide +kernel, by decide⟩) rfl (by decide) (by decide +kernel) (by decide) h1 h2 h3 ?_
      refine lv_astore (lv' := [(5, _), (0, _), (1, _), (2, _), (3, _), (4, _)]) S.1 S.2.1 dL_sample_23 hl (by decide) rfl (fun ls hl => ?_)
      refine lv_iconst (v := 3) S.1 S.2.1 dL_sample_25 (by decide) ?_
      exact g_iret S G hr hlk (Or.inr ⟨i32_b3 hT, hT.symm, rfl⟩) (Nat.le_of_ble_eq_true rfl) (Nat.le_of_ble_eq_true rfl) dL_sample_26
  · intro r u H locs hp G
    obtain ⟨hT, rfl, rfl⟩ := hp
    have G : gS D aC A s _ _ (gk (sSampleK κ (tN a) (tN b) d)) H locs := G
    refine lv_i2l S.1 S.2.1 dL_sample_10 rfl ?_
    refine k_last (j := 0) S G 18 h18 rfl rfl rfl rfl (by decide) dL_sample_11 (fun H locs G => ?_)
    refine lv_goto (tgt := 27) S.1 S.2.1 dL_sample_12 (by decide) ?_
    refine lv_iconst (v := 0) S.1 S.2.1 dL_sample_27 (by decide) ?_
    exact g_iret S G hr hlk (Or.inl ⟨hT, rfl, rfl⟩) (Nat.le_of_ble_eq_true rfl) (Nat.le_of_ble_eq_true rfl) dL_sample_28
set_option maxHeartbeats 4000000 in
set_option maxRecDepth 100000 in
theorem c_L_advance (l : Launch) (hlf : l.stackTraces = false) (ids : gIds) (ad : gAd) (κ : gMem) (a : Int32) (hV : cV ids) (hW : cWF ids κ) (htk : ixL (κ 7 0 6) 10001) (h18 : (18, 0) ∈ ids) : gMi l yL_advance wsL_advance ({ frames := 8, cells := 8, slots := 64, locals := 174 } : Room) 8 64 [.ref (ad 7 0), .int a, .ref (ad 18 0)] (ids, ad, gk κ) (fun k u => (sAdvT κ a = 0 ∧ k = 0 ∧ u = (ids, ad, gk (upd3 (sAdvK κ a) 18 0 0 (sAdvK κ a 7 0 6)))) ∨ (¬ sAdvT κ a = 0 ∧ k = cdA (sAdvT κ a) ∧ u = (ids, ad, gk κ))) := by
  intro D aC A
  refine g_ofH (cc := cL_advance) (maxL := 4) (ret := (some .int)) (hh := [(0, 9, 12, 21), (0, 9, 15, 29)]) (by decide +kernel) rfl (Nat.le_of_ble_eq_true rfl) ?_
  intro p e s m below meth c ls S G hF hr hlk htab hl
  have hl : lv_has ls 4 [(0, _), (1, _), (2, _)] := hl
  refine lv_aload_n S.1 S.2.1 dL_advance_0 rfl (lv_at hl 2 rfl) ?_
  refine lv_iconst (v := 0) S.1 S.2.1 dL_advance_1 (by decide) ?_
  refine lv_aload_n S.1 S.2.1 dL_advance_2 rfl (lv_at hl 0 rfl) ?_
  refine lv_iload_n S.1 S.2.1 dL_advance_3 rfl (lv_at hl 1 rfl) ?_
  refine gx_cVi S G hF hl 7 (hV 7 0 (by decide)) (by decide) (c_X6_advance l hlf ids ad _ _ hV hW htk) (cwV 1 S.2.2.2.2 gL_advance_X6_advance rfl rfl rfl (by decide +kernel) ⟨Nat.le_of_ble_eq_true rfl, Nat.le_of_ble_eq_true rfl⟩) rfl rfl (Nat.le_of_ble_eq_true rfl) dL_advance_4 ⟨Nat.le_of_ble_eq_true rfl, Nat.le_of_ble_eq_true rfl⟩ ?_ ?_
  · intro E ce q9 u H1 locs1 hp G h1 h2 h3
    obtain ⟨hxe, rfl⟩ := hp
    have G : gS D aC A s ids ad (gk κ) H1 locs1 := G
    rcases hxe with ⟨rfl, hT⟩ | ⟨rfl, hT⟩ | ⟨rfl, hT⟩
    · exact (sAdvT_n1 hT).elim
    · refine g_catch (cc := cL_advance) S hF ([] : List ExceptionTableEntry) ⟨0, 9, 12, 21⟩ [⟨0, 9, 15, 29⟩] htab (fun z hz => absurd hz List.not_mem_nil) rfl (by decide) (by decide +kernel) (by decide) h1 h2 h3 ?_
      refine lv_astore_n (lv' := [(3, _), (0, _), (1, _), (2, _)]) S.1 S.2.1 dL_advance_12 rfl hl (by decide) rfl (fun ls hl => ?_)
      refine lv_iconst (v := 1) S.1 S.2.1 dL_advance_13 (by decide) ?_
      exact g_iret S G hr hlk (Or.inr ⟨i32_b2 hT, (by rw [hT]; decide), rfl⟩) (Nat.le_of_ble_eq_true rfl) (Nat.le_of_ble_eq_true rfl) dL_advance_14
    · refine g_catch (cc := cL_advance) S hF ([⟨0, 9, 12, 21⟩] : List ExceptionTableEntry) ⟨0, 9, 15, 29⟩ [] htab (fun z hz => by
      rcases (show z = (⟨0, 9, 12, 21⟩ : ExceptionTableEntry) by simpa using hz) with rfl
      · exact ⟨by decide, "java/lang/IllegalArgumentException", by decide +kernel, by decide⟩) rfl (by decide) (by decide +kernel) (by decide) h1 h2 h3 ?_
      refine lv_astore_n (lv' := [(3, _), (0, _), (1, _), (2, _)]) S.1 S.2.1 dL_advance_15 rfl hl (by decide) rfl (fun ls hl => ?_)
      refine lv_iconst (v := 2) S.1 S.2.1 dL_advance_16 (by decide) ?_
      exact g_iret S G hr hlk (Or.inr ⟨i32_b3 hT, (by rw [hT]; decide), rfl⟩) (Nat.le_of_ble_eq_true rfl) (Nat.le_of_ble_eq_true rfl) dL_advance_17
  · intro r u H locs hp G
    obtain ⟨hT, rfl, rfl⟩ := hp
    have G : gS D aC A s _ _ (gk (sAdvK κ a)) H locs := G
    refine lv_i2l S.1 S.2.1 dL_advance_7 rfl ?_
    refine k_last (j := 0) S G 18 h18 rfl rfl rfl rfl (by decide) dL_advance_8 (fun H locs G => ?_)
    refine lv_goto (tgt := 18) S.1 S.2.1 dL_advance_9 (by decide) ?_
    refine lv_iconst (v := 0) S.1 S.2.1 dL_advance_18 (by decide) ?_
    exact g_iret S G hr hlk (Or.inl ⟨hT, rfl, rfl⟩) (Nat.le_of_ble_eq_true rfl) (Nat.le_of_ble_eq_true rfl) dL_advance_19
set_option maxHeartbeats 4000000 in
set_option maxRecDepth 100000 in
theorem c_L_stateOf (l : Launch) (hlf : l.stackTraces = false) (ids : gIds) (ad : gAd) (κ : gMem) (a : Int32) (hV : cV ids) (hW : cWF ids κ) (h18 : (18, 0) ∈ ids) : gMi l yL_stateOf wsL_stateOf ({ frames := 8, cells := 8, slots := 64, locals := 132 } : Room) 8 64 [.ref (ad 7 0), .int a, .ref (ad 18 0)] (ids, ad, gk κ) (fun k u => (sRdT κ a = 0 ∧ k = 0 ∧ u = (ids, ad, gk (upd3 (κ) 18 0 0 (κ 3 (tN a) 3)))) ∨ (¬ sRdT κ a = 0 ∧ k = sRdT κ a ∧ u = (ids, ad, gk κ))) := by
  intro D aC A
  refine g_ofH (cc := cL_stateOf) (maxL := 4) (ret := (some .int)) (hh := [(0, 9, 12, 13)]) (by decide +kernel) rfl (Nat.le_of_ble_eq_true rfl) ?_
  intro p e s m below meth c ls S G hF hr hlk htab hl
  have hl : lv_has ls 4 [(0, _), (1, _), (2, _)] := hl
  refine lv_aload_n S.1 S.2.1 dL_stateOf_0 rfl (lv_at hl 2 rfl) ?_
  refine lv_iconst (v := 0) S.1 S.2.1 dL_stateOf_1 (by decide) ?_
  refine lv_aload_n S.1 S.2.1 dL_stateOf_2 rfl (lv_at hl 0 rfl) ?_
  refine lv_iload_n S.1 S.2.1 dL_stateOf_3 rfl (lv_at hl 1 rfl) ?_
  refine gx_cVi S G hF hl 7 (hV 7 0 (by decide)) (by decide) (c_X6_stateOf l hlf ids ad _ _ hV hW) (cwV 1 S.2.2.2.2 gL_stateOf_X6_stateOf rfl rfl rfl (by decide +kernel) ⟨Nat.le_of_ble_eq_true rfl, Nat.le_of_ble_eq_true rfl⟩) rfl rfl (Nat.le_of_ble_eq_true rfl) dL_stateOf_4 ⟨Nat.le_of_ble_eq_true rfl, Nat.le_of_ble_eq_true rfl⟩ ?_ ?_
  · intro E ce q9 u H1 locs1 hp G h1 h2 h3
    obtain ⟨hxe, rfl⟩ := hp
    have G : gS D aC A s ids ad (gk κ) H1 locs1 := G
    rcases hxe with ⟨rfl, hT⟩ | ⟨rfl, hT⟩ | ⟨rfl, hT⟩
    · refine g_catch (cc := cL_stateOf) S hF ([] : List ExceptionTableEntry) ⟨0, 9, 12, 13⟩ [] htab (fun z hz => absurd hz List.not_mem_nil) rfl (by decide) (by decide +kernel) (by decide) h1 h2 h3 ?_
      refine lv_astore_n (lv' := [(3, _), (0, _), (1, _), (2, _)]) S.1 S.2.1 dL_stateOf_12 rfl hl (by decide) rfl (fun ls hl => ?_)
      refine lv_iconst (v := 1) S.1 S.2.1 dL_stateOf_13 (by decide) ?_
      exact g_iret S G hr hlk (Or.inr ⟨i32_b1 hT, hT.symm, rfl⟩) (Nat.le_of_ble_eq_true rfl) (Nat.le_of_ble_eq_true rfl) dL_stateOf_14
    · exact (sRdT_n2 hT).elim
    · exact (sRdT_n3 hT).elim
  · intro r u H locs hp G
    obtain ⟨hT, rfl, rfl⟩ := hp
    have G : gS D aC A s _ _ (gk (κ)) H locs := G
    refine lv_i2l S.1 S.2.1 dL_stateOf_7 rfl ?_
    refine k_last (j := 0) S G 18 h18 rfl rfl rfl rfl (by decide) dL_stateOf_8 (fun H locs G => ?_)
    refine lv_goto (tgt := 15) S.1 S.2.1 dL_stateOf_9 (by decide) ?_
    refine lv_iconst (v := 0) S.1 S.2.1 dL_stateOf_15 (by decide) ?_
    exact g_iret S G hr hlk (Or.inl ⟨hT, rfl, rfl⟩) (Nat.le_of_ble_eq_true rfl) (Nat.le_of_ble_eq_true rfl) dL_stateOf_16
set_option maxHeartbeats 4000000 in
set_option maxRecDepth 100000 in
theorem c_L_parts (l : Launch) (hlf : l.stackTraces = false) (ids : gIds) (ad : gAd) (κ : gMem) (a : Int32) (hV : cV ids) (hW : cWF ids κ) (h18 : (18, 0) ∈ ids) : gMi l yL_parts wsL_parts ({ frames := 8, cells := 8, slots := 64, locals := 132 } : Room) 8 64 [.ref (ad 7 0), .int a, .ref (ad 18 0)] (ids, ad, gk κ) (fun k u => (sRdT κ a = 0 ∧ k = 0 ∧ u = (ids, ad, gk (upd3 (κ) 18 0 0 (κ 3 (tN a) 2)))) ∨ (¬ sRdT κ a = 0 ∧ k = sRdT κ a ∧ u = (ids, ad, gk κ))) := by
  intro D aC A
  refine g_ofH (cc := cL_parts) (maxL := 4) (ret := (some .int)) (hh := [(0, 9, 12, 13)]) (by decide +kernel) rfl (Nat.le_of_ble_eq_true rfl) ?_
  intro p e s m below meth c ls S G hF hr hlk htab hl
  have hl : lv_has ls 4 [(0, _), (1, _), (2, _)] := hl
  refine lv_aload_n S.1 S.2.1 dL_parts_0 rfl (lv_at hl 2 rfl) ?_
  refine lv_iconst (v := 0) S.1 S.2.1 dL_parts_1 (by decide) ?_
  refine lv_aload_n S.1 S.2.1 dL_parts_2 rfl (lv_at hl 0 rfl) ?_
  refine lv_iload_n S.1 S.2.1 dL_parts_3 rfl (lv_at hl 1 rfl) ?_
  refine gx_cVi S G hF hl 7 (hV 7 0 (by decide)) (by decide) (c_X6_parts l hlf ids ad _ _ hV hW) (cwV 1 S.2.2.2.2 gL_parts_X6_parts rfl rfl rfl (by decide +kernel) ⟨Nat.le_of_ble_eq_true rfl, Nat.le_of_ble_eq_true rfl⟩) rfl rfl (Nat.le_of_ble_eq_true rfl) dL_parts_4 ⟨Nat.le_of_ble_eq_true rfl, Nat.le_of_ble_eq_true rfl⟩ ?_ ?_
  · intro E ce q9 u H1 locs1 hp G h1 h2 h3
    obtain ⟨hxe, rfl⟩ := hp
    have G : gS D aC A s ids ad (gk κ) H1 locs1 := G
    rcases hxe with ⟨rfl, hT⟩ | ⟨rfl, hT⟩ | ⟨rfl, hT⟩
    · refine g_catch (cc := cL_parts) S hF ([] : List ExceptionTableEntry) ⟨0, 9, 12, 13⟩ [] htab (fun z hz => absurd hz List.not_mem_nil) rfl (by decide) (by decide +kernel) (by decide) h1 h2 h3 ?_
      refine lv_astore_n (lv' := [(3, _), (0, _), (1, _), (2, _)]) S.1 S.2.1 dL_parts_12 rfl hl (by decide) rfl (fun ls hl => ?_)
      refine lv_iconst (v := 1) S.1 S.2.1 dL_parts_13 (by decide) ?_
      exact g_iret S G hr hlk (Or.inr ⟨i32_b1 hT, hT.symm, rfl⟩) (Nat.le_of_ble_eq_true rfl) (Nat.le_of_ble_eq_true rfl) dL_parts_14
    · exact (sRdT_n2 hT).elim
    · exact (sRdT_n3 hT).elim
  · intro r u H locs hp G
    obtain ⟨hT, rfl, rfl⟩ := hp
    have G : gS D aC A s _ _ (gk (κ)) H locs := G
    refine lv_i2l S.1 S.2.1 dL_parts_7 rfl ?_
    refine k_last (j := 0) S G 18 h18 rfl rfl rfl rfl (by decide) dL_parts_8 (fun H locs G => ?_)
    refine lv_goto (tgt := 15) S.1 S.2.1 dL_parts_9 (by decide) ?_
    refine lv_iconst (v := 0) S.1 S.2.1 dL_parts_15 (by decide) ?_
    exact g_iret S G hr hlk (Or.inl ⟨hT, rfl, rfl⟩) (Nat.le_of_ble_eq_true rfl) (Nat.le_of_ble_eq_true rfl) dL_parts_16
set_option maxHeartbeats 4000000 in
set_option maxRecDepth 100000 in
theorem c_L_users (l : Launch) (hlf : l.stackTraces = false) (ids : gIds) (ad : gAd) (κ : gMem) (a : Int32) (hV : cV ids) (hW : cWF ids κ) (h18 : (18, 0) ∈ ids) : gMi l yL_users wsL_users ({ frames := 8, cells := 8, slots := 64, locals := 132 } : Room) 8 64 [.ref (ad 7 0), .int a, .ref (ad 18 0)] (ids, ad, gk κ) (fun k u => (sRdT κ a = 0 ∧ k = 0 ∧ u = (ids, ad, gk (upd3 (κ) 18 0 0 (κ 3 (tN a) 6)))) ∨ (¬ sRdT κ a = 0 ∧ k = sRdT κ a ∧ u = (ids, ad, gk κ))) := by
  intro D aC A
  refine g_ofH (cc := cL_users) (maxL := 4) (ret := (some .int)) (hh := [(0, 9, 12, 13)]) (by decide +kernel) rfl (Nat.le_of_ble_eq_true rfl) ?_
  intro p e s m below meth c ls S G hF hr hlk htab hl
  have hl : lv_has ls 4 [(0, _), (1, _), (2, _)] := hl
  refine lv_aload_n S.1 S.2.1 dL_users_0 rfl (lv_at hl 2 rfl) ?_
  refine lv_iconst (v := 0) S.1 S.2.1 dL_users_1 (by decide) ?_
  refine lv_aload_n S.1 S.2.1 dL_users_2 rfl (lv_at hl 0 rfl) ?_
  refine lv_iload_n S.1 S.2.1 dL_users_3 rfl (lv_at hl 1 rfl) ?_
  refine gx_cVi S G hF hl 7 (hV 7 0 (by decide)) (by decide) (c_X6_users l hlf ids ad _ _ hV hW) (cwV 1 S.2.2.2.2 gL_users_X6_users rfl rfl rfl (by decide +kernel) ⟨Nat.le_of_ble_eq_true rfl, Nat.le_of_ble_eq_true rfl⟩) rfl rfl (Nat.le_of_ble_eq_true rfl) dL_users_4 ⟨Nat.le_of_ble_eq_true rfl, Nat.le_of_ble_eq_true rfl⟩ ?_ ?_
  · intro E ce q9 u H1 locs1 hp G h1 h2 h3
    obtain ⟨hxe, rfl⟩ := hp
    have G : gS D aC A s ids ad (gk κ) H1 locs1 := G
    rcases hxe with ⟨rfl, hT⟩ | ⟨rfl, hT⟩ | ⟨rfl, hT⟩
    · refine g_catch (cc := cL_users) S hF ([] : List ExceptionTableEntry) ⟨0, 9, 12, 13⟩ [] htab (fun z hz => absurd hz List.not_mem_nil) rfl (by decide) (by decide +kernel) (by decide) h1 h2 h3 ?_
      refine lv_astore_n (lv' := [(3, _), (0, _), (1, _), (2, _)]) S.1 S.2.1 dL_users_12 rfl hl (by decide) rfl (fun ls hl => ?_)
      refine lv_iconst (v := 1) S.1 S.2.1 dL_users_13 (by decide) ?_
      exact g_iret S G hr hlk (Or.inr ⟨i32_b1 hT, hT.symm, rfl⟩) (Nat.le_of_ble_eq_true rfl) (Nat.le_of_ble_eq_true rfl) dL_users_14
    · exact (sRdT_n2 hT).elim
    · exact (sRdT_n3 hT).elim
  · intro r u H locs hp G
    obtain ⟨hT, rfl, rfl⟩ := hp
    have G : gS D aC A s _ _ (gk (κ)) H locs := G
    refine lv_i2l S.1 S.2.1 dL_users_7 rfl ?_
    refine k_last (j := 0) S G 18 h18 rfl rfl rfl rfl (by decide) dL_users_8 (fun H locs G => ?_)
    refine lv_goto (tgt := 15) S.1 S.2.1 dL_users_9 (by decide) ?_
    refine lv_iconst (v := 0) S.1 S.2.1 dL_users_15 (by decide) ?_
    exact g_iret S G hr hlk (Or.inl ⟨hT, rfl, rfl⟩) (Nat.le_of_ble_eq_true rfl) (Nat.le_of_ble_eq_true rfl) dL_users_16
set_option maxHeartbeats 4000000 in
set_option maxRecDepth 100000 in
theorem c_L_held (l : Launch) (hlf : l.stackTraces = false) (ids : gIds) (ad : gAd) (κ : gMem) (a : Int32) (hV : cV ids) (hW : cWF ids κ) (h18 : (18, 0) ∈ ids) : gMi l yL_held wsL_held ({ frames := 8, cells := 8, slots := 64, locals := 132 } : Room) 8 64 [.ref (ad 7 0), .int a, .ref (ad 18 0)] (ids, ad, gk κ) (fun k u => (sRdT κ a = 0 ∧ k = 0 ∧ u = (ids, ad, gk (upd3 (κ) 18 0 0 (κ 3 (tN a) 7)))) ∨ (¬ sRdT κ a = 0 ∧ k = sRdT κ a ∧ u = (ids, ad, gk κ))) := by
  intro D aC A
  refine g_ofH (cc := cL_held) (maxL := 4) (ret := (some .int)) (hh := [(0, 9, 12, 13)]) (by decide +kernel) rfl (Nat.le_of_ble_eq_true rfl) ?_
  intro p e s m below meth c ls S G hF hr hlk htab hl
  have hl : lv_has ls 4 [(0, _), (1, _), (2, _)] := hl
  refine lv_aload_n S.1 S.2.1 dL_held_0 rfl (lv_at hl 2 rfl) ?_
  refine lv_iconst (v := 0) S.1 S.2.1 dL_held_1 (by decide) ?_
  refine lv_aload_n S.1 S.2.1 dL_held_2 rfl (lv_at hl 0 rfl) ?_
  refine lv_iload_n S.1 S.2.1 dL_held_3 rfl (lv_at hl 1 rfl) ?_
  refine gx_cVi S G hF hl 7 (hV 7 0 (by decide)) (by decide) (c_X6_held l hlf ids ad _ _ hV hW) (cwV 1 S.2.2.2.2 gL_held_X6_held rfl rfl rfl (by decide +kernel) ⟨Nat.le_of_ble_eq_true rfl, Nat.le_of_ble_eq_true rfl⟩) rfl rfl (Nat.le_of_ble_eq_true rfl) dL_held_4 ⟨Nat.le_of_ble_eq_true rfl, Nat.le_of_ble_eq_true rfl⟩ ?_ ?_
  · intro E ce q9 u H1 locs1 hp G h1 h2 h3
    obtain ⟨hxe, rfl⟩ := hp
    have G : gS D aC A s ids ad (gk κ) H1 locs1 := G
    rcases hxe with ⟨rfl, hT⟩ | ⟨rfl, hT⟩ | ⟨rfl, hT⟩
    · refine g_catch (cc := cL_held) S hF ([] : List ExceptionTableEntry) ⟨0, 9, 12, 13⟩ [] htab (fun z hz => absurd hz List.not_mem_nil) rfl (by decide) (by decide +kernel) (by decide) h1 h2 h3 ?_
      refine lv_astore_n (lv' := [(3, _), (0, _), (1, _), (2, _)]) S.1 S.2.1 dL_held_12 rfl hl (by decide) rfl (fun ls hl => ?_)
      refine lv_iconst (v := 1) S.1 S.2.1 dL_held_13 (by decide) ?_
      exact g_iret S G hr hlk (Or.inr ⟨i32_b1 hT, hT.symm, rfl⟩) (Nat.le_of_ble_eq_true rfl) (Nat.le_of_ble_eq_true rfl) dL_held_14
    · exact (sRdT_n2 hT).elim
    · exact (sRdT_n3 hT).elim
  · intro r u H locs hp G
    obtain ⟨hT, rfl, rfl⟩ := hp
    have G : gS D aC A s _ _ (gk (κ)) H locs := G
    refine lv_i2l S.1 S.2.1 dL_held_7 rfl ?_
    refine k_last (j := 0) S G 18 h18 rfl rfl rfl rfl (by decide) dL_held_8 (fun H locs G => ?_)
    refine lv_goto (tgt := 15) S.1 S.2.1 dL_held_9 (by decide) ?_
    refine lv_iconst (v := 0) S.1 S.2.1 dL_held_15 (by decide) ?_
    exact g_iret S G hr hlk (Or.inl ⟨hT, rfl, rfl⟩) (Nat.le_of_ble_eq_true rfl) (Nat.le_of_ble_eq_true rfl) dL_held_16
set_option maxHeartbeats 4000000 in
set_option maxRecDepth 100000 in
theorem c_L_middle (l : Launch) (hlf : l.stackTraces = false) (ids : gIds) (ad : gAd) (κ : gMem) (a : Int32) (hV : cV ids) (hW : cWF ids κ) (h18 : (18, 0) ∈ ids) : gMi l yL_middle wsL_middle ({ frames := 8, cells := 8, slots := 64, locals := 133 } : Room) 8 64 [.ref (ad 7 0), .int a, .ref (ad 18 0)] (ids, ad, gk κ) (fun k u => (sRdT κ a = 0 ∧ k = 0 ∧ u = (ids, ad, gk (upd3 (κ) 18 0 0 (sMidA κ (tN a))))) ∨ (¬ sRdT κ a = 0 ∧ k = sRdT κ a ∧ u = (ids, ad, gk κ))) := by
  intro D aC A
  refine g_ofH (cc := cL_middle) (maxL := 4) (ret := (some .int)) (hh := [(0, 9, 12, 13)]) (by decide +kernel) rfl (Nat.le_of_ble_eq_true rfl) ?_
  intro p e s m below meth c ls S G hF hr hlk htab hl
  have hl : lv_has ls 4 [(0, _), (1, _), (2, _)] := hl
  refine lv_aload_n S.1 S.2.1 dL_middle_0 rfl (lv_at hl 2 rfl) ?_
  refine lv_iconst (v := 0) S.1 S.2.1 dL_middle_1 (by decide) ?_
  refine lv_aload_n S.1 S.2.1 dL_middle_2 rfl (lv_at hl 0 rfl) ?_
  refine lv_iload_n S.1 S.2.1 dL_middle_3 rfl (lv_at hl 1 rfl) ?_
  refine gx_cVi S G hF hl 7 (hV 7 0 (by decide)) (by decide) (c_X6_middle l hlf ids ad _ _ hV hW) (cwV 1 S.2.2.2.2 gL_middle_X6_middle rfl rfl rfl (by decide +kernel) ⟨Nat.le_of_ble_eq_true rfl, Nat.le_of_ble_eq_true rfl⟩) rfl rfl (Nat.le_of_ble_eq_true rfl) dL_middle_4 ⟨Nat.le_of_ble_eq_true rfl, Nat.le_of_ble_eq_true rfl⟩ ?_ ?_
  · intro E ce q9 u H1 locs1 hp G h1 h2 h3
    obtain ⟨hxe, rfl⟩ := hp
    have G : gS D aC A s ids ad (gk κ) H1 locs1 := G
    rcases hxe with ⟨rfl, hT⟩ | ⟨rfl, hT⟩ | ⟨rfl, hT⟩
    · refine g_catch (cc := cL_middle) S hF ([] : List ExceptionTableEntry) ⟨0, 9, 12, 13⟩ [] htab (fun z hz => absurd hz List.not_mem_nil) rfl (by decide) (by decide +kernel) (by decide) h1 h2 h3 ?_
      refine lv_astore_n (lv' := [(3, _), (0, _), (1, _), (2, _)]) S.1 S.2.1 dL_middle_12 rfl hl (by decide) rfl (fun ls hl => ?_)
      refine lv_iconst (v := 1) S.1 S.2.1 dL_middle_13 (by decide) ?_
      exact g_iret S G hr hlk (Or.inr ⟨i32_b1 hT, hT.symm, rfl⟩) (Nat.le_of_ble_eq_true rfl) (Nat.le_of_ble_eq_true rfl) dL_middle_14
    · exact (sRdT_n2 hT).elim
    · exact (sRdT_n3 hT).elim
  · intro r u H locs hp G
    obtain ⟨hT, rfl, rfl⟩ := hp
    have G : gS D aC A s _ _ (gk (κ)) H locs := G
    refine lv_i2l S.1 S.2.1 dL_middle_7 rfl ?_
    refine k_last (j := 0) S G 18 h18 rfl rfl rfl rfl (by decide) dL_middle_8 (fun H locs G => ?_)
    refine lv_goto (tgt := 15) S.1 S.2.1 dL_middle_9 (by decide) ?_
    refine lv_iconst (v := 0) S.1 S.2.1 dL_middle_15 (by decide) ?_
    exact g_iret S G hr hlk (Or.inl ⟨hT, rfl, rfl⟩) (Nat.le_of_ble_eq_true rfl) (Nat.le_of_ble_eq_true rfl) dL_middle_16
set_option maxHeartbeats 4000000 in
set_option maxRecDepth 100000 in
theorem c_L_textAt (l : Launch) (hlf : l.stackTraces = false) (ids : gIds) (ad : gAd) (κ : gMem) (a b : Int32) (hV : cV ids) (hW : cWF ids κ) (hI : cI ids κ) (htx : tN a < tN (κ 7 0 4) → ixL (κ 3 (tN a) 1) 100) (h18 : (18, 0) ∈ ids) : gMi l yL_textAt wsL_textAt ({ frames := 8, cells := 8, slots := 64, locals := 135 } : Room) 8 64 [.ref (ad 7 0), .int a, .int b, .ref (ad 18 0)] (ids, ad, gk κ) (fun k u => (sTextT κ a b = 0 ∧ k = 0 ∧ u = (ids, ad, gk (upd3 (κ) 18 0 0 (sText κ (tN a) b)))) ∨ (¬ sTextT κ a b = 0 ∧ k = sTextT κ a b ∧ u = (ids, ad, gk κ))) := by
  intro D aC A
  refine g_ofH (cc := cL_textAt) (maxL := 5) (ret := (some .int)) (hh := [(0, 10, 13, 13)]) (by decide +kernel) rfl (Nat.le_of_ble_eq_true rfl) ?_
  intro p e s m below meth c ls S G hF hr hlk htab hl
  have hl : lv_has ls 5 [(0, _), (1, _), (2, _), (3, _)] := hl
  refine lv_aload_n S.1 S.2.1 dL_textAt_0 rfl (lv_at hl 3 rfl) ?_
  refine lv_iconst (v := 0) S.1 S.2.1 dL_textAt_1 (by decide) ?_
  refine lv_aload_n S.1 S.2.1 dL_textAt_2 rfl (lv_at hl 0 rfl) ?_
  refine lv_iload_n S.1 S.2.1 dL_textAt_3 rfl (lv_at hl 1 rfl) ?_
  refine lv_iload_n S.1 S.2.1 dL_textAt_4 rfl (lv_at hl 2 rfl) ?_
  refine gx_cVi S G hF hl 7 (hV 7 0 (by decide)) (by decide) (c_X6_textAt l hlf ids ad _ _ _ hV hW hI htx) (cwV 2 S.2.2.2.2 gL_textAt_X6_textAt rfl rfl rfl (by decide +kernel) ⟨Nat.le_of_ble_eq_true rfl, Nat.le_of_ble_eq_true rfl⟩) rfl rfl (Nat.le_of_ble_eq_true rfl) dL_textAt_5 ⟨Nat.le_of_ble_eq_true rfl, Nat.le_of_ble_eq_true rfl⟩ ?_ ?_
  · intro E ce q9 u H1 locs1 hp G h1 h2 h3
    obtain ⟨hxe, rfl⟩ := hp
    have G : gS D aC A s ids ad (gk κ) H1 locs1 := G
    rcases hxe with ⟨rfl, hT⟩ | ⟨rfl, hT⟩ | ⟨rfl, hT⟩
    · refine g_catch (cc := cL_textAt) S hF ([] : List ExceptionTableEntry) ⟨0, 10, 13, 13⟩ [] htab (fun z hz => absurd hz List.not_mem_nil) rfl (by decide) (by decide +kernel) (by decide) h1 h2 h3 ?_
      refine lv_astore (lv' := [(4, _), (0, _), (1, _), (2, _), (3, _)]) S.1 S.2.1 dL_textAt_13 hl (by decide) rfl (fun ls hl => ?_)
      refine lv_iconst (v := 1) S.1 S.2.1 dL_textAt_15 (by decide) ?_
      exact g_iret S G hr hlk (Or.inr ⟨i32_b1 hT, hT.symm, rfl⟩) (Nat.le_of_ble_eq_true rfl) (Nat.le_of_ble_eq_true rfl) dL_textAt_16
    · exact (sTextT_n2 hT).elim
    · exact (sTextT_n3 hT).elim
  · intro r u H locs hp G
    obtain ⟨hT, rfl, rfl⟩ := hp
    have G : gS D aC A s _ _ (gk (κ)) H locs := G
    refine lv_i2l S.1 S.2.1 dL_textAt_8 rfl ?_
    refine k_last (j := 0) S G 18 h18 rfl rfl rfl rfl (by decide) dL_textAt_9 (fun H locs G => ?_)
    refine lv_goto (tgt := 17) S.1 S.2.1 dL_textAt_10 (by decide) ?_
    refine lv_iconst (v := 0) S.1 S.2.1 dL_textAt_17 (by decide) ?_
    exact g_iret S G hr hlk (Or.inl ⟨hT, rfl, rfl⟩) (Nat.le_of_ble_eq_true rfl) (Nat.le_of_ble_eq_true rfl) dL_textAt_18
set_option maxHeartbeats 4000000 in
set_option maxRecDepth 100000 in
theorem c_L_bond (l : Launch) (hlf : l.stackTraces = false) (ids : gIds) (ad : gAd) (κ : gMem) (a : Int32) (hV : cV ids) (h18 : (18, 0) ∈ ids) : gMi l yL_bond wsL_bond ({ frames := 8, cells := 8, slots := 64, locals := 132 } : Room) 8 64 [.ref (ad 7 0), .int a, .ref (ad 18 0)] (ids, ad, gk κ) (fun k u => (mOneT a 11 = 0 ∧ k = 0 ∧ u = (ids, ad, gk (upd3 (κ) 18 0 0 (κ 5 (tN a) 3)))) ∨ (¬ mOneT a 11 = 0 ∧ k = mOneT a 11 ∧ u = (ids, ad, gk κ))) := by
  intro D aC A
  refine g_ofH (cc := cL_bond) (maxL := 4) (ret := (some .int)) (hh := [(0, 9, 12, 13)]) (by decide +kernel) rfl (Nat.le_of_ble_eq_true rfl) ?_
  intro p e s m below meth c ls S G hF hr hlk htab hl
  have hl : lv_has ls 4 [(0, _), (1, _), (2, _)] := hl
  refine lv_aload_n S.1 S.2.1 dL_bond_0 rfl (lv_at hl 2 rfl) ?_
  refine lv_iconst (v := 0) S.1 S.2.1 dL_bond_1 (by decide) ?_
  refine lv_aload_n S.1 S.2.1 dL_bond_2 rfl (lv_at hl 0 rfl) ?_
  refine lv_iload_n S.1 S.2.1 dL_bond_3 rfl (lv_at hl 1 rfl) ?_
  refine gx_cVi S G hF hl 7 (hV 7 0 (by decide)) (by decide) (c_X6_bond l hlf ids ad _ _ hV) (cwV 1 S.2.2.2.2 gL_bond_X6_bond rfl rfl rfl (by decide +kernel) ⟨Nat.le_of_ble_eq_true rfl, Nat.le_of_ble_eq_true rfl⟩) rfl rfl (Nat.le_of_ble_eq_true rfl) dL_bond_4 ⟨Nat.le_of_ble_eq_true rfl, Nat.le_of_ble_eq_true rfl⟩ ?_ ?_
  · intro E ce q9 u H1 locs1 hp G h1 h2 h3
    obtain ⟨hxe, rfl⟩ := hp
    have G : gS D aC A s ids ad (gk κ) H1 locs1 := G
    rcases hxe with ⟨rfl, hT⟩ | ⟨rfl, hT⟩ | ⟨rfl, hT⟩
    · refine g_catch (cc := cL_bond) S hF ([] : List ExceptionTableEntry) ⟨0, 9, 12, 13⟩ [] htab (fun z hz => absurd hz List.not_mem_nil) rfl (by decide) (by decide +kernel) (by decide) h1 h2 h3 ?_
      refine lv_astore_n (lv' := [(3, _), (0, _), (1, _), (2, _)]) S.1 S.2.1 dL_bond_12 rfl hl (by decide) rfl (fun ls hl => ?_)
      refine lv_iconst (v := 1) S.1 S.2.1 dL_bond_13 (by decide) ?_
      exact g_iret S G hr hlk (Or.inr ⟨i32_b1 hT, hT.symm, rfl⟩) (Nat.le_of_ble_eq_true rfl) (Nat.le_of_ble_eq_true rfl) dL_bond_14
    · exact (mOneT_n2 hT).elim
    · exact (mOneT_n3 hT).elim
  · intro r u H locs hp G
    obtain ⟨hT, rfl, rfl⟩ := hp
    have G : gS D aC A s _ _ (gk (κ)) H locs := G
    refine lv_i2l S.1 S.2.1 dL_bond_7 rfl ?_
    refine k_last (j := 0) S G 18 h18 rfl rfl rfl rfl (by decide) dL_bond_8 (fun H locs G => ?_)
    refine lv_goto (tgt := 15) S.1 S.2.1 dL_bond_9 (by decide) ?_
    refine lv_iconst (v := 0) S.1 S.2.1 dL_bond_15 (by decide) ?_
    exact g_iret S G hr hlk (Or.inl ⟨hT, rfl, rfl⟩) (Nat.le_of_ble_eq_true rfl) (Nat.le_of_ble_eq_true rfl) dL_bond_16
set_option maxHeartbeats 4000000 in
set_option maxRecDepth 100000 in
theorem c_L_bondByCuts (l : Launch) (hlf : l.stackTraces = false) (ids : gIds) (ad : gAd) (κ : gMem) (a : Int32) (hV : cV ids) (hW : cWF ids κ) (h18 : (18, 0) ∈ ids) : gMi l yL_bondByCuts wsL_bondByCuts ({ frames := 8, cells := 8, slots := 64, locals := 135 } : Room) 8 64 [.ref (ad 7 0), .int a, .ref (ad 18 0)] (ids, ad, gk κ) (fun k u => (mOneT a 11 = 0 ∧ k = 0 ∧ u = (ids, ad, gk (upd3 (κ) 18 0 0 (sCuts κ (tN a) (tN (κ 7 0 4)))))) ∨ (¬ mOneT a 11 = 0 ∧ k = mOneT a 11 ∧ u = (ids, ad, gk κ))) := by
  intro D aC A
  refine g_ofH (cc := cL_bondByCuts) (maxL := 4) (ret := (some .int)) (hh := [(0, 9, 12, 13)]) (by decide +kernel) rfl (Nat.le_of_ble_eq_true rfl) ?_
  intro p e s m below meth c ls S G hF hr hlk htab hl
  have hl : lv_has ls 4 [(0, _), (1, _), (2, _)] := hl
  refine lv_aload_n S.1 S.2.1 dL_bondByCuts_0 rfl (lv_at hl 2 rfl) ?_
  refine lv_iconst (v := 0) S.1 S.2.1 dL_bondByCuts_1 (by decide) ?_
  refine lv_aload_n S.1 S.2.1 dL_bondByCuts_2 rfl (lv_at hl 0 rfl) ?_
  refine lv_iload_n S.1 S.2.1 dL_bondByCuts_3 rfl (lv_at hl 1 rfl) ?_
  refine gx_cVi S G hF hl 7 (hV 7 0 (by decide)) (by decide) (c_X6_bondByCuts l hlf ids ad _ _ hV hW) (cwV 1 S.2.2.2.2 gL_bondByCuts_X6_bondByCuts rfl rfl rfl (by decide +kernel) ⟨Nat.le_of_ble_eq_true rfl, Nat.le_of_ble_eq_true rfl⟩) rfl rfl (Nat.le_of_ble_eq_true rfl) dL_bondByCuts_4 ⟨Nat.le_of_ble_eq_true rfl, Nat.le_of_ble_eq_true rfl⟩ ?_ ?_
  · intro E ce q9 u H1 locs1 hp G h1 h2 h3
    obtain ⟨hxe, rfl⟩ := hp
    have G : gS D aC A s ids ad (gk κ) H1 locs1 := G
    rcases hxe with ⟨rfl, hT⟩ | ⟨rfl, hT⟩ | ⟨rfl, hT⟩
    · refine g_catch (cc := cL_bondByCuts) S hF ([] : List ExceptionTableEntry) ⟨0, 9, 12, 13⟩ [] htab (fun z hz => absurd hz List.not_mem_nil) rfl (by decide) (by decide +kernel) (by decide) h1 h2 h3 ?_
      refine lv_astore_n (lv' := [(3, _), (0, _), (1, _), (2, _)]) S.1 S.2.1 dL_bondByCuts_12 rfl hl (by decide) rfl (fun ls hl => ?_)
      refine lv_iconst (v := 1) S.1 S.2.1 dL_bondByCuts_13 (by decide) ?_
      exact g_iret S G hr hlk (Or.inr ⟨i32_b1 hT, hT.symm, rfl⟩) (Nat.le_of_ble_eq_true rfl) (Nat.le_of_ble_eq_true rfl) dL_bondByCuts_14
    · exact (mOneT_n2 hT).elim
    · exact (mOneT_n3 hT).elim
  · intro r u H locs hp G
    obtain ⟨hT, rfl, rfl⟩ := hp
    have G : gS D aC A s _ _ (gk (κ)) H locs := G
    refine lv_i2l S.1 S.2.1 dL_bondByCuts_7 rfl ?_
    refine k_last (j := 0) S G 18 h18 rfl rfl rfl rfl (by decide) dL_bondByCuts_8 (fun H locs G => ?_)
    refine lv_goto (tgt := 15) S.1 S.2.1 dL_bondByCuts_9 (by decide) ?_
    refine lv_iconst (v := 0) S.1 S.2.1 dL_bondByCuts_15 (by decide) ?_
    exact g_iret S G hr hlk (Or.inl ⟨hT, rfl, rfl⟩) (Nat.le_of_ble_eq_true rfl) (Nat.le_of_ble_eq_true rfl) dL_bondByCuts_16
set_option maxHeartbeats 4000000 in
set_option maxRecDepth 100000 in
theorem c_L_earned (l : Launch) (hlf : l.stackTraces = false) (ids : gIds) (ad : gAd) (κ : gMem) (a : Int32) (hV : cV ids) (h18 : (18, 0) ∈ ids) : gMi l yL_earned wsL_earned ({ frames := 8, cells := 8, slots := 64, locals := 132 } : Room) 8 64 [.ref (ad 7 0), .int a, .ref (ad 18 0)] (ids, ad, gk κ) (fun k u => (mOneT a 11 = 0 ∧ k = 0 ∧ u = (ids, ad, gk (upd3 (κ) 18 0 0 (κ 5 (tN a) 4)))) ∨ (¬ mOneT a 11 = 0 ∧ k = mOneT a 11 ∧ u = (ids, ad, gk κ))) := by
  intro D aC A
  refine g_ofH (cc := cL_earned) (maxL := 4) (ret := (some .int)) (hh := [(0, 9, 12, 13)]) (by decide +kernel) rfl (Nat.le_of_ble_eq_true rfl) ?_
  intro p e s m below meth c ls S G hF hr hlk htab hl
  have hl : lv_has ls 4 [(0, _), (1, _), (2, _)] := hl
  refine lv_aload_n S.1 S.2.1 dL_earned_0 rfl (lv_at hl 2 rfl) ?_
  refine lv_iconst (v := 0) S.1 S.2.1 dL_earned_1 (by decide) ?_
  refine lv_aload_n S.1 S.2.1 dL_earned_2 rfl (lv_at hl 0 rfl) ?_
  refine lv_iload_n S.1 S.2.1 dL_earned_3 rfl (lv_at hl 1 rfl) ?_
  refine gx_cVi S G hF hl 7 (hV 7 0 (by decide)) (by decide) (c_X6_earned l hlf ids ad _ _ hV) (cwV 1 S.2.2.2.2 gL_earned_X6_earned rfl rfl rfl (by decide +kernel) ⟨Nat.le_of_ble_eq_true rfl, Nat.le_of_ble_eq_true rfl⟩) rfl rfl (Nat.le_of_ble_eq_true rfl) dL_earned_4 ⟨Nat.le_of_ble_eq_true rfl, Nat.le_of_ble_eq_true rfl⟩ ?_ ?_
  · intro E ce q9 u H1 locs1 hp G h1 h2 h3
    obtain ⟨hxe, rfl⟩ := hp
    have G : gS D aC A s ids ad (gk κ) H1 locs1 := G
    rcases hxe with ⟨rfl, hT⟩ | ⟨rfl, hT⟩ | ⟨rfl, hT⟩
    · refine g_catch (cc := cL_earned) S hF ([] : List ExceptionTableEntry) ⟨0, 9, 12, 13⟩ [] htab (fun z hz => absurd hz List.not_mem_nil) rfl (by decide) (by decide +kernel) (by decide) h1 h2 h3 ?_
      refine lv_astore_n (lv' := [(3, _), (0, _), (1, _), (2, _)]) S.1 S.2.1 dL_earned_12 rfl hl (by decide) rfl (fun ls hl => ?_)
      refine lv_iconst (v := 1) S.1 S.2.1 dL_earned_13 (by decide) ?_
      exact g_iret S G hr hlk (Or.inr ⟨i32_b1 hT, hT.symm, rfl⟩) (Nat.le_of_ble_eq_true rfl) (Nat.le_of_ble_eq_true rfl) dL_earned_14
    · exact (mOneT_n2 hT).elim
    · exact (mOneT_n3 hT).elim
  · intro r u H locs hp G
    obtain ⟨hT, rfl, rfl⟩ := hp
    have G : gS D aC A s _ _ (gk (κ)) H locs := G
    refine lv_i2l S.1 S.2.1 dL_earned_7 rfl ?_
    refine k_last (j := 0) S G 18 h18 rfl rfl rfl rfl (by decide) dL_earned_8 (fun H locs G => ?_)
    refine lv_goto (tgt := 15) S.1 S.2.1 dL_earned_9 (by decide) ?_
    refine lv_iconst (v := 0) S.1 S.2.1 dL_earned_15 (by decide) ?_
    exact g_iret S G hr hlk (Or.inl ⟨hT, rfl, rfl⟩) (Nat.le_of_ble_eq_true rfl) (Nat.le_of_ble_eq_true rfl) dL_earned_16
set_option maxHeartbeats 4000000 in
set_option maxRecDepth 100000 in
theorem c_L_mark (l : Launch) (hlf : l.stackTraces = false) (ids : gIds) (ad : gAd) (κ : gMem) (a : Int32) (hV : cV ids) (hW : cWF ids κ) (h18 : (18, 0) ∈ ids) : gMi l yL_mark wsL_mark ({ frames := 8, cells := 8, slots := 64, locals := 135 } : Room) 8 64 [.ref (ad 7 0), .int a, .ref (ad 18 0)] (ids, ad, gk κ) (fun k u => (mOneT a 11 = 0 ∧ k = 0 ∧ u = (ids, ad, gk (upd3 (κ) 18 0 0 (sMark κ (tN a) (tN (κ 7 0 4)))))) ∨ (¬ mOneT a 11 = 0 ∧ k = mOneT a 11 ∧ u = (ids, ad, gk κ))) := by
  intro D aC A
  refine g_ofH (cc := cL_mark) (maxL := 4) (ret := (some .int)) (hh := [(0, 9, 12, 13)]) (by decide +kernel) rfl (Nat.le_of_ble_eq_true rfl) ?_
  intro p e s m below meth c ls S G hF hr hlk htab hl
  have hl : lv_has ls 4 [(0, _), (1, _), (2, _)] := hl
  refine lv_aload_n S.1 S.2.1 dL_mark_0 rfl (lv_at hl 2 rfl) ?_
  refine lv_iconst (v := 0) S.1 S.2.1 dL_mark_1 (by decide) ?_
  refine lv_aload_n S.1 S.2.1 dL_mark_2 rfl (lv_at hl 0 rfl) ?_
  refine lv_iload_n S.1 S.2.1 dL_mark_3 rfl (lv_at hl 1 rfl) ?_
  refine gx_cVi S G hF hl 7 (hV 7 0 (by decide)) (by decide) (c_X6_mark l hlf ids ad _ _ hV hW) (cwV 1 S.2.2.2.2 gL_mark_X6_mark rfl rfl rfl (by decide +kernel) ⟨Nat.le_of_ble_eq_true rfl, Nat.le_of_ble_eq_true rfl⟩) rfl rfl (Nat.le_of_ble_eq_true rfl) dL_mark_4 ⟨Nat.le_of_ble_eq_true rfl, Nat.le_of_ble_eq_true rfl⟩ ?_ ?_
  · intro E ce q9 u H1 locs1 hp G h1 h2 h3
    obtain ⟨hxe, rfl⟩ := hp
    have G : gS D aC A s ids ad (gk κ) H1 locs1 := G
    rcases hxe with ⟨rfl, hT⟩ | ⟨rfl, hT⟩ | ⟨rfl, hT⟩
    · refine g_catch (cc := cL_mark) S hF ([] : List ExceptionTableEntry) ⟨0, 9, 12, 13⟩ [] htab (fun z hz => absurd hz List.not_mem_nil) rfl (by decide) (by decide +kernel) (by decide) h1 h2 h3 ?_
      refine lv_astore_n (lv' := [(3, _), (0, _), (1, _), (2, _)]) S.1 S.2.1 dL_mark_12 rfl hl (by decide) rfl (fun ls hl => ?_)
      refine lv_iconst (v := 1) S.1 S.2.1 dL_mark_13 (by decide) ?_
      exact g_iret S G hr hlk (Or.inr ⟨i32_b1 hT, hT.symm, rfl⟩) (Nat.le_of_ble_eq_true rfl) (Nat.le_of_ble_eq_true rfl) dL_mark_14
    · exact (mOneT_n2 hT).elim
    · exact (mOneT_n3 hT).elim
  · intro r u H locs hp G
    obtain ⟨hT, rfl, rfl⟩ := hp
    have G : gS D aC A s _ _ (gk (κ)) H locs := G
    refine lv_i2l S.1 S.2.1 dL_mark_7 rfl ?_
    refine k_last (j := 0) S G 18 h18 rfl rfl rfl rfl (by decide) dL_mark_8 (fun H locs G => ?_)
    refine lv_goto (tgt := 15) S.1 S.2.1 dL_mark_9 (by decide) ?_
    refine lv_iconst (v := 0) S.1 S.2.1 dL_mark_15 (by decide) ?_
    exact g_iret S G hr hlk (Or.inl ⟨hT, rfl, rfl⟩) (Nat.le_of_ble_eq_true rfl) (Nat.le_of_ble_eq_true rfl) dL_mark_16
set_option maxHeartbeats 4000000 in
set_option maxRecDepth 100000 in
theorem c_L_purse (l : Launch) (hlf : l.stackTraces = false) (ids : gIds) (ad : gAd) (κ : gMem) (a : Int32) (hV : cV ids) (h18 : (18, 0) ∈ ids) : gMi l yL_purse wsL_purse ({ frames := 8, cells := 8, slots := 64, locals := 132 } : Room) 8 64 [.ref (ad 7 0), .int a, .ref (ad 18 0)] (ids, ad, gk κ) (fun k u => (mOneT a 5 = 0 ∧ k = 0 ∧ u = (ids, ad, gk (upd3 (κ) 18 0 0 (κ 1 (tN a) 0)))) ∨ (¬ mOneT a 5 = 0 ∧ k = mOneT a 5 ∧ u = (ids, ad, gk κ))) := by
  intro D aC A
  refine g_ofH (cc := cL_purse) (maxL := 4) (ret := (some .int)) (hh := [(0, 9, 12, 13)]) (by decide +kernel) rfl (Nat.le_of_ble_eq_true rfl) ?_
  intro p e s m below meth c ls S G hF hr hlk htab hl
  have hl : lv_has ls 4 [(0, _), (1, _), (2, _)] := hl
  refine lv_aload_n S.1 S.2.1 dL_purse_0 rfl (lv_at hl 2 rfl) ?_
  refine lv_iconst (v := 0) S.1 S.2.1 dL_purse_1 (by decide) ?_
  refine lv_aload_n S.1 S.2.1 dL_purse_2 rfl (lv_at hl 0 rfl) ?_
  refine lv_iload_n S.1 S.2.1 dL_purse_3 rfl (lv_at hl 1 rfl) ?_
  refine gx_cVi S G hF hl 7 (hV 7 0 (by decide)) (by decide) (c_X6_purse l hlf ids ad _ _ hV) (cwV 1 S.2.2.2.2 gL_purse_X6_purse rfl rfl rfl (by decide +kernel) ⟨Nat.le_of_ble_eq_true rfl, Nat.le_of_ble_eq_true rfl⟩) rfl rfl (Nat.le_of_ble_eq_true rfl) dL_purse_4 ⟨Nat.le_of_ble_eq_true rfl, Nat.le_of_ble_eq_true rfl⟩ ?_ ?_
  · intro E ce q9 u H1 locs1 hp G h1 h2 h3
    obtain ⟨hxe, rfl⟩ := hp
    have G : gS D aC A s ids ad (gk κ) H1 locs1 := G
    rcases hxe with ⟨rfl, hT⟩ | ⟨rfl, hT⟩ | ⟨rfl, hT⟩
    · refine g_catch (cc := cL_purse) S hF ([] : List ExceptionTableEntry) ⟨0, 9, 12, 13⟩ [] htab (fun z hz => absurd hz List.not_mem_nil) rfl (by decide) (by decide +kernel) (by decide) h1 h2 h3 ?_
      refine lv_astore_n (lv' := [(3, _), (0, _), (1, _), (2, _)]) S.1 S.2.1 dL_purse_12 rfl hl (by decide) rfl (fun ls hl => ?_)
      refine lv_iconst (v := 1) S.1 S.2.1 dL_purse_13 (by decide) ?_
      exact g_iret S G hr hlk (Or.inr ⟨i32_b1 hT, hT.symm, rfl⟩) (Nat.le_of_ble_eq_true rfl) (Nat.le_of_ble_eq_true rfl) dL_purse_14
    · exact (mOneT_n2 hT).elim
    · exact (mOneT_n3 hT).elim
  · intro r u H locs hp G
    obtain ⟨hT, rfl, rfl⟩ := hp
    have G : gS D aC A s _ _ (gk (κ)) H locs := G
    refine lv_i2l S.1 S.2.1 dL_purse_7 rfl ?_
    refine k_last (j := 0) S G 18 h18 rfl rfl rfl rfl (by decide) dL_purse_8 (fun H locs G => ?_)
    refine lv_goto (tgt := 15) S.1 S.2.1 dL_purse_9 (by decide) ?_
    refine lv_iconst (v := 0) S.1 S.2.1 dL_purse_15 (by decide) ?_
    exact g_iret S G hr hlk (Or.inl ⟨hT, rfl, rfl⟩) (Nat.le_of_ble_eq_true rfl) (Nat.le_of_ble_eq_true rfl) dL_purse_16
set_option maxHeartbeats 4000000 in
set_option maxRecDepth 100000 in
theorem c_L_aside (l : Launch) (hlf : l.stackTraces = false) (ids : gIds) (ad : gAd) (κ : gMem) (a b : Int32) (hV : cV ids) (hW : cWF ids κ) (h18 : (18, 0) ∈ ids) : gMi l yL_aside wsL_aside ({ frames := 8, cells := 8, slots := 64, locals := 136 } : Room) 8 64 [.ref (ad 7 0), .int a, .int b, .ref (ad 18 0)] (ids, ad, gk κ) (fun k u => (mAsideT a b = 0 ∧ k = 0 ∧ u = (ids, ad, gk (upd3 (κ) 18 0 0 (sAside κ (tN a) (tN b))))) ∨ (¬ mAsideT a b = 0 ∧ k = mAsideT a b ∧ u = (ids, ad, gk κ))) := by
  intro D aC A
  refine g_ofH (cc := cL_aside) (maxL := 5) (ret := (some .int)) (hh := [(0, 10, 13, 13)]) (by decide +kernel) rfl (Nat.le_of_ble_eq_true rfl) ?_
  intro p e s m below meth c ls S G hF hr hlk htab hl
  have hl : lv_has ls 5 [(0, _), (1, _), (2, _), (3, _)] := hl
  refine lv_aload_n S.1 S.2.1 dL_aside_0 rfl (lv_at hl 3 rfl) ?_
  refine lv_iconst (v := 0) S.1 S.2.1 dL_aside_1 (by decide) ?_
  refine lv_aload_n S.1 S.2.1 dL_aside_2 rfl (lv_at hl 0 rfl) ?_
  refine lv_iload_n S.1 S.2.1 dL_aside_3 rfl (lv_at hl 1 rfl) ?_
  refine lv_iload_n S.1 S.2.1 dL_aside_4 rfl (lv_at hl 2 rfl) ?_
  refine gx_cVi S G hF hl 7 (hV 7 0 (by decide)) (by decide) (c_X6_aside l hlf ids ad _ _ _ hV hW) (cwV 2 S.2.2.2.2 gL_aside_X6_aside rfl rfl rfl (by decide +kernel) ⟨Nat.le_of_ble_eq_true rfl, Nat.le_of_ble_eq_true rfl⟩) rfl rfl (Nat.le_of_ble_eq_true rfl) dL_aside_5 ⟨Nat.le_of_ble_eq_true rfl, Nat.le_of_ble_eq_true rfl⟩ ?_ ?_
  · intro E ce q9 u H1 locs1 hp G h1 h2 h3
    obtain ⟨hxe, rfl⟩ := hp
    have G : gS D aC A s ids ad (gk κ) H1 locs1 := G
    rcases hxe with ⟨rfl, hT⟩ | ⟨rfl, hT⟩ | ⟨rfl, hT⟩
    · refine g_catch (cc := cL_aside) S hF ([] : List ExceptionTableEntry) ⟨0, 10, 13, 13⟩ [] htab (fun z hz => absurd hz List.not_mem_nil) rfl (by decide) (by decide +kernel) (by decide) h1 h2 h3 ?_
      refine lv_astore (lv' := [(4, _), (0, _), (1, _), (2, _), (3, _)]) S.1 S.2.1 dL_aside_13 hl (by decide) rfl (fun ls hl => ?_)
      refine lv_iconst (v := 1) S.1 S.2.1 dL_aside_15 (by decide) ?_
      exact g_iret S G hr hlk (Or.inr ⟨i32_b1 hT, hT.symm, rfl⟩) (Nat.le_of_ble_eq_true rfl) (Nat.le_of_ble_eq_true rfl) dL_aside_16
    · exact (mAsideT_n2 hT).elim
    · exact (mAsideT_n3 hT).elim
  · intro r u H locs hp G
    obtain ⟨hT, rfl, rfl⟩ := hp
    have G : gS D aC A s _ _ (gk (κ)) H locs := G
    refine lv_i2l S.1 S.2.1 dL_aside_8 rfl ?_
    refine k_last (j := 0) S G 18 h18 rfl rfl rfl rfl (by decide) dL_aside_9 (fun H locs G => ?_)
    refine lv_goto (tgt := 17) S.1 S.2.1 dL_aside_10 (by decide) ?_
    refine lv_iconst (v := 0) S.1 S.2.1 dL_aside_17 (by decide) ?_
    exact g_iret S G hr hlk (Or.inl ⟨hT, rfl, rfl⟩) (Nat.le_of_ble_eq_true rfl) (Nat.le_of_ble_eq_true rfl) dL_aside_18
