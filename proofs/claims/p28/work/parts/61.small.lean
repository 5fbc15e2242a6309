/-! ===== rows for the law's own methods ===== -/
theorem g_ofH {l : Launch} {y : MethodName} {ws ws' : List Cond} {rm : Room} {args : List Value} {σ : GSt} {Qc : Array Value → State → Outcome → State → Prop} {mc ms : Nat} {D : va_G} {aC : Nat → ClassId} {A : Nat → Prop} {cc : ByteArray} {maxL : Nat} {ret : Option FieldType} {hh : List (Nat × Nat × Nat × Nat)}
    (hy : plainName y.cls = true) (hw : ws = Cond.codeWith y cc maxL ret hh :: ws') (hlen : (lg_sl args).length ≤ maxL)
    (body : ∀ (p : Program) (e : Env) (s : State) (m : MethodId) (below : List Frame) (meth : Method) (c : Code) (ls : Array Slot), CallFix p m c cc maxL s args.toArray ws y.cls → gS D aC A s σ.1 σ.2.1 σ.2.2 s.heap [] → gF A s s.heap → meth.sig.returnType = ret → meth.locks = false → c.exceptionTable.toList = tableOf hh → lv_has ls maxL (lv_args 0 args) →
      W p l e (headSpec ws rm).room s m args.toArray below meth c s.heap [] 0 0 (MQ below Qc args.toArray s mc ms A) (F0 m 0 ls [])) : Met l y ws rm (va_Pc args (gU D aC A σ)) Qc mc ms A := by
  refine MetFree.of_bodyS (code := cc) (maxLocals := maxL) (ret := ret) hy ?_ ?_
  · intro args s m h hn
    obtain ⟨m9, meth, c, hn9, h1, h2, h3, h4, -, h5, h6, -⟩ := Cond.codeWith_spec (atoms_spec (ws := ws) h _ (by rw [hw]; exact List.mem_cons_self))
    cases hn.symm.trans hn9
    exact ⟨meth, c, h1, h2, h3, h4, h5, h6⟩
  · intro p e s m args' below meth c s₁ B hml hv _
    obtain ⟨rfl, hP, hD, hK, hA, hF⟩ := hv
    have hh0 : s₁.heap = s.heap := by rw [B.state]; rfl
    have htb := vx_table (x := y) (hh := hh) (bytes := cc) (maxL' := maxL) (ret' := ret) B (atoms_spec (ws := ws) B.pre _ (by rw [hw]; exact List.mem_cons_self))
    obtain ⟨t, a1, o, b1, b2, b3⟩ := (by
      rw [lg_entry_eq]
      exact body p e s m below meth c _ ⟨B.exec, B.bytes, hml, findClass_of_methodNamed B.named, atoms_spec (ws := ws) B.pre⟩ ⟨hP, hD, hK, va_S.rf, hA⟩ hF B.returns B.notSynchronized htb (lv_entry args hlen) : W p l e (headSpec ws rm).room s m args.toArray below meth c s.heap [] 0 0 (MQ below Qc args.toArray s mc ms A) (entryFrame m args.toArray maxL)) s₁ hh0 (Stand.of_body B)
    exact ⟨t, o, a1, b1, b2, ⟨b3.1, b3.2⟩⟩
section GLC
variable {p : Program} {l : Launch} {e : Env} {R : Room} {s : State} {m : MethodId} {args : Array Value} {below : List Frame} {meth : Method} {c : Code} {H : Heap} {locs : List Loc} {cells slots : Nat} {Q : State → Prop}
variable {cc bytes : ByteArray} {pc nL maxL index n mc ms : Nat} {ls : Array Slot} {rest st0 As : List Value} {lv : List (Nat × Value)} {Ts ws : List Cond} {own : String} {y : MethodName} {ret : Option FieldType} {rm : Room}
variable {D : va_G} {aC : Nat → ClassId} {A : Nat → Prop} {ids : gIds} {ad : gAd} {π : gMem}
theorem g_catch (S : CallFix p m c cc nL s args Ts own) (hF : gF A s s.heap) {E : String} {ce : Cell} {q : Addr} (pre : List ExceptionTableEntry) (x : ExceptionTableEntry) (suf : List ExceptionTableEntry) (htab : c.exceptionTable.toList = pre ++ x :: suf)
    (hpass : ∀ z ∈ pre, z.catchType ≠ 0 ∧ ∃ nm : String, Cond.classLink own z.catchType nm ∈ Ts ∧ (E, nm) ∈ gNX) (hx : covers x pc = true) (h0 : x.catchType ≠ 0) (hlk : Cond.classLink own x.catchType E ∈ Ts) (hc : (E, E) ∈ gNC) (h1 : H[q]? = some ce) (h2 : ce.vm = .none) (h3 : s.vm.findClass E = some ce.cls)
    (kk : W p l e R s m args below meth c H locs cells slots Q (F0 m x.handlerPc ls [.ref q])) : vx_W p l e R s m args below meth c H locs cells slots Q (F0 m pc ls rest) q :=
  vx_catch S.2.2.2.1 pre x suf htab (fun z hz => Or.inr ⟨(hpass z hz).1, (hpass z hz).2.imp fun nm h => ⟨S.2.2.2.2 _ h.1, hF.2.2.2.2.1 _ h.2⟩⟩) hx h0 (S.2.2.2.2 _ hlk) (va_Nw.use rfl (hF.2.2.1 _ hc)) h1 h2 h3 kk
theorem g_cSWi {hh : List (Nat × Nat × Nat × Nat)} (S : CallFix p m c cc nL s args Ts own) (G : gS D aC A s ids ad π H locs) (hF : gF A s s.heap) (hl : lv_has ls nL lv) {post : Int32 → GSt → Prop} (hM : gMi l y ws rm mc ms As (ids, ad, π) post) (cw : vx_CSW R s args own index y bytes maxL ret hh ws rm mc ms n) (hn : As.length = n) (hst : st0 = As.reverse ++ rest) (hroom : (rest.map fun v => v.category).sum ≤ 8) (hdg : decode cc pc = .ok (.invokestatic index, 3)) (hfit : cells + mc ≤ R.cells ∧ slots + ms ≤ R.slots)
    (kk : ∀ (r : Int32) (u : GSt) (H1 : Heap) (locs1 : List Loc), post r u → gS D aC A s u.1 u.2.1 u.2.2 H1 locs1 → W p l e R s m args below meth c H1 locs1 (cells + mc) (slots + ms) Q (F0 m (pc + 3) ls (.int r :: rest))) : W p l e R s m args below meth c H locs cells slots Q (F0 m pc ls st0) :=
  g_behi G (vx_runSW S (hM D aC A) cw (gPreS G hF) rfl hn hl.1 hst (lv_room hroom) hdg hfit) kk
end GLC
section LK
variable {p : Program} {l : Launch} {e : Env} {R : Room} {s : State} {m : MethodId} {args : Array Value} {below : List Frame} {meth : Method} {c : Code} {H : Heap} {locs : List Loc} {cells slots : Nat} {Q : State → Prop}
variable {cc : ByteArray} {pc nL : Nat} {ls : Array Slot} {rest : List Value} {Ts : List Cond} {own : String} {D : va_G} {aC : Nat → ClassId} {A : Nat → Prop} {ids : gIds} {ad : gAd} {π : gMem}
theorem g_scr (S : CallFix p m c cc nL s args Ts own) (G : gS D aC A s ids ad π H locs) {b L j : Nat} {xs : Nat → Int32} (hX : va_X b L xs s s.heap) (hbl : b < s.heap.size) (hbA : ¬ A b) {i : Int32} (hx : i = nI j) (hj : j < L) (hL : L ≤ 2048) (hdg : decode cc pc = .ok (.iaload, 1))
    (kk : W p l e R s m args below meth c H locs cells slots Q (F0 m (pc + 1) ls (.int (xs j) :: rest))) : W p l e R s m args below meth c H locs cells slots Q (F0 m pc ls (.int i :: .ref b :: rest)) := by
  obtain ⟨g1, g2⟩ := g_in hx hj (by omega)
  refine va_sld S.1 S.2.1 hX hbl hbA G.2.2.2.1 g1 hdg ?_
  rw [g2]; exact kk
end LK
/-! methods that take the script -/
def gUs (b L : Nat) (xs : Nat → Int32) (D : va_G) (aC : Nat → ClassId) (A : Nat → Prop) (σ : GSt) (U : State) : Prop := gU D aC A σ U ∧ va_X b L xs U U.heap ∧ b < U.heap.size ∧ ¬ A b
def gMs (b L : Nat) (xs : Nat → Int32) (l : Launch) (y : MethodName) (ws : List Cond) (rm : Room) (mc ms : Nat) (args : List Value) (σ : GSt) (post : Int32 → GSt → Prop) : Prop :=
  ∀ (D : va_G) (aC : Nat → ClassId) (A : Nat → Prop), Met l y ws rm (va_Pc args (gUs b L xs D aC A σ)) (va_Qi post (gE D aC A) A) mc ms A
theorem gUs.blind {b L : Nat} {xs : Nat → Int32} {D : va_G} {aC : Nat → ClassId} {A : Nat → Prop} {σ : GSt} {args : List Value} : FrameBlind (va_Pc args (gUs b L xs D aC A σ)) := by
  intro a U g mk h
  obtain ⟨rfl, ⟨h1, h2, h3, h4, h5⟩, hX, hb, hA⟩ := h
  exact ⟨rfl, ⟨h1, h2, va_K.moved (u := U) (U := U.calling g mk _) (Vm.Alike.refl U.vm) h3, h4, h5.same (s := U) (U := U.calling g mk _) rfl rfl⟩, va_X.moved (u := U) (U := U.calling g mk _) (Vm.Alike.refl U.vm) hX, hb, hA⟩
theorem gs_of {b L : Nat} {xs : Nat → Int32} {l : Launch} {y : MethodName} {ws ws' : List Cond} {rm : Room} {args : List Value} {σ : GSt} {Qc : Array Value → State → Outcome → State → Prop} {mc ms : Nat} {D : va_G} {aC : Nat → ClassId} {A : Nat → Prop} {cc : ByteArray} {maxL : Nat} {ret : Option FieldType}
    (hy : plainName y.cls = true) (hw : ws = Cond.code y cc maxL ret :: ws') (hlen : (lg_sl args).length ≤ maxL)
    (body : ∀ (p : Program) (e : Env) (s : State) (m : MethodId) (below : List Frame) (meth : Method) (c : Code) (ls : Array Slot), CallFix p m c cc maxL s args.toArray ws y.cls → gS D aC A s σ.1 σ.2.1 σ.2.2 s.heap [] → gF A s s.heap → va_X b L xs s s.heap → b < s.heap.size → ¬ A b → meth.sig.returnType = ret → meth.locks = false → lv_has ls maxL (lv_args 0 args) →
      W p l e (headSpec ws rm).room s m args.toArray below meth c s.heap [] 0 0 (MQ below Qc args.toArray s mc ms A) (F0 m 0 ls [])) : Met l y ws rm (va_Pc args (gUs b L xs D aC A σ)) Qc mc ms A := by
  refine Met.ofW (cc := cc) (maxL := maxL) (ret := ret) hy hw ?_
  intro p e s m args' below meth c s₁ B hml hv
  obtain ⟨rfl, ⟨hP, hD, hK, hA, hF⟩, hX, hb, hbA⟩ := hv
  rw [lg_entry_eq]
  exact body p e s m below meth c _ ⟨B.exec, B.bytes, hml, findClass_of_methodNamed B.named, atoms_spec (ws := ws) B.pre⟩ ⟨hP, hD, hK, va_S.rf, hA⟩ hF hX hb hbA B.returns B.notSynchronized (lv_entry args hlen)
section GSC
variable {p : Program} {l : Launch} {e : Env} {R : Room} {s : State} {m : MethodId} {args : Array Value} {below : List Frame} {meth : Method} {c : Code} {H : Heap} {locs : List Loc} {cells slots : Nat} {Q : State → Prop}
variable {cc bytes : ByteArray} {pc nL maxL index n mc ms : Nat} {ls : Array Slot} {rest st0 As : List Value} {lv : List (Nat × Value)} {Ts ws : List Cond} {own : String} {y : MethodName} {ret : Option FieldType} {rm : Room}
variable {D : va_G} {aC : Nat → ClassId} {A : Nat → Prop} {ids : gIds} {ad : gAd} {π : gMem}
theorem gsPreS {b L : Nat} {xs : Nat → Int32} (G : gS D aC A s ids ad π H locs) (hF : gF A s s.heap) (hX : va_X b L xs s s.heap) (hbl : b < s.heap.size) (hbA : ¬ A b) {As : List Value} : PreS s H (va_Pc As (gUs b L xs D aC A (ids, ad, π))) As := by
  refine ⟨gUs.blind, fun U hU hW => ⟨rfl, ⟨?_, G.2.1, va_K.moved hW.alike G.2.2.1, fun q hq => G.2.2.2.2 q (Nat.le_trans G.2.2.2.1.1 (by rw [← hU]; exact hq)), ?_⟩, ?_, ?_, hbA⟩⟩
  · rw [hU]; exact G.1
  · rw [hU]; exact hF.moved hW G.2.2.2.1
  · rw [hU]; exact va_X.moved hW.alike (hX.kept (G.2.2.2.1.2.1 b hbl hbA))
  · rw [hU]; exact Nat.lt_of_lt_of_le hbl G.2.2.2.1.1
theorem g_cSs {b L : Nat} {xs : Nat → Int32} (S : CallFix p m c cc nL s args Ts own) (G : gS D aC A s ids ad π H locs) (hF : gF A s s.heap) (hl : lv_has ls nL lv) (hX : va_X b L xs s s.heap) (hbl : b < s.heap.size) (hbA : ¬ A b) {post : Int32 → GSt → Prop} (hM : gMs b L xs l y ws rm mc ms As (ids, ad, π) post) (cw : CallB R s args own index y bytes maxL ret ws rm mc ms n ∧ (Cond.static y).before args s = true) (hn : As.length = n) (hst : st0 = As.reverse ++ rest) (hroom : (rest.map fun v => v.category).sum ≤ 8) (hdg : decode cc pc = .ok (.invokestatic index, 3)) (hfit : cells + mc ≤ R.cells ∧ slots + ms ≤ R.slots)
    (kk : ∀ (r : Int32) (u : GSt) (H1 : Heap) (locs1 : List Loc), post r u → gS D aC A s u.1 u.2.1 u.2.2 H1 locs1 → W p l e R s m args below meth c H1 locs1 (cells + mc) (slots + ms) Q (F0 m (pc + 3) ls (.int r :: rest))) : W p l e R s m args below meth c H locs cells slots Q (F0 m pc ls st0) :=
  g_behi G (va_runS S (hM D aC A) cw (gsPreS G hF hX hbl hbA) rfl hn hl.1 hst (lv_room hroom) hdg hfit) kk
theorem g_cs {k n : Nat} {g : JFrame} (hk : cells = k) (hn : slots = n) (kk : W p l e R s m args below meth c H locs k n Q g) : W p l e R s m args below meth c H locs cells slots Q g := by subst hk; subst hn; exact kk
end GSC
/-! remainders and quotients of small numbers -/
theorem jrem2 {X : Nat} (h : X < 2 ^ 31) : nI X - nI X / 2 * 2 = nI (X % 2) := pk_rem (d := 2) h (by decide) (by decide)
theorem jrem3 {X : Nat} (h : X < 2 ^ 31) : nI X - nI X / 3 * 3 = nI (X % 3) := pk_rem (d := 3) h (by decide) (by decide)
theorem jrem4 {X : Nat} (h : X < 2 ^ 31) : nI X - nI X / 4 * 4 = nI (X % 4) := pk_rem (d := 4) h (by decide) (by decide)
theorem jrem5 {X : Nat} (h : X < 2 ^ 31) : nI X - nI X / 5 * 5 = nI (X % 5) := pk_rem (d := 5) h (by decide) (by decide)
theorem jrem6 {X : Nat} (h : X < 2 ^ 31) : nI X - nI X / 6 * 6 = nI (X % 6) := pk_rem (d := 6) h (by decide) (by decide)
theorem jrem9 {X : Nat} (h : X < 2 ^ 31) : nI X - nI X / 9 * 9 = nI (X % 9) := pk_rem (d := 9) h (by decide) (by decide)
theorem jrem12 {X : Nat} (h : X < 2 ^ 31) : nI X - nI X / 12 * 12 = nI (X % 12) := pk_rem (d := 12) h (by decide) (by decide)
theorem jrem14 {X : Nat} (h : X < 2 ^ 31) : nI X - nI X / 14 * 14 = nI (X % 14) := pk_rem (d := 14) h (by decide) (by decide)
theorem jrem20 {X : Nat} (h : X < 2 ^ 31) : nI X - nI X / 20 * 20 = nI (X % 20) := pk_rem (d := 20) h (by decide) (by decide)
theorem jrem25 {X : Nat} (h : X < 2 ^ 31) : nI X - nI X / 25 * 25 = nI (X % 25) := pk_rem (d := 25) h (by decide) (by decide)
theorem jrem100 {X : Nat} (h : X < 2 ^ 31) : nI X - nI X / 100 * 100 = nI (X % 100) := pk_rem (d := 100) h (by decide) (by decide)
theorem jdiv4 {X : Nat} (h : X < 2 ^ 31) : nI X / 4 = nI (X / 4) := pk_div (d := 4) h (by decide) (by decide)
theorem jdiv6 {X : Nat} (h : X < 2 ^ 31) : nI X / 6 = nI (X / 6) := pk_div (d := 6) h (by decide) (by decide)
theorem jdiv8 {X : Nat} (h : X < 2 ^ 31) : nI X / 8 = nI (X / 8) := pk_div (d := 8) h (by decide) (by decide)
theorem jdiv10 {X : Nat} (h : X < 2 ^ 31) : nI X / 10 = nI (X / 10) := pk_div (d := 10) h (by decide) (by decide)
theorem jdiv12 {X : Nat} (h : X < 2 ^ 31) : nI X / 12 = nI (X / 12) := pk_div (d := 12) h (by decide) (by decide)
theorem jdiv36 {X : Nat} (h : X < 2 ^ 31) : nI X / 36 = nI (X / 36) := pk_div (d := 36) h (by decide) (by decide)
def lNb (a b : Int32) : Int32 := if (a - a / 4 * 4 - (b - b / 4 * 4)) * (a - a / 4 * 4 - (b - b / 4 * 4)) + (a / 4 - b / 4) * (a / 4 - b / 4) = 1 then 1 else 0
theorem lNb_eq : ∀ a, a < 12 → ∀ b, b < 12 → lNb (nI a) (nI b) = sNb (nI a) (nI b) := by decide +kernel
theorem lNb_sym : ∀ a, a < 12 → ∀ b, b < 12 → lNb (nI a) (nI b) = lNb (nI b) (nI a) := by decide +kernel
def nearD (s a : Nat) : Nat := ((List.range 12).find? (fun i => decide (lNb (nI ((a + i) % 12)) (nI s) = 1))).getD 12
theorem nearD_lt : ∀ s, s < 12 → ∀ a, a < 12 → lNb (nI a) (nI s) = 0 → nearD s ((a + 1) % 12) < nearD s a := by decide +kernel
/-- how many are near -/
def lNs (s : Nat) : Nat → Int32
  | 0 => 0
  | k + 1 => lNs s k + (if lNb (nI k) (nI s) = 0 then 0 else 1)
theorem lNs_eq : ∀ s, s < 12 → lNs s 12 = sNbs (nI s) 12 := by decide +kernel
set_option maxHeartbeats 4000000 in
set_option maxRecDepth 100000 in
theorem c_L_areNear (l : Launch) (ids : gIds) (ad : gAd) (κ : gMem) (a b : Int32)  : gMi l yL_areNear wsL_areNear ({ frames := 0, cells := 0, slots := 0, locals := 0 } : Room) 0 0 [.int a, .int b] (ids, ad, gk κ) (fun q u => q = lNb a b ∧ u = (ids, ad, gk (κ))) := by
  intro D aC A
  refine g_of (cc := cL_areNear) (maxL := 4) (ret := (some .boolean)) (by decide +kernel) rfl (Nat.le_of_ble_eq_true rfl) ?_
  intro p e s m below meth c ls S G hF hr hlk hnm hl
  have hl : lv_has ls 4 [(0, _), (1, _)] := hl
  refine lv_iload_n S.1 S.2.1 dL_areNear_0 rfl (lv_at hl 0 rfl) ?_
  refine lv_iconst (v := 4) S.1 S.2.1 dL_areNear_1 (by decide) ?_
  refine lv_irem S.1 S.2.1 dL_areNear_2 (by decide) ?_
  refine lv_iload_n S.1 S.2.1 dL_areNear_3 rfl (lv_at hl 1 rfl) ?_
  refine lv_iconst (v := 4) S.1 S.2.1 dL_areNear_4 (by decide) ?_
  refine lv_irem S.1 S.2.1 dL_areNear_5 (by decide) ?_
  refine lv_isub S.1 S.2.1 dL_areNear_6 ?_
  refine lv_istore_n (lv' := [(2, _), (0, _), (1, _)]) S.1 S.2.1 dL_areNear_7 rfl hl (by decide) rfl (fun ls hl => ?_)
  refine lv_iload_n S.1 S.2.1 dL_areNear_8 rfl (lv_at hl 1 rfl) ?_
  refine lv_iconst (v := 4) S.1 S.2.1 dL_areNear_9 (by decide) ?_
  refine lv_idiv S.1 S.2.1 dL_areNear_10 (by decide) ?_
  refine lv_iload_n S.1 S.2.1 dL_areNear_11 rfl (lv_at hl 2 rfl) ?_
  refine lv_iconst (v := 4) S.1 S.2.1 dL_areNear_12 (by decide) ?_
  refine lv_idiv S.1 S.2.1 dL_areNear_13 (by decide) ?_
  refine lv_isub S.1 S.2.1 dL_areNear_14 ?_
  refine lv_istore_n (lv' := [(3, _), (2, _), (0, _), (1, _)]) S.1 S.2.1 dL_areNear_15 rfl hl (by decide) rfl (fun ls hl => ?_)
  refine lv_iload_n S.1 S.2.1 dL_areNear_16 rfl (lv_at hl 1 rfl) ?_
  refine lv_iload_n S.1 S.2.1 dL_areNear_17 rfl (lv_at hl 1 rfl) ?_
  refine lv_imul S.1 S.2.1 dL_areNear_18 ?_
  refine lv_iload_n S.1 S.2.1 dL_areNear_19 rfl (lv_at hl 0 rfl) ?_
  refine lv_iload_n S.1 S.2.1 dL_areNear_20 rfl (lv_at hl 0 rfl) ?_
  refine lv_imul S.1 S.2.1 dL_areNear_21 ?_
  refine lv_iadd S.1 S.2.1 dL_areNear_22 ?_
  refine lv_iconst (v := 1) S.1 S.2.1 dL_areNear_23 (by decide) ?_
  refine lv_icmp_ne (tgt := 31) S.1 S.2.1 dL_areNear_24 (by decide) (fun c_24 => ?_) (fun c_24 => ?_)
  · refine lv_iconst (v := 0) S.1 S.2.1 dL_areNear_31 (by decide) ?_
    exact g_zret S G hr hlk (by decide) (⟨by simp only [lNb, if_neg c_24], rfl⟩) (Nat.le_of_ble_eq_true rfl) (Nat.le_of_ble_eq_true rfl) dL_areNear_32
  · refine lv_iconst (v := 1) S.1 S.2.1 dL_areNear_27 (by decide) ?_
    refine lv_goto (tgt := 32) S.1 S.2.1 dL_areNear_28 (by decide) ?_
    exact g_zret S G hr hlk (by decide) (⟨by simp only [lNb, if_pos c_24], rfl⟩) (Nat.le_of_ble_eq_true rfl) (Nat.le_of_ble_eq_true rfl) dL_areNear_32
set_option maxHeartbeats 4000000 in
set_option maxRecDepth 100000 in
theorem c_L_near (l : Launch) (ids : gIds) (ad : gAd) (κ : gMem) (t X : Nat) (ht : t < 12) (hX : X < 2 ^ 31)  : gMi l yL_near wsL_near ({ frames := 1, cells := 0, slots := 0, locals := 23 } : Room) 0 0 [.int (nI t), .int (nI X)] (ids, ad, gk κ) (fun q u => (∃ j, j < 12 ∧ q = nI j ∧ ¬ lNb (nI j) (nI t) = 0) ∧ u = (ids, ad, gk (κ))) := by
  intro D aC A
  refine g_of (cc := cL_near) (maxL := 3) (ret := (some .int)) (by decide +kernel) rfl (Nat.le_of_ble_eq_true rfl) ?_
  intro p e s m below meth c ls S G hF hr hlk hnm hl
  have hl : lv_has ls 3 [(0, _), (1, _)] := hl
  refine lv_iload_n S.1 S.2.1 dL_near_0 rfl (lv_at hl 1 rfl) ?_
  refine lv_bipush (v := 12) S.1 S.2.1 dL_near_1 (by decide) ?_
  refine lv_irem S.1 S.2.1 dL_near_3 (by decide) ?_
  refine g_top (jrem12 hX) ?_
  refine lv_istore_n (lv' := [(2, _), (0, _), (1, _)]) S.1 S.2.1 dL_near_4 rfl hl (by decide) rfl (fun ls hl => ?_)
  refine g_while (σ := Nat) (fun y => y < 12) (fun y => nearD t y) (fun _ => κ) (fun y => [(2, .int (nI y)), (1, .int (nI X)), (0, .int (nI t))]) ?_ (X % 12) (Nat.mod_lt _ (by decide)) G (lv_sub hl [0, 2, 1] rfl)
  intro y H locs ls hy G hl ih_5
  have hl : lv_has ls 3 [(2, _), (1, _), (0, _)] := hl
  refine lv_iload_n S.1 S.2.1 dL_near_5 rfl (lv_at hl 0 rfl) ?_
  refine lv_iload_n S.1 S.2.1 dL_near_6 rfl (lv_at hl 2 rfl) ?_
  refine g_cSi S G hF hl (c_L_areNear l ids ad _ _ _) (va_cwS 2 S.2.2.2.2 gL_near_L_areNear rfl rfl rfl (by decide +kernel) ⟨Nat.le_of_ble_eq_true rfl, Nat.le_of_ble_eq_true rfl⟩) rfl rfl (Nat.le_of_ble_eq_true rfl) dL_near_7 ⟨Nat.le_of_ble_eq_true rfl, Nat.le_of_ble_eq_true rfl⟩ (fun r_7 u_7 H locs hp_7 G => ?_)
  obtain ⟨rfl, rfl⟩ := hp_7
  have G : gS D aC A s ids ad (gk _) H locs := G
  refine lv_if_ne (tgt := 23) S.1 S.2.1 dL_near_10 (by decide) (fun c_10 => ?_) (fun c_10 => ?_)
  · refine lv_iload_n S.1 S.2.1 dL_near_23 rfl (lv_at hl 0 rfl) ?_
    exact g_iret S G hr hlk (⟨⟨y, hy, rfl, c_10⟩, rfl⟩) (Nat.le_of_ble_eq_true rfl) (Nat.le_of_ble_eq_true rfl) dL_near_24
  · refine lv_iload_n S.1 S.2.1 dL_near_13 rfl (lv_at hl 0 rfl) ?_
    refine lv_iconst (v := 1) S.1 S.2.1 dL_near_14 (by decide) ?_
    refine lv_iadd S.1 S.2.1 dL_near_15 ?_
    refine g_top (nI_1 y) ?_
    refine lv_bipush (v := 12) S.1 S.2.1 dL_near_16 (by decide) ?_
    refine lv_irem S.1 S.2.1 dL_near_18 (by decide) ?_
    refine g_top (jrem12 (by omega)) ?_
    refine lv_istore_n (lv' := [(2, _), (1, _), (0, _)]) S.1 S.2.1 dL_near_19 rfl hl (by decide) rfl (fun ls hl => ?_)
    refine lv_goto (tgt := 5) S.1 S.2.1 dL_near_20 (by decide) ?_
    have hz : lNb (nI y) (nI t) = 0 := c_10
    exact ih_5 ((y + 1) % 12) H locs ls (Nat.mod_lt _ (by decide)) (nearD_lt t ht y hy hz) G (lv_sub hl [0, 1, 2] rfl)
set_option maxHeartbeats 4000000 in
theorem c_L_draw (l : Launch) (b L : Nat) (xs : Nat → Int32) (hL : L ≤ 2048) (σ : GSt) (k mo : Nat) (hk : k < 2048) (h0 : 0 < mo) (hmo : mo < 2 ^ 31) : gMs b L xs l yL_draw wsL_draw ({ frames := 0, cells := 0, slots := 0, locals := 0 } : Room) 0 0 [.ref b, .int (nI k), .int (nI mo)] σ (fun r u => (∃ q, q < mo ∧ r = nI q) ∧ u = σ) := by
  obtain ⟨ids, ad, π⟩ := σ
  intro D aC A
  refine gs_of (cc := cL_draw) (maxL := 4) (ret := (some .int)) (by decide +kernel) rfl (Nat.le_of_ble_eq_true rfl) ?_
  intro p e s m below meth c ls S G hF hX hbl hbA hr hlk hl
  have G : gS D aC A s ids ad π s.heap [] := G
  have hl : lv_has ls 4 [(0, .ref b), (1, .int (nI k)), (2, .int (nI mo))] := hl
  have fin : ∀ (v : Int32) (ls : Array Slot), lv_has ls 4 [(3, .int v), (0, .ref b), (1, .int (nI k)), (2, .int (nI mo))] → W p l e (headSpec wsL_draw ({ frames := 0, cells := 0, slots := 0, locals := 0 } : Room)).room s m ([.ref b, .int (nI k), .int (nI mo)] : List Value).toArray below meth c s.heap [] 0 0 (MQ below (va_Qi (fun r u => (∃ q, q < mo ∧ r = nI q) ∧ u = (ids, ad, π)) (gE D aC A) A) ([.ref b, .int (nI k), .int (nI mo)] : List Value).toArray s 0 0 A) (F0 m 24 ls []) := by
    intro v ls hl
    refine lv_iload_n S.1 S.2.1 dL_draw_24 rfl (lv_at hl 0 rfl) ?_
    refine lv_ldc (v := 2147483647) S.1 S.2.1 S.2.2.2.1 (S.2.2.2.2 (.constant RL 9 (2147483647)) (by decide +kernel)) dL_draw_25 ?_
    refine lv_iand S.1 S.2.1 dL_draw_27 ?_
    obtain ⟨j, hj, ej⟩ := pk_andE v (m := 2147483647) 31 (by decide)
    refine g_top ej ?_
    refine lv_iload_n S.1 S.2.1 dL_draw_28 rfl (lv_at hl 3 rfl) ?_
    refine lv_irem S.1 S.2.1 dL_draw_29 (nI_ne0 h0 hmo) ?_
    refine g_top (pk_rem hj h0 hmo) ?_
    exact g_iret S G hr hlk ⟨⟨j % mo, Nat.mod_lt _ h0, rfl⟩, rfl⟩ (Nat.le_of_ble_eq_true rfl) (Nat.le_of_ble_eq_true rfl) dL_draw_30
  refine lv_iload_n S.1 S.2.1 dL_draw_0 rfl (lv_at hl 1 rfl) ?_
  refine lv_aload_n S.1 S.2.1 dL_draw_1 rfl (lv_at hl 0 rfl) ?_
  refine va_slen S.1 S.2.1 hX hbl hbA G.2.2.2.1 dL_draw_2 ?_
  refine lv_icmp_ge (tgt := 12) S.1 S.2.1 dL_draw_3 (by decide) (fun c_3 => ?_) (fun c_3 => ?_)
  · refine lv_ldc (v := 969664465) S.1 S.2.1 S.2.2.2.1 (S.2.2.2.2 (.constant RL 7 (969664465)) (by decide +kernel)) dL_draw_12 ?_
    refine lv_iload_n S.1 S.2.1 dL_draw_14 rfl (lv_at hl 1 rfl) ?_
    refine lv_sipush (v := 521) S.1 S.2.1 dL_draw_15 (by decide) ?_
    refine lv_iadd S.1 S.2.1 dL_draw_18 ?_
    refine lv_imul S.1 S.2.1 dL_draw_19 ?_
    refine lv_ldc (v := 765835719) S.1 S.2.1 S.2.2.2.1 (S.2.2.2.2 (.constant RL 8 (765835719)) (by decide +kernel)) dL_draw_20 ?_
    refine lv_iadd S.1 S.2.1 dL_draw_22 ?_
    refine lv_istore_n (lv' := [(3, _), (0, _), (1, _), (2, _)]) S.1 S.2.1 dL_draw_23 rfl hl (by decide) rfl (fun ls hl => ?_)
    exact fin _ ls hl
  · have hkL : k < L := by
      have h1 : ¬ Int32.ofNat L ≤ nI k := c_3
      have h2 : ¬ nI L ≤ nI k := h1
      have := mt (nI_leI (show L < 2 ^ 31 by omega) (show k < 2 ^ 31 by omega)).mpr h2
      omega
    refine lv_aload_n S.1 S.2.1 dL_draw_6 rfl (lv_at hl 0 rfl) ?_
    refine lv_iload_n S.1 S.2.1 dL_draw_7 rfl (lv_at hl 1 rfl) ?_
    refine g_scr S G hX hbl hbA rfl hkL hL dL_draw_8 ?_
    refine lv_goto (tgt := 23) S.1 S.2.1 dL_draw_9 (by decide) ?_
    refine lv_istore_n (lv' := [(3, _), (0, _), (1, _), (2, _)]) S.1 S.2.1 dL_draw_23 rfl hl (by decide) rfl (fun ls hl => ?_)
    exact fin _ ls hl
set_option maxHeartbeats 4000000 in
set_option maxRecDepth 100000 in
theorem c_L_asks_tell (l : Launch) (hlf : l.stackTraces = false) (ids : gIds) (ad : gAd) (κ : gMem) (a b e : Int32) (hV : cV ids) (hW : cWF ids κ) (hI : cI ids κ) (hno : ¬ sTellT κ a b = 2) : gMi l yL_asks wsL_asks ({ frames := 8, cells := 8, slots := 64, locals := 137 } : Room) 8 64 [.ref (ad 7 0), .int 0, .int a, .int b, .int e] (ids, ad, gk κ) (fun k u => (sTellT κ a b = 0 ∧ k = κ 7 0 4 ∧ ∃ q1 q2, u = (((ids ++ [(3, tN (κ 7 0 4))]) ++ [(15, tN (κ 7 0 4))]), updA (updA ad 3 (tN (κ 7 0 4)) q1) 15 (tN (κ 7 0 4)) q2, gk (sTellK κ (tN a) (tN (κ 7 0 4)) b))) ∨ (sTellT κ a b = 1 ∧ k = -107 ∧ u = (ids, ad, gk κ)) ∨ (sTellT κ a b = 3 ∧ k = -108 ∧ u = (ids, ad, gk κ))) := by
  intro D aC A
  refine g_ofH (cc := cL_asks) (maxL := 6) (ret := (some .int)) (hh := [(0, 79, 80, 32), (0, 79, 85, 34)]) (by decide +kernel) rfl (Nat.le_of_ble_eq_true rfl) ?_
  intro p e' s m below meth c ls S G hF hr hlk htab hl
  have hl : lv_has ls 6 [(0, _), (1, _), (2, _), (3, _), (4, _)] := hl
  refine lv_iload_n S.1 S.2.1 dL_asks_0 rfl (lv_at hl 1 rfl) ?_
  refine lv_if_ne (tgt := 13) S.1 S.2.1 dL_asks_1 (by decide) (fun c_1 => ?_) (fun c_1 => ?_)
  · exact absurd c_1 (by decide)
  · refine lv_aload_n S.1 S.2.1 dL_asks_4 rfl (lv_at hl 0 rfl) ?_
    refine lv_iload_n S.1 S.2.1 dL_asks_5 rfl (lv_at hl 2 rfl) ?_
    refine lv_iload_n S.1 S.2.1 dL_asks_6 rfl (lv_at hl 3 rfl) ?_
    refine gx_cVi S G hF hl 7 (hV 7 0 (by decide)) (by decide) (c_X6_tell l hlf ids ad _ _ _ hV hW hI) (cwV 2 S.2.2.2.2 gL_asks_X6_tell rfl rfl rfl (by decide +kernel) ⟨Nat.le_of_ble_eq_true rfl, Nat.le_of_ble_eq_true rfl⟩) rfl rfl (Nat.le_of_ble_eq_true rfl) dL_asks_7 ⟨Nat.le_of_ble_eq_true rfl, Nat.le_of_ble_eq_true rfl⟩ ?_ ?_
    · intro E ce q9 u H1 locs1 hp G h1 h2 h3
      obtain ⟨hxe, rfl⟩ := hp
      have G : gS D aC A s ids ad (gk κ) H1 locs1 := G
      rcases hxe with ⟨rfl, hT⟩ | ⟨rfl, hT⟩ | ⟨rfl, hT⟩
      · refine g_catch (cc := cL_asks) S hF ([] : List ExceptionTableEntry) ⟨0, 79, 80, 32⟩ [⟨0, 79, 85, 34⟩] htab (fun z hz => absurd hz List.not_mem_nil) rfl (by decide) (by decide +kernel) (by decide) h1 h2 h3 ?_
        refine lv_astore (lv' := [(5, _), (0, _), (1, _), (2, _), (3, _), (4, _)]) S.1 S.2.1 dL_asks_80 hl (by decide) rfl (fun ls hl => ?_)
        refine lv_bipush (v := -107) S.1 S.2.1 dL_asks_82 (by decide) ?_
        exact g_iret S G hr hlk (Or.inr (Or.inl ⟨hT, rfl, rfl⟩)) (Nat.le_of_ble_eq_true rfl) (Nat.le_of_ble_eq_true rfl) dL_asks_84
      · exact absurd hT hno
      · refine g_catch (cc := cL_asks) S hF ([⟨0, 79, 80, 32⟩] : List ExceptionTableEntry) ⟨0, 79, 85, 34⟩ [] htab (fun z hz => by
            rcases (show z = (⟨0, 79, 80, 32⟩ : ExceptionTableEntry) by simpa using hz) with rfl
            exact ⟨by decide, "java/lang/IndexOutOfBoundsException", by decide +kernel, by decide⟩) rfl (by decide) (by decide +kernel) (by decide) h1 h2 h3 ?_
        refine lv_astore (lv' := [(5, _), (0, _), (1, _), (2, _), (3, _), (4, _)]) S.1 S.2.1 dL_asks_85 hl (by decide) rfl (fun ls hl => ?_)
        refine lv_bipush (v := -108) S.1 S.2.1 dL_asks_87 (by decide) ?_
        exact g_iret S G hr hlk (Or.inr (Or.inr ⟨hT, rfl, rfl⟩)) (Nat.le_of_ble_eq_true rfl) (Nat.le_of_ble_eq_true rfl) dL_asks_89
    · intro r u H locs hp G
      obtain ⟨hT, rfl, q1, q2, rfl⟩ := hp
      have G : gS D aC A s _ _ (gk (sTellK κ (tN a) (tN (κ 7 0 4)) b)) H locs := G
      refine lv_goto (tgt := 79) S.1 S.2.1 dL_asks_10 (by decide) ?_
      exact g_iret S G hr hlk (Or.inl ⟨hT, rfl, q1, q2, rfl⟩) (Nat.le_of_ble_eq_true rfl) (Nat.le_of_ble_eq_true rfl) dL_asks_79
set_option maxHeartbeats 4000000 in
set_option maxRecDepth 100000 in
theorem c_L_asks_open (l : Launch) (hlf : l.stackTraces = false) (ids : gIds) (ad : gAd) (κ : gMem) (a b e : Int32) (hV : cV ids) (hW : cWF ids κ) (hI : cI ids κ) (hno : ¬ sOpenT κ a b e = 2) : gMi l yL_asks wsL_asks ({ frames := 8, cells := 8, slots := 64, locals := 139 } : Room) 8 64 [.ref (ad 7 0), .int 1, .int a, .int b, .int e] (ids, ad, gk κ) (fun k u => (sOpenT κ a b e = 0 ∧ k = κ 7 0 6 + e - 1 ∧ ∃ q1, u = ((gDrop ids (6, 12 * tN a + tN b) ++ [(6, 12 * tN a + tN b)]), updA ad 6 (12 * tN a + tN b) q1, gk (sOpenK κ (tN a) (tN b) e))) ∨ (sOpenT κ a b e = 1 ∧ k = -107 ∧ u = (ids, ad, gk κ)) ∨ (sOpenT κ a b e = 3 ∧ k = -108 ∧ u = (ids, ad, gk κ))) := by
  intro D aC A
  refine g_ofH (cc := cL_asks) (maxL := 6) (ret := (some .int)) (hh := [(0, 79, 80, 32), (0, 79, 85, 34)]) (by decide +kernel) rfl (Nat.le_of_ble_eq_true rfl) ?_
  intro p e' s m below meth c ls S G hF hr hlk htab hl
  have hl : lv_has ls 6 [(0, _), (1, _), (2, _), (3, _), (4, _)] := hl
  refine lv_iload_n S.1 S.2.1 dL_asks_0 rfl (lv_at hl 1 rfl) ?_
  refine lv_if_ne (tgt := 13) S.1 S.2.1 dL_asks_1 (by decide) (fun c_1 => ?_) (fun c_1 => ?_)
  · refine lv_iload_n S.1 S.2.1 dL_asks_13 rfl (lv_at hl 1 rfl) ?_
    refine lv_iconst (v := 1) S.1 S.2.1 dL_asks_14 (by decide) ?_
    refine lv_icmp_ne (tgt := 29) S.1 S.2.1 dL_asks_15 (by decide) (fun c_15 => ?_) (fun c_15 => ?_)
    · exact absurd c_15 (by decide)
    · refine lv_aload_n S.1 S.2.1 dL_asks_18 rfl (lv_at hl 0 rfl) ?_
      refine lv_iload_n S.1 S.2.1 dL_asks_19 rfl (lv_at hl 2 rfl) ?_
      refine lv_iload_n S.1 S.2.1 dL_asks_20 rfl (lv_at hl 3 rfl) ?_
      refine lv_iload S.1 S.2.1 dL_asks_21 (lv_at hl 4 rfl) ?_
      refine gx_cVi S G hF hl 7 (hV 7 0 (by decide)) (by decide) (c_X6_open l hlf ids ad _ _ _ _ hV hW hI) (cwV 3 S.2.2.2.2 gL_asks_X6_open rfl rfl rfl (by decide +kernel) ⟨Nat.le_of_ble_eq_true rfl, Nat.le_of_ble_eq_true rfl⟩) rfl rfl (Nat.le_of_ble_eq_true rfl) dL_asks_23 ⟨Nat.le_of_ble_eq_true rfl, Nat.le_of_ble_eq_true rfl⟩ ?_ ?_
      · intro E ce q9 u H1 locs1 hp G h1 h2 h3
        obtain ⟨hxe, rfl⟩ := hp
        have G : gS D aC A s ids ad (gk κ) H1 locs1 := G
        rcases hxe with ⟨rfl, hT⟩ | ⟨rfl, hT⟩ | ⟨rfl, hT⟩
        · refine g_catch (cc := cL_asks) S hF ([] : List ExceptionTableEntry) ⟨0, 79, 80, 32⟩ [⟨0, 79, 85, 34⟩] htab (fun z hz => absurd hz List.not_mem_nil) rfl (by decide) (by decide +kernel) (by decide) h1 h2 h3 ?_
          refine lv_astore (lv' := [(5, _), (0, _), (1, _), (2, _), (3, _), (4, _)]) S.1 S.2.1 dL_asks_80 hl (by decide) rfl (fun ls hl => ?_)
          refine lv_bipush (v := -107) S.1 S.2.1 dL_asks_82 (by decide) ?_
          exact g_iret S G hr hlk (Or.inr (Or.inl ⟨hT, rfl, rfl⟩)) (Nat.le_of_ble_eq_true rfl) (Nat.le_of_ble_eq_true rfl) dL_asks_84
        · exact absurd hT hno
        · refine g_catch (cc := cL_asks) S hF ([⟨0, 79, 80, 32⟩] : List ExceptionTableEntry) ⟨0, 79, 85, 34⟩ [] htab (fun z hz => by
              rcases (show z = (⟨0, 79, 80, 32⟩ : ExceptionTableEntry) by simpa using hz) with rfl
              exact ⟨by decide, "java/lang/IndexOutOfBoundsException", by decide +kernel, by decide⟩) rfl (by decide) (by decide +kernel) (by decide) h1 h2 h3 ?_
          refine lv_astore (lv' := [(5, _), (0, _), (1, _), (2, _), (3, _), (4, _)]) S.1 S.2.1 dL_asks_85 hl (by decide) rfl (fun ls hl => ?_)
          refine lv_bipush (v := -108) S.1 S.2.1 dL_asks_87 (by decide) ?_
          exact g_iret S G hr hlk (Or.inr (Or.inr ⟨hT, rfl, rfl⟩)) (Nat.le_of_ble_eq_true rfl) (Nat.le_of_ble_eq_true rfl) dL_asks_89
      · intro r u H locs hp G
        obtain ⟨hT, rfl, q1, rfl⟩ := hp
        have G : gS D aC A s _ _ (gk (sOpenK κ (tN a) (tN b) e)) H locs := G
        refine lv_goto (tgt := 79) S.1 S.2.1 dL_asks_26 (by decide) ?_
        exact g_iret S G hr hlk (Or.inl ⟨hT, rfl, q1, rfl⟩) (Nat.le_of_ble_eq_true rfl) (Nat.le_of_ble_eq_true rfl) dL_asks_79
  · exact absurd c_1 (by decide)
set_option maxHeartbeats 4000000 in
set_option maxRecDepth 100000 in
theorem c_L_asks_challenge (l : Launch) (hlf : l.stackTraces = false) (ids : gIds) (ad : gAd) (κ : gMem) (a b e : Int32) (hV : cV ids) (hW : cWF ids κ) (hI : cI ids κ) (hfr : tN b < tN (κ 7 0 4) → κ 3 (tN b) 3 = 0 → κ 3 (tN b) 9 < 0) (hno : ¬ sChallengeT κ a b = 2) : gMi l yL_asks wsL_asks ({ frames := 8, cells := 8, slots := 64, locals := 135 } : Room) 8 64 [.ref (ad 7 0), .int 2, .int a, .int b, .int e] (ids, ad, gk κ) (fun k u => (sChallengeT κ a b = 0 ∧ k = sNbs (nI (tN (κ 3 (tN b) 0))) 12 ∧ ∃ q1 q2, u = (((ids ++ [(2, tN b)]) ++ [(16, tN b)]), updA (updA ad 2 (tN b) q1) 16 (tN b) q2, gk (sChallengeK κ (tN a) (tN b)))) ∨ (sChallengeT κ a b = 1 ∧ k = -107 ∧ u = (ids, ad, gk κ)) ∨ (sChallengeT κ a b = 3 ∧ k = -108 ∧ u = (ids, ad, gk κ))) := by
  intro D aC A
  refine g_ofH (cc := cL_asks) (maxL := 6) (ret := (some .int)) (hh := [(0, 79, 80, 32), (0, 79, 85, 34)]) (by decide +kernel) rfl (Nat.le_of_ble_eq_true rfl) ?_
  intro p e' s m below meth c ls S G hF hr hlk htab hl
  have hl : lv_has ls 6 [(0, _), (1, _), (2, _), (3, _), (4, _)] := hl
  refine lv_iload_n S.1 S.2.1 dL_asks_0 rfl (lv_at hl 1 rfl) ?_
  refine lv_if_ne (tgt := 13) S.1 S.2.1 dL_asks_1 (by decide) (fun c_1 => ?_) (fun c_1 => ?_)
  · refine lv_iload_n S.1 S.2.1 dL_asks_13 rfl (lv_at hl 1 rfl) ?_
    refine lv_iconst (v := 1) S.1 S.2.1 dL_asks_14 (by decide) ?_
    refine lv_icmp_ne (tgt := 29) S.1 S.2.1 dL_asks_15 (by decide) (fun c_15 => ?_) (fun c_15 => ?_)
    · refine lv_iload_n S.1 S.2.1 dL_asks_29 rfl (lv_at hl 1 rfl) ?_
      refine lv_iconst (v := 2) S.1 S.2.1 dL_asks_30 (by decide) ?_
      refine lv_icmp_ne (tgt := 43) S.1 S.2.1 dL_asks_31 (by decide) (fun c_31 => ?_) (fun c_31 => ?_)
      · exact absurd c_31 (by decide)
      · refine lv_aload_n S.1 S.2.1 dL_asks_34 rfl (lv_at hl 0 rfl) ?_
        refine lv_iload_n S.1 S.2.1 dL_asks_35 rfl (lv_at hl 2 rfl) ?_
        refine lv_iload_n S.1 S.2.1 dL_asks_36 rfl (lv_at hl 3 rfl) ?_
        refine gx_cVi S G hF hl 7 (hV 7 0 (by decide)) (by decide) (c_X6_challenge l hlf ids ad _ _ _ hV hW hI hfr) (cwV 2 S.2.2.2.2 gL_asks_X6_challenge rfl rfl rfl (by decide +kernel) ⟨Nat.le_of_ble_eq_true rfl, Nat.le_of_ble_eq_true rfl⟩) rfl rfl (Nat.le_of_ble_eq_true rfl) dL_asks_37 ⟨Nat.le_of_ble_eq_true rfl, Nat.le_of_ble_eq_true rfl⟩ ?_ ?_
        · intro E ce q9 u H1 locs1 hp G h1 h2 h3
          obtain ⟨hxe, rfl⟩ := hp
          have G : gS D aC A s ids ad (gk κ) H1 locs1 := G
          rcases hxe with ⟨rfl, hT⟩ | ⟨rfl, hT⟩ | ⟨rfl, hT⟩
          · refine g_catch (cc := cL_asks) S hF ([] : List ExceptionTableEntry) ⟨0, 79, 80, 32⟩ [⟨0, 79, 85, 34⟩] htab (fun z hz => absurd hz List.not_mem_nil) rfl (by decide) (by decide +kernel) (by decide) h1 h2 h3 ?_
            refine lv_astore (lv' := [(5, _), (0, _), (1, _), (2, _), (3, _), (4, _)]) S.1 S.2.1 dL_asks_80 hl (by decide) rfl (fun ls hl => ?_)
            refine lv_bipush (v := -107) S.1 S.2.1 dL_asks_82 (by decide) ?_
            exact g_iret S G hr hlk (Or.inr (Or.inl ⟨hT, rfl, rfl⟩)) (Nat.le_of_ble_eq_true rfl) (Nat.le_of_ble_eq_true rfl) dL_asks_84
          · exact absurd hT hno
          · refine g_catch (cc := cL_asks) S hF ([⟨0, 79, 80, 32⟩] : List ExceptionTableEntry) ⟨0, 79, 85, 34⟩ [] htab (fun z hz => by
                rcases (show z = (⟨0, 79, 80, 32⟩ : ExceptionTableEntry) by simpa using hz) with rfl
                exact ⟨by decide, "java/lang/IndexOutOfBoundsException", by decide +kernel, by decide⟩) rfl (by decide) (by decide +kernel) (by decide) h1 h2 h3 ?_
            refine lv_astore (lv' := [(5, _), (0, _), (1, _), (2, _), (3, _), (4, _)]) S.1 S.2.1 dL_asks_85 hl (by decide) rfl (fun ls hl => ?_)
            refine lv_bipush (v := -108) S.1 S.2.1 dL_asks_87 (by decide) ?_
            exact g_iret S G hr hlk (Or.inr (Or.inr ⟨hT, rfl, rfl⟩)) (Nat.le_of_ble_eq_true rfl) (Nat.le_of_ble_eq_true rfl) dL_asks_89
        · intro r u H locs hp G
          obtain ⟨hT, rfl, q1, q2, rfl⟩ := hp
          have G : gS D aC A s _ _ (gk (sChallengeK κ (tN a) (tN b))) H locs := G
          refine lv_goto (tgt := 79) S.1 S.2.1 dL_asks_40 (by decide) ?_
          exact g_iret S G hr hlk (Or.inl ⟨hT, rfl, q1, q2, rfl⟩) (Nat.le_of_ble_eq_true rfl) (Nat.le_of_ble_eq_true rfl) dL_asks_79
    · exact absurd c_15 (by decide)
  · exact absurd c_1 (by decide)
set_option maxHeartbeats 4000000 in
set_option maxRecDepth 100000 in
theorem c_L_asks_sample (l : Launch) (hlf : l.stackTraces = false) (ids : gIds) (ad : gAd) (κ : gMem) (a b e : Int32) (hV : cV ids) (hW : cWF ids κ) (hno : ¬ sSampleT κ a b e = 2) : gMi l yL_asks wsL_asks ({ frames := 8, cells := 8, slots := 64, locals := 138 } : Room) 8 64 [.ref (ad 7 0), .int 3, .int a, .int b, .int e] (ids, ad, gk κ) (fun k u => (sSampleT κ a b e = 0 ∧ k = sSampleK κ (tN a) (tN b) e 3 (tN b) 3 ∧ u = (ids, ad, gk (sSampleK κ (tN a) (tN b) e))) ∨ (sSampleT κ a b e = 1 ∧ k = -107 ∧ u = (ids, ad, gk κ)) ∨ (sSampleT κ a b e = 3 ∧ k = -108 ∧ u = (ids, ad, gk κ))) := by
  intro D aC A
  refine g_ofH (cc := cL_asks) (maxL := 6) (ret := (some .int)) (hh := [(0, 79, 80, 32), (0, 79, 85, 34)]) (by decide +kernel) rfl (Nat.le_of_ble_eq_true rfl) ?_
  intro p e' s m below meth c ls S G hF hr hlk htab hl
  have hl : lv_has ls 6 [(0, _), (1, _), (2, _), (3, _), (4, _)] := hl
  refine lv_iload_n S.1 S.2.1 dL_asks_0 rfl (lv_at hl 1 rfl) ?_
  refine lv_if_ne (tgt := 13) S.1 S.2.1 dL_asks_1 (by decide) (fun c_1 => ?_) (fun c_1 => ?_)
  · refine lv_iload_n S.1 S.2.1 dL_asks_13 rfl (lv_at hl 1 rfl) ?_
    refine lv_iconst (v := 1) S.1 S.2.1 dL_asks_14 (by decide) ?_
    refine lv_icmp_ne (tgt := 29) S.1 S.2.1 dL_asks_15 (by decide) (fun c_15 => ?_) (fun c_15 => ?_)
    · refine lv_iload_n S.1 S.2.1 dL_asks_29 rfl (lv_at hl 1 rfl) ?_
      refine lv_iconst (v := 2) S.1 S.2.1 dL_asks_30 (by decide) ?_
      refine lv_icmp_ne (tgt := 43) S.1 S.2.1 dL_asks_31 (by decide) (fun c_31 => ?_) (fun c_31 => ?_)
      · refine lv_iload_n S.1 S.2.1 dL_asks_43 rfl (lv_at hl 1 rfl) ?_
        refine lv_iconst (v := 3) S.1 S.2.1 dL_asks_44 (by decide) ?_
        refine lv_icmp_ne (tgt := 59) S.1 S.2.1 dL_asks_45 (by decide) (fun c_45 => ?_) (fun c_45 => ?_)
        · exact absurd c_45 (by decide)
        · refine lv_aload_n S.1 S.2.1 dL_asks_48 rfl (lv_at hl 0 rfl) ?_
          refine lv_iload_n S.1 S.2.1 dL_asks_49 rfl (lv_at hl 2 rfl) ?_
          refine lv_iload_n S.1 S.2.1 dL_asks_50 rfl (lv_at hl 3 rfl) ?_
          refine lv_iload S.1 S.2.1 dL_asks_51 (lv_at hl 4 rfl) ?_
          refine gx_cVi S G hF hl 7 (hV 7 0 (by decide)) (by decide) (c_X6_sample l hlf ids ad _ _ _ _ hV hW) (cwV 3 S.2.2.2.2 gL_asks_X6_sample rfl rfl rfl (by decide +kernel) ⟨Nat.le_of_ble_eq_true rfl, Nat.le_of_ble_eq_true rfl⟩) rfl rfl (Nat.le_of_ble_eq_true rfl) dL_asks_53 ⟨Nat.le_of_ble_eq_true rfl, Nat.le_of_ble_eq_true rfl⟩ ?_ ?_
          · intro E ce q9 u H1 locs1 hp G h1 h2 h3
            obtain ⟨hxe, rfl⟩ := hp
            have G : gS D aC A s ids ad (gk κ) H1 locs1 := G
            rcases hxe with ⟨rfl, hT⟩ | ⟨rfl, hT⟩ | ⟨rfl, hT⟩
            · refine g_catch (cc := cL_asks) S hF ([] : List ExceptionTableEntry) ⟨0, 79, 80, 32⟩ [⟨0, 79, 85, 34⟩] htab (fun z hz => absurd hz List.not_mem_nil) rfl (by decide) (by decide +kernel) (by decide) h1 h2 h3 ?_
              refine lv_astore (lv' := [(5, _), (0, _), (1, _), (2, _), (3, _), (4, _)]) S.1 S.2.1 dL_asks_80 hl (by decide) rfl (fun ls hl => ?_)
              refine lv_bipush (v := -107) S.1 S.2.1 dL_asks_82 (by decide) ?_
              exact g_iret S G hr hlk (Or.inr (Or.inl ⟨hT, rfl, rfl⟩)) (Nat.le_of_ble_eq_true rfl) (Nat.le_of_ble_eq_true rfl) dL_asks_84
            · exact absurd hT hno
            · refine g_catch (cc := cL_asks) S hF ([⟨0, 79, 80, 32⟩] : List ExceptionTableEntry) ⟨0, 79, 85, 34⟩ [] htab (fun z hz => by
                  rcases (show z = (⟨0, 79, 80, 32⟩ : ExceptionTableEntry) by simpa using hz) with rfl
                  exact ⟨by decide, "java/lang/IndexOutOfBoundsException", by decide +kernel, by decide⟩) rfl (by decide) (by decide +kernel) (by decide) h1 h2 h3 ?_
              refine lv_astore (lv' := [(5, _), (0, _), (1, _), (2, _), (3, _), (4, _)]) S.1 S.2.1 dL_asks_85 hl (by decide) rfl (fun ls hl => ?_)
              refine lv_bipush (v := -108) S.1 S.2.1 dL_asks_87 (by decide) ?_
              exact g_iret S G hr hlk (Or.inr (Or.inr ⟨hT, rfl, rfl⟩)) (Nat.le_of_ble_eq_true rfl) (Nat.le_of_ble_eq_true rfl) dL_asks_89
          · intro r u H locs hp G
            obtain ⟨hT, rfl, rfl⟩ := hp
            have G : gS D aC A s _ _ (gk (sSampleK κ (tN a) (tN b) e)) H locs := G
            refine lv_goto (tgt := 79) S.1 S.2.1 dL_asks_56 (by decide) ?_
            exact g_iret S G hr hlk (Or.inl ⟨hT, rfl, rfl⟩) (Nat.le_of_ble_eq_true rfl) (Nat.le_of_ble_eq_true rfl) dL_asks_79
      · exact absurd c_31 (by decide)
    · exact absurd c_15 (by decide)
  · exact absurd c_1 (by decide)
set_option maxHeartbeats 4000000 in
set_option maxRecDepth 100000 in
theorem c_L_asks_topUp (l : Launch) (hlf : l.stackTraces = false) (ids : gIds) (ad : gAd) (κ : gMem) (a b e : Int32) (hV : cV ids) (hno : ¬ sTopUpT κ a b = 2) : gMi l yL_asks wsL_asks ({ frames := 8, cells := 8, slots := 64, locals := 134 } : Room) 8 64 [.ref (ad 7 0), .int 4, .int a, .int b, .int e] (ids, ad, gk κ) (fun k u => (sTopUpT κ a b = 0 ∧ k = sTopUpK κ (tN a) b 5 (tN a) 3 ∧ u = (ids, ad, gk (sTopUpK κ (tN a) b))) ∨ (sTopUpT κ a b = 1 ∧ k = -107 ∧ u = (ids, ad, gk κ)) ∨ (sTopUpT κ a b = 3 ∧ k = -108 ∧ u = (ids, ad, gk κ))) := by
  intro D aC A
  refine g_ofH (cc := cL_asks) (maxL := 6) (ret := (some .int)) (hh := [(0, 79, 80, 32), (0, 79, 85, 34)]) (by decide +kernel) rfl (Nat.le_of_ble_eq_true rfl) ?_
  intro p e' s m below meth c ls S G hF hr hlk htab hl
  have hl : lv_has ls 6 [(0, _), (1, _), (2, _), (3, _), (4, _)] := hl
  refine lv_iload_n S.1 S.2.1 dL_asks_0 rfl (lv_at hl 1 rfl) ?_
  refine lv_if_ne (tgt := 13) S.1 S.2.1 dL_asks_1 (by decide) (fun c_1 => ?_) (fun c_1 => ?_)
  · refine lv_iload_n S.1 S.2.1 dL_asks_13 rfl (lv_at hl 1 rfl) ?_
    refine lv_iconst (v := 1) S.1 S.2.1 dL_asks_14 (by decide) ?_
    refine lv_icmp_ne (tgt := 29) S.1 S.2.1 dL_asks_15 (by decide) (fun c_15 => ?_) (fun c_15 => ?_)
    · refine lv_iload_n S.1 S.2.1 dL_asks_29 rfl (lv_at hl 1 rfl) ?_
      refine lv_iconst (v := 2) S.1 S.2.1 dL_asks_30 (by decide) ?_
      refine lv_icmp_ne (tgt := 43) S.1 S.2.1 dL_asks_31 (by decide) (fun c_31 => ?_) (fun c_31 => ?_)
      · refine lv_iload_n S.1 S.2.1 dL_asks_43 rfl (lv_at hl 1 rfl) ?_
        refine lv_iconst (v := 3) S.1 S.2.1 dL_asks_44 (by decide) ?_
        refine lv_icmp_ne (tgt := 59) S.1 S.2.1 dL_asks_45 (by decide) (fun c_45 => ?_) (fun c_45 => ?_)
        · refine lv_iload_n S.1 S.2.1 dL_asks_59 rfl (lv_at hl 1 rfl) ?_
          refine lv_iconst (v := 4) S.1 S.2.1 dL_asks_60 (by decide) ?_
          refine lv_icmp_ne (tgt := 73) S.1 S.2.1 dL_asks_61 (by decide) (fun c_61 => ?_) (fun c_61 => ?_)
          · exact absurd c_61 (by decide)
          · refine lv_aload_n S.1 S.2.1 dL_asks_64 rfl (lv_at hl 0 rfl) ?_
            refine lv_iload_n S.1 S.2.1 dL_asks_65 rfl (lv_at hl 2 rfl) ?_
            refine lv_iload_n S.1 S.2.1 dL_asks_66 rfl (lv_at hl 3 rfl) ?_
            refine gx_cVi S G hF hl 7 (hV 7 0 (by decide)) (by decide) (c_X6_topUp l hlf ids ad _ _ _ hV) (cwV 2 S.2.2.2.2 gL_asks_X6_topUp rfl rfl rfl (by decide +kernel) ⟨Nat.le_of_ble_eq_true rfl, Nat.le_of_ble_eq_true rfl⟩) rfl rfl (Nat.le_of_ble_eq_true rfl) dL_asks_67 ⟨Nat.le_of_ble_eq_true rfl, Nat.le_of_ble_eq_true rfl⟩ ?_ ?_
            · intro E ce q9 u H1 locs1 hp G h1 h2 h3
              obtain ⟨hxe, rfl⟩ := hp
              have G : gS D aC A s ids ad (gk κ) H1 locs1 := G
              rcases hxe with ⟨rfl, hT⟩ | ⟨rfl, hT⟩ | ⟨rfl, hT⟩
              · refine g_catch (cc := cL_asks) S hF ([] : List ExceptionTableEntry) ⟨0, 79, 80, 32⟩ [⟨0, 79, 85, 34⟩] htab (fun z hz => absurd hz List.not_mem_nil) rfl (by decide) (by decide +kernel) (by decide) h1 h2 h3 ?_
                refine lv_astore (lv' := [(5, _), (0, _), (1, _), (2, _), (3, _), (4, _)]) S.1 S.2.1 dL_asks_80 hl (by decide) rfl (fun ls hl => ?_)
                refine lv_bipush (v := -107) S.1 S.2.1 dL_asks_82 (by decide) ?_
                exact g_iret S G hr hlk (Or.inr (Or.inl ⟨hT, rfl, rfl⟩)) (Nat.le_of_ble_eq_true rfl) (Nat.le_of_ble_eq_true rfl) dL_asks_84
              · exact absurd hT hno
              · refine g_catch (cc := cL_asks) S hF ([⟨0, 79, 80, 32⟩] : List ExceptionTableEntry) ⟨0, 79, 85, 34⟩ [] htab (fun z hz => by
                    rcases (show z = (⟨0, 79, 80, 32⟩ : ExceptionTableEntry) by simpa using hz) with rfl
                    exact ⟨by decide, "java/lang/IndexOutOfBoundsException", by decide +kernel, by decide⟩) rfl (by decide) (by decide +kernel) (by decide) h1 h2 h3 ?_
                refine lv_astore (lv' := [(5, _), (0, _), (1, _), (2, _), (3, _), (4, _)]) S.1 S.2.1 dL_asks_85 hl (by decide) rfl (fun ls hl => ?_)
                refine lv_bipush (v := -108) S.1 S.2.1 dL_asks_87 (by decide) ?_
                exact g_iret S G hr hlk (Or.inr (Or.inr ⟨hT, rfl, rfl⟩)) (Nat.le_of_ble_eq_true rfl) (Nat.le_of_ble_eq_true rfl) dL_asks_89
            · intro r u H locs hp G
              obtain ⟨hT, rfl, rfl⟩ := hp
              have G : gS D aC A s _ _ (gk (sTopUpK κ (tN a) b)) H locs := G
              refine lv_goto (tgt := 79) S.1 S.2.1 dL_asks_70 (by decide) ?_
              exact g_iret S G hr hlk (Or.inl ⟨hT, rfl, rfl⟩) (Nat.le_of_ble_eq_true rfl) (Nat.le_of_ble_eq_true rfl) dL_asks_79
        · exact absurd c_45 (by decide)
      · exact absurd c_31 (by decide)
    · exact absurd c_15 (by decide)
  · exact absurd c_1 (by decide)
set_option maxHeartbeats 4000000 in
set_option maxRecDepth 100000 in
theorem c_L_asks_hang (l : Launch) (hlf : l.stackTraces = false) (ids : gIds) (ad : gAd) (κ : gMem) (a b e : Int32) (hV : cV ids) (hW : cWF ids κ) (hno : ¬ sHangT a b = 2) : gMi l yL_asks wsL_asks ({ frames := 8, cells := 8, slots := 64, locals := 136 } : Room) 8 64 [.ref (ad 7 0), .int 5, .int a, .int b, .int e] (ids, ad, gk κ) (fun k u => (sHangT a b = 0 ∧ k = nI (tN (κ 4 (tN a) 1)) ∧ u = (ids, ad, gk (upd3 κ 4 (tN a) 1 (nI (tN b))))) ∨ (sHangT a b = 1 ∧ k = -107 ∧ u = (ids, ad, gk κ)) ∨ (sHangT a b = 3 ∧ k = -108 ∧ u = (ids, ad, gk κ))) := by
  intro D aC A
  refine g_ofH (cc := cL_asks) (maxL := 6) (ret := (some .int)) (hh := [(0, 79, 80, 32), (0, 79, 85, 34)]) (by decide +kernel) rfl (Nat.le_of_ble_eq_true rfl) ?_
  intro p e' s m below meth c ls S G hF hr hlk htab hl
  have hl : lv_has ls 6 [(0, _), (1, _), (2, _), (3, _), (4, _)] := hl
  refine lv_iload_n S.1 S.2.1 dL_asks_0 rfl (lv_at hl 1 rfl) ?_
  refine lv_if_ne (tgt := 13) S.1 S.2.1 dL_asks_1 (by decide) (fun c_1 => ?_) (fun c_1 => ?_)
  · refine lv_iload_n S.1 S.2.1 dL_asks_13 rfl (lv_at hl 1 rfl) ?_
    refine lv_iconst (v := 1) S.1 S.2.1 dL_asks_14 (by decide) ?_
    refine lv_icmp_ne (tgt := 29) S.1 S.2.1 dL_asks_15 (by decide) (fun c_15 => ?_) (fun c_15 => ?_)
    · refine lv_iload_n S.1 S.2.1 dL_asks_29 rfl (lv_at hl 1 rfl) ?_
      refine lv_iconst (v := 2) S.1 S.2.1 dL_asks_30 (by decide) ?_
      refine lv_icmp_ne (tgt := 43) S.1 S.2.1 dL_asks_31 (by decide) (fun c_31 => ?_) (fun c_31 => ?_)
      · refine lv_iload_n S.1 S.2.1 dL_asks_43 rfl (lv_at hl 1 rfl) ?_
        refine lv_iconst (v := 3) S.1 S.2.1 dL_asks_44 (by decide) ?_
        refine lv_icmp_ne (tgt := 59) S.1 S.2.1 dL_asks_45 (by decide) (fun c_45 => ?_) (fun c_45 => ?_)
        · refine lv_iload_n S.1 S.2.1 dL_asks_59 rfl (lv_at hl 1 rfl) ?_
          refine lv_iconst (v := 4) S.1 S.2.1 dL_asks_60 (by decide) ?_
          refine lv_icmp_ne (tgt := 73) S.1 S.2.1 dL_asks_61 (by decide) (fun c_61 => ?_) (fun c_61 => ?_)
          · refine lv_aload_n S.1 S.2.1 dL_asks_73 rfl (lv_at hl 0 rfl) ?_
            refine lv_iload_n S.1 S.2.1 dL_asks_74 rfl (lv_at hl 2 rfl) ?_
            refine lv_iload_n S.1 S.2.1 dL_asks_75 rfl (lv_at hl 3 rfl) ?_
            refine gx_cVi S G hF hl 7 (hV 7 0 (by decide)) (by decide) (c_X6_hang l hlf ids ad _ _ _ hV hW) (cwV 2 S.2.2.2.2 gL_asks_X6_hang rfl rfl rfl (by decide +kernel) ⟨Nat.le_of_ble_eq_true rfl, Nat.le_of_ble_eq_true rfl⟩) rfl rfl (Nat.le_of_ble_eq_true rfl) dL_asks_76 ⟨Nat.le_of_ble_eq_true rfl, Nat.le_of_ble_eq_true rfl⟩ ?_ ?_
            · intro E ce q9 u H1 locs1 hp G h1 h2 h3
              obtain ⟨hxe, rfl⟩ := hp
              have G : gS D aC A s ids ad (gk κ) H1 locs1 := G
              rcases hxe with ⟨rfl, hT⟩ | ⟨rfl, hT⟩ | ⟨rfl, hT⟩
              · refine g_catch (cc := cL_asks) S hF ([] : List ExceptionTableEntry) ⟨0, 79, 80, 32⟩ [⟨0, 79, 85, 34⟩] htab (fun z hz => absurd hz List.not_mem_nil) rfl (by decide) (by decide +kernel) (by decide) h1 h2 h3 ?_
                refine lv_astore (lv' := [(5, _), (0, _), (1, _), (2, _), (3, _), (4, _)]) S.1 S.2.1 dL_asks_80 hl (by decide) rfl (fun ls hl => ?_)
                refine lv_bipush (v := -107) S.1 S.2.1 dL_asks_82 (by decide) ?_
                exact g_iret S G hr hlk (Or.inr (Or.inl ⟨hT, rfl, rfl⟩)) (Nat.le_of_ble_eq_true rfl) (Nat.le_of_ble_eq_true rfl) dL_asks_84
              · exact absurd hT hno
              · refine g_catch (cc := cL_asks) S hF ([⟨0, 79, 80, 32⟩] : List ExceptionTableEntry) ⟨0, 79, 85, 34⟩ [] htab (fun z hz => by
                    rcases (show z = (⟨0, 79, 80, 32⟩ : ExceptionTableEntry) by simpa using hz) with rfl
                    exact ⟨by decide, "java/lang/IndexOutOfBoundsException", by decide +kernel, by decide⟩) rfl (by decide) (by decide +kernel) (by decide) h1 h2 h3 ?_
                refine lv_astore (lv' := [(5, _), (0, _), (1, _), (2, _), (3, _), (4, _)]) S.1 S.2.1 dL_asks_85 hl (by decide) rfl (fun ls hl => ?_)
                refine lv_bipush (v := -108) S.1 S.2.1 dL_asks_87 (by decide) ?_
                exact g_iret S G hr hlk (Or.inr (Or.inr ⟨hT, rfl, rfl⟩)) (Nat.le_of_ble_eq_true rfl) (Nat.le_of_ble_eq_true rfl) dL_asks_89
            · intro r u H locs hp G
              obtain ⟨hT, rfl, rfl⟩ := hp
              have G : gS D aC A s _ _ (gk (upd3 κ 4 (tN a) 1 (nI (tN b)))) H locs := G
              exact g_iret S G hr hlk (Or.inl ⟨hT, rfl, rfl⟩) (Nat.le_of_ble_eq_true rfl) (Nat.le_of_ble_eq_true rfl) dL_asks_79
          · exact absurd c_61 (by decide)
        · exact absurd c_45 (by decide)
      · exact absurd c_31 (by decide)
    · exact absurd c_15 (by decide)
  · exact absurd c_1 (by decide)
