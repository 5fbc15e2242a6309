/-! ===== BEGIN words of one list among another's, by their places ===== -/
theorem goodIn_r {big : List Cond} (ws : List Cond) (ps : List Nat) (hp : ws = ps.filterMap (fun i => big[i]?)) (h : ws.all goodWord = true) : GoodIn big ws := by
  intro w hw
  have h1 := List.all_eq_true.mp h w hw
  rw [hp] at hw
  obtain ⟨i, -, hi⟩ := List.mem_filterMap.mp hw
  have hm : w ∈ big := by first | exact List.mem_of_getElem? hi | exact List.getElem?_mem hi
  exact ⟨hm, good_of_word h1⟩
theorem goodIn_app {big a b : List Cond} (ha : GoodIn big a) (hb : GoodIn big b) : GoodIn big (a ++ b) := fun w h => (List.mem_append.mp h).elim (ha w) (hb w)
theorem goodIn_ca {big a b : List Cond} {c : Cond} (ha : GoodIn big (c :: a)) (hb : GoodIn big b) : GoodIn big (c :: (a ++ b)) := fun w h => (List.mem_cons.mp h).elim (fun e => ha w (List.mem_cons.mpr (Or.inl e))) (fun h => (List.mem_append.mp h).elim (fun h => ha w (List.mem_cons.mpr (Or.inr h))) (hb w))
theorem goodIn_sub {big ws : List Cond} (hm : ∀ w ∈ ws, w ∈ big) (h : ws.all goodWord = true) : GoodIn big ws := fun w hw => ⟨hm w hw, good_of_word (List.all_eq_true.mp h w hw)⟩
/-! ===== END ===== -/

/-! ===== BEGIN exceptions that leave a method, and their catching by the caller (launches without stack traces) ===== -/
section VXA
/-! The laws vx_back, vx_callV, vx_callS, vx_callSW, vx_throw0, vx_throwS follow proofs of the library, with one case more: JvmDerived/Free/Laws.lean (Back.of_free), Shelf42/LK1.lean (callV, callS), Shelf/KitTraced.lean (throwNew0V, throwNewS). -/
/-- where a method has thrown q: the class by its name, the cell, what was written, the world -/
def vx_T (XC : String → State → State → Prop) (st : State) (q : Addr) (t : State) (mc ms : Nat) (free : Addr → Prop) : Prop :=
  ∃ (E : String) (ce : Cell) (L : List Loc), XC E st t ∧ t.heap[q]? = some ce ∧ ce.vm = .none ∧ st.vm.findClass E = some ce.cls ∧ st.WarmedH t.vm ∧ st.sameButNew ({ t with vm := st.vm } : State) L mc ms ∧ ∀ z ∈ L, free z.base
def vx_Q (Qc : Array Value → State → Outcome → State → Prop) (XC : String → State → State → Prop) (mc ms : Nat) (free : Addr → Prop) : Array Value → State → Outcome → State → Prop := fun a st o t =>
  (Qc a st o t ∧ ∃ L, FrameEnd st o t L mc ms ∧ ∀ q ∈ L, free q.base) ∨ ∃ q, o = .threw q ∧ vx_T XC st q t mc ms free
/-- a callee that returns or throws -/
def vx_Met (l : Launch) (y : MethodName) (ws : List Cond) (rm : Room) (Pc : Array Value → State → Prop) (Qc : Array Value → State → Outcome → State → Prop) (XC : String → State → State → Prop) (mc ms : Nat) (free : Addr → Prop) : Prop :=
  MetFree l y (headSpec ws rm) Pc (fun _ _ _ _ _ => True) (vx_Q Qc XC mc ms free)
def vx_Post (XC : String → State → State → Prop) (mc ms : Nat) (free : Addr → Prop) : Pt → Array Value → Addr → Pt → Prop := fun A a q B =>
  ∃ (g : JFrame) (mk : MethodId) (t : State) (L : List Loc) (E : String) (ce : Cell), B.U.heap = t.heap ∧ B.U.vm = t.vm ∧ XC E (A.U.calling g mk a) t ∧ t.heap[q]? = some ce ∧ ce.vm = .none ∧ A.U.vm.findClass E = some ce.cls ∧ B.locs = A.locs ++ L ∧ (∀ z ∈ L, free z.base) ∧ B.cells = A.cells + mc ∧ B.slots = A.slots + ms
def vx_Back (l : Launch) (R : Room) (p : Program) (e : Env) (below : List Frame) (s : State) (sargs : Array Value) (y : MethodName) (len W9 : Nat)
    (Pre : Pt → Array Value → Prop) (Post : Pt → Array Value → Option Value → Pt → Prop) (PostX : Pt → Array Value → Addr → Pt → Prop) : Prop :=
  ∀ (m : MethodId) (meth : Method) (c : Code) (A : Pt) (g : JFrame) (ig : Instr) (mk : MethodId) (a : Array Value),
    Stand p l e R s m sargs below meth c A.U A.locs A.cells A.slots → g.method = m → g.locals.size = c.maxLocals → decode c.code g.pc = .ok (ig, len) →
    2 * g.monitorRoom + (g.stack.map fun v => v.category).sum ≤ W9 → A.U.methodNamed? y = some mk → Pre A a →
    (∃ (v : Option Value) (B : Pt), Stand p l e R s m sargs below meth c B.U B.locs B.cells B.slots ∧ Post A a v B ∧
      Steps p.tables e below (doInvoke e (A.U.setTop g) [] mk a).1 (B.U.setTop { g with pc := g.pc + len, stack := v.toList ++ g.stack })) ∨
    (∃ (q : Addr) (B : Pt), Stand p l e R s m sargs below meth c B.U B.locs B.cells B.slots ∧ PostX A a q B ∧
      Steps p.tables e below (doInvoke e (A.U.setTop g) [] mk a).1 ((B.U.setTop g).pushFrame (.throwing q)))
section Payer
variable {l : Launch} {R : Room} {p : Program} {e : Env} {below : List Frame} {s : State} {sargs : Array Value} {y : MethodName} {len W9 : Nat}
theorem vx_back {ws : List Cond} {rm : Room} {Pc : Array Value → State → Prop} {Qc : Array Value → State → Outcome → State → Prop} {XC : String → State → State → Prop} {mc ms : Nat} {free : Addr → Prop} {bytes : ByteArray} {maxL : Nat} {ret : Option FieldType}
    (hM : vx_Met l y ws rm Pc Qc XC mc ms free) (hblind : FrameBlind Pc) (hrc : rm.cells = mc) (hrs : rm.slots = ms)
    (hframes : rm.frames + 1 ≤ R.frames) (hlocals : W9 + (maxL + 11) + rm.locals ≤ R.locals)
    (hws : ∀ w ∈ ws, ∀ a' U, s.WarmedH U.vm → w.before a' U = true) (hcode : Cond.code y bytes maxL ret ∈ ws) (hinit : ∀ a' U, s.WarmedH U.vm → (Cond.initialized y.cls).before a' U = true) :
    vx_Back l R p e below s sargs y len W9 (PreOf R mc ms Pc) (PostOf Qc mc ms free) (vx_Post XC mc ms free) := by
  intro m meth c A g ig mk a X hg hsize hdg hW hn hp
  have h1 : (headSpec ws rm).pre.before a A.U = true := atoms_intro fun w hw => hws w hw _ _ X.warmed
  have h2 : (Cond.code y bytes maxL ret).before a A.U = true := hws _ hcode _ _ X.warmed
  have h3 : (Cond.initialized y.cls).before a A.U = true := hinit _ _ X.warmed
  have h4 : A.cells + (headSpec ws rm).room.cells ≤ R.cells := by rw [show (headSpec ws rm).room.cells = mc from hrc]; exact hp.1
  have h5 : A.slots + (headSpec ws rm).room.slots ≤ R.slots := by rw [show (headSpec ws rm).room.slots = ms from hrs]; exact hp.2.1
  have hPc : Pc a (A.U.calling g mk a) := hblind _ _ _ _ hp.2.2
  obtain ⟨U, Ls, c0, s0⟩ := A
  dsimp only [Pt.U, Pt.locs, Pt.cells, Pt.slots] at h1 h2 h3 h4 h5 X hn hPc ⊢
  obtain ⟨methY, cY, hmY, hcY, -, hlY, -, -, -, -⟩ := Cond.code_spec hn h2
  obtain ⟨kY, hkY, -⟩ := className_of_methodNamed hn
  have hinitY : kY.init = .initialized := Cond.initialized_spec (findClass_of_methodNamed hn) hkY h3
  have h : At U g.method c below := by rw [hg]; exact X.here
  have hlocals9 : W9 + (maxL + 11) + (headSpec ws rm).room.locals ≤ R.locals := hlocals
  have happ : (headSpec ws rm).appliesLoose y e.platform (U.calling g mk a) = true :=
    Spec.appliesLoose_calling (g := g) h hdg hn hkY hinitY
      (X.room_calling (g := g) (R' := (headSpec ws rm).room) hsize hmY hcY hframes (by rw [hlY]; omega) h4 h5) h1
  obtain ⟨mid, hmid⟩ := h.above
  have hfr : (U.setTop g).frames = (.java g :: mid) ++ below := by rw [State.frames_setTop' g h.top, hmid]; rfl
  obtain ⟨o, s₂, hsteps, -, hend, hq⟩ := Steps.callFree hM p X.admits X.cas X.clock (acts := []) hfr happ hPc trivial
  have hq' : vx_Q Qc XC mc ms free a (U.calling g mk a) o s₂ := hq
  rw [State.frames_setTop' g h.top] at hend
  obtain ⟨g₀, hg0⟩ := Option.isSome_iff_exists.mp h.top
  obtain ⟨r, hr⟩ := State.topJava?_eq_some.mp hg0
  have hr' : (({ U with heap := s₂.heap, slotsUsed := s₂.slotsUsed } : State).setVm s₂.vm).frames = .java g₀ :: r := hr
  rcases hq' with ⟨hqc, L, hfe, hL⟩ | ⟨q, rfl, E, ce, L, hx, hce, hcv, hcl, hW₂, hsm, hL⟩
  · obtain ⟨⟨v, rfl⟩, hW₂, e2, q2, q3, q4, q5, q6⟩ := id hfe
    have e3 : s₂ = ({ (U.calling g mk a).setFrames s₂.frames with heap := s₂.heap, slotsUsed := s₂.slotsUsed } : State).setVm s₂.vm := by
      have : s₂ = ({ s₂ with vm := (U.calling g mk a).vm } : State).setVm s₂.vm := rfl
      rw [e2] at this
      exact this
    obtain ⟨c₂, i₂, len₂, hc₂, hd₂, hf₂⟩ := hend
    have hW' : U.WarmedH s₂.vm := hW₂
    have hcc : c₂ = c := by
      have h1 : s₂.code? g.method = U.code? g.method := by
        rw [State.code?_eq, State.code?_eq, hW'.alike.method?]
      exact Option.some.inj (hc₂.symm.trans (h1.trans h.code))
    subst hcc
    have hlen : len₂ = len := by rw [hdg] at hd₂; cases hd₂; rfl
    subst hlen
    have hs₂ : s₂ = (({ U with heap := s₂.heap, slotsUsed := s₂.slotsUsed } : State).setVm s₂.vm).setTop { g with pc := g.pc + len₂, stack := v.toList ++ g.stack } := by
      refine e3.trans ?_
      rw [hf₂, State.calling_eq h.top, State.setFrames_setFrames, State.setTop_of_frames _ hr', hr]
      rfl
    have hsame : U.sameButNew ({ U with heap := s₂.heap, slotsUsed := s₂.slotsUsed } : State) L mc ms := by
      refine ⟨?_, q2, q3, q4, q5, q6⟩
      obtain ⟨t, ht, -⟩ := State.frames_cons hr
      show ({ U with heap := s₂.heap, slotsUsed := s₂.slotsUsed } : State) = { U.setFrames U.frames with heap := s₂.heap, slotsUsed := s₂.slotsUsed }
      rw [State.setFrames_self ht]
    subst hg
    refine Or.inl ⟨v, ⟨(({ U with heap := s₂.heap, slotsUsed := s₂.slotsUsed } : State).setVm s₂.vm), Ls ++ L, c0 + mc, s0 + ms⟩,
      ⟨X.admits, X.cas, X.clock, X.frames, X.room, X.hears, X.method, X.code, (X.here.setHeapUsed s₂.heap s₂.slotsUsed).setVm hW'.alike, X.tail, State.WarmedH.trans X.warmed hW', X.limits, X.bytes, X.same.trans (hsame.setVm s.vm)⟩,
      ⟨g, mk, s₂, L, rfl, rfl, hqc, rfl, hL, rfl, rfl⟩, ?_⟩
    show Steps p.tables e below _ ((({ U with heap := s₂.heap, slotsUsed := s₂.slotsUsed } : State).setVm s₂.vm).setTop { g with pc := g.pc + len₂, stack := v.toList ++ g.stack })
    rw [← hs₂]
    exact hsteps
  · obtain ⟨e2, q2, q3, q4, q5, q6⟩ := id hsm
    have e3 : s₂ = ({ (U.calling g mk a).setFrames s₂.frames with heap := s₂.heap, slotsUsed := s₂.slotsUsed } : State).setVm s₂.vm := by
      have : s₂ = ({ s₂ with vm := (U.calling g mk a).vm } : State).setVm s₂.vm := rfl
      rw [e2] at this
      exact this
    have hf₂ : s₂.frames = .throwing q :: .java g :: U.frames.tail := hend
    have hW' : U.WarmedH s₂.vm := hW₂
    have hs₂ : s₂ = ((({ U with heap := s₂.heap, slotsUsed := s₂.slotsUsed } : State).setVm s₂.vm).setTop g).pushFrame (.throwing q) := by
      refine e3.trans ?_
      rw [hf₂, State.calling_eq h.top, State.setFrames_setFrames, State.pushFrame, State.frames_setTop _ hr', State.setTop_of_frames _ hr', State.setFrames_setFrames, hr]
      rfl
    have hsame : U.sameButNew ({ U with heap := s₂.heap, slotsUsed := s₂.slotsUsed } : State) L mc ms := by
      refine ⟨?_, q2, q3, q4, q5, q6⟩
      obtain ⟨t, ht, -⟩ := State.frames_cons hr
      show ({ U with heap := s₂.heap, slotsUsed := s₂.slotsUsed } : State) = { U.setFrames U.frames with heap := s₂.heap, slotsUsed := s₂.slotsUsed }
      rw [State.setFrames_self ht]
    subst hg
    refine Or.inr ⟨q, ⟨(({ U with heap := s₂.heap, slotsUsed := s₂.slotsUsed } : State).setVm s₂.vm), Ls ++ L, c0 + mc, s0 + ms⟩,
      ⟨X.admits, X.cas, X.clock, X.frames, X.room, X.hears, X.method, X.code, (X.here.setHeapUsed s₂.heap s₂.slotsUsed).setVm hW'.alike, X.tail, State.WarmedH.trans X.warmed hW', X.limits, X.bytes, X.same.trans (hsame.setVm s.vm)⟩,
      ⟨g, mk, s₂, L, E, ce, rfl, rfl, hx, hce, hcv, hcl, rfl, hL, rfl, rfl⟩, ?_⟩
    show Steps p.tables e below _ (((({ U with heap := s₂.heap, slotsUsed := s₂.slotsUsed } : State).setVm s₂.vm).setTop g).pushFrame (.throwing q))
    rw [← hs₂]
    exact hsteps
end Payer
section Calls
variable {p : Program} {l : Launch} {e : Env} {R : Room} {s : State} {m : MethodId} {args : Array Value} {below : List Frame} {meth : Method} {c : Code} {T : State} {locs : List Loc} {cells slots : Nat}
theorem vx_callV (X : Stand p l e R s m args below meth c T locs cells slots) (hexec : p.tables.exec = Jvm.exec) {own C : String} {index : Nat} {y : MethodName} {bytes : ByteArray} {maxL : Nat} {ret : Option FieldType}
    (hown : s.vm.findClass own = some m.cls) (hlink : (Cond.methodLink own index y).before args s = true) (hinst : (Cond.instanceMethod y).before args s = true) (hsel : (Cond.selects C y y).before args s = true)
    (hcode : (Cond.code y bytes maxL ret).before args s = true) (hy : y.cls ≠ "java/lang/invoke/MethodHandle" ∧ y.cls ≠ "java/lang/invoke/VarHandle")
    {W9 : Nat} {Pre : Pt → Array Value → Prop} {Post : Pt → Array Value → Option Value → Pt → Prop} {PostX : Pt → Array Value → Addr → Pt → Prop} (hK : vx_Back l R p e below s args y 3 W9 Pre Post PostX)
    {b : Addr} {cellB : Cell} (hcell : T.heap[b]? = some cellB) (hobj : cellB.vm.isStatics = false) (hcls : s.vm.findClass C = some cellB.cls)
    {g : JFrame} (hg : g.method = m) (hsize : g.locals.size = c.maxLocals) {argsL rest : List Value} (hlen : ∀ sig, parseMethodDescriptor y.desc = some sig → argsL.length = sig.parameters.length)
    (hstack : g.stack = argsL.reverse ++ .ref b :: rest) (hW : 2 * g.monitorRoom + (rest.map fun v => v.category).sum ≤ W9) (hdg : decode c.code g.pc = .ok (.invokevirtual index, 3))
    (hpre : ∀ vm₁, s.WarmedH vm₁ → Pre ⟨T.setVm vm₁, locs, cells, slots⟩ (Value.ref b :: argsL).toArray) :
    (∃ (v : Option Value) (vm₁ : Vm) (B : Pt), s.WarmedH vm₁ ∧ Stand p l e R s m args below meth c B.U B.locs B.cells B.slots ∧ Post ⟨T.setVm vm₁, locs, cells, slots⟩ (Value.ref b :: argsL).toArray v B ∧
      ∀ target, Steps p.tables e below (B.U.setTop { g with pc := g.pc + 3, stack := v.toList ++ rest }) target → Steps p.tables e below (T.setTop g) target) ∨
    (∃ (q : Addr) (vm₁ : Vm) (B : Pt), s.WarmedH vm₁ ∧ Stand p l e R s m args below meth c B.U B.locs B.cells B.slots ∧ PostX ⟨T.setVm vm₁, locs, cells, slots⟩ (Value.ref b :: argsL).toArray q B ∧
      Steps p.tables e below (T.setTop g) ((B.U.setTop { g with stack := rest }).pushFrame (.throwing q))) := by
  obtain ⟨mk, methM, hnamed, hmethM, hstM, habM⟩ := Cond.instanceMethod_spec hinst
  obtain ⟨methM', cM, hmethM', -, -, -, -, -, -, hsigM⟩ := Cond.code_spec hnamed hcode
  cases hmethM.symm.trans hmethM'
  obtain ⟨c2, r2, m2, q1, q2, q3, q4, kP, hkP, hkPi⟩ := Cond.selects_spec hsel
  cases hcls.symm.trans q1
  cases (State.methodFound?_of_named hnamed hy).symm.trans q2
  cases hnamed.symm.trans q3
  have hselP : selectMethod e.platform s.vm cellB.cls mk = .method mk := by rw [Launch.admits_selectMethod X.admits]; exact q4
  obtain ⟨vm₁, X₁, hstep₁⟩ := X.invokevirtual hexec hown hlink hnamed hmethM hstM hkP hkPi hy (a := b) (cell := cellB) hcell
    (fun z h => by rw [h] at hobj; cases hobj) hselP hmethM habM hkP hkPi (g := g) hg (argsL := argsL) (rest := rest) (hlen _ hsigM) hstack hdg
  rcases hK m meth c ⟨T.setVm vm₁, locs, cells, slots⟩ { g with stack := rest } (.invokevirtual index) mk (Value.ref b :: argsL).toArray X₁ hg hsize hdg hW (X₁.named hnamed) (hpre vm₁ X₁.warmed) with ⟨v, B, X', hpost, hsteps⟩ | ⟨q, B, X', hpost, hsteps⟩
  · exact Or.inl ⟨v, vm₁, B, X₁.warmed, X', hpost, fun target h => hstep₁ _ fun acts => by rw [doInvoke_state]; exact hsteps.trans h⟩
  · exact Or.inr ⟨q, vm₁, B, X₁.warmed, X', hpost, hstep₁ _ fun acts => by rw [doInvoke_state]; exact hsteps⟩
theorem vx_callS (X : Stand p l e R s m args below meth c T locs cells slots) (hexec : p.tables.exec = Jvm.exec) {own : String} {index : Nat} {y : MethodName} {bytes : ByteArray} {maxL : Nat} {ret : Option FieldType}
    (hown : s.vm.findClass own = some m.cls) (hlink : (Cond.methodLink own index y).before args s = true) (hstat : (Cond.static y).before args s = true) (hinit : (Cond.initialized y.cls).before args s = true)
    (hcode : (Cond.code y bytes maxL ret).before args s = true) (hy : y.cls ≠ "java/lang/invoke/MethodHandle" ∧ y.cls ≠ "java/lang/invoke/VarHandle")
    {W9 : Nat} {Pre : Pt → Array Value → Prop} {Post : Pt → Array Value → Option Value → Pt → Prop} {PostX : Pt → Array Value → Addr → Pt → Prop} (hK : vx_Back l R p e below s args y 3 W9 Pre Post PostX)
    {g : JFrame} (hg : g.method = m) (hsize : g.locals.size = c.maxLocals) {argsL rest : List Value} (hlen : ∀ sig, parseMethodDescriptor y.desc = some sig → argsL.length = sig.parameters.length)
    (hstack : g.stack = argsL.reverse ++ rest) (hW : 2 * g.monitorRoom + (rest.map fun v => v.category).sum ≤ W9) (hdg : decode c.code g.pc = .ok (.invokestatic index, 3))
    (hpre : ∀ vm₁, s.WarmedH vm₁ → Pre ⟨T.setVm vm₁, locs, cells, slots⟩ argsL.toArray) :
    (∃ (v : Option Value) (vm₁ : Vm) (B : Pt), s.WarmedH vm₁ ∧ Stand p l e R s m args below meth c B.U B.locs B.cells B.slots ∧ Post ⟨T.setVm vm₁, locs, cells, slots⟩ argsL.toArray v B ∧
      ∀ target, Steps p.tables e below (B.U.setTop { g with pc := g.pc + 3, stack := v.toList ++ rest }) target → Steps p.tables e below (T.setTop g) target) ∨
    (∃ (q : Addr) (vm₁ : Vm) (B : Pt), s.WarmedH vm₁ ∧ Stand p l e R s m args below meth c B.U B.locs B.cells B.slots ∧ PostX ⟨T.setVm vm₁, locs, cells, slots⟩ argsL.toArray q B ∧
      Steps p.tables e below (T.setTop g) ((B.U.setTop { g with stack := rest }).pushFrame (.throwing q))) := by
  obtain ⟨mk, hnamed⟩ := Cond.code_named hcode
  obtain ⟨methM, cM, hmethM, -, -, -, -, -, -, hsigM⟩ := Cond.code_spec hnamed hcode
  have hstatic : methM.isStatic = true := Cond.static_spec hnamed hmethM hstat
  obtain ⟨kP, hkP, -⟩ := className_of_methodNamed hnamed
  have hinitP : kP.init = .initialized := Cond.initialized_spec (findClass_of_methodNamed hnamed) hkP hinit
  obtain ⟨vm₁, X₁, hstep₁⟩ := X.invokestatic hexec hown hlink hnamed hmethM hstatic hkP hinitP hy (g := g) hg (argsL := argsL) (rest := rest) (hlen _ hsigM) hstack hdg
  rcases hK m meth c ⟨T.setVm vm₁, locs, cells, slots⟩ { g with stack := rest } (.invokestatic index) mk argsL.toArray X₁ hg hsize hdg hW (X₁.named hnamed) (hpre vm₁ X₁.warmed) with ⟨v, B, X', hpost, hsteps⟩ | ⟨q, B, X', hpost, hsteps⟩
  · exact Or.inl ⟨v, vm₁, B, X₁.warmed, X', hpost, fun target h => hstep₁ _ fun acts => by rw [doInvoke_state]; exact hsteps.trans h⟩
  · exact Or.inr ⟨q, vm₁, B, X₁.warmed, X', hpost, hstep₁ _ fun acts => by rw [doInvoke_state]; exact hsteps⟩
end Calls
theorem vx_cls {s : State} {T : State} {vm₁ : Vm} {E : String} {k : ClassId} (hW : s.WarmedH vm₁) (h : (T.setVm vm₁).vm.findClass E = some k) : s.vm.findClass E = some k := by
  have h1 : vm₁.findClass E = some k := h
  rw [hW.alike.findClass] at h1
  exact h1
/-- the method's frame g, with q thrown over it -/
def vx_W (p : Program) (l : Launch) (e : Env) (R : Room) (s : State) (m : MethodId) (args : Array Value) (below : List Frame) (meth : Method) (c : Code) (H : Heap) (locs : List Loc) (cells slots : Nat) (Q : State → Prop) (g : JFrame) (q : Addr) : Prop :=
  ∀ T : State, T.heap = H → Stand p l e R s m args below meth c T locs cells slots → ∃ t, Steps p.tables e below ((T.setTop g).pushFrame (.throwing q)) t ∧ Q t
def vx_Run (p : Program) (l : Launch) (e : Env) (R : Room) (s : State) (m : MethodId) (args : Array Value) (below : List Frame) (meth : Method) (c : Code) (H : Heap) (locs : List Loc) (cells slots mc ms : Nat) (g : JFrame) (rest : List Value) (Qa : State → Outcome → State → Prop) (XC : String → State → State → Prop) (free : Addr → Prop) : Prop :=
  ∀ T : State, T.heap = H → Stand p l e R s m args below meth c T locs cells slots →
    (∃ (v : Option Value) (st₀ t T' : State) (L : List Loc), st₀.heap = H ∧ Stand p l e R s m args below meth c T' (locs ++ L) (cells + mc) (slots + ms) ∧ (∀ q ∈ L, free q.base) ∧ T'.heap = t.heap ∧ T'.vm = t.vm ∧ Qa st₀ (.returned v) t ∧
      Goes p e below T g T' { g with pc := g.pc + 3, stack := v.toList ++ rest }) ∨
    (∃ (q : Addr) (st₀ t T' : State) (L : List Loc) (E : String) (ce : Cell), st₀.heap = H ∧ Stand p l e R s m args below meth c T' (locs ++ L) (cells + mc) (slots + ms) ∧ (∀ z ∈ L, free z.base) ∧ T'.heap = t.heap ∧ T'.vm = t.vm ∧ XC E st₀ t ∧ t.heap[q]? = some ce ∧ ce.vm = .none ∧ s.vm.findClass E = some ce.cls ∧
      Steps p.tables e below (T.setTop g) ((T'.setTop { g with stack := rest }).pushFrame (.throwing q)))
def vx_X {S : Type} (px : S → Prop) (B : String → S → State → Prop) (A : Nat → Prop) : String → State → State → Prop := fun E st t => ∃ u : S, px u ∧ B E u t ∧ va_F A st t
section Runs
variable {p : Program} {l : Launch} {e : Env} {R : Room} {s : State} {m : MethodId} {args : Array Value} {below : List Frame} {meth : Method} {c : Code} {H : Heap} {locs : List Loc} {cells slots : Nat}
variable {y : MethodName} {bytes cc : ByteArray} {maxL nL mc ms n index : Nat} {ret : Option FieldType} {ws : List Cond} {rm : Room} {Pc : Array Value → State → Prop} {Qc : Array Value → State → Outcome → State → Prop} {XC : String → State → State → Prop} {free : Addr → Prop} {Ts : List Cond} {own C : String} {b : Addr} {As rest : List Value} {g : JFrame}
theorem vx_callBack (cb : CallB R s args own index y bytes maxL ret ws rm mc ms n) (hM : vx_Met l y ws rm Pc Qc XC mc ms free) (hbl : FrameBlind Pc) : vx_Back l R p e below s args y 3 8 (PreOf R mc ms Pc) (PostOf Qc mc ms free) (vx_Post XC mc ms free) := by
  obtain ⟨hrc, hrs, hfr, hlo, hws, hcw, -, hini, -⟩ := cb
  exact vx_back (bytes := bytes) (maxL := maxL) (ret := ret) hM hbl hrc hrs hfr hlo hws hcw (fun a' U hW => word_at hW (Or.inl (by first | rfl | simp [Cond.onTables, Cond.keeps, Cond.steady])) hini)
theorem vx_runV (S : CallFix p m c cc nL s args Ts own) (hM : vx_Met l y ws rm Pc Qc XC mc ms free) (cw : CallW R s args own C index y bytes maxL ret ws rm mc ms n) (hp : PreV s H C b Pc As)
    (hg : g.method = m) (hn : As.length = n) (hsize : g.locals.size = nL) (hstack : g.stack = As.reverse ++ .ref b :: rest) (hW : 2 * g.monitorRoom + (rest.map fun v => v.category).sum ≤ 8) (hdg : decode cc g.pc = .ok (.invokevirtual index, 3)) (hf : cells + mc ≤ R.cells ∧ slots + ms ≤ R.slots) :
    vx_Run p l e R s m args below meth c H locs cells slots mc ms g rest (Qc (Value.ref b :: As).toArray) XC free := by
  have hK : vx_Back l R p e below s args y 3 8 (PreOf R mc ms Pc) (PostOf Qc mc ms free) (vx_Post XC mc ms free) := vx_callBack cw.1 hM hp.1
  obtain ⟨⟨-, -, -, -, -, -, hcode, -, hy, hlen, hl⟩, hin, hse⟩ := cw
  obtain ⟨hx, hb, hml, ho, -⟩ := S
  obtain ⟨-, ⟨cellB, hcB, hoB, hclB⟩, hPc⟩ := hp
  intro T hT X
  rcases vx_callV X hx (C := C) (bytes := bytes) (maxL := maxL) (ret := ret) ho hl hin hse hcode hy hK (by rw [hT]; exact hcB) hoB hclB hg (hsize.trans hml.symm) (argsL := As) (rest := rest) (fun sig h => hn.trans (hlen sig h)) hstack hW (by rw [hb]; exact hdg)
    (fun vm₁ hW₁ => ⟨hf.1, hf.2, hPc (T.setVm vm₁) hT hW₁⟩) with ⟨v, vm₁, ⟨U', l2, c2, s2⟩, hW₁, X', ⟨g', mk, t, L, e1, e2, hq, h1, hL, h2, h3⟩, st⟩ | ⟨q, vm₁, ⟨U', l2, c2, s2⟩, hW₁, X', ⟨g', mk, t, L, E, ce, e1, e2, hq, hce, hcv, hcl, h1, hL, h2, h3⟩, st⟩
  · dsimp only [Pt.U, Pt.locs, Pt.cells, Pt.slots] at X' e1 e2 h1 h2 h3 st
    subst h1; subst h2; subst h3
    exact Or.inl ⟨v, (T.setVm vm₁).calling g' mk (Value.ref b :: As).toArray, t, U', L, hT, X', hL, e1, e2, hq, st⟩
  · dsimp only [Pt.U, Pt.locs, Pt.cells, Pt.slots] at X' e1 e2 h1 h2 h3 st hcl
    subst h1; subst h2; subst h3
    exact Or.inr ⟨q, (T.setVm vm₁).calling g' mk (Value.ref b :: As).toArray, t, U', L, E, ce, hT, X', hL, e1, e2, hq, hce, hcv, vx_cls hW₁ hcl, st⟩
theorem vx_runS (S : CallFix p m c cc nL s args Ts own) (hM : vx_Met l y ws rm Pc Qc XC mc ms free) (cw : CallB R s args own index y bytes maxL ret ws rm mc ms n ∧ (Cond.static y).before args s = true) (hp : PreS s H Pc As)
    (hg : g.method = m) (hn : As.length = n) (hsize : g.locals.size = nL) (hstack : g.stack = As.reverse ++ rest) (hW : 2 * g.monitorRoom + (rest.map fun v => v.category).sum ≤ 8) (hdg : decode cc g.pc = .ok (.invokestatic index, 3)) (hf : cells + mc ≤ R.cells ∧ slots + ms ≤ R.slots) :
    vx_Run p l e R s m args below meth c H locs cells slots mc ms g rest (Qc As.toArray) XC free := by
  have hK : vx_Back l R p e below s args y 3 8 (PreOf R mc ms Pc) (PostOf Qc mc ms free) (vx_Post XC mc ms free) := vx_callBack cw.1 hM hp.1
  obtain ⟨⟨-, -, -, -, -, -, hcode, hini, hy, hlen, hl⟩, hstt⟩ := cw
  obtain ⟨hx, hb, hml, ho, -⟩ := S
  intro T hT X
  rcases vx_callS X hx (bytes := bytes) (maxL := maxL) (ret := ret) ho hl hstt hini hcode hy hK hg (hsize.trans hml.symm) (argsL := As) (rest := rest) (fun sig h => hn.trans (hlen sig h)) hstack hW (by rw [hb]; exact hdg)
    (fun vm₁ hW₁ => ⟨hf.1, hf.2, hp.2 (T.setVm vm₁) hT hW₁⟩) with ⟨v, vm₁, ⟨U', l2, c2, s2⟩, hW₁, X', ⟨g', mk, t, L, e1, e2, hq, h1, hL, h2, h3⟩, st⟩ | ⟨q, vm₁, ⟨U', l2, c2, s2⟩, hW₁, X', ⟨g', mk, t, L, E, ce, e1, e2, hq, hce, hcv, hcl, h1, hL, h2, h3⟩, st⟩
  · dsimp only [Pt.U, Pt.locs, Pt.cells, Pt.slots] at X' e1 e2 h1 h2 h3 st
    subst h1; subst h2; subst h3
    exact Or.inl ⟨v, (T.setVm vm₁).calling g' mk As.toArray, t, U', L, hT, X', hL, e1, e2, hq, st⟩
  · dsimp only [Pt.U, Pt.locs, Pt.cells, Pt.slots] at X' e1 e2 h1 h2 h3 st hcl
    subst h1; subst h2; subst h3
    exact Or.inr ⟨q, (T.setVm vm₁).calling g' mk As.toArray, t, U', L, E, ce, hT, X', hL, e1, e2, hq, hce, hcv, vx_cls hW₁ hcl, st⟩
end Runs
section Rows
variable {p : Program} {l : Launch} {e : Env} {R : Room} {s : State} {m : MethodId} {args : Array Value} {below : List Frame} {meth : Method} {c : Code} {H : Heap} {locs : List Loc} {cells slots : Nat} {Q : State → Prop}
variable {mc ms : Nat} {free : Addr → Prop} {A0 A1 : Nat → Prop} {H0 : Heap} {a : Array Value} {pc : Nat} {ls : Array Slot} {st0 rest : List Value}
theorem vx_keep {st₀ t T' : State} {L : List Loc} (h0 : st₀.heap = H) (e1 : T'.heap = t.heap) (hS : va_S A0 H0 H locs) (hA : ∀ q, q < H.size → A1 q → A0 q) (hf : ∀ q, free q → A0 q) (hL : ∀ q ∈ L, free q.base) (hF : va_F A1 st₀ t) :
    H.size ≤ T'.heap.size ∧ (∀ q : Nat, q < H.size → ¬ A1 q → T'.heap[q]? = H[q]?) ∧ va_S A0 H0 T'.heap (locs ++ L) := by
  obtain ⟨hz, hk⟩ := hF
  rw [h0] at hz hk
  exact ⟨by rw [e1]; exact hz, fun q h1 h2 => by rw [e1]; exact hk q h1 h2,
    ⟨Nat.le_trans hS.1 (by rw [e1]; exact hz), fun q h1 h2 => by rw [e1, hk q (Nat.lt_of_lt_of_le h1 hS.1) (fun z => h2 (hA q (Nat.lt_of_lt_of_le h1 hS.1) z))]; exact hS.2.1 q h1 h2, fun q hq => by
      rcases List.mem_append.mp hq with h | h
      · exact hS.2.2 q h
      · exact hf _ (hL q h)⟩⟩
theorem vx_calli {S SX : Type} {post : Int32 → S → Prop} {px : SX → Prop} {B : S → State → Prop} {BX : String → SX → State → Prop} {AX : Nat → Prop} (hr : vx_Run p l e R s m args below meth c H locs cells slots mc ms (F0 m pc ls st0) rest (va_Qi post B A1 a) (vx_X px BX AX) free) (hS : va_S A0 H0 H locs) (hA : ∀ q, q < H.size → A1 q → A0 q) (hf : ∀ q, free q → A0 q) (hAX : ∀ q, q < H.size → AX q → A0 q)
    (kx : ∀ (E : String) (ce : Cell) (q9 : Addr) (u : SX) (t : State) (H1 : Heap) (locs1 : List Loc), t.heap = H1 → s.vm.Alike t.vm → px u → BX E u t → H.size ≤ H1.size → (∀ q : Nat, q < H.size → ¬ AX q → H1[q]? = H[q]?) → va_S A0 H0 H1 locs1 → H1[q9]? = some ce → ce.vm = .none → s.vm.findClass E = some ce.cls → vx_W p l e R s m args below meth c H1 locs1 (cells + mc) (slots + ms) Q (F0 m pc ls rest) q9)
    (kk : ∀ (r : Int32) (u : S) (t : State) (H1 : Heap) (locs1 : List Loc), t.heap = H1 → s.vm.Alike t.vm → post r u → B u t → H.size ≤ H1.size → (∀ q : Nat, q < H.size → ¬ A1 q → H1[q]? = H[q]?) → va_S A0 H0 H1 locs1 → W p l e R s m args below meth c H1 locs1 (cells + mc) (slots + ms) Q (F0 m (pc + 3) ls (.int r :: rest))) : W p l e R s m args below meth c H locs cells slots Q (F0 m pc ls st0) := by
  intro T hT X
  rcases hr T hT X with ⟨v, st₀, t, T', L, h0, X', hL, e1, e2, ⟨⟨r, u, hv, hp, hb⟩, hF⟩, st⟩ | ⟨q, st₀, t, T', L, E, ce, h0, X', hL, e1, e2, ⟨u, hp, hb, hF⟩, hce, hcv, hcl, st⟩
  · cases hv
    obtain ⟨k1, k2, k3⟩ := vx_keep h0 e1 hS hA hf hL hF
    obtain ⟨t2, a1, b1⟩ := kk r u t T'.heap (locs ++ L) e1.symm (by rw [← e2]; exact X'.warmed.alike) hp hb k1 k2 k3 T' rfl X'
    exact ⟨t2, st t2 a1, b1⟩
  · obtain ⟨k1, k2, k3⟩ := vx_keep h0 e1 hS hAX hf hL hF
    obtain ⟨t2, a1, b1⟩ := kx E ce q u t T'.heap (locs ++ L) e1.symm (by rw [← e2]; exact X'.warmed.alike) hp hb k1 k2 k3 (by rw [e1]; exact hce) hcv hcl T' rfl X'
    exact ⟨t2, st.trans a1, b1⟩
theorem vx_calll {S SX : Type} {post : Int64 → S → Prop} {px : SX → Prop} {B : S → State → Prop} {BX : String → SX → State → Prop} {AX : Nat → Prop} (hr : vx_Run p l e R s m args below meth c H locs cells slots mc ms (F0 m pc ls st0) rest (va_Ql post B A1 a) (vx_X px BX AX) free) (hS : va_S A0 H0 H locs) (hA : ∀ q, q < H.size → A1 q → A0 q) (hf : ∀ q, free q → A0 q) (hAX : ∀ q, q < H.size → AX q → A0 q)
    (kx : ∀ (E : String) (ce : Cell) (q9 : Addr) (u : SX) (t : State) (H1 : Heap) (locs1 : List Loc), t.heap = H1 → s.vm.Alike t.vm → px u → BX E u t → H.size ≤ H1.size → (∀ q : Nat, q < H.size → ¬ AX q → H1[q]? = H[q]?) → va_S A0 H0 H1 locs1 → H1[q9]? = some ce → ce.vm = .none → s.vm.findClass E = some ce.cls → vx_W p l e R s m args below meth c H1 locs1 (cells + mc) (slots + ms) Q (F0 m pc ls rest) q9)
    (kk : ∀ (r : Int64) (u : S) (t : State) (H1 : Heap) (locs1 : List Loc), t.heap = H1 → s.vm.Alike t.vm → post r u → B u t → H.size ≤ H1.size → (∀ q : Nat, q < H.size → ¬ A1 q → H1[q]? = H[q]?) → va_S A0 H0 H1 locs1 → W p l e R s m args below meth c H1 locs1 (cells + mc) (slots + ms) Q (F0 m (pc + 3) ls (.long r :: rest))) : W p l e R s m args below meth c H locs cells slots Q (F0 m pc ls st0) := by
  intro T hT X
  rcases hr T hT X with ⟨v, st₀, t, T', L, h0, X', hL, e1, e2, ⟨⟨r, u, hv, hp, hb⟩, hF⟩, st⟩ | ⟨q, st₀, t, T', L, E, ce, h0, X', hL, e1, e2, ⟨u, hp, hb, hF⟩, hce, hcv, hcl, st⟩
  · cases hv
    obtain ⟨k1, k2, k3⟩ := vx_keep h0 e1 hS hA hf hL hF
    obtain ⟨t2, a1, b1⟩ := kk r u t T'.heap (locs ++ L) e1.symm (by rw [← e2]; exact X'.warmed.alike) hp hb k1 k2 k3 T' rfl X'
    exact ⟨t2, st t2 a1, b1⟩
  · obtain ⟨k1, k2, k3⟩ := vx_keep h0 e1 hS hAX hf hL hF
    obtain ⟨t2, a1, b1⟩ := kx E ce q u t T'.heap (locs ++ L) e1.symm (by rw [← e2]; exact X'.warmed.alike) hp hb k1 k2 k3 (by rw [e1]; exact hce) hcv hcl T' rfl X'
    exact ⟨t2, st.trans a1, b1⟩
theorem vx_callf {S SX : Type} {post : UInt32 → S → Prop} {px : SX → Prop} {B : S → State → Prop} {BX : String → SX → State → Prop} {AX : Nat → Prop} (hr : vx_Run p l e R s m args below meth c H locs cells slots mc ms (F0 m pc ls st0) rest (va_Qf post B A1 a) (vx_X px BX AX) free) (hS : va_S A0 H0 H locs) (hA : ∀ q, q < H.size → A1 q → A0 q) (hf : ∀ q, free q → A0 q) (hAX : ∀ q, q < H.size → AX q → A0 q)
    (kx : ∀ (E : String) (ce : Cell) (q9 : Addr) (u : SX) (t : State) (H1 : Heap) (locs1 : List Loc), t.heap = H1 → s.vm.Alike t.vm → px u → BX E u t → H.size ≤ H1.size → (∀ q : Nat, q < H.size → ¬ AX q → H1[q]? = H[q]?) → va_S A0 H0 H1 locs1 → H1[q9]? = some ce → ce.vm = .none → s.vm.findClass E = some ce.cls → vx_W p l e R s m args below meth c H1 locs1 (cells + mc) (slots + ms) Q (F0 m pc ls rest) q9)
    (kk : ∀ (r : UInt32) (u : S) (t : State) (H1 : Heap) (locs1 : List Loc), t.heap = H1 → s.vm.Alike t.vm → post r u → B u t → H.size ≤ H1.size → (∀ q : Nat, q < H.size → ¬ A1 q → H1[q]? = H[q]?) → va_S A0 H0 H1 locs1 → W p l e R s m args below meth c H1 locs1 (cells + mc) (slots + ms) Q (F0 m (pc + 3) ls (.float r :: rest))) : W p l e R s m args below meth c H locs cells slots Q (F0 m pc ls st0) := by
  intro T hT X
  rcases hr T hT X with ⟨v, st₀, t, T', L, h0, X', hL, e1, e2, ⟨⟨r, u, hv, hp, hb⟩, hF⟩, st⟩ | ⟨q, st₀, t, T', L, E, ce, h0, X', hL, e1, e2, ⟨u, hp, hb, hF⟩, hce, hcv, hcl, st⟩
  · cases hv
    obtain ⟨k1, k2, k3⟩ := vx_keep h0 e1 hS hA hf hL hF
    obtain ⟨t2, a1, b1⟩ := kk r u t T'.heap (locs ++ L) e1.symm (by rw [← e2]; exact X'.warmed.alike) hp hb k1 k2 k3 T' rfl X'
    exact ⟨t2, st t2 a1, b1⟩
  · obtain ⟨k1, k2, k3⟩ := vx_keep h0 e1 hS hAX hf hL hF
    obtain ⟨t2, a1, b1⟩ := kx E ce q u t T'.heap (locs ++ L) e1.symm (by rw [← e2]; exact X'.warmed.alike) hp hb k1 k2 k3 (by rw [e1]; exact hce) hcv hcl T' rfl X'
    exact ⟨t2, st.trans a1, b1⟩
theorem vx_calld {S SX : Type} {post : UInt64 → S → Prop} {px : SX → Prop} {B : S → State → Prop} {BX : String → SX → State → Prop} {AX : Nat → Prop} (hr : vx_Run p l e R s m args below meth c H locs cells slots mc ms (F0 m pc ls st0) rest (va_Qd post B A1 a) (vx_X px BX AX) free) (hS : va_S A0 H0 H locs) (hA : ∀ q, q < H.size → A1 q → A0 q) (hf : ∀ q, free q → A0 q) (hAX : ∀ q, q < H.size → AX q → A0 q)
    (kx : ∀ (E : String) (ce : Cell) (q9 : Addr) (u : SX) (t : State) (H1 : Heap) (locs1 : List Loc), t.heap = H1 → s.vm.Alike t.vm → px u → BX E u t → H.size ≤ H1.size → (∀ q : Nat, q < H.size → ¬ AX q → H1[q]? = H[q]?) → va_S A0 H0 H1 locs1 → H1[q9]? = some ce → ce.vm = .none → s.vm.findClass E = some ce.cls → vx_W p l e R s m args below meth c H1 locs1 (cells + mc) (slots + ms) Q (F0 m pc ls rest) q9)
    (kk : ∀ (r : UInt64) (u : S) (t : State) (H1 : Heap) (locs1 : List Loc), t.heap = H1 → s.vm.Alike t.vm → post r u → B u t → H.size ≤ H1.size → (∀ q : Nat, q < H.size → ¬ A1 q → H1[q]? = H[q]?) → va_S A0 H0 H1 locs1 → W p l e R s m args below meth c H1 locs1 (cells + mc) (slots + ms) Q (F0 m (pc + 3) ls (.double r :: rest))) : W p l e R s m args below meth c H locs cells slots Q (F0 m pc ls st0) := by
  intro T hT X
  rcases hr T hT X with ⟨v, st₀, t, T', L, h0, X', hL, e1, e2, ⟨⟨r, u, hv, hp, hb⟩, hF⟩, st⟩ | ⟨q, st₀, t, T', L, E, ce, h0, X', hL, e1, e2, ⟨u, hp, hb, hF⟩, hce, hcv, hcl, st⟩
  · cases hv
    obtain ⟨k1, k2, k3⟩ := vx_keep h0 e1 hS hA hf hL hF
    obtain ⟨t2, a1, b1⟩ := kk r u t T'.heap (locs ++ L) e1.symm (by rw [← e2]; exact X'.warmed.alike) hp hb k1 k2 k3 T' rfl X'
    exact ⟨t2, st t2 a1, b1⟩
  · obtain ⟨k1, k2, k3⟩ := vx_keep h0 e1 hS hAX hf hL hF
    obtain ⟨t2, a1, b1⟩ := kx E ce q u t T'.heap (locs ++ L) e1.symm (by rw [← e2]; exact X'.warmed.alike) hp hb k1 k2 k3 (by rw [e1]; exact hce) hcv hcl T' rfl X'
    exact ⟨t2, st.trans a1, b1⟩
theorem vx_callv {S SX : Type} {post : S → Prop} {px : SX → Prop} {B : S → State → Prop} {BX : String → SX → State → Prop} {AX : Nat → Prop} (hr : vx_Run p l e R s m args below meth c H locs cells slots mc ms (F0 m pc ls st0) rest (va_Qv post B A1 a) (vx_X px BX AX) free) (hS : va_S A0 H0 H locs) (hA : ∀ q, q < H.size → A1 q → A0 q) (hf : ∀ q, free q → A0 q) (hAX : ∀ q, q < H.size → AX q → A0 q)
    (kx : ∀ (E : String) (ce : Cell) (q9 : Addr) (u : SX) (t : State) (H1 : Heap) (locs1 : List Loc), t.heap = H1 → s.vm.Alike t.vm → px u → BX E u t → H.size ≤ H1.size → (∀ q : Nat, q < H.size → ¬ AX q → H1[q]? = H[q]?) → va_S A0 H0 H1 locs1 → H1[q9]? = some ce → ce.vm = .none → s.vm.findClass E = some ce.cls → vx_W p l e R s m args below meth c H1 locs1 (cells + mc) (slots + ms) Q (F0 m pc ls rest) q9)
    (kk : ∀ (u : S) (t : State) (H1 : Heap) (locs1 : List Loc), t.heap = H1 → s.vm.Alike t.vm → post u → B u t → H.size ≤ H1.size → (∀ q : Nat, q < H.size → ¬ A1 q → H1[q]? = H[q]?) → va_S A0 H0 H1 locs1 → W p l e R s m args below meth c H1 locs1 (cells + mc) (slots + ms) Q (F0 m (pc + 3) ls (rest))) : W p l e R s m args below meth c H locs cells slots Q (F0 m pc ls st0) := by
  intro T hT X
  rcases hr T hT X with ⟨v, st₀, t, T', L, h0, X', hL, e1, e2, ⟨⟨u, hv, hp, hb⟩, hF⟩, st⟩ | ⟨q, st₀, t, T', L, E, ce, h0, X', hL, e1, e2, ⟨u, hp, hb, hF⟩, hce, hcv, hcl, st⟩
  · cases hv
    obtain ⟨k1, k2, k3⟩ := vx_keep h0 e1 hS hA hf hL hF
    obtain ⟨t2, a1, b1⟩ := kk u t T'.heap (locs ++ L) e1.symm (by rw [← e2]; exact X'.warmed.alike) hp hb k1 k2 k3 T' rfl X'
    exact ⟨t2, st t2 a1, b1⟩
  · obtain ⟨k1, k2, k3⟩ := vx_keep h0 e1 hS hAX hf hL hF
    obtain ⟨t2, a1, b1⟩ := kx E ce q u t T'.heap (locs ++ L) e1.symm (by rw [← e2]; exact X'.warmed.alike) hp hb k1 k2 k3 (by rw [e1]; exact hce) hcv hcl T' rfl X'
    exact ⟨t2, st.trans a1, b1⟩
/-- caught by the row x of this method's table; the rows ahead don't take it -/
theorem vx_catch {own name : String} {E : String} {ce : Cell} {q : Addr} (hown : s.vm.findClass own = some m.cls) (pre : List ExceptionTableEntry) (x : ExceptionTableEntry) (suf : List ExceptionTableEntry) (hsplit : c.exceptionTable.toList = pre ++ x :: suf)
    (hpass : ∀ z ∈ pre, covers z pc = false ∨ (z.catchType ≠ 0 ∧ ∃ nm : String, (Cond.classLink own z.catchType nm).before args s = true ∧ va_Nc E nm s)) (hx : covers x pc = true) (h0 : x.catchType ≠ 0)
    (hlink : (Cond.classLink own x.catchType name).before args s = true) (hcast : (Cond.castable E name).before args s = true) (hcell : H[q]? = some ce) (hv : ce.vm = .none) (hcl : s.vm.findClass E = some ce.cls)
    (kk : W p l e R s m args below meth c H locs cells slots Q (F0 m x.handlerPc ls [.ref q])) : vx_W p l e R s m args below meth c H locs cells slots Q (F0 m pc ls rest) q := by
  intro T hT X
  have hpl : e.platform.magicAccessors = ({} : Platform).magicAccessors := by rw [X.admits.platform]
  obtain ⟨c3, c4, hc3, hc4, hasg⟩ := Cond.castable_spec hcast
  cases Option.some.inj (hc3.symm.trans hcl)
  obtain ⟨c5, hc5, hcl5⟩ := Cond.classLink_spec hown hlink e.platform hpl
  cases Option.some.inj (hc4.symm.trans hc5)
  obtain ⟨vm', X', st⟩ := X.thenCaughtThrough q (g := F0 m pc ls rest) rfl (Steps.refl _) (by rw [hT]; exact hcell) (by rw [hv]; rfl) (by obtain ⟨k9, h9, -⟩ := Vm.findClass_spec hcl; exact ⟨k9, h9⟩) pre x suf hsplit
    (fun z hz => by
      rcases hpass z hz with h | ⟨hz0, nm, hl1, hn1⟩
      · exact Or.inl h
      · obtain ⟨c6, hc6, hcl6⟩ := Cond.classLink_spec hown hl1 e.platform hpl
        obtain ⟨a8, b8, h1, h2, h3⟩ := hn1
        cases Option.some.inj (h1.symm.trans hcl)
        cases Option.some.inj (h2.symm.trans hc6)
        exact Or.inr ⟨hz0, _, hcl6, h3⟩) hx (Or.inr ⟨h0, c4, hcl5, hasg⟩)
  obtain ⟨t, a1, b1⟩ := kk (T.setVm vm') hT X'
  exact ⟨t, st.trans a1, b1⟩
end Rows
section Ends
variable {p : Program} {l : Launch} {e : Env} {R : Room} {s : State} {m : MethodId} {args : Array Value} {below : List Frame} {meth : Method} {c : Code} {H : Heap} {locs : List Loc} {cells slots : Nat} {Q : State → Prop}
variable {mc ms : Nat} {free : Addr → Prop} {A0 A1 : Nat → Prop} {H0 : Heap} {a : Array Value} {ls : Array Slot} {st0 rest : List Value}
variable {Qc : Array Value → State → Outcome → State → Prop} {XC : String → State → State → Prop}
/-- what a body that may throw owes at its end -/
def vx_MQ (below : List Frame) (Qc : Array Value → State → Outcome → State → Prop) (XC : String → State → State → Prop) (a : Array Value) (s : State) (mc ms : Nat) (free : Addr → Prop) : State → Prop := fun t =>
  ∃ o, t.status = .running ∧ Ended t below o ∧ vx_Q Qc XC mc ms free a s o t
theorem vx_ret {g : JFrame} {mc ms : Nat} (k : W p l e R s m args below meth c H locs cells slots (MQ below Qc args s mc ms free) g) : W p l e R s m args below meth c H locs cells slots (vx_MQ below Qc XC args s mc ms free) g := by
  intro T hT X
  obtain ⟨t, a1, o, b1, b2, b3, b4⟩ := k T hT X
  exact ⟨t, a1, o, b1, b2, Or.inl ⟨b3, b4⟩⟩
/-- not caught here: it goes on to the caller -/
theorem vx_widen {g : JFrame} {q : Addr} {k n : Nat} (h1 : cells ≤ k) (h2 : slots ≤ n) (kk : vx_W p l e R s m args below meth c H locs k n Q g q) : vx_W p l e R s m args below meth c H locs cells slots Q g q := fun T hT X => kk T hT (stand_widen X h1 h2)
theorem vx_out {pc : Nat} {E : String} {ce : Cell} {q : Addr} {mc ms : Nat} (hout : ∀ x ∈ c.exceptionTable.toList, covers x pc = false) (hlocks : meth.locks = false) (hcell : H[q]? = some ce) (hv : ce.vm = .none) (hcl : s.vm.findClass E = some ce.cls)
    (hx : ∀ t : State, t.heap = H → s.vm.Alike t.vm → XC E s t) (hf : ∀ z ∈ locs, free z.base) (hc : cells ≤ mc) (hs : slots ≤ ms) :
    vx_W p l e R s m args below meth c H locs cells slots (vx_MQ below Qc XC args s mc ms free) (F0 m pc ls rest) q := by
  intro T hT X
  obtain ⟨st1, hrun, hend, hW, hsm⟩ := X.leaveThrown q (g := F0 m pc ls rest) rfl rfl rfl hout hlocks
  have hcell9 : (T.setFrames (.throwing q :: below)).heap[q]? = some ce := by
    show T.heap[q]? = some ce
    rw [hT]; exact hcell
  exact ⟨_, st1, .threw q, hrun, hend, Or.inr ⟨q, rfl, E, ce, locs, hx _ hT hW.alike, hcell9, hv, hcl, hW, hsm.mono hc hs, hf⟩⟩
theorem vx_frame {U : State} {k n : Nat} (h : s.sameButNew ({ U with vm := s.vm } : State) locs k n) : s.heap.size ≤ U.heap.size ∧ ∀ q : Nat, q < s.heap.size → (∀ z ∈ locs, z.base ≠ q) → U.heap[q]? = s.heap[q]? := by
  obtain ⟨-, h2, -, -, -, h6⟩ := h
  refine ⟨h2, fun q hq hz => ?_⟩
  obtain ⟨c9, e1, e2, e3, e4⟩ := h6 q _ (Array.getElem?_eq_getElem hq)
  have hs : c9.slots = (s.heap[q]).slots := Array.ext_getElem? fun i => e4 i fun hm => hz _ hm rfl
  have h9 : c9 = s.heap[q] := by
    rw [hs] at e2
    exact e2
  have e5 : U.heap[q]? = some c9 := e1
  rw [e5, h9, Array.getElem?_eq_getElem hq]
/-- the words of a throw but the four that speak of the heap -/
def vx_no (w : Cond) : Bool := decide (w ≠ .isRef (.static Bundle.tN "UNASSIGNED_STACK" Bundle.steD)) && decide (w ≠ .isRef (.static Bundle.tN "SUPPRESSED_SENTINEL" Bundle.listD)) && decide (w ≠ .laysStatic Bundle.tN "UNASSIGNED_STACK" Bundle.steD) && decide (w ≠ .laysStatic Bundle.tN "SUPPRESSED_SENTINEL" Bundle.listD)
def vx_at0 (own : String) (ic : Nat) (X : String) (names : List String) : List Cond := (Bundle.ownAtoms0 own ic X names).filter vx_no
def vx_atS (own : String) (ic : Nat) (X : String) (names : List String) : List Cond := (Bundle.ownAtoms own ic X names).filter vx_no
/-- a word that the tables alone decide, or a good one -/
def vx_ot (w : Cond) : Bool := w.onTables || goodWord w
theorem vx_ot_at {args a' : Array Value} {s U : State} {w : Cond} (hW : s.WarmedH U.vm) (hvm : s.vm = U.vm) (hg : vx_ot w = true) (h : w.before args s = true) : w.before a' U = true := by
  simp only [vx_ot, Bool.or_eq_true] at hg
  rcases hg with hg | hg
  · exact va_tabs hg hvm h
  · exact word_at hW (good_of_word hg) h
/-- a list's words: the good ones out of the method's own list, the others by premises of their own -/
theorem vx_hat {args : Array Value} {s : State} {L B : List Cond} (h1 : ∀ w ∈ L.filter goodWord, w.before args s = true) (h2 : ∀ w ∈ L.filter (fun w => !goodWord w), w ∈ B) (h3 : ∀ w ∈ B, w.before args s = true) : ∀ w ∈ L, w.before args s = true := by
  intro w hw
  by_cases g : goodWord w = true
  · exact h1 w (List.mem_filter.mpr ⟨hw, g⟩)
  · refine h3 w (h2 w (List.mem_filter.mpr ⟨hw, ?_⟩))
    show (!goodWord w) = true
    cases hgw : goodWord w
    · rfl
    · exact absurd hgw g
theorem vx_c {args : Array Value} {s : State} {w : Cond} {B : List Cond} (h : w.before args s = true) (t : ∀ w ∈ B, w.before args s = true) : ∀ w' ∈ w :: B, w'.before args s = true := fun w' h' => (List.mem_cons.mp h').elim (fun e => by rw [e]; exact h) (t w')
theorem vx_n {args : Array Value} {s : State} : ∀ w ∈ ([] : List Cond), w.before args s = true := fun _ h => nomatch h
theorem vx_own {args : Array Value} {s : State} {L : List Cond} (h1 : ∀ w ∈ L.filter vx_no, w.before args s = true)
    (hU : (Cond.isRef (.static Bundle.tN "UNASSIGNED_STACK" Bundle.steD)).before args s = true) (hN : (Cond.isRef (.static Bundle.tN "SUPPRESSED_SENTINEL" Bundle.listD)).before args s = true)
    (lU : (Cond.laysStatic Bundle.tN "UNASSIGNED_STACK" Bundle.steD).before args s = true) (lN : (Cond.laysStatic Bundle.tN "SUPPRESSED_SENTINEL" Bundle.listD).before args s = true) : ∀ w ∈ L, w.before args s = true := by
  intro w hw
  by_cases e1 : w = .isRef (.static Bundle.tN "UNASSIGNED_STACK" Bundle.steD)
  · rw [e1]; exact hU
  · by_cases e2 : w = .isRef (.static Bundle.tN "SUPPRESSED_SENTINEL" Bundle.listD)
    · rw [e2]; exact hN
    · by_cases e3 : w = .laysStatic Bundle.tN "UNASSIGNED_STACK" Bundle.steD
      · rw [e3]; exact lU
      · by_cases e4 : w = .laysStatic Bundle.tN "SUPPRESSED_SENTINEL" Bundle.listD
        · rw [e4]; exact lN
        · exact h1 w (List.mem_filter.mpr ⟨hw, by unfold vx_no; rw [decide_eq_true e1, decide_eq_true e2, decide_eq_true e3, decide_eq_true e4]; rfl⟩)
/-- where a static field lies, its class's statics cell in H -/
def vx_L (C n d : String) (A : Nat → Prop) (U : State) (H : Heap) : Prop := ∃ (c : ClassId) (k : Class) (i : Nat) (f : Field) (a : Nat) (cell : Cell), U.vm.findClass C = some c ∧ U.fieldFound? C n d = some (c, k, i, f) ∧ f.isStatic = true ∧ k.statics = some a ∧ H[a]? = some cell ∧ cell.vm.isStatics = true ∧ cell.cls = c ∧ f.slot < cell.slots.size ∧ k.staticTypes[f.slot]? = some f.type ∧ ¬ A a
theorem vx_L.moved {C n d : String} {A : Nat → Prop} {u U : State} {H : Heap} (hvm : u.vm.Alike U.vm) (h : vx_L C n d A u H) : vx_L C n d A U H := by
  obtain ⟨c, k, i, f, a, cell, h1, h2, h3, h4, h5, h6, h7, h8, h9, h10⟩ := h
  obtain ⟨k', hi', he⟩ := State.fieldFound?_setVm hvm h2
  exact ⟨c, k', i, f, a, cell, by rw [hvm.findClass]; exact h1, hi', h3, by rw [he]; exact h4, h5, h6, h7, h8, by rw [he]; exact h9, h10⟩
theorem vx_L.kept {C n d : String} {A : Nat → Prop} {U : State} {H H1 : Heap} (h : vx_L C n d A U H) (hq : ∀ a : Nat, a < H.size → ¬ A a → H1[a]? = H[a]?) : vx_L C n d A U H1 := by
  obtain ⟨c, k, i, f, a, cell, h1, h2, h3, h4, h5, h6, h7, h8, h9, h10⟩ := h
  exact ⟨c, k, i, f, a, cell, h1, h2, h3, h4, by rw [hq a (Array.getElem?_eq_some_iff.mp h5).1 h10]; exact h5, h6, h7, h8, h9, h10⟩
theorem vx_L.narrow {C n d : String} {A B : Nat → Prop} {U : State} {H : Heap} (h : vx_L C n d A U H) (hAB : ∀ q, B q → A q) : vx_L C n d B U H := by
  obtain ⟨c, k, i, f, a, cell, h1, h2, h3, h4, h5, h6, h7, h8, h9, h10⟩ := h
  exact ⟨c, k, i, f, a, cell, h1, h2, h3, h4, h5, h6, h7, h8, h9, fun z => h10 (hAB _ z)⟩
theorem vx_L.word {C n d : String} {A : Nat → Prop} {s : State} {args : Array Value} (h : vx_L C n d A s s.heap) : (Cond.laysStatic C n d).before args s = true := by
  obtain ⟨c, k, i, f, a, cell, h1, h2, h3, h4, h5, h6, h7, h8, h9, -⟩ := h
  show (Cond.laysStatic C n d).holds args s none s [] = true
  exact Cond.laysStatic_of h1 h2 h3 h4 h5 h6 h7 h8 h9
/-- .. and what it holds: null or some reference -/
def vx_Zq (C n d : String) (A : Nat → Prop) (U : State) (H : Heap) : Prop := va_Zq C n d A U H ∧ vx_L C n d A U H
theorem vx_Zq.moved {C n d : String} {A : Nat → Prop} {u U : State} {H : Heap} (hvm : u.vm.Alike U.vm) (h : vx_Zq C n d A u H) : vx_Zq C n d A U H := ⟨va_Zq.moved hvm h.1, vx_L.moved hvm h.2⟩
theorem vx_Zq.kept {C n d : String} {A : Nat → Prop} {U : State} {H H1 : Heap} (h : vx_Zq C n d A U H) (hq : ∀ a : Nat, a < H.size → ¬ A a → H1[a]? = H[a]?) : vx_Zq C n d A U H1 := ⟨va_Zq.kept h.1 hq, vx_L.kept h.2 hq⟩
theorem vx_Zq.narrow {C n d : String} {A B : Nat → Prop} {U : State} {H : Heap} (h : vx_Zq C n d A U H) (hAB : ∀ q, B q → A q) : vx_Zq C n d B U H := ⟨va_Zq.narrow h.1 hAB, vx_L.narrow h.2 hAB⟩
theorem vx_Zqof {args : Array Value} {s : State} {C n d : String} {A : Nat → Prop} (hl : (Cond.laysStatic C n d).before args s = true) (hini : (Cond.initialized C).before args s = true) (h : (Cond.isRef (.static C n d)).before args s = true) (hA : ∀ a : Nat, a < s.heap.size → ¬ A a) : vx_Zq C n d A s s.heap := by
  refine ⟨va_Zqof hl hini h hA, ?_⟩
  obtain ⟨c, k, i, f, a, cell, h1, h2, h3, h4, h5, h6, h7, h8, h9⟩ := Cond.laysStatic_spec hl
  exact ⟨c, k, i, f, a, cell, h1, h2, h3, h4, h5, h6, h7, h8, h9, hA a (Array.getElem?_eq_some_iff.mp h5).1⟩
theorem vx_isRef {C n d : String} {v : Value} {A : Nat → Prop} {s : State} {args : Array Value} (h : va_Z C n d v A s s.heap) (hv : v.isRef = true) : (Cond.isRef (.static C n d)).before args s = true := by
  obtain ⟨cf, kf, fi, f, a, cell, h1, h2, h3, h4, h5, h6, h7, -⟩ := h
  have he : (Term.static C n d).eval args s none [] s = some v := by
    simp [Term.eval, State.fieldNamed?, h1, h2, h4, h5, h6, h7]
  simp only [Cond.before, Cond.holds, Cond.value, he]
  cases v <;> simp_all [Value.isRef]
theorem vx_isRefq {C n d : String} {A : Nat → Prop} {s : State} {args : Array Value} (h : va_Zq C n d A s s.heap) : (Cond.isRef (.static C n d)).before args s = true := by
  rcases h with h | ⟨t, h⟩
  · exact vx_isRef h rfl
  · exact vx_isRef h rfl
/-- the same frame, seen from here: as if the method were called anew in this heap -/
theorem vx_rebase {T : State} (X : Stand p l e R s m args below meth c T locs cells slots) {R' : Room} (hf : R'.frames ≤ R.frames) (hl : R'.locals ≤ R.locals) (hc : cells + R'.cells ≤ R.cells) (hs : slots + R'.slots ≤ R.slots) :
    Stand p l e R' ((T.setVm s.vm).setFrames (.invoking m args :: below)) m args below meth c T [] 0 0 := by
  have htop : (T.setVm s.vm).topJava?.isSome := X.here.top
  have hF : ((T.setVm s.vm).setFrames (.invoking m args :: below)).frames = .invoking m args :: below := State.frames_setFrames _ (State.cur_lt_of_top htop)
  obtain ⟨g₀, hg0⟩ := Option.isSome_iff_exists.mp htop
  obtain ⟨r, hr⟩ := State.topJava?_eq_some.mp hg0
  have hl9 : e.platform.stackLimits (T.setVm s.vm).me = e.platform.stackLimits s.me := X.limits
  have hb9 : (T.setVm s.vm).me.stackBytes = s.me.stackBytes := X.bytes
  refine ⟨X.admits, X.cas, X.clock, hF, ?_, X.hears, X.method, X.code, X.here, X.tail, X.warmed, ?_, ?_, ?_⟩
  · have h := X.room
    have hU : ((T.setVm s.vm).setFrames (.invoking m args :: below)).localsInUse = s.localsInUse := by
      rw [State.localsInUse_invoking hF (meth := meth) (c := c) X.method X.code, State.localsInUse_invoking X.frames X.method X.code]
    simp only [State.hasRoom, Bool.and_eq_true, decide_eq_true_eq] at h ⊢
    obtain ⟨⟨⟨⟨h1, h2, h3, h4, h5, h6⟩, h7⟩, h8⟩, h9⟩ := h
    rw [X.frames, List.length_cons] at h2 h3
    have q1 := X.heapSize
    have q2 := X.used
    simp only [hF, hU, List.length_cons, State.stackLimits_setFrames, State.stackBytes_setFrames, hl9, hb9]
    refine ⟨⟨⟨⟨by omega, by omega, by omega, by omega, by omega, h6⟩, ?_⟩, ?_⟩, X.book⟩
    · show T.heap.size + R'.cells ≤ e.platform.maxCells
      omega
    · show T.slotsUsed + R'.slots ≤ e.platform.maxSlots
      omega
  · rw [State.stackLimits_setFrames]; rfl
  · rw [State.stackBytes_setFrames]; rfl
  · refine ⟨?_, Nat.le_refl _, Nat.le_refl _, ?_, ?_, fun a c9 h9 => ⟨c9, h9, rfl, rfl, fun _ _ => rfl⟩⟩
    · obtain ⟨t, ht, -⟩ := State.frames_cons hr
      show T.setVm s.vm = { ((T.setVm s.vm).setFrames (.invoking m args :: below)).setFrames (T.setVm s.vm).frames with heap := T.heap, slotsUsed := T.slotsUsed }
      rw [State.setFrames_setFrames, State.setFrames_self ht]
      rfl
    · show T.slotsUsed = T.slotsUsed + ((T.heap.toList.drop T.heap.size).map (·.slots.size)).sum
      rw [List.drop_eq_nil_of_le (Nat.le_of_eq Array.length_toList)]
      rfl
    · show ((T.heap.toList.drop T.heap.size).map (·.slots.size)).sum ≤ 0
      rw [List.drop_eq_nil_of_le (Nat.le_of_eq Array.length_toList)]
      exact Nat.le_refl _
/-- 'throw new E()': new; dup; invokespecial; athrow -/
theorem vx_throw0 {cc : ByteArray} {pc : Nat} (hexec : p.tables.exec = Jvm.exec) (hb : c.code = cc) (hl : l.stackTraces = false) {own cls : String} {names : List String} {ik ic mc ms : Nat} {A : Nat → Prop}
    (hown : s.vm.findClass own = some m.cls) (hcls : Bundle.fit cls = true) (hnames : ∀ n ∈ names, Bundle.fit n = true)
    (hk : (Cond.classLink own ik cls).before args s = true) (hini : (Cond.initialized cls).before args s = true) (hat : ∀ w ∈ vx_at0 own ic cls names, w.before args s = true)
    (hgood : ∀ w ∈ Cond.classLink own ik cls :: Cond.initialized cls :: vx_at0 own ic cls names, vx_ot w = true)
    (hU : vx_Zq Bundle.tN "UNASSIGNED_STACK" Bundle.steD A s s.heap) (hN : vx_Zq Bundle.tN "SUPPRESSED_SENTINEL" Bundle.listD A s s.heap) (hS : va_S A s.heap H locs) (hsize : ls.size = c.maxLocals)
    (d0 : decode cc pc = .ok (.new ik, 3)) (d3 : decode cc (pc + 3) = .ok (.dup, 1)) (d4 : decode cc (pc + 4) = .ok (.invokespecial ic, 3)) (d7 : decode cc (pc + 7) = .ok (.athrow, 1))
    (hout : ∀ x ∈ c.exceptionTable.toList, covers x (pc + 7) = false)
    (hRframes : names.length + 3 < R.frames) (hRlocals : (rest.map fun v => v.category).sum + (13 * (names.length + 1) + 42) ≤ R.locals) (hRcells : cells + 1 ≤ R.cells) (hRslots : slots + 6 ≤ R.slots) (hlocks : meth.locks = false)
    (hx : ∀ t : State, s.vm.Alike t.vm → H.size ≤ t.heap.size → (∀ q : Nat, q < H.size → t.heap[q]? = H[q]?) → XC cls s t)
    (hf : ∀ z ∈ locs, free z.base) (hc : cells + 1 ≤ mc) (hs : slots + 6 ≤ ms) :
    W p l e R s m args below meth c H locs cells slots (vx_MQ below Qc XC args s mc ms free) (F0 m pc ls rest) := by
  intro T hT X
  have htr : e.platform.stackTraces = false := (show e.platform.stackTraces = l.stackTraces by rw [X.admits.platform]).trans hl
  have Y := vx_rebase X (R' := { frames := R.frames, locals := R.locals, cells := 1, slots := 6 }) (Nat.le_refl _) (Nat.le_refl _) hRcells hRslots
  obtain ⟨s', hA⟩ : ∃ z, z = (T.setVm s.vm).setFrames (.invoking m args :: below) := ⟨_, rfl⟩
  rw [← hA] at Y
  have hvm : s'.vm = s.vm := by rw [hA]; rfl
  have hhp : s'.heap = H := by rw [hA]; exact hT
  have hW0 : s.WarmedH s'.vm := by rw [hvm]; exact State.WarmedH.refl s
  have hat' : ∀ w ∈ vx_at0 own ic cls names, w.before args s' = true := fun w hw => vx_ot_at hW0 hvm.symm (hgood w (List.mem_cons_of_mem _ (List.mem_cons_of_mem _ hw))) (hat w hw)
  have hk' : (Cond.classLink own ik cls).before args s' = true := vx_ot_at hW0 hvm.symm (hgood _ List.mem_cons_self) hk
  have hini' : (Cond.initialized cls).before args s' = true := vx_ot_at hW0 hvm.symm (hgood _ (List.mem_cons_of_mem _ List.mem_cons_self)) hini
  have hU' : vx_Zq Bundle.tN "UNASSIGNED_STACK" Bundle.steD A s' s'.heap := by rw [hhp]; exact vx_Zq.moved hW0.alike (hU.kept hS.2.1)
  have hN' : vx_Zq Bundle.tN "SUPPRESSED_SENTINEL" Bundle.listD A s' s'.heap := by rw [hhp]; exact vx_Zq.moved hW0.alike (hN.kept hS.2.1)
  have h : ∀ w ∈ Bundle.ownAtoms0 own ic cls names, w.before args s' = true := vx_own hat' (vx_isRefq hU'.1) (vx_isRefq hN'.1) hU'.2.word hN'.2.word
  have hown' : s'.vm.findClass own = some m.cls := by rw [hvm]; exact hown
  have hins : (Cond.instantiable cls 6).before args s' = true := h _ (by simp [Bundle.ownAtoms0])
  obtain ⟨vm₁, cX, kX, hfX, hkX, -, -, X₁, st1⟩ := Y.newCold hexec (own := own) (C := cls) (index := ik) (n := 6) hown' hk' hins hini'
    (g := F0 m pc ls rest) rfl (by rw [hb]; exact d0) (Nat.le_refl _) (Nat.le_refl _)
  generalize hT1 : (T.setVm vm₁).pushCell { cls := cX, slots := kX.instanceTypes.map defaultValue, vm := .none } = T1 at X₁ st1
  have hcat : (Value.ref T.heap.size).category = 1 := rfl
  have hcellA : T1.heap[T.heap.size]? = some (freshCell cX kX) := by rw [← hT1]; exact State.heap_pushCell_size _ _
  have d3' : decode c.code (pc + 3) = .ok (.dup, 1) := by rw [hb]; exact d3
  obtain ⟨U, hsteps, hrun, hend, hW, hsame, ce, hce, hO⟩ := X₁.ctorThrow0 hexec htr (own := own) (cls := cls) (names := names) (ic := ic) hown' hcls hnames h (fun x hx => nomatch hx) hfX hkX hcellA (by rw [hhp, hT]; exact Nat.le_refl _)
    (g := { method := m, pc := pc + 4, locals := ls, stack := .ref T.heap.size :: .ref T.heap.size :: rest, locked := none }) rfl hsize rfl rfl (rest := rest) rfl
    (by rw [hb]; exact d4) (by rw [hb]; exact d7) hout hRframes (by simp only [List.map_cons, List.sum_cons, hcat]; omega) hlocks
  obtain ⟨f1, f2⟩ := vx_frame hsame
  rw [hhp] at f1 f2
  have hWs : s.WarmedH U.vm := State.WarmedH.trans hW0 hW
  have hcl : s.vm.findClass cls = some ce.cls := by
    have h9 := hO.cls
    rw [hvm] at h9
    exact h9
  have hall : s.sameButNew ({ U with vm := s.vm } : State) locs mc ms := by
    subst hA
    obtain ⟨e1, e2⟩ := hsame
    rw [State.setFrames_setFrames] at e1
    have h2 : (T.setVm s.vm).sameButNew ({ U with vm := s.vm } : State) [] (0 + 1) (0 + 6) := ⟨e1, e2⟩
    have h3 := X.same.trans h2
    rw [List.append_nil] at h3
    exact h3.mono hc hs
  refine ⟨U, ?_, .threw T.heap.size, hrun, hend, Or.inr ⟨T.heap.size, rfl, cls, ce, locs, hx U hWs.alike f1 (fun q hq => f2 q hq (fun z hz => nomatch hz)), hce, hO.vm, hcl, hWs, hall, hf⟩⟩
  refine st1 _ ?_
  show Steps p.tables e below (T1.setTop { method := m, pc := pc + 3, locals := ls, stack := .ref T.heap.size :: rest, locked := none }) _
  jvm_step X₁.here [X₁.here.top, hexec, d3', Value.category]
  exact hsteps
/-- 'throw new E("text")': new; dup; ldc; invokespecial; athrow -/
theorem vx_throwS {cc : ByteArray} {pc : Nat} (hexec : p.tables.exec = Jvm.exec) (hb : c.code = cc) (hl : l.stackTraces = false) {own cls text : String} {names : List String} {ik is ic mc ms sa : Nat} {A : Nat → Prop}
    (hown : s.vm.findClass own = some m.cls) (hcls : Bundle.fit cls = true) (hnames : ∀ n ∈ names, Bundle.fit n = true)
    (hk : (Cond.classLink own ik cls).before args s = true) (hini : (Cond.initialized cls).before args s = true) (hstr : vk_R own is text sa s) (hat : ∀ w ∈ vx_atS own ic cls names, w.before args s = true)
    (hgood : ∀ w ∈ Cond.classLink own ik cls :: Cond.initialized cls :: vx_atS own ic cls names, vx_ot w = true)
    (hU : vx_Zq Bundle.tN "UNASSIGNED_STACK" Bundle.steD A s s.heap) (hN : vx_Zq Bundle.tN "SUPPRESSED_SENTINEL" Bundle.listD A s s.heap) (hS : va_S A s.heap H locs) (hsize : ls.size = c.maxLocals)
    (d0 : decode cc pc = .ok (.new ik, 3)) (d3 : decode cc (pc + 3) = .ok (.dup, 1)) (d4 : decode cc (pc + 4) = .ok (.ldc is, 2)) (d6 : decode cc (pc + 6) = .ok (.invokespecial ic, 3)) (d9 : decode cc (pc + 9) = .ok (.athrow, 1))
    (hout : ∀ x ∈ c.exceptionTable.toList, covers x (pc + 9) = false)
    (hRframes : names.length + 3 < R.frames) (hRlocals : (rest.map fun v => v.category).sum + (13 * (names.length + 1) + 43) ≤ R.locals) (hRcells : cells + 1 ≤ R.cells) (hRslots : slots + 6 ≤ R.slots) (hlocks : meth.locks = false)
    (hx : ∀ t : State, s.vm.Alike t.vm → H.size ≤ t.heap.size → (∀ q : Nat, q < H.size → t.heap[q]? = H[q]?) → XC cls s t)
    (hf : ∀ z ∈ locs, free z.base) (hc : cells + 1 ≤ mc) (hs : slots + 6 ≤ ms) :
    W p l e R s m args below meth c H locs cells slots (vx_MQ below Qc XC args s mc ms free) (F0 m pc ls rest) := by
  intro T hT X
  have htr : e.platform.stackTraces = false := (show e.platform.stackTraces = l.stackTraces by rw [X.admits.platform]).trans hl
  have Y := vx_rebase X (R' := { frames := R.frames, locals := R.locals, cells := 1, slots := 6 }) (Nat.le_refl _) (Nat.le_refl _) hRcells hRslots
  obtain ⟨s', hA⟩ : ∃ z, z = (T.setVm s.vm).setFrames (.invoking m args :: below) := ⟨_, rfl⟩
  rw [← hA] at Y
  have hvm : s'.vm = s.vm := by rw [hA]; rfl
  have hhp : s'.heap = H := by rw [hA]; exact hT
  have hW0 : s.WarmedH s'.vm := by rw [hvm]; exact State.WarmedH.refl s
  have hat' : ∀ w ∈ vx_atS own ic cls names, w.before args s' = true := fun w hw => vx_ot_at hW0 hvm.symm (hgood w (List.mem_cons_of_mem _ (List.mem_cons_of_mem _ hw))) (hat w hw)
  have hk' : (Cond.classLink own ik cls).before args s' = true := vx_ot_at hW0 hvm.symm (hgood _ List.mem_cons_self) hk
  have hini' : (Cond.initialized cls).before args s' = true := vx_ot_at hW0 hvm.symm (hgood _ (List.mem_cons_of_mem _ List.mem_cons_self)) hini
  have hU' : vx_Zq Bundle.tN "UNASSIGNED_STACK" Bundle.steD A s' s'.heap := by rw [hhp]; exact vx_Zq.moved hW0.alike (hU.kept hS.2.1)
  have hN' : vx_Zq Bundle.tN "SUPPRESSED_SENTINEL" Bundle.listD A s' s'.heap := by rw [hhp]; exact vx_Zq.moved hW0.alike (hN.kept hS.2.1)
  have h : ∀ w ∈ Bundle.ownAtoms own ic cls names, w.before args s' = true := vx_own hat' (vx_isRefq hU'.1) (vx_isRefq hN'.1) hU'.2.word hN'.2.word
  have hown' : s'.vm.findClass own = some m.cls := by rw [hvm]; exact hown
  have hins : (Cond.instantiable cls 6).before args s' = true := h _ (by simp [Bundle.ownAtoms])
  obtain ⟨vm₁, cX, kX, hfX, hkX, -, -, X₁, st1⟩ := Y.newCold hexec (own := own) (C := cls) (index := ik) (n := 6) hown' hk' hins hini'
    (g := F0 m pc ls rest) rfl (by rw [hb]; exact d0) (Nat.le_refl _) (Nat.le_refl _)
  generalize hT1 : (T.setVm vm₁).pushCell { cls := cX, slots := kX.instanceTypes.map defaultValue, vm := .none } = T1 at X₁ st1
  have hcat : (Value.ref T.heap.size).category = 1 := rfl
  have hcellA : T1.heap[T.heap.size]? = some (freshCell cX kX) := by rw [← hT1]; exact State.heap_pushCell_size _ _
  have d3' : decode c.code (pc + 3) = .ok (.dup, 1) := by rw [hb]; exact d3
  have d4' : decode c.code (pc + 4) = .ok (.ldc is, 2) := by rw [hb]; exact d4
  have hstr' : vk_R own is text sa s' := vk_R.warm hW0 hstr
  obtain ⟨U, hsteps, hrun, hend, hW, hsame, ce, hce, hO⟩ := X₁.ctorThrowS hexec htr (own := own) (cls := cls) (names := names) (ic := ic) hown' hcls hnames h (fun x hx => nomatch hx) hfX hkX hcellA (by rw [hhp, hT]; exact Nat.le_refl _) (msg := .ref sa) rfl
    (g := { method := m, pc := pc + 6, locals := ls, stack := .ref sa :: .ref T.heap.size :: .ref T.heap.size :: rest, locked := none }) rfl hsize rfl rfl (rest := rest) rfl
    (by rw [hb]; exact d6) (by rw [hb]; exact d9) hout hRframes (by simp only [List.map_cons, List.sum_cons, hcat]; omega) hlocks
  obtain ⟨f1, f2⟩ := vx_frame hsame
  rw [hhp] at f1 f2
  have hWs : s.WarmedH U.vm := State.WarmedH.trans hW0 hW
  have hcl : s.vm.findClass cls = some ce.cls := by
    have h9 := hO.cls
    rw [hvm] at h9
    exact h9
  have hall : s.sameButNew ({ U with vm := s.vm } : State) locs mc ms := by
    subst hA
    obtain ⟨e1, e2⟩ := hsame
    rw [State.setFrames_setFrames] at e1
    have h2 : (T.setVm s.vm).sameButNew ({ U with vm := s.vm } : State) [] (0 + 1) (0 + 6) := ⟨e1, e2⟩
    have h3 := X.same.trans h2
    rw [List.append_nil] at h3
    exact h3.mono hc hs
  refine ⟨U, ?_, .threw T.heap.size, hrun, hend, Or.inr ⟨T.heap.size, rfl, cls, ce, locs, hx U hWs.alike f1 (fun q hq => f2 q hq (fun z hz => nomatch hz)), hce, hO.vm, hcl, hWs, hall, hf⟩⟩
  refine st1 _ ?_
  show Steps p.tables e below (T1.setTop { method := m, pc := pc + 3, locals := ls, stack := .ref T.heap.size :: rest, locked := none }) _
  jvm_step X₁.here [X₁.here.top, hexec, d3', Value.category]
  exact X₁.ldcString hexec (own := own) (text := text) (index := is) (a := sa) hown' hstr'.1 hstr'.2
    (g := { method := m, pc := pc + 4, locals := ls, stack := .ref T.heap.size :: .ref T.heap.size :: rest, locked := none }) rfl d4' _ hsteps
/-- 'throw new E("text")', the text by a wide index -/
theorem vx_throwSW {cc : ByteArray} {pc : Nat} (hexec : p.tables.exec = Jvm.exec) (hb : c.code = cc) (hl : l.stackTraces = false) {own cls text : String} {names : List String} {ik is ic mc ms sa : Nat} {A : Nat → Prop}
    (hown : s.vm.findClass own = some m.cls) (hcls : Bundle.fit cls = true) (hnames : ∀ n ∈ names, Bundle.fit n = true)
    (hk : (Cond.classLink own ik cls).before args s = true) (hini : (Cond.initialized cls).before args s = true) (hstr : vk_R own is text sa s) (hat : ∀ w ∈ vx_atS own ic cls names, w.before args s = true)
    (hgood : ∀ w ∈ Cond.classLink own ik cls :: Cond.initialized cls :: vx_atS own ic cls names, vx_ot w = true)
    (hU : vx_Zq Bundle.tN "UNASSIGNED_STACK" Bundle.steD A s s.heap) (hN : vx_Zq Bundle.tN "SUPPRESSED_SENTINEL" Bundle.listD A s s.heap) (hS : va_S A s.heap H locs) (hsize : ls.size = c.maxLocals)
    (d0 : decode cc pc = .ok (.new ik, 3)) (d3 : decode cc (pc + 3) = .ok (.dup, 1)) (d4 : decode cc (pc + 4) = .ok (.ldc_w is, 3)) (d7 : decode cc (pc + 7) = .ok (.invokespecial ic, 3)) (d10 : decode cc (pc + 10) = .ok (.athrow, 1))
    (hout : ∀ x ∈ c.exceptionTable.toList, covers x (pc + 10) = false)
    (hRframes : names.length + 3 < R.frames) (hRlocals : (rest.map fun v => v.category).sum + (13 * (names.length + 1) + 43) ≤ R.locals) (hRcells : cells + 1 ≤ R.cells) (hRslots : slots + 6 ≤ R.slots) (hlocks : meth.locks = false)
    (hx : ∀ t : State, s.vm.Alike t.vm → H.size ≤ t.heap.size → (∀ q : Nat, q < H.size → t.heap[q]? = H[q]?) → XC cls s t)
    (hf : ∀ z ∈ locs, free z.base) (hc : cells + 1 ≤ mc) (hs : slots + 6 ≤ ms) :
    W p l e R s m args below meth c H locs cells slots (vx_MQ below Qc XC args s mc ms free) (F0 m pc ls rest) := by
  intro T hT X
  have htr : e.platform.stackTraces = false := (show e.platform.stackTraces = l.stackTraces by rw [X.admits.platform]).trans hl
  have Y := vx_rebase X (R' := { frames := R.frames, locals := R.locals, cells := 1, slots := 6 }) (Nat.le_refl _) (Nat.le_refl _) hRcells hRslots
  obtain ⟨s', hA⟩ : ∃ z, z = (T.setVm s.vm).setFrames (.invoking m args :: below) := ⟨_, rfl⟩
  rw [← hA] at Y
  have hvm : s'.vm = s.vm := by rw [hA]; rfl
  have hhp : s'.heap = H := by rw [hA]; exact hT
  have hW0 : s.WarmedH s'.vm := by rw [hvm]; exact State.WarmedH.refl s
  have hat' : ∀ w ∈ vx_atS own ic cls names, w.before args s' = true := fun w hw => vx_ot_at hW0 hvm.symm (hgood w (List.mem_cons_of_mem _ (List.mem_cons_of_mem _ hw))) (hat w hw)
  have hk' : (Cond.classLink own ik cls).before args s' = true := vx_ot_at hW0 hvm.symm (hgood _ List.mem_cons_self) hk
  have hini' : (Cond.initialized cls).before args s' = true := vx_ot_at hW0 hvm.symm (hgood _ (List.mem_cons_of_mem _ List.mem_cons_self)) hini
  have hU' : vx_Zq Bundle.tN "UNASSIGNED_STACK" Bundle.steD A s' s'.heap := by rw [hhp]; exact vx_Zq.moved hW0.alike (hU.kept hS.2.1)
  have hN' : vx_Zq Bundle.tN "SUPPRESSED_SENTINEL" Bundle.listD A s' s'.heap := by rw [hhp]; exact vx_Zq.moved hW0.alike (hN.kept hS.2.1)
  have h : ∀ w ∈ Bundle.ownAtoms own ic cls names, w.before args s' = true := vx_own hat' (vx_isRefq hU'.1) (vx_isRefq hN'.1) hU'.2.word hN'.2.word
  have hown' : s'.vm.findClass own = some m.cls := by rw [hvm]; exact hown
  have hins : (Cond.instantiable cls 6).before args s' = true := h _ (by simp [Bundle.ownAtoms])
  obtain ⟨vm₁, cX, kX, hfX, hkX, -, -, X₁, st1⟩ := Y.newCold hexec (own := own) (C := cls) (index := ik) (n := 6) hown' hk' hins hini'
    (g := F0 m pc ls rest) rfl (by rw [hb]; exact d0) (Nat.le_refl _) (Nat.le_refl _)
  generalize hT1 : (T.setVm vm₁).pushCell { cls := cX, slots := kX.instanceTypes.map defaultValue, vm := .none } = T1 at X₁ st1
  have hcat : (Value.ref T.heap.size).category = 1 := rfl
  have hcellA : T1.heap[T.heap.size]? = some (freshCell cX kX) := by rw [← hT1]; exact State.heap_pushCell_size _ _
  have d3' : decode c.code (pc + 3) = .ok (.dup, 1) := by rw [hb]; exact d3
  have d4' : decode c.code (pc + 4) = .ok (.ldc_w is, 3) := by rw [hb]; exact d4
  have hstr' : vk_R own is text sa s' := vk_R.warm hW0 hstr
  obtain ⟨U, hsteps, hrun, hend, hW, hsame, ce, hce, hO⟩ := X₁.ctorThrowS hexec htr (own := own) (cls := cls) (names := names) (ic := ic) hown' hcls hnames h (fun x hx => nomatch hx) hfX hkX hcellA (by rw [hhp, hT]; exact Nat.le_refl _) (msg := .ref sa) rfl
    (g := { method := m, pc := pc + 7, locals := ls, stack := .ref sa :: .ref T.heap.size :: .ref T.heap.size :: rest, locked := none }) rfl hsize rfl rfl (rest := rest) rfl
    (by rw [hb]; exact d7) (by rw [hb]; exact d10) hout hRframes (by simp only [List.map_cons, List.sum_cons, hcat]; omega) hlocks
  obtain ⟨f1, f2⟩ := vx_frame hsame
  rw [hhp] at f1 f2
  have hWs : s.WarmedH U.vm := State.WarmedH.trans hW0 hW
  have hcl : s.vm.findClass cls = some ce.cls := by
    have h9 := hO.cls
    rw [hvm] at h9
    exact h9
  have hall : s.sameButNew ({ U with vm := s.vm } : State) locs mc ms := by
    subst hA
    obtain ⟨e1, e2⟩ := hsame
    rw [State.setFrames_setFrames] at e1
    have h2 : (T.setVm s.vm).sameButNew ({ U with vm := s.vm } : State) [] (0 + 1) (0 + 6) := ⟨e1, e2⟩
    have h3 := X.same.trans h2
    rw [List.append_nil] at h3
    exact h3.mono hc hs
  refine ⟨U, ?_, .threw T.heap.size, hrun, hend, Or.inr ⟨T.heap.size, rfl, cls, ce, locs, hx U hWs.alike f1 (fun q hq => f2 q hq (fun z hz => nomatch hz)), hce, hO.vm, hcl, hWs, hall, hf⟩⟩
  refine st1 _ ?_
  show Steps p.tables e below (T1.setTop { method := m, pc := pc + 3, locals := ls, stack := .ref T.heap.size :: rest, locked := none }) _
  jvm_step X₁.here [X₁.here.top, hexec, d3', Value.category]
  exact X₁.ldcStringW hexec (own := own) (text := text) (index := is) (a := sa) hown' hstr'.1 hstr'.2
    (g := { method := m, pc := pc + 4, locals := ls, stack := .ref T.heap.size :: .ref T.heap.size :: rest, locked := none }) rfl d4' _ hsteps
end Ends
section Bodies
variable {l : Launch}
theorem vx_ofW {y : MethodName} {ws ws' : List Cond} {rm : Room} {Pc : Array Value → State → Prop} {Qc : Array Value → State → Outcome → State → Prop} {XC : String → State → State → Prop} {mc ms : Nat} {free : Addr → Prop} {cc : ByteArray} {maxL : Nat} {ret : Option FieldType}
    (hy : plainName y.cls = true) (hw : ws = Cond.code y cc maxL ret :: ws')
    (body : ∀ p e s m args below meth c s₁, BodyLoose p l y (headSpec ws rm) cc maxL ret e s m args below meth c s₁ → c.maxLocals = maxL → (∀ x ∈ c.exceptionTable.toList, False) → Pc args s →
      W p l e (headSpec ws rm).room s m args below meth c s.heap [] 0 0 (vx_MQ below Qc XC args s mc ms free) (entryFrame m args maxL)) : vx_Met l y ws rm Pc Qc XC mc ms free := by
  refine MetFree.of_bodyS (code := cc) (maxLocals := maxL) (ret := ret) hy ?_ ?_
  · intro args s m h hn
    obtain ⟨meth, c, h1, h2, h3, h4, h5, h6, -, -⟩ := Cond.code_spec hn (atoms_spec (ws := ws) h _ (by rw [hw]; exact List.mem_cons_self))
    exact ⟨meth, c, h1, h2, h3, h4, h5, h6⟩
  · intro p e s m args below meth c s₁ B hml hP _
    have hh0 : s₁.heap = s.heap := by rw [B.state]; rfl
    have ht : ∀ x ∈ c.exceptionTable.toList, False := by
      obtain ⟨meth9, c9, h1, h2, -, -, -, -, h7, -⟩ := Cond.code_spec B.named (atoms_spec (ws := ws) B.pre _ (by rw [hw]; exact List.mem_cons_self))
      cases Option.some.inj (h1.symm.trans B.method)
      cases Option.some.inj (h2.symm.trans (Stand.of_body B).code)
      intro x hx
      rw [Array.isEmpty_iff.mp h7] at hx
      cases hx
    obtain ⟨t, a1, o, b1, b2, b3⟩ := body p e s m args below meth c s₁ B hml ht hP s₁ hh0 (Stand.of_body B)
    exact ⟨t, o, a1, b1, b2, b3⟩
/-- the table of a body with handlers -/
theorem vx_table {p : Program} {x y : MethodName} {S : Spec} {cc bytes : ByteArray} {maxL maxL' : Nat} {ret ret' : Option FieldType} {e : Env} {s s₁ : State} {m : MethodId} {args : Array Value} {below : List Frame} {meth : Method} {c : Code} {hh : List (Nat × Nat × Nat × Nat)}
    (B : BodyLoose p l y S cc maxL ret e s m args below meth c s₁) (h : (Cond.codeWith y bytes maxL' ret' hh).before args s = true) : c.exceptionTable.toList = tableOf hh := by
  obtain ⟨m9, meth9, c9, hn9, h1, h2, -, -, h6, -⟩ := Cond.codeWith_spec h
  cases Option.some.inj (hn9.symm.trans B.named)
  cases Option.some.inj (h1.symm.trans B.method)
  cases Option.some.inj (h2.symm.trans (Stand.of_body B).code)
  rw [← h6, table_eq]
end Bodies
end VXA
/-! ===== END ===== -/
/-! ===== BEGIN a static call of a method with an exception table ===== -/
section VXS
variable {p : Program} {l : Launch} {e : Env} {R : Room} {s : State} {m : MethodId} {args : Array Value} {below : List Frame} {meth : Method} {c : Code} {T : State} {H : Heap} {locs : List Loc} {cells slots : Nat}
abbrev vx_CSW (R : Room) (s : State) (args : Array Value) (own : String) (index : Nat) (y : MethodName) (bytes : ByteArray) (maxL : Nat) (ret : Option FieldType) (hh : List (Nat × Nat × Nat × Nat)) (ws : List Cond) (rm : Room) (mc ms n : Nat) : Prop :=
  (rm.cells = mc ∧ rm.slots = ms ∧ rm.frames + 1 ≤ R.frames ∧ 8 + (maxL + 11) + rm.locals ≤ R.locals ∧ (∀ w ∈ ws, ∀ (a' : Array Value) (U : State), s.WarmedH U.vm → w.before a' U = true) ∧ Cond.codeWith y bytes maxL ret hh ∈ ws) ∧
  (Cond.codeWith y bytes maxL ret hh).before args s = true ∧ (Cond.initialized y.cls).before args s = true ∧ (y.cls ≠ "java/lang/invoke/MethodHandle" ∧ y.cls ≠ "java/lang/invoke/VarHandle") ∧
  (∀ sig, parseMethodDescriptor y.desc = some sig → n = sig.parameters.length) ∧ (Cond.methodLink own index y).before args s = true ∧ (Cond.static y).before args s = true
theorem vx_cwSW {own : String} {index maxL mc ms : Nat} {y : MethodName} {bytes : ByteArray} {ret : Option FieldType} {hh : List (Nat × Nat × Nat × Nat)} {Ts ws ws' : List Cond} {rm : Room} (n : Nat) (ht : ∀ w ∈ Ts, w.before args s = true) (hT : GoodIn Ts (va_wsS own index y ws)) (hw : ws = Cond.codeWith y bytes maxL ret hh :: ws') (hrc : rm.cells = mc) (hrs : rm.slots = ms)
    (hd : y.cls ≠ "java/lang/invoke/MethodHandle" ∧ y.cls ≠ "java/lang/invoke/VarHandle" ∧ (parseMethodDescriptor y.desc).map (fun d => d.parameters.length) = some n) (hR : rm.frames + 1 ≤ R.frames ∧ 8 + (maxL + 11) + rm.locals ≤ R.locals) :
    vx_CSW R s args own index y bytes maxL ret hh ws rm mc ms n := by
  have ok : ∀ w ∈ va_wsS own index y ws, w.before args s = true := fun w h => ht w (hT w h).1
  have hG : GoodIn Ts ws := fun w h => hT w (by unfold va_wsS; exact List.mem_append_right _ h)
  have hc : Cond.codeWith y bytes maxL ret hh ∈ ws := by rw [hw]; exact List.mem_cons_self
  refine ⟨⟨hrc, hrs, hR.1, hR.2, pay_in ht hG, hc⟩, ht _ (hG _ hc).1, ok _ (by simp [va_wsS]), ⟨hd.1, hd.2.1⟩, fun sig h => ?_, ok _ (by simp [va_wsS]), ok _ (by simp [va_wsS])⟩
  have h2 := hd.2.2
  rw [h] at h2
  exact (Option.some.inj h2).symm
theorem vx_callSW (X : Stand p l e R s m args below meth c T locs cells slots) (hexec : p.tables.exec = Jvm.exec) {own : String} {index : Nat} {y : MethodName} {bytes : ByteArray} {maxL : Nat} {ret : Option FieldType} {hh : List (Nat × Nat × Nat × Nat)}
    (hown : s.vm.findClass own = some m.cls) (hlink : (Cond.methodLink own index y).before args s = true) (hstat : (Cond.static y).before args s = true) (hinit : (Cond.initialized y.cls).before args s = true)
    (hcode : (Cond.codeWith y bytes maxL ret hh).before args s = true) (hy : y.cls ≠ "java/lang/invoke/MethodHandle" ∧ y.cls ≠ "java/lang/invoke/VarHandle")
    {W9 : Nat} {Pre : Pt → Array Value → Prop} {Post : Pt → Array Value → Option Value → Pt → Prop} (hK : Back l R p e below s args y 3 W9 Pre Post)
    {g : JFrame} (hg : g.method = m) (hsize : g.locals.size = c.maxLocals) {argsL rest : List Value} (hlen : ∀ sig, parseMethodDescriptor y.desc = some sig → argsL.length = sig.parameters.length)
    (hstack : g.stack = argsL.reverse ++ rest) (hW : 2 * g.monitorRoom + (rest.map fun v => v.category).sum ≤ W9) (hdg : decode c.code g.pc = .ok (.invokestatic index, 3))
    (hpre : ∀ vm₁, s.WarmedH vm₁ → Pre ⟨T.setVm vm₁, locs, cells, slots⟩ argsL.toArray) :
    ∃ (v : Option Value) (vm₁ : Vm) (B : Pt), s.WarmedH vm₁ ∧ Stand p l e R s m args below meth c B.U B.locs B.cells B.slots ∧ Post ⟨T.setVm vm₁, locs, cells, slots⟩ argsL.toArray v B ∧
      ∀ target, Steps p.tables e below (B.U.setTop { g with pc := g.pc + 3, stack := v.toList ++ rest }) target → Steps p.tables e below (T.setTop g) target := by
  obtain ⟨mk, methM, cM, hnamed, hmethM, -, -, -, -, -, -, hsigM⟩ := Cond.codeWith_spec hcode
  have hstatic : methM.isStatic = true := Cond.static_spec hnamed hmethM hstat
  obtain ⟨kP, hkP, -⟩ := className_of_methodNamed hnamed
  have hinitP : kP.init = .initialized := Cond.initialized_spec (findClass_of_methodNamed hnamed) hkP hinit
  obtain ⟨vm₁, X₁, hstep₁⟩ := X.invokestatic hexec hown hlink hnamed hmethM hstatic hkP hinitP hy (g := g) hg (argsL := argsL) (rest := rest) (hlen _ hsigM) hstack hdg
  obtain ⟨v, B, X', hpost, hsteps⟩ := hK m meth c ⟨T.setVm vm₁, locs, cells, slots⟩ { g with stack := rest } (.invokestatic index) mk argsL.toArray X₁ hg hsize hdg hW (X₁.named hnamed) (hpre vm₁ X₁.warmed)
  exact ⟨v, vm₁, B, X₁.warmed, X', hpost, fun target h => hstep₁ _ fun acts => by rw [doInvoke_state]; exact hsteps.trans h⟩
theorem vx_runSW {y : MethodName} {bytes cc : ByteArray} {maxL nL mc ms n index : Nat} {ret : Option FieldType} {hh : List (Nat × Nat × Nat × Nat)} {ws : List Cond} {rm : Room} {Pc : Array Value → State → Prop} {Qc : Array Value → State → Outcome → State → Prop} {free : Addr → Prop} {Ts : List Cond} {own : String} {As rest : List Value} {g : JFrame}
    (S : CallFix p m c cc nL s args Ts own) (hM : Met l y ws rm Pc Qc mc ms free) (cw : vx_CSW R s args own index y bytes maxL ret hh ws rm mc ms n) (hp : PreS s H Pc As)
    (hg : g.method = m) (hn : As.length = n) (hsize : g.locals.size = nL) (hstack : g.stack = As.reverse ++ rest) (hW : 2 * g.monitorRoom + (rest.map fun v => v.category).sum ≤ 8) (hdg : decode cc g.pc = .ok (.invokestatic index, 3)) (hf : cells + mc ≤ R.cells ∧ slots + ms ≤ R.slots) :
    va_Run p l e R s m args below meth c H locs cells slots mc ms g rest (Qc As.toArray) (free) := by
  obtain ⟨⟨hrc, hrs, hfr, hlo, hws, hcw⟩, hcode, hini, hy, hlen, hl, hstt⟩ := cw
  have hK : Back l R p e below s args y 3 8 (PreOf R mc ms Pc) (PostOf Qc mc ms free) := va_backW (hh := hh) (bytes := bytes) (maxL := maxL) (ret := ret) hM hp.1 hrc hrs hfr hlo hws hcw (fun a' U hW => word_at hW (Or.inl (by first | rfl | simp [Cond.onTables, Cond.keeps, Cond.steady])) hini)
  obtain ⟨hx, hb, hml, ho, -⟩ := S
  intro T hT X
  obtain ⟨v, vm₁, ⟨U', l2, c2, s2⟩, hW₁, X', ⟨g', mk, t, L, e1, e2, hq, h1, hL, h2, h3⟩, st⟩ := vx_callSW X hx (hh := hh) (bytes := bytes) (maxL := maxL) (ret := ret) ho hl hstt hini hcode hy hK hg (hsize.trans hml.symm) (argsL := As) (rest := rest) (fun sig h => hn.trans (hlen sig h)) hstack hW (by rw [hb]; exact hdg)
    (fun vm₁ hW₁ => ⟨hf.1, hf.2, hp.2 (T.setVm vm₁) hT hW₁⟩)
  dsimp only [Pt.U, Pt.locs, Pt.cells, Pt.slots] at X' e1 e2 h1 h2 h3 st
  subst h1; subst h2; subst h3
  exact ⟨v, (T.setVm vm₁).calling g' mk As.toArray, t, U', L, hT, X', hL, e1, e2, hq, st⟩
/-- not caught here, past rows that name other classes: it goes on to the caller -/
theorem vx_outP {p : Program} {l : Launch} {e : Env} {R : Room} {s : State} {m : MethodId} {args : Array Value} {below : List Frame} {meth : Method} {c : Code} {H : Heap} {locs : List Loc} {cells slots : Nat} {free : Addr → Prop} {ls : Array Slot} {rest : List Value} {Qc : Array Value → State → Outcome → State → Prop} {XC : String → State → State → Prop}
    {pc : Nat} {own E : String} {ce : Cell} {q : Addr} {mc ms : Nat} (hown : s.vm.findClass own = some m.cls) (hlocks : meth.locks = false)
    (hpass : ∀ z ∈ c.exceptionTable.toList, covers z pc = false ∨ (z.catchType ≠ 0 ∧ ∃ nm : String, (Cond.classLink own z.catchType nm).before args s = true ∧ va_Nc E nm s)) (hcell : H[q]? = some ce) (hv : ce.vm = .none) (hcl : s.vm.findClass E = some ce.cls)
    (hx : ∀ t : State, t.heap = H → s.vm.Alike t.vm → XC E s t) (hf : ∀ z ∈ locs, free z.base) (hc : cells ≤ mc) (hs : slots ≤ ms) :
    vx_W p l e R s m args below meth c H locs cells slots (vx_MQ below Qc XC args s mc ms free) (F0 m pc ls rest) q := by
  intro T hT X
  have hpl : e.platform.magicAccessors = ({} : Platform).magicAccessors := by rw [X.admits.platform]
  obtain ⟨vm', hW', X', st⟩ := X.outThrough hlocks q (g := F0 m pc ls rest) rfl rfl rfl (cell := ce) (by rw [hT]; exact hcell) (by rw [hv]; rfl)
    (by obtain ⟨k9, h9, -⟩ := Vm.findClass_spec hcl; exact ⟨k9, h9⟩) (fun z hz => by
      rcases hpass z hz with h | ⟨hz0, nm, hl1, hn1⟩
      · exact Or.inl h
      · obtain ⟨c6, hc6, hcl6⟩ := Cond.classLink_spec hown hl1 e.platform hpl
        obtain ⟨a8, b8, h1, h2, h3⟩ := hn1
        cases Option.some.inj (h1.symm.trans hcl)
        cases Option.some.inj (h2.symm.trans hc6)
        exact Or.inr ⟨hz0, _, hcl6, h3⟩)
  obtain ⟨g₀, hfr⟩ := X'.frames_eq
  have hcell9 : ((T.setVm vm').setFrames (.throwing q :: below)).heap[q]? = some ce := by
    show T.heap[q]? = some ce
    rw [hT]; exact hcell
  have hend : Ended ((T.setVm vm').setFrames (.throwing q :: below)) below (.threw q) := State.frames_setFrames _ (State.cur_lt_of_frames hfr)
  refine ⟨(T.setVm vm').setFrames (.throwing q :: below), ?_, .threw q, X'.here.running, hend, Or.inr ⟨q, rfl, E, ce, locs, hx _ hT (X'.ends _).1.alike, hcell9, hv, hcl, (X'.ends _).1, (X'.ends _).2.mono hc hs, hf⟩⟩
  rw [X.pushThrowing_eq]
  exact st
/-- a thing of a world lies in the heap -/
theorem vx_lt {D : va_G} {cl : List vw_C} {ws : va_W} {H1 : Heap} (h : va_P D cl ws H1) {k : Nat} {q : Nat × va_E} (hk : ws[k]? = some q) : q.1 < H1.size := (h k q hk).lt
end VXS
/-! ===== END ===== -/
/-! ===== BEGIN methods with a table of their own: called by a name, returning or throwing ===== -/
section VXH
/-! vx_backW, vx_callVX, vx_callSX, vx_callVW, vx_runVW, vx_runVX, vx_runSX, vx_ofWH follow the same proofs as their sisters above (Free/Laws.lean, Shelf42/LK1.lean); vx_outP calls Shelf42/NT130.lean (outThrough). -/
section
variable {l : Launch} {R : Room} {p : Program} {e : Env} {below : List Frame} {s : State} {sargs : Array Value} {y : MethodName} {len W9 : Nat}
theorem vx_backW {ws : List Cond} {rm : Room} {Pc : Array Value → State → Prop} {Qc : Array Value → State → Outcome → State → Prop} {XC : String → State → State → Prop} {mc ms : Nat} {free : Addr → Prop} {bytes : ByteArray} {maxL : Nat} {ret : Option FieldType} {hh : List (Nat × Nat × Nat × Nat)}
    (hM : vx_Met l y ws rm Pc Qc XC mc ms free) (hblind : FrameBlind Pc) (hrc : rm.cells = mc) (hrs : rm.slots = ms)
    (hframes : rm.frames + 1 ≤ R.frames) (hlocals : W9 + (maxL + 11) + rm.locals ≤ R.locals)
    (hws : ∀ w ∈ ws, ∀ a' U, s.WarmedH U.vm → w.before a' U = true) (hcode : Cond.codeWith y bytes maxL ret hh ∈ ws) (hinit : ∀ a' U, s.WarmedH U.vm → (Cond.initialized y.cls).before a' U = true) :
    vx_Back l R p e below s sargs y len W9 (PreOf R mc ms Pc) (PostOf Qc mc ms free) (vx_Post XC mc ms free) := by
  intro m meth c A g ig mk a X hg hsize hdg hW hn hp
  have h1 : (headSpec ws rm).pre.before a A.U = true := atoms_intro fun w hw => hws w hw _ _ X.warmed
  have h2 : (Cond.codeWith y bytes maxL ret hh).before a A.U = true := hws _ hcode _ _ X.warmed
  have h3 : (Cond.initialized y.cls).before a A.U = true := hinit _ _ X.warmed
  have h4 : A.cells + (headSpec ws rm).room.cells ≤ R.cells := by rw [show (headSpec ws rm).room.cells = mc from hrc]; exact hp.1
  have h5 : A.slots + (headSpec ws rm).room.slots ≤ R.slots := by rw [show (headSpec ws rm).room.slots = ms from hrs]; exact hp.2.1
  have hPc : Pc a (A.U.calling g mk a) := hblind _ _ _ _ hp.2.2
  obtain ⟨U, Ls, c0, s0⟩ := A
  dsimp only [Pt.U, Pt.locs, Pt.cells, Pt.slots] at h1 h2 h3 h4 h5 X hn hPc ⊢
  obtain ⟨m9, methY, cY, hn9, hmY, hcY, -, hlY, -⟩ := Cond.codeWith_spec h2
  cases Option.some.inj (hn9.symm.trans hn)
  obtain ⟨kY, hkY, -⟩ := className_of_methodNamed hn
  have hinitY : kY.init = .initialized := Cond.initialized_spec (findClass_of_methodNamed hn) hkY h3
  have h : At U g.method c below := by rw [hg]; exact X.here
  have hlocals9 : W9 + (maxL + 11) + (headSpec ws rm).room.locals ≤ R.locals := hlocals
  have happ : (headSpec ws rm).appliesLoose y e.platform (U.calling g mk a) = true :=
    Spec.appliesLoose_calling (g := g) h hdg hn hkY hinitY
      (X.room_calling (g := g) (R' := (headSpec ws rm).room) hsize hmY hcY hframes (by rw [hlY]; omega) h4 h5) h1
  obtain ⟨mid, hmid⟩ := h.above
  have hfr : (U.setTop g).frames = (.java g :: mid) ++ below := by rw [State.frames_setTop' g h.top, hmid]; rfl
  obtain ⟨o, s₂, hsteps, -, hend, hq⟩ := Steps.callFree hM p X.admits X.cas X.clock (acts := []) hfr happ hPc trivial
  have hq' : vx_Q Qc XC mc ms free a (U.calling g mk a) o s₂ := hq
  rw [State.frames_setTop' g h.top] at hend
  obtain ⟨g₀, hg0⟩ := Option.isSome_iff_exists.mp h.top
  obtain ⟨r, hr⟩ := State.topJava?_eq_some.mp hg0
  have hr' : (({ U with heap := s₂.heap, slotsUsed := s₂.slotsUsed } : State).setVm s₂.vm).frames = .java g₀ :: r := hr
  rcases hq' with ⟨hqc, L, hfe, hL⟩ | ⟨q, rfl, E, ce, L, hx, hce, hcv, hcl, hW₂, hsm, hL⟩
  · obtain ⟨⟨v, rfl⟩, hW₂, e2, q2, q3, q4, q5, q6⟩ := id hfe
    have e3 : s₂ = ({ (U.calling g mk a).setFrames s₂.frames with heap := s₂.heap, slotsUsed := s₂.slotsUsed } : State).setVm s₂.vm := by
      have : s₂ = ({ s₂ with vm := (U.calling g mk a).vm } : State).setVm s₂.vm := rfl
      rw [e2] at this
      exact this
    obtain ⟨c₂, i₂, len₂, hc₂, hd₂, hf₂⟩ := hend
    have hW' : U.WarmedH s₂.vm := hW₂
    have hcc : c₂ = c := by
      have h1 : s₂.code? g.method = U.code? g.method := by
        rw [State.code?_eq, State.code?_eq, hW'.alike.method?]
      exact Option.some.inj (hc₂.symm.trans (h1.trans h.code))
    subst hcc
    have hlen : len₂ = len := by rw [hdg] at hd₂; cases hd₂; rfl
    subst hlen
    have hs₂ : s₂ = (({ U with heap := s₂.heap, slotsUsed := s₂.slotsUsed } : State).setVm s₂.vm).setTop { g with pc := g.pc + len₂, stack := v.toList ++ g.stack } := by
      refine e3.trans ?_
      rw [hf₂, State.calling_eq h.top, State.setFrames_setFrames, State.setTop_of_frames _ hr', hr]
      rfl
    have hsame : U.sameButNew ({ U with heap := s₂.heap, slotsUsed := s₂.slotsUsed } : State) L mc ms := by
      refine ⟨?_, q2, q3, q4, q5, q6⟩
      obtain ⟨t, ht, -⟩ := State.frames_cons hr
      show ({ U with heap := s₂.heap, slotsUsed := s₂.slotsUsed } : State) = { U.setFrames U.frames with heap := s₂.heap, slotsUsed := s₂.slotsUsed }
      rw [State.setFrames_self ht]
    subst hg
    refine Or.inl ⟨v, ⟨(({ U with heap := s₂.heap, slotsUsed := s₂.slotsUsed } : State).setVm s₂.vm), Ls ++ L, c0 + mc, s0 + ms⟩,
      ⟨X.admits, X.cas, X.clock, X.frames, X.room, X.hears, X.method, X.code, (X.here.setHeapUsed s₂.heap s₂.slotsUsed).setVm hW'.alike, X.tail, State.WarmedH.trans X.warmed hW', X.limits, X.bytes, X.same.trans (hsame.setVm s.vm)⟩,
      ⟨g, mk, s₂, L, rfl, rfl, hqc, rfl, hL, rfl, rfl⟩, ?_⟩
    show Steps p.tables e below _ ((({ U with heap := s₂.heap, slotsUsed := s₂.slotsUsed } : State).setVm s₂.vm).setTop { g with pc := g.pc + len₂, stack := v.toList ++ g.stack })
    rw [← hs₂]
    exact hsteps
  · obtain ⟨e2, q2, q3, q4, q5, q6⟩ := id hsm
    have e3 : s₂ = ({ (U.calling g mk a).setFrames s₂.frames with heap := s₂.heap, slotsUsed := s₂.slotsUsed } : State).setVm s₂.vm := by
      have : s₂ = ({ s₂ with vm := (U.calling g mk a).vm } : State).setVm s₂.vm := rfl
      rw [e2] at this
      exact this
    have hf₂ : s₂.frames = .throwing q :: .java g :: U.frames.tail := hend
    have hW' : U.WarmedH s₂.vm := hW₂
    have hs₂ : s₂ = ((({ U with heap := s₂.heap, slotsUsed := s₂.slotsUsed } : State).setVm s₂.vm).setTop g).pushFrame (.throwing q) := by
      refine e3.trans ?_
      rw [hf₂, State.calling_eq h.top, State.setFrames_setFrames, State.pushFrame, State.frames_setTop _ hr', State.setTop_of_frames _ hr', State.setFrames_setFrames, hr]
      rfl
    have hsame : U.sameButNew ({ U with heap := s₂.heap, slotsUsed := s₂.slotsUsed } : State) L mc ms := by
      refine ⟨?_, q2, q3, q4, q5, q6⟩
      obtain ⟨t, ht, -⟩ := State.frames_cons hr
      show ({ U with heap := s₂.heap, slotsUsed := s₂.slotsUsed } : State) = { U.setFrames U.frames with heap := s₂.heap, slotsUsed := s₂.slotsUsed }
      rw [State.setFrames_self ht]
    subst hg
    refine Or.inr ⟨q, ⟨(({ U with heap := s₂.heap, slotsUsed := s₂.slotsUsed } : State).setVm s₂.vm), Ls ++ L, c0 + mc, s0 + ms⟩,
      ⟨X.admits, X.cas, X.clock, X.frames, X.room, X.hears, X.method, X.code, (X.here.setHeapUsed s₂.heap s₂.slotsUsed).setVm hW'.alike, X.tail, State.WarmedH.trans X.warmed hW', X.limits, X.bytes, X.same.trans (hsame.setVm s.vm)⟩,
      ⟨g, mk, s₂, L, E, ce, rfl, rfl, hx, hce, hcv, hcl, rfl, hL, rfl, rfl⟩, ?_⟩
    show Steps p.tables e below _ (((({ U with heap := s₂.heap, slotsUsed := s₂.slotsUsed } : State).setVm s₂.vm).setTop g).pushFrame (.throwing q))
    rw [← hs₂]
    exact hsteps
end
variable {p : Program} {l : Launch} {e : Env} {R : Room} {s : State} {m : MethodId} {args : Array Value} {below : List Frame} {meth : Method} {c : Code} {T : State} {H : Heap} {locs : List Loc} {cells slots : Nat}
theorem vx_callVX (X : Stand p l e R s m args below meth c T locs cells slots) (hexec : p.tables.exec = Jvm.exec) {own C : String} {index : Nat} {y : MethodName} {bytes : ByteArray} {maxL : Nat} {ret : Option FieldType} {hh : List (Nat × Nat × Nat × Nat)}
    (hown : s.vm.findClass own = some m.cls) (hlink : (Cond.methodLink own index y).before args s = true) (hinst : (Cond.instanceMethod y).before args s = true) (hsel : (Cond.selects C y y).before args s = true)
    (hcode : (Cond.codeWith y bytes maxL ret hh).before args s = true) (hy : y.cls ≠ "java/lang/invoke/MethodHandle" ∧ y.cls ≠ "java/lang/invoke/VarHandle")
    {W9 : Nat} {Pre : Pt → Array Value → Prop} {Post : Pt → Array Value → Option Value → Pt → Prop} {PostX : Pt → Array Value → Addr → Pt → Prop} (hK : vx_Back l R p e below s args y 3 W9 Pre Post PostX)
    {b : Addr} {cellB : Cell} (hcell : T.heap[b]? = some cellB) (hobj : cellB.vm.isStatics = false) (hcls : s.vm.findClass C = some cellB.cls)
    {g : JFrame} (hg : g.method = m) (hsize : g.locals.size = c.maxLocals) {argsL rest : List Value} (hlen : ∀ sig, parseMethodDescriptor y.desc = some sig → argsL.length = sig.parameters.length)
    (hstack : g.stack = argsL.reverse ++ .ref b :: rest) (hW : 2 * g.monitorRoom + (rest.map fun v => v.category).sum ≤ W9) (hdg : decode c.code g.pc = .ok (.invokevirtual index, 3))
    (hpre : ∀ vm₁, s.WarmedH vm₁ → Pre ⟨T.setVm vm₁, locs, cells, slots⟩ (Value.ref b :: argsL).toArray) :
    (∃ (v : Option Value) (vm₁ : Vm) (B : Pt), s.WarmedH vm₁ ∧ Stand p l e R s m args below meth c B.U B.locs B.cells B.slots ∧ Post ⟨T.setVm vm₁, locs, cells, slots⟩ (Value.ref b :: argsL).toArray v B ∧
      ∀ target, Steps p.tables e below (B.U.setTop { g with pc := g.pc + 3, stack := v.toList ++ rest }) target → Steps p.tables e below (T.setTop g) target) ∨
    (∃ (q : Addr) (vm₁ : Vm) (B : Pt), s.WarmedH vm₁ ∧ Stand p l e R s m args below meth c B.U B.locs B.cells B.slots ∧ PostX ⟨T.setVm vm₁, locs, cells, slots⟩ (Value.ref b :: argsL).toArray q B ∧
      Steps p.tables e below (T.setTop g) ((B.U.setTop { g with stack := rest }).pushFrame (.throwing q))) := by
  obtain ⟨mk, methM, hnamed, hmethM, hstM, habM⟩ := Cond.instanceMethod_spec hinst
  obtain ⟨m8, methM', cM, hn8, hmethM', -, -, -, -, -, -, hsigM⟩ := Cond.codeWith_spec hcode
  cases Option.some.inj (hn8.symm.trans hnamed)
  cases hmethM.symm.trans hmethM'
  obtain ⟨c2, r2, m2, q1, q2, q3, q4, kP, hkP, hkPi⟩ := Cond.selects_spec hsel
  cases hcls.symm.trans q1
  cases (State.methodFound?_of_named hnamed hy).symm.trans q2
  cases hnamed.symm.trans q3
  have hselP : selectMethod e.platform s.vm cellB.cls mk = .method mk := by rw [Launch.admits_selectMethod X.admits]; exact q4
  obtain ⟨vm₁, X₁, hstep₁⟩ := X.invokevirtual hexec hown hlink hnamed hmethM hstM hkP hkPi hy (a := b) (cell := cellB) hcell
    (fun z h => by rw [h] at hobj; cases hobj) hselP hmethM habM hkP hkPi (g := g) hg (argsL := argsL) (rest := rest) (hlen _ hsigM) hstack hdg
  rcases hK m meth c ⟨T.setVm vm₁, locs, cells, slots⟩ { g with stack := rest } (.invokevirtual index) mk (Value.ref b :: argsL).toArray X₁ hg hsize hdg hW (X₁.named hnamed) (hpre vm₁ X₁.warmed) with ⟨v, B, X', hpost, hsteps⟩ | ⟨q, B, X', hpost, hsteps⟩
  · exact Or.inl ⟨v, vm₁, B, X₁.warmed, X', hpost, fun target h => hstep₁ _ fun acts => by rw [doInvoke_state]; exact hsteps.trans h⟩
  · exact Or.inr ⟨q, vm₁, B, X₁.warmed, X', hpost, hstep₁ _ fun acts => by rw [doInvoke_state]; exact hsteps⟩
theorem vx_callSX (X : Stand p l e R s m args below meth c T locs cells slots) (hexec : p.tables.exec = Jvm.exec) {own : String} {index : Nat} {y : MethodName} {bytes : ByteArray} {maxL : Nat} {ret : Option FieldType} {hh : List (Nat × Nat × Nat × Nat)}
    (hown : s.vm.findClass own = some m.cls) (hlink : (Cond.methodLink own index y).before args s = true) (hstat : (Cond.static y).before args s = true) (hinit : (Cond.initialized y.cls).before args s = true)
    (hcode : (Cond.codeWith y bytes maxL ret hh).before args s = true) (hy : y.cls ≠ "java/lang/invoke/MethodHandle" ∧ y.cls ≠ "java/lang/invoke/VarHandle")
    {W9 : Nat} {Pre : Pt → Array Value → Prop} {Post : Pt → Array Value → Option Value → Pt → Prop} {PostX : Pt → Array Value → Addr → Pt → Prop} (hK : vx_Back l R p e below s args y 3 W9 Pre Post PostX)
    {g : JFrame} (hg : g.method = m) (hsize : g.locals.size = c.maxLocals) {argsL rest : List Value} (hlen : ∀ sig, parseMethodDescriptor y.desc = some sig → argsL.length = sig.parameters.length)
    (hstack : g.stack = argsL.reverse ++ rest) (hW : 2 * g.monitorRoom + (rest.map fun v => v.category).sum ≤ W9) (hdg : decode c.code g.pc = .ok (.invokestatic index, 3))
    (hpre : ∀ vm₁, s.WarmedH vm₁ → Pre ⟨T.setVm vm₁, locs, cells, slots⟩ argsL.toArray) :
    (∃ (v : Option Value) (vm₁ : Vm) (B : Pt), s.WarmedH vm₁ ∧ Stand p l e R s m args below meth c B.U B.locs B.cells B.slots ∧ Post ⟨T.setVm vm₁, locs, cells, slots⟩ argsL.toArray v B ∧
      ∀ target, Steps p.tables e below (B.U.setTop { g with pc := g.pc + 3, stack := v.toList ++ rest }) target → Steps p.tables e below (T.setTop g) target) ∨
    (∃ (q : Addr) (vm₁ : Vm) (B : Pt), s.WarmedH vm₁ ∧ Stand p l e R s m args below meth c B.U B.locs B.cells B.slots ∧ PostX ⟨T.setVm vm₁, locs, cells, slots⟩ argsL.toArray q B ∧
      Steps p.tables e below (T.setTop g) ((B.U.setTop { g with stack := rest }).pushFrame (.throwing q))) := by
  obtain ⟨mk, methM, cM, hnamed, hmethM, -, -, -, -, -, -, hsigM⟩ := Cond.codeWith_spec hcode
  have hstatic : methM.isStatic = true := Cond.static_spec hnamed hmethM hstat
  obtain ⟨kP, hkP, -⟩ := className_of_methodNamed hnamed
  have hinitP : kP.init = .initialized := Cond.initialized_spec (findClass_of_methodNamed hnamed) hkP hinit
  obtain ⟨vm₁, X₁, hstep₁⟩ := X.invokestatic hexec hown hlink hnamed hmethM hstatic hkP hinitP hy (g := g) hg (argsL := argsL) (rest := rest) (hlen _ hsigM) hstack hdg
  rcases hK m meth c ⟨T.setVm vm₁, locs, cells, slots⟩ { g with stack := rest } (.invokestatic index) mk argsL.toArray X₁ hg hsize hdg hW (X₁.named hnamed) (hpre vm₁ X₁.warmed) with ⟨v, B, X', hpost, hsteps⟩ | ⟨q, B, X', hpost, hsteps⟩
  · exact Or.inl ⟨v, vm₁, B, X₁.warmed, X', hpost, fun target h => hstep₁ _ fun acts => by rw [doInvoke_state]; exact hsteps.trans h⟩
  · exact Or.inr ⟨q, vm₁, B, X₁.warmed, X', hpost, hstep₁ _ fun acts => by rw [doInvoke_state]; exact hsteps⟩
theorem vx_callVW (X : Stand p l e R s m args below meth c T locs cells slots) (hexec : p.tables.exec = Jvm.exec) {own C : String} {index : Nat} {y : MethodName} {bytes : ByteArray} {maxL : Nat} {ret : Option FieldType} {hh : List (Nat × Nat × Nat × Nat)}
    (hown : s.vm.findClass own = some m.cls) (hlink : (Cond.methodLink own index y).before args s = true) (hinst : (Cond.instanceMethod y).before args s = true) (hsel : (Cond.selects C y y).before args s = true)
    (hcode : (Cond.codeWith y bytes maxL ret hh).before args s = true) (hy : y.cls ≠ "java/lang/invoke/MethodHandle" ∧ y.cls ≠ "java/lang/invoke/VarHandle")
    {W9 : Nat} {Pre : Pt → Array Value → Prop} {Post : Pt → Array Value → Option Value → Pt → Prop} (hK : Back l R p e below s args y 3 W9 Pre Post)
    {b : Addr} {cellB : Cell} (hcell : T.heap[b]? = some cellB) (hobj : cellB.vm.isStatics = false) (hcls : s.vm.findClass C = some cellB.cls)
    {g : JFrame} (hg : g.method = m) (hsize : g.locals.size = c.maxLocals) {argsL rest : List Value} (hlen : ∀ sig, parseMethodDescriptor y.desc = some sig → argsL.length = sig.parameters.length)
    (hstack : g.stack = argsL.reverse ++ .ref b :: rest) (hW : 2 * g.monitorRoom + (rest.map fun v => v.category).sum ≤ W9) (hdg : decode c.code g.pc = .ok (.invokevirtual index, 3))
    (hpre : ∀ vm₁, s.WarmedH vm₁ → Pre ⟨T.setVm vm₁, locs, cells, slots⟩ (Value.ref b :: argsL).toArray) :
    ∃ (v : Option Value) (vm₁ : Vm) (B : Pt), s.WarmedH vm₁ ∧ Stand p l e R s m args below meth c B.U B.locs B.cells B.slots ∧ Post ⟨T.setVm vm₁, locs, cells, slots⟩ (Value.ref b :: argsL).toArray v B ∧
      ∀ target, Steps p.tables e below (B.U.setTop { g with pc := g.pc + 3, stack := v.toList ++ rest }) target → Steps p.tables e below (T.setTop g) target := by
  obtain ⟨mk, methM, hnamed, hmethM, hstM, habM⟩ := Cond.instanceMethod_spec hinst
  obtain ⟨m8, methM', cM, hn8, hmethM', -, -, -, -, -, -, hsigM⟩ := Cond.codeWith_spec hcode
  cases Option.some.inj (hn8.symm.trans hnamed)
  cases hmethM.symm.trans hmethM'
  obtain ⟨c2, r2, m2, q1, q2, q3, q4, kP, hkP, hkPi⟩ := Cond.selects_spec hsel
  cases hcls.symm.trans q1
  cases (State.methodFound?_of_named hnamed hy).symm.trans q2
  cases hnamed.symm.trans q3
  have hselP : selectMethod e.platform s.vm cellB.cls mk = .method mk := by rw [Launch.admits_selectMethod X.admits]; exact q4
  obtain ⟨vm₁, X₁, hstep₁⟩ := X.invokevirtual hexec hown hlink hnamed hmethM hstM hkP hkPi hy (a := b) (cell := cellB) hcell
    (fun z h => by rw [h] at hobj; cases hobj) hselP hmethM habM hkP hkPi (g := g) hg (argsL := argsL) (rest := rest) (hlen _ hsigM) hstack hdg
  obtain ⟨v, B, X', hpost, hsteps⟩ := hK m meth c ⟨T.setVm vm₁, locs, cells, slots⟩ { g with stack := rest } (.invokevirtual index) mk (Value.ref b :: argsL).toArray X₁ hg hsize hdg hW (X₁.named hnamed) (hpre vm₁ X₁.warmed)
  exact ⟨v, vm₁, B, X₁.warmed, X', hpost, fun target h => hstep₁ _ fun acts => by rw [doInvoke_state]; exact hsteps.trans h⟩
abbrev vx_CVW (R : Room) (s : State) (args : Array Value) (own C : String) (index : Nat) (y : MethodName) (bytes : ByteArray) (maxL : Nat) (ret : Option FieldType) (hh : List (Nat × Nat × Nat × Nat)) (ws : List Cond) (rm : Room) (mc ms n : Nat) : Prop :=
  (rm.cells = mc ∧ rm.slots = ms ∧ rm.frames + 1 ≤ R.frames ∧ 8 + (maxL + 11) + rm.locals ≤ R.locals ∧ (∀ w ∈ ws, ∀ (a' : Array Value) (U : State), s.WarmedH U.vm → w.before a' U = true) ∧ Cond.codeWith y bytes maxL ret hh ∈ ws) ∧
  (Cond.codeWith y bytes maxL ret hh).before args s = true ∧ (Cond.initialized y.cls).before args s = true ∧ (y.cls ≠ "java/lang/invoke/MethodHandle" ∧ y.cls ≠ "java/lang/invoke/VarHandle") ∧
  (∀ sig, parseMethodDescriptor y.desc = some sig → n = sig.parameters.length) ∧ (Cond.methodLink own index y).before args s = true ∧ (Cond.instanceMethod y).before args s = true ∧ (Cond.selects C y y).before args s = true
theorem vx_cwVW {own C : String} {index maxL mc ms : Nat} {y : MethodName} {bytes : ByteArray} {ret : Option FieldType} {hh : List (Nat × Nat × Nat × Nat)} {Ts ws ws' : List Cond} {rm : Room} (n : Nat) (ht : ∀ w ∈ Ts, w.before args s = true) (hT : GoodIn Ts (wsV own index C y ws)) (hw : ws = Cond.codeWith y bytes maxL ret hh :: ws') (hrc : rm.cells = mc) (hrs : rm.slots = ms)
    (hd : y.cls = C ∧ y.cls ≠ "java/lang/invoke/MethodHandle" ∧ y.cls ≠ "java/lang/invoke/VarHandle" ∧ (parseMethodDescriptor y.desc).map (fun d => d.parameters.length) = some n) (hR : rm.frames + 1 ≤ R.frames ∧ 8 + (maxL + 11) + rm.locals ≤ R.locals) :
    vx_CVW R s args own C index y bytes maxL ret hh ws rm mc ms n := by
  obtain ⟨hC, hd⟩ := hd
  subst hC
  have ok : ∀ w ∈ wsV own index y.cls y ws, w.before args s = true := fun w h => ht w (hT w h).1
  have hG : GoodIn Ts ws := fun w h => hT w (by unfold wsV; exact List.mem_append_right _ h)
  have hc : Cond.codeWith y bytes maxL ret hh ∈ ws := by rw [hw]; exact List.mem_cons_self
  refine ⟨⟨hrc, hrs, hR.1, hR.2, pay_in ht hG, hc⟩, ht _ (hG _ hc).1, ok _ (by simp [wsV]), ⟨hd.1, hd.2.1⟩, fun sig h => ?_, ok _ (by simp [wsV]), ok _ (by simp [wsV]), ok _ (by simp [wsV])⟩
  have h2 := hd.2.2
  rw [h] at h2
  exact (Option.some.inj h2).symm
theorem vx_runVW {y : MethodName} {bytes cc : ByteArray} {maxL nL mc ms n index : Nat} {ret : Option FieldType} {hh : List (Nat × Nat × Nat × Nat)} {ws : List Cond} {rm : Room} {Pc : Array Value → State → Prop} {Qc : Array Value → State → Outcome → State → Prop} {free : Addr → Prop} {Ts : List Cond} {own C : String} {b : Addr} {As rest : List Value} {g : JFrame}
    (S : CallFix p m c cc nL s args Ts own) (hM : Met l y ws rm Pc Qc mc ms free) (cw : vx_CVW R s args own C index y bytes maxL ret hh ws rm mc ms n) (hp : PreV s H C b Pc As)
    (hg : g.method = m) (hn : As.length = n) (hsize : g.locals.size = nL) (hstack : g.stack = As.reverse ++ .ref b :: rest) (hW : 2 * g.monitorRoom + (rest.map fun v => v.category).sum ≤ 8) (hdg : decode cc g.pc = .ok (.invokevirtual index, 3)) (hf : cells + mc ≤ R.cells ∧ slots + ms ≤ R.slots) :
    va_Run p l e R s m args below meth c H locs cells slots mc ms g rest (Qc (Value.ref b :: As).toArray) free := by
  obtain ⟨⟨hrc, hrs, hfr, hlo, hws, hcw⟩, hcode, hini, hy, hlen, hl, hin, hse⟩ := cw
  have hK : Back l R p e below s args y 3 8 (PreOf R mc ms Pc) (PostOf Qc mc ms free) := va_backW (hh := hh) (bytes := bytes) (maxL := maxL) (ret := ret) hM hp.1 hrc hrs hfr hlo hws hcw (fun a' U hW => word_at hW (Or.inl (by first | rfl | simp [Cond.onTables, Cond.keeps, Cond.steady])) hini)
  obtain ⟨hx, hb, hml, ho, -⟩ := S
  obtain ⟨-, ⟨cellB, hcB, hoB, hclB⟩, hPc⟩ := hp
  intro T hT X
  obtain ⟨v, vm₁, ⟨U', l2, c2, s2⟩, hW₁, X', ⟨g', mk, t, L, e1, e2, hq, h1, hL, h2, h3⟩, st⟩ := vx_callVW X hx (C := C) (hh := hh) (bytes := bytes) (maxL := maxL) (ret := ret) ho hl hin hse hcode hy hK (by rw [hT]; exact hcB) hoB hclB hg (hsize.trans hml.symm) (argsL := As) (rest := rest) (fun sig h => hn.trans (hlen sig h)) hstack hW (by rw [hb]; exact hdg)
    (fun vm₁ hW₁ => ⟨hf.1, hf.2, hPc (T.setVm vm₁) hT hW₁⟩)
  dsimp only [Pt.U, Pt.locs, Pt.cells, Pt.slots] at X' e1 e2 h1 h2 h3 st
  subst h1; subst h2; subst h3
  exact ⟨v, (T.setVm vm₁).calling g' mk (Value.ref b :: As).toArray, t, U', L, hT, X', hL, e1, e2, hq, st⟩
section
variable {y : MethodName} {bytes cc : ByteArray} {maxL nL mc ms n index : Nat} {ret : Option FieldType} {ws : List Cond} {rm : Room} {Pc : Array Value → State → Prop} {Qc : Array Value → State → Outcome → State → Prop} {XC : String → State → State → Prop} {free : Addr → Prop} {Ts : List Cond} {own C : String} {b : Addr} {As rest : List Value} {g : JFrame}
theorem vx_runVX {hh : List (Nat × Nat × Nat × Nat)} (S : CallFix p m c cc nL s args Ts own) (hM : vx_Met l y ws rm Pc Qc XC mc ms free) (cw : vx_CVW R s args own C index y bytes maxL ret hh ws rm mc ms n) (hp : PreV s H C b Pc As)
    (hg : g.method = m) (hn : As.length = n) (hsize : g.locals.size = nL) (hstack : g.stack = As.reverse ++ .ref b :: rest) (hW : 2 * g.monitorRoom + (rest.map fun v => v.category).sum ≤ 8) (hdg : decode cc g.pc = .ok (.invokevirtual index, 3)) (hf : cells + mc ≤ R.cells ∧ slots + ms ≤ R.slots) :
    vx_Run p l e R s m args below meth c H locs cells slots mc ms g rest (Qc (Value.ref b :: As).toArray) XC free := by
  obtain ⟨⟨hrc, hrs, hfr, hlo, hws, hcw⟩, hcode, hini, hy, hlen, hl, hin, hse⟩ := cw
  have hK : vx_Back l R p e below s args y 3 8 (PreOf R mc ms Pc) (PostOf Qc mc ms free) (vx_Post XC mc ms free) := vx_backW (hh := hh) (bytes := bytes) (maxL := maxL) (ret := ret) hM hp.1 hrc hrs hfr hlo hws hcw (fun a' U hW => word_at hW (Or.inl (by first | rfl | simp [Cond.onTables, Cond.keeps, Cond.steady])) hini)
  obtain ⟨hx, hb, hml, ho, -⟩ := S
  obtain ⟨-, ⟨cellB, hcB, hoB, hclB⟩, hPc⟩ := hp
  intro T hT X
  rcases vx_callVX X hx (C := C) (hh := hh) (bytes := bytes) (maxL := maxL) (ret := ret) ho hl hin hse hcode hy hK (by rw [hT]; exact hcB) hoB hclB hg (hsize.trans hml.symm) (argsL := As) (rest := rest) (fun sig h => hn.trans (hlen sig h)) hstack hW (by rw [hb]; exact hdg)
    (fun vm₁ hW₁ => ⟨hf.1, hf.2, hPc (T.setVm vm₁) hT hW₁⟩) with ⟨v, vm₁, ⟨U', l2, c2, s2⟩, hW₁, X', ⟨g', mk, t, L, e1, e2, hq, h1, hL, h2, h3⟩, st⟩ | ⟨q, vm₁, ⟨U', l2, c2, s2⟩, hW₁, X', ⟨g', mk, t, L, E, ce, e1, e2, hq, hce, hcv, hcl, h1, hL, h2, h3⟩, st⟩
  · dsimp only [Pt.U, Pt.locs, Pt.cells, Pt.slots] at X' e1 e2 h1 h2 h3 st
    subst h1; subst h2; subst h3
    exact Or.inl ⟨v, (T.setVm vm₁).calling g' mk (Value.ref b :: As).toArray, t, U', L, hT, X', hL, e1, e2, hq, st⟩
  · dsimp only [Pt.U, Pt.locs, Pt.cells, Pt.slots] at X' e1 e2 h1 h2 h3 st hcl
    subst h1; subst h2; subst h3
    exact Or.inr ⟨q, (T.setVm vm₁).calling g' mk (Value.ref b :: As).toArray, t, U', L, E, ce, hT, X', hL, e1, e2, hq, hce, hcv, vx_cls hW₁ hcl, st⟩
theorem vx_runSX {hh : List (Nat × Nat × Nat × Nat)} (S : CallFix p m c cc nL s args Ts own) (hM : vx_Met l y ws rm Pc Qc XC mc ms free) (cw : vx_CSW R s args own index y bytes maxL ret hh ws rm mc ms n) (hp : PreS s H Pc As)
    (hg : g.method = m) (hn : As.length = n) (hsize : g.locals.size = nL) (hstack : g.stack = As.reverse ++ rest) (hW : 2 * g.monitorRoom + (rest.map fun v => v.category).sum ≤ 8) (hdg : decode cc g.pc = .ok (.invokestatic index, 3)) (hf : cells + mc ≤ R.cells ∧ slots + ms ≤ R.slots) :
    vx_Run p l e R s m args below meth c H locs cells slots mc ms g rest (Qc As.toArray) XC free := by
  obtain ⟨⟨hrc, hrs, hfr, hlo, hws, hcw⟩, hcode, hini, hy, hlen, hl, hstt⟩ := cw
  have hK : vx_Back l R p e below s args y 3 8 (PreOf R mc ms Pc) (PostOf Qc mc ms free) (vx_Post XC mc ms free) := vx_backW (hh := hh) (bytes := bytes) (maxL := maxL) (ret := ret) hM hp.1 hrc hrs hfr hlo hws hcw (fun a' U hW => word_at hW (Or.inl (by first | rfl | simp [Cond.onTables, Cond.keeps, Cond.steady])) hini)
  obtain ⟨hx, hb, hml, ho, -⟩ := S
  intro T hT X
  rcases vx_callSX X hx (hh := hh) (bytes := bytes) (maxL := maxL) (ret := ret) ho hl hstt hini hcode hy hK hg (hsize.trans hml.symm) (argsL := As) (rest := rest) (fun sig h => hn.trans (hlen sig h)) hstack hW (by rw [hb]; exact hdg)
    (fun vm₁ hW₁ => ⟨hf.1, hf.2, hp.2 (T.setVm vm₁) hT hW₁⟩) with ⟨v, vm₁, ⟨U', l2, c2, s2⟩, hW₁, X', ⟨g', mk, t, L, e1, e2, hq, h1, hL, h2, h3⟩, st⟩ | ⟨q, vm₁, ⟨U', l2, c2, s2⟩, hW₁, X', ⟨g', mk, t, L, E, ce, e1, e2, hq, hce, hcv, hcl, h1, hL, h2, h3⟩, st⟩
  · dsimp only [Pt.U, Pt.locs, Pt.cells, Pt.slots] at X' e1 e2 h1 h2 h3 st
    subst h1; subst h2; subst h3
    exact Or.inl ⟨v, (T.setVm vm₁).calling g' mk As.toArray, t, U', L, hT, X', hL, e1, e2, hq, st⟩
  · dsimp only [Pt.U, Pt.locs, Pt.cells, Pt.slots] at X' e1 e2 h1 h2 h3 st hcl
    subst h1; subst h2; subst h3
    exact Or.inr ⟨q, (T.setVm vm₁).calling g' mk As.toArray, t, U', L, E, ce, hT, X', hL, e1, e2, hq, hce, hcv, vx_cls hW₁ hcl, st⟩
end
end VXH
theorem vx_ofWH {l : Launch} {y : MethodName} {ws ws' : List Cond} {rm : Room} {Pc : Array Value → State → Prop} {Qc : Array Value → State → Outcome → State → Prop} {XC : String → State → State → Prop} {mc ms : Nat} {free : Addr → Prop} {cc : ByteArray} {maxL : Nat} {ret : Option FieldType} {hh : List (Nat × Nat × Nat × Nat)}
    (hy : plainName y.cls = true) (hw : ws = Cond.codeWith y cc maxL ret hh :: ws')
    (body : ∀ p e s m args below meth c s₁, BodyLoose p l y (headSpec ws rm) cc maxL ret e s m args below meth c s₁ → c.maxLocals = maxL → Pc args s →
      W p l e (headSpec ws rm).room s m args below meth c s.heap [] 0 0 (vx_MQ below Qc XC args s mc ms free) (entryFrame m args maxL)) : vx_Met l y ws rm Pc Qc XC mc ms free := by
  refine MetFree.of_bodyS (code := cc) (maxLocals := maxL) (ret := ret) hy ?_ ?_
  · intro args s m h hn
    obtain ⟨m9, meth, c, hn9, h1, h2, h3, h4, -, h5, h6, -⟩ := Cond.codeWith_spec (atoms_spec (ws := ws) h _ (by rw [hw]; exact List.mem_cons_self))
    cases hn.symm.trans hn9
    exact ⟨meth, c, h1, h2, h3, h4, h5, h6⟩
  · intro p e s m args below meth c s₁ B hml hP _
    have hh0 : s₁.heap = s.heap := by rw [B.state]; rfl
    obtain ⟨t, a1, o, b1, b2, b3⟩ := body p e s m args below meth c s₁ B hml hP s₁ hh0 (Stand.of_body B)
    exact ⟨t, o, a1, b1, b2, b3⟩
/-! ===== END ===== -/

/-! ===== BEGIN printed: names, fields, word lists, decode rows ===== -/
def RX0 : String := "SensorBond$Buyer"
def TX0 : u_T := fun k => match k with
  | 0 => ("SensorBond$Buyer", "purse", "I", false)
  | _ => ("SensorBond$Buyer", "windows", "[LSensorBond$Window;", true)
def tyX0 : Nat → FieldType := fun k => match k with
  | 0 => .int
  | _ => .array (.object "SensorBond$Window")
abbrev wsX00 : List Cond := u_ws RX0 TX0 2
theorem nmX0 : ∀ a, a < 2 → ∀ b, b < 2 → a ≠ b → (TX0 a).2.1 ≠ (TX0 b).2.1 := by decide +kernel
theorem tyX0_ok : ∀ k, k < 2 → parseFieldDescriptor (TX0 k).2.2.1 = some (tyX0 k) := by decide +kernel
abbrev cX0_init : ByteArray := prog_2_method_1_code
def yX0_init : MethodName := ⟨RX0, "<init>", "()V"⟩
def RX1 : String := "SensorBond$Challenge"
def TX1 : u_T := fun k => match k with
  | 0 => ("SensorBond$Challenge", "challenger", "LSensorBond$Buyer;", true)
  | 1 => ("SensorBond$Challenge", "samples", "[I", true)
  | 2 => ("SensorBond$Challenge", "count", "I", false)
  | _ => ("SensorBond$Challenge", "givers", "I", false)
def tyX1 : Nat → FieldType := fun k => match k with
  | 0 => .object "SensorBond$Buyer"
  | 1 => .array .int
  | 2 => .int
  | _ => .int
abbrev wsX10 : List Cond := u_ws RX1 TX1 4
theorem nmX1 : ∀ a, a < 4 → ∀ b, b < 4 → a ≠ b → (TX1 a).2.1 ≠ (TX1 b).2.1 := by decide +kernel
theorem tyX1_ok : ∀ k, k < 4 → parseFieldDescriptor (TX1 k).2.2.1 = some (tyX1 k) := by decide +kernel
abbrev cX1_init : ByteArray := prog_3_method_1_code
def yX1_init : MethodName := ⟨RX1, "<init>", "(LSensorBond$Buyer;)V"⟩
abbrev cX1_hasSampleOf : ByteArray := prog_3_method_2_code
def yX1_hasSampleOf : MethodName := ⟨RX1, "hasSampleOf", "(LSensorBond$Sensor;)Z"⟩
abbrev cX1_addSample : ByteArray := prog_3_method_3_code
def yX1_addSample : MethodName := ⟨RX1, "addSample", "(LSensorBond$Sensor;I)V"⟩
abbrev cX1_findMiddle : ByteArray := prog_3_method_4_code
def yX1_findMiddle : MethodName := ⟨RX1, "findMiddle", "()I"⟩
abbrev cX1_refutes : ByteArray := prog_3_method_5_code
def yX1_refutes : MethodName := ⟨RX1, "refutes", "(I)Z"⟩
def RX2 : String := "SensorBond$Reading"
def TX2 : u_T := fun k => match k with
  | 0 => ("SensorBond$Reading", "sensor", "LSensorBond$Sensor;", true)
  | 1 => ("SensorBond$Reading", "value", "I", true)
  | 2 => ("SensorBond$Reading", "parts", "I", true)
  | 3 => ("SensorBond$Reading", "state", "I", false)
  | 4 => ("SensorBond$Reading", "due", "I", false)
  | 5 => ("SensorBond$Reading", "paid", "[I", true)
  | 6 => ("SensorBond$Reading", "users", "I", false)
  | 7 => ("SensorBond$Reading", "held", "I", false)
  | 8 => ("SensorBond$Reading", "cut", "I", false)
  | _ => ("SensorBond$Reading", "challenge", "LSensorBond$Challenge;", false)
def tyX2 : Nat → FieldType := fun k => match k with
  | 0 => .object "SensorBond$Sensor"
  | 1 => .int
  | 2 => .int
  | 3 => .int
  | 4 => .int
  | 5 => .array .int
  | 6 => .int
  | 7 => .int
  | 8 => .int
  | _ => .object "SensorBond$Challenge"
abbrev wsX20 : List Cond := u_ws RX2 TX2 10
theorem nmX2 : ∀ a, a < 10 → ∀ b, b < 10 → a ≠ b → (TX2 a).2.1 ≠ (TX2 b).2.1 := by decide +kernel
theorem tyX2_ok : ∀ k, k < 10 → parseFieldDescriptor (TX2 k).2.2.1 = some (tyX2 k) := by decide +kernel
abbrev cX2_init : ByteArray := prog_4_method_1_code
def yX2_init : MethodName := ⟨RX2, "<init>", "(LSensorBond$Sensor;II)V"⟩
abbrev cX2_isOpen : ByteArray := prog_4_method_2_code
def yX2_isOpen : MethodName := ⟨RX2, "isOpen", "()Z"⟩
def RX3 : String := "SensorBond$Repeater"
def TX3 : u_T := fun k => match k with
  | 0 => ("SensorBond$Repeater", "number", "I", true)
  | 1 => ("SensorBond$Repeater", "on", "LSensorBond$Repeater;", false)
  | 2 => ("SensorBond$Repeater", "lossEvery", "I", false)
  | _ => ("SensorBond$Repeater", "come", "I", false)
def tyX3 : Nat → FieldType := fun k => match k with
  | 0 => .int
  | 1 => .object "SensorBond$Repeater"
  | 2 => .int
  | _ => .int
abbrev wsX30 : List Cond := u_ws RX3 TX3 4
theorem nmX3 : ∀ a, a < 4 → ∀ b, b < 4 → a ≠ b → (TX3 a).2.1 ≠ (TX3 b).2.1 := by decide +kernel
theorem tyX3_ok : ∀ k, k < 4 → parseFieldDescriptor (TX3 k).2.2.1 = some (tyX3 k) := by decide +kernel
abbrev cX3_init : ByteArray := prog_5_method_1_code
def yX3_init : MethodName := ⟨RX3, "<init>", "(ILSensorBond$Repeater;)V"⟩
abbrev cX3_losesNext : ByteArray := prog_5_method_2_code
def yX3_losesNext : MethodName := ⟨RX3, "losesNext", "()Z"⟩
abbrev cX3_countLost : ByteArray := prog_5_method_3_code
def yX3_countLost : MethodName := ⟨RX3, "countLost", "()I"⟩
def RX4 : String := "SensorBond$Sensor"
def TX4 : u_T := fun k => match k with
  | 0 => ("SensorBond$Sensor", "number", "I", true)
  | 1 => ("SensorBond$Sensor", "repeater", "LSensorBond$Repeater;", false)
  | 2 => ("SensorBond$Sensor", "price", "I", false)
  | 3 => ("SensorBond$Sensor", "bond", "I", false)
  | 4 => ("SensorBond$Sensor", "purse", "I", false)
  | 5 => ("SensorBond$Sensor", "put", "I", false)
  | _ => ("SensorBond$Sensor", "lastTold", "I", false)
def tyX4 : Nat → FieldType := fun k => match k with
  | 0 => .int
  | 1 => .object "SensorBond$Repeater"
  | 2 => .int
  | 3 => .int
  | 4 => .int
  | 5 => .int
  | _ => .int
abbrev wsX40 : List Cond := u_ws RX4 TX4 7
theorem nmX4 : ∀ a, a < 7 → ∀ b, b < 7 → a ≠ b → (TX4 a).2.1 ≠ (TX4 b).2.1 := by decide +kernel
theorem tyX4_ok : ∀ k, k < 7 → parseFieldDescriptor (TX4 k).2.2.1 = some (tyX4 k) := by decide +kernel
abbrev cX4_init : ByteArray := prog_6_method_1_code
def yX4_init : MethodName := ⟨RX4, "<init>", "(ILSensorBond$Repeater;)V"⟩
def RX5 : String := "SensorBond$Window"
def TX5 : u_T := fun k => match k with
  | 0 => ("SensorBond$Window", "price", "I", true)
  | 1 => ("SensorBond$Window", "last", "I", true)
  | _ => ("SensorBond$Window", "left", "I", false)
def tyX5 : Nat → FieldType := fun k => match k with
  | 0 => .int
  | 1 => .int
  | _ => .int
abbrev wsX50 : List Cond := u_ws RX5 TX5 3
theorem nmX5 : ∀ a, a < 3 → ∀ b, b < 3 → a ≠ b → (TX5 a).2.1 ≠ (TX5 b).2.1 := by decide +kernel
theorem tyX5_ok : ∀ k, k < 3 → parseFieldDescriptor (TX5 k).2.2.1 = some (tyX5 k) := by decide +kernel
abbrev cX5_init : ByteArray := prog_7_method_1_code
def yX5_init : MethodName := ⟨RX5, "<init>", "(III)V"⟩
def RX6 : String := "SensorBond"
def TX6 : u_T := fun k => match k with
  | 0 => ("SensorBond", "repeaters", "[LSensorBond$Repeater;", true)
  | 1 => ("SensorBond", "sensors", "[LSensorBond$Sensor;", true)
  | 2 => ("SensorBond", "buyers", "[LSensorBond$Buyer;", true)
  | 3 => ("SensorBond", "readings", "[LSensorBond$Reading;", true)
  | 4 => ("SensorBond", "readingCount", "I", false)
  | 5 => ("SensorBond", "house", "I", false)
  | 6 => ("SensorBond", "tick", "I", false)
  | _ => ("SensorBond", "busyUntil", "I", false)
def tyX6 : Nat → FieldType := fun k => match k with
  | 0 => .array (.object "SensorBond$Repeater")
  | 1 => .array (.object "SensorBond$Sensor")
  | 2 => .array (.object "SensorBond$Buyer")
  | 3 => .array (.object "SensorBond$Reading")
  | 4 => .int
  | 5 => .int
  | 6 => .int
  | _ => .int
abbrev wsX60 : List Cond := u_ws RX6 TX6 8
theorem nmX6 : ∀ a, a < 8 → ∀ b, b < 8 → a ≠ b → (TX6 a).2.1 ≠ (TX6 b).2.1 := by decide +kernel
theorem tyX6_ok : ∀ k, k < 8 → parseFieldDescriptor (TX6 k).2.2.1 = some (tyX6 k) := by decide +kernel
abbrev cX6_init : ByteArray := prog_1_method_1_code
def yX6_init : MethodName := ⟨RX6, "<init>", "()V"⟩
abbrev cX6_hang : ByteArray := prog_1_method_2_code
def yX6_hang : MethodName := ⟨RX6, "hang", "(II)I"⟩
abbrev cX6_attach : ByteArray := prog_1_method_3_code
def yX6_attach : MethodName := ⟨RX6, "attach", "(II)I"⟩
abbrev cX6_setLoss : ByteArray := prog_1_method_4_code
def yX6_setLoss : MethodName := ⟨RX6, "setLoss", "(II)I"⟩
abbrev cX6_setPrice : ByteArray := prog_1_method_5_code
def yX6_setPrice : MethodName := ⟨RX6, "setPrice", "(II)I"⟩
abbrev cX6_topUp : ByteArray := prog_1_method_6_code
def yX6_topUp : MethodName := ⟨RX6, "topUp", "(II)I"⟩
abbrev cX6_tell : ByteArray := prog_1_method_7_code
def yX6_tell : MethodName := ⟨RX6, "tell", "(II)I"⟩
abbrev cX6_open : ByteArray := prog_1_method_8_code
def yX6_open : MethodName := ⟨RX6, "open", "(III)I"⟩
abbrev cX6_challenge : ByteArray := prog_1_method_9_code
def yX6_challenge : MethodName := ⟨RX6, "challenge", "(II)I"⟩
abbrev cX6_sample : ByteArray := prog_1_method_10_code
def yX6_sample : MethodName := ⟨RX6, "sample", "(III)I"⟩
abbrev cX6_advance : ByteArray := prog_1_method_11_code
def yX6_advance : MethodName := ⟨RX6, "advance", "(I)I"⟩
abbrev cX6_tick : ByteArray := prog_1_method_12_code
def yX6_tick : MethodName := ⟨RX6, "tick", "()I"⟩
abbrev cX6_readings : ByteArray := prog_1_method_13_code
def yX6_readings : MethodName := ⟨RX6, "readings", "()I"⟩
abbrev cX6_stateOf : ByteArray := prog_1_method_14_code
def yX6_stateOf : MethodName := ⟨RX6, "stateOf", "(I)I"⟩
abbrev cX6_parts : ByteArray := prog_1_method_15_code
def yX6_parts : MethodName := ⟨RX6, "parts", "(I)I"⟩
abbrev cX6_users : ByteArray := prog_1_method_16_code
def yX6_users : MethodName := ⟨RX6, "users", "(I)I"⟩
abbrev cX6_held : ByteArray := prog_1_method_17_code
def yX6_held : MethodName := ⟨RX6, "held", "(I)I"⟩
abbrev cX6_middle : ByteArray := prog_1_method_18_code
def yX6_middle : MethodName := ⟨RX6, "middle", "(I)I"⟩
abbrev cX6_textAt : ByteArray := prog_1_method_19_code
def yX6_textAt : MethodName := ⟨RX6, "textAt", "(II)I"⟩
abbrev cX6_bond : ByteArray := prog_1_method_20_code
def yX6_bond : MethodName := ⟨RX6, "bond", "(I)I"⟩
abbrev cX6_bondByCuts : ByteArray := prog_1_method_21_code
def yX6_bondByCuts : MethodName := ⟨RX6, "bondByCuts", "(I)I"⟩
abbrev cX6_earned : ByteArray := prog_1_method_22_code
def yX6_earned : MethodName := ⟨RX6, "earned", "(I)I"⟩
abbrev cX6_mark : ByteArray := prog_1_method_23_code
def yX6_mark : MethodName := ⟨RX6, "mark", "(I)I"⟩
abbrev cX6_purse : ByteArray := prog_1_method_24_code
def yX6_purse : MethodName := ⟨RX6, "purse", "(I)I"⟩
abbrev cX6_aside : ByteArray := prog_1_method_25_code
def yX6_aside : MethodName := ⟨RX6, "aside", "(II)I"⟩
abbrev cX6_house : ByteArray := prog_1_method_26_code
def yX6_house : MethodName := ⟨RX6, "house", "()I"⟩
abbrev cX6_repeaterAt : ByteArray := prog_1_method_27_code
def yX6_repeaterAt : MethodName := ⟨RX6, "repeaterAt", "(I)LSensorBond$Repeater;"⟩
abbrev cX6_sensorAt : ByteArray := prog_1_method_28_code
def yX6_sensorAt : MethodName := ⟨RX6, "sensorAt", "(I)LSensorBond$Sensor;"⟩
abbrev cX6_buyerAt : ByteArray := prog_1_method_29_code
def yX6_buyerAt : MethodName := ⟨RX6, "buyerAt", "(I)LSensorBond$Buyer;"⟩
abbrev cX6_readingAt : ByteArray := prog_1_method_30_code
def yX6_readingAt : MethodName := ⟨RX6, "readingAt", "(I)LSensorBond$Reading;"⟩
abbrev cX6_checkWithin : ByteArray := prog_1_method_31_code
def yX6_checkWithin : MethodName := ⟨RX6, "checkWithin", "(III)V"⟩
abbrev cX6_sendParts : ByteArray := prog_1_method_32_code
def yX6_sendParts : MethodName := ⟨RX6, "sendParts", "(LSensorBond$Sensor;)I"⟩
abbrev cX6_passesHub : ByteArray := prog_1_method_33_code
def yX6_passesHub : MethodName := ⟨RX6, "passesHub", "(LSensorBond$Repeater;)Z"⟩
abbrev cX6_letWindowsUse : ByteArray := prog_1_method_34_code
def yX6_letWindowsUse : MethodName := ⟨RX6, "letWindowsUse", "(LSensorBond$Reading;)V"⟩
abbrev cX6_waitFor : ByteArray := prog_1_method_35_code
def yX6_waitFor : MethodName := ⟨RX6, "waitFor", "(LSensorBond$Reading;)V"⟩
abbrev cX6_endTick : ByteArray := prog_1_method_36_code
def yX6_endTick : MethodName := ⟨RX6, "endTick", "(I)V"⟩
abbrev cX6_settle : ByteArray := prog_1_method_37_code
def yX6_settle : MethodName := ⟨RX6, "settle", "(LSensorBond$Reading;)V"⟩
abbrev cX6_closeWindows : ByteArray := prog_1_method_38_code
def yX6_closeWindows : MethodName := ⟨RX6, "closeWindows", "(LSensorBond$Buyer;I)V"⟩
abbrev cX6_judge : ByteArray := prog_1_method_39_code
def yX6_judge : MethodName := ⟨RX6, "judge", "(LSensorBond$Reading;LSensorBond$Challenge;)V"⟩
abbrev cX6_letStand : ByteArray := prog_1_method_40_code
def yX6_letStand : MethodName := ⟨RX6, "letStand", "(LSensorBond$Reading;)V"⟩
abbrev cX6_payBack : ByteArray := prog_1_method_41_code
def yX6_payBack : MethodName := ⟨RX6, "payBack", "(LSensorBond$Reading;LSensorBond$Challenge;)V"⟩
abbrev cX6_shareCut : ByteArray := prog_1_method_42_code
def yX6_shareCut : MethodName := ⟨RX6, "shareCut", "(LSensorBond$Reading;LSensorBond$Challenge;)V"⟩
abbrev cX6_payUsers : ByteArray := prog_1_method_43_code
def yX6_payUsers : MethodName := ⟨RX6, "payUsers", "(LSensorBond$Reading;I)I"⟩
abbrev cX6_areNeighbours : ByteArray := prog_1_method_44_code
def yX6_areNeighbours : MethodName := ⟨RX6, "areNeighbours", "(II)Z"⟩
abbrev cX6_countNeighbours : ByteArray := prog_1_method_45_code
def yX6_countNeighbours : MethodName := ⟨RX6, "countNeighbours", "(I)I"⟩
abbrev cX6_weightOf : ByteArray := prog_1_method_46_code
def yX6_weightOf : MethodName := ⟨RX6, "weightOf", "(I)I"⟩
abbrev cX6_signOf : ByteArray := prog_1_method_47_code
def yX6_signOf : MethodName := ⟨RX6, "signOf", "(I)C"⟩
def RX7 : String := "SensorBondModel"
def TX7 : u_T := fun k => match k with
  | 0 => ("SensorBondModel", "tick", "I", false)
  | 1 => ("SensorBondModel", "hangsOn", "[I", true)
  | 2 => ("SensorBondModel", "lossOf", "[I", true)
  | 3 => ("SensorBondModel", "came", "[I", true)
  | 4 => ("SensorBondModel", "gone", "[I", true)
  | 5 => ("SensorBondModel", "attached", "[I", true)
  | 6 => ("SensorBondModel", "bond", "[I", true)
  | 7 => ("SensorBondModel", "earned", "[I", true)
  | 8 => ("SensorBondModel", "price", "[I", true)
  | 9 => ("SensorBondModel", "toldIn", "[I", true)
  | 10 => ("SensorBondModel", "purse", "[I", true)
  | 11 => ("SensorBondModel", "house", "I", false)
  | 12 => ("SensorBondModel", "isOpen", "[Z", true)
  | 13 => ("SensorBondModel", "lastTick", "[I", true)
  | 14 => ("SensorBondModel", "windowPrice", "[I", true)
  | 15 => ("SensorBondModel", "aside", "[I", true)
  | 16 => ("SensorBondModel", "readings", "I", false)
  | 17 => ("SensorBondModel", "by", "[I", true)
  | 18 => ("SensorBondModel", "value", "[I", true)
  | 19 => ("SensorBondModel", "state", "[I", true)
  | 20 => ("SensorBondModel", "passed", "[I", true)
  | 21 => ("SensorBondModel", "since", "[I", true)
  | 22 => ("SensorBondModel", "challenger", "[I", true)
  | 23 => ("SensorBondModel", "held", "[I", true)
  | 24 => ("SensorBondModel", "usedBy", "[I", true)
  | 25 => ("SensorBondModel", "samples", "[I", true)
  | _ => ("SensorBondModel", "thrown", "I", false)
def tyX7 : Nat → FieldType := fun k => match k with
  | 0 => .int
  | 1 => .array .int
  | 2 => .array .int
  | 3 => .array .int
  | 4 => .array .int
  | 5 => .array .int
  | 6 => .array .int
  | 7 => .array .int
  | 8 => .array .int
  | 9 => .array .int
  | 10 => .array .int
  | 11 => .int
  | 12 => .array .boolean
  | 13 => .array .int
  | 14 => .array .int
  | 15 => .array .int
  | 16 => .int
  | 17 => .array .int
  | 18 => .array .int
  | 19 => .array .int
  | 20 => .array .int
  | 21 => .array .int
  | 22 => .array .int
  | 23 => .array .int
  | 24 => .array .int
  | 25 => .array .int
  | _ => .int
abbrev wsX70 : List Cond := u_ws RX7 TX7 27
theorem nmX7 : ∀ a, a < 27 → ∀ b, b < 27 → a ≠ b → (TX7 a).2.1 ≠ (TX7 b).2.1 := by decide +kernel
theorem tyX7_ok : ∀ k, k < 27 → parseFieldDescriptor (TX7 k).2.2.1 = some (tyX7 k) := by decide +kernel
abbrev cX7_init : ByteArray := prog_9_method_1_code
def yX7_init : MethodName := ⟨RX7, "<init>", "()V"⟩
abbrev cX7_thrown : ByteArray := prog_9_method_2_code
def yX7_thrown : MethodName := ⟨RX7, "thrown", "()I"⟩
abbrev cX7_can : ByteArray := prog_9_method_3_code
def yX7_can : MethodName := ⟨RX7, "can", "(I)Z"⟩
abbrev cX7_isIn : ByteArray := prog_9_method_4_code
def yX7_isIn : MethodName := ⟨RX7, "isIn", "(III)Z"⟩
abbrev cX7_isSensor : ByteArray := prog_9_method_5_code
def yX7_isSensor : MethodName := ⟨RX7, "isSensor", "(I)Z"⟩
abbrev cX7_isRepeater : ByteArray := prog_9_method_6_code
def yX7_isRepeater : MethodName := ⟨RX7, "isRepeater", "(I)Z"⟩
abbrev cX7_isBuyer : ByteArray := prog_9_method_7_code
def yX7_isBuyer : MethodName := ⟨RX7, "isBuyer", "(I)Z"⟩
abbrev cX7_isReading : ByteArray := prog_9_method_8_code
def yX7_isReading : MethodName := ⟨RX7, "isReading", "(I)Z"⟩
abbrev cX7_isValue : ByteArray := prog_9_method_9_code
def yX7_isValue : MethodName := ⟨RX7, "isValue", "(I)Z"⟩
abbrev cX7_apart : ByteArray := prog_9_method_10_code
def yX7_apart : MethodName := ⟨RX7, "apart", "(II)I"⟩
abbrev cX7_areNeighbours : ByteArray := prog_9_method_11_code
def yX7_areNeighbours : MethodName := ⟨RX7, "areNeighbours", "(II)Z"⟩
abbrev cX7_neighboursOf : ByteArray := prog_9_method_12_code
def yX7_neighboursOf : MethodName := ⟨RX7, "neighboursOf", "(I)I"⟩
abbrev cX7_hang : ByteArray := prog_9_method_13_code
def yX7_hang : MethodName := ⟨RX7, "hang", "(II)I"⟩
abbrev cX7_attach : ByteArray := prog_9_method_14_code
def yX7_attach : MethodName := ⟨RX7, "attach", "(II)I"⟩
abbrev cX7_setLoss : ByteArray := prog_9_method_15_code
def yX7_setLoss : MethodName := ⟨RX7, "setLoss", "(II)I"⟩
abbrev cX7_setPrice : ByteArray := prog_9_method_16_code
def yX7_setPrice : MethodName := ⟨RX7, "setPrice", "(II)I"⟩
abbrev cX7_topUp : ByteArray := prog_9_method_17_code
def yX7_topUp : MethodName := ⟨RX7, "topUp", "(II)I"⟩
abbrev cX7_goes : ByteArray := prog_9_method_18_code
def yX7_goes : MethodName := ⟨RX7, "goes", "(I)Z"⟩
abbrev cX7_tell : ByteArray := prog_9_method_19_code
def yX7_tell : MethodName := ⟨RX7, "tell", "(II)I"⟩
abbrev cX7_open : ByteArray := prog_9_method_20_code
def yX7_open : MethodName := ⟨RX7, "open", "(III)I"⟩
abbrev cX7_challenge : ByteArray := prog_9_method_21_code
def yX7_challenge : MethodName := ⟨RX7, "challenge", "(II)I"⟩
abbrev cX7_samplesFor : ByteArray := prog_9_method_22_code
def yX7_samplesFor : MethodName := ⟨RX7, "samplesFor", "(I)I"⟩
abbrev cX7_middleOf : ByteArray := prog_9_method_23_code
def yX7_middleOf : MethodName := ⟨RX7, "middleOf", "(I)I"⟩
abbrev cX7_size : ByteArray := prog_9_method_24_code
def yX7_size : MethodName := ⟨RX7, "size", "(I)I"⟩
abbrev cX7_stands : ByteArray := prog_9_method_25_code
def yX7_stands : MethodName := ⟨RX7, "stands", "(I)V"⟩
abbrev cX7_lies : ByteArray := prog_9_method_26_code
def yX7_lies : MethodName := ⟨RX7, "lies", "(I)V"⟩
abbrev cX7_judges : ByteArray := prog_9_method_27_code
def yX7_judges : MethodName := ⟨RX7, "judges", "(I)V"⟩
abbrev cX7_sample : ByteArray := prog_9_method_28_code
def yX7_sample : MethodName := ⟨RX7, "sample", "(III)I"⟩
abbrev cX7_ends : ByteArray := prog_9_method_29_code
def yX7_ends : MethodName := ⟨RX7, "ends", "()V"⟩
abbrev cX7_advance : ByteArray := prog_9_method_30_code
def yX7_advance : MethodName := ⟨RX7, "advance", "(I)I"⟩
abbrev cX7_tick : ByteArray := prog_9_method_31_code
def yX7_tick : MethodName := ⟨RX7, "tick", "()I"⟩
abbrev cX7_readings : ByteArray := prog_9_method_32_code
def yX7_readings : MethodName := ⟨RX7, "readings", "()I"⟩
abbrev cX7_isAsked : ByteArray := prog_9_method_33_code
def yX7_isAsked : MethodName := ⟨RX7, "isAsked", "(I)Z"⟩
abbrev cX7_stateOf : ByteArray := prog_9_method_34_code
def yX7_stateOf : MethodName := ⟨RX7, "stateOf", "(I)I"⟩
abbrev cX7_parts : ByteArray := prog_9_method_35_code
def yX7_parts : MethodName := ⟨RX7, "parts", "(I)I"⟩
abbrev cX7_users : ByteArray := prog_9_method_36_code
def yX7_users : MethodName := ⟨RX7, "users", "(I)I"⟩
abbrev cX7_held : ByteArray := prog_9_method_37_code
def yX7_held : MethodName := ⟨RX7, "held", "(I)I"⟩
abbrev cX7_middle : ByteArray := prog_9_method_38_code
def yX7_middle : MethodName := ⟨RX7, "middle", "(I)I"⟩
abbrev cX7_signOf : ByteArray := prog_9_method_39_code
def yX7_signOf : MethodName := ⟨RX7, "signOf", "(I)I"⟩
abbrev cX7_textAt : ByteArray := prog_9_method_40_code
def yX7_textAt : MethodName := ⟨RX7, "textAt", "(II)I"⟩
abbrev cX7_bond : ByteArray := prog_9_method_41_code
def yX7_bond : MethodName := ⟨RX7, "bond", "(I)I"⟩
abbrev cX7_bondByCuts : ByteArray := prog_9_method_42_code
def yX7_bondByCuts : MethodName := ⟨RX7, "bondByCuts", "(I)I"⟩
abbrev cX7_earned : ByteArray := prog_9_method_43_code
def yX7_earned : MethodName := ⟨RX7, "earned", "(I)I"⟩
abbrev cX7_mark : ByteArray := prog_9_method_44_code
def yX7_mark : MethodName := ⟨RX7, "mark", "(I)I"⟩
abbrev cX7_purse : ByteArray := prog_9_method_45_code
def yX7_purse : MethodName := ⟨RX7, "purse", "(I)I"⟩
abbrev cX7_aside : ByteArray := prog_9_method_46_code
def yX7_aside : MethodName := ⟨RX7, "aside", "(II)I"⟩
abbrev cX7_house : ByteArray := prog_9_method_47_code
def yX7_house : MethodName := ⟨RX7, "house", "()I"⟩
def RJ5 : String := "java/lang/AbstractStringBuilder"
def TJ5 : u_T := fun k => match k with
  | _ => ("", "", "", false)
def tyJ5 : Nat → FieldType := fun k => match k with
  | _ => .int
abbrev wsJ50 : List Cond := u_ws RJ5 TJ5 0
theorem nmJ5 : ∀ a, a < 0 → ∀ b, b < 0 → a ≠ b → (TJ5 a).2.1 ≠ (TJ5 b).2.1 := by decide +kernel
theorem tyJ5_ok : ∀ k, k < 0 → parseFieldDescriptor (TJ5 k).2.2.1 = some (tyJ5 k) := by decide +kernel
abbrev cJ5_init_d00df : ByteArray := prog_10_method_2_code
def yJ5_init_d00df : MethodName := ⟨RJ5, "<init>", "(I)V"⟩
abbrev cJ5_length_8abf5 : ByteArray := prog_10_method_6_code
def yJ5_length_8abf5 : MethodName := ⟨RJ5, "length", "()I"⟩
abbrev cJ5_ensureCapacityInternal_d00df : ByteArray := prog_10_method_9_code
def yJ5_ensureCapacityInternal_d00df : MethodName := ⟨RJ5, "ensureCapacityInternal", "(I)V"⟩
abbrev cJ5_newCapacity_0f7a4 : ByteArray := prog_10_method_10_code
def yJ5_newCapacity_0f7a4 : MethodName := ⟨RJ5, "newCapacity", "(I)I"⟩
abbrev cJ5_inflate_da8c8 : ByteArray := prog_10_method_11_code
def yJ5_inflate_da8c8 : MethodName := ⟨RJ5, "inflate", "()V"⟩
abbrev cJ5_charAt_5068e : ByteArray := prog_10_method_14_code
def yJ5_charAt_5068e : MethodName := ⟨RJ5, "charAt", "(I)C"⟩
abbrev cJ5_append_3fe6f : ByteArray := prog_10_method_31_code
def yJ5_append_3fe6f : MethodName := ⟨RJ5, "append", "(C)Ljava/lang/AbstractStringBuilder;"⟩
abbrev cJ5_append_c97b9 : ByteArray := prog_10_method_32_code
def yJ5_append_c97b9 : MethodName := ⟨RJ5, "append", "(I)Ljava/lang/AbstractStringBuilder;"⟩
abbrev cJ5_isLatin1_aae02 : ByteArray := prog_10_method_68_code
def yJ5_isLatin1_aae02 : MethodName := ⟨RJ5, "isLatin1", "()Z"⟩
def RJx8e188 : String := "java/lang/Cloneable"
def TJx8e188 : u_T := fun k => match k with
  | _ => ("", "", "", false)
def tyJx8e188 : Nat → FieldType := fun k => match k with
  | _ => .int
abbrev wsJx8e1880 : List Cond := u_ws RJx8e188 TJx8e188 0
theorem nmJx8e188 : ∀ a, a < 0 → ∀ b, b < 0 → a ≠ b → (TJx8e188 a).2.1 ≠ (TJx8e188 b).2.1 := by decide +kernel
theorem tyJx8e188_ok : ∀ k, k < 0 → parseFieldDescriptor (TJx8e188 k).2.2.1 = some (tyJx8e188 k) := by decide +kernel
def RJ6 : String := "java/lang/Integer"
def TJ6 : u_T := fun k => match k with
  | _ => ("", "", "", false)
def tyJ6 : Nat → FieldType := fun k => match k with
  | _ => .int
abbrev wsJ60 : List Cond := u_ws RJ6 TJ6 0
theorem nmJ6 : ∀ a, a < 0 → ∀ b, b < 0 → a ≠ b → (TJ6 a).2.1 ≠ (TJ6 b).2.1 := by decide +kernel
theorem tyJ6_ok : ∀ k, k < 0 → parseFieldDescriptor (TJ6 k).2.2.1 = some (tyJ6 k) := by decide +kernel
abbrev cJ6_getChars_ba4f3 : ByteArray := prog_16_method_12_code
def yJ6_getChars_ba4f3 : MethodName := ⟨RJ6, "getChars", "(II[B)I"⟩
abbrev cJ6_stringSize_0f7a4 : ByteArray := prog_16_method_13_code
def yJ6_stringSize_0f7a4 : MethodName := ⟨RJ6, "stringSize", "(I)I"⟩
def RJ9 : String := "java/lang/Math"
def TJ9 : u_T := fun k => match k with
  | _ => ("", "", "", false)
def tyJ9 : Nat → FieldType := fun k => match k with
  | _ => .int
abbrev wsJ90 : List Cond := u_ws RJ9 TJ9 0
theorem nmJ9 : ∀ a, a < 0 → ∀ b, b < 0 → a ≠ b → (TJ9 a).2.1 ≠ (TJ9 b).2.1 := by decide +kernel
theorem tyJ9_ok : ∀ k, k < 0 → parseFieldDescriptor (TJ9 k).2.2.1 = some (tyJ9 k) := by decide +kernel
abbrev cJ9_abs_0f7a4 : ByteArray := prog_17_method_59_code
def yJ9_abs_0f7a4 : MethodName := ⟨RJ9, "abs", "(I)I"⟩
abbrev cJ9_max_7cf53 : ByteArray := prog_17_method_65_code
def yJ9_max_7cf53 : MethodName := ⟨RJ9, "max", "(II)I"⟩
abbrev cJ9_min_7cf53 : ByteArray := prog_17_method_69_code
def yJ9_min_7cf53 : MethodName := ⟨RJ9, "min", "(II)I"⟩
def RJ0 : String := "java/lang/String"
def TJ0 : u_T := fun k => match k with
  | _ => ("", "", "", false)
def tyJ0 : Nat → FieldType := fun k => match k with
  | _ => .int
abbrev wsJ00 : List Cond := u_ws RJ0 TJ0 0
theorem nmJ0 : ∀ a, a < 0 → ∀ b, b < 0 → a ≠ b → (TJ0 a).2.1 ≠ (TJ0 b).2.1 := by decide +kernel
theorem tyJ0_ok : ∀ k, k < 0 → parseFieldDescriptor (TJ0 k).2.2.1 = some (tyJ0 k) := by decide +kernel
abbrev cJ0_checkIndex_df160 : ByteArray := prog_19_method_155_code
def yJ0_checkIndex_df160 : MethodName := ⟨RJ0, "checkIndex", "(II)V"⟩
abbrev cJ0_checkBoundsOffCount_cabcc : ByteArray := prog_19_method_157_code
def yJ0_checkBoundsOffCount_cabcc : MethodName := ⟨RJ0, "checkBoundsOffCount", "(III)I"⟩
abbrev cJ0_checkBoundsBeginEnd_23922 : ByteArray := prog_19_method_158_code
def yJ0_checkBoundsBeginEnd_23922 : MethodName := ⟨RJ0, "checkBoundsBeginEnd", "(III)V"⟩
def RJ4 : String := "java/lang/StringBuilder"
def TJ4 : u_T := fun k => match k with
  | 0 => ("java/lang/AbstractStringBuilder", "value", "[B", false)
  | 1 => ("java/lang/AbstractStringBuilder", "coder", "B", false)
  | 2 => ("java/lang/AbstractStringBuilder", "maybeLatin1", "Z", false)
  | _ => ("java/lang/AbstractStringBuilder", "count", "I", false)
def tyJ4 : Nat → FieldType := fun k => match k with
  | 0 => .array .byte
  | 1 => .byte
  | 2 => .boolean
  | _ => .int
abbrev wsJ40 : List Cond := u_ws RJ4 TJ4 4
theorem nmJ4 : ∀ a, a < 4 → ∀ b, b < 4 → a ≠ b → (TJ4 a).2.1 ≠ (TJ4 b).2.1 := by decide +kernel
theorem tyJ4_ok : ∀ k, k < 4 → parseFieldDescriptor (TJ4 k).2.2.1 = some (tyJ4 k) := by decide +kernel
abbrev cJ4_init_da8c8 : ByteArray := prog_20_method_1_code
def yJ4_init_da8c8 : MethodName := ⟨RJ4, "<init>", "()V"⟩
abbrev cJ4_append_cf468 : ByteArray := prog_20_method_14_code
def yJ4_append_cf468 : MethodName := ⟨RJ4, "append", "(C)Ljava/lang/StringBuilder;"⟩
abbrev cJ4_append_bf812 : ByteArray := prog_20_method_15_code
def yJ4_append_bf812 : MethodName := ⟨RJ4, "append", "(I)Ljava/lang/StringBuilder;"⟩
abbrev cJ4_charAt_5068e : ByteArray := prog_20_method_88_code
def yJ4_charAt_5068e : MethodName := ⟨RJ4, "charAt", "(I)C"⟩
abbrev cJ4_length_8abf5 : ByteArray := prog_20_method_93_code
def yJ4_length_8abf5 : MethodName := ⟨RJ4, "length", "()I"⟩
def RJ1 : String := "java/lang/StringLatin1"
def TJ1 : u_T := fun k => match k with
  | _ => ("", "", "", false)
def tyJ1 : Nat → FieldType := fun k => match k with
  | _ => .int
abbrev wsJ10 : List Cond := u_ws RJ1 TJ1 0
theorem nmJ1 : ∀ a, a < 0 → ∀ b, b < 0 → a ≠ b → (TJ1 a).2.1 ≠ (TJ1 b).2.1 := by decide +kernel
theorem tyJ1_ok : ∀ k, k < 0 → parseFieldDescriptor (TJ1 k).2.2.1 = some (tyJ1 k) := by decide +kernel
abbrev cJ1_canEncode_fc78d : ByteArray := prog_21_method_3_code
def yJ1_canEncode_fc78d : MethodName := ⟨RJ1, "canEncode", "(C)Z"⟩
abbrev cJ1_inflate_0e8fd : ByteArray := prog_21_method_50_code
def yJ1_inflate_0e8fd : MethodName := ⟨RJ1, "inflate", "([BI[BII)V"⟩
def RJ2 : String := "java/lang/StringUTF16"
def TJ2 : u_T := fun k => match k with
  | _ => ("", "", "", false)
def tyJ2 : Nat → FieldType := fun k => match k with
  | _ => .int
abbrev wsJ20 : List Cond := u_ws RJ2 TJ2 0
theorem nmJ2 : ∀ a, a < 0 → ∀ b, b < 0 → a ≠ b → (TJ2 a).2.1 ≠ (TJ2 b).2.1 := by decide +kernel
theorem tyJ2_ok : ∀ k, k < 0 → parseFieldDescriptor (TJ2 k).2.2.1 = some (tyJ2 k) := by decide +kernel
abbrev cJ2_newBytesFor_77867 : ByteArray := prog_22_method_2_code
def yJ2_newBytesFor_77867 : MethodName := ⟨RJ2, "newBytesFor", "(I)[B"⟩
abbrev cJ2_newBytesLength_0f7a4 : ByteArray := prog_22_method_3_code
def yJ2_newBytesLength_0f7a4 : MethodName := ⟨RJ2, "newBytesLength", "(I)I"⟩
abbrev cJ2_putChar_b72d1 : ByteArray := prog_22_method_4_code
def yJ2_putChar_b72d1 : MethodName := ⟨RJ2, "putChar", "([BII)V"⟩
abbrev cJ2_getChar_3b067 : ByteArray := prog_22_method_5_code
def yJ2_getChar_3b067 : MethodName := ⟨RJ2, "getChar", "([BI)C"⟩
abbrev cJ2_length_9d52b : ByteArray := prog_22_method_6_code
def yJ2_length_9d52b : MethodName := ⟨RJ2, "length", "([B)I"⟩
abbrev cJ2_putCharSB_b72d1 : ByteArray := prog_22_method_71_code
def yJ2_putCharSB_b72d1 : MethodName := ⟨RJ2, "putCharSB", "([BII)V"⟩
abbrev cJ2_getChars_46870 : ByteArray := prog_22_method_77_code
def yJ2_getChars_46870 : MethodName := ⟨RJ2, "getChars", "(III[B)I"⟩
abbrev cJ2_inflate_0e8fd : ByteArray := prog_22_method_86_code
def yJ2_inflate_0e8fd : MethodName := ⟨RJ2, "inflate", "([BI[BII)V"⟩
abbrev cJ2_getChars_ba4f3 : ByteArray := prog_22_method_89_code
def yJ2_getChars_ba4f3 : MethodName := ⟨RJ2, "getChars", "(II[B)I"⟩
abbrev cJ2_checkIndex_2214a : ByteArray := prog_22_method_91_code
def yJ2_checkIndex_2214a : MethodName := ⟨RJ2, "checkIndex", "(I[B)V"⟩
abbrev cJ2_checkBoundsBeginEnd_d044e : ByteArray := prog_22_method_93_code
def yJ2_checkBoundsBeginEnd_d044e : MethodName := ⟨RJ2, "checkBoundsBeginEnd", "(II[B)V"⟩
abbrev cJ2_checkBoundsOffCount_d044e : ByteArray := prog_22_method_94_code
def yJ2_checkBoundsOffCount_d044e : MethodName := ⟨RJ2, "checkBoundsOffCount", "(II[B)V"⟩
def RJ10 : String := "java/lang/System"
def TJ10 : u_T := fun k => match k with
  | _ => ("", "", "", false)
def tyJ10 : Nat → FieldType := fun k => match k with
  | _ => .int
abbrev wsJ100 : List Cond := u_ws RJ10 TJ10 0
theorem nmJ10 : ∀ a, a < 0 → ∀ b, b < 0 → a ≠ b → (TJ10 a).2.1 ≠ (TJ10 b).2.1 := by decide +kernel
theorem tyJ10_ok : ∀ k, k < 0 → parseFieldDescriptor (TJ10 k).2.2.1 = some (tyJ10 k) := by decide +kernel
def RJ7 : String := "java/util/Arrays"
def TJ7 : u_T := fun k => match k with
  | _ => ("", "", "", false)
def tyJ7 : Nat → FieldType := fun k => match k with
  | _ => .int
abbrev wsJ70 : List Cond := u_ws RJ7 TJ7 0
theorem nmJ7 : ∀ a, a < 0 → ∀ b, b < 0 → a ≠ b → (TJ7 a).2.1 ≠ (TJ7 b).2.1 := by decide +kernel
theorem tyJ7_ok : ∀ k, k < 0 → parseFieldDescriptor (TJ7 k).2.2.1 = some (tyJ7 k) := by decide +kernel
abbrev cJ7_copyOf_9075b : ByteArray := prog_25_method_121_code
def yJ7_copyOf_9075b : MethodName := ⟨RJ7, "copyOf", "([BI)[B"⟩
def RJ8 : String := "jdk/internal/util/ArraysSupport"
def TJ8 : u_T := fun k => match k with
  | _ => ("", "", "", false)
def tyJ8 : Nat → FieldType := fun k => match k with
  | _ => .int
abbrev wsJ80 : List Cond := u_ws RJ8 TJ8 0
theorem nmJ8 : ∀ a, a < 0 → ∀ b, b < 0 → a ≠ b → (TJ8 a).2.1 ≠ (TJ8 b).2.1 := by decide +kernel
theorem tyJ8_ok : ∀ k, k < 0 → parseFieldDescriptor (TJ8 k).2.2.1 = some (tyJ8 k) := by decide +kernel
abbrev cJ8_newLength_cabcc : ByteArray := prog_26_method_27_code
def yJ8_newLength_cabcc : MethodName := ⟨RJ8, "newLength", "(III)I"⟩
abbrev cJ8_hugeLength_7cf53 : ByteArray := prog_26_method_28_code
def yJ8_hugeLength_7cf53 : MethodName := ⟨RJ8, "hugeLength", "(II)I"⟩
def RJ3 : String := "jdk/internal/util/Preconditions"
def TJ3 : u_T := fun k => match k with
  | _ => ("", "", "", false)
def tyJ3 : Nat → FieldType := fun k => match k with
  | _ => .int
abbrev wsJ30 : List Cond := u_ws RJ3 TJ3 0
theorem nmJ3 : ∀ a, a < 0 → ∀ b, b < 0 → a ≠ b → (TJ3 a).2.1 ≠ (TJ3 b).2.1 := by decide +kernel
theorem tyJ3_ok : ∀ k, k < 0 → parseFieldDescriptor (TJ3 k).2.2.1 = some (tyJ3 k) := by decide +kernel
abbrev cJ3_checkIndex_8e157 : ByteArray := prog_27_method_11_code
def yJ3_checkIndex_8e157 : MethodName := ⟨RJ3, "checkIndex", "(IILjava/util/function/BiFunction;)I"⟩
abbrev cJ3_checkFromToIndex_8c36e : ByteArray := prog_27_method_12_code
def yJ3_checkFromToIndex_8c36e : MethodName := ⟨RJ3, "checkFromToIndex", "(IIILjava/util/function/BiFunction;)I"⟩
abbrev cJ3_checkFromIndexSize_8c36e : ByteArray := prog_27_method_13_code
def yJ3_checkFromIndexSize_8c36e : MethodName := ⟨RJ3, "checkFromIndexSize", "(IIILjava/util/function/BiFunction;)I"⟩
def RL : String := "SensorBondLaw"
abbrev cL_hang : ByteArray := method_3_code
def yL_hang : MethodName := ⟨RL, "hang", "(LSensorBond;II[J)I"⟩
abbrev cL_attach : ByteArray := method_4_code
def yL_attach : MethodName := ⟨RL, "attach", "(LSensorBond;II[J)I"⟩
abbrev cL_setLoss : ByteArray := method_5_code
def yL_setLoss : MethodName := ⟨RL, "setLoss", "(LSensorBond;II[J)I"⟩
abbrev cL_setPrice : ByteArray := method_6_code
def yL_setPrice : MethodName := ⟨RL, "setPrice", "(LSensorBond;II[J)I"⟩
abbrev cL_topUp : ByteArray := method_7_code
def yL_topUp : MethodName := ⟨RL, "topUp", "(LSensorBond;II[J)I"⟩
abbrev cL_tell : ByteArray := method_8_code
def yL_tell : MethodName := ⟨RL, "tell", "(LSensorBond;II[J)I"⟩
abbrev cL_open : ByteArray := method_9_code
def yL_open : MethodName := ⟨RL, "open", "(LSensorBond;III[J)I"⟩
abbrev cL_challenge : ByteArray := method_10_code
def yL_challenge : MethodName := ⟨RL, "challenge", "(LSensorBond;II[J)I"⟩
abbrev cL_sample : ByteArray := method_11_code
def yL_sample : MethodName := ⟨RL, "sample", "(LSensorBond;III[J)I"⟩
abbrev cL_advance : ByteArray := method_12_code
def yL_advance : MethodName := ⟨RL, "advance", "(LSensorBond;I[J)I"⟩
abbrev cL_stateOf : ByteArray := method_13_code
def yL_stateOf : MethodName := ⟨RL, "stateOf", "(LSensorBond;I[J)I"⟩
abbrev cL_parts : ByteArray := method_14_code
def yL_parts : MethodName := ⟨RL, "parts", "(LSensorBond;I[J)I"⟩
abbrev cL_users : ByteArray := method_15_code
def yL_users : MethodName := ⟨RL, "users", "(LSensorBond;I[J)I"⟩
abbrev cL_held : ByteArray := method_16_code
def yL_held : MethodName := ⟨RL, "held", "(LSensorBond;I[J)I"⟩
abbrev cL_middle : ByteArray := method_17_code
def yL_middle : MethodName := ⟨RL, "middle", "(LSensorBond;I[J)I"⟩
abbrev cL_textAt : ByteArray := method_18_code
def yL_textAt : MethodName := ⟨RL, "textAt", "(LSensorBond;II[J)I"⟩
abbrev cL_bond : ByteArray := method_19_code
def yL_bond : MethodName := ⟨RL, "bond", "(LSensorBond;I[J)I"⟩
abbrev cL_bondByCuts : ByteArray := method_20_code
def yL_bondByCuts : MethodName := ⟨RL, "bondByCuts", "(LSensorBond;I[J)I"⟩
abbrev cL_earned : ByteArray := method_21_code
def yL_earned : MethodName := ⟨RL, "earned", "(LSensorBond;I[J)I"⟩
abbrev cL_mark : ByteArray := method_22_code
def yL_mark : MethodName := ⟨RL, "mark", "(LSensorBond;I[J)I"⟩
abbrev cL_purse : ByteArray := method_23_code
def yL_purse : MethodName := ⟨RL, "purse", "(LSensorBond;I[J)I"⟩
abbrev cL_aside : ByteArray := method_24_code
def yL_aside : MethodName := ⟨RL, "aside", "(LSensorBond;II[J)I"⟩
abbrev cL_law : ByteArray := code
def yL_law : MethodName := ⟨RL, "law", "([I)Z"⟩
def wsX0_init : List Cond := .code yX0_init cX0_init 1 none :: ([.methodLink RX0 3 objectInit, .instanceMethod objectInit, .code objectInit ⟨#[0xb1]⟩ 1 none, .fieldLink RX0 9 "SensorBond$Buyer" "purse" "I", .classLink RX0 15 RX5, .fieldLink RX0 17 "SensorBond$Buyer" "windows" "[LSensorBond$Window;"] ++ wsX00)
def wsX1_init : List Cond := .code yX1_init cX1_init 2 none :: ([.methodLink RX1 3 objectInit, .instanceMethod objectInit, .code objectInit ⟨#[0xb1]⟩ 1 none, .arrayClass .int, .fieldLink RX1 9 "SensorBond$Challenge" "samples" "[I", .fieldLink RX1 15 "SensorBond$Challenge" "count" "I", .fieldLink RX1 19 "SensorBond$Challenge" "givers" "I", .fieldLink RX1 22 "SensorBond$Challenge" "challenger" "LSensorBond$Buyer;"] ++ wsX10)
def wsX1_hasSampleOf : List Cond := .code yX1_hasSampleOf cX1_hasSampleOf 2 (some .boolean) :: ([.fieldLink RX1 19 "SensorBond$Challenge" "givers" "I"] ++ wsX10 ++ wsX40)
def wsX1_addSample : List Cond := .code yX1_addSample cX1_addSample 4 none :: ([.fieldLink RX1 15 "SensorBond$Challenge" "count" "I", .fieldLink RX1 9 "SensorBond$Challenge" "samples" "[I", .fieldLink RX1 19 "SensorBond$Challenge" "givers" "I"] ++ wsX10 ++ wsX40)
def wsX1_findMiddle : List Cond := .code yX1_findMiddle cX1_findMiddle 1 (some .int) :: ([.fieldLink RX1 15 "SensorBond$Challenge" "count" "I", .fieldLink RX1 9 "SensorBond$Challenge" "samples" "[I"] ++ wsX10)
def wsX1_refutes : List Cond := .code yX1_refutes cX1_refutes 2 (some .boolean) :: ([.fieldLink RX1 15 "SensorBond$Challenge" "count" "I", .methodLink RX1 35 Lib.Math.abs.name, .static Lib.Math.abs.name, .initialized "java/lang/Math", .code Lib.Math.abs.name Lib.Math.abs.code 1 (some .int), .methodLink RX1 31 yX1_findMiddle, .instanceMethod yX1_findMiddle, .selects RX1 yX1_findMiddle yX1_findMiddle, .initialized RX1, .code yX1_findMiddle cX1_findMiddle 1 (some .int), .fieldLink RX1 9 "SensorBond$Challenge" "samples" "[I"] ++ wsX10)
def wsX2_init : List Cond := .code yX2_init cX2_init 4 none :: ([.methodLink RX2 3 objectInit, .instanceMethod objectInit, .code objectInit ⟨#[0xb1]⟩ 1 none, .fieldLink RX2 9 "SensorBond$Reading" "due" "I", .arrayClass .int, .fieldLink RX2 15 "SensorBond$Reading" "paid" "[I", .fieldLink RX2 19 "SensorBond$Reading" "users" "I", .fieldLink RX2 22 "SensorBond$Reading" "held" "I", .fieldLink RX2 25 "SensorBond$Reading" "cut" "I", .fieldLink RX2 28 "SensorBond$Reading" "challenge" "LSensorBond$Challenge;", .fieldLink RX2 32 "SensorBond$Reading" "sensor" "LSensorBond$Sensor;", .fieldLink RX2 36 "SensorBond$Reading" "value" "I", .fieldLink RX2 39 "SensorBond$Reading" "parts" "I", .fieldLink RX2 42 "SensorBond$Reading" "state" "I"] ++ wsX20)
def wsX2_isOpen : List Cond := .code yX2_isOpen cX2_isOpen 1 (some .boolean) :: ([.fieldLink RX2 42 "SensorBond$Reading" "state" "I"] ++ wsX20)
def wsX3_init : List Cond := .code yX3_init cX3_init 3 none :: ([.methodLink RX3 1 objectInit, .instanceMethod objectInit, .code objectInit ⟨#[0xb1]⟩ 1 none, .fieldLink RX3 7 "SensorBond$Repeater" "lossEvery" "I", .fieldLink RX3 13 "SensorBond$Repeater" "come" "I", .fieldLink RX3 16 "SensorBond$Repeater" "number" "I", .fieldLink RX3 19 "SensorBond$Repeater" "on" "LSensorBond$Repeater;"] ++ wsX30)
def wsX3_losesNext : List Cond := .code yX3_losesNext cX3_losesNext 1 (some .boolean) :: ([.fieldLink RX3 13 "SensorBond$Repeater" "come" "I", .fieldLink RX3 7 "SensorBond$Repeater" "lossEvery" "I"] ++ wsX30)
def wsX3_countLost : List Cond := .code yX3_countLost cX3_countLost 1 (some .int) :: ([.fieldLink RX3 7 "SensorBond$Repeater" "lossEvery" "I", .fieldLink RX3 13 "SensorBond$Repeater" "come" "I"] ++ wsX30)
def wsX4_init : List Cond := .code yX4_init cX4_init 3 none :: ([.methodLink RX4 3 objectInit, .instanceMethod objectInit, .code objectInit ⟨#[0xb1]⟩ 1 none, .fieldLink RX4 9 "SensorBond$Sensor" "price" "I", .fieldLink RX4 15 "SensorBond$Sensor" "bond" "I", .fieldLink RX4 18 "SensorBond$Sensor" "purse" "I", .fieldLink RX4 21 "SensorBond$Sensor" "put" "I", .fieldLink RX4 24 "SensorBond$Sensor" "lastTold" "I", .fieldLink RX4 27 "SensorBond$Sensor" "number" "I", .fieldLink RX4 30 "SensorBond$Sensor" "repeater" "LSensorBond$Repeater;"] ++ wsX40)
def wsX5_init : List Cond := .code yX5_init cX5_init 4 none :: ([.methodLink RX5 1 objectInit, .instanceMethod objectInit, .code objectInit ⟨#[0xb1]⟩ 1 none, .fieldLink RX5 7 "SensorBond$Window" "price" "I", .fieldLink RX5 13 "SensorBond$Window" "left" "I", .fieldLink RX5 16 "SensorBond$Window" "last" "I"] ++ wsX50)
def wsX6_init_r1 : List Cond := [Cond.methodLink RX6 1 objectInit, Cond.instanceMethod objectInit, Cond.code objectInit ⟨#[0xb1]⟩ 1 none, Cond.classLink RX6 9 RX3, Cond.fieldLink RX6 11 "SensorBond" "repeaters" "[LSensorBond$Repeater;", Cond.classLink RX6 15 RX4, Cond.fieldLink RX6 17 "SensorBond" "sensors" "[LSensorBond$Sensor;", Cond.classLink RX6 21 RX0, Cond.fieldLink RX6 23 "SensorBond" "buyers" "[LSensorBond$Buyer;", Cond.classLink RX6 27 RX2, Cond.fieldLink RX6 29 "SensorBond" "readings" "[LSensorBond$Reading;", Cond.fieldLink RX6 33 "SensorBond" "readingCount" "I", Cond.fieldLink RX6 37 "SensorBond" "house" "I", Cond.fieldLink RX6 40 "SensorBond" "tick" "I", Cond.fieldLink RX6 43 "SensorBond" "busyUntil" "I", Cond.instantiable RX3 4, Cond.initialized RX3, Cond.instantiable RX4 7, Cond.initialized RX4, Cond.instantiable RX0 2, Cond.initialized RX0, Cond.instanceMethod yX3_init, Cond.code yX3_init cX3_init 3 none, Cond.methodLink RX3 1 objectInit]
def wsX6_init_r2 : List Cond := [Cond.fieldLink RX3 7 "SensorBond$Repeater" "lossEvery" "I", Cond.fieldLink RX3 13 "SensorBond$Repeater" "come" "I", Cond.fieldLink RX3 16 "SensorBond$Repeater" "number" "I", Cond.fieldLink RX3 19 "SensorBond$Repeater" "on" "LSensorBond$Repeater;", Cond.instanceMethod yX4_init, Cond.code yX4_init cX4_init 3 none, Cond.methodLink RX4 3 objectInit, Cond.fieldLink RX4 9 "SensorBond$Sensor" "price" "I", Cond.fieldLink RX4 15 "SensorBond$Sensor" "bond" "I", Cond.fieldLink RX4 18 "SensorBond$Sensor" "purse" "I", Cond.fieldLink RX4 21 "SensorBond$Sensor" "put" "I", Cond.fieldLink RX4 24 "SensorBond$Sensor" "lastTold" "I", Cond.fieldLink RX4 27 "SensorBond$Sensor" "number" "I", Cond.fieldLink RX4 30 "SensorBond$Sensor" "repeater" "LSensorBond$Repeater;", Cond.instanceMethod yX0_init, Cond.code yX0_init cX0_init 1 none, Cond.methodLink RX0 3 objectInit, Cond.fieldLink RX0 9 "SensorBond$Buyer" "purse" "I", Cond.classLink RX0 15 RX5, Cond.fieldLink RX0 17 "SensorBond$Buyer" "windows" "[LSensorBond$Window;"]
def wsX6_init : List Cond := .code yX6_init cX6_init 3 none :: ((wsX6_init_r1 ++ wsX6_init_r2) ++ wsX60 ++ wsX30 ++ wsX40 ++ wsX00)
def wsX6_repeaterAt : List Cond := .code yX6_repeaterAt cX6_repeaterAt 2 (some (.object "SensorBond$Repeater")) :: ([.classLink RX6 59 "java/lang/IndexOutOfBoundsException", .initialized "java/lang/IndexOutOfBoundsException", .fieldLink RX6 11 "SensorBond" "repeaters" "[LSensorBond$Repeater;"] ++ wsX60 ++ (vx_atS RX6 63 "java/lang/IndexOutOfBoundsException" ["java/lang/RuntimeException", "java/lang/Exception"]).filter goodWord)
def wsX6_hang : List Cond := .code yX6_hang cX6_hang 6 (some .int) :: ([.classLink RX6 59 "java/lang/IndexOutOfBoundsException", .initialized "java/lang/IndexOutOfBoundsException", .methodLink RX6 51 yX6_repeaterAt, .instanceMethod yX6_repeaterAt, .selects RX6 yX6_repeaterAt yX6_repeaterAt, .initialized RX6, .code yX6_repeaterAt cX6_repeaterAt 2 (some (.object "SensorBond$Repeater")), .fieldLink RX6 11 "SensorBond" "repeaters" "[LSensorBond$Repeater;"] ++ wsX30 ++ wsX60 ++ (vx_atS RX6 63 "java/lang/IndexOutOfBoundsException" ["java/lang/RuntimeException", "java/lang/Exception"]).filter goodWord)
def wsX6_sensorAt : List Cond := .code yX6_sensorAt cX6_sensorAt 2 (some (.object "SensorBond$Sensor")) :: ([.classLink RX6 59 "java/lang/IndexOutOfBoundsException", .initialized "java/lang/IndexOutOfBoundsException", .fieldLink RX6 17 "SensorBond" "sensors" "[LSensorBond$Sensor;"] ++ wsX60 ++ (vx_atS RX6 63 "java/lang/IndexOutOfBoundsException" ["java/lang/RuntimeException", "java/lang/Exception"]).filter goodWord)
def wsX6_attach : List Cond := .code yX6_attach cX6_attach 6 (some .int) :: ([.methodLink RX6 69 yX6_sensorAt, .instanceMethod yX6_sensorAt, .selects RX6 yX6_sensorAt yX6_sensorAt, .initialized RX6, .code yX6_sensorAt cX6_sensorAt 2 (some (.object "SensorBond$Sensor")), .classLink RX6 59 "java/lang/IndexOutOfBoundsException", .initialized "java/lang/IndexOutOfBoundsException", .fieldLink RX6 17 "SensorBond" "sensors" "[LSensorBond$Sensor;", .methodLink RX6 51 yX6_repeaterAt, .instanceMethod yX6_repeaterAt, .selects RX6 yX6_repeaterAt yX6_repeaterAt, .code yX6_repeaterAt cX6_repeaterAt 2 (some (.object "SensorBond$Repeater")), .fieldLink RX6 11 "SensorBond" "repeaters" "[LSensorBond$Repeater;"] ++ wsX40 ++ wsX30 ++ wsX60 ++ (vx_atS RX6 63 "java/lang/IndexOutOfBoundsException" ["java/lang/RuntimeException", "java/lang/Exception"]).filter goodWord)
def wsX6_checkWithin : List Cond := .code yX6_checkWithin cX6_checkWithin 3 none :: ([.classLink RX6 93 "java/lang/IllegalArgumentException", .initialized "java/lang/IllegalArgumentException"] ++ (vx_atS RX6 97 "java/lang/IllegalArgumentException" ["java/lang/RuntimeException", "java/lang/Exception"]).filter goodWord)
def wsX6_setLoss : List Cond := .code yX6_setLoss cX6_setLoss 5 (some .int) :: ([.methodLink RX6 51 yX6_repeaterAt, .instanceMethod yX6_repeaterAt, .selects RX6 yX6_repeaterAt yX6_repeaterAt, .initialized RX6, .code yX6_repeaterAt cX6_repeaterAt 2 (some (.object "SensorBond$Repeater")), .classLink RX6 59 "java/lang/IndexOutOfBoundsException", .initialized "java/lang/IndexOutOfBoundsException", .fieldLink RX6 11 "SensorBond" "repeaters" "[LSensorBond$Repeater;", .methodLink RX6 76 yX6_checkWithin, .static yX6_checkWithin, .code yX6_checkWithin cX6_checkWithin 3 none, .classLink RX6 93 "java/lang/IllegalArgumentException", .initialized "java/lang/IllegalArgumentException", .instanceMethod yX3_countLost, .initialized RX3, .selects RX3 yX3_countLost yX3_countLost, .code yX3_countLost cX3_countLost 1 (some .int), .fieldLink RX3 7 "SensorBond$Repeater" "lossEvery" "I", .fieldLink RX3 13 "SensorBond$Repeater" "come" "I"] ++ wsX30 ++ wsX60 ++ (vx_atS RX6 63 "java/lang/IndexOutOfBoundsException" ["java/lang/RuntimeException", "java/lang/Exception"]).filter goodWord ++ (vx_atS RX6 97 "java/lang/IllegalArgumentException" ["java/lang/RuntimeException", "java/lang/Exception"]).filter goodWord)
def wsX6_setPrice : List Cond := .code yX6_setPrice cX6_setPrice 5 (some .int) :: ([.methodLink RX6 69 yX6_sensorAt, .instanceMethod yX6_sensorAt, .selects RX6 yX6_sensorAt yX6_sensorAt, .initialized RX6, .code yX6_sensorAt cX6_sensorAt 2 (some (.object "SensorBond$Sensor")), .classLink RX6 59 "java/lang/IndexOutOfBoundsException", .initialized "java/lang/IndexOutOfBoundsException", .fieldLink RX6 17 "SensorBond" "sensors" "[LSensorBond$Sensor;", .methodLink RX6 76 yX6_checkWithin, .static yX6_checkWithin, .code yX6_checkWithin cX6_checkWithin 3 none, .classLink RX6 93 "java/lang/IllegalArgumentException", .initialized "java/lang/IllegalArgumentException"] ++ wsX40 ++ wsX60 ++ (vx_atS RX6 63 "java/lang/IndexOutOfBoundsException" ["java/lang/RuntimeException", "java/lang/Exception"]).filter goodWord ++ (vx_atS RX6 97 "java/lang/IllegalArgumentException" ["java/lang/RuntimeException", "java/lang/Exception"]).filter goodWord)
def wsX6_topUp : List Cond := .code yX6_topUp cX6_topUp 4 (some .int) :: ([.classLink RX6 93 "java/lang/IllegalArgumentException", .initialized "java/lang/IllegalArgumentException", .classLink RX6 101 "java/lang/IllegalStateException", .initialized "java/lang/IllegalStateException", .methodLink RX6 69 yX6_sensorAt, .instanceMethod yX6_sensorAt, .selects RX6 yX6_sensorAt yX6_sensorAt, .initialized RX6, .code yX6_sensorAt cX6_sensorAt 2 (some (.object "SensorBond$Sensor")), .classLink RX6 59 "java/lang/IndexOutOfBoundsException", .initialized "java/lang/IndexOutOfBoundsException", .fieldLink RX6 17 "SensorBond" "sensors" "[LSensorBond$Sensor;"] ++ wsX40 ++ wsX60 ++ (vx_atS RX6 97 "java/lang/IllegalArgumentException" ["java/lang/RuntimeException", "java/lang/Exception"]).filter goodWord ++ (vx_atS RX6 105 "java/lang/IllegalStateException" ["java/lang/RuntimeException", "java/lang/Exception"]).filter goodWord ++ (vx_atS RX6 63 "java/lang/IndexOutOfBoundsException" ["java/lang/RuntimeException", "java/lang/Exception"]).filter goodWord)
def wsX6_passesHub : List Cond := .code yX6_passesHub cX6_passesHub 2 (some .boolean) :: ([.instanceMethod yX3_losesNext, .initialized RX3, .selects RX3 yX3_losesNext yX3_losesNext, .code yX3_losesNext cX3_losesNext 1 (some .boolean), .fieldLink RX3 13 "SensorBond$Repeater" "come" "I", .fieldLink RX3 7 "SensorBond$Repeater" "lossEvery" "I"] ++ wsX30)
def wsX6_sendParts : List Cond := .code yX6_sendParts cX6_sendParts 3 (some .int) :: ([.methodLink RX6 262 yX6_passesHub, .static yX6_passesHub, .initialized RX6, .code yX6_passesHub cX6_passesHub 2 (some .boolean), .instanceMethod yX3_losesNext, .initialized RX3, .selects RX3 yX3_losesNext yX3_losesNext, .code yX3_losesNext cX3_losesNext 1 (some .boolean), .fieldLink RX3 13 "SensorBond$Repeater" "come" "I", .fieldLink RX3 7 "SensorBond$Repeater" "lossEvery" "I"] ++ wsX40 ++ wsX30)
def wsX6_waitFor : List Cond := .code yX6_waitFor cX6_waitFor 2 none :: ([.fieldLink RX6 40 "SensorBond" "tick" "I", .fieldLink RX6 43 "SensorBond" "busyUntil" "I", .methodLink RX6 149 Lib.Math.max.name, .static Lib.Math.max.name, .initialized "java/lang/Math", .code Lib.Math.max.name Lib.Math.max.code 2 (some .int)] ++ wsX60 ++ wsX20)
def wsX6_letWindowsUse : List Cond := .code yX6_letWindowsUse cX6_letWindowsUse 5 none :: ([.fieldLink RX6 23 "SensorBond" "buyers" "[LSensorBond$Buyer;"] ++ wsX20 ++ wsX40 ++ wsX60 ++ wsX00 ++ wsX50)
def wsX6_tell_r1 : List Cond := [Cond.classLink RX6 101 "java/lang/IllegalStateException", Cond.initialized "java/lang/IllegalStateException", Cond.fieldLink RX6 40 "SensorBond" "tick" "I", Cond.fieldLink RX6 33 "SensorBond" "readingCount" "I", Cond.classLink RX6 27 RX2, Cond.instantiable RX2 10, Cond.initialized RX2, Cond.fieldLink RX6 29 "SensorBond" "readings" "[LSensorBond$Reading;", Cond.methodLink RX6 69 yX6_sensorAt, Cond.instanceMethod yX6_sensorAt, Cond.selects RX6 yX6_sensorAt yX6_sensorAt, Cond.initialized RX6, Cond.code yX6_sensorAt cX6_sensorAt 2 (some (.object "SensorBond$Sensor")), Cond.classLink RX6 59 "java/lang/IndexOutOfBoundsException", Cond.initialized "java/lang/IndexOutOfBoundsException", Cond.fieldLink RX6 17 "SensorBond" "sensors" "[LSensorBond$Sensor;", Cond.methodLink RX6 76 yX6_checkWithin, Cond.static yX6_checkWithin, Cond.code yX6_checkWithin cX6_checkWithin 3 none, Cond.classLink RX6 93 "java/lang/IllegalArgumentException", Cond.initialized "java/lang/IllegalArgumentException", Cond.methodLink RX6 117 yX6_sendParts, Cond.static yX6_sendParts, Cond.code yX6_sendParts cX6_sendParts 3 (some .int)]
def wsX6_tell_r2 : List Cond := [Cond.methodLink RX6 262 yX6_passesHub, Cond.static yX6_passesHub, Cond.code yX6_passesHub cX6_passesHub 2 (some .boolean), Cond.instanceMethod yX3_losesNext, Cond.initialized RX3, Cond.selects RX3 yX3_losesNext yX3_losesNext, Cond.code yX3_losesNext cX3_losesNext 1 (some .boolean), Cond.fieldLink RX3 13 "SensorBond$Repeater" "come" "I", Cond.fieldLink RX3 7 "SensorBond$Repeater" "lossEvery" "I", Cond.instanceMethod yX2_init, Cond.code yX2_init cX2_init 4 none, Cond.methodLink RX2 3 objectInit, Cond.instanceMethod objectInit, Cond.code objectInit ⟨#[0xb1]⟩ 1 none, Cond.fieldLink RX2 9 "SensorBond$Reading" "due" "I", Cond.arrayClass .int, Cond.fieldLink RX2 15 "SensorBond$Reading" "paid" "[I", Cond.fieldLink RX2 19 "SensorBond$Reading" "users" "I", Cond.fieldLink RX2 22 "SensorBond$Reading" "held" "I", Cond.fieldLink RX2 25 "SensorBond$Reading" "cut" "I", Cond.fieldLink RX2 28 "SensorBond$Reading" "challenge" "LSensorBond$Challenge;", Cond.fieldLink RX2 32 "SensorBond$Reading" "sensor" "LSensorBond$Sensor;", Cond.fieldLink RX2 36 "SensorBond$Reading" "value" "I", Cond.fieldLink RX2 39 "SensorBond$Reading" "parts" "I"]
def wsX6_tell_r3 : List Cond := [Cond.fieldLink RX2 42 "SensorBond$Reading" "state" "I", Cond.methodLink RX6 127 yX6_waitFor, Cond.instanceMethod yX6_waitFor, Cond.selects RX6 yX6_waitFor yX6_waitFor, Cond.code yX6_waitFor cX6_waitFor 2 none, Cond.fieldLink RX6 43 "SensorBond" "busyUntil" "I", Cond.methodLink RX6 149 Lib.Math.max.name, Cond.static Lib.Math.max.name, Cond.initialized "java/lang/Math", Cond.code Lib.Math.max.name Lib.Math.max.code 2 (some .int), Cond.methodLink RX6 131 yX6_letWindowsUse, Cond.instanceMethod yX6_letWindowsUse, Cond.selects RX6 yX6_letWindowsUse yX6_letWindowsUse, Cond.code yX6_letWindowsUse cX6_letWindowsUse 5 none, Cond.fieldLink RX6 23 "SensorBond" "buyers" "[LSensorBond$Buyer;"]
def wsX6_tell : List Cond := .code yX6_tell cX6_tell 6 (some .int) :: ((wsX6_tell_r1 ++ (wsX6_tell_r2 ++ wsX6_tell_r3)) ++ wsX40 ++ wsX60 ++ wsX20 ++ wsX30 ++ wsX00 ++ wsX50 ++ (vx_atS RX6 105 "java/lang/IllegalStateException" ["java/lang/RuntimeException", "java/lang/Exception"]).filter goodWord ++ (vx_atS RX6 63 "java/lang/IndexOutOfBoundsException" ["java/lang/RuntimeException", "java/lang/Exception"]).filter goodWord ++ (vx_atS RX6 97 "java/lang/IllegalArgumentException" ["java/lang/RuntimeException", "java/lang/Exception"]).filter goodWord)
def wsX6_buyerAt : List Cond := .code yX6_buyerAt cX6_buyerAt 2 (some (.object "SensorBond$Buyer")) :: ([.classLink RX6 59 "java/lang/IndexOutOfBoundsException", .initialized "java/lang/IndexOutOfBoundsException", .fieldLink RX6 23 "SensorBond" "buyers" "[LSensorBond$Buyer;"] ++ wsX60 ++ (vx_atS RX6 63 "java/lang/IndexOutOfBoundsException" ["java/lang/RuntimeException", "java/lang/Exception"]).filter goodWord)
def wsX6_open_r1 : List Cond := [Cond.classLink RX6 101 "java/lang/IllegalStateException", Cond.initialized "java/lang/IllegalStateException", Cond.fieldLink RX6 40 "SensorBond" "tick" "I", Cond.classLink RX6 145 RX5, Cond.instantiable RX5 3, Cond.initialized RX5, Cond.fieldLink RX6 43 "SensorBond" "busyUntil" "I", Cond.methodLink RX6 149 Lib.Math.max.name, Cond.static Lib.Math.max.name, Cond.initialized "java/lang/Math", Cond.code Lib.Math.max.name Lib.Math.max.code 2 (some .int), Cond.methodLink RX6 134 yX6_buyerAt, Cond.instanceMethod yX6_buyerAt, Cond.selects RX6 yX6_buyerAt yX6_buyerAt, Cond.initialized RX6, Cond.code yX6_buyerAt cX6_buyerAt 2 (some (.object "SensorBond$Buyer")), Cond.classLink RX6 59 "java/lang/IndexOutOfBoundsException", Cond.initialized "java/lang/IndexOutOfBoundsException", Cond.fieldLink RX6 23 "SensorBond" "buyers" "[LSensorBond$Buyer;", Cond.methodLink RX6 69 yX6_sensorAt, Cond.instanceMethod yX6_sensorAt, Cond.selects RX6 yX6_sensorAt yX6_sensorAt, Cond.code yX6_sensorAt cX6_sensorAt 2 (some (.object "SensorBond$Sensor")), Cond.fieldLink RX6 17 "SensorBond" "sensors" "[LSensorBond$Sensor;"]
def wsX6_open_r2 : List Cond := [Cond.methodLink RX6 76 yX6_checkWithin, Cond.static yX6_checkWithin, Cond.code yX6_checkWithin cX6_checkWithin 3 none, Cond.classLink RX6 93 "java/lang/IllegalArgumentException", Cond.initialized "java/lang/IllegalArgumentException", Cond.instanceMethod yX5_init, Cond.code yX5_init cX5_init 4 none, Cond.methodLink RX5 1 objectInit, Cond.instanceMethod objectInit, Cond.code objectInit ⟨#[0xb1]⟩ 1 none, Cond.fieldLink RX5 7 "SensorBond$Window" "price" "I", Cond.fieldLink RX5 13 "SensorBond$Window" "left" "I", Cond.fieldLink RX5 16 "SensorBond$Window" "last" "I"]
def wsX6_open : List Cond := .code yX6_open cX6_open 8 (some .int) :: ((wsX6_open_r1 ++ wsX6_open_r2) ++ wsX40 ++ wsX00 ++ wsX60 ++ wsX50 ++ (vx_atS RX6 105 "java/lang/IllegalStateException" ["java/lang/RuntimeException", "java/lang/Exception"]).filter goodWord ++ (vx_atS RX6 63 "java/lang/IndexOutOfBoundsException" ["java/lang/RuntimeException", "java/lang/Exception"]).filter goodWord ++ (vx_atS RX6 97 "java/lang/IllegalArgumentException" ["java/lang/RuntimeException", "java/lang/Exception"]).filter goodWord)
def wsX6_readingAt : List Cond := .code yX6_readingAt cX6_readingAt 2 (some (.object "SensorBond$Reading")) :: ([.classLink RX6 59 "java/lang/IndexOutOfBoundsException", .initialized "java/lang/IndexOutOfBoundsException", .fieldLink RX6 33 "SensorBond" "readingCount" "I", .fieldLink RX6 29 "SensorBond" "readings" "[LSensorBond$Reading;"] ++ wsX60 ++ (vx_atS RX6 63 "java/lang/IndexOutOfBoundsException" ["java/lang/RuntimeException", "java/lang/Exception"]).filter goodWord)
def wsX6_areNeighbours : List Cond := .code yX6_areNeighbours cX6_areNeighbours 4 (some .boolean) :: ([.methodLink RX6 315 Lib.Math.abs.name, .static Lib.Math.abs.name, .initialized "java/lang/Math", .code Lib.Math.abs.name Lib.Math.abs.code 1 (some .int)])
def wsX6_countNeighbours : List Cond := .code yX6_countNeighbours cX6_countNeighbours 3 (some .int) :: ([.methodLink RX6 179 yX6_areNeighbours, .static yX6_areNeighbours, .initialized RX6, .code yX6_areNeighbours cX6_areNeighbours 4 (some .boolean), .methodLink RX6 315 Lib.Math.abs.name, .static Lib.Math.abs.name, .initialized "java/lang/Math", .code Lib.Math.abs.name Lib.Math.abs.code 1 (some .int)])
def wsX6_challenge_r1 : List Cond := [Cond.classLink RX6 101 "java/lang/IllegalStateException", Cond.initialized "java/lang/IllegalStateException", Cond.classLink RX6 161 RX1, Cond.instantiable RX1 4, Cond.initialized RX1, Cond.methodLink RX6 134 yX6_buyerAt, Cond.instanceMethod yX6_buyerAt, Cond.selects RX6 yX6_buyerAt yX6_buyerAt, Cond.initialized RX6, Cond.code yX6_buyerAt cX6_buyerAt 2 (some (.object "SensorBond$Buyer")), Cond.classLink RX6 59 "java/lang/IndexOutOfBoundsException", Cond.initialized "java/lang/IndexOutOfBoundsException", Cond.fieldLink RX6 23 "SensorBond" "buyers" "[LSensorBond$Buyer;", Cond.methodLink RX6 155 yX6_readingAt, Cond.instanceMethod yX6_readingAt, Cond.selects RX6 yX6_readingAt yX6_readingAt, Cond.code yX6_readingAt cX6_readingAt 2 (some (.object "SensorBond$Reading")), Cond.fieldLink RX6 33 "SensorBond" "readingCount" "I", Cond.fieldLink RX6 29 "SensorBond" "readings" "[LSensorBond$Reading;", Cond.instanceMethod yX1_init, Cond.code yX1_init cX1_init 2 none, Cond.methodLink RX1 3 objectInit, Cond.instanceMethod objectInit, Cond.code objectInit ⟨#[0xb1]⟩ 1 none]
def wsX6_challenge_r2 : List Cond := [Cond.arrayClass .int, Cond.fieldLink RX1 9 "SensorBond$Challenge" "samples" "[I", Cond.fieldLink RX1 15 "SensorBond$Challenge" "count" "I", Cond.fieldLink RX1 19 "SensorBond$Challenge" "givers" "I", Cond.fieldLink RX1 22 "SensorBond$Challenge" "challenger" "LSensorBond$Buyer;", Cond.methodLink RX6 127 yX6_waitFor, Cond.instanceMethod yX6_waitFor, Cond.selects RX6 yX6_waitFor yX6_waitFor, Cond.code yX6_waitFor cX6_waitFor 2 none, Cond.fieldLink RX6 40 "SensorBond" "tick" "I", Cond.fieldLink RX6 43 "SensorBond" "busyUntil" "I", Cond.methodLink RX6 149 Lib.Math.max.name, Cond.static Lib.Math.max.name, Cond.initialized "java/lang/Math", Cond.code Lib.Math.max.name Lib.Math.max.code 2 (some .int), Cond.methodLink RX6 175 yX6_countNeighbours, Cond.static yX6_countNeighbours, Cond.code yX6_countNeighbours cX6_countNeighbours 3 (some .int), Cond.methodLink RX6 179 yX6_areNeighbours, Cond.static yX6_areNeighbours, Cond.code yX6_areNeighbours cX6_areNeighbours 4 (some .boolean), Cond.methodLink RX6 315 Lib.Math.abs.name, Cond.static Lib.Math.abs.name, Cond.code Lib.Math.abs.name Lib.Math.abs.code 1 (some .int)]
def wsX6_challenge : List Cond := .code yX6_challenge cX6_challenge 5 (some .int) :: ((wsX6_challenge_r1 ++ wsX6_challenge_r2) ++ wsX20 ++ wsX00 ++ wsX10 ++ wsX40 ++ wsX60 ++ (vx_atS RX6 105 "java/lang/IllegalStateException" ["java/lang/RuntimeException", "java/lang/Exception"]).filter goodWord ++ (vx_atS RX6 63 "java/lang/IndexOutOfBoundsException" ["java/lang/RuntimeException", "java/lang/Exception"]).filter goodWord)
def wsX6_payBack : List Cond := .code yX6_payBack cX6_payBack 4 none :: ([.fieldLink RX6 23 "SensorBond" "buyers" "[LSensorBond$Buyer;"] ++ wsX60 ++ wsX00 ++ wsX20 ++ wsX10)
def wsX6_payUsers : List Cond := .code yX6_payUsers cX6_payUsers 5 (some .int) :: ([.fieldLink RX6 23 "SensorBond" "buyers" "[LSensorBond$Buyer;"] ++ wsX20 ++ wsX60 ++ wsX00)
def wsX6_shareCut : List Cond := .code yX6_shareCut cX6_shareCut 6 none :: ([.methodLink RX6 308 Lib.Math.min.name, .static Lib.Math.min.name, .initialized "java/lang/Math", .code Lib.Math.min.name Lib.Math.min.code 2 (some .int), .fieldLink RX6 37 "SensorBond" "house" "I", .methodLink RX6 311 yX6_payUsers, .instanceMethod yX6_payUsers, .selects RX6 yX6_payUsers yX6_payUsers, .initialized RX6, .code yX6_payUsers cX6_payUsers 5 (some .int), .fieldLink RX6 23 "SensorBond" "buyers" "[LSensorBond$Buyer;"] ++ wsX20 ++ wsX40 ++ wsX10 ++ wsX00 ++ wsX60)
def wsX6_letStand : List Cond := .code yX6_letStand cX6_letStand 1 none :: ([] ++ wsX20 ++ wsX40)
def wsX6_judge_r1 : List Cond := [Cond.instanceMethod yX1_refutes, Cond.initialized RX1, Cond.selects RX1 yX1_refutes yX1_refutes, Cond.code yX1_refutes cX1_refutes 2 (some .boolean), Cond.fieldLink RX1 15 "SensorBond$Challenge" "count" "I", Cond.methodLink RX1 35 Lib.Math.abs.name, Cond.static Lib.Math.abs.name, Cond.initialized "java/lang/Math", Cond.code Lib.Math.abs.name Lib.Math.abs.code 1 (some .int), Cond.methodLink RX1 31 yX1_findMiddle, Cond.instanceMethod yX1_findMiddle, Cond.selects RX1 yX1_findMiddle yX1_findMiddle, Cond.code yX1_findMiddle cX1_findMiddle 1 (some .int), Cond.fieldLink RX1 9 "SensorBond$Challenge" "samples" "[I", Cond.methodLink RX6 298 yX6_payBack, Cond.instanceMethod yX6_payBack, Cond.selects RX6 yX6_payBack yX6_payBack, Cond.initialized RX6, Cond.code yX6_payBack cX6_payBack 4 none, Cond.fieldLink RX6 23 "SensorBond" "buyers" "[LSensorBond$Buyer;", Cond.methodLink RX6 301 yX6_shareCut, Cond.instanceMethod yX6_shareCut, Cond.selects RX6 yX6_shareCut yX6_shareCut, Cond.code yX6_shareCut cX6_shareCut 6 none]
def wsX6_judge_r2 : List Cond := [Cond.methodLink RX6 308 Lib.Math.min.name, Cond.static Lib.Math.min.name, Cond.code Lib.Math.min.name Lib.Math.min.code 2 (some .int), Cond.fieldLink RX6 37 "SensorBond" "house" "I", Cond.methodLink RX6 311 yX6_payUsers, Cond.instanceMethod yX6_payUsers, Cond.selects RX6 yX6_payUsers yX6_payUsers, Cond.code yX6_payUsers cX6_payUsers 5 (some .int), Cond.methodLink RX6 288 yX6_letStand, Cond.static yX6_letStand, Cond.code yX6_letStand cX6_letStand 1 none]
def wsX6_judge : List Cond := .code yX6_judge cX6_judge 3 none :: ((wsX6_judge_r1 ++ wsX6_judge_r2) ++ wsX20 ++ wsX40 ++ wsX10 ++ wsX60 ++ wsX00)
def wsX6_sample_r1 : List Cond := [Cond.classLink RX6 101 "java/lang/IllegalStateException", Cond.initialized "java/lang/IllegalStateException", Cond.methodLink RX6 69 yX6_sensorAt, Cond.instanceMethod yX6_sensorAt, Cond.selects RX6 yX6_sensorAt yX6_sensorAt, Cond.initialized RX6, Cond.code yX6_sensorAt cX6_sensorAt 2 (some (.object "SensorBond$Sensor")), Cond.classLink RX6 59 "java/lang/IndexOutOfBoundsException", Cond.initialized "java/lang/IndexOutOfBoundsException", Cond.fieldLink RX6 17 "SensorBond" "sensors" "[LSensorBond$Sensor;", Cond.methodLink RX6 155 yX6_readingAt, Cond.instanceMethod yX6_readingAt, Cond.selects RX6 yX6_readingAt yX6_readingAt, Cond.code yX6_readingAt cX6_readingAt 2 (some (.object "SensorBond$Reading")), Cond.fieldLink RX6 33 "SensorBond" "readingCount" "I", Cond.fieldLink RX6 29 "SensorBond" "readings" "[LSensorBond$Reading;", Cond.methodLink RX6 76 yX6_checkWithin, Cond.static yX6_checkWithin, Cond.code yX6_checkWithin cX6_checkWithin 3 none, Cond.classLink RX6 93 "java/lang/IllegalArgumentException", Cond.initialized "java/lang/IllegalArgumentException", Cond.methodLink RX6 179 yX6_areNeighbours, Cond.static yX6_areNeighbours, Cond.code yX6_areNeighbours cX6_areNeighbours 4 (some .boolean)]
def wsX6_sample_r2 : List Cond := [Cond.methodLink RX6 315 Lib.Math.abs.name, Cond.static Lib.Math.abs.name, Cond.initialized "java/lang/Math", Cond.code Lib.Math.abs.name Lib.Math.abs.code 1 (some .int), Cond.instanceMethod yX1_hasSampleOf, Cond.initialized RX1, Cond.selects RX1 yX1_hasSampleOf yX1_hasSampleOf, Cond.code yX1_hasSampleOf cX1_hasSampleOf 2 (some .boolean), Cond.fieldLink RX1 19 "SensorBond$Challenge" "givers" "I", Cond.instanceMethod yX1_addSample, Cond.selects RX1 yX1_addSample yX1_addSample, Cond.code yX1_addSample cX1_addSample 4 none, Cond.fieldLink RX1 15 "SensorBond$Challenge" "count" "I", Cond.fieldLink RX1 9 "SensorBond$Challenge" "samples" "[I", Cond.methodLink RX6 175 yX6_countNeighbours, Cond.static yX6_countNeighbours, Cond.code yX6_countNeighbours cX6_countNeighbours 3 (some .int), Cond.methodLink RX6 196 yX6_judge, Cond.instanceMethod yX6_judge, Cond.selects RX6 yX6_judge yX6_judge, Cond.code yX6_judge cX6_judge 3 none, Cond.instanceMethod yX1_refutes, Cond.selects RX1 yX1_refutes yX1_refutes, Cond.code yX1_refutes cX1_refutes 2 (some .boolean)]
def wsX6_sample_r3 : List Cond := [Cond.methodLink RX1 35 Lib.Math.abs.name, Cond.methodLink RX1 31 yX1_findMiddle, Cond.instanceMethod yX1_findMiddle, Cond.selects RX1 yX1_findMiddle yX1_findMiddle, Cond.code yX1_findMiddle cX1_findMiddle 1 (some .int), Cond.methodLink RX6 298 yX6_payBack, Cond.instanceMethod yX6_payBack, Cond.selects RX6 yX6_payBack yX6_payBack, Cond.code yX6_payBack cX6_payBack 4 none, Cond.fieldLink RX6 23 "SensorBond" "buyers" "[LSensorBond$Buyer;", Cond.methodLink RX6 301 yX6_shareCut, Cond.instanceMethod yX6_shareCut, Cond.selects RX6 yX6_shareCut yX6_shareCut, Cond.code yX6_shareCut cX6_shareCut 6 none, Cond.methodLink RX6 308 Lib.Math.min.name, Cond.static Lib.Math.min.name, Cond.code Lib.Math.min.name Lib.Math.min.code 2 (some .int), Cond.fieldLink RX6 37 "SensorBond" "house" "I", Cond.methodLink RX6 311 yX6_payUsers, Cond.instanceMethod yX6_payUsers, Cond.selects RX6 yX6_payUsers yX6_payUsers, Cond.code yX6_payUsers cX6_payUsers 5 (some .int), Cond.methodLink RX6 288 yX6_letStand, Cond.static yX6_letStand]
def wsX6_sample_r4 : List Cond := [Cond.code yX6_letStand cX6_letStand 1 none]
def wsX6_sample : List Cond := .code yX6_sample cX6_sample 7 (some .int) :: ((wsX6_sample_r1 ++ (wsX6_sample_r2 ++ (wsX6_sample_r3 ++ wsX6_sample_r4))) ++ wsX20 ++ wsX40 ++ wsX10 ++ wsX60 ++ wsX00 ++ (vx_atS RX6 105 "java/lang/IllegalStateException" ["java/lang/RuntimeException", "java/lang/Exception"]).filter goodWord ++ (vx_atS RX6 63 "java/lang/IndexOutOfBoundsException" ["java/lang/RuntimeException", "java/lang/Exception"]).filter goodWord ++ (vx_atS RX6 97 "java/lang/IllegalArgumentException" ["java/lang/RuntimeException", "java/lang/Exception"]).filter goodWord)
def wsX6_settle_r1 : List Cond := [Cond.methodLink RX6 288 yX6_letStand, Cond.static yX6_letStand, Cond.initialized RX6, Cond.code yX6_letStand cX6_letStand 1 none, Cond.methodLink RX6 196 yX6_judge, Cond.instanceMethod yX6_judge, Cond.selects RX6 yX6_judge yX6_judge, Cond.code yX6_judge cX6_judge 3 none, Cond.instanceMethod yX1_refutes, Cond.initialized RX1, Cond.selects RX1 yX1_refutes yX1_refutes, Cond.code yX1_refutes cX1_refutes 2 (some .boolean), Cond.fieldLink RX1 15 "SensorBond$Challenge" "count" "I", Cond.methodLink RX1 35 Lib.Math.abs.name, Cond.static Lib.Math.abs.name, Cond.initialized "java/lang/Math", Cond.code Lib.Math.abs.name Lib.Math.abs.code 1 (some .int), Cond.methodLink RX1 31 yX1_findMiddle, Cond.instanceMethod yX1_findMiddle, Cond.selects RX1 yX1_findMiddle yX1_findMiddle, Cond.code yX1_findMiddle cX1_findMiddle 1 (some .int), Cond.fieldLink RX1 9 "SensorBond$Challenge" "samples" "[I", Cond.methodLink RX6 298 yX6_payBack, Cond.instanceMethod yX6_payBack]
def wsX6_settle_r2 : List Cond := [Cond.selects RX6 yX6_payBack yX6_payBack, Cond.code yX6_payBack cX6_payBack 4 none, Cond.fieldLink RX6 23 "SensorBond" "buyers" "[LSensorBond$Buyer;", Cond.methodLink RX6 301 yX6_shareCut, Cond.instanceMethod yX6_shareCut, Cond.selects RX6 yX6_shareCut yX6_shareCut, Cond.code yX6_shareCut cX6_shareCut 6 none, Cond.methodLink RX6 308 Lib.Math.min.name, Cond.static Lib.Math.min.name, Cond.code Lib.Math.min.name Lib.Math.min.code 2 (some .int), Cond.fieldLink RX6 37 "SensorBond" "house" "I", Cond.methodLink RX6 311 yX6_payUsers, Cond.instanceMethod yX6_payUsers, Cond.selects RX6 yX6_payUsers yX6_payUsers, Cond.code yX6_payUsers cX6_payUsers 5 (some .int)]
def wsX6_settle : List Cond := .code yX6_settle cX6_settle 3 none :: ((wsX6_settle_r1 ++ wsX6_settle_r2) ++ wsX20 ++ wsX40 ++ wsX10 ++ wsX60 ++ wsX00)
def wsX6_closeWindows : List Cond := .code yX6_closeWindows cX6_closeWindows 4 none :: ([] ++ wsX00 ++ wsX50)
def wsX6_endTick_r1 : List Cond := [Cond.fieldLink RX6 33 "SensorBond" "readingCount" "I", Cond.fieldLink RX6 29 "SensorBond" "readings" "[LSensorBond$Reading;", Cond.fieldLink RX6 23 "SensorBond" "buyers" "[LSensorBond$Buyer;", Cond.instanceMethod yX2_isOpen, Cond.initialized RX2, Cond.selects RX2 yX2_isOpen yX2_isOpen, Cond.code yX2_isOpen cX2_isOpen 1 (some .boolean), Cond.fieldLink RX2 42 "SensorBond$Reading" "state" "I", Cond.methodLink RX6 281 yX6_settle, Cond.instanceMethod yX6_settle, Cond.selects RX6 yX6_settle yX6_settle, Cond.initialized RX6, Cond.code yX6_settle cX6_settle 3 none, Cond.methodLink RX6 288 yX6_letStand, Cond.static yX6_letStand, Cond.code yX6_letStand cX6_letStand 1 none, Cond.methodLink RX6 196 yX6_judge, Cond.instanceMethod yX6_judge, Cond.selects RX6 yX6_judge yX6_judge, Cond.code yX6_judge cX6_judge 3 none, Cond.instanceMethod yX1_refutes, Cond.initialized RX1, Cond.selects RX1 yX1_refutes yX1_refutes, Cond.code yX1_refutes cX1_refutes 2 (some .boolean)]
def wsX6_endTick_r2 : List Cond := [Cond.fieldLink RX1 15 "SensorBond$Challenge" "count" "I", Cond.methodLink RX1 35 Lib.Math.abs.name, Cond.static Lib.Math.abs.name, Cond.initialized "java/lang/Math", Cond.code Lib.Math.abs.name Lib.Math.abs.code 1 (some .int), Cond.methodLink RX1 31 yX1_findMiddle, Cond.instanceMethod yX1_findMiddle, Cond.selects RX1 yX1_findMiddle yX1_findMiddle, Cond.code yX1_findMiddle cX1_findMiddle 1 (some .int), Cond.fieldLink RX1 9 "SensorBond$Challenge" "samples" "[I", Cond.methodLink RX6 298 yX6_payBack, Cond.instanceMethod yX6_payBack, Cond.selects RX6 yX6_payBack yX6_payBack, Cond.code yX6_payBack cX6_payBack 4 none, Cond.methodLink RX6 301 yX6_shareCut, Cond.instanceMethod yX6_shareCut, Cond.selects RX6 yX6_shareCut yX6_shareCut, Cond.code yX6_shareCut cX6_shareCut 6 none, Cond.methodLink RX6 308 Lib.Math.min.name, Cond.static Lib.Math.min.name, Cond.code Lib.Math.min.name Lib.Math.min.code 2 (some .int), Cond.fieldLink RX6 37 "SensorBond" "house" "I", Cond.methodLink RX6 311 yX6_payUsers, Cond.instanceMethod yX6_payUsers]
def wsX6_endTick_r3 : List Cond := [Cond.selects RX6 yX6_payUsers yX6_payUsers, Cond.code yX6_payUsers cX6_payUsers 5 (some .int), Cond.methodLink RX6 284 yX6_closeWindows, Cond.static yX6_closeWindows, Cond.code yX6_closeWindows cX6_closeWindows 4 none]
def wsX6_endTick : List Cond := .code yX6_endTick cX6_endTick 3 none :: ((wsX6_endTick_r1 ++ (wsX6_endTick_r2 ++ wsX6_endTick_r3)) ++ wsX60 ++ wsX20 ++ wsX40 ++ wsX10 ++ wsX00 ++ wsX50)
def wsX6_advance_r1 : List Cond := [Cond.classLink RX6 101 "java/lang/IllegalStateException", Cond.initialized "java/lang/IllegalStateException", Cond.fieldLink RX6 40 "SensorBond" "tick" "I", Cond.fieldLink RX6 43 "SensorBond" "busyUntil" "I", Cond.methodLink RX6 76 yX6_checkWithin, Cond.static yX6_checkWithin, Cond.initialized RX6, Cond.code yX6_checkWithin cX6_checkWithin 3 none, Cond.classLink RX6 93 "java/lang/IllegalArgumentException", Cond.initialized "java/lang/IllegalArgumentException", Cond.methodLink RX6 202 yX6_endTick, Cond.instanceMethod yX6_endTick, Cond.selects RX6 yX6_endTick yX6_endTick, Cond.code yX6_endTick cX6_endTick 3 none, Cond.fieldLink RX6 33 "SensorBond" "readingCount" "I", Cond.fieldLink RX6 29 "SensorBond" "readings" "[LSensorBond$Reading;", Cond.fieldLink RX6 23 "SensorBond" "buyers" "[LSensorBond$Buyer;", Cond.instanceMethod yX2_isOpen, Cond.initialized RX2, Cond.selects RX2 yX2_isOpen yX2_isOpen, Cond.code yX2_isOpen cX2_isOpen 1 (some .boolean), Cond.fieldLink RX2 42 "SensorBond$Reading" "state" "I", Cond.methodLink RX6 281 yX6_settle, Cond.instanceMethod yX6_settle]
def wsX6_advance_r2 : List Cond := [Cond.selects RX6 yX6_settle yX6_settle, Cond.code yX6_settle cX6_settle 3 none, Cond.methodLink RX6 288 yX6_letStand, Cond.static yX6_letStand, Cond.code yX6_letStand cX6_letStand 1 none, Cond.methodLink RX6 196 yX6_judge, Cond.instanceMethod yX6_judge, Cond.selects RX6 yX6_judge yX6_judge, Cond.code yX6_judge cX6_judge 3 none, Cond.instanceMethod yX1_refutes, Cond.initialized RX1, Cond.selects RX1 yX1_refutes yX1_refutes, Cond.code yX1_refutes cX1_refutes 2 (some .boolean), Cond.fieldLink RX1 15 "SensorBond$Challenge" "count" "I", Cond.methodLink RX1 35 Lib.Math.abs.name, Cond.static Lib.Math.abs.name, Cond.initialized "java/lang/Math", Cond.code Lib.Math.abs.name Lib.Math.abs.code 1 (some .int), Cond.methodLink RX1 31 yX1_findMiddle, Cond.instanceMethod yX1_findMiddle, Cond.selects RX1 yX1_findMiddle yX1_findMiddle, Cond.code yX1_findMiddle cX1_findMiddle 1 (some .int), Cond.fieldLink RX1 9 "SensorBond$Challenge" "samples" "[I", Cond.methodLink RX6 298 yX6_payBack]
def wsX6_advance_r3 : List Cond := [Cond.instanceMethod yX6_payBack, Cond.selects RX6 yX6_payBack yX6_payBack, Cond.code yX6_payBack cX6_payBack 4 none, Cond.methodLink RX6 301 yX6_shareCut, Cond.instanceMethod yX6_shareCut, Cond.selects RX6 yX6_shareCut yX6_shareCut, Cond.code yX6_shareCut cX6_shareCut 6 none, Cond.methodLink RX6 308 Lib.Math.min.name, Cond.static Lib.Math.min.name, Cond.code Lib.Math.min.name Lib.Math.min.code 2 (some .int), Cond.fieldLink RX6 37 "SensorBond" "house" "I", Cond.methodLink RX6 311 yX6_payUsers, Cond.instanceMethod yX6_payUsers, Cond.selects RX6 yX6_payUsers yX6_payUsers, Cond.code yX6_payUsers cX6_payUsers 5 (some .int), Cond.methodLink RX6 284 yX6_closeWindows, Cond.static yX6_closeWindows, Cond.code yX6_closeWindows cX6_closeWindows 4 none]
def wsX6_advance : List Cond := .code yX6_advance cX6_advance 4 (some .int) :: ((wsX6_advance_r1 ++ (wsX6_advance_r2 ++ wsX6_advance_r3)) ++ wsX60 ++ wsX20 ++ wsX40 ++ wsX10 ++ wsX00 ++ wsX50 ++ (vx_atS RX6 105 "java/lang/IllegalStateException" ["java/lang/RuntimeException", "java/lang/Exception"]).filter goodWord ++ (vx_atS RX6 97 "java/lang/IllegalArgumentException" ["java/lang/RuntimeException", "java/lang/Exception"]).filter goodWord)
def wsX6_tick : List Cond := .code yX6_tick cX6_tick 1 (some .int) :: ([.fieldLink RX6 40 "SensorBond" "tick" "I"] ++ wsX60)
def wsX6_readings : List Cond := .code yX6_readings cX6_readings 1 (some .int) :: ([.fieldLink RX6 33 "SensorBond" "readingCount" "I"] ++ wsX60)
def wsX6_stateOf : List Cond := .code yX6_stateOf cX6_stateOf 2 (some .int) :: ([.methodLink RX6 155 yX6_readingAt, .instanceMethod yX6_readingAt, .selects RX6 yX6_readingAt yX6_readingAt, .initialized RX6, .code yX6_readingAt cX6_readingAt 2 (some (.object "SensorBond$Reading")), .classLink RX6 59 "java/lang/IndexOutOfBoundsException", .initialized "java/lang/IndexOutOfBoundsException", .fieldLink RX6 33 "SensorBond" "readingCount" "I", .fieldLink RX6 29 "SensorBond" "readings" "[LSensorBond$Reading;"] ++ wsX20 ++ wsX60 ++ (vx_atS RX6 63 "java/lang/IndexOutOfBoundsException" ["java/lang/RuntimeException", "java/lang/Exception"]).filter goodWord)
def wsX6_parts : List Cond := .code yX6_parts cX6_parts 2 (some .int) :: ([.methodLink RX6 155 yX6_readingAt, .instanceMethod yX6_readingAt, .selects RX6 yX6_readingAt yX6_readingAt, .initialized RX6, .code yX6_readingAt cX6_readingAt 2 (some (.object "SensorBond$Reading")), .classLink RX6 59 "java/lang/IndexOutOfBoundsException", .initialized "java/lang/IndexOutOfBoundsException", .fieldLink RX6 33 "SensorBond" "readingCount" "I", .fieldLink RX6 29 "SensorBond" "readings" "[LSensorBond$Reading;"] ++ wsX20 ++ wsX60 ++ (vx_atS RX6 63 "java/lang/IndexOutOfBoundsException" ["java/lang/RuntimeException", "java/lang/Exception"]).filter goodWord)
def wsX6_users : List Cond := .code yX6_users cX6_users 2 (some .int) :: ([.methodLink RX6 155 yX6_readingAt, .instanceMethod yX6_readingAt, .selects RX6 yX6_readingAt yX6_readingAt, .initialized RX6, .code yX6_readingAt cX6_readingAt 2 (some (.object "SensorBond$Reading")), .classLink RX6 59 "java/lang/IndexOutOfBoundsException", .initialized "java/lang/IndexOutOfBoundsException", .fieldLink RX6 33 "SensorBond" "readingCount" "I", .fieldLink RX6 29 "SensorBond" "readings" "[LSensorBond$Reading;"] ++ wsX20 ++ wsX60 ++ (vx_atS RX6 63 "java/lang/IndexOutOfBoundsException" ["java/lang/RuntimeException", "java/lang/Exception"]).filter goodWord)
def wsX6_held : List Cond := .code yX6_held cX6_held 2 (some .int) :: ([.methodLink RX6 155 yX6_readingAt, .instanceMethod yX6_readingAt, .selects RX6 yX6_readingAt yX6_readingAt, .initialized RX6, .code yX6_readingAt cX6_readingAt 2 (some (.object "SensorBond$Reading")), .classLink RX6 59 "java/lang/IndexOutOfBoundsException", .initialized "java/lang/IndexOutOfBoundsException", .fieldLink RX6 33 "SensorBond" "readingCount" "I", .fieldLink RX6 29 "SensorBond" "readings" "[LSensorBond$Reading;"] ++ wsX20 ++ wsX60 ++ (vx_atS RX6 63 "java/lang/IndexOutOfBoundsException" ["java/lang/RuntimeException", "java/lang/Exception"]).filter goodWord)
def wsX6_middle : List Cond := .code yX6_middle cX6_middle 3 (some .int) :: ([.methodLink RX6 155 yX6_readingAt, .instanceMethod yX6_readingAt, .selects RX6 yX6_readingAt yX6_readingAt, .initialized RX6, .code yX6_readingAt cX6_readingAt 2 (some (.object "SensorBond$Reading")), .classLink RX6 59 "java/lang/IndexOutOfBoundsException", .initialized "java/lang/IndexOutOfBoundsException", .fieldLink RX6 33 "SensorBond" "readingCount" "I", .fieldLink RX6 29 "SensorBond" "readings" "[LSensorBond$Reading;", .instanceMethod yX1_findMiddle, .initialized RX1, .selects RX1 yX1_findMiddle yX1_findMiddle, .code yX1_findMiddle cX1_findMiddle 1 (some .int), .fieldLink RX1 15 "SensorBond$Challenge" "count" "I", .fieldLink RX1 9 "SensorBond$Challenge" "samples" "[I"] ++ wsX20 ++ wsX60 ++ wsX10 ++ (vx_atS RX6 63 "java/lang/IndexOutOfBoundsException" ["java/lang/RuntimeException", "java/lang/Exception"]).filter goodWord)
def wsJ2_newBytesLength_0f7a4 : List Cond := .code yJ2_newBytesLength_0f7a4 cJ2_newBytesLength_0f7a4 1 (some .int) :: ([.constant RJ2 20 (1073741823)])
def wsJ2_newBytesFor_77867 : List Cond := .code yJ2_newBytesFor_77867 cJ2_newBytesFor_77867 1 (some (.array .byte)) :: ([.arrayClass .byte, .methodLink RJ2 11 yJ2_newBytesLength_0f7a4, .static yJ2_newBytesLength_0f7a4, .initialized RJ2, .code yJ2_newBytesLength_0f7a4 cJ2_newBytesLength_0f7a4 1 (some .int), .constant RJ2 20 (1073741823)])
def wsJ5_init_d00df : List Cond := .code yJ5_init_d00df cJ5_init_d00df 2 none :: ([.methodLink RJ5 3 objectInit, .instanceMethod objectInit, .code objectInit ⟨#[0xb1]⟩ 1 none, .fieldLink RJ5 18 "java/lang/String" "COMPACT_STRINGS" "Z", .arrayClass .byte, .fieldLink RJ5 15 "java/lang/AbstractStringBuilder" "value" "[B", .fieldLink RJ5 22 "java/lang/AbstractStringBuilder" "coder" "B", .methodLink RJ5 26 yJ2_newBytesFor_77867, .static yJ2_newBytesFor_77867, .initialized RJ2, .code yJ2_newBytesFor_77867 cJ2_newBytesFor_77867 1 (some (.array .byte)), .methodLink RJ2 11 yJ2_newBytesLength_0f7a4, .static yJ2_newBytesLength_0f7a4, .code yJ2_newBytesLength_0f7a4 cJ2_newBytesLength_0f7a4 1 (some .int), .constant RJ2 20 (1073741823)] ++ wsJ40)
def wsJ4_init_da8c8 : List Cond := .code yJ4_init_da8c8 cJ4_init_da8c8 1 none :: ([.methodLink RJ4 1 yJ5_init_d00df, .instanceMethod yJ5_init_d00df, .initialized RJ5, .code yJ5_init_d00df cJ5_init_d00df 2 none, .methodLink RJ5 3 objectInit, .instanceMethod objectInit, .code objectInit ⟨#[0xb1]⟩ 1 none, .fieldLink RJ5 18 "java/lang/String" "COMPACT_STRINGS" "Z", .arrayClass .byte, .fieldLink RJ5 15 "java/lang/AbstractStringBuilder" "value" "[B", .fieldLink RJ5 22 "java/lang/AbstractStringBuilder" "coder" "B", .methodLink RJ5 26 yJ2_newBytesFor_77867, .static yJ2_newBytesFor_77867, .initialized RJ2, .code yJ2_newBytesFor_77867 cJ2_newBytesFor_77867 1 (some (.array .byte)), .methodLink RJ2 11 yJ2_newBytesLength_0f7a4, .static yJ2_newBytesLength_0f7a4, .code yJ2_newBytesLength_0f7a4 cJ2_newBytesLength_0f7a4 1 (some .int), .constant RJ2 20 (1073741823)] ++ wsJ40)
def wsJ8_hugeLength_7cf53 : List Cond := .code yJ8_hugeLength_7cf53 cJ8_hugeLength_7cf53 3 (some .int) :: ([.constant RJ8 200 (2147483639)])
def wsJ8_newLength_cabcc : List Cond := .code yJ8_newLength_cabcc cJ8_newLength_cabcc 4 (some .int) :: ([.methodLink RJ8 194 Lib.Math.max.name, .static Lib.Math.max.name, .initialized "java/lang/Math", .code Lib.Math.max.name Lib.Math.max.code 2 (some .int), .constant RJ8 200 (2147483639), .methodLink RJ8 201 yJ8_hugeLength_7cf53, .static yJ8_hugeLength_7cf53, .initialized RJ8, .code yJ8_hugeLength_7cf53 cJ8_hugeLength_7cf53 3 (some .int)])
def wsJ5_newCapacity_0f7a4 : List Cond := .code yJ5_newCapacity_0f7a4 cJ5_newCapacity_0f7a4 6 (some .int) :: ([.fieldLink RJ5 15 "java/lang/AbstractStringBuilder" "value" "[B", .fieldLink RJ5 22 "java/lang/AbstractStringBuilder" "coder" "B", .constant RJ5 39 (2147483647), .methodLink RJ5 114 yJ8_newLength_cabcc, .static yJ8_newLength_cabcc, .initialized RJ8, .code yJ8_newLength_cabcc cJ8_newLength_cabcc 4 (some .int), .methodLink RJ8 194 Lib.Math.max.name, .static Lib.Math.max.name, .initialized "java/lang/Math", .code Lib.Math.max.name Lib.Math.max.code 2 (some .int), .constant RJ8 200 (2147483639), .methodLink RJ8 201 yJ8_hugeLength_7cf53, .static yJ8_hugeLength_7cf53, .code yJ8_hugeLength_7cf53 cJ8_hugeLength_7cf53 3 (some .int)] ++ wsJ40)
def wsJ7_copyOf_9075b : List Cond := .code yJ7_copyOf_9075b cJ7_copyOf_9075b 3 (some (.array .byte)) :: ([.methodLink RJ7 310 ⟨"[B", "clone", "()Ljava/lang/Object;"⟩, .sameMethod "[B" "java/lang/Object" "clone" "()Ljava/lang/Object;", .native ⟨"java/lang/Object", "clone", "()Ljava/lang/Object;"⟩, .instanceMethod ⟨"java/lang/Object", "clone", "()Ljava/lang/Object;"⟩, .selects "[B" ⟨"[B", "clone", "()Ljava/lang/Object;"⟩ ⟨"java/lang/Object", "clone", "()Ljava/lang/Object;"⟩, .classLink RJ7 311 "[B", .arrayClass .byte, .methodLink RJ7 304 Lib.Math.min.name, .static Lib.Math.min.name, .initialized "java/lang/Math", .code Lib.Math.min.name Lib.Math.min.code 2 (some .int), .methodLink RJ7 150 arraycopyName, .native arraycopyName, .static arraycopyName, .initialized "java/lang/System"])
def wsJ5_ensureCapacityInternal_d00df_r1 : List Cond := [Cond.fieldLink RJ5 15 "java/lang/AbstractStringBuilder" "value" "[B", Cond.fieldLink RJ5 22 "java/lang/AbstractStringBuilder" "coder" "B", Cond.methodLink RJ5 104 ⟨"java/lang/AbstractStringBuilder", "newCapacity", "(I)I"⟩, Cond.sameMethod "java/lang/AbstractStringBuilder" "java/lang/AbstractStringBuilder" "newCapacity" "(I)I", Cond.selects RJ4 ⟨"java/lang/AbstractStringBuilder", "newCapacity", "(I)I"⟩ yJ5_newCapacity_0f7a4, Cond.instanceMethod yJ5_newCapacity_0f7a4, Cond.initialized RJ5, Cond.code yJ5_newCapacity_0f7a4 cJ5_newCapacity_0f7a4 6 (some .int), Cond.constant RJ5 39 (2147483647), Cond.methodLink RJ5 114 yJ8_newLength_cabcc, Cond.static yJ8_newLength_cabcc, Cond.initialized RJ8, Cond.code yJ8_newLength_cabcc cJ8_newLength_cabcc 4 (some .int), Cond.methodLink RJ8 194 Lib.Math.max.name, Cond.static Lib.Math.max.name, Cond.initialized "java/lang/Math", Cond.code Lib.Math.max.name Lib.Math.max.code 2 (some .int), Cond.constant RJ8 200 (2147483639), Cond.methodLink RJ8 201 yJ8_hugeLength_7cf53, Cond.static yJ8_hugeLength_7cf53, Cond.code yJ8_hugeLength_7cf53 cJ8_hugeLength_7cf53 3 (some .int), Cond.methodLink RJ5 108 yJ7_copyOf_9075b, Cond.static yJ7_copyOf_9075b, Cond.initialized RJ7]
def wsJ5_ensureCapacityInternal_d00df_r2 : List Cond := [Cond.code yJ7_copyOf_9075b cJ7_copyOf_9075b 3 (some (.array .byte)), Cond.methodLink RJ7 310 ⟨"[B", "clone", "()Ljava/lang/Object;"⟩, Cond.sameMethod "[B" "java/lang/Object" "clone" "()Ljava/lang/Object;", Cond.native ⟨"java/lang/Object", "clone", "()Ljava/lang/Object;"⟩, Cond.instanceMethod ⟨"java/lang/Object", "clone", "()Ljava/lang/Object;"⟩, Cond.selects "[B" ⟨"[B", "clone", "()Ljava/lang/Object;"⟩ ⟨"java/lang/Object", "clone", "()Ljava/lang/Object;"⟩, Cond.classLink RJ7 311 "[B", Cond.arrayClass .byte, Cond.methodLink RJ7 304 Lib.Math.min.name, Cond.static Lib.Math.min.name, Cond.code Lib.Math.min.name Lib.Math.min.code 2 (some .int), Cond.methodLink RJ7 150 arraycopyName, Cond.native arraycopyName, Cond.static arraycopyName, Cond.initialized "java/lang/System"]
def wsJ5_ensureCapacityInternal_d00df : List Cond := .code yJ5_ensureCapacityInternal_d00df cJ5_ensureCapacityInternal_d00df 3 none :: ((wsJ5_ensureCapacityInternal_d00df_r1 ++ wsJ5_ensureCapacityInternal_d00df_r2) ++ wsJ40)
def wsJ5_isLatin1_aae02 : List Cond := .code yJ5_isLatin1_aae02 cJ5_isLatin1_aae02 1 (some .boolean) :: ([.fieldLink RJ5 18 "java/lang/String" "COMPACT_STRINGS" "Z", .fieldLink RJ5 22 "java/lang/AbstractStringBuilder" "coder" "B"] ++ wsJ40)
def wsJ1_canEncode_fc78d : List Cond := .code yJ1_canEncode_fc78d cJ1_canEncode_fc78d 1 (some .boolean) :: ([])
def wsJ2_length_9d52b : List Cond := .code yJ2_length_9d52b cJ2_length_9d52b 1 (some .int) :: ([])
def wsJ3_checkFromIndexSize_8c36e : List Cond := .code yJ3_checkFromIndexSize_8c36e cJ3_checkFromIndexSize_8c36e 4 (some .int) :: ([])
def wsJ0_checkBoundsOffCount_cabcc : List Cond := .code yJ0_checkBoundsOffCount_cabcc cJ0_checkBoundsOffCount_cabcc 3 (some .int) :: ([.fieldLink RJ0 1053 "jdk/internal/util/Preconditions" "SIOOBE_FORMATTER" "Ljava/util/function/BiFunction;", .methodLink RJ0 1065 yJ3_checkFromIndexSize_8c36e, .static yJ3_checkFromIndexSize_8c36e, .initialized RJ3, .code yJ3_checkFromIndexSize_8c36e cJ3_checkFromIndexSize_8c36e 4 (some .int)])
def wsJ2_checkBoundsOffCount_d044e : List Cond := .code yJ2_checkBoundsOffCount_d044e cJ2_checkBoundsOffCount_d044e 3 none :: ([.methodLink RJ2 48 yJ2_length_9d52b, .static yJ2_length_9d52b, .initialized RJ2, .code yJ2_length_9d52b cJ2_length_9d52b 1 (some .int), .methodLink RJ2 419 yJ0_checkBoundsOffCount_cabcc, .static yJ0_checkBoundsOffCount_cabcc, .initialized RJ0, .code yJ0_checkBoundsOffCount_cabcc cJ0_checkBoundsOffCount_cabcc 3 (some .int), .fieldLink RJ0 1053 "jdk/internal/util/Preconditions" "SIOOBE_FORMATTER" "Ljava/util/function/BiFunction;", .methodLink RJ0 1065 yJ3_checkFromIndexSize_8c36e, .static yJ3_checkFromIndexSize_8c36e, .initialized RJ3, .code yJ3_checkFromIndexSize_8c36e cJ3_checkFromIndexSize_8c36e 4 (some .int)])
def wsJ2_putChar_b72d1 : List Cond := .code yJ2_putChar_b72d1 cJ2_putChar_b72d1 3 none :: ([.fieldLink RJ2 44 "java/lang/StringUTF16" "$assertionsDisabled" "Z", .fieldLink RJ2 59 "java/lang/StringUTF16" "HI_BYTE_SHIFT" "I", .fieldLink RJ2 63 "java/lang/StringUTF16" "LO_BYTE_SHIFT" "I", .methodLink RJ2 48 yJ2_length_9d52b, .static yJ2_length_9d52b, .initialized RJ2, .code yJ2_length_9d52b cJ2_length_9d52b 1 (some .int)])
def wsJ2_inflate_0e8fd : List Cond := .code yJ2_inflate_0e8fd cJ2_inflate_0e8fd 6 none :: ([.methodLink RJ2 173 yJ2_checkBoundsOffCount_d044e, .static yJ2_checkBoundsOffCount_d044e, .initialized RJ2, .code yJ2_checkBoundsOffCount_d044e cJ2_checkBoundsOffCount_d044e 3 none, .methodLink RJ2 48 yJ2_length_9d52b, .static yJ2_length_9d52b, .code yJ2_length_9d52b cJ2_length_9d52b 1 (some .int), .methodLink RJ2 419 yJ0_checkBoundsOffCount_cabcc, .static yJ0_checkBoundsOffCount_cabcc, .initialized RJ0, .code yJ0_checkBoundsOffCount_cabcc cJ0_checkBoundsOffCount_cabcc 3 (some .int), .fieldLink RJ0 1053 "jdk/internal/util/Preconditions" "SIOOBE_FORMATTER" "Ljava/util/function/BiFunction;", .methodLink RJ0 1065 yJ3_checkFromIndexSize_8c36e, .static yJ3_checkFromIndexSize_8c36e, .initialized RJ3, .code yJ3_checkFromIndexSize_8c36e cJ3_checkFromIndexSize_8c36e 4 (some .int), .methodLink RJ2 111 yJ2_putChar_b72d1, .static yJ2_putChar_b72d1, .code yJ2_putChar_b72d1 cJ2_putChar_b72d1 3 none, .fieldLink RJ2 44 "java/lang/StringUTF16" "$assertionsDisabled" "Z", .fieldLink RJ2 59 "java/lang/StringUTF16" "HI_BYTE_SHIFT" "I", .fieldLink RJ2 63 "java/lang/StringUTF16" "LO_BYTE_SHIFT" "I"])
def wsJ1_inflate_0e8fd_r1 : List Cond := [Cond.methodLink RJ1 240 yJ2_inflate_0e8fd, Cond.static yJ2_inflate_0e8fd, Cond.initialized RJ2, Cond.code yJ2_inflate_0e8fd cJ2_inflate_0e8fd 6 none, Cond.methodLink RJ2 173 yJ2_checkBoundsOffCount_d044e, Cond.static yJ2_checkBoundsOffCount_d044e, Cond.code yJ2_checkBoundsOffCount_d044e cJ2_checkBoundsOffCount_d044e 3 none, Cond.methodLink RJ2 48 yJ2_length_9d52b, Cond.static yJ2_length_9d52b, Cond.code yJ2_length_9d52b cJ2_length_9d52b 1 (some .int), Cond.methodLink RJ2 419 yJ0_checkBoundsOffCount_cabcc, Cond.static yJ0_checkBoundsOffCount_cabcc, Cond.initialized RJ0, Cond.code yJ0_checkBoundsOffCount_cabcc cJ0_checkBoundsOffCount_cabcc 3 (some .int), Cond.fieldLink RJ0 1053 "jdk/internal/util/Preconditions" "SIOOBE_FORMATTER" "Ljava/util/function/BiFunction;", Cond.methodLink RJ0 1065 yJ3_checkFromIndexSize_8c36e, Cond.static yJ3_checkFromIndexSize_8c36e, Cond.initialized RJ3, Cond.code yJ3_checkFromIndexSize_8c36e cJ3_checkFromIndexSize_8c36e 4 (some .int), Cond.methodLink RJ2 111 yJ2_putChar_b72d1, Cond.static yJ2_putChar_b72d1, Cond.code yJ2_putChar_b72d1 cJ2_putChar_b72d1 3 none, Cond.fieldLink RJ2 44 "java/lang/StringUTF16" "$assertionsDisabled" "Z", Cond.fieldLink RJ2 59 "java/lang/StringUTF16" "HI_BYTE_SHIFT" "I"]
def wsJ1_inflate_0e8fd_r2 : List Cond := [Cond.fieldLink RJ2 63 "java/lang/StringUTF16" "LO_BYTE_SHIFT" "I"]
def wsJ1_inflate_0e8fd : List Cond := .code yJ1_inflate_0e8fd cJ1_inflate_0e8fd 5 none :: ((wsJ1_inflate_0e8fd_r1 ++ wsJ1_inflate_0e8fd_r2))
def wsJ5_inflate_da8c8_r1 : List Cond := [Cond.fieldLink RJ5 15 "java/lang/AbstractStringBuilder" "value" "[B", Cond.fieldLink RJ5 79 "java/lang/AbstractStringBuilder" "count" "I", Cond.fieldLink RJ5 22 "java/lang/AbstractStringBuilder" "coder" "B", Cond.methodLink RJ5 83 ⟨"java/lang/AbstractStringBuilder", "isLatin1", "()Z"⟩, Cond.sameMethod "java/lang/AbstractStringBuilder" "java/lang/AbstractStringBuilder" "isLatin1" "()Z", Cond.selects RJ4 ⟨"java/lang/AbstractStringBuilder", "isLatin1", "()Z"⟩ yJ5_isLatin1_aae02, Cond.instanceMethod yJ5_isLatin1_aae02, Cond.initialized RJ5, Cond.code yJ5_isLatin1_aae02 cJ5_isLatin1_aae02 1 (some .boolean), Cond.fieldLink RJ5 18 "java/lang/String" "COMPACT_STRINGS" "Z", Cond.methodLink RJ5 26 yJ2_newBytesFor_77867, Cond.static yJ2_newBytesFor_77867, Cond.initialized RJ2, Cond.code yJ2_newBytesFor_77867 cJ2_newBytesFor_77867 1 (some (.array .byte)), Cond.arrayClass .byte, Cond.methodLink RJ2 11 yJ2_newBytesLength_0f7a4, Cond.static yJ2_newBytesLength_0f7a4, Cond.code yJ2_newBytesLength_0f7a4 cJ2_newBytesLength_0f7a4 1 (some .int), Cond.constant RJ2 20 (1073741823), Cond.methodLink RJ5 125 yJ1_inflate_0e8fd, Cond.static yJ1_inflate_0e8fd, Cond.initialized RJ1, Cond.code yJ1_inflate_0e8fd cJ1_inflate_0e8fd 5 none, Cond.methodLink RJ1 240 yJ2_inflate_0e8fd]
def wsJ5_inflate_da8c8_r2 : List Cond := [Cond.static yJ2_inflate_0e8fd, Cond.code yJ2_inflate_0e8fd cJ2_inflate_0e8fd 6 none, Cond.methodLink RJ2 173 yJ2_checkBoundsOffCount_d044e, Cond.static yJ2_checkBoundsOffCount_d044e, Cond.code yJ2_checkBoundsOffCount_d044e cJ2_checkBoundsOffCount_d044e 3 none, Cond.methodLink RJ2 48 yJ2_length_9d52b, Cond.static yJ2_length_9d52b, Cond.code yJ2_length_9d52b cJ2_length_9d52b 1 (some .int), Cond.methodLink RJ2 419 yJ0_checkBoundsOffCount_cabcc, Cond.static yJ0_checkBoundsOffCount_cabcc, Cond.initialized RJ0, Cond.code yJ0_checkBoundsOffCount_cabcc cJ0_checkBoundsOffCount_cabcc 3 (some .int), Cond.fieldLink RJ0 1053 "jdk/internal/util/Preconditions" "SIOOBE_FORMATTER" "Ljava/util/function/BiFunction;", Cond.methodLink RJ0 1065 yJ3_checkFromIndexSize_8c36e, Cond.static yJ3_checkFromIndexSize_8c36e, Cond.initialized RJ3, Cond.code yJ3_checkFromIndexSize_8c36e cJ3_checkFromIndexSize_8c36e 4 (some .int), Cond.methodLink RJ2 111 yJ2_putChar_b72d1, Cond.static yJ2_putChar_b72d1, Cond.code yJ2_putChar_b72d1 cJ2_putChar_b72d1 3 none, Cond.fieldLink RJ2 44 "java/lang/StringUTF16" "$assertionsDisabled" "Z", Cond.fieldLink RJ2 59 "java/lang/StringUTF16" "HI_BYTE_SHIFT" "I", Cond.fieldLink RJ2 63 "java/lang/StringUTF16" "LO_BYTE_SHIFT" "I"]
def wsJ5_inflate_da8c8 : List Cond := .code yJ5_inflate_da8c8 cJ5_inflate_da8c8 2 none :: ((wsJ5_inflate_da8c8_r1 ++ wsJ5_inflate_da8c8_r2) ++ wsJ40)
def wsJ3_checkIndex_8e157 : List Cond := .code yJ3_checkIndex_8e157 cJ3_checkIndex_8e157 3 (some .int) :: ([])
def wsJ0_checkIndex_df160 : List Cond := .code yJ0_checkIndex_df160 cJ0_checkIndex_df160 2 none :: ([.fieldLink RJ0 1053 "jdk/internal/util/Preconditions" "SIOOBE_FORMATTER" "Ljava/util/function/BiFunction;", .methodLink RJ0 1059 yJ3_checkIndex_8e157, .static yJ3_checkIndex_8e157, .initialized RJ3, .code yJ3_checkIndex_8e157 cJ3_checkIndex_8e157 3 (some .int)])
def wsJ2_checkIndex_2214a : List Cond := .code yJ2_checkIndex_2214a cJ2_checkIndex_2214a 2 none :: ([.methodLink RJ2 48 yJ2_length_9d52b, .static yJ2_length_9d52b, .initialized RJ2, .code yJ2_length_9d52b cJ2_length_9d52b 1 (some .int), .methodLink RJ2 414 yJ0_checkIndex_df160, .static yJ0_checkIndex_df160, .initialized RJ0, .code yJ0_checkIndex_df160 cJ0_checkIndex_df160 2 none, .fieldLink RJ0 1053 "jdk/internal/util/Preconditions" "SIOOBE_FORMATTER" "Ljava/util/function/BiFunction;", .methodLink RJ0 1059 yJ3_checkIndex_8e157, .static yJ3_checkIndex_8e157, .initialized RJ3, .code yJ3_checkIndex_8e157 cJ3_checkIndex_8e157 3 (some .int)])
def wsJ2_putCharSB_b72d1 : List Cond := .code yJ2_putCharSB_b72d1 cJ2_putCharSB_b72d1 3 none :: ([.methodLink RJ2 67 yJ2_checkIndex_2214a, .static yJ2_checkIndex_2214a, .initialized RJ2, .code yJ2_checkIndex_2214a cJ2_checkIndex_2214a 2 none, .methodLink RJ2 48 yJ2_length_9d52b, .static yJ2_length_9d52b, .code yJ2_length_9d52b cJ2_length_9d52b 1 (some .int), .methodLink RJ2 414 yJ0_checkIndex_df160, .static yJ0_checkIndex_df160, .initialized RJ0, .code yJ0_checkIndex_df160 cJ0_checkIndex_df160 2 none, .fieldLink RJ0 1053 "jdk/internal/util/Preconditions" "SIOOBE_FORMATTER" "Ljava/util/function/BiFunction;", .methodLink RJ0 1059 yJ3_checkIndex_8e157, .static yJ3_checkIndex_8e157, .initialized RJ3, .code yJ3_checkIndex_8e157 cJ3_checkIndex_8e157 3 (some .int), .methodLink RJ2 111 yJ2_putChar_b72d1, .static yJ2_putChar_b72d1, .code yJ2_putChar_b72d1 cJ2_putChar_b72d1 3 none, .fieldLink RJ2 44 "java/lang/StringUTF16" "$assertionsDisabled" "Z", .fieldLink RJ2 59 "java/lang/StringUTF16" "HI_BYTE_SHIFT" "I", .fieldLink RJ2 63 "java/lang/StringUTF16" "LO_BYTE_SHIFT" "I"])
def wsJ5_append_3fe6f_r1 : List Cond := [Cond.fieldLink RJ5 79 "java/lang/AbstractStringBuilder" "count" "I", Cond.fieldLink RJ5 15 "java/lang/AbstractStringBuilder" "value" "[B", Cond.methodLink RJ5 100 ⟨"java/lang/AbstractStringBuilder", "ensureCapacityInternal", "(I)V"⟩, Cond.sameMethod "java/lang/AbstractStringBuilder" "java/lang/AbstractStringBuilder" "ensureCapacityInternal" "(I)V", Cond.selects RJ4 ⟨"java/lang/AbstractStringBuilder", "ensureCapacityInternal", "(I)V"⟩ yJ5_ensureCapacityInternal_d00df, Cond.instanceMethod yJ5_ensureCapacityInternal_d00df, Cond.initialized RJ5, Cond.code yJ5_ensureCapacityInternal_d00df cJ5_ensureCapacityInternal_d00df 3 none, Cond.fieldLink RJ5 22 "java/lang/AbstractStringBuilder" "coder" "B", Cond.methodLink RJ5 104 ⟨"java/lang/AbstractStringBuilder", "newCapacity", "(I)I"⟩, Cond.sameMethod "java/lang/AbstractStringBuilder" "java/lang/AbstractStringBuilder" "newCapacity" "(I)I", Cond.selects RJ4 ⟨"java/lang/AbstractStringBuilder", "newCapacity", "(I)I"⟩ yJ5_newCapacity_0f7a4, Cond.instanceMethod yJ5_newCapacity_0f7a4, Cond.code yJ5_newCapacity_0f7a4 cJ5_newCapacity_0f7a4 6 (some .int), Cond.constant RJ5 39 (2147483647), Cond.methodLink RJ5 114 yJ8_newLength_cabcc, Cond.static yJ8_newLength_cabcc, Cond.initialized RJ8, Cond.code yJ8_newLength_cabcc cJ8_newLength_cabcc 4 (some .int), Cond.methodLink RJ8 194 Lib.Math.max.name, Cond.static Lib.Math.max.name, Cond.initialized "java/lang/Math", Cond.code Lib.Math.max.name Lib.Math.max.code 2 (some .int), Cond.constant RJ8 200 (2147483639)]
def wsJ5_append_3fe6f_r2 : List Cond := [Cond.methodLink RJ8 201 yJ8_hugeLength_7cf53, Cond.static yJ8_hugeLength_7cf53, Cond.code yJ8_hugeLength_7cf53 cJ8_hugeLength_7cf53 3 (some .int), Cond.methodLink RJ5 108 yJ7_copyOf_9075b, Cond.static yJ7_copyOf_9075b, Cond.initialized RJ7, Cond.code yJ7_copyOf_9075b cJ7_copyOf_9075b 3 (some (.array .byte)), Cond.methodLink RJ7 310 ⟨"[B", "clone", "()Ljava/lang/Object;"⟩, Cond.sameMethod "[B" "java/lang/Object" "clone" "()Ljava/lang/Object;", Cond.native ⟨"java/lang/Object", "clone", "()Ljava/lang/Object;"⟩, Cond.instanceMethod ⟨"java/lang/Object", "clone", "()Ljava/lang/Object;"⟩, Cond.selects "[B" ⟨"[B", "clone", "()Ljava/lang/Object;"⟩ ⟨"java/lang/Object", "clone", "()Ljava/lang/Object;"⟩, Cond.classLink RJ7 311 "[B", Cond.arrayClass .byte, Cond.methodLink RJ7 304 Lib.Math.min.name, Cond.static Lib.Math.min.name, Cond.code Lib.Math.min.name Lib.Math.min.code 2 (some .int), Cond.methodLink RJ7 150 arraycopyName, Cond.native arraycopyName, Cond.static arraycopyName, Cond.initialized "java/lang/System", Cond.methodLink RJ5 83 ⟨"java/lang/AbstractStringBuilder", "isLatin1", "()Z"⟩, Cond.sameMethod "java/lang/AbstractStringBuilder" "java/lang/AbstractStringBuilder" "isLatin1" "()Z", Cond.selects RJ4 ⟨"java/lang/AbstractStringBuilder", "isLatin1", "()Z"⟩ yJ5_isLatin1_aae02]
def wsJ5_append_3fe6f_r3 : List Cond := [Cond.instanceMethod yJ5_isLatin1_aae02, Cond.code yJ5_isLatin1_aae02 cJ5_isLatin1_aae02 1 (some .boolean), Cond.fieldLink RJ5 18 "java/lang/String" "COMPACT_STRINGS" "Z", Cond.methodLink RJ5 191 yJ1_canEncode_fc78d, Cond.static yJ1_canEncode_fc78d, Cond.initialized RJ1, Cond.code yJ1_canEncode_fc78d cJ1_canEncode_fc78d 1 (some .boolean), Cond.methodLink RJ5 195 ⟨"java/lang/AbstractStringBuilder", "inflate", "()V"⟩, Cond.sameMethod "java/lang/AbstractStringBuilder" "java/lang/AbstractStringBuilder" "inflate" "()V", Cond.selects RJ4 ⟨"java/lang/AbstractStringBuilder", "inflate", "()V"⟩ yJ5_inflate_da8c8, Cond.instanceMethod yJ5_inflate_da8c8, Cond.code yJ5_inflate_da8c8 cJ5_inflate_da8c8 2 none, Cond.methodLink RJ5 26 yJ2_newBytesFor_77867, Cond.static yJ2_newBytesFor_77867, Cond.initialized RJ2, Cond.code yJ2_newBytesFor_77867 cJ2_newBytesFor_77867 1 (some (.array .byte)), Cond.methodLink RJ2 11 yJ2_newBytesLength_0f7a4, Cond.static yJ2_newBytesLength_0f7a4, Cond.code yJ2_newBytesLength_0f7a4 cJ2_newBytesLength_0f7a4 1 (some .int), Cond.constant RJ2 20 (1073741823), Cond.methodLink RJ5 125 yJ1_inflate_0e8fd, Cond.static yJ1_inflate_0e8fd, Cond.code yJ1_inflate_0e8fd cJ1_inflate_0e8fd 5 none, Cond.methodLink RJ1 240 yJ2_inflate_0e8fd]
def wsJ5_append_3fe6f_r4 : List Cond := [Cond.static yJ2_inflate_0e8fd, Cond.code yJ2_inflate_0e8fd cJ2_inflate_0e8fd 6 none, Cond.methodLink RJ2 173 yJ2_checkBoundsOffCount_d044e, Cond.static yJ2_checkBoundsOffCount_d044e, Cond.code yJ2_checkBoundsOffCount_d044e cJ2_checkBoundsOffCount_d044e 3 none, Cond.methodLink RJ2 48 yJ2_length_9d52b, Cond.static yJ2_length_9d52b, Cond.code yJ2_length_9d52b cJ2_length_9d52b 1 (some .int), Cond.methodLink RJ2 419 yJ0_checkBoundsOffCount_cabcc, Cond.static yJ0_checkBoundsOffCount_cabcc, Cond.initialized RJ0, Cond.code yJ0_checkBoundsOffCount_cabcc cJ0_checkBoundsOffCount_cabcc 3 (some .int), Cond.fieldLink RJ0 1053 "jdk/internal/util/Preconditions" "SIOOBE_FORMATTER" "Ljava/util/function/BiFunction;", Cond.methodLink RJ0 1065 yJ3_checkFromIndexSize_8c36e, Cond.static yJ3_checkFromIndexSize_8c36e, Cond.initialized RJ3, Cond.code yJ3_checkFromIndexSize_8c36e cJ3_checkFromIndexSize_8c36e 4 (some .int), Cond.methodLink RJ2 111 yJ2_putChar_b72d1, Cond.static yJ2_putChar_b72d1, Cond.code yJ2_putChar_b72d1 cJ2_putChar_b72d1 3 none, Cond.fieldLink RJ2 44 "java/lang/StringUTF16" "$assertionsDisabled" "Z", Cond.fieldLink RJ2 59 "java/lang/StringUTF16" "HI_BYTE_SHIFT" "I", Cond.fieldLink RJ2 63 "java/lang/StringUTF16" "LO_BYTE_SHIFT" "I", Cond.methodLink RJ5 197 yJ2_putCharSB_b72d1]
def wsJ5_append_3fe6f_r5 : List Cond := [Cond.static yJ2_putCharSB_b72d1, Cond.code yJ2_putCharSB_b72d1 cJ2_putCharSB_b72d1 3 none, Cond.methodLink RJ2 67 yJ2_checkIndex_2214a, Cond.static yJ2_checkIndex_2214a, Cond.code yJ2_checkIndex_2214a cJ2_checkIndex_2214a 2 none, Cond.methodLink RJ2 414 yJ0_checkIndex_df160, Cond.static yJ0_checkIndex_df160, Cond.code yJ0_checkIndex_df160 cJ0_checkIndex_df160 2 none, Cond.methodLink RJ0 1059 yJ3_checkIndex_8e157, Cond.static yJ3_checkIndex_8e157, Cond.code yJ3_checkIndex_8e157 cJ3_checkIndex_8e157 3 (some .int)]
def wsJ5_append_3fe6f : List Cond := .code yJ5_append_3fe6f cJ5_append_3fe6f 2 (some (.object "java/lang/AbstractStringBuilder")) :: ((wsJ5_append_3fe6f_r1 ++ (wsJ5_append_3fe6f_r2 ++ (wsJ5_append_3fe6f_r3 ++ (wsJ5_append_3fe6f_r4 ++ wsJ5_append_3fe6f_r5)))) ++ wsJ40)
def wsJ4_append_cf468_r1 : List Cond := [Cond.methodLink RJ4 50 yJ5_append_3fe6f, Cond.sameMethod "java/lang/AbstractStringBuilder" "java/lang/AbstractStringBuilder" "append" "(C)Ljava/lang/AbstractStringBuilder;", Cond.superclass RJ4 RJ5, Cond.instanceMethod yJ5_append_3fe6f, Cond.initialized RJ5, Cond.code yJ5_append_3fe6f cJ5_append_3fe6f 2 (some (.object "java/lang/AbstractStringBuilder")), Cond.fieldLink RJ5 79 "java/lang/AbstractStringBuilder" "count" "I", Cond.fieldLink RJ5 15 "java/lang/AbstractStringBuilder" "value" "[B", Cond.methodLink RJ5 100 ⟨"java/lang/AbstractStringBuilder", "ensureCapacityInternal", "(I)V"⟩, Cond.sameMethod "java/lang/AbstractStringBuilder" "java/lang/AbstractStringBuilder" "ensureCapacityInternal" "(I)V", Cond.selects RJ4 ⟨"java/lang/AbstractStringBuilder", "ensureCapacityInternal", "(I)V"⟩ yJ5_ensureCapacityInternal_d00df, Cond.instanceMethod yJ5_ensureCapacityInternal_d00df, Cond.code yJ5_ensureCapacityInternal_d00df cJ5_ensureCapacityInternal_d00df 3 none, Cond.fieldLink RJ5 22 "java/lang/AbstractStringBuilder" "coder" "B", Cond.methodLink RJ5 104 ⟨"java/lang/AbstractStringBuilder", "newCapacity", "(I)I"⟩, Cond.sameMethod "java/lang/AbstractStringBuilder" "java/lang/AbstractStringBuilder" "newCapacity" "(I)I", Cond.selects RJ4 ⟨"java/lang/AbstractStringBuilder", "newCapacity", "(I)I"⟩ yJ5_newCapacity_0f7a4, Cond.instanceMethod yJ5_newCapacity_0f7a4, Cond.code yJ5_newCapacity_0f7a4 cJ5_newCapacity_0f7a4 6 (some .int), Cond.constant RJ5 39 (2147483647), Cond.methodLink RJ5 114 yJ8_newLength_cabcc, Cond.static yJ8_newLength_cabcc, Cond.initialized RJ8, Cond.code yJ8_newLength_cabcc cJ8_newLength_cabcc 4 (some .int)]
def wsJ4_append_cf468_r2 : List Cond := [Cond.methodLink RJ8 194 Lib.Math.max.name, Cond.static Lib.Math.max.name, Cond.initialized "java/lang/Math", Cond.code Lib.Math.max.name Lib.Math.max.code 2 (some .int), Cond.constant RJ8 200 (2147483639), Cond.methodLink RJ8 201 yJ8_hugeLength_7cf53, Cond.static yJ8_hugeLength_7cf53, Cond.code yJ8_hugeLength_7cf53 cJ8_hugeLength_7cf53 3 (some .int), Cond.methodLink RJ5 108 yJ7_copyOf_9075b, Cond.static yJ7_copyOf_9075b, Cond.initialized RJ7, Cond.code yJ7_copyOf_9075b cJ7_copyOf_9075b 3 (some (.array .byte)), Cond.methodLink RJ7 310 ⟨"[B", "clone", "()Ljava/lang/Object;"⟩, Cond.sameMethod "[B" "java/lang/Object" "clone" "()Ljava/lang/Object;", Cond.native ⟨"java/lang/Object", "clone", "()Ljava/lang/Object;"⟩, Cond.instanceMethod ⟨"java/lang/Object", "clone", "()Ljava/lang/Object;"⟩, Cond.selects "[B" ⟨"[B", "clone", "()Ljava/lang/Object;"⟩ ⟨"java/lang/Object", "clone", "()Ljava/lang/Object;"⟩, Cond.classLink RJ7 311 "[B", Cond.arrayClass .byte, Cond.methodLink RJ7 304 Lib.Math.min.name, Cond.static Lib.Math.min.name, Cond.code Lib.Math.min.name Lib.Math.min.code 2 (some .int), Cond.methodLink RJ7 150 arraycopyName, Cond.native arraycopyName]
def wsJ4_append_cf468_r3 : List Cond := [Cond.static arraycopyName, Cond.initialized "java/lang/System", Cond.methodLink RJ5 83 ⟨"java/lang/AbstractStringBuilder", "isLatin1", "()Z"⟩, Cond.sameMethod "java/lang/AbstractStringBuilder" "java/lang/AbstractStringBuilder" "isLatin1" "()Z", Cond.selects RJ4 ⟨"java/lang/AbstractStringBuilder", "isLatin1", "()Z"⟩ yJ5_isLatin1_aae02, Cond.instanceMethod yJ5_isLatin1_aae02, Cond.code yJ5_isLatin1_aae02 cJ5_isLatin1_aae02 1 (some .boolean), Cond.fieldLink RJ5 18 "java/lang/String" "COMPACT_STRINGS" "Z", Cond.methodLink RJ5 191 yJ1_canEncode_fc78d, Cond.static yJ1_canEncode_fc78d, Cond.initialized RJ1, Cond.code yJ1_canEncode_fc78d cJ1_canEncode_fc78d 1 (some .boolean), Cond.methodLink RJ5 195 ⟨"java/lang/AbstractStringBuilder", "inflate", "()V"⟩, Cond.sameMethod "java/lang/AbstractStringBuilder" "java/lang/AbstractStringBuilder" "inflate" "()V", Cond.selects RJ4 ⟨"java/lang/AbstractStringBuilder", "inflate", "()V"⟩ yJ5_inflate_da8c8, Cond.instanceMethod yJ5_inflate_da8c8, Cond.code yJ5_inflate_da8c8 cJ5_inflate_da8c8 2 none, Cond.methodLink RJ5 26 yJ2_newBytesFor_77867, Cond.static yJ2_newBytesFor_77867, Cond.initialized RJ2, Cond.code yJ2_newBytesFor_77867 cJ2_newBytesFor_77867 1 (some (.array .byte)), Cond.methodLink RJ2 11 yJ2_newBytesLength_0f7a4, Cond.static yJ2_newBytesLength_0f7a4, Cond.code yJ2_newBytesLength_0f7a4 cJ2_newBytesLength_0f7a4 1 (some .int)]
def wsJ4_append_cf468_r4 : List Cond := [Cond.constant RJ2 20 (1073741823), Cond.methodLink RJ5 125 yJ1_inflate_0e8fd, Cond.static yJ1_inflate_0e8fd, Cond.code yJ1_inflate_0e8fd cJ1_inflate_0e8fd 5 none, Cond.methodLink RJ1 240 yJ2_inflate_0e8fd, Cond.static yJ2_inflate_0e8fd, Cond.code yJ2_inflate_0e8fd cJ2_inflate_0e8fd 6 none, Cond.methodLink RJ2 173 yJ2_checkBoundsOffCount_d044e, Cond.static yJ2_checkBoundsOffCount_d044e, Cond.code yJ2_checkBoundsOffCount_d044e cJ2_checkBoundsOffCount_d044e 3 none, Cond.methodLink RJ2 48 yJ2_length_9d52b, Cond.static yJ2_length_9d52b, Cond.code yJ2_length_9d52b cJ2_length_9d52b 1 (some .int), Cond.methodLink RJ2 419 yJ0_checkBoundsOffCount_cabcc, Cond.static yJ0_checkBoundsOffCount_cabcc, Cond.initialized RJ0, Cond.code yJ0_checkBoundsOffCount_cabcc cJ0_checkBoundsOffCount_cabcc 3 (some .int), Cond.fieldLink RJ0 1053 "jdk/internal/util/Preconditions" "SIOOBE_FORMATTER" "Ljava/util/function/BiFunction;", Cond.methodLink RJ0 1065 yJ3_checkFromIndexSize_8c36e, Cond.static yJ3_checkFromIndexSize_8c36e, Cond.initialized RJ3, Cond.code yJ3_checkFromIndexSize_8c36e cJ3_checkFromIndexSize_8c36e 4 (some .int), Cond.methodLink RJ2 111 yJ2_putChar_b72d1, Cond.static yJ2_putChar_b72d1]
def wsJ4_append_cf468_r5 : List Cond := [Cond.code yJ2_putChar_b72d1 cJ2_putChar_b72d1 3 none, Cond.fieldLink RJ2 44 "java/lang/StringUTF16" "$assertionsDisabled" "Z", Cond.fieldLink RJ2 59 "java/lang/StringUTF16" "HI_BYTE_SHIFT" "I", Cond.fieldLink RJ2 63 "java/lang/StringUTF16" "LO_BYTE_SHIFT" "I", Cond.methodLink RJ5 197 yJ2_putCharSB_b72d1, Cond.static yJ2_putCharSB_b72d1, Cond.code yJ2_putCharSB_b72d1 cJ2_putCharSB_b72d1 3 none, Cond.methodLink RJ2 67 yJ2_checkIndex_2214a, Cond.static yJ2_checkIndex_2214a, Cond.code yJ2_checkIndex_2214a cJ2_checkIndex_2214a 2 none, Cond.methodLink RJ2 414 yJ0_checkIndex_df160, Cond.static yJ0_checkIndex_df160, Cond.code yJ0_checkIndex_df160 cJ0_checkIndex_df160 2 none, Cond.methodLink RJ0 1059 yJ3_checkIndex_8e157, Cond.static yJ3_checkIndex_8e157, Cond.code yJ3_checkIndex_8e157 cJ3_checkIndex_8e157 3 (some .int)]
def wsJ4_append_cf468 : List Cond := .code yJ4_append_cf468 cJ4_append_cf468 2 (some (.object "java/lang/StringBuilder")) :: ((wsJ4_append_cf468_r1 ++ (wsJ4_append_cf468_r2 ++ (wsJ4_append_cf468_r3 ++ (wsJ4_append_cf468_r4 ++ wsJ4_append_cf468_r5)))) ++ wsJ40)
def wsJ6_stringSize_0f7a4 : List Cond := .code yJ6_stringSize_0f7a4 cJ6_stringSize_0f7a4 4 (some .int) :: ([])
def wsJ6_getChars_ba4f3 : List Cond := .code yJ6_getChars_ba4f3 cJ6_getChars_ba4f3 7 (some .int) :: ([.fieldLink RJ6 83 "java/lang/Integer" "DigitOnes" "[B", .fieldLink RJ6 87 "java/lang/Integer" "DigitTens" "[B"])
def wsJ3_checkFromToIndex_8c36e : List Cond := .code yJ3_checkFromToIndex_8c36e cJ3_checkFromToIndex_8c36e 4 (some .int) :: ([])
def wsJ0_checkBoundsBeginEnd_23922 : List Cond := .code yJ0_checkBoundsBeginEnd_23922 cJ0_checkBoundsBeginEnd_23922 3 none :: ([.fieldLink RJ0 1053 "jdk/internal/util/Preconditions" "SIOOBE_FORMATTER" "Ljava/util/function/BiFunction;", .methodLink RJ0 1062 yJ3_checkFromToIndex_8c36e, .static yJ3_checkFromToIndex_8c36e, .initialized RJ3, .code yJ3_checkFromToIndex_8c36e cJ3_checkFromToIndex_8c36e 4 (some .int)])
def wsJ2_checkBoundsBeginEnd_d044e : List Cond := .code yJ2_checkBoundsBeginEnd_d044e cJ2_checkBoundsBeginEnd_d044e 3 none :: ([.methodLink RJ2 48 yJ2_length_9d52b, .static yJ2_length_9d52b, .initialized RJ2, .code yJ2_length_9d52b cJ2_length_9d52b 1 (some .int), .methodLink RJ2 241 yJ0_checkBoundsBeginEnd_23922, .static yJ0_checkBoundsBeginEnd_23922, .initialized RJ0, .code yJ0_checkBoundsBeginEnd_23922 cJ0_checkBoundsBeginEnd_23922 3 none, .fieldLink RJ0 1053 "jdk/internal/util/Preconditions" "SIOOBE_FORMATTER" "Ljava/util/function/BiFunction;", .methodLink RJ0 1062 yJ3_checkFromToIndex_8c36e, .static yJ3_checkFromToIndex_8c36e, .initialized RJ3, .code yJ3_checkFromToIndex_8c36e cJ3_checkFromToIndex_8c36e 4 (some .int)])
def wsJ2_getChars_ba4f3 : List Cond := .code yJ2_getChars_ba4f3 cJ2_getChars_ba4f3 7 (some .int) :: ([.fieldLink RJ2 403 "java/lang/Integer" "DigitOnes" "[B", .fieldLink RJ2 407 "java/lang/Integer" "DigitTens" "[B", .methodLink RJ2 111 yJ2_putChar_b72d1, .static yJ2_putChar_b72d1, .initialized RJ2, .code yJ2_putChar_b72d1 cJ2_putChar_b72d1 3 none, .fieldLink RJ2 44 "java/lang/StringUTF16" "$assertionsDisabled" "Z", .fieldLink RJ2 59 "java/lang/StringUTF16" "HI_BYTE_SHIFT" "I", .fieldLink RJ2 63 "java/lang/StringUTF16" "LO_BYTE_SHIFT" "I", .methodLink RJ2 48 yJ2_length_9d52b, .static yJ2_length_9d52b, .code yJ2_length_9d52b cJ2_length_9d52b 1 (some .int)])
def wsJ2_getChars_46870_r1 : List Cond := [Cond.fieldLink RJ2 44 "java/lang/StringUTF16" "$assertionsDisabled" "Z", Cond.methodLink RJ2 96 yJ2_checkBoundsBeginEnd_d044e, Cond.static yJ2_checkBoundsBeginEnd_d044e, Cond.initialized RJ2, Cond.code yJ2_checkBoundsBeginEnd_d044e cJ2_checkBoundsBeginEnd_d044e 3 none, Cond.methodLink RJ2 48 yJ2_length_9d52b, Cond.static yJ2_length_9d52b, Cond.code yJ2_length_9d52b cJ2_length_9d52b 1 (some .int), Cond.methodLink RJ2 241 yJ0_checkBoundsBeginEnd_23922, Cond.static yJ0_checkBoundsBeginEnd_23922, Cond.initialized RJ0, Cond.code yJ0_checkBoundsBeginEnd_23922 cJ0_checkBoundsBeginEnd_23922 3 none, Cond.fieldLink RJ0 1053 "jdk/internal/util/Preconditions" "SIOOBE_FORMATTER" "Ljava/util/function/BiFunction;", Cond.methodLink RJ0 1062 yJ3_checkFromToIndex_8c36e, Cond.static yJ3_checkFromToIndex_8c36e, Cond.initialized RJ3, Cond.code yJ3_checkFromToIndex_8c36e cJ3_checkFromToIndex_8c36e 4 (some .int), Cond.methodLink RJ2 393 yJ2_getChars_ba4f3, Cond.static yJ2_getChars_ba4f3, Cond.code yJ2_getChars_ba4f3 cJ2_getChars_ba4f3 7 (some .int), Cond.fieldLink RJ2 403 "java/lang/Integer" "DigitOnes" "[B", Cond.fieldLink RJ2 407 "java/lang/Integer" "DigitTens" "[B", Cond.methodLink RJ2 111 yJ2_putChar_b72d1, Cond.static yJ2_putChar_b72d1]
def wsJ2_getChars_46870_r2 : List Cond := [Cond.code yJ2_putChar_b72d1 cJ2_putChar_b72d1 3 none, Cond.fieldLink RJ2 59 "java/lang/StringUTF16" "HI_BYTE_SHIFT" "I", Cond.fieldLink RJ2 63 "java/lang/StringUTF16" "LO_BYTE_SHIFT" "I"]
def wsJ2_getChars_46870 : List Cond := .code yJ2_getChars_46870 cJ2_getChars_46870 5 (some .int) :: ((wsJ2_getChars_46870_r1 ++ wsJ2_getChars_46870_r2))
def wsJ5_append_c97b9_r1 : List Cond := [Cond.fieldLink RJ5 79 "java/lang/AbstractStringBuilder" "count" "I", Cond.fieldLink RJ5 15 "java/lang/AbstractStringBuilder" "value" "[B", Cond.methodLink RJ5 245 yJ6_stringSize_0f7a4, Cond.static yJ6_stringSize_0f7a4, Cond.initialized RJ6, Cond.code yJ6_stringSize_0f7a4 cJ6_stringSize_0f7a4 4 (some .int), Cond.methodLink RJ5 100 ⟨"java/lang/AbstractStringBuilder", "ensureCapacityInternal", "(I)V"⟩, Cond.sameMethod "java/lang/AbstractStringBuilder" "java/lang/AbstractStringBuilder" "ensureCapacityInternal" "(I)V", Cond.selects RJ4 ⟨"java/lang/AbstractStringBuilder", "ensureCapacityInternal", "(I)V"⟩ yJ5_ensureCapacityInternal_d00df, Cond.instanceMethod yJ5_ensureCapacityInternal_d00df, Cond.initialized RJ5, Cond.code yJ5_ensureCapacityInternal_d00df cJ5_ensureCapacityInternal_d00df 3 none, Cond.fieldLink RJ5 22 "java/lang/AbstractStringBuilder" "coder" "B", Cond.methodLink RJ5 104 ⟨"java/lang/AbstractStringBuilder", "newCapacity", "(I)I"⟩, Cond.sameMethod "java/lang/AbstractStringBuilder" "java/lang/AbstractStringBuilder" "newCapacity" "(I)I", Cond.selects RJ4 ⟨"java/lang/AbstractStringBuilder", "newCapacity", "(I)I"⟩ yJ5_newCapacity_0f7a4, Cond.instanceMethod yJ5_newCapacity_0f7a4, Cond.code yJ5_newCapacity_0f7a4 cJ5_newCapacity_0f7a4 6 (some .int), Cond.constant RJ5 39 (2147483647), Cond.methodLink RJ5 114 yJ8_newLength_cabcc, Cond.static yJ8_newLength_cabcc, Cond.initialized RJ8, Cond.code yJ8_newLength_cabcc cJ8_newLength_cabcc 4 (some .int), Cond.methodLink RJ8 194 Lib.Math.max.name]
def wsJ5_append_c97b9_r2 : List Cond := [Cond.static Lib.Math.max.name, Cond.initialized "java/lang/Math", Cond.code Lib.Math.max.name Lib.Math.max.code 2 (some .int), Cond.constant RJ8 200 (2147483639), Cond.methodLink RJ8 201 yJ8_hugeLength_7cf53, Cond.static yJ8_hugeLength_7cf53, Cond.code yJ8_hugeLength_7cf53 cJ8_hugeLength_7cf53 3 (some .int), Cond.methodLink RJ5 108 yJ7_copyOf_9075b, Cond.static yJ7_copyOf_9075b, Cond.initialized RJ7, Cond.code yJ7_copyOf_9075b cJ7_copyOf_9075b 3 (some (.array .byte)), Cond.methodLink RJ7 310 ⟨"[B", "clone", "()Ljava/lang/Object;"⟩, Cond.sameMethod "[B" "java/lang/Object" "clone" "()Ljava/lang/Object;", Cond.native ⟨"java/lang/Object", "clone", "()Ljava/lang/Object;"⟩, Cond.instanceMethod ⟨"java/lang/Object", "clone", "()Ljava/lang/Object;"⟩, Cond.selects "[B" ⟨"[B", "clone", "()Ljava/lang/Object;"⟩ ⟨"java/lang/Object", "clone", "()Ljava/lang/Object;"⟩, Cond.classLink RJ7 311 "[B", Cond.arrayClass .byte, Cond.methodLink RJ7 304 Lib.Math.min.name, Cond.static Lib.Math.min.name, Cond.code Lib.Math.min.name Lib.Math.min.code 2 (some .int), Cond.methodLink RJ7 150 arraycopyName, Cond.native arraycopyName, Cond.static arraycopyName]
def wsJ5_append_c97b9_r3 : List Cond := [Cond.initialized "java/lang/System", Cond.methodLink RJ5 83 ⟨"java/lang/AbstractStringBuilder", "isLatin1", "()Z"⟩, Cond.sameMethod "java/lang/AbstractStringBuilder" "java/lang/AbstractStringBuilder" "isLatin1" "()Z", Cond.selects RJ4 ⟨"java/lang/AbstractStringBuilder", "isLatin1", "()Z"⟩ yJ5_isLatin1_aae02, Cond.instanceMethod yJ5_isLatin1_aae02, Cond.code yJ5_isLatin1_aae02 cJ5_isLatin1_aae02 1 (some .boolean), Cond.fieldLink RJ5 18 "java/lang/String" "COMPACT_STRINGS" "Z", Cond.methodLink RJ5 248 yJ6_getChars_ba4f3, Cond.static yJ6_getChars_ba4f3, Cond.code yJ6_getChars_ba4f3 cJ6_getChars_ba4f3 7 (some .int), Cond.fieldLink RJ6 83 "java/lang/Integer" "DigitOnes" "[B", Cond.fieldLink RJ6 87 "java/lang/Integer" "DigitTens" "[B", Cond.methodLink RJ5 251 yJ2_getChars_46870, Cond.static yJ2_getChars_46870, Cond.initialized RJ2, Cond.code yJ2_getChars_46870 cJ2_getChars_46870 5 (some .int), Cond.fieldLink RJ2 44 "java/lang/StringUTF16" "$assertionsDisabled" "Z", Cond.methodLink RJ2 96 yJ2_checkBoundsBeginEnd_d044e, Cond.static yJ2_checkBoundsBeginEnd_d044e, Cond.code yJ2_checkBoundsBeginEnd_d044e cJ2_checkBoundsBeginEnd_d044e 3 none, Cond.methodLink RJ2 48 yJ2_length_9d52b, Cond.static yJ2_length_9d52b, Cond.code yJ2_length_9d52b cJ2_length_9d52b 1 (some .int), Cond.methodLink RJ2 241 yJ0_checkBoundsBeginEnd_23922]
def wsJ5_append_c97b9_r4 : List Cond := [Cond.static yJ0_checkBoundsBeginEnd_23922, Cond.initialized RJ0, Cond.code yJ0_checkBoundsBeginEnd_23922 cJ0_checkBoundsBeginEnd_23922 3 none, Cond.fieldLink RJ0 1053 "jdk/internal/util/Preconditions" "SIOOBE_FORMATTER" "Ljava/util/function/BiFunction;", Cond.methodLink RJ0 1062 yJ3_checkFromToIndex_8c36e, Cond.static yJ3_checkFromToIndex_8c36e, Cond.initialized RJ3, Cond.code yJ3_checkFromToIndex_8c36e cJ3_checkFromToIndex_8c36e 4 (some .int), Cond.methodLink RJ2 393 yJ2_getChars_ba4f3, Cond.static yJ2_getChars_ba4f3, Cond.code yJ2_getChars_ba4f3 cJ2_getChars_ba4f3 7 (some .int), Cond.fieldLink RJ2 403 "java/lang/Integer" "DigitOnes" "[B", Cond.fieldLink RJ2 407 "java/lang/Integer" "DigitTens" "[B", Cond.methodLink RJ2 111 yJ2_putChar_b72d1, Cond.static yJ2_putChar_b72d1, Cond.code yJ2_putChar_b72d1 cJ2_putChar_b72d1 3 none, Cond.fieldLink RJ2 59 "java/lang/StringUTF16" "HI_BYTE_SHIFT" "I", Cond.fieldLink RJ2 63 "java/lang/StringUTF16" "LO_BYTE_SHIFT" "I"]
def wsJ5_append_c97b9 : List Cond := .code yJ5_append_c97b9 cJ5_append_c97b9 4 (some (.object "java/lang/AbstractStringBuilder")) :: ((wsJ5_append_c97b9_r1 ++ (wsJ5_append_c97b9_r2 ++ (wsJ5_append_c97b9_r3 ++ wsJ5_append_c97b9_r4))) ++ wsJ40)
def wsJ4_append_bf812_r1 : List Cond := [Cond.methodLink RJ4 53 yJ5_append_c97b9, Cond.sameMethod "java/lang/AbstractStringBuilder" "java/lang/AbstractStringBuilder" "append" "(I)Ljava/lang/AbstractStringBuilder;", Cond.superclass RJ4 RJ5, Cond.instanceMethod yJ5_append_c97b9, Cond.initialized RJ5, Cond.code yJ5_append_c97b9 cJ5_append_c97b9 4 (some (.object "java/lang/AbstractStringBuilder")), Cond.fieldLink RJ5 79 "java/lang/AbstractStringBuilder" "count" "I", Cond.fieldLink RJ5 15 "java/lang/AbstractStringBuilder" "value" "[B", Cond.methodLink RJ5 245 yJ6_stringSize_0f7a4, Cond.static yJ6_stringSize_0f7a4, Cond.initialized RJ6, Cond.code yJ6_stringSize_0f7a4 cJ6_stringSize_0f7a4 4 (some .int), Cond.methodLink RJ5 100 ⟨"java/lang/AbstractStringBuilder", "ensureCapacityInternal", "(I)V"⟩, Cond.sameMethod "java/lang/AbstractStringBuilder" "java/lang/AbstractStringBuilder" "ensureCapacityInternal" "(I)V", Cond.selects RJ4 ⟨"java/lang/AbstractStringBuilder", "ensureCapacityInternal", "(I)V"⟩ yJ5_ensureCapacityInternal_d00df, Cond.instanceMethod yJ5_ensureCapacityInternal_d00df, Cond.code yJ5_ensureCapacityInternal_d00df cJ5_ensureCapacityInternal_d00df 3 none, Cond.fieldLink RJ5 22 "java/lang/AbstractStringBuilder" "coder" "B", Cond.methodLink RJ5 104 ⟨"java/lang/AbstractStringBuilder", "newCapacity", "(I)I"⟩, Cond.sameMethod "java/lang/AbstractStringBuilder" "java/lang/AbstractStringBuilder" "newCapacity" "(I)I", Cond.selects RJ4 ⟨"java/lang/AbstractStringBuilder", "newCapacity", "(I)I"⟩ yJ5_newCapacity_0f7a4, Cond.instanceMethod yJ5_newCapacity_0f7a4, Cond.code yJ5_newCapacity_0f7a4 cJ5_newCapacity_0f7a4 6 (some .int), Cond.constant RJ5 39 (2147483647)]
def wsJ4_append_bf812_r2 : List Cond := [Cond.methodLink RJ5 114 yJ8_newLength_cabcc, Cond.static yJ8_newLength_cabcc, Cond.initialized RJ8, Cond.code yJ8_newLength_cabcc cJ8_newLength_cabcc 4 (some .int), Cond.methodLink RJ8 194 Lib.Math.max.name, Cond.static Lib.Math.max.name, Cond.initialized "java/lang/Math", Cond.code Lib.Math.max.name Lib.Math.max.code 2 (some .int), Cond.constant RJ8 200 (2147483639), Cond.methodLink RJ8 201 yJ8_hugeLength_7cf53, Cond.static yJ8_hugeLength_7cf53, Cond.code yJ8_hugeLength_7cf53 cJ8_hugeLength_7cf53 3 (some .int), Cond.methodLink RJ5 108 yJ7_copyOf_9075b, Cond.static yJ7_copyOf_9075b, Cond.initialized RJ7, Cond.code yJ7_copyOf_9075b cJ7_copyOf_9075b 3 (some (.array .byte)), Cond.methodLink RJ7 310 ⟨"[B", "clone", "()Ljava/lang/Object;"⟩, Cond.sameMethod "[B" "java/lang/Object" "clone" "()Ljava/lang/Object;", Cond.native ⟨"java/lang/Object", "clone", "()Ljava/lang/Object;"⟩, Cond.instanceMethod ⟨"java/lang/Object", "clone", "()Ljava/lang/Object;"⟩, Cond.selects "[B" ⟨"[B", "clone", "()Ljava/lang/Object;"⟩ ⟨"java/lang/Object", "clone", "()Ljava/lang/Object;"⟩, Cond.classLink RJ7 311 "[B", Cond.arrayClass .byte, Cond.methodLink RJ7 304 Lib.Math.min.name]
def wsJ4_append_bf812_r3 : List Cond := [Cond.static Lib.Math.min.name, Cond.code Lib.Math.min.name Lib.Math.min.code 2 (some .int), Cond.methodLink RJ7 150 arraycopyName, Cond.native arraycopyName, Cond.static arraycopyName, Cond.initialized "java/lang/System", Cond.methodLink RJ5 83 ⟨"java/lang/AbstractStringBuilder", "isLatin1", "()Z"⟩, Cond.sameMethod "java/lang/AbstractStringBuilder" "java/lang/AbstractStringBuilder" "isLatin1" "()Z", Cond.selects RJ4 ⟨"java/lang/AbstractStringBuilder", "isLatin1", "()Z"⟩ yJ5_isLatin1_aae02, Cond.instanceMethod yJ5_isLatin1_aae02, Cond.code yJ5_isLatin1_aae02 cJ5_isLatin1_aae02 1 (some .boolean), Cond.fieldLink RJ5 18 "java/lang/String" "COMPACT_STRINGS" "Z", Cond.methodLink RJ5 248 yJ6_getChars_ba4f3, Cond.static yJ6_getChars_ba4f3, Cond.code yJ6_getChars_ba4f3 cJ6_getChars_ba4f3 7 (some .int), Cond.fieldLink RJ6 83 "java/lang/Integer" "DigitOnes" "[B", Cond.fieldLink RJ6 87 "java/lang/Integer" "DigitTens" "[B", Cond.methodLink RJ5 251 yJ2_getChars_46870, Cond.static yJ2_getChars_46870, Cond.initialized RJ2, Cond.code yJ2_getChars_46870 cJ2_getChars_46870 5 (some .int), Cond.fieldLink RJ2 44 "java/lang/StringUTF16" "$assertionsDisabled" "Z", Cond.methodLink RJ2 96 yJ2_checkBoundsBeginEnd_d044e, Cond.static yJ2_checkBoundsBeginEnd_d044e]
def wsJ4_append_bf812_r4 : List Cond := [Cond.code yJ2_checkBoundsBeginEnd_d044e cJ2_checkBoundsBeginEnd_d044e 3 none, Cond.methodLink RJ2 48 yJ2_length_9d52b, Cond.static yJ2_length_9d52b, Cond.code yJ2_length_9d52b cJ2_length_9d52b 1 (some .int), Cond.methodLink RJ2 241 yJ0_checkBoundsBeginEnd_23922, Cond.static yJ0_checkBoundsBeginEnd_23922, Cond.initialized RJ0, Cond.code yJ0_checkBoundsBeginEnd_23922 cJ0_checkBoundsBeginEnd_23922 3 none, Cond.fieldLink RJ0 1053 "jdk/internal/util/Preconditions" "SIOOBE_FORMATTER" "Ljava/util/function/BiFunction;", Cond.methodLink RJ0 1062 yJ3_checkFromToIndex_8c36e, Cond.static yJ3_checkFromToIndex_8c36e, Cond.initialized RJ3, Cond.code yJ3_checkFromToIndex_8c36e cJ3_checkFromToIndex_8c36e 4 (some .int), Cond.methodLink RJ2 393 yJ2_getChars_ba4f3, Cond.static yJ2_getChars_ba4f3, Cond.code yJ2_getChars_ba4f3 cJ2_getChars_ba4f3 7 (some .int), Cond.fieldLink RJ2 403 "java/lang/Integer" "DigitOnes" "[B", Cond.fieldLink RJ2 407 "java/lang/Integer" "DigitTens" "[B", Cond.methodLink RJ2 111 yJ2_putChar_b72d1, Cond.static yJ2_putChar_b72d1, Cond.code yJ2_putChar_b72d1 cJ2_putChar_b72d1 3 none, Cond.fieldLink RJ2 59 "java/lang/StringUTF16" "HI_BYTE_SHIFT" "I", Cond.fieldLink RJ2 63 "java/lang/StringUTF16" "LO_BYTE_SHIFT" "I"]
def wsJ4_append_bf812 : List Cond := .code yJ4_append_bf812 cJ4_append_bf812 2 (some (.object "java/lang/StringBuilder")) :: ((wsJ4_append_bf812_r1 ++ (wsJ4_append_bf812_r2 ++ (wsJ4_append_bf812_r3 ++ wsJ4_append_bf812_r4))) ++ wsJ40)
def wsX6_signOf : List Cond := .code yX6_signOf cX6_signOf 1 (some .char) :: ([])
def wsJ5_length_8abf5 : List Cond := .code yJ5_length_8abf5 cJ5_length_8abf5 1 (some .int) :: ([.fieldLink RJ5 79 "java/lang/AbstractStringBuilder" "count" "I"] ++ wsJ40)
def wsJ4_length_8abf5 : List Cond := .code yJ4_length_8abf5 cJ4_length_8abf5 1 (some .int) :: ([.methodLink RJ4 343 yJ5_length_8abf5, .sameMethod "java/lang/AbstractStringBuilder" "java/lang/AbstractStringBuilder" "length" "()I", .superclass RJ4 RJ5, .instanceMethod yJ5_length_8abf5, .initialized RJ5, .code yJ5_length_8abf5 cJ5_length_8abf5 1 (some .int), .fieldLink RJ5 79 "java/lang/AbstractStringBuilder" "count" "I"] ++ wsJ40)
def wsJ2_getChar_3b067 : List Cond := .code yJ2_getChar_3b067 cJ2_getChar_3b067 2 (some .char) :: ([.fieldLink RJ2 44 "java/lang/StringUTF16" "$assertionsDisabled" "Z", .fieldLink RJ2 59 "java/lang/StringUTF16" "HI_BYTE_SHIFT" "I", .fieldLink RJ2 63 "java/lang/StringUTF16" "LO_BYTE_SHIFT" "I", .methodLink RJ2 48 yJ2_length_9d52b, .static yJ2_length_9d52b, .initialized RJ2, .code yJ2_length_9d52b cJ2_length_9d52b 1 (some .int)])
def wsJ5_charAt_5068e_r1 : List Cond := [Cond.fieldLink RJ5 22 "java/lang/AbstractStringBuilder" "coder" "B", Cond.fieldLink RJ5 15 "java/lang/AbstractStringBuilder" "value" "[B", Cond.fieldLink RJ5 79 "java/lang/AbstractStringBuilder" "count" "I", Cond.methodLink RJ5 138 Lib.Math.min.name, Cond.static Lib.Math.min.name, Cond.initialized "java/lang/Math", Cond.code Lib.Math.min.name Lib.Math.min.code 2 (some .int), Cond.methodLink RJ5 144 yJ0_checkIndex_df160, Cond.static yJ0_checkIndex_df160, Cond.initialized RJ0, Cond.code yJ0_checkIndex_df160 cJ0_checkIndex_df160 2 none, Cond.fieldLink RJ0 1053 "jdk/internal/util/Preconditions" "SIOOBE_FORMATTER" "Ljava/util/function/BiFunction;", Cond.methodLink RJ0 1059 yJ3_checkIndex_8e157, Cond.static yJ3_checkIndex_8e157, Cond.initialized RJ3, Cond.code yJ3_checkIndex_8e157 cJ3_checkIndex_8e157 3 (some .int), Cond.methodLink RJ5 148 yJ2_getChar_3b067, Cond.static yJ2_getChar_3b067, Cond.initialized RJ2, Cond.code yJ2_getChar_3b067 cJ2_getChar_3b067 2 (some .char), Cond.fieldLink RJ2 44 "java/lang/StringUTF16" "$assertionsDisabled" "Z", Cond.fieldLink RJ2 59 "java/lang/StringUTF16" "HI_BYTE_SHIFT" "I", Cond.fieldLink RJ2 63 "java/lang/StringUTF16" "LO_BYTE_SHIFT" "I", Cond.methodLink RJ2 48 yJ2_length_9d52b]
def wsJ5_charAt_5068e_r2 : List Cond := [Cond.static yJ2_length_9d52b, Cond.code yJ2_length_9d52b cJ2_length_9d52b 1 (some .int)]
def wsJ5_charAt_5068e : List Cond := .code yJ5_charAt_5068e cJ5_charAt_5068e 5 (some .char) :: ((wsJ5_charAt_5068e_r1 ++ wsJ5_charAt_5068e_r2) ++ wsJ40)
def wsJ4_charAt_5068e_r1 : List Cond := [Cond.methodLink RJ4 329 yJ5_charAt_5068e, Cond.sameMethod "java/lang/AbstractStringBuilder" "java/lang/AbstractStringBuilder" "charAt" "(I)C", Cond.superclass RJ4 RJ5, Cond.instanceMethod yJ5_charAt_5068e, Cond.initialized RJ5, Cond.code yJ5_charAt_5068e cJ5_charAt_5068e 5 (some .char), Cond.fieldLink RJ5 22 "java/lang/AbstractStringBuilder" "coder" "B", Cond.fieldLink RJ5 15 "java/lang/AbstractStringBuilder" "value" "[B", Cond.fieldLink RJ5 79 "java/lang/AbstractStringBuilder" "count" "I", Cond.methodLink RJ5 138 Lib.Math.min.name, Cond.static Lib.Math.min.name, Cond.initialized "java/lang/Math", Cond.code Lib.Math.min.name Lib.Math.min.code 2 (some .int), Cond.methodLink RJ5 144 yJ0_checkIndex_df160, Cond.static yJ0_checkIndex_df160, Cond.initialized RJ0, Cond.code yJ0_checkIndex_df160 cJ0_checkIndex_df160 2 none, Cond.fieldLink RJ0 1053 "jdk/internal/util/Preconditions" "SIOOBE_FORMATTER" "Ljava/util/function/BiFunction;", Cond.methodLink RJ0 1059 yJ3_checkIndex_8e157, Cond.static yJ3_checkIndex_8e157, Cond.initialized RJ3, Cond.code yJ3_checkIndex_8e157 cJ3_checkIndex_8e157 3 (some .int), Cond.methodLink RJ5 148 yJ2_getChar_3b067, Cond.static yJ2_getChar_3b067]
def wsJ4_charAt_5068e_r2 : List Cond := [Cond.initialized RJ2, Cond.code yJ2_getChar_3b067 cJ2_getChar_3b067 2 (some .char), Cond.fieldLink RJ2 44 "java/lang/StringUTF16" "$assertionsDisabled" "Z", Cond.fieldLink RJ2 59 "java/lang/StringUTF16" "HI_BYTE_SHIFT" "I", Cond.fieldLink RJ2 63 "java/lang/StringUTF16" "LO_BYTE_SHIFT" "I", Cond.methodLink RJ2 48 yJ2_length_9d52b, Cond.static yJ2_length_9d52b, Cond.code yJ2_length_9d52b cJ2_length_9d52b 1 (some .int)]
def wsJ4_charAt_5068e : List Cond := .code yJ4_charAt_5068e cJ4_charAt_5068e 2 (some .char) :: ((wsJ4_charAt_5068e_r1 ++ wsJ4_charAt_5068e_r2) ++ wsJ40)
def wsX6_textAt_r1 : List Cond := [Cond.classLink RX6 59 "java/lang/IndexOutOfBoundsException", Cond.initialized "java/lang/IndexOutOfBoundsException", Cond.classLink RX6 220 RJ4, Cond.instantiable RJ4 4, Cond.initialized RJ4, Cond.methodLink RX6 155 yX6_readingAt, Cond.instanceMethod yX6_readingAt, Cond.selects RX6 yX6_readingAt yX6_readingAt, Cond.initialized RX6, Cond.code yX6_readingAt cX6_readingAt 2 (some (.object "SensorBond$Reading")), Cond.fieldLink RX6 33 "SensorBond" "readingCount" "I", Cond.fieldLink RX6 29 "SensorBond" "readings" "[LSensorBond$Reading;", Cond.methodLink RX6 222 yJ4_init_da8c8, Cond.instanceMethod yJ4_init_da8c8, Cond.code yJ4_init_da8c8 cJ4_init_da8c8 1 none, Cond.methodLink RJ4 1 yJ5_init_d00df, Cond.instanceMethod yJ5_init_d00df, Cond.initialized RJ5, Cond.code yJ5_init_d00df cJ5_init_d00df 2 none, Cond.methodLink RJ5 3 objectInit, Cond.instanceMethod objectInit, Cond.code objectInit ⟨#[0xb1]⟩ 1 none, Cond.fieldLink RJ5 18 "java/lang/String" "COMPACT_STRINGS" "Z", Cond.arrayClass .byte]
def wsX6_textAt_r2 : List Cond := [Cond.fieldLink RJ5 15 "java/lang/AbstractStringBuilder" "value" "[B", Cond.fieldLink RJ5 22 "java/lang/AbstractStringBuilder" "coder" "B", Cond.methodLink RJ5 26 yJ2_newBytesFor_77867, Cond.static yJ2_newBytesFor_77867, Cond.initialized RJ2, Cond.code yJ2_newBytesFor_77867 cJ2_newBytesFor_77867 1 (some (.array .byte)), Cond.methodLink RJ2 11 yJ2_newBytesLength_0f7a4, Cond.static yJ2_newBytesLength_0f7a4, Cond.code yJ2_newBytesLength_0f7a4 cJ2_newBytesLength_0f7a4 1 (some .int), Cond.constant RJ2 20 (1073741823), Cond.methodLink RX6 223 yJ4_append_cf468, Cond.instanceMethod yJ4_append_cf468, Cond.selects RJ4 yJ4_append_cf468 yJ4_append_cf468, Cond.code yJ4_append_cf468 cJ4_append_cf468 2 (some (.object "java/lang/StringBuilder")), Cond.methodLink RJ4 50 yJ5_append_3fe6f, Cond.sameMethod "java/lang/AbstractStringBuilder" "java/lang/AbstractStringBuilder" "append" "(C)Ljava/lang/AbstractStringBuilder;", Cond.superclass RJ4 RJ5, Cond.instanceMethod yJ5_append_3fe6f, Cond.code yJ5_append_3fe6f cJ5_append_3fe6f 2 (some (.object "java/lang/AbstractStringBuilder")), Cond.fieldLink RJ5 79 "java/lang/AbstractStringBuilder" "count" "I", Cond.methodLink RJ5 100 ⟨"java/lang/AbstractStringBuilder", "ensureCapacityInternal", "(I)V"⟩, Cond.sameMethod "java/lang/AbstractStringBuilder" "java/lang/AbstractStringBuilder" "ensureCapacityInternal" "(I)V", Cond.selects RJ4 ⟨"java/lang/AbstractStringBuilder", "ensureCapacityInternal", "(I)V"⟩ yJ5_ensureCapacityInternal_d00df, Cond.instanceMethod yJ5_ensureCapacityInternal_d00df]
def wsX6_textAt_r3 : List Cond := [Cond.code yJ5_ensureCapacityInternal_d00df cJ5_ensureCapacityInternal_d00df 3 none, Cond.methodLink RJ5 104 ⟨"java/lang/AbstractStringBuilder", "newCapacity", "(I)I"⟩, Cond.sameMethod "java/lang/AbstractStringBuilder" "java/lang/AbstractStringBuilder" "newCapacity" "(I)I", Cond.selects RJ4 ⟨"java/lang/AbstractStringBuilder", "newCapacity", "(I)I"⟩ yJ5_newCapacity_0f7a4, Cond.instanceMethod yJ5_newCapacity_0f7a4, Cond.code yJ5_newCapacity_0f7a4 cJ5_newCapacity_0f7a4 6 (some .int), Cond.constant RJ5 39 (2147483647), Cond.methodLink RJ5 114 yJ8_newLength_cabcc, Cond.static yJ8_newLength_cabcc, Cond.initialized RJ8, Cond.code yJ8_newLength_cabcc cJ8_newLength_cabcc 4 (some .int), Cond.methodLink RJ8 194 Lib.Math.max.name, Cond.static Lib.Math.max.name, Cond.initialized "java/lang/Math", Cond.code Lib.Math.max.name Lib.Math.max.code 2 (some .int), Cond.constant RJ8 200 (2147483639), Cond.methodLink RJ8 201 yJ8_hugeLength_7cf53, Cond.static yJ8_hugeLength_7cf53, Cond.code yJ8_hugeLength_7cf53 cJ8_hugeLength_7cf53 3 (some .int), Cond.methodLink RJ5 108 yJ7_copyOf_9075b, Cond.static yJ7_copyOf_9075b, Cond.initialized RJ7, Cond.code yJ7_copyOf_9075b cJ7_copyOf_9075b 3 (some (.array .byte)), Cond.methodLink RJ7 310 ⟨"[B", "clone", "()Ljava/lang/Object;"⟩]
def wsX6_textAt_r4 : List Cond := [Cond.sameMethod "[B" "java/lang/Object" "clone" "()Ljava/lang/Object;", Cond.native ⟨"java/lang/Object", "clone", "()Ljava/lang/Object;"⟩, Cond.instanceMethod ⟨"java/lang/Object", "clone", "()Ljava/lang/Object;"⟩, Cond.selects "[B" ⟨"[B", "clone", "()Ljava/lang/Object;"⟩ ⟨"java/lang/Object", "clone", "()Ljava/lang/Object;"⟩, Cond.classLink RJ7 311 "[B", Cond.methodLink RJ7 304 Lib.Math.min.name, Cond.static Lib.Math.min.name, Cond.code Lib.Math.min.name Lib.Math.min.code 2 (some .int), Cond.methodLink RJ7 150 arraycopyName, Cond.native arraycopyName, Cond.static arraycopyName, Cond.initialized "java/lang/System", Cond.methodLink RJ5 83 ⟨"java/lang/AbstractStringBuilder", "isLatin1", "()Z"⟩, Cond.sameMethod "java/lang/AbstractStringBuilder" "java/lang/AbstractStringBuilder" "isLatin1" "()Z", Cond.selects RJ4 ⟨"java/lang/AbstractStringBuilder", "isLatin1", "()Z"⟩ yJ5_isLatin1_aae02, Cond.instanceMethod yJ5_isLatin1_aae02, Cond.code yJ5_isLatin1_aae02 cJ5_isLatin1_aae02 1 (some .boolean), Cond.methodLink RJ5 191 yJ1_canEncode_fc78d, Cond.static yJ1_canEncode_fc78d, Cond.initialized RJ1, Cond.code yJ1_canEncode_fc78d cJ1_canEncode_fc78d 1 (some .boolean), Cond.methodLink RJ5 195 ⟨"java/lang/AbstractStringBuilder", "inflate", "()V"⟩, Cond.sameMethod "java/lang/AbstractStringBuilder" "java/lang/AbstractStringBuilder" "inflate" "()V", Cond.selects RJ4 ⟨"java/lang/AbstractStringBuilder", "inflate", "()V"⟩ yJ5_inflate_da8c8]
def wsX6_textAt_r5 : List Cond := [Cond.instanceMethod yJ5_inflate_da8c8, Cond.code yJ5_inflate_da8c8 cJ5_inflate_da8c8 2 none, Cond.methodLink RJ5 125 yJ1_inflate_0e8fd, Cond.static yJ1_inflate_0e8fd, Cond.code yJ1_inflate_0e8fd cJ1_inflate_0e8fd 5 none, Cond.methodLink RJ1 240 yJ2_inflate_0e8fd, Cond.static yJ2_inflate_0e8fd, Cond.code yJ2_inflate_0e8fd cJ2_inflate_0e8fd 6 none, Cond.methodLink RJ2 173 yJ2_checkBoundsOffCount_d044e, Cond.static yJ2_checkBoundsOffCount_d044e, Cond.code yJ2_checkBoundsOffCount_d044e cJ2_checkBoundsOffCount_d044e 3 none, Cond.methodLink RJ2 48 yJ2_length_9d52b, Cond.static yJ2_length_9d52b, Cond.code yJ2_length_9d52b cJ2_length_9d52b 1 (some .int), Cond.methodLink RJ2 419 yJ0_checkBoundsOffCount_cabcc, Cond.static yJ0_checkBoundsOffCount_cabcc, Cond.initialized RJ0, Cond.code yJ0_checkBoundsOffCount_cabcc cJ0_checkBoundsOffCount_cabcc 3 (some .int), Cond.fieldLink RJ0 1053 "jdk/internal/util/Preconditions" "SIOOBE_FORMATTER" "Ljava/util/function/BiFunction;", Cond.methodLink RJ0 1065 yJ3_checkFromIndexSize_8c36e, Cond.static yJ3_checkFromIndexSize_8c36e, Cond.initialized RJ3, Cond.code yJ3_checkFromIndexSize_8c36e cJ3_checkFromIndexSize_8c36e 4 (some .int), Cond.methodLink RJ2 111 yJ2_putChar_b72d1]
def wsX6_textAt_r6 : List Cond := [Cond.static yJ2_putChar_b72d1, Cond.code yJ2_putChar_b72d1 cJ2_putChar_b72d1 3 none, Cond.fieldLink RJ2 44 "java/lang/StringUTF16" "$assertionsDisabled" "Z", Cond.fieldLink RJ2 59 "java/lang/StringUTF16" "HI_BYTE_SHIFT" "I", Cond.fieldLink RJ2 63 "java/lang/StringUTF16" "LO_BYTE_SHIFT" "I", Cond.methodLink RJ5 197 yJ2_putCharSB_b72d1, Cond.static yJ2_putCharSB_b72d1, Cond.code yJ2_putCharSB_b72d1 cJ2_putCharSB_b72d1 3 none, Cond.methodLink RJ2 67 yJ2_checkIndex_2214a, Cond.static yJ2_checkIndex_2214a, Cond.code yJ2_checkIndex_2214a cJ2_checkIndex_2214a 2 none, Cond.methodLink RJ2 414 yJ0_checkIndex_df160, Cond.static yJ0_checkIndex_df160, Cond.code yJ0_checkIndex_df160 cJ0_checkIndex_df160 2 none, Cond.methodLink RJ0 1059 yJ3_checkIndex_8e157, Cond.static yJ3_checkIndex_8e157, Cond.code yJ3_checkIndex_8e157 cJ3_checkIndex_8e157 3 (some .int), Cond.methodLink RX6 230 yJ4_append_bf812, Cond.instanceMethod yJ4_append_bf812, Cond.selects RJ4 yJ4_append_bf812 yJ4_append_bf812, Cond.code yJ4_append_bf812 cJ4_append_bf812 2 (some (.object "java/lang/StringBuilder")), Cond.methodLink RJ4 53 yJ5_append_c97b9, Cond.sameMethod "java/lang/AbstractStringBuilder" "java/lang/AbstractStringBuilder" "append" "(I)Ljava/lang/AbstractStringBuilder;", Cond.instanceMethod yJ5_append_c97b9]
def wsX6_textAt_r7 : List Cond := [Cond.code yJ5_append_c97b9 cJ5_append_c97b9 4 (some (.object "java/lang/AbstractStringBuilder")), Cond.methodLink RJ5 245 yJ6_stringSize_0f7a4, Cond.static yJ6_stringSize_0f7a4, Cond.initialized RJ6, Cond.code yJ6_stringSize_0f7a4 cJ6_stringSize_0f7a4 4 (some .int), Cond.methodLink RJ5 248 yJ6_getChars_ba4f3, Cond.static yJ6_getChars_ba4f3, Cond.code yJ6_getChars_ba4f3 cJ6_getChars_ba4f3 7 (some .int), Cond.fieldLink RJ6 83 "java/lang/Integer" "DigitOnes" "[B", Cond.fieldLink RJ6 87 "java/lang/Integer" "DigitTens" "[B", Cond.methodLink RJ5 251 yJ2_getChars_46870, Cond.static yJ2_getChars_46870, Cond.code yJ2_getChars_46870 cJ2_getChars_46870 5 (some .int), Cond.methodLink RJ2 96 yJ2_checkBoundsBeginEnd_d044e, Cond.static yJ2_checkBoundsBeginEnd_d044e, Cond.code yJ2_checkBoundsBeginEnd_d044e cJ2_checkBoundsBeginEnd_d044e 3 none, Cond.methodLink RJ2 241 yJ0_checkBoundsBeginEnd_23922, Cond.static yJ0_checkBoundsBeginEnd_23922, Cond.code yJ0_checkBoundsBeginEnd_23922 cJ0_checkBoundsBeginEnd_23922 3 none, Cond.methodLink RJ0 1062 yJ3_checkFromToIndex_8c36e, Cond.static yJ3_checkFromToIndex_8c36e, Cond.code yJ3_checkFromToIndex_8c36e cJ3_checkFromToIndex_8c36e 4 (some .int), Cond.methodLink RJ2 393 yJ2_getChars_ba4f3, Cond.static yJ2_getChars_ba4f3]
def wsX6_textAt_r8 : List Cond := [Cond.code yJ2_getChars_ba4f3 cJ2_getChars_ba4f3 7 (some .int), Cond.fieldLink RJ2 403 "java/lang/Integer" "DigitOnes" "[B", Cond.fieldLink RJ2 407 "java/lang/Integer" "DigitTens" "[B", Cond.methodLink RX6 233 yX6_signOf, Cond.static yX6_signOf, Cond.code yX6_signOf cX6_signOf 1 (some .char), Cond.methodLink RX6 237 yJ4_length_8abf5, Cond.instanceMethod yJ4_length_8abf5, Cond.selects RJ4 yJ4_length_8abf5 yJ4_length_8abf5, Cond.code yJ4_length_8abf5 cJ4_length_8abf5 1 (some .int), Cond.methodLink RJ4 343 yJ5_length_8abf5, Cond.sameMethod "java/lang/AbstractStringBuilder" "java/lang/AbstractStringBuilder" "length" "()I", Cond.instanceMethod yJ5_length_8abf5, Cond.code yJ5_length_8abf5 cJ5_length_8abf5 1 (some .int), Cond.methodLink RX6 240 yJ4_charAt_5068e, Cond.instanceMethod yJ4_charAt_5068e, Cond.selects RJ4 yJ4_charAt_5068e yJ4_charAt_5068e, Cond.code yJ4_charAt_5068e cJ4_charAt_5068e 2 (some .char), Cond.methodLink RJ4 329 yJ5_charAt_5068e, Cond.sameMethod "java/lang/AbstractStringBuilder" "java/lang/AbstractStringBuilder" "charAt" "(I)C", Cond.instanceMethod yJ5_charAt_5068e, Cond.code yJ5_charAt_5068e cJ5_charAt_5068e 5 (some .char), Cond.methodLink RJ5 138 Lib.Math.min.name, Cond.methodLink RJ5 144 yJ0_checkIndex_df160]
def wsX6_textAt_r9 : List Cond := [Cond.methodLink RJ5 148 yJ2_getChar_3b067, Cond.static yJ2_getChar_3b067, Cond.code yJ2_getChar_3b067 cJ2_getChar_3b067 2 (some .char)]
def wsX6_textAt : List Cond := .code yX6_textAt cX6_textAt 5 (some .int) :: ((wsX6_textAt_r1 ++ (wsX6_textAt_r2 ++ (wsX6_textAt_r3 ++ (wsX6_textAt_r4 ++ (wsX6_textAt_r5 ++ (wsX6_textAt_r6 ++ (wsX6_textAt_r7 ++ (wsX6_textAt_r8 ++ wsX6_textAt_r9)))))))) ++ wsJ40 ++ wsX20 ++ wsX40 ++ wsX60 ++ (vx_atS RX6 63 "java/lang/IndexOutOfBoundsException" ["java/lang/RuntimeException", "java/lang/Exception"]).filter goodWord)
def wsX6_bond : List Cond := .code yX6_bond cX6_bond 2 (some .int) :: ([.methodLink RX6 69 yX6_sensorAt, .instanceMethod yX6_sensorAt, .selects RX6 yX6_sensorAt yX6_sensorAt, .initialized RX6, .code yX6_sensorAt cX6_sensorAt 2 (some (.object "SensorBond$Sensor")), .classLink RX6 59 "java/lang/IndexOutOfBoundsException", .initialized "java/lang/IndexOutOfBoundsException", .fieldLink RX6 17 "SensorBond" "sensors" "[LSensorBond$Sensor;"] ++ wsX40 ++ wsX60 ++ (vx_atS RX6 63 "java/lang/IndexOutOfBoundsException" ["java/lang/RuntimeException", "java/lang/Exception"]).filter goodWord)
def wsX6_bondByCuts : List Cond := .code yX6_bondByCuts cX6_bondByCuts 5 (some .int) :: ([.fieldLink RX6 33 "SensorBond" "readingCount" "I", .fieldLink RX6 29 "SensorBond" "readings" "[LSensorBond$Reading;", .methodLink RX6 69 yX6_sensorAt, .instanceMethod yX6_sensorAt, .selects RX6 yX6_sensorAt yX6_sensorAt, .initialized RX6, .code yX6_sensorAt cX6_sensorAt 2 (some (.object "SensorBond$Sensor")), .classLink RX6 59 "java/lang/IndexOutOfBoundsException", .initialized "java/lang/IndexOutOfBoundsException", .fieldLink RX6 17 "SensorBond" "sensors" "[LSensorBond$Sensor;"] ++ wsX40 ++ wsX60 ++ wsX20 ++ (vx_atS RX6 63 "java/lang/IndexOutOfBoundsException" ["java/lang/RuntimeException", "java/lang/Exception"]).filter goodWord)
def wsX6_earned : List Cond := .code yX6_earned cX6_earned 2 (some .int) :: ([.methodLink RX6 69 yX6_sensorAt, .instanceMethod yX6_sensorAt, .selects RX6 yX6_sensorAt yX6_sensorAt, .initialized RX6, .code yX6_sensorAt cX6_sensorAt 2 (some (.object "SensorBond$Sensor")), .classLink RX6 59 "java/lang/IndexOutOfBoundsException", .initialized "java/lang/IndexOutOfBoundsException", .fieldLink RX6 17 "SensorBond" "sensors" "[LSensorBond$Sensor;"] ++ wsX40 ++ wsX60 ++ (vx_atS RX6 63 "java/lang/IndexOutOfBoundsException" ["java/lang/RuntimeException", "java/lang/Exception"]).filter goodWord)
def wsX6_weightOf : List Cond := .code yX6_weightOf cX6_weightOf 1 (some .int) :: ([])
def wsX6_mark : List Cond := .code yX6_mark cX6_mark 5 (some .int) :: ([.fieldLink RX6 33 "SensorBond" "readingCount" "I", .fieldLink RX6 29 "SensorBond" "readings" "[LSensorBond$Reading;", .methodLink RX6 69 yX6_sensorAt, .instanceMethod yX6_sensorAt, .selects RX6 yX6_sensorAt yX6_sensorAt, .initialized RX6, .code yX6_sensorAt cX6_sensorAt 2 (some (.object "SensorBond$Sensor")), .classLink RX6 59 "java/lang/IndexOutOfBoundsException", .initialized "java/lang/IndexOutOfBoundsException", .fieldLink RX6 17 "SensorBond" "sensors" "[LSensorBond$Sensor;", .methodLink RX6 246 yX6_weightOf, .static yX6_weightOf, .code yX6_weightOf cX6_weightOf 1 (some .int)] ++ wsX60 ++ wsX20 ++ (vx_atS RX6 63 "java/lang/IndexOutOfBoundsException" ["java/lang/RuntimeException", "java/lang/Exception"]).filter goodWord)
def wsX6_purse : List Cond := .code yX6_purse cX6_purse 2 (some .int) :: ([.methodLink RX6 134 yX6_buyerAt, .instanceMethod yX6_buyerAt, .selects RX6 yX6_buyerAt yX6_buyerAt, .initialized RX6, .code yX6_buyerAt cX6_buyerAt 2 (some (.object "SensorBond$Buyer")), .classLink RX6 59 "java/lang/IndexOutOfBoundsException", .initialized "java/lang/IndexOutOfBoundsException", .fieldLink RX6 23 "SensorBond" "buyers" "[LSensorBond$Buyer;"] ++ wsX00 ++ wsX60 ++ (vx_atS RX6 63 "java/lang/IndexOutOfBoundsException" ["java/lang/RuntimeException", "java/lang/Exception"]).filter goodWord)
def wsX6_aside : List Cond := .code yX6_aside cX6_aside 6 (some .int) :: ([.methodLink RX6 134 yX6_buyerAt, .instanceMethod yX6_buyerAt, .selects RX6 yX6_buyerAt yX6_buyerAt, .initialized RX6, .code yX6_buyerAt cX6_buyerAt 2 (some (.object "SensorBond$Buyer")), .classLink RX6 59 "java/lang/IndexOutOfBoundsException", .initialized "java/lang/IndexOutOfBoundsException", .fieldLink RX6 23 "SensorBond" "buyers" "[LSensorBond$Buyer;", .methodLink RX6 69 yX6_sensorAt, .instanceMethod yX6_sensorAt, .selects RX6 yX6_sensorAt yX6_sensorAt, .code yX6_sensorAt cX6_sensorAt 2 (some (.object "SensorBond$Sensor")), .fieldLink RX6 17 "SensorBond" "sensors" "[LSensorBond$Sensor;"] ++ wsX00 ++ wsX40 ++ wsX50 ++ wsX60 ++ (vx_atS RX6 63 "java/lang/IndexOutOfBoundsException" ["java/lang/RuntimeException", "java/lang/Exception"]).filter goodWord)
def wsX6_house : List Cond := .code yX6_house cX6_house 1 (some .int) :: ([.fieldLink RX6 37 "SensorBond" "house" "I"] ++ wsX60)
def wsX7_init_r1 : List Cond := [Cond.methodLink RX7 1 objectInit, Cond.instanceMethod objectInit, Cond.code objectInit ⟨#[0xb1]⟩ 1 none, Cond.arrayClass .int, Cond.fieldLink RX7 7 "SensorBondModel" "hangsOn" "[I", Cond.fieldLink RX7 13 "SensorBondModel" "lossOf" "[I", Cond.fieldLink RX7 16 "SensorBondModel" "came" "[I", Cond.fieldLink RX7 19 "SensorBondModel" "gone" "[I", Cond.fieldLink RX7 22 "SensorBondModel" "attached" "[I", Cond.fieldLink RX7 25 "SensorBondModel" "bond" "[I", Cond.fieldLink RX7 28 "SensorBondModel" "earned" "[I", Cond.fieldLink RX7 31 "SensorBondModel" "price" "[I", Cond.fieldLink RX7 34 "SensorBondModel" "toldIn" "[I", Cond.fieldLink RX7 37 "SensorBondModel" "purse" "[I", Cond.arrayClass .boolean, Cond.fieldLink RX7 40 "SensorBondModel" "isOpen" "[Z", Cond.fieldLink RX7 44 "SensorBondModel" "lastTick" "[I", Cond.fieldLink RX7 47 "SensorBondModel" "windowPrice" "[I", Cond.fieldLink RX7 50 "SensorBondModel" "aside" "[I", Cond.fieldLink RX7 53 "SensorBondModel" "by" "[I", Cond.fieldLink RX7 56 "SensorBondModel" "value" "[I", Cond.fieldLink RX7 59 "SensorBondModel" "state" "[I", Cond.fieldLink RX7 62 "SensorBondModel" "passed" "[I", Cond.fieldLink RX7 65 "SensorBondModel" "since" "[I"]
def wsX7_init_r2 : List Cond := [Cond.fieldLink RX7 68 "SensorBondModel" "challenger" "[I", Cond.fieldLink RX7 71 "SensorBondModel" "held" "[I", Cond.fieldLink RX7 74 "SensorBondModel" "usedBy" "[I", Cond.fieldLink RX7 77 "SensorBondModel" "samples" "[I"]
def wsX7_init : List Cond := .code yX7_init cX7_init 2 none :: ((wsX7_init_r1 ++ wsX7_init_r2) ++ wsX70)
def wsX7_thrown : List Cond := .code yX7_thrown cX7_thrown 1 (some .int) :: ([.fieldLink RX7 80 "SensorBondModel" "thrown" "I"] ++ wsX70)
def wsX7_can : List Cond := .code yX7_can cX7_can 2 (some .boolean) :: ([.fieldLink RX7 80 "SensorBondModel" "thrown" "I"] ++ wsX70)
def wsX7_isIn : List Cond := .code yX7_isIn cX7_isIn 3 (some .boolean) :: ([])
def wsX7_isSensor : List Cond := .code yX7_isSensor cX7_isSensor 1 (some .boolean) :: ([.methodLink RX7 84 yX7_isIn, .static yX7_isIn, .initialized RX7, .code yX7_isIn cX7_isIn 3 (some .boolean)])
def wsX7_isRepeater : List Cond := .code yX7_isRepeater cX7_isRepeater 1 (some .boolean) :: ([.methodLink RX7 84 yX7_isIn, .static yX7_isIn, .initialized RX7, .code yX7_isIn cX7_isIn 3 (some .boolean)])
def wsX7_isBuyer : List Cond := .code yX7_isBuyer cX7_isBuyer 1 (some .boolean) :: ([.methodLink RX7 84 yX7_isIn, .static yX7_isIn, .initialized RX7, .code yX7_isIn cX7_isIn 3 (some .boolean)])
def wsX7_isReading : List Cond := .code yX7_isReading cX7_isReading 2 (some .boolean) :: ([.fieldLink RX7 88 "SensorBondModel" "readings" "I", .methodLink RX7 84 yX7_isIn, .static yX7_isIn, .initialized RX7, .code yX7_isIn cX7_isIn 3 (some .boolean)] ++ wsX70)
def wsX7_isValue : List Cond := .code yX7_isValue cX7_isValue 1 (some .boolean) :: ([.methodLink RX7 84 yX7_isIn, .static yX7_isIn, .initialized RX7, .code yX7_isIn cX7_isIn 3 (some .boolean)])
def wsX7_apart : List Cond := .code yX7_apart cX7_apart 2 (some .int) :: ([])
def wsX7_areNeighbours : List Cond := .code yX7_areNeighbours cX7_areNeighbours 4 (some .boolean) :: ([.methodLink RX7 91 yX7_apart, .static yX7_apart, .initialized RX7, .code yX7_apart cX7_apart 2 (some .int)])
def wsX7_neighboursOf : List Cond := .code yX7_neighboursOf cX7_neighboursOf 3 (some .int) :: ([.methodLink RX7 95 yX7_areNeighbours, .static yX7_areNeighbours, .initialized RX7, .code yX7_areNeighbours cX7_areNeighbours 4 (some .boolean), .methodLink RX7 91 yX7_apart, .static yX7_apart, .code yX7_apart cX7_apart 2 (some .int)])
def wsX7_hang : List Cond := .code yX7_hang cX7_hang 4 (some .int) :: ([.fieldLink RX7 7 "SensorBondModel" "hangsOn" "[I", .methodLink RX7 84 yX7_isIn, .static yX7_isIn, .initialized RX7, .code yX7_isIn cX7_isIn 3 (some .boolean), .methodLink RX7 99 yX7_can, .instanceMethod yX7_can, .selects RX7 yX7_can yX7_can, .code yX7_can cX7_can 2 (some .boolean), .fieldLink RX7 80 "SensorBondModel" "thrown" "I"] ++ wsX70)
def wsX7_attach : List Cond := .code yX7_attach cX7_attach 4 (some .int) :: ([.fieldLink RX7 22 "SensorBondModel" "attached" "[I", .methodLink RX7 103 yX7_isSensor, .static yX7_isSensor, .initialized RX7, .code yX7_isSensor cX7_isSensor 1 (some .boolean), .methodLink RX7 84 yX7_isIn, .static yX7_isIn, .code yX7_isIn cX7_isIn 3 (some .boolean), .methodLink RX7 106 yX7_isRepeater, .static yX7_isRepeater, .code yX7_isRepeater cX7_isRepeater 1 (some .boolean), .methodLink RX7 99 yX7_can, .instanceMethod yX7_can, .selects RX7 yX7_can yX7_can, .code yX7_can cX7_can 2 (some .boolean), .fieldLink RX7 80 "SensorBondModel" "thrown" "I"] ++ wsX70)
def wsX7_setLoss : List Cond := .code yX7_setLoss cX7_setLoss 4 (some .int) :: ([.fieldLink RX7 19 "SensorBondModel" "gone" "[I", .fieldLink RX7 13 "SensorBondModel" "lossOf" "[I", .fieldLink RX7 16 "SensorBondModel" "came" "[I", .methodLink RX7 106 yX7_isRepeater, .static yX7_isRepeater, .initialized RX7, .code yX7_isRepeater cX7_isRepeater 1 (some .boolean), .methodLink RX7 84 yX7_isIn, .static yX7_isIn, .code yX7_isIn cX7_isIn 3 (some .boolean), .methodLink RX7 99 yX7_can, .instanceMethod yX7_can, .selects RX7 yX7_can yX7_can, .code yX7_can cX7_can 2 (some .boolean), .fieldLink RX7 80 "SensorBondModel" "thrown" "I"] ++ wsX70)
def wsX7_setPrice : List Cond := .code yX7_setPrice cX7_setPrice 4 (some .int) :: ([.fieldLink RX7 31 "SensorBondModel" "price" "[I", .methodLink RX7 103 yX7_isSensor, .static yX7_isSensor, .initialized RX7, .code yX7_isSensor cX7_isSensor 1 (some .boolean), .methodLink RX7 84 yX7_isIn, .static yX7_isIn, .code yX7_isIn cX7_isIn 3 (some .boolean), .methodLink RX7 99 yX7_can, .instanceMethod yX7_can, .selects RX7 yX7_can yX7_can, .code yX7_can cX7_can 2 (some .boolean), .fieldLink RX7 80 "SensorBondModel" "thrown" "I"] ++ wsX70)
def wsX7_topUp : List Cond := .code yX7_topUp cX7_topUp 3 (some .int) :: ([.fieldLink RX7 28 "SensorBondModel" "earned" "[I", .fieldLink RX7 25 "SensorBondModel" "bond" "[I", .methodLink RX7 103 yX7_isSensor, .static yX7_isSensor, .initialized RX7, .code yX7_isSensor cX7_isSensor 1 (some .boolean), .methodLink RX7 84 yX7_isIn, .static yX7_isIn, .code yX7_isIn cX7_isIn 3 (some .boolean), .methodLink RX7 99 yX7_can, .instanceMethod yX7_can, .selects RX7 yX7_can yX7_can, .code yX7_can cX7_can 2 (some .boolean), .fieldLink RX7 80 "SensorBondModel" "thrown" "I"] ++ wsX70)
def wsX7_goes : List Cond := .code yX7_goes cX7_goes 3 (some .boolean) :: ([.fieldLink RX7 16 "SensorBondModel" "came" "[I", .fieldLink RX7 13 "SensorBondModel" "lossOf" "[I", .fieldLink RX7 19 "SensorBondModel" "gone" "[I", .fieldLink RX7 7 "SensorBondModel" "hangsOn" "[I"] ++ wsX70)
def wsX7_tell_r1 : List Cond := [Cond.fieldLink RX7 25 "SensorBondModel" "bond" "[I", Cond.fieldLink RX7 34 "SensorBondModel" "toldIn" "[I", Cond.fieldLink RX7 109 "SensorBondModel" "tick" "I", Cond.fieldLink RX7 88 "SensorBondModel" "readings" "I", Cond.fieldLink RX7 53 "SensorBondModel" "by" "[I", Cond.fieldLink RX7 56 "SensorBondModel" "value" "[I", Cond.fieldLink RX7 65 "SensorBondModel" "since" "[I", Cond.fieldLink RX7 62 "SensorBondModel" "passed" "[I", Cond.fieldLink RX7 22 "SensorBondModel" "attached" "[I", Cond.fieldLink RX7 59 "SensorBondModel" "state" "[I", Cond.fieldLink RX7 40 "SensorBondModel" "isOpen" "[Z", Cond.fieldLink RX7 50 "SensorBondModel" "aside" "[I", Cond.fieldLink RX7 47 "SensorBondModel" "windowPrice" "[I", Cond.fieldLink RX7 71 "SensorBondModel" "held" "[I", Cond.fieldLink RX7 74 "SensorBondModel" "usedBy" "[I", Cond.methodLink RX7 103 yX7_isSensor, Cond.static yX7_isSensor, Cond.initialized RX7, Cond.code yX7_isSensor cX7_isSensor 1 (some .boolean), Cond.methodLink RX7 84 yX7_isIn, Cond.static yX7_isIn, Cond.code yX7_isIn cX7_isIn 3 (some .boolean), Cond.methodLink RX7 112 yX7_isValue, Cond.static yX7_isValue]
def wsX7_tell_r2 : List Cond := [Cond.code yX7_isValue cX7_isValue 1 (some .boolean), Cond.methodLink RX7 99 yX7_can, Cond.instanceMethod yX7_can, Cond.selects RX7 yX7_can yX7_can, Cond.code yX7_can cX7_can 2 (some .boolean), Cond.fieldLink RX7 80 "SensorBondModel" "thrown" "I", Cond.methodLink RX7 115 yX7_goes, Cond.instanceMethod yX7_goes, Cond.selects RX7 yX7_goes yX7_goes, Cond.code yX7_goes cX7_goes 3 (some .boolean), Cond.fieldLink RX7 16 "SensorBondModel" "came" "[I", Cond.fieldLink RX7 13 "SensorBondModel" "lossOf" "[I", Cond.fieldLink RX7 19 "SensorBondModel" "gone" "[I", Cond.fieldLink RX7 7 "SensorBondModel" "hangsOn" "[I"]
def wsX7_tell : List Cond := .code yX7_tell cX7_tell 8 (some .int) :: ((wsX7_tell_r1 ++ wsX7_tell_r2) ++ wsX70)
def wsX7_open : List Cond := .code yX7_open cX7_open 7 (some .int) :: ([.fieldLink RX7 40 "SensorBondModel" "isOpen" "[Z", .fieldLink RX7 37 "SensorBondModel" "purse" "[I", .fieldLink RX7 31 "SensorBondModel" "price" "[I", .fieldLink RX7 44 "SensorBondModel" "lastTick" "[I", .fieldLink RX7 109 "SensorBondModel" "tick" "I", .fieldLink RX7 47 "SensorBondModel" "windowPrice" "[I", .fieldLink RX7 50 "SensorBondModel" "aside" "[I", .methodLink RX7 118 yX7_isBuyer, .static yX7_isBuyer, .initialized RX7, .code yX7_isBuyer cX7_isBuyer 1 (some .boolean), .methodLink RX7 84 yX7_isIn, .static yX7_isIn, .code yX7_isIn cX7_isIn 3 (some .boolean), .methodLink RX7 103 yX7_isSensor, .static yX7_isSensor, .code yX7_isSensor cX7_isSensor 1 (some .boolean), .methodLink RX7 99 yX7_can, .instanceMethod yX7_can, .selects RX7 yX7_can yX7_can, .code yX7_can cX7_can 2 (some .boolean), .fieldLink RX7 80 "SensorBondModel" "thrown" "I"] ++ wsX70)
def wsX7_challenge_r1 : List Cond := [Cond.fieldLink RX7 59 "SensorBondModel" "state" "[I", Cond.fieldLink RX7 37 "SensorBondModel" "purse" "[I", Cond.fieldLink RX7 68 "SensorBondModel" "challenger" "[I", Cond.fieldLink RX7 65 "SensorBondModel" "since" "[I", Cond.fieldLink RX7 109 "SensorBondModel" "tick" "I", Cond.fieldLink RX7 53 "SensorBondModel" "by" "[I", Cond.methodLink RX7 118 yX7_isBuyer, Cond.static yX7_isBuyer, Cond.initialized RX7, Cond.code yX7_isBuyer cX7_isBuyer 1 (some .boolean), Cond.methodLink RX7 84 yX7_isIn, Cond.static yX7_isIn, Cond.code yX7_isIn cX7_isIn 3 (some .boolean), Cond.methodLink RX7 121 yX7_isReading, Cond.instanceMethod yX7_isReading, Cond.selects RX7 yX7_isReading yX7_isReading, Cond.code yX7_isReading cX7_isReading 2 (some .boolean), Cond.fieldLink RX7 88 "SensorBondModel" "readings" "I", Cond.methodLink RX7 99 yX7_can, Cond.instanceMethod yX7_can, Cond.selects RX7 yX7_can yX7_can, Cond.code yX7_can cX7_can 2 (some .boolean), Cond.fieldLink RX7 80 "SensorBondModel" "thrown" "I", Cond.methodLink RX7 124 yX7_neighboursOf]
def wsX7_challenge_r2 : List Cond := [Cond.static yX7_neighboursOf, Cond.code yX7_neighboursOf cX7_neighboursOf 3 (some .int), Cond.methodLink RX7 95 yX7_areNeighbours, Cond.static yX7_areNeighbours, Cond.code yX7_areNeighbours cX7_areNeighbours 4 (some .boolean), Cond.methodLink RX7 91 yX7_apart, Cond.static yX7_apart, Cond.code yX7_apart cX7_apart 2 (some .int)]
def wsX7_challenge : List Cond := .code yX7_challenge cX7_challenge 4 (some .int) :: ((wsX7_challenge_r1 ++ wsX7_challenge_r2) ++ wsX70)
def wsX7_samplesFor : List Cond := .code yX7_samplesFor cX7_samplesFor 4 (some .int) :: ([.fieldLink RX7 77 "SensorBondModel" "samples" "[I"] ++ wsX70)
def wsX7_middleOf : List Cond := .code yX7_middleOf cX7_middleOf 9 (some .int) :: ([.fieldLink RX7 77 "SensorBondModel" "samples" "[I", .methodLink RX7 128 yX7_samplesFor, .instanceMethod yX7_samplesFor, .selects RX7 yX7_samplesFor yX7_samplesFor, .initialized RX7, .code yX7_samplesFor cX7_samplesFor 4 (some .int)] ++ wsX70)
def wsX7_size : List Cond := .code yX7_size cX7_size 3 (some .int) :: ([])
def wsX7_stands : List Cond := .code yX7_stands cX7_stands 3 none :: ([.fieldLink RX7 59 "SensorBondModel" "state" "[I", .fieldLink RX7 28 "SensorBondModel" "earned" "[I", .fieldLink RX7 53 "SensorBondModel" "by" "[I", .fieldLink RX7 71 "SensorBondModel" "held" "[I"] ++ wsX70)
def wsX7_lies : List Cond := .code yX7_lies cX7_lies 8 none :: ([.fieldLink RX7 53 "SensorBondModel" "by" "[I", .fieldLink RX7 74 "SensorBondModel" "usedBy" "[I", .fieldLink RX7 31 "SensorBondModel" "price" "[I", .fieldLink RX7 25 "SensorBondModel" "bond" "[I", .fieldLink RX7 59 "SensorBondModel" "state" "[I", .fieldLink RX7 37 "SensorBondModel" "purse" "[I", .fieldLink RX7 68 "SensorBondModel" "challenger" "[I", .fieldLink RX7 71 "SensorBondModel" "held" "[I", .fieldLink RX7 134 "SensorBondModel" "house" "I", .methodLink RX7 131 yX7_size, .static yX7_size, .initialized RX7, .code yX7_size cX7_size 3 (some .int)] ++ wsX70)
def wsX7_judges_r1 : List Cond := [Cond.fieldLink RX7 56 "SensorBondModel" "value" "[I", Cond.fieldLink RX7 28 "SensorBondModel" "earned" "[I", Cond.fieldLink RX7 53 "SensorBondModel" "by" "[I", Cond.methodLink RX7 137 yX7_middleOf, Cond.instanceMethod yX7_middleOf, Cond.selects RX7 yX7_middleOf yX7_middleOf, Cond.initialized RX7, Cond.code yX7_middleOf cX7_middleOf 9 (some .int), Cond.fieldLink RX7 77 "SensorBondModel" "samples" "[I", Cond.methodLink RX7 128 yX7_samplesFor, Cond.instanceMethod yX7_samplesFor, Cond.selects RX7 yX7_samplesFor yX7_samplesFor, Cond.code yX7_samplesFor cX7_samplesFor 4 (some .int), Cond.methodLink RX7 91 yX7_apart, Cond.static yX7_apart, Cond.code yX7_apart cX7_apart 2 (some .int), Cond.methodLink RX7 140 yX7_lies, Cond.instanceMethod yX7_lies, Cond.selects RX7 yX7_lies yX7_lies, Cond.code yX7_lies cX7_lies 8 none, Cond.fieldLink RX7 74 "SensorBondModel" "usedBy" "[I", Cond.fieldLink RX7 31 "SensorBondModel" "price" "[I", Cond.fieldLink RX7 25 "SensorBondModel" "bond" "[I", Cond.fieldLink RX7 59 "SensorBondModel" "state" "[I"]
def wsX7_judges_r2 : List Cond := [Cond.fieldLink RX7 37 "SensorBondModel" "purse" "[I", Cond.fieldLink RX7 68 "SensorBondModel" "challenger" "[I", Cond.fieldLink RX7 71 "SensorBondModel" "held" "[I", Cond.fieldLink RX7 134 "SensorBondModel" "house" "I", Cond.methodLink RX7 131 yX7_size, Cond.static yX7_size, Cond.code yX7_size cX7_size 3 (some .int), Cond.methodLink RX7 144 yX7_stands, Cond.instanceMethod yX7_stands, Cond.selects RX7 yX7_stands yX7_stands, Cond.code yX7_stands cX7_stands 3 none]
def wsX7_judges : List Cond := .code yX7_judges cX7_judges 3 none :: ((wsX7_judges_r1 ++ wsX7_judges_r2) ++ wsX70)
def wsX7_sample_r1 : List Cond := [Cond.fieldLink RX7 59 "SensorBondModel" "state" "[I", Cond.fieldLink RX7 53 "SensorBondModel" "by" "[I", Cond.fieldLink RX7 77 "SensorBondModel" "samples" "[I", Cond.methodLink RX7 103 yX7_isSensor, Cond.static yX7_isSensor, Cond.initialized RX7, Cond.code yX7_isSensor cX7_isSensor 1 (some .boolean), Cond.methodLink RX7 84 yX7_isIn, Cond.static yX7_isIn, Cond.code yX7_isIn cX7_isIn 3 (some .boolean), Cond.methodLink RX7 121 yX7_isReading, Cond.instanceMethod yX7_isReading, Cond.selects RX7 yX7_isReading yX7_isReading, Cond.code yX7_isReading cX7_isReading 2 (some .boolean), Cond.fieldLink RX7 88 "SensorBondModel" "readings" "I", Cond.methodLink RX7 95 yX7_areNeighbours, Cond.static yX7_areNeighbours, Cond.code yX7_areNeighbours cX7_areNeighbours 4 (some .boolean), Cond.methodLink RX7 91 yX7_apart, Cond.static yX7_apart, Cond.code yX7_apart cX7_apart 2 (some .int), Cond.methodLink RX7 112 yX7_isValue, Cond.static yX7_isValue, Cond.code yX7_isValue cX7_isValue 1 (some .boolean)]
def wsX7_sample_r2 : List Cond := [Cond.methodLink RX7 99 yX7_can, Cond.instanceMethod yX7_can, Cond.selects RX7 yX7_can yX7_can, Cond.code yX7_can cX7_can 2 (some .boolean), Cond.fieldLink RX7 80 "SensorBondModel" "thrown" "I", Cond.methodLink RX7 128 yX7_samplesFor, Cond.instanceMethod yX7_samplesFor, Cond.selects RX7 yX7_samplesFor yX7_samplesFor, Cond.code yX7_samplesFor cX7_samplesFor 4 (some .int), Cond.methodLink RX7 124 yX7_neighboursOf, Cond.static yX7_neighboursOf, Cond.code yX7_neighboursOf cX7_neighboursOf 3 (some .int), Cond.methodLink RX7 147 yX7_judges, Cond.instanceMethod yX7_judges, Cond.selects RX7 yX7_judges yX7_judges, Cond.code yX7_judges cX7_judges 3 none, Cond.fieldLink RX7 56 "SensorBondModel" "value" "[I", Cond.fieldLink RX7 28 "SensorBondModel" "earned" "[I", Cond.methodLink RX7 137 yX7_middleOf, Cond.instanceMethod yX7_middleOf, Cond.selects RX7 yX7_middleOf yX7_middleOf, Cond.code yX7_middleOf cX7_middleOf 9 (some .int), Cond.methodLink RX7 140 yX7_lies, Cond.instanceMethod yX7_lies]
def wsX7_sample_r3 : List Cond := [Cond.selects RX7 yX7_lies yX7_lies, Cond.code yX7_lies cX7_lies 8 none, Cond.fieldLink RX7 74 "SensorBondModel" "usedBy" "[I", Cond.fieldLink RX7 31 "SensorBondModel" "price" "[I", Cond.fieldLink RX7 25 "SensorBondModel" "bond" "[I", Cond.fieldLink RX7 37 "SensorBondModel" "purse" "[I", Cond.fieldLink RX7 68 "SensorBondModel" "challenger" "[I", Cond.fieldLink RX7 71 "SensorBondModel" "held" "[I", Cond.fieldLink RX7 134 "SensorBondModel" "house" "I", Cond.methodLink RX7 131 yX7_size, Cond.static yX7_size, Cond.code yX7_size cX7_size 3 (some .int), Cond.methodLink RX7 144 yX7_stands, Cond.instanceMethod yX7_stands, Cond.selects RX7 yX7_stands yX7_stands, Cond.code yX7_stands cX7_stands 3 none]
def wsX7_sample : List Cond := .code yX7_sample cX7_sample 6 (some .int) :: ((wsX7_sample_r1 ++ (wsX7_sample_r2 ++ wsX7_sample_r3)) ++ wsX70)
def wsX7_ends_r1 : List Cond := [Cond.fieldLink RX7 88 "SensorBondModel" "readings" "I", Cond.fieldLink RX7 109 "SensorBondModel" "tick" "I", Cond.fieldLink RX7 65 "SensorBondModel" "since" "[I", Cond.fieldLink RX7 59 "SensorBondModel" "state" "[I", Cond.fieldLink RX7 40 "SensorBondModel" "isOpen" "[Z", Cond.fieldLink RX7 44 "SensorBondModel" "lastTick" "[I", Cond.fieldLink RX7 37 "SensorBondModel" "purse" "[I", Cond.fieldLink RX7 50 "SensorBondModel" "aside" "[I", Cond.methodLink RX7 147 yX7_judges, Cond.instanceMethod yX7_judges, Cond.selects RX7 yX7_judges yX7_judges, Cond.initialized RX7, Cond.code yX7_judges cX7_judges 3 none, Cond.fieldLink RX7 56 "SensorBondModel" "value" "[I", Cond.fieldLink RX7 28 "SensorBondModel" "earned" "[I", Cond.fieldLink RX7 53 "SensorBondModel" "by" "[I", Cond.methodLink RX7 137 yX7_middleOf, Cond.instanceMethod yX7_middleOf, Cond.selects RX7 yX7_middleOf yX7_middleOf, Cond.code yX7_middleOf cX7_middleOf 9 (some .int), Cond.fieldLink RX7 77 "SensorBondModel" "samples" "[I", Cond.methodLink RX7 128 yX7_samplesFor, Cond.instanceMethod yX7_samplesFor, Cond.selects RX7 yX7_samplesFor yX7_samplesFor]
def wsX7_ends_r2 : List Cond := [Cond.code yX7_samplesFor cX7_samplesFor 4 (some .int), Cond.methodLink RX7 91 yX7_apart, Cond.static yX7_apart, Cond.code yX7_apart cX7_apart 2 (some .int), Cond.methodLink RX7 140 yX7_lies, Cond.instanceMethod yX7_lies, Cond.selects RX7 yX7_lies yX7_lies, Cond.code yX7_lies cX7_lies 8 none, Cond.fieldLink RX7 74 "SensorBondModel" "usedBy" "[I", Cond.fieldLink RX7 31 "SensorBondModel" "price" "[I", Cond.fieldLink RX7 25 "SensorBondModel" "bond" "[I", Cond.fieldLink RX7 68 "SensorBondModel" "challenger" "[I", Cond.fieldLink RX7 71 "SensorBondModel" "held" "[I", Cond.fieldLink RX7 134 "SensorBondModel" "house" "I", Cond.methodLink RX7 131 yX7_size, Cond.static yX7_size, Cond.code yX7_size cX7_size 3 (some .int), Cond.methodLink RX7 144 yX7_stands, Cond.instanceMethod yX7_stands, Cond.selects RX7 yX7_stands yX7_stands, Cond.code yX7_stands cX7_stands 3 none]
def wsX7_ends : List Cond := .code yX7_ends cX7_ends 3 none :: ((wsX7_ends_r1 ++ wsX7_ends_r2) ++ wsX70)
def wsX7_advance_r1 : List Cond := [Cond.fieldLink RX7 109 "SensorBondModel" "tick" "I", Cond.methodLink RX7 84 yX7_isIn, Cond.static yX7_isIn, Cond.initialized RX7, Cond.code yX7_isIn cX7_isIn 3 (some .boolean), Cond.methodLink RX7 99 yX7_can, Cond.instanceMethod yX7_can, Cond.selects RX7 yX7_can yX7_can, Cond.code yX7_can cX7_can 2 (some .boolean), Cond.fieldLink RX7 80 "SensorBondModel" "thrown" "I", Cond.methodLink RX7 150 yX7_ends, Cond.instanceMethod yX7_ends, Cond.selects RX7 yX7_ends yX7_ends, Cond.code yX7_ends cX7_ends 3 none, Cond.fieldLink RX7 88 "SensorBondModel" "readings" "I", Cond.fieldLink RX7 65 "SensorBondModel" "since" "[I", Cond.fieldLink RX7 59 "SensorBondModel" "state" "[I", Cond.fieldLink RX7 40 "SensorBondModel" "isOpen" "[Z", Cond.fieldLink RX7 44 "SensorBondModel" "lastTick" "[I", Cond.fieldLink RX7 37 "SensorBondModel" "purse" "[I", Cond.fieldLink RX7 50 "SensorBondModel" "aside" "[I", Cond.methodLink RX7 147 yX7_judges, Cond.instanceMethod yX7_judges, Cond.selects RX7 yX7_judges yX7_judges]
def wsX7_advance_r2 : List Cond := [Cond.code yX7_judges cX7_judges 3 none, Cond.fieldLink RX7 56 "SensorBondModel" "value" "[I", Cond.fieldLink RX7 28 "SensorBondModel" "earned" "[I", Cond.fieldLink RX7 53 "SensorBondModel" "by" "[I", Cond.methodLink RX7 137 yX7_middleOf, Cond.instanceMethod yX7_middleOf, Cond.selects RX7 yX7_middleOf yX7_middleOf, Cond.code yX7_middleOf cX7_middleOf 9 (some .int), Cond.fieldLink RX7 77 "SensorBondModel" "samples" "[I", Cond.methodLink RX7 128 yX7_samplesFor, Cond.instanceMethod yX7_samplesFor, Cond.selects RX7 yX7_samplesFor yX7_samplesFor, Cond.code yX7_samplesFor cX7_samplesFor 4 (some .int), Cond.methodLink RX7 91 yX7_apart, Cond.static yX7_apart, Cond.code yX7_apart cX7_apart 2 (some .int), Cond.methodLink RX7 140 yX7_lies, Cond.instanceMethod yX7_lies, Cond.selects RX7 yX7_lies yX7_lies, Cond.code yX7_lies cX7_lies 8 none, Cond.fieldLink RX7 74 "SensorBondModel" "usedBy" "[I", Cond.fieldLink RX7 31 "SensorBondModel" "price" "[I", Cond.fieldLink RX7 25 "SensorBondModel" "bond" "[I", Cond.fieldLink RX7 68 "SensorBondModel" "challenger" "[I"]
def wsX7_advance_r3 : List Cond := [Cond.fieldLink RX7 71 "SensorBondModel" "held" "[I", Cond.fieldLink RX7 134 "SensorBondModel" "house" "I", Cond.methodLink RX7 131 yX7_size, Cond.static yX7_size, Cond.code yX7_size cX7_size 3 (some .int), Cond.methodLink RX7 144 yX7_stands, Cond.instanceMethod yX7_stands, Cond.selects RX7 yX7_stands yX7_stands, Cond.code yX7_stands cX7_stands 3 none]
def wsX7_advance : List Cond := .code yX7_advance cX7_advance 3 (some .int) :: ((wsX7_advance_r1 ++ (wsX7_advance_r2 ++ wsX7_advance_r3)) ++ wsX70)
def wsX7_tick : List Cond := .code yX7_tick cX7_tick 1 (some .int) :: ([.fieldLink RX7 80 "SensorBondModel" "thrown" "I", .fieldLink RX7 109 "SensorBondModel" "tick" "I"] ++ wsX70)
def wsX7_readings : List Cond := .code yX7_readings cX7_readings 1 (some .int) :: ([.fieldLink RX7 80 "SensorBondModel" "thrown" "I", .fieldLink RX7 88 "SensorBondModel" "readings" "I"] ++ wsX70)
def wsX7_isAsked : List Cond := .code yX7_isAsked cX7_isAsked 2 (some .boolean) :: ([.methodLink RX7 121 yX7_isReading, .instanceMethod yX7_isReading, .selects RX7 yX7_isReading yX7_isReading, .initialized RX7, .code yX7_isReading cX7_isReading 2 (some .boolean), .fieldLink RX7 88 "SensorBondModel" "readings" "I", .methodLink RX7 84 yX7_isIn, .static yX7_isIn, .code yX7_isIn cX7_isIn 3 (some .boolean), .methodLink RX7 99 yX7_can, .instanceMethod yX7_can, .selects RX7 yX7_can yX7_can, .code yX7_can cX7_can 2 (some .boolean), .fieldLink RX7 80 "SensorBondModel" "thrown" "I"] ++ wsX70)
def wsX7_stateOf : List Cond := .code yX7_stateOf cX7_stateOf 2 (some .int) :: ([.fieldLink RX7 59 "SensorBondModel" "state" "[I", .methodLink RX7 153 yX7_isAsked, .instanceMethod yX7_isAsked, .selects RX7 yX7_isAsked yX7_isAsked, .initialized RX7, .code yX7_isAsked cX7_isAsked 2 (some .boolean), .methodLink RX7 121 yX7_isReading, .instanceMethod yX7_isReading, .selects RX7 yX7_isReading yX7_isReading, .code yX7_isReading cX7_isReading 2 (some .boolean), .fieldLink RX7 88 "SensorBondModel" "readings" "I", .methodLink RX7 84 yX7_isIn, .static yX7_isIn, .code yX7_isIn cX7_isIn 3 (some .boolean), .methodLink RX7 99 yX7_can, .instanceMethod yX7_can, .selects RX7 yX7_can yX7_can, .code yX7_can cX7_can 2 (some .boolean), .fieldLink RX7 80 "SensorBondModel" "thrown" "I"] ++ wsX70)
def wsX7_parts : List Cond := .code yX7_parts cX7_parts 2 (some .int) :: ([.fieldLink RX7 62 "SensorBondModel" "passed" "[I", .methodLink RX7 153 yX7_isAsked, .instanceMethod yX7_isAsked, .selects RX7 yX7_isAsked yX7_isAsked, .initialized RX7, .code yX7_isAsked cX7_isAsked 2 (some .boolean), .methodLink RX7 121 yX7_isReading, .instanceMethod yX7_isReading, .selects RX7 yX7_isReading yX7_isReading, .code yX7_isReading cX7_isReading 2 (some .boolean), .fieldLink RX7 88 "SensorBondModel" "readings" "I", .methodLink RX7 84 yX7_isIn, .static yX7_isIn, .code yX7_isIn cX7_isIn 3 (some .boolean), .methodLink RX7 99 yX7_can, .instanceMethod yX7_can, .selects RX7 yX7_can yX7_can, .code yX7_can cX7_can 2 (some .boolean), .fieldLink RX7 80 "SensorBondModel" "thrown" "I"] ++ wsX70)
def wsX7_users : List Cond := .code yX7_users cX7_users 2 (some .int) :: ([.fieldLink RX7 74 "SensorBondModel" "usedBy" "[I", .methodLink RX7 153 yX7_isAsked, .instanceMethod yX7_isAsked, .selects RX7 yX7_isAsked yX7_isAsked, .initialized RX7, .code yX7_isAsked cX7_isAsked 2 (some .boolean), .methodLink RX7 121 yX7_isReading, .instanceMethod yX7_isReading, .selects RX7 yX7_isReading yX7_isReading, .code yX7_isReading cX7_isReading 2 (some .boolean), .fieldLink RX7 88 "SensorBondModel" "readings" "I", .methodLink RX7 84 yX7_isIn, .static yX7_isIn, .code yX7_isIn cX7_isIn 3 (some .boolean), .methodLink RX7 99 yX7_can, .instanceMethod yX7_can, .selects RX7 yX7_can yX7_can, .code yX7_can cX7_can 2 (some .boolean), .fieldLink RX7 80 "SensorBondModel" "thrown" "I", .methodLink RX7 131 yX7_size, .static yX7_size, .code yX7_size cX7_size 3 (some .int)] ++ wsX70)
def wsX7_held : List Cond := .code yX7_held cX7_held 4 (some .int) :: ([.fieldLink RX7 71 "SensorBondModel" "held" "[I", .methodLink RX7 121 yX7_isReading, .instanceMethod yX7_isReading, .selects RX7 yX7_isReading yX7_isReading, .initialized RX7, .code yX7_isReading cX7_isReading 2 (some .boolean), .fieldLink RX7 88 "SensorBondModel" "readings" "I", .methodLink RX7 84 yX7_isIn, .static yX7_isIn, .code yX7_isIn cX7_isIn 3 (some .boolean), .methodLink RX7 153 yX7_isAsked, .instanceMethod yX7_isAsked, .selects RX7 yX7_isAsked yX7_isAsked, .code yX7_isAsked cX7_isAsked 2 (some .boolean), .methodLink RX7 99 yX7_can, .instanceMethod yX7_can, .selects RX7 yX7_can yX7_can, .code yX7_can cX7_can 2 (some .boolean), .fieldLink RX7 80 "SensorBondModel" "thrown" "I"] ++ wsX70)
def wsX7_middle_r1 : List Cond := [Cond.methodLink RX7 153 yX7_isAsked, Cond.instanceMethod yX7_isAsked, Cond.selects RX7 yX7_isAsked yX7_isAsked, Cond.initialized RX7, Cond.code yX7_isAsked cX7_isAsked 2 (some .boolean), Cond.methodLink RX7 121 yX7_isReading, Cond.instanceMethod yX7_isReading, Cond.selects RX7 yX7_isReading yX7_isReading, Cond.code yX7_isReading cX7_isReading 2 (some .boolean), Cond.fieldLink RX7 88 "SensorBondModel" "readings" "I", Cond.methodLink RX7 84 yX7_isIn, Cond.static yX7_isIn, Cond.code yX7_isIn cX7_isIn 3 (some .boolean), Cond.methodLink RX7 99 yX7_can, Cond.instanceMethod yX7_can, Cond.selects RX7 yX7_can yX7_can, Cond.code yX7_can cX7_can 2 (some .boolean), Cond.fieldLink RX7 80 "SensorBondModel" "thrown" "I", Cond.methodLink RX7 137 yX7_middleOf, Cond.instanceMethod yX7_middleOf, Cond.selects RX7 yX7_middleOf yX7_middleOf, Cond.code yX7_middleOf cX7_middleOf 9 (some .int), Cond.fieldLink RX7 77 "SensorBondModel" "samples" "[I", Cond.methodLink RX7 128 yX7_samplesFor]
def wsX7_middle_r2 : List Cond := [Cond.instanceMethod yX7_samplesFor, Cond.selects RX7 yX7_samplesFor yX7_samplesFor, Cond.code yX7_samplesFor cX7_samplesFor 4 (some .int)]
def wsX7_middle : List Cond := .code yX7_middle cX7_middle 2 (some .int) :: ((wsX7_middle_r1 ++ wsX7_middle_r2) ++ wsX70)
def wsX7_signOf : List Cond := .code yX7_signOf cX7_signOf 1 (some .int) :: ([])
def wsX7_textAt : List Cond := .code yX7_textAt cX7_textAt 5 (some .int) :: ([.fieldLink RX7 56 "SensorBondModel" "value" "[I", .fieldLink RX7 53 "SensorBondModel" "by" "[I", .fieldLink RX7 59 "SensorBondModel" "state" "[I", .methodLink RX7 121 yX7_isReading, .instanceMethod yX7_isReading, .selects RX7 yX7_isReading yX7_isReading, .initialized RX7, .code yX7_isReading cX7_isReading 2 (some .boolean), .fieldLink RX7 88 "SensorBondModel" "readings" "I", .methodLink RX7 84 yX7_isIn, .static yX7_isIn, .code yX7_isIn cX7_isIn 3 (some .boolean), .methodLink RX7 99 yX7_can, .instanceMethod yX7_can, .selects RX7 yX7_can yX7_can, .code yX7_can cX7_can 2 (some .boolean), .fieldLink RX7 80 "SensorBondModel" "thrown" "I", .methodLink RX7 156 yX7_signOf, .static yX7_signOf, .code yX7_signOf cX7_signOf 1 (some .int)] ++ wsX70)
def wsX7_bond : List Cond := .code yX7_bond cX7_bond 2 (some .int) :: ([.fieldLink RX7 25 "SensorBondModel" "bond" "[I", .methodLink RX7 103 yX7_isSensor, .static yX7_isSensor, .initialized RX7, .code yX7_isSensor cX7_isSensor 1 (some .boolean), .methodLink RX7 84 yX7_isIn, .static yX7_isIn, .code yX7_isIn cX7_isIn 3 (some .boolean), .methodLink RX7 99 yX7_can, .instanceMethod yX7_can, .selects RX7 yX7_can yX7_can, .code yX7_can cX7_can 2 (some .boolean), .fieldLink RX7 80 "SensorBondModel" "thrown" "I"] ++ wsX70)
def wsX7_bondByCuts : List Cond := .code yX7_bondByCuts cX7_bondByCuts 2 (some .int) :: ([.fieldLink RX7 25 "SensorBondModel" "bond" "[I", .methodLink RX7 103 yX7_isSensor, .static yX7_isSensor, .initialized RX7, .code yX7_isSensor cX7_isSensor 1 (some .boolean), .methodLink RX7 84 yX7_isIn, .static yX7_isIn, .code yX7_isIn cX7_isIn 3 (some .boolean), .methodLink RX7 99 yX7_can, .instanceMethod yX7_can, .selects RX7 yX7_can yX7_can, .code yX7_can cX7_can 2 (some .boolean), .fieldLink RX7 80 "SensorBondModel" "thrown" "I"] ++ wsX70)
def wsX7_earned : List Cond := .code yX7_earned cX7_earned 2 (some .int) :: ([.fieldLink RX7 28 "SensorBondModel" "earned" "[I", .methodLink RX7 103 yX7_isSensor, .static yX7_isSensor, .initialized RX7, .code yX7_isSensor cX7_isSensor 1 (some .boolean), .methodLink RX7 84 yX7_isIn, .static yX7_isIn, .code yX7_isIn cX7_isIn 3 (some .boolean), .methodLink RX7 99 yX7_can, .instanceMethod yX7_can, .selects RX7 yX7_can yX7_can, .code yX7_can cX7_can 2 (some .boolean), .fieldLink RX7 80 "SensorBondModel" "thrown" "I"] ++ wsX70)
def wsX7_mark : List Cond := .code yX7_mark cX7_mark 4 (some .int) :: ([.fieldLink RX7 88 "SensorBondModel" "readings" "I", .fieldLink RX7 53 "SensorBondModel" "by" "[I", .fieldLink RX7 59 "SensorBondModel" "state" "[I", .methodLink RX7 103 yX7_isSensor, .static yX7_isSensor, .initialized RX7, .code yX7_isSensor cX7_isSensor 1 (some .boolean), .methodLink RX7 84 yX7_isIn, .static yX7_isIn, .code yX7_isIn cX7_isIn 3 (some .boolean), .methodLink RX7 99 yX7_can, .instanceMethod yX7_can, .selects RX7 yX7_can yX7_can, .code yX7_can cX7_can 2 (some .boolean), .fieldLink RX7 80 "SensorBondModel" "thrown" "I"] ++ wsX70)
def wsX7_purse : List Cond := .code yX7_purse cX7_purse 2 (some .int) :: ([.fieldLink RX7 37 "SensorBondModel" "purse" "[I", .methodLink RX7 118 yX7_isBuyer, .static yX7_isBuyer, .initialized RX7, .code yX7_isBuyer cX7_isBuyer 1 (some .boolean), .methodLink RX7 84 yX7_isIn, .static yX7_isIn, .code yX7_isIn cX7_isIn 3 (some .boolean), .methodLink RX7 99 yX7_can, .instanceMethod yX7_can, .selects RX7 yX7_can yX7_can, .code yX7_can cX7_can 2 (some .boolean), .fieldLink RX7 80 "SensorBondModel" "thrown" "I"] ++ wsX70)
def wsX7_aside : List Cond := .code yX7_aside cX7_aside 3 (some .int) :: ([.fieldLink RX7 50 "SensorBondModel" "aside" "[I", .methodLink RX7 118 yX7_isBuyer, .static yX7_isBuyer, .initialized RX7, .code yX7_isBuyer cX7_isBuyer 1 (some .boolean), .methodLink RX7 84 yX7_isIn, .static yX7_isIn, .code yX7_isIn cX7_isIn 3 (some .boolean), .methodLink RX7 103 yX7_isSensor, .static yX7_isSensor, .code yX7_isSensor cX7_isSensor 1 (some .boolean), .methodLink RX7 99 yX7_can, .instanceMethod yX7_can, .selects RX7 yX7_can yX7_can, .code yX7_can cX7_can 2 (some .boolean), .fieldLink RX7 80 "SensorBondModel" "thrown" "I"] ++ wsX70)
def wsX7_house : List Cond := .code yX7_house cX7_house 1 (some .int) :: ([.fieldLink RX7 80 "SensorBondModel" "thrown" "I", .fieldLink RX7 134 "SensorBondModel" "house" "I"] ++ wsX70)
def wsJ9_abs_0f7a4 : List Cond := .code yJ9_abs_0f7a4 cJ9_abs_0f7a4 1 (some .int) :: ([])
def wsJ9_max_7cf53 : List Cond := .code yJ9_max_7cf53 cJ9_max_7cf53 2 (some .int) :: ([])
def wsJ9_min_7cf53 : List Cond := .code yJ9_min_7cf53 cJ9_min_7cf53 2 (some .int) :: ([])
def wsL_hang : List Cond := .codeWith yL_hang cL_hang 5 (some .int) [(0, 10, 13, 13)] :: ([.classLink RL 13 "java/lang/IndexOutOfBoundsException", .methodLink RL 7 yX6_hang, .instanceMethod yX6_hang, .selects RX6 yX6_hang yX6_hang, .initialized RX6, .code yX6_hang cX6_hang 6 (some .int), .classLink RX6 59 "java/lang/IndexOutOfBoundsException", .initialized "java/lang/IndexOutOfBoundsException", .methodLink RX6 51 yX6_repeaterAt, .instanceMethod yX6_repeaterAt, .selects RX6 yX6_repeaterAt yX6_repeaterAt, .code yX6_repeaterAt cX6_repeaterAt 2 (some (.object "SensorBond$Repeater")), .fieldLink RX6 11 "SensorBond" "repeaters" "[LSensorBond$Repeater;"] ++ wsX30 ++ wsX60 ++ (vx_atS RX6 63 "java/lang/IndexOutOfBoundsException" ["java/lang/RuntimeException", "java/lang/Exception"]).filter goodWord)
def wsL_attach : List Cond := .codeWith yL_attach cL_attach 5 (some .int) [(0, 10, 13, 13)] :: ([.classLink RL 13 "java/lang/IndexOutOfBoundsException", .methodLink RL 15 yX6_attach, .instanceMethod yX6_attach, .selects RX6 yX6_attach yX6_attach, .initialized RX6, .code yX6_attach cX6_attach 6 (some .int), .methodLink RX6 69 yX6_sensorAt, .instanceMethod yX6_sensorAt, .selects RX6 yX6_sensorAt yX6_sensorAt, .code yX6_sensorAt cX6_sensorAt 2 (some (.object "SensorBond$Sensor")), .classLink RX6 59 "java/lang/IndexOutOfBoundsException", .initialized "java/lang/IndexOutOfBoundsException", .fieldLink RX6 17 "SensorBond" "sensors" "[LSensorBond$Sensor;", .methodLink RX6 51 yX6_repeaterAt, .instanceMethod yX6_repeaterAt, .selects RX6 yX6_repeaterAt yX6_repeaterAt, .code yX6_repeaterAt cX6_repeaterAt 2 (some (.object "SensorBond$Repeater")), .fieldLink RX6 11 "SensorBond" "repeaters" "[LSensorBond$Repeater;"] ++ wsX40 ++ wsX30 ++ wsX60 ++ (vx_atS RX6 63 "java/lang/IndexOutOfBoundsException" ["java/lang/RuntimeException", "java/lang/Exception"]).filter goodWord)
def wsL_setLoss_r1 : List Cond := [Cond.classLink RL 13 "java/lang/IndexOutOfBoundsException", Cond.classLink RL 21 "java/lang/IllegalArgumentException", Cond.methodLink RL 18 yX6_setLoss, Cond.instanceMethod yX6_setLoss, Cond.selects RX6 yX6_setLoss yX6_setLoss, Cond.initialized RX6, Cond.code yX6_setLoss cX6_setLoss 5 (some .int), Cond.methodLink RX6 51 yX6_repeaterAt, Cond.instanceMethod yX6_repeaterAt, Cond.selects RX6 yX6_repeaterAt yX6_repeaterAt, Cond.code yX6_repeaterAt cX6_repeaterAt 2 (some (.object "SensorBond$Repeater")), Cond.classLink RX6 59 "java/lang/IndexOutOfBoundsException", Cond.initialized "java/lang/IndexOutOfBoundsException", Cond.fieldLink RX6 11 "SensorBond" "repeaters" "[LSensorBond$Repeater;", Cond.methodLink RX6 76 yX6_checkWithin, Cond.static yX6_checkWithin, Cond.code yX6_checkWithin cX6_checkWithin 3 none, Cond.classLink RX6 93 "java/lang/IllegalArgumentException", Cond.initialized "java/lang/IllegalArgumentException", Cond.instanceMethod yX3_countLost, Cond.initialized RX3, Cond.selects RX3 yX3_countLost yX3_countLost, Cond.code yX3_countLost cX3_countLost 1 (some .int), Cond.fieldLink RX3 7 "SensorBond$Repeater" "lossEvery" "I"]
def wsL_setLoss_r2 : List Cond := [Cond.fieldLink RX3 13 "SensorBond$Repeater" "come" "I"]
def wsL_setLoss : List Cond := .codeWith yL_setLoss cL_setLoss 5 (some .int) [(0, 10, 13, 13), (0, 10, 17, 21)] :: ((wsL_setLoss_r1 ++ wsL_setLoss_r2) ++ wsX30 ++ wsX60 ++ (vx_atS RX6 63 "java/lang/IndexOutOfBoundsException" ["java/lang/RuntimeException", "java/lang/Exception"]).filter goodWord ++ (vx_atS RX6 97 "java/lang/IllegalArgumentException" ["java/lang/RuntimeException", "java/lang/Exception"]).filter goodWord)
def wsL_setPrice : List Cond := .codeWith yL_setPrice cL_setPrice 5 (some .int) [(0, 10, 13, 13), (0, 10, 17, 21)] :: ([.classLink RL 13 "java/lang/IndexOutOfBoundsException", .classLink RL 21 "java/lang/IllegalArgumentException", .methodLink RL 23 yX6_setPrice, .instanceMethod yX6_setPrice, .selects RX6 yX6_setPrice yX6_setPrice, .initialized RX6, .code yX6_setPrice cX6_setPrice 5 (some .int), .methodLink RX6 69 yX6_sensorAt, .instanceMethod yX6_sensorAt, .selects RX6 yX6_sensorAt yX6_sensorAt, .code yX6_sensorAt cX6_sensorAt 2 (some (.object "SensorBond$Sensor")), .classLink RX6 59 "java/lang/IndexOutOfBoundsException", .initialized "java/lang/IndexOutOfBoundsException", .fieldLink RX6 17 "SensorBond" "sensors" "[LSensorBond$Sensor;", .methodLink RX6 76 yX6_checkWithin, .static yX6_checkWithin, .code yX6_checkWithin cX6_checkWithin 3 none, .classLink RX6 93 "java/lang/IllegalArgumentException", .initialized "java/lang/IllegalArgumentException"] ++ wsX40 ++ wsX60 ++ (vx_atS RX6 63 "java/lang/IndexOutOfBoundsException" ["java/lang/RuntimeException", "java/lang/Exception"]).filter goodWord ++ (vx_atS RX6 97 "java/lang/IllegalArgumentException" ["java/lang/RuntimeException", "java/lang/Exception"]).filter goodWord)
def wsL_topUp : List Cond := .codeWith yL_topUp cL_topUp 5 (some .int) [(0, 10, 13, 13), (0, 10, 17, 21), (0, 10, 21, 29)] :: ([.classLink RL 13 "java/lang/IndexOutOfBoundsException", .classLink RL 21 "java/lang/IllegalArgumentException", .classLink RL 29 "java/lang/IllegalStateException", .methodLink RL 26 yX6_topUp, .instanceMethod yX6_topUp, .selects RX6 yX6_topUp yX6_topUp, .initialized RX6, .code yX6_topUp cX6_topUp 4 (some .int), .classLink RX6 93 "java/lang/IllegalArgumentException", .initialized "java/lang/IllegalArgumentException", .classLink RX6 101 "java/lang/IllegalStateException", .initialized "java/lang/IllegalStateException", .methodLink RX6 69 yX6_sensorAt, .instanceMethod yX6_sensorAt, .selects RX6 yX6_sensorAt yX6_sensorAt, .code yX6_sensorAt cX6_sensorAt 2 (some (.object "SensorBond$Sensor")), .classLink RX6 59 "java/lang/IndexOutOfBoundsException", .initialized "java/lang/IndexOutOfBoundsException", .fieldLink RX6 17 "SensorBond" "sensors" "[LSensorBond$Sensor;"] ++ wsX40 ++ wsX60 ++ (vx_atS RX6 97 "java/lang/IllegalArgumentException" ["java/lang/RuntimeException", "java/lang/Exception"]).filter goodWord ++ (vx_atS RX6 105 "java/lang/IllegalStateException" ["java/lang/RuntimeException", "java/lang/Exception"]).filter goodWord ++ (vx_atS RX6 63 "java/lang/IndexOutOfBoundsException" ["java/lang/RuntimeException", "java/lang/Exception"]).filter goodWord)
def wsL_tell_r1 : List Cond := [Cond.classLink RL 13 "java/lang/IndexOutOfBoundsException", Cond.classLink RL 21 "java/lang/IllegalArgumentException", Cond.classLink RL 29 "java/lang/IllegalStateException", Cond.methodLink RL 31 yX6_tell, Cond.instanceMethod yX6_tell, Cond.selects RX6 yX6_tell yX6_tell, Cond.initialized RX6, Cond.code yX6_tell cX6_tell 6 (some .int), Cond.classLink RX6 101 "java/lang/IllegalStateException", Cond.initialized "java/lang/IllegalStateException", Cond.fieldLink RX6 40 "SensorBond" "tick" "I", Cond.fieldLink RX6 33 "SensorBond" "readingCount" "I", Cond.classLink RX6 27 RX2, Cond.instantiable RX2 10, Cond.initialized RX2, Cond.fieldLink RX6 29 "SensorBond" "readings" "[LSensorBond$Reading;", Cond.methodLink RX6 69 yX6_sensorAt, Cond.instanceMethod yX6_sensorAt, Cond.selects RX6 yX6_sensorAt yX6_sensorAt, Cond.code yX6_sensorAt cX6_sensorAt 2 (some (.object "SensorBond$Sensor")), Cond.classLink RX6 59 "java/lang/IndexOutOfBoundsException", Cond.initialized "java/lang/IndexOutOfBoundsException", Cond.fieldLink RX6 17 "SensorBond" "sensors" "[LSensorBond$Sensor;", Cond.methodLink RX6 76 yX6_checkWithin]
def wsL_tell_r2 : List Cond := [Cond.static yX6_checkWithin, Cond.code yX6_checkWithin cX6_checkWithin 3 none, Cond.classLink RX6 93 "java/lang/IllegalArgumentException", Cond.initialized "java/lang/IllegalArgumentException", Cond.methodLink RX6 117 yX6_sendParts, Cond.static yX6_sendParts, Cond.code yX6_sendParts cX6_sendParts 3 (some .int), Cond.methodLink RX6 262 yX6_passesHub, Cond.static yX6_passesHub, Cond.code yX6_passesHub cX6_passesHub 2 (some .boolean), Cond.instanceMethod yX3_losesNext, Cond.initialized RX3, Cond.selects RX3 yX3_losesNext yX3_losesNext, Cond.code yX3_losesNext cX3_losesNext 1 (some .boolean), Cond.fieldLink RX3 13 "SensorBond$Repeater" "come" "I", Cond.fieldLink RX3 7 "SensorBond$Repeater" "lossEvery" "I", Cond.instanceMethod yX2_init, Cond.code yX2_init cX2_init 4 none, Cond.methodLink RX2 3 objectInit, Cond.instanceMethod objectInit, Cond.code objectInit ⟨#[0xb1]⟩ 1 none, Cond.fieldLink RX2 9 "SensorBond$Reading" "due" "I", Cond.arrayClass .int, Cond.fieldLink RX2 15 "SensorBond$Reading" "paid" "[I"]
def wsL_tell_r3 : List Cond := [Cond.fieldLink RX2 19 "SensorBond$Reading" "users" "I", Cond.fieldLink RX2 22 "SensorBond$Reading" "held" "I", Cond.fieldLink RX2 25 "SensorBond$Reading" "cut" "I", Cond.fieldLink RX2 28 "SensorBond$Reading" "challenge" "LSensorBond$Challenge;", Cond.fieldLink RX2 32 "SensorBond$Reading" "sensor" "LSensorBond$Sensor;", Cond.fieldLink RX2 36 "SensorBond$Reading" "value" "I", Cond.fieldLink RX2 39 "SensorBond$Reading" "parts" "I", Cond.fieldLink RX2 42 "SensorBond$Reading" "state" "I", Cond.methodLink RX6 127 yX6_waitFor, Cond.instanceMethod yX6_waitFor, Cond.selects RX6 yX6_waitFor yX6_waitFor, Cond.code yX6_waitFor cX6_waitFor 2 none, Cond.fieldLink RX6 43 "SensorBond" "busyUntil" "I", Cond.methodLink RX6 149 Lib.Math.max.name, Cond.static Lib.Math.max.name, Cond.initialized "java/lang/Math", Cond.code Lib.Math.max.name Lib.Math.max.code 2 (some .int), Cond.methodLink RX6 131 yX6_letWindowsUse, Cond.instanceMethod yX6_letWindowsUse, Cond.selects RX6 yX6_letWindowsUse yX6_letWindowsUse, Cond.code yX6_letWindowsUse cX6_letWindowsUse 5 none, Cond.fieldLink RX6 23 "SensorBond" "buyers" "[LSensorBond$Buyer;"]
def wsL_tell : List Cond := .codeWith yL_tell cL_tell 5 (some .int) [(0, 10, 13, 13), (0, 10, 17, 21), (0, 10, 21, 29)] :: ((wsL_tell_r1 ++ (wsL_tell_r2 ++ wsL_tell_r3)) ++ wsX40 ++ wsX60 ++ wsX20 ++ wsX30 ++ wsX00 ++ wsX50 ++ (vx_atS RX6 105 "java/lang/IllegalStateException" ["java/lang/RuntimeException", "java/lang/Exception"]).filter goodWord ++ (vx_atS RX6 63 "java/lang/IndexOutOfBoundsException" ["java/lang/RuntimeException", "java/lang/Exception"]).filter goodWord ++ (vx_atS RX6 97 "java/lang/IllegalArgumentException" ["java/lang/RuntimeException", "java/lang/Exception"]).filter goodWord)
def wsL_open_r1 : List Cond := [Cond.classLink RL 13 "java/lang/IndexOutOfBoundsException", Cond.classLink RL 21 "java/lang/IllegalArgumentException", Cond.classLink RL 29 "java/lang/IllegalStateException", Cond.methodLink RL 34 yX6_open, Cond.instanceMethod yX6_open, Cond.selects RX6 yX6_open yX6_open, Cond.initialized RX6, Cond.code yX6_open cX6_open 8 (some .int), Cond.classLink RX6 101 "java/lang/IllegalStateException", Cond.initialized "java/lang/IllegalStateException", Cond.fieldLink RX6 40 "SensorBond" "tick" "I", Cond.classLink RX6 145 RX5, Cond.instantiable RX5 3, Cond.initialized RX5, Cond.fieldLink RX6 43 "SensorBond" "busyUntil" "I", Cond.methodLink RX6 149 Lib.Math.max.name, Cond.static Lib.Math.max.name, Cond.initialized "java/lang/Math", Cond.code Lib.Math.max.name Lib.Math.max.code 2 (some .int), Cond.methodLink RX6 134 yX6_buyerAt, Cond.instanceMethod yX6_buyerAt, Cond.selects RX6 yX6_buyerAt yX6_buyerAt, Cond.code yX6_buyerAt cX6_buyerAt 2 (some (.object "SensorBond$Buyer")), Cond.classLink RX6 59 "java/lang/IndexOutOfBoundsException"]
def wsL_open_r2 : List Cond := [Cond.initialized "java/lang/IndexOutOfBoundsException", Cond.fieldLink RX6 23 "SensorBond" "buyers" "[LSensorBond$Buyer;", Cond.methodLink RX6 69 yX6_sensorAt, Cond.instanceMethod yX6_sensorAt, Cond.selects RX6 yX6_sensorAt yX6_sensorAt, Cond.code yX6_sensorAt cX6_sensorAt 2 (some (.object "SensorBond$Sensor")), Cond.fieldLink RX6 17 "SensorBond" "sensors" "[LSensorBond$Sensor;", Cond.methodLink RX6 76 yX6_checkWithin, Cond.static yX6_checkWithin, Cond.code yX6_checkWithin cX6_checkWithin 3 none, Cond.classLink RX6 93 "java/lang/IllegalArgumentException", Cond.initialized "java/lang/IllegalArgumentException", Cond.instanceMethod yX5_init, Cond.code yX5_init cX5_init 4 none, Cond.methodLink RX5 1 objectInit, Cond.instanceMethod objectInit, Cond.code objectInit ⟨#[0xb1]⟩ 1 none, Cond.fieldLink RX5 7 "SensorBond$Window" "price" "I", Cond.fieldLink RX5 13 "SensorBond$Window" "left" "I", Cond.fieldLink RX5 16 "SensorBond$Window" "last" "I"]
def wsL_open : List Cond := .codeWith yL_open cL_open 6 (some .int) [(0, 12, 15, 13), (0, 12, 19, 21), (0, 12, 23, 29)] :: ((wsL_open_r1 ++ wsL_open_r2) ++ wsX40 ++ wsX00 ++ wsX60 ++ wsX50 ++ (vx_atS RX6 105 "java/lang/IllegalStateException" ["java/lang/RuntimeException", "java/lang/Exception"]).filter goodWord ++ (vx_atS RX6 63 "java/lang/IndexOutOfBoundsException" ["java/lang/RuntimeException", "java/lang/Exception"]).filter goodWord ++ (vx_atS RX6 97 "java/lang/IllegalArgumentException" ["java/lang/RuntimeException", "java/lang/Exception"]).filter goodWord)
def wsL_challenge_r1 : List Cond := [Cond.classLink RL 13 "java/lang/IndexOutOfBoundsException", Cond.classLink RL 29 "java/lang/IllegalStateException", Cond.methodLink RL 38 yX6_challenge, Cond.instanceMethod yX6_challenge, Cond.selects RX6 yX6_challenge yX6_challenge, Cond.initialized RX6, Cond.code yX6_challenge cX6_challenge 5 (some .int), Cond.classLink RX6 101 "java/lang/IllegalStateException", Cond.initialized "java/lang/IllegalStateException", Cond.classLink RX6 161 RX1, Cond.instantiable RX1 4, Cond.initialized RX1, Cond.methodLink RX6 134 yX6_buyerAt, Cond.instanceMethod yX6_buyerAt, Cond.selects RX6 yX6_buyerAt yX6_buyerAt, Cond.code yX6_buyerAt cX6_buyerAt 2 (some (.object "SensorBond$Buyer")), Cond.classLink RX6 59 "java/lang/IndexOutOfBoundsException", Cond.initialized "java/lang/IndexOutOfBoundsException", Cond.fieldLink RX6 23 "SensorBond" "buyers" "[LSensorBond$Buyer;", Cond.methodLink RX6 155 yX6_readingAt, Cond.instanceMethod yX6_readingAt, Cond.selects RX6 yX6_readingAt yX6_readingAt, Cond.code yX6_readingAt cX6_readingAt 2 (some (.object "SensorBond$Reading")), Cond.fieldLink RX6 33 "SensorBond" "readingCount" "I"]
def wsL_challenge_r2 : List Cond := [Cond.fieldLink RX6 29 "SensorBond" "readings" "[LSensorBond$Reading;", Cond.instanceMethod yX1_init, Cond.code yX1_init cX1_init 2 none, Cond.methodLink RX1 3 objectInit, Cond.instanceMethod objectInit, Cond.code objectInit ⟨#[0xb1]⟩ 1 none, Cond.arrayClass .int, Cond.fieldLink RX1 9 "SensorBond$Challenge" "samples" "[I", Cond.fieldLink RX1 15 "SensorBond$Challenge" "count" "I", Cond.fieldLink RX1 19 "SensorBond$Challenge" "givers" "I", Cond.fieldLink RX1 22 "SensorBond$Challenge" "challenger" "LSensorBond$Buyer;", Cond.methodLink RX6 127 yX6_waitFor, Cond.instanceMethod yX6_waitFor, Cond.selects RX6 yX6_waitFor yX6_waitFor, Cond.code yX6_waitFor cX6_waitFor 2 none, Cond.fieldLink RX6 40 "SensorBond" "tick" "I", Cond.fieldLink RX6 43 "SensorBond" "busyUntil" "I", Cond.methodLink RX6 149 Lib.Math.max.name, Cond.static Lib.Math.max.name, Cond.initialized "java/lang/Math", Cond.code Lib.Math.max.name Lib.Math.max.code 2 (some .int), Cond.methodLink RX6 175 yX6_countNeighbours, Cond.static yX6_countNeighbours, Cond.code yX6_countNeighbours cX6_countNeighbours 3 (some .int)]
def wsL_challenge_r3 : List Cond := [Cond.methodLink RX6 179 yX6_areNeighbours, Cond.static yX6_areNeighbours, Cond.code yX6_areNeighbours cX6_areNeighbours 4 (some .boolean), Cond.methodLink RX6 315 Lib.Math.abs.name, Cond.static Lib.Math.abs.name, Cond.code Lib.Math.abs.name Lib.Math.abs.code 1 (some .int)]
def wsL_challenge : List Cond := .codeWith yL_challenge cL_challenge 5 (some .int) [(0, 10, 13, 13), (0, 10, 17, 29)] :: ((wsL_challenge_r1 ++ (wsL_challenge_r2 ++ wsL_challenge_r3)) ++ wsX20 ++ wsX00 ++ wsX10 ++ wsX40 ++ wsX60 ++ (vx_atS RX6 105 "java/lang/IllegalStateException" ["java/lang/RuntimeException", "java/lang/Exception"]).filter goodWord ++ (vx_atS RX6 63 "java/lang/IndexOutOfBoundsException" ["java/lang/RuntimeException", "java/lang/Exception"]).filter goodWord)
def wsL_sample_r1 : List Cond := [Cond.classLink RL 13 "java/lang/IndexOutOfBoundsException", Cond.classLink RL 21 "java/lang/IllegalArgumentException", Cond.classLink RL 29 "java/lang/IllegalStateException", Cond.methodLink RL 41 yX6_sample, Cond.instanceMethod yX6_sample, Cond.selects RX6 yX6_sample yX6_sample, Cond.initialized RX6, Cond.code yX6_sample cX6_sample 7 (some .int), Cond.classLink RX6 101 "java/lang/IllegalStateException", Cond.initialized "java/lang/IllegalStateException", Cond.methodLink RX6 69 yX6_sensorAt, Cond.instanceMethod yX6_sensorAt, Cond.selects RX6 yX6_sensorAt yX6_sensorAt, Cond.code yX6_sensorAt cX6_sensorAt 2 (some (.object "SensorBond$Sensor")), Cond.classLink RX6 59 "java/lang/IndexOutOfBoundsException", Cond.initialized "java/lang/IndexOutOfBoundsException", Cond.fieldLink RX6 17 "SensorBond" "sensors" "[LSensorBond$Sensor;", Cond.methodLink RX6 155 yX6_readingAt, Cond.instanceMethod yX6_readingAt, Cond.selects RX6 yX6_readingAt yX6_readingAt, Cond.code yX6_readingAt cX6_readingAt 2 (some (.object "SensorBond$Reading")), Cond.fieldLink RX6 33 "SensorBond" "readingCount" "I", Cond.fieldLink RX6 29 "SensorBond" "readings" "[LSensorBond$Reading;", Cond.methodLink RX6 76 yX6_checkWithin]
def wsL_sample_r2 : List Cond := [Cond.static yX6_checkWithin, Cond.code yX6_checkWithin cX6_checkWithin 3 none, Cond.classLink RX6 93 "java/lang/IllegalArgumentException", Cond.initialized "java/lang/IllegalArgumentException", Cond.methodLink RX6 179 yX6_areNeighbours, Cond.static yX6_areNeighbours, Cond.code yX6_areNeighbours cX6_areNeighbours 4 (some .boolean), Cond.methodLink RX6 315 Lib.Math.abs.name, Cond.static Lib.Math.abs.name, Cond.initialized "java/lang/Math", Cond.code Lib.Math.abs.name Lib.Math.abs.code 1 (some .int), Cond.instanceMethod yX1_hasSampleOf, Cond.initialized RX1, Cond.selects RX1 yX1_hasSampleOf yX1_hasSampleOf, Cond.code yX1_hasSampleOf cX1_hasSampleOf 2 (some .boolean), Cond.fieldLink RX1 19 "SensorBond$Challenge" "givers" "I", Cond.instanceMethod yX1_addSample, Cond.selects RX1 yX1_addSample yX1_addSample, Cond.code yX1_addSample cX1_addSample 4 none, Cond.fieldLink RX1 15 "SensorBond$Challenge" "count" "I", Cond.fieldLink RX1 9 "SensorBond$Challenge" "samples" "[I", Cond.methodLink RX6 175 yX6_countNeighbours, Cond.static yX6_countNeighbours, Cond.code yX6_countNeighbours cX6_countNeighbours 3 (some .int)]
def wsL_sample_r3 : List Cond := [Cond.methodLink RX6 196 yX6_judge, Cond.instanceMethod yX6_judge, Cond.selects RX6 yX6_judge yX6_judge, Cond.code yX6_judge cX6_judge 3 none, Cond.instanceMethod yX1_refutes, Cond.selects RX1 yX1_refutes yX1_refutes, Cond.code yX1_refutes cX1_refutes 2 (some .boolean), Cond.methodLink RX1 35 Lib.Math.abs.name, Cond.methodLink RX1 31 yX1_findMiddle, Cond.instanceMethod yX1_findMiddle, Cond.selects RX1 yX1_findMiddle yX1_findMiddle, Cond.code yX1_findMiddle cX1_findMiddle 1 (some .int), Cond.methodLink RX6 298 yX6_payBack, Cond.instanceMethod yX6_payBack, Cond.selects RX6 yX6_payBack yX6_payBack, Cond.code yX6_payBack cX6_payBack 4 none, Cond.fieldLink RX6 23 "SensorBond" "buyers" "[LSensorBond$Buyer;", Cond.methodLink RX6 301 yX6_shareCut, Cond.instanceMethod yX6_shareCut, Cond.selects RX6 yX6_shareCut yX6_shareCut, Cond.code yX6_shareCut cX6_shareCut 6 none, Cond.methodLink RX6 308 Lib.Math.min.name, Cond.static Lib.Math.min.name, Cond.code Lib.Math.min.name Lib.Math.min.code 2 (some .int)]
def wsL_sample_r4 : List Cond := [Cond.fieldLink RX6 37 "SensorBond" "house" "I", Cond.methodLink RX6 311 yX6_payUsers, Cond.instanceMethod yX6_payUsers, Cond.selects RX6 yX6_payUsers yX6_payUsers, Cond.code yX6_payUsers cX6_payUsers 5 (some .int), Cond.methodLink RX6 288 yX6_letStand, Cond.static yX6_letStand, Cond.code yX6_letStand cX6_letStand 1 none]
def wsL_sample : List Cond := .codeWith yL_sample cL_sample 6 (some .int) [(0, 12, 15, 13), (0, 12, 19, 21), (0, 12, 23, 29)] :: ((wsL_sample_r1 ++ (wsL_sample_r2 ++ (wsL_sample_r3 ++ wsL_sample_r4))) ++ wsX20 ++ wsX40 ++ wsX10 ++ wsX60 ++ wsX00 ++ (vx_atS RX6 105 "java/lang/IllegalStateException" ["java/lang/RuntimeException", "java/lang/Exception"]).filter goodWord ++ (vx_atS RX6 63 "java/lang/IndexOutOfBoundsException" ["java/lang/RuntimeException", "java/lang/Exception"]).filter goodWord ++ (vx_atS RX6 97 "java/lang/IllegalArgumentException" ["java/lang/RuntimeException", "java/lang/Exception"]).filter goodWord)
def wsL_advance_r1 : List Cond := [Cond.classLink RL 21 "java/lang/IllegalArgumentException", Cond.classLink RL 29 "java/lang/IllegalStateException", Cond.methodLink RL 44 yX6_advance, Cond.instanceMethod yX6_advance, Cond.selects RX6 yX6_advance yX6_advance, Cond.initialized RX6, Cond.code yX6_advance cX6_advance 4 (some .int), Cond.classLink RX6 101 "java/lang/IllegalStateException", Cond.initialized "java/lang/IllegalStateException", Cond.fieldLink RX6 40 "SensorBond" "tick" "I", Cond.fieldLink RX6 43 "SensorBond" "busyUntil" "I", Cond.methodLink RX6 76 yX6_checkWithin, Cond.static yX6_checkWithin, Cond.code yX6_checkWithin cX6_checkWithin 3 none, Cond.classLink RX6 93 "java/lang/IllegalArgumentException", Cond.initialized "java/lang/IllegalArgumentException", Cond.methodLink RX6 202 yX6_endTick, Cond.instanceMethod yX6_endTick, Cond.selects RX6 yX6_endTick yX6_endTick, Cond.code yX6_endTick cX6_endTick 3 none, Cond.fieldLink RX6 33 "SensorBond" "readingCount" "I", Cond.fieldLink RX6 29 "SensorBond" "readings" "[LSensorBond$Reading;", Cond.fieldLink RX6 23 "SensorBond" "buyers" "[LSensorBond$Buyer;", Cond.instanceMethod yX2_isOpen]
def wsL_advance_r2 : List Cond := [Cond.initialized RX2, Cond.selects RX2 yX2_isOpen yX2_isOpen, Cond.code yX2_isOpen cX2_isOpen 1 (some .boolean), Cond.fieldLink RX2 42 "SensorBond$Reading" "state" "I", Cond.methodLink RX6 281 yX6_settle, Cond.instanceMethod yX6_settle, Cond.selects RX6 yX6_settle yX6_settle, Cond.code yX6_settle cX6_settle 3 none, Cond.methodLink RX6 288 yX6_letStand, Cond.static yX6_letStand, Cond.code yX6_letStand cX6_letStand 1 none, Cond.methodLink RX6 196 yX6_judge, Cond.instanceMethod yX6_judge, Cond.selects RX6 yX6_judge yX6_judge, Cond.code yX6_judge cX6_judge 3 none, Cond.instanceMethod yX1_refutes, Cond.initialized RX1, Cond.selects RX1 yX1_refutes yX1_refutes, Cond.code yX1_refutes cX1_refutes 2 (some .boolean), Cond.fieldLink RX1 15 "SensorBond$Challenge" "count" "I", Cond.methodLink RX1 35 Lib.Math.abs.name, Cond.static Lib.Math.abs.name, Cond.initialized "java/lang/Math", Cond.code Lib.Math.abs.name Lib.Math.abs.code 1 (some .int)]
def wsL_advance_r3 : List Cond := [Cond.methodLink RX1 31 yX1_findMiddle, Cond.instanceMethod yX1_findMiddle, Cond.selects RX1 yX1_findMiddle yX1_findMiddle, Cond.code yX1_findMiddle cX1_findMiddle 1 (some .int), Cond.fieldLink RX1 9 "SensorBond$Challenge" "samples" "[I", Cond.methodLink RX6 298 yX6_payBack, Cond.instanceMethod yX6_payBack, Cond.selects RX6 yX6_payBack yX6_payBack, Cond.code yX6_payBack cX6_payBack 4 none, Cond.methodLink RX6 301 yX6_shareCut, Cond.instanceMethod yX6_shareCut, Cond.selects RX6 yX6_shareCut yX6_shareCut, Cond.code yX6_shareCut cX6_shareCut 6 none, Cond.methodLink RX6 308 Lib.Math.min.name, Cond.static Lib.Math.min.name, Cond.code Lib.Math.min.name Lib.Math.min.code 2 (some .int), Cond.fieldLink RX6 37 "SensorBond" "house" "I", Cond.methodLink RX6 311 yX6_payUsers, Cond.instanceMethod yX6_payUsers, Cond.selects RX6 yX6_payUsers yX6_payUsers, Cond.code yX6_payUsers cX6_payUsers 5 (some .int), Cond.methodLink RX6 284 yX6_closeWindows, Cond.static yX6_closeWindows, Cond.code yX6_closeWindows cX6_closeWindows 4 none]
def wsL_advance : List Cond := .codeWith yL_advance cL_advance 4 (some .int) [(0, 9, 12, 21), (0, 9, 15, 29)] :: ((wsL_advance_r1 ++ (wsL_advance_r2 ++ wsL_advance_r3)) ++ wsX60 ++ wsX20 ++ wsX40 ++ wsX10 ++ wsX00 ++ wsX50 ++ (vx_atS RX6 105 "java/lang/IllegalStateException" ["java/lang/RuntimeException", "java/lang/Exception"]).filter goodWord ++ (vx_atS RX6 97 "java/lang/IllegalArgumentException" ["java/lang/RuntimeException", "java/lang/Exception"]).filter goodWord)
def wsL_stateOf : List Cond := .codeWith yL_stateOf cL_stateOf 4 (some .int) [(0, 9, 12, 13)] :: ([.classLink RL 13 "java/lang/IndexOutOfBoundsException", .methodLink RL 48 yX6_stateOf, .instanceMethod yX6_stateOf, .selects RX6 yX6_stateOf yX6_stateOf, .initialized RX6, .code yX6_stateOf cX6_stateOf 2 (some .int), .methodLink RX6 155 yX6_readingAt, .instanceMethod yX6_readingAt, .selects RX6 yX6_readingAt yX6_readingAt, .code yX6_readingAt cX6_readingAt 2 (some (.object "SensorBond$Reading")), .classLink RX6 59 "java/lang/IndexOutOfBoundsException", .initialized "java/lang/IndexOutOfBoundsException", .fieldLink RX6 33 "SensorBond" "readingCount" "I", .fieldLink RX6 29 "SensorBond" "readings" "[LSensorBond$Reading;"] ++ wsX20 ++ wsX60 ++ (vx_atS RX6 63 "java/lang/IndexOutOfBoundsException" ["java/lang/RuntimeException", "java/lang/Exception"]).filter goodWord)
def wsL_parts : List Cond := .codeWith yL_parts cL_parts 4 (some .int) [(0, 9, 12, 13)] :: ([.classLink RL 13 "java/lang/IndexOutOfBoundsException", .methodLink RL 51 yX6_parts, .instanceMethod yX6_parts, .selects RX6 yX6_parts yX6_parts, .initialized RX6, .code yX6_parts cX6_parts 2 (some .int), .methodLink RX6 155 yX6_readingAt, .instanceMethod yX6_readingAt, .selects RX6 yX6_readingAt yX6_readingAt, .code yX6_readingAt cX6_readingAt 2 (some (.object "SensorBond$Reading")), .classLink RX6 59 "java/lang/IndexOutOfBoundsException", .initialized "java/lang/IndexOutOfBoundsException", .fieldLink RX6 33 "SensorBond" "readingCount" "I", .fieldLink RX6 29 "SensorBond" "readings" "[LSensorBond$Reading;"] ++ wsX20 ++ wsX60 ++ (vx_atS RX6 63 "java/lang/IndexOutOfBoundsException" ["java/lang/RuntimeException", "java/lang/Exception"]).filter goodWord)
def wsL_users : List Cond := .codeWith yL_users cL_users 4 (some .int) [(0, 9, 12, 13)] :: ([.classLink RL 13 "java/lang/IndexOutOfBoundsException", .methodLink RL 54 yX6_users, .instanceMethod yX6_users, .selects RX6 yX6_users yX6_users, .initialized RX6, .code yX6_users cX6_users 2 (some .int), .methodLink RX6 155 yX6_readingAt, .instanceMethod yX6_readingAt, .selects RX6 yX6_readingAt yX6_readingAt, .code yX6_readingAt cX6_readingAt 2 (some (.object "SensorBond$Reading")), .classLink RX6 59 "java/lang/IndexOutOfBoundsException", .initialized "java/lang/IndexOutOfBoundsException", .fieldLink RX6 33 "SensorBond" "readingCount" "I", .fieldLink RX6 29 "SensorBond" "readings" "[LSensorBond$Reading;"] ++ wsX20 ++ wsX60 ++ (vx_atS RX6 63 "java/lang/IndexOutOfBoundsException" ["java/lang/RuntimeException", "java/lang/Exception"]).filter goodWord)
def wsL_held : List Cond := .codeWith yL_held cL_held 4 (some .int) [(0, 9, 12, 13)] :: ([.classLink RL 13 "java/lang/IndexOutOfBoundsException", .methodLink RL 57 yX6_held, .instanceMethod yX6_held, .selects RX6 yX6_held yX6_held, .initialized RX6, .code yX6_held cX6_held 2 (some .int), .methodLink RX6 155 yX6_readingAt, .instanceMethod yX6_readingAt, .selects RX6 yX6_readingAt yX6_readingAt, .code yX6_readingAt cX6_readingAt 2 (some (.object "SensorBond$Reading")), .classLink RX6 59 "java/lang/IndexOutOfBoundsException", .initialized "java/lang/IndexOutOfBoundsException", .fieldLink RX6 33 "SensorBond" "readingCount" "I", .fieldLink RX6 29 "SensorBond" "readings" "[LSensorBond$Reading;"] ++ wsX20 ++ wsX60 ++ (vx_atS RX6 63 "java/lang/IndexOutOfBoundsException" ["java/lang/RuntimeException", "java/lang/Exception"]).filter goodWord)
def wsL_middle : List Cond := .codeWith yL_middle cL_middle 4 (some .int) [(0, 9, 12, 13)] :: ([.classLink RL 13 "java/lang/IndexOutOfBoundsException", .methodLink RL 60 yX6_middle, .instanceMethod yX6_middle, .selects RX6 yX6_middle yX6_middle, .initialized RX6, .code yX6_middle cX6_middle 3 (some .int), .methodLink RX6 155 yX6_readingAt, .instanceMethod yX6_readingAt, .selects RX6 yX6_readingAt yX6_readingAt, .code yX6_readingAt cX6_readingAt 2 (some (.object "SensorBond$Reading")), .classLink RX6 59 "java/lang/IndexOutOfBoundsException", .initialized "java/lang/IndexOutOfBoundsException", .fieldLink RX6 33 "SensorBond" "readingCount" "I", .fieldLink RX6 29 "SensorBond" "readings" "[LSensorBond$Reading;", .instanceMethod yX1_findMiddle, .initialized RX1, .selects RX1 yX1_findMiddle yX1_findMiddle, .code yX1_findMiddle cX1_findMiddle 1 (some .int), .fieldLink RX1 15 "SensorBond$Challenge" "count" "I", .fieldLink RX1 9 "SensorBond$Challenge" "samples" "[I"] ++ wsX20 ++ wsX60 ++ wsX10 ++ (vx_atS RX6 63 "java/lang/IndexOutOfBoundsException" ["java/lang/RuntimeException", "java/lang/Exception"]).filter goodWord)
def wsL_textAt_r1 : List Cond := [Cond.classLink RL 13 "java/lang/IndexOutOfBoundsException", Cond.methodLink RL 63 yX6_textAt, Cond.instanceMethod yX6_textAt, Cond.selects RX6 yX6_textAt yX6_textAt, Cond.initialized RX6, Cond.code yX6_textAt cX6_textAt 5 (some .int), Cond.classLink RX6 59 "java/lang/IndexOutOfBoundsException", Cond.initialized "java/lang/IndexOutOfBoundsException", Cond.classLink RX6 220 RJ4, Cond.instantiable RJ4 4, Cond.initialized RJ4, Cond.methodLink RX6 155 yX6_readingAt, Cond.instanceMethod yX6_readingAt, Cond.selects RX6 yX6_readingAt yX6_readingAt, Cond.code yX6_readingAt cX6_readingAt 2 (some (.object "SensorBond$Reading")), Cond.fieldLink RX6 33 "SensorBond" "readingCount" "I", Cond.fieldLink RX6 29 "SensorBond" "readings" "[LSensorBond$Reading;", Cond.methodLink RX6 222 yJ4_init_da8c8, Cond.instanceMethod yJ4_init_da8c8, Cond.code yJ4_init_da8c8 cJ4_init_da8c8 1 none, Cond.methodLink RJ4 1 yJ5_init_d00df, Cond.instanceMethod yJ5_init_d00df, Cond.initialized RJ5, Cond.code yJ5_init_d00df cJ5_init_d00df 2 none]
def wsL_textAt_r2 : List Cond := [Cond.methodLink RJ5 3 objectInit, Cond.instanceMethod objectInit, Cond.code objectInit ⟨#[0xb1]⟩ 1 none, Cond.fieldLink RJ5 18 "java/lang/String" "COMPACT_STRINGS" "Z", Cond.arrayClass .byte, Cond.fieldLink RJ5 15 "java/lang/AbstractStringBuilder" "value" "[B", Cond.fieldLink RJ5 22 "java/lang/AbstractStringBuilder" "coder" "B", Cond.methodLink RJ5 26 yJ2_newBytesFor_77867, Cond.static yJ2_newBytesFor_77867, Cond.initialized RJ2, Cond.code yJ2_newBytesFor_77867 cJ2_newBytesFor_77867 1 (some (.array .byte)), Cond.methodLink RJ2 11 yJ2_newBytesLength_0f7a4, Cond.static yJ2_newBytesLength_0f7a4, Cond.code yJ2_newBytesLength_0f7a4 cJ2_newBytesLength_0f7a4 1 (some .int), Cond.constant RJ2 20 (1073741823), Cond.methodLink RX6 223 yJ4_append_cf468, Cond.instanceMethod yJ4_append_cf468, Cond.selects RJ4 yJ4_append_cf468 yJ4_append_cf468, Cond.code yJ4_append_cf468 cJ4_append_cf468 2 (some (.object "java/lang/StringBuilder")), Cond.methodLink RJ4 50 yJ5_append_3fe6f, Cond.sameMethod "java/lang/AbstractStringBuilder" "java/lang/AbstractStringBuilder" "append" "(C)Ljava/lang/AbstractStringBuilder;", Cond.superclass RJ4 RJ5, Cond.instanceMethod yJ5_append_3fe6f, Cond.code yJ5_append_3fe6f cJ5_append_3fe6f 2 (some (.object "java/lang/AbstractStringBuilder"))]
def wsL_textAt_r3 : List Cond := [Cond.fieldLink RJ5 79 "java/lang/AbstractStringBuilder" "count" "I", Cond.methodLink RJ5 100 ⟨"java/lang/AbstractStringBuilder", "ensureCapacityInternal", "(I)V"⟩, Cond.sameMethod "java/lang/AbstractStringBuilder" "java/lang/AbstractStringBuilder" "ensureCapacityInternal" "(I)V", Cond.selects RJ4 ⟨"java/lang/AbstractStringBuilder", "ensureCapacityInternal", "(I)V"⟩ yJ5_ensureCapacityInternal_d00df, Cond.instanceMethod yJ5_ensureCapacityInternal_d00df, Cond.code yJ5_ensureCapacityInternal_d00df cJ5_ensureCapacityInternal_d00df 3 none, Cond.methodLink RJ5 104 ⟨"java/lang/AbstractStringBuilder", "newCapacity", "(I)I"⟩, Cond.sameMethod "java/lang/AbstractStringBuilder" "java/lang/AbstractStringBuilder" "newCapacity" "(I)I", Cond.selects RJ4 ⟨"java/lang/AbstractStringBuilder", "newCapacity", "(I)I"⟩ yJ5_newCapacity_0f7a4, Cond.instanceMethod yJ5_newCapacity_0f7a4, Cond.code yJ5_newCapacity_0f7a4 cJ5_newCapacity_0f7a4 6 (some .int), Cond.constant RJ5 39 (2147483647), Cond.methodLink RJ5 114 yJ8_newLength_cabcc, Cond.static yJ8_newLength_cabcc, Cond.initialized RJ8, Cond.code yJ8_newLength_cabcc cJ8_newLength_cabcc 4 (some .int), Cond.methodLink RJ8 194 Lib.Math.max.name, Cond.static Lib.Math.max.name, Cond.initialized "java/lang/Math", Cond.code Lib.Math.max.name Lib.Math.max.code 2 (some .int), Cond.constant RJ8 200 (2147483639), Cond.methodLink RJ8 201 yJ8_hugeLength_7cf53, Cond.static yJ8_hugeLength_7cf53, Cond.code yJ8_hugeLength_7cf53 cJ8_hugeLength_7cf53 3 (some .int)]
def wsL_textAt_r4 : List Cond := [Cond.methodLink RJ5 108 yJ7_copyOf_9075b, Cond.static yJ7_copyOf_9075b, Cond.initialized RJ7, Cond.code yJ7_copyOf_9075b cJ7_copyOf_9075b 3 (some (.array .byte)), Cond.methodLink RJ7 310 ⟨"[B", "clone", "()Ljava/lang/Object;"⟩, Cond.sameMethod "[B" "java/lang/Object" "clone" "()Ljava/lang/Object;", Cond.native ⟨"java/lang/Object", "clone", "()Ljava/lang/Object;"⟩, Cond.instanceMethod ⟨"java/lang/Object", "clone", "()Ljava/lang/Object;"⟩, Cond.selects "[B" ⟨"[B", "clone", "()Ljava/lang/Object;"⟩ ⟨"java/lang/Object", "clone", "()Ljava/lang/Object;"⟩, Cond.classLink RJ7 311 "[B", Cond.methodLink RJ7 304 Lib.Math.min.name, Cond.static Lib.Math.min.name, Cond.code Lib.Math.min.name Lib.Math.min.code 2 (some .int), Cond.methodLink RJ7 150 arraycopyName, Cond.native arraycopyName, Cond.static arraycopyName, Cond.initialized "java/lang/System", Cond.methodLink RJ5 83 ⟨"java/lang/AbstractStringBuilder", "isLatin1", "()Z"⟩, Cond.sameMethod "java/lang/AbstractStringBuilder" "java/lang/AbstractStringBuilder" "isLatin1" "()Z", Cond.selects RJ4 ⟨"java/lang/AbstractStringBuilder", "isLatin1", "()Z"⟩ yJ5_isLatin1_aae02, Cond.instanceMethod yJ5_isLatin1_aae02, Cond.code yJ5_isLatin1_aae02 cJ5_isLatin1_aae02 1 (some .boolean), Cond.methodLink RJ5 191 yJ1_canEncode_fc78d, Cond.static yJ1_canEncode_fc78d]
def wsL_textAt_r5 : List Cond := [Cond.initialized RJ1, Cond.code yJ1_canEncode_fc78d cJ1_canEncode_fc78d 1 (some .boolean), Cond.methodLink RJ5 195 ⟨"java/lang/AbstractStringBuilder", "inflate", "()V"⟩, Cond.sameMethod "java/lang/AbstractStringBuilder" "java/lang/AbstractStringBuilder" "inflate" "()V", Cond.selects RJ4 ⟨"java/lang/AbstractStringBuilder", "inflate", "()V"⟩ yJ5_inflate_da8c8, Cond.instanceMethod yJ5_inflate_da8c8, Cond.code yJ5_inflate_da8c8 cJ5_inflate_da8c8 2 none, Cond.methodLink RJ5 125 yJ1_inflate_0e8fd, Cond.static yJ1_inflate_0e8fd, Cond.code yJ1_inflate_0e8fd cJ1_inflate_0e8fd 5 none, Cond.methodLink RJ1 240 yJ2_inflate_0e8fd, Cond.static yJ2_inflate_0e8fd, Cond.code yJ2_inflate_0e8fd cJ2_inflate_0e8fd 6 none, Cond.methodLink RJ2 173 yJ2_checkBoundsOffCount_d044e, Cond.static yJ2_checkBoundsOffCount_d044e, Cond.code yJ2_checkBoundsOffCount_d044e cJ2_checkBoundsOffCount_d044e 3 none, Cond.methodLink RJ2 48 yJ2_length_9d52b, Cond.static yJ2_length_9d52b, Cond.code yJ2_length_9d52b cJ2_length_9d52b 1 (some .int), Cond.methodLink RJ2 419 yJ0_checkBoundsOffCount_cabcc, Cond.static yJ0_checkBoundsOffCount_cabcc, Cond.initialized RJ0, Cond.code yJ0_checkBoundsOffCount_cabcc cJ0_checkBoundsOffCount_cabcc 3 (some .int), Cond.fieldLink RJ0 1053 "jdk/internal/util/Preconditions" "SIOOBE_FORMATTER" "Ljava/util/function/BiFunction;"]
def wsL_textAt_r6 : List Cond := [Cond.methodLink RJ0 1065 yJ3_checkFromIndexSize_8c36e, Cond.static yJ3_checkFromIndexSize_8c36e, Cond.initialized RJ3, Cond.code yJ3_checkFromIndexSize_8c36e cJ3_checkFromIndexSize_8c36e 4 (some .int), Cond.methodLink RJ2 111 yJ2_putChar_b72d1, Cond.static yJ2_putChar_b72d1, Cond.code yJ2_putChar_b72d1 cJ2_putChar_b72d1 3 none, Cond.fieldLink RJ2 44 "java/lang/StringUTF16" "$assertionsDisabled" "Z", Cond.fieldLink RJ2 59 "java/lang/StringUTF16" "HI_BYTE_SHIFT" "I", Cond.fieldLink RJ2 63 "java/lang/StringUTF16" "LO_BYTE_SHIFT" "I", Cond.methodLink RJ5 197 yJ2_putCharSB_b72d1, Cond.static yJ2_putCharSB_b72d1, Cond.code yJ2_putCharSB_b72d1 cJ2_putCharSB_b72d1 3 none, Cond.methodLink RJ2 67 yJ2_checkIndex_2214a, Cond.static yJ2_checkIndex_2214a, Cond.code yJ2_checkIndex_2214a cJ2_checkIndex_2214a 2 none, Cond.methodLink RJ2 414 yJ0_checkIndex_df160, Cond.static yJ0_checkIndex_df160, Cond.code yJ0_checkIndex_df160 cJ0_checkIndex_df160 2 none, Cond.methodLink RJ0 1059 yJ3_checkIndex_8e157, Cond.static yJ3_checkIndex_8e157, Cond.code yJ3_checkIndex_8e157 cJ3_checkIndex_8e157 3 (some .int), Cond.methodLink RX6 230 yJ4_append_bf812, Cond.instanceMethod yJ4_append_bf812]
def wsL_textAt_r7 : List Cond := [Cond.selects RJ4 yJ4_append_bf812 yJ4_append_bf812, Cond.code yJ4_append_bf812 cJ4_append_bf812 2 (some (.object "java/lang/StringBuilder")), Cond.methodLink RJ4 53 yJ5_append_c97b9, Cond.sameMethod "java/lang/AbstractStringBuilder" "java/lang/AbstractStringBuilder" "append" "(I)Ljava/lang/AbstractStringBuilder;", Cond.instanceMethod yJ5_append_c97b9, Cond.code yJ5_append_c97b9 cJ5_append_c97b9 4 (some (.object "java/lang/AbstractStringBuilder")), Cond.methodLink RJ5 245 yJ6_stringSize_0f7a4, Cond.static yJ6_stringSize_0f7a4, Cond.initialized RJ6, Cond.code yJ6_stringSize_0f7a4 cJ6_stringSize_0f7a4 4 (some .int), Cond.methodLink RJ5 248 yJ6_getChars_ba4f3, Cond.static yJ6_getChars_ba4f3, Cond.code yJ6_getChars_ba4f3 cJ6_getChars_ba4f3 7 (some .int), Cond.fieldLink RJ6 83 "java/lang/Integer" "DigitOnes" "[B", Cond.fieldLink RJ6 87 "java/lang/Integer" "DigitTens" "[B", Cond.methodLink RJ5 251 yJ2_getChars_46870, Cond.static yJ2_getChars_46870, Cond.code yJ2_getChars_46870 cJ2_getChars_46870 5 (some .int), Cond.methodLink RJ2 96 yJ2_checkBoundsBeginEnd_d044e, Cond.static yJ2_checkBoundsBeginEnd_d044e, Cond.code yJ2_checkBoundsBeginEnd_d044e cJ2_checkBoundsBeginEnd_d044e 3 none, Cond.methodLink RJ2 241 yJ0_checkBoundsBeginEnd_23922, Cond.static yJ0_checkBoundsBeginEnd_23922, Cond.code yJ0_checkBoundsBeginEnd_23922 cJ0_checkBoundsBeginEnd_23922 3 none]
def wsL_textAt_r8 : List Cond := [Cond.methodLink RJ0 1062 yJ3_checkFromToIndex_8c36e, Cond.static yJ3_checkFromToIndex_8c36e, Cond.code yJ3_checkFromToIndex_8c36e cJ3_checkFromToIndex_8c36e 4 (some .int), Cond.methodLink RJ2 393 yJ2_getChars_ba4f3, Cond.static yJ2_getChars_ba4f3, Cond.code yJ2_getChars_ba4f3 cJ2_getChars_ba4f3 7 (some .int), Cond.fieldLink RJ2 403 "java/lang/Integer" "DigitOnes" "[B", Cond.fieldLink RJ2 407 "java/lang/Integer" "DigitTens" "[B", Cond.methodLink RX6 233 yX6_signOf, Cond.static yX6_signOf, Cond.code yX6_signOf cX6_signOf 1 (some .char), Cond.methodLink RX6 237 yJ4_length_8abf5, Cond.instanceMethod yJ4_length_8abf5, Cond.selects RJ4 yJ4_length_8abf5 yJ4_length_8abf5, Cond.code yJ4_length_8abf5 cJ4_length_8abf5 1 (some .int), Cond.methodLink RJ4 343 yJ5_length_8abf5, Cond.sameMethod "java/lang/AbstractStringBuilder" "java/lang/AbstractStringBuilder" "length" "()I", Cond.instanceMethod yJ5_length_8abf5, Cond.code yJ5_length_8abf5 cJ5_length_8abf5 1 (some .int), Cond.methodLink RX6 240 yJ4_charAt_5068e, Cond.instanceMethod yJ4_charAt_5068e, Cond.selects RJ4 yJ4_charAt_5068e yJ4_charAt_5068e, Cond.code yJ4_charAt_5068e cJ4_charAt_5068e 2 (some .char), Cond.methodLink RJ4 329 yJ5_charAt_5068e]
def wsL_textAt_r9 : List Cond := [Cond.sameMethod "java/lang/AbstractStringBuilder" "java/lang/AbstractStringBuilder" "charAt" "(I)C", Cond.instanceMethod yJ5_charAt_5068e, Cond.code yJ5_charAt_5068e cJ5_charAt_5068e 5 (some .char), Cond.methodLink RJ5 138 Lib.Math.min.name, Cond.methodLink RJ5 144 yJ0_checkIndex_df160, Cond.methodLink RJ5 148 yJ2_getChar_3b067, Cond.static yJ2_getChar_3b067, Cond.code yJ2_getChar_3b067 cJ2_getChar_3b067 2 (some .char)]
def wsL_textAt : List Cond := .codeWith yL_textAt cL_textAt 5 (some .int) [(0, 10, 13, 13)] :: ((wsL_textAt_r1 ++ (wsL_textAt_r2 ++ (wsL_textAt_r3 ++ (wsL_textAt_r4 ++ (wsL_textAt_r5 ++ (wsL_textAt_r6 ++ (wsL_textAt_r7 ++ (wsL_textAt_r8 ++ wsL_textAt_r9)))))))) ++ wsJ40 ++ wsX20 ++ wsX40 ++ wsX60 ++ (vx_atS RX6 63 "java/lang/IndexOutOfBoundsException" ["java/lang/RuntimeException", "java/lang/Exception"]).filter goodWord)
def wsL_bond : List Cond := .codeWith yL_bond cL_bond 4 (some .int) [(0, 9, 12, 13)] :: ([.classLink RL 13 "java/lang/IndexOutOfBoundsException", .methodLink RL 66 yX6_bond, .instanceMethod yX6_bond, .selects RX6 yX6_bond yX6_bond, .initialized RX6, .code yX6_bond cX6_bond 2 (some .int), .methodLink RX6 69 yX6_sensorAt, .instanceMethod yX6_sensorAt, .selects RX6 yX6_sensorAt yX6_sensorAt, .code yX6_sensorAt cX6_sensorAt 2 (some (.object "SensorBond$Sensor")), .classLink RX6 59 "java/lang/IndexOutOfBoundsException", .initialized "java/lang/IndexOutOfBoundsException", .fieldLink RX6 17 "SensorBond" "sensors" "[LSensorBond$Sensor;"] ++ wsX40 ++ wsX60 ++ (vx_atS RX6 63 "java/lang/IndexOutOfBoundsException" ["java/lang/RuntimeException", "java/lang/Exception"]).filter goodWord)
def wsL_bondByCuts : List Cond := .codeWith yL_bondByCuts cL_bondByCuts 4 (some .int) [(0, 9, 12, 13)] :: ([.classLink RL 13 "java/lang/IndexOutOfBoundsException", .methodLink RL 69 yX6_bondByCuts, .instanceMethod yX6_bondByCuts, .selects RX6 yX6_bondByCuts yX6_bondByCuts, .initialized RX6, .code yX6_bondByCuts cX6_bondByCuts 5 (some .int), .fieldLink RX6 33 "SensorBond" "readingCount" "I", .fieldLink RX6 29 "SensorBond" "readings" "[LSensorBond$Reading;", .methodLink RX6 69 yX6_sensorAt, .instanceMethod yX6_sensorAt, .selects RX6 yX6_sensorAt yX6_sensorAt, .code yX6_sensorAt cX6_sensorAt 2 (some (.object "SensorBond$Sensor")), .classLink RX6 59 "java/lang/IndexOutOfBoundsException", .initialized "java/lang/IndexOutOfBoundsException", .fieldLink RX6 17 "SensorBond" "sensors" "[LSensorBond$Sensor;"] ++ wsX40 ++ wsX60 ++ wsX20 ++ (vx_atS RX6 63 "java/lang/IndexOutOfBoundsException" ["java/lang/RuntimeException", "java/lang/Exception"]).filter goodWord)
def wsL_earned : List Cond := .codeWith yL_earned cL_earned 4 (some .int) [(0, 9, 12, 13)] :: ([.classLink RL 13 "java/lang/IndexOutOfBoundsException", .methodLink RL 72 yX6_earned, .instanceMethod yX6_earned, .selects RX6 yX6_earned yX6_earned, .initialized RX6, .code yX6_earned cX6_earned 2 (some .int), .methodLink RX6 69 yX6_sensorAt, .instanceMethod yX6_sensorAt, .selects RX6 yX6_sensorAt yX6_sensorAt, .code yX6_sensorAt cX6_sensorAt 2 (some (.object "SensorBond$Sensor")), .classLink RX6 59 "java/lang/IndexOutOfBoundsException", .initialized "java/lang/IndexOutOfBoundsException", .fieldLink RX6 17 "SensorBond" "sensors" "[LSensorBond$Sensor;"] ++ wsX40 ++ wsX60 ++ (vx_atS RX6 63 "java/lang/IndexOutOfBoundsException" ["java/lang/RuntimeException", "java/lang/Exception"]).filter goodWord)
def wsL_mark : List Cond := .codeWith yL_mark cL_mark 4 (some .int) [(0, 9, 12, 13)] :: ([.classLink RL 13 "java/lang/IndexOutOfBoundsException", .methodLink RL 75 yX6_mark, .instanceMethod yX6_mark, .selects RX6 yX6_mark yX6_mark, .initialized RX6, .code yX6_mark cX6_mark 5 (some .int), .fieldLink RX6 33 "SensorBond" "readingCount" "I", .fieldLink RX6 29 "SensorBond" "readings" "[LSensorBond$Reading;", .methodLink RX6 69 yX6_sensorAt, .instanceMethod yX6_sensorAt, .selects RX6 yX6_sensorAt yX6_sensorAt, .code yX6_sensorAt cX6_sensorAt 2 (some (.object "SensorBond$Sensor")), .classLink RX6 59 "java/lang/IndexOutOfBoundsException", .initialized "java/lang/IndexOutOfBoundsException", .fieldLink RX6 17 "SensorBond" "sensors" "[LSensorBond$Sensor;", .methodLink RX6 246 yX6_weightOf, .static yX6_weightOf, .code yX6_weightOf cX6_weightOf 1 (some .int)] ++ wsX60 ++ wsX20 ++ (vx_atS RX6 63 "java/lang/IndexOutOfBoundsException" ["java/lang/RuntimeException", "java/lang/Exception"]).filter goodWord)
def wsL_purse : List Cond := .codeWith yL_purse cL_purse 4 (some .int) [(0, 9, 12, 13)] :: ([.classLink RL 13 "java/lang/IndexOutOfBoundsException", .methodLink RL 78 yX6_purse, .instanceMethod yX6_purse, .selects RX6 yX6_purse yX6_purse, .initialized RX6, .code yX6_purse cX6_purse 2 (some .int), .methodLink RX6 134 yX6_buyerAt, .instanceMethod yX6_buyerAt, .selects RX6 yX6_buyerAt yX6_buyerAt, .code yX6_buyerAt cX6_buyerAt 2 (some (.object "SensorBond$Buyer")), .classLink RX6 59 "java/lang/IndexOutOfBoundsException", .initialized "java/lang/IndexOutOfBoundsException", .fieldLink RX6 23 "SensorBond" "buyers" "[LSensorBond$Buyer;"] ++ wsX00 ++ wsX60 ++ (vx_atS RX6 63 "java/lang/IndexOutOfBoundsException" ["java/lang/RuntimeException", "java/lang/Exception"]).filter goodWord)
def wsL_aside : List Cond := .codeWith yL_aside cL_aside 5 (some .int) [(0, 10, 13, 13)] :: ([.classLink RL 13 "java/lang/IndexOutOfBoundsException", .methodLink RL 81 yX6_aside, .instanceMethod yX6_aside, .selects RX6 yX6_aside yX6_aside, .initialized RX6, .code yX6_aside cX6_aside 6 (some .int), .methodLink RX6 134 yX6_buyerAt, .instanceMethod yX6_buyerAt, .selects RX6 yX6_buyerAt yX6_buyerAt, .code yX6_buyerAt cX6_buyerAt 2 (some (.object "SensorBond$Buyer")), .classLink RX6 59 "java/lang/IndexOutOfBoundsException", .initialized "java/lang/IndexOutOfBoundsException", .fieldLink RX6 23 "SensorBond" "buyers" "[LSensorBond$Buyer;", .methodLink RX6 69 yX6_sensorAt, .instanceMethod yX6_sensorAt, .selects RX6 yX6_sensorAt yX6_sensorAt, .code yX6_sensorAt cX6_sensorAt 2 (some (.object "SensorBond$Sensor")), .fieldLink RX6 17 "SensorBond" "sensors" "[LSensorBond$Sensor;"] ++ wsX00 ++ wsX40 ++ wsX50 ++ wsX60 ++ (vx_atS RX6 63 "java/lang/IndexOutOfBoundsException" ["java/lang/RuntimeException", "java/lang/Exception"]).filter goodWord)
def wsL_law0_r1 : List Cond := [Cond.classLink RL 8 RX6, Cond.instantiable RX6 8, Cond.initialized RX6, Cond.classLink RL 85 RX7, Cond.instantiable RX7 27, Cond.initialized RX7, Cond.arrayClass .long, Cond.methodLink RL 84 yX6_init, Cond.instanceMethod yX6_init, Cond.code yX6_init cX6_init 3 none, Cond.methodLink RX6 1 objectInit, Cond.instanceMethod objectInit, Cond.code objectInit ⟨#[0xb1]⟩ 1 none, Cond.classLink RX6 9 RX3, Cond.fieldLink RX6 11 "SensorBond" "repeaters" "[LSensorBond$Repeater;", Cond.classLink RX6 15 RX4, Cond.fieldLink RX6 17 "SensorBond" "sensors" "[LSensorBond$Sensor;", Cond.classLink RX6 21 RX0, Cond.fieldLink RX6 23 "SensorBond" "buyers" "[LSensorBond$Buyer;", Cond.classLink RX6 27 RX2, Cond.fieldLink RX6 29 "SensorBond" "readings" "[LSensorBond$Reading;", Cond.fieldLink RX6 33 "SensorBond" "readingCount" "I", Cond.fieldLink RX6 37 "SensorBond" "house" "I", Cond.fieldLink RX6 40 "SensorBond" "tick" "I"]
def wsL_law0_r2 : List Cond := [Cond.fieldLink RX6 43 "SensorBond" "busyUntil" "I", Cond.instantiable RX3 4, Cond.initialized RX3, Cond.instantiable RX4 7, Cond.initialized RX4, Cond.instantiable RX0 2, Cond.initialized RX0, Cond.instanceMethod yX3_init, Cond.code yX3_init cX3_init 3 none, Cond.methodLink RX3 1 objectInit, Cond.fieldLink RX3 7 "SensorBond$Repeater" "lossEvery" "I", Cond.fieldLink RX3 13 "SensorBond$Repeater" "come" "I", Cond.fieldLink RX3 16 "SensorBond$Repeater" "number" "I", Cond.fieldLink RX3 19 "SensorBond$Repeater" "on" "LSensorBond$Repeater;", Cond.instanceMethod yX4_init, Cond.code yX4_init cX4_init 3 none, Cond.methodLink RX4 3 objectInit, Cond.fieldLink RX4 9 "SensorBond$Sensor" "price" "I", Cond.fieldLink RX4 15 "SensorBond$Sensor" "bond" "I", Cond.fieldLink RX4 18 "SensorBond$Sensor" "purse" "I", Cond.fieldLink RX4 21 "SensorBond$Sensor" "put" "I", Cond.fieldLink RX4 24 "SensorBond$Sensor" "lastTold" "I", Cond.fieldLink RX4 27 "SensorBond$Sensor" "number" "I", Cond.fieldLink RX4 30 "SensorBond$Sensor" "repeater" "LSensorBond$Repeater;"]
def wsL_law0_r3 : List Cond := [Cond.instanceMethod yX0_init, Cond.code yX0_init cX0_init 1 none, Cond.methodLink RX0 3 objectInit, Cond.fieldLink RX0 9 "SensorBond$Buyer" "purse" "I", Cond.classLink RX0 15 RX5, Cond.fieldLink RX0 17 "SensorBond$Buyer" "windows" "[LSensorBond$Window;", Cond.methodLink RL 87 yX7_init, Cond.instanceMethod yX7_init, Cond.code yX7_init cX7_init 2 none, Cond.methodLink RX7 1 objectInit, Cond.arrayClass .int, Cond.fieldLink RX7 7 "SensorBondModel" "hangsOn" "[I", Cond.fieldLink RX7 13 "SensorBondModel" "lossOf" "[I", Cond.fieldLink RX7 16 "SensorBondModel" "came" "[I", Cond.fieldLink RX7 19 "SensorBondModel" "gone" "[I", Cond.fieldLink RX7 22 "SensorBondModel" "attached" "[I", Cond.fieldLink RX7 25 "SensorBondModel" "bond" "[I", Cond.fieldLink RX7 28 "SensorBondModel" "earned" "[I", Cond.fieldLink RX7 31 "SensorBondModel" "price" "[I", Cond.fieldLink RX7 34 "SensorBondModel" "toldIn" "[I", Cond.fieldLink RX7 37 "SensorBondModel" "purse" "[I", Cond.arrayClass .boolean, Cond.fieldLink RX7 40 "SensorBondModel" "isOpen" "[Z", Cond.fieldLink RX7 44 "SensorBondModel" "lastTick" "[I"]
def wsL_law0_r4 : List Cond := [Cond.fieldLink RX7 47 "SensorBondModel" "windowPrice" "[I", Cond.fieldLink RX7 50 "SensorBondModel" "aside" "[I", Cond.fieldLink RX7 53 "SensorBondModel" "by" "[I", Cond.fieldLink RX7 56 "SensorBondModel" "value" "[I", Cond.fieldLink RX7 59 "SensorBondModel" "state" "[I", Cond.fieldLink RX7 62 "SensorBondModel" "passed" "[I", Cond.fieldLink RX7 65 "SensorBondModel" "since" "[I", Cond.fieldLink RX7 68 "SensorBondModel" "challenger" "[I", Cond.fieldLink RX7 71 "SensorBondModel" "held" "[I", Cond.fieldLink RX7 74 "SensorBondModel" "usedBy" "[I", Cond.fieldLink RX7 77 "SensorBondModel" "samples" "[I", Cond.methodLink RL 88 yL_hang, Cond.static yL_hang, Cond.initialized RL, Cond.codeWith yL_hang cL_hang 5 (some .int) [(0, 10, 13, 13)], Cond.classLink RL 13 "java/lang/IndexOutOfBoundsException", Cond.methodLink RL 7 yX6_hang, Cond.instanceMethod yX6_hang, Cond.selects RX6 yX6_hang yX6_hang, Cond.code yX6_hang cX6_hang 6 (some .int), Cond.classLink RX6 59 "java/lang/IndexOutOfBoundsException", Cond.initialized "java/lang/IndexOutOfBoundsException", Cond.methodLink RX6 51 yX6_repeaterAt, Cond.instanceMethod yX6_repeaterAt]
def wsL_law0_r5 : List Cond := [Cond.selects RX6 yX6_repeaterAt yX6_repeaterAt, Cond.code yX6_repeaterAt cX6_repeaterAt 2 (some (.object "SensorBond$Repeater")), Cond.methodLink RL 93 yX7_hang, Cond.instanceMethod yX7_hang, Cond.selects RX7 yX7_hang yX7_hang, Cond.code yX7_hang cX7_hang 4 (some .int), Cond.methodLink RX7 84 yX7_isIn, Cond.static yX7_isIn, Cond.code yX7_isIn cX7_isIn 3 (some .boolean), Cond.methodLink RX7 99 yX7_can, Cond.instanceMethod yX7_can, Cond.selects RX7 yX7_can yX7_can, Cond.code yX7_can cX7_can 2 (some .boolean), Cond.fieldLink RX7 80 "SensorBondModel" "thrown" "I", Cond.methodLink RL 94 yX7_thrown, Cond.instanceMethod yX7_thrown, Cond.selects RX7 yX7_thrown yX7_thrown, Cond.code yX7_thrown cX7_thrown 1 (some .int), Cond.methodLink RL 98 yL_attach, Cond.static yL_attach, Cond.codeWith yL_attach cL_attach 5 (some .int) [(0, 10, 13, 13)], Cond.methodLink RL 15 yX6_attach, Cond.instanceMethod yX6_attach, Cond.selects RX6 yX6_attach yX6_attach]
def wsL_law0_r6 : List Cond := [Cond.code yX6_attach cX6_attach 6 (some .int), Cond.methodLink RX6 69 yX6_sensorAt, Cond.instanceMethod yX6_sensorAt, Cond.selects RX6 yX6_sensorAt yX6_sensorAt, Cond.code yX6_sensorAt cX6_sensorAt 2 (some (.object "SensorBond$Sensor")), Cond.methodLink RL 100 yX7_attach, Cond.instanceMethod yX7_attach, Cond.selects RX7 yX7_attach yX7_attach, Cond.code yX7_attach cX7_attach 4 (some .int), Cond.methodLink RX7 103 yX7_isSensor, Cond.static yX7_isSensor, Cond.code yX7_isSensor cX7_isSensor 1 (some .boolean), Cond.methodLink RX7 106 yX7_isRepeater, Cond.static yX7_isRepeater, Cond.code yX7_isRepeater cX7_isRepeater 1 (some .boolean), Cond.methodLink RL 101 yL_setLoss, Cond.static yL_setLoss, Cond.codeWith yL_setLoss cL_setLoss 5 (some .int) [(0, 10, 13, 13), (0, 10, 17, 21)], Cond.classLink RL 21 "java/lang/IllegalArgumentException", Cond.methodLink RL 18 yX6_setLoss, Cond.instanceMethod yX6_setLoss, Cond.selects RX6 yX6_setLoss yX6_setLoss, Cond.code yX6_setLoss cX6_setLoss 5 (some .int), Cond.methodLink RX6 76 yX6_checkWithin]
def wsL_law0_r7 : List Cond := [Cond.static yX6_checkWithin, Cond.code yX6_checkWithin cX6_checkWithin 3 none, Cond.classLink RX6 93 "java/lang/IllegalArgumentException", Cond.initialized "java/lang/IllegalArgumentException", Cond.instanceMethod yX3_countLost, Cond.selects RX3 yX3_countLost yX3_countLost, Cond.code yX3_countLost cX3_countLost 1 (some .int), Cond.methodLink RL 103 yX7_setLoss, Cond.instanceMethod yX7_setLoss, Cond.selects RX7 yX7_setLoss yX7_setLoss, Cond.code yX7_setLoss cX7_setLoss 4 (some .int), Cond.methodLink RL 104 yL_setPrice, Cond.static yL_setPrice, Cond.codeWith yL_setPrice cL_setPrice 5 (some .int) [(0, 10, 13, 13), (0, 10, 17, 21)], Cond.methodLink RL 23 yX6_setPrice, Cond.instanceMethod yX6_setPrice, Cond.selects RX6 yX6_setPrice yX6_setPrice, Cond.code yX6_setPrice cX6_setPrice 5 (some .int), Cond.methodLink RL 106 yX7_setPrice, Cond.instanceMethod yX7_setPrice, Cond.selects RX7 yX7_setPrice yX7_setPrice, Cond.code yX7_setPrice cX7_setPrice 4 (some .int), Cond.methodLink RL 107 yL_topUp, Cond.static yL_topUp]
def wsL_law0_r8 : List Cond := [Cond.codeWith yL_topUp cL_topUp 5 (some .int) [(0, 10, 13, 13), (0, 10, 17, 21), (0, 10, 21, 29)], Cond.classLink RL 29 "java/lang/IllegalStateException", Cond.methodLink RL 26 yX6_topUp, Cond.instanceMethod yX6_topUp, Cond.selects RX6 yX6_topUp yX6_topUp, Cond.code yX6_topUp cX6_topUp 4 (some .int), Cond.classLink RX6 101 "java/lang/IllegalStateException", Cond.initialized "java/lang/IllegalStateException", Cond.methodLink RL 109 yX7_topUp, Cond.instanceMethod yX7_topUp, Cond.selects RX7 yX7_topUp yX7_topUp, Cond.code yX7_topUp cX7_topUp 3 (some .int), Cond.methodLink RL 110 yL_tell, Cond.static yL_tell, Cond.codeWith yL_tell cL_tell 5 (some .int) [(0, 10, 13, 13), (0, 10, 17, 21), (0, 10, 21, 29)], Cond.methodLink RL 31 yX6_tell, Cond.instanceMethod yX6_tell, Cond.selects RX6 yX6_tell yX6_tell, Cond.code yX6_tell cX6_tell 6 (some .int), Cond.instantiable RX2 10, Cond.initialized RX2, Cond.methodLink RX6 117 yX6_sendParts, Cond.static yX6_sendParts, Cond.code yX6_sendParts cX6_sendParts 3 (some .int)]
def wsL_law0_r9 : List Cond := [Cond.methodLink RX6 262 yX6_passesHub, Cond.static yX6_passesHub, Cond.code yX6_passesHub cX6_passesHub 2 (some .boolean), Cond.instanceMethod yX3_losesNext, Cond.selects RX3 yX3_losesNext yX3_losesNext, Cond.code yX3_losesNext cX3_losesNext 1 (some .boolean), Cond.instanceMethod yX2_init, Cond.code yX2_init cX2_init 4 none, Cond.methodLink RX2 3 objectInit, Cond.fieldLink RX2 9 "SensorBond$Reading" "due" "I", Cond.fieldLink RX2 15 "SensorBond$Reading" "paid" "[I", Cond.fieldLink RX2 19 "SensorBond$Reading" "users" "I", Cond.fieldLink RX2 22 "SensorBond$Reading" "held" "I", Cond.fieldLink RX2 25 "SensorBond$Reading" "cut" "I", Cond.fieldLink RX2 28 "SensorBond$Reading" "challenge" "LSensorBond$Challenge;", Cond.fieldLink RX2 32 "SensorBond$Reading" "sensor" "LSensorBond$Sensor;", Cond.fieldLink RX2 36 "SensorBond$Reading" "value" "I", Cond.fieldLink RX2 39 "SensorBond$Reading" "parts" "I", Cond.fieldLink RX2 42 "SensorBond$Reading" "state" "I", Cond.methodLink RX6 127 yX6_waitFor, Cond.instanceMethod yX6_waitFor, Cond.selects RX6 yX6_waitFor yX6_waitFor, Cond.code yX6_waitFor cX6_waitFor 2 none, Cond.methodLink RX6 149 Lib.Math.max.name]
def wsL_law0_r10 : List Cond := [Cond.static Lib.Math.max.name, Cond.initialized "java/lang/Math", Cond.code Lib.Math.max.name Lib.Math.max.code 2 (some .int), Cond.methodLink RX6 131 yX6_letWindowsUse, Cond.instanceMethod yX6_letWindowsUse, Cond.selects RX6 yX6_letWindowsUse yX6_letWindowsUse, Cond.code yX6_letWindowsUse cX6_letWindowsUse 5 none, Cond.methodLink RL 112 yX7_tell, Cond.instanceMethod yX7_tell, Cond.selects RX7 yX7_tell yX7_tell, Cond.code yX7_tell cX7_tell 8 (some .int), Cond.fieldLink RX7 109 "SensorBondModel" "tick" "I", Cond.fieldLink RX7 88 "SensorBondModel" "readings" "I", Cond.methodLink RX7 112 yX7_isValue, Cond.static yX7_isValue, Cond.code yX7_isValue cX7_isValue 1 (some .boolean), Cond.methodLink RX7 115 yX7_goes, Cond.instanceMethod yX7_goes, Cond.selects RX7 yX7_goes yX7_goes, Cond.code yX7_goes cX7_goes 3 (some .boolean), Cond.methodLink RL 113 yL_open, Cond.static yL_open, Cond.codeWith yL_open cL_open 6 (some .int) [(0, 12, 15, 13), (0, 12, 19, 21), (0, 12, 23, 29)], Cond.methodLink RL 34 yX6_open]
def wsL_law0_r11 : List Cond := [Cond.instanceMethod yX6_open, Cond.selects RX6 yX6_open yX6_open, Cond.code yX6_open cX6_open 8 (some .int), Cond.classLink RX6 145 RX5, Cond.instantiable RX5 3, Cond.initialized RX5, Cond.methodLink RX6 134 yX6_buyerAt, Cond.instanceMethod yX6_buyerAt, Cond.selects RX6 yX6_buyerAt yX6_buyerAt, Cond.code yX6_buyerAt cX6_buyerAt 2 (some (.object "SensorBond$Buyer")), Cond.instanceMethod yX5_init, Cond.code yX5_init cX5_init 4 none, Cond.methodLink RX5 1 objectInit, Cond.fieldLink RX5 7 "SensorBond$Window" "price" "I", Cond.fieldLink RX5 13 "SensorBond$Window" "left" "I", Cond.fieldLink RX5 16 "SensorBond$Window" "last" "I", Cond.methodLink RL 116 yX7_open, Cond.instanceMethod yX7_open, Cond.selects RX7 yX7_open yX7_open, Cond.code yX7_open cX7_open 7 (some .int), Cond.methodLink RX7 118 yX7_isBuyer, Cond.static yX7_isBuyer, Cond.code yX7_isBuyer cX7_isBuyer 1 (some .boolean), Cond.methodLink RL 117 yL_challenge]
def wsL_law0_r12 : List Cond := [Cond.static yL_challenge, Cond.codeWith yL_challenge cL_challenge 5 (some .int) [(0, 10, 13, 13), (0, 10, 17, 29)], Cond.methodLink RL 38 yX6_challenge, Cond.instanceMethod yX6_challenge, Cond.selects RX6 yX6_challenge yX6_challenge, Cond.code yX6_challenge cX6_challenge 5 (some .int), Cond.classLink RX6 161 RX1, Cond.instantiable RX1 4, Cond.initialized RX1, Cond.methodLink RX6 155 yX6_readingAt, Cond.instanceMethod yX6_readingAt, Cond.selects RX6 yX6_readingAt yX6_readingAt, Cond.code yX6_readingAt cX6_readingAt 2 (some (.object "SensorBond$Reading")), Cond.instanceMethod yX1_init, Cond.code yX1_init cX1_init 2 none, Cond.methodLink RX1 3 objectInit, Cond.fieldLink RX1 9 "SensorBond$Challenge" "samples" "[I", Cond.fieldLink RX1 15 "SensorBond$Challenge" "count" "I", Cond.fieldLink RX1 19 "SensorBond$Challenge" "givers" "I", Cond.fieldLink RX1 22 "SensorBond$Challenge" "challenger" "LSensorBond$Buyer;", Cond.methodLink RX6 175 yX6_countNeighbours, Cond.static yX6_countNeighbours, Cond.code yX6_countNeighbours cX6_countNeighbours 3 (some .int), Cond.methodLink RX6 179 yX6_areNeighbours]
def wsL_law0_r13 : List Cond := [Cond.static yX6_areNeighbours, Cond.code yX6_areNeighbours cX6_areNeighbours 4 (some .boolean), Cond.methodLink RX6 315 Lib.Math.abs.name, Cond.static Lib.Math.abs.name, Cond.code Lib.Math.abs.name Lib.Math.abs.code 1 (some .int), Cond.methodLink RL 119 yX7_challenge, Cond.instanceMethod yX7_challenge, Cond.selects RX7 yX7_challenge yX7_challenge, Cond.code yX7_challenge cX7_challenge 4 (some .int), Cond.methodLink RX7 121 yX7_isReading, Cond.instanceMethod yX7_isReading, Cond.selects RX7 yX7_isReading yX7_isReading, Cond.code yX7_isReading cX7_isReading 2 (some .boolean), Cond.methodLink RX7 124 yX7_neighboursOf, Cond.static yX7_neighboursOf, Cond.code yX7_neighboursOf cX7_neighboursOf 3 (some .int), Cond.methodLink RX7 95 yX7_areNeighbours, Cond.static yX7_areNeighbours, Cond.code yX7_areNeighbours cX7_areNeighbours 4 (some .boolean), Cond.methodLink RX7 91 yX7_apart, Cond.static yX7_apart, Cond.code yX7_apart cX7_apart 2 (some .int), Cond.methodLink RL 120 yL_sample, Cond.static yL_sample]
def wsL_law0_r14 : List Cond := [Cond.codeWith yL_sample cL_sample 6 (some .int) [(0, 12, 15, 13), (0, 12, 19, 21), (0, 12, 23, 29)], Cond.methodLink RL 41 yX6_sample, Cond.instanceMethod yX6_sample, Cond.selects RX6 yX6_sample yX6_sample, Cond.code yX6_sample cX6_sample 7 (some .int), Cond.instanceMethod yX1_hasSampleOf, Cond.selects RX1 yX1_hasSampleOf yX1_hasSampleOf, Cond.code yX1_hasSampleOf cX1_hasSampleOf 2 (some .boolean), Cond.instanceMethod yX1_addSample, Cond.selects RX1 yX1_addSample yX1_addSample, Cond.code yX1_addSample cX1_addSample 4 none, Cond.methodLink RX6 196 yX6_judge, Cond.instanceMethod yX6_judge, Cond.selects RX6 yX6_judge yX6_judge, Cond.code yX6_judge cX6_judge 3 none, Cond.instanceMethod yX1_refutes, Cond.selects RX1 yX1_refutes yX1_refutes, Cond.code yX1_refutes cX1_refutes 2 (some .boolean), Cond.methodLink RX1 35 Lib.Math.abs.name, Cond.methodLink RX1 31 yX1_findMiddle, Cond.instanceMethod yX1_findMiddle, Cond.selects RX1 yX1_findMiddle yX1_findMiddle, Cond.code yX1_findMiddle cX1_findMiddle 1 (some .int), Cond.methodLink RX6 298 yX6_payBack]
def wsL_law0_r15 : List Cond := [Cond.instanceMethod yX6_payBack, Cond.selects RX6 yX6_payBack yX6_payBack, Cond.code yX6_payBack cX6_payBack 4 none, Cond.methodLink RX6 301 yX6_shareCut, Cond.instanceMethod yX6_shareCut, Cond.selects RX6 yX6_shareCut yX6_shareCut, Cond.code yX6_shareCut cX6_shareCut 6 none, Cond.methodLink RX6 308 Lib.Math.min.name, Cond.static Lib.Math.min.name, Cond.code Lib.Math.min.name Lib.Math.min.code 2 (some .int), Cond.methodLink RX6 311 yX6_payUsers, Cond.instanceMethod yX6_payUsers, Cond.selects RX6 yX6_payUsers yX6_payUsers, Cond.code yX6_payUsers cX6_payUsers 5 (some .int), Cond.methodLink RX6 288 yX6_letStand, Cond.static yX6_letStand, Cond.code yX6_letStand cX6_letStand 1 none, Cond.methodLink RL 122 yX7_sample, Cond.instanceMethod yX7_sample, Cond.selects RX7 yX7_sample yX7_sample, Cond.code yX7_sample cX7_sample 6 (some .int), Cond.methodLink RX7 128 yX7_samplesFor, Cond.instanceMethod yX7_samplesFor, Cond.selects RX7 yX7_samplesFor yX7_samplesFor]
def wsL_law0_r16 : List Cond := [Cond.code yX7_samplesFor cX7_samplesFor 4 (some .int), Cond.methodLink RX7 147 yX7_judges, Cond.instanceMethod yX7_judges, Cond.selects RX7 yX7_judges yX7_judges, Cond.code yX7_judges cX7_judges 3 none, Cond.methodLink RX7 137 yX7_middleOf, Cond.instanceMethod yX7_middleOf, Cond.selects RX7 yX7_middleOf yX7_middleOf, Cond.code yX7_middleOf cX7_middleOf 9 (some .int), Cond.methodLink RX7 140 yX7_lies, Cond.instanceMethod yX7_lies, Cond.selects RX7 yX7_lies yX7_lies, Cond.code yX7_lies cX7_lies 8 none, Cond.fieldLink RX7 134 "SensorBondModel" "house" "I", Cond.methodLink RX7 131 yX7_size, Cond.static yX7_size, Cond.code yX7_size cX7_size 3 (some .int), Cond.methodLink RX7 144 yX7_stands, Cond.instanceMethod yX7_stands, Cond.selects RX7 yX7_stands yX7_stands, Cond.code yX7_stands cX7_stands 3 none, Cond.methodLink RL 123 yL_advance, Cond.static yL_advance, Cond.codeWith yL_advance cL_advance 4 (some .int) [(0, 9, 12, 21), (0, 9, 15, 29)]]
def wsL_law0_r17 : List Cond := [Cond.methodLink RL 44 yX6_advance, Cond.instanceMethod yX6_advance, Cond.selects RX6 yX6_advance yX6_advance, Cond.code yX6_advance cX6_advance 4 (some .int), Cond.methodLink RX6 202 yX6_endTick, Cond.instanceMethod yX6_endTick, Cond.selects RX6 yX6_endTick yX6_endTick, Cond.code yX6_endTick cX6_endTick 3 none, Cond.instanceMethod yX2_isOpen, Cond.selects RX2 yX2_isOpen yX2_isOpen, Cond.code yX2_isOpen cX2_isOpen 1 (some .boolean), Cond.methodLink RX6 281 yX6_settle, Cond.instanceMethod yX6_settle, Cond.selects RX6 yX6_settle yX6_settle, Cond.code yX6_settle cX6_settle 3 none, Cond.methodLink RX6 284 yX6_closeWindows, Cond.static yX6_closeWindows, Cond.code yX6_closeWindows cX6_closeWindows 4 none, Cond.methodLink RL 126 yX7_advance, Cond.instanceMethod yX7_advance, Cond.selects RX7 yX7_advance yX7_advance, Cond.code yX7_advance cX7_advance 3 (some .int), Cond.methodLink RX7 150 yX7_ends, Cond.instanceMethod yX7_ends]
def wsL_law0_r18 : List Cond := [Cond.selects RX7 yX7_ends yX7_ends, Cond.code yX7_ends cX7_ends 3 none, Cond.methodLink RL 127 yX6_tick, Cond.instanceMethod yX6_tick, Cond.selects RX6 yX6_tick yX6_tick, Cond.code yX6_tick cX6_tick 1 (some .int), Cond.methodLink RL 130 yX7_tick, Cond.instanceMethod yX7_tick, Cond.selects RX7 yX7_tick yX7_tick, Cond.code yX7_tick cX7_tick 1 (some .int), Cond.methodLink RL 131 yX6_readings, Cond.instanceMethod yX6_readings, Cond.selects RX6 yX6_readings yX6_readings, Cond.code yX6_readings cX6_readings 1 (some .int), Cond.methodLink RL 134 yX7_readings, Cond.instanceMethod yX7_readings, Cond.selects RX7 yX7_readings yX7_readings, Cond.code yX7_readings cX7_readings 1 (some .int), Cond.methodLink RL 135 yL_stateOf, Cond.static yL_stateOf, Cond.codeWith yL_stateOf cL_stateOf 4 (some .int) [(0, 9, 12, 13)], Cond.methodLink RL 48 yX6_stateOf, Cond.instanceMethod yX6_stateOf, Cond.selects RX6 yX6_stateOf yX6_stateOf]
def wsL_law0_r19 : List Cond := [Cond.code yX6_stateOf cX6_stateOf 2 (some .int), Cond.methodLink RL 137 yX7_stateOf, Cond.instanceMethod yX7_stateOf, Cond.selects RX7 yX7_stateOf yX7_stateOf, Cond.code yX7_stateOf cX7_stateOf 2 (some .int), Cond.methodLink RX7 153 yX7_isAsked, Cond.instanceMethod yX7_isAsked, Cond.selects RX7 yX7_isAsked yX7_isAsked, Cond.code yX7_isAsked cX7_isAsked 2 (some .boolean), Cond.methodLink RL 138 yL_parts, Cond.static yL_parts, Cond.codeWith yL_parts cL_parts 4 (some .int) [(0, 9, 12, 13)], Cond.methodLink RL 51 yX6_parts, Cond.instanceMethod yX6_parts, Cond.selects RX6 yX6_parts yX6_parts, Cond.code yX6_parts cX6_parts 2 (some .int), Cond.methodLink RL 140 yX7_parts, Cond.instanceMethod yX7_parts, Cond.selects RX7 yX7_parts yX7_parts, Cond.code yX7_parts cX7_parts 2 (some .int), Cond.methodLink RL 141 yL_users, Cond.static yL_users, Cond.codeWith yL_users cL_users 4 (some .int) [(0, 9, 12, 13)], Cond.methodLink RL 54 yX6_users]
def wsL_law0_r20 : List Cond := [Cond.instanceMethod yX6_users, Cond.selects RX6 yX6_users yX6_users, Cond.code yX6_users cX6_users 2 (some .int), Cond.methodLink RL 143 yX7_users, Cond.instanceMethod yX7_users, Cond.selects RX7 yX7_users yX7_users, Cond.code yX7_users cX7_users 2 (some .int), Cond.methodLink RL 144 yL_held, Cond.static yL_held, Cond.codeWith yL_held cL_held 4 (some .int) [(0, 9, 12, 13)], Cond.methodLink RL 57 yX6_held, Cond.instanceMethod yX6_held, Cond.selects RX6 yX6_held yX6_held, Cond.code yX6_held cX6_held 2 (some .int), Cond.methodLink RL 146 yX7_held, Cond.instanceMethod yX7_held, Cond.selects RX7 yX7_held yX7_held, Cond.code yX7_held cX7_held 4 (some .int), Cond.methodLink RL 147 yL_middle, Cond.static yL_middle, Cond.codeWith yL_middle cL_middle 4 (some .int) [(0, 9, 12, 13)], Cond.methodLink RL 60 yX6_middle, Cond.instanceMethod yX6_middle, Cond.selects RX6 yX6_middle yX6_middle]
def wsL_law0_r21 : List Cond := [Cond.code yX6_middle cX6_middle 3 (some .int), Cond.methodLink RL 149 yX7_middle, Cond.instanceMethod yX7_middle, Cond.selects RX7 yX7_middle yX7_middle, Cond.code yX7_middle cX7_middle 2 (some .int), Cond.methodLink RL 150 yL_textAt, Cond.static yL_textAt, Cond.codeWith yL_textAt cL_textAt 5 (some .int) [(0, 10, 13, 13)], Cond.methodLink RL 63 yX6_textAt, Cond.instanceMethod yX6_textAt, Cond.selects RX6 yX6_textAt yX6_textAt, Cond.code yX6_textAt cX6_textAt 5 (some .int), Cond.classLink RX6 220 RJ4, Cond.instantiable RJ4 4, Cond.initialized RJ4, Cond.methodLink RX6 222 yJ4_init_da8c8, Cond.instanceMethod yJ4_init_da8c8, Cond.code yJ4_init_da8c8 cJ4_init_da8c8 1 none, Cond.methodLink RJ4 1 yJ5_init_d00df, Cond.instanceMethod yJ5_init_d00df, Cond.initialized RJ5, Cond.code yJ5_init_d00df cJ5_init_d00df 2 none, Cond.methodLink RJ5 3 objectInit, Cond.fieldLink RJ5 18 "java/lang/String" "COMPACT_STRINGS" "Z"]
def wsL_law0_r22 : List Cond := [Cond.arrayClass .byte, Cond.fieldLink RJ5 15 "java/lang/AbstractStringBuilder" "value" "[B", Cond.fieldLink RJ5 22 "java/lang/AbstractStringBuilder" "coder" "B", Cond.methodLink RJ5 26 yJ2_newBytesFor_77867, Cond.static yJ2_newBytesFor_77867, Cond.initialized RJ2, Cond.code yJ2_newBytesFor_77867 cJ2_newBytesFor_77867 1 (some (.array .byte)), Cond.methodLink RJ2 11 yJ2_newBytesLength_0f7a4, Cond.static yJ2_newBytesLength_0f7a4, Cond.code yJ2_newBytesLength_0f7a4 cJ2_newBytesLength_0f7a4 1 (some .int), Cond.constant RJ2 20 (1073741823), Cond.methodLink RX6 223 yJ4_append_cf468, Cond.instanceMethod yJ4_append_cf468, Cond.selects RJ4 yJ4_append_cf468 yJ4_append_cf468, Cond.code yJ4_append_cf468 cJ4_append_cf468 2 (some (.object "java/lang/StringBuilder")), Cond.methodLink RJ4 50 yJ5_append_3fe6f, Cond.sameMethod "java/lang/AbstractStringBuilder" "java/lang/AbstractStringBuilder" "append" "(C)Ljava/lang/AbstractStringBuilder;", Cond.superclass RJ4 RJ5, Cond.instanceMethod yJ5_append_3fe6f, Cond.code yJ5_append_3fe6f cJ5_append_3fe6f 2 (some (.object "java/lang/AbstractStringBuilder")), Cond.fieldLink RJ5 79 "java/lang/AbstractStringBuilder" "count" "I", Cond.methodLink RJ5 100 ⟨"java/lang/AbstractStringBuilder", "ensureCapacityInternal", "(I)V"⟩, Cond.sameMethod "java/lang/AbstractStringBuilder" "java/lang/AbstractStringBuilder" "ensureCapacityInternal" "(I)V", Cond.selects RJ4 ⟨"java/lang/AbstractStringBuilder", "ensureCapacityInternal", "(I)V"⟩ yJ5_ensureCapacityInternal_d00df]
def wsL_law0_r23 : List Cond := [Cond.instanceMethod yJ5_ensureCapacityInternal_d00df, Cond.code yJ5_ensureCapacityInternal_d00df cJ5_ensureCapacityInternal_d00df 3 none, Cond.methodLink RJ5 104 ⟨"java/lang/AbstractStringBuilder", "newCapacity", "(I)I"⟩, Cond.sameMethod "java/lang/AbstractStringBuilder" "java/lang/AbstractStringBuilder" "newCapacity" "(I)I", Cond.selects RJ4 ⟨"java/lang/AbstractStringBuilder", "newCapacity", "(I)I"⟩ yJ5_newCapacity_0f7a4, Cond.instanceMethod yJ5_newCapacity_0f7a4, Cond.code yJ5_newCapacity_0f7a4 cJ5_newCapacity_0f7a4 6 (some .int), Cond.constant RJ5 39 (2147483647), Cond.methodLink RJ5 114 yJ8_newLength_cabcc, Cond.static yJ8_newLength_cabcc, Cond.initialized RJ8, Cond.code yJ8_newLength_cabcc cJ8_newLength_cabcc 4 (some .int), Cond.methodLink RJ8 194 Lib.Math.max.name, Cond.constant RJ8 200 (2147483639), Cond.methodLink RJ8 201 yJ8_hugeLength_7cf53, Cond.static yJ8_hugeLength_7cf53, Cond.code yJ8_hugeLength_7cf53 cJ8_hugeLength_7cf53 3 (some .int), Cond.methodLink RJ5 108 yJ7_copyOf_9075b, Cond.static yJ7_copyOf_9075b, Cond.initialized RJ7, Cond.code yJ7_copyOf_9075b cJ7_copyOf_9075b 3 (some (.array .byte)), Cond.methodLink RJ7 310 ⟨"[B", "clone", "()Ljava/lang/Object;"⟩, Cond.sameMethod "[B" "java/lang/Object" "clone" "()Ljava/lang/Object;", Cond.native ⟨"java/lang/Object", "clone", "()Ljava/lang/Object;"⟩]
def wsL_law0_r24 : List Cond := [Cond.instanceMethod ⟨"java/lang/Object", "clone", "()Ljava/lang/Object;"⟩, Cond.selects "[B" ⟨"[B", "clone", "()Ljava/lang/Object;"⟩ ⟨"java/lang/Object", "clone", "()Ljava/lang/Object;"⟩, Cond.classLink RJ7 311 "[B", Cond.methodLink RJ7 304 Lib.Math.min.name, Cond.methodLink RJ7 150 arraycopyName, Cond.native arraycopyName, Cond.static arraycopyName, Cond.initialized "java/lang/System", Cond.methodLink RJ5 83 ⟨"java/lang/AbstractStringBuilder", "isLatin1", "()Z"⟩, Cond.sameMethod "java/lang/AbstractStringBuilder" "java/lang/AbstractStringBuilder" "isLatin1" "()Z", Cond.selects RJ4 ⟨"java/lang/AbstractStringBuilder", "isLatin1", "()Z"⟩ yJ5_isLatin1_aae02, Cond.instanceMethod yJ5_isLatin1_aae02, Cond.code yJ5_isLatin1_aae02 cJ5_isLatin1_aae02 1 (some .boolean), Cond.methodLink RJ5 191 yJ1_canEncode_fc78d, Cond.static yJ1_canEncode_fc78d, Cond.initialized RJ1, Cond.code yJ1_canEncode_fc78d cJ1_canEncode_fc78d 1 (some .boolean), Cond.methodLink RJ5 195 ⟨"java/lang/AbstractStringBuilder", "inflate", "()V"⟩, Cond.sameMethod "java/lang/AbstractStringBuilder" "java/lang/AbstractStringBuilder" "inflate" "()V", Cond.selects RJ4 ⟨"java/lang/AbstractStringBuilder", "inflate", "()V"⟩ yJ5_inflate_da8c8, Cond.instanceMethod yJ5_inflate_da8c8, Cond.code yJ5_inflate_da8c8 cJ5_inflate_da8c8 2 none, Cond.methodLink RJ5 125 yJ1_inflate_0e8fd, Cond.static yJ1_inflate_0e8fd]
def wsL_law0_r25 : List Cond := [Cond.code yJ1_inflate_0e8fd cJ1_inflate_0e8fd 5 none, Cond.methodLink RJ1 240 yJ2_inflate_0e8fd, Cond.static yJ2_inflate_0e8fd, Cond.code yJ2_inflate_0e8fd cJ2_inflate_0e8fd 6 none, Cond.methodLink RJ2 173 yJ2_checkBoundsOffCount_d044e, Cond.static yJ2_checkBoundsOffCount_d044e, Cond.code yJ2_checkBoundsOffCount_d044e cJ2_checkBoundsOffCount_d044e 3 none, Cond.methodLink RJ2 48 yJ2_length_9d52b, Cond.static yJ2_length_9d52b, Cond.code yJ2_length_9d52b cJ2_length_9d52b 1 (some .int), Cond.methodLink RJ2 419 yJ0_checkBoundsOffCount_cabcc, Cond.static yJ0_checkBoundsOffCount_cabcc, Cond.initialized RJ0, Cond.code yJ0_checkBoundsOffCount_cabcc cJ0_checkBoundsOffCount_cabcc 3 (some .int), Cond.fieldLink RJ0 1053 "jdk/internal/util/Preconditions" "SIOOBE_FORMATTER" "Ljava/util/function/BiFunction;", Cond.methodLink RJ0 1065 yJ3_checkFromIndexSize_8c36e, Cond.static yJ3_checkFromIndexSize_8c36e, Cond.initialized RJ3, Cond.code yJ3_checkFromIndexSize_8c36e cJ3_checkFromIndexSize_8c36e 4 (some .int), Cond.methodLink RJ2 111 yJ2_putChar_b72d1, Cond.static yJ2_putChar_b72d1, Cond.code yJ2_putChar_b72d1 cJ2_putChar_b72d1 3 none, Cond.fieldLink RJ2 44 "java/lang/StringUTF16" "$assertionsDisabled" "Z", Cond.fieldLink RJ2 59 "java/lang/StringUTF16" "HI_BYTE_SHIFT" "I"]
def wsL_law0_r26 : List Cond := [Cond.fieldLink RJ2 63 "java/lang/StringUTF16" "LO_BYTE_SHIFT" "I", Cond.methodLink RJ5 197 yJ2_putCharSB_b72d1, Cond.static yJ2_putCharSB_b72d1, Cond.code yJ2_putCharSB_b72d1 cJ2_putCharSB_b72d1 3 none, Cond.methodLink RJ2 67 yJ2_checkIndex_2214a, Cond.static yJ2_checkIndex_2214a, Cond.code yJ2_checkIndex_2214a cJ2_checkIndex_2214a 2 none, Cond.methodLink RJ2 414 yJ0_checkIndex_df160, Cond.static yJ0_checkIndex_df160, Cond.code yJ0_checkIndex_df160 cJ0_checkIndex_df160 2 none, Cond.methodLink RJ0 1059 yJ3_checkIndex_8e157, Cond.static yJ3_checkIndex_8e157, Cond.code yJ3_checkIndex_8e157 cJ3_checkIndex_8e157 3 (some .int), Cond.methodLink RX6 230 yJ4_append_bf812, Cond.instanceMethod yJ4_append_bf812, Cond.selects RJ4 yJ4_append_bf812 yJ4_append_bf812, Cond.code yJ4_append_bf812 cJ4_append_bf812 2 (some (.object "java/lang/StringBuilder")), Cond.methodLink RJ4 53 yJ5_append_c97b9, Cond.sameMethod "java/lang/AbstractStringBuilder" "java/lang/AbstractStringBuilder" "append" "(I)Ljava/lang/AbstractStringBuilder;", Cond.instanceMethod yJ5_append_c97b9, Cond.code yJ5_append_c97b9 cJ5_append_c97b9 4 (some (.object "java/lang/AbstractStringBuilder")), Cond.methodLink RJ5 245 yJ6_stringSize_0f7a4, Cond.static yJ6_stringSize_0f7a4, Cond.initialized RJ6]
def wsL_law0_r27 : List Cond := [Cond.code yJ6_stringSize_0f7a4 cJ6_stringSize_0f7a4 4 (some .int), Cond.methodLink RJ5 248 yJ6_getChars_ba4f3, Cond.static yJ6_getChars_ba4f3, Cond.code yJ6_getChars_ba4f3 cJ6_getChars_ba4f3 7 (some .int), Cond.fieldLink RJ6 83 "java/lang/Integer" "DigitOnes" "[B", Cond.fieldLink RJ6 87 "java/lang/Integer" "DigitTens" "[B", Cond.methodLink RJ5 251 yJ2_getChars_46870, Cond.static yJ2_getChars_46870, Cond.code yJ2_getChars_46870 cJ2_getChars_46870 5 (some .int), Cond.methodLink RJ2 96 yJ2_checkBoundsBeginEnd_d044e, Cond.static yJ2_checkBoundsBeginEnd_d044e, Cond.code yJ2_checkBoundsBeginEnd_d044e cJ2_checkBoundsBeginEnd_d044e 3 none, Cond.methodLink RJ2 241 yJ0_checkBoundsBeginEnd_23922, Cond.static yJ0_checkBoundsBeginEnd_23922, Cond.code yJ0_checkBoundsBeginEnd_23922 cJ0_checkBoundsBeginEnd_23922 3 none, Cond.methodLink RJ0 1062 yJ3_checkFromToIndex_8c36e, Cond.static yJ3_checkFromToIndex_8c36e, Cond.code yJ3_checkFromToIndex_8c36e cJ3_checkFromToIndex_8c36e 4 (some .int), Cond.methodLink RJ2 393 yJ2_getChars_ba4f3, Cond.static yJ2_getChars_ba4f3, Cond.code yJ2_getChars_ba4f3 cJ2_getChars_ba4f3 7 (some .int), Cond.fieldLink RJ2 403 "java/lang/Integer" "DigitOnes" "[B", Cond.fieldLink RJ2 407 "java/lang/Integer" "DigitTens" "[B", Cond.methodLink RX6 233 yX6_signOf]
def wsL_law0_r28 : List Cond := [Cond.static yX6_signOf, Cond.code yX6_signOf cX6_signOf 1 (some .char), Cond.methodLink RX6 237 yJ4_length_8abf5, Cond.instanceMethod yJ4_length_8abf5, Cond.selects RJ4 yJ4_length_8abf5 yJ4_length_8abf5, Cond.code yJ4_length_8abf5 cJ4_length_8abf5 1 (some .int), Cond.methodLink RJ4 343 yJ5_length_8abf5, Cond.sameMethod "java/lang/AbstractStringBuilder" "java/lang/AbstractStringBuilder" "length" "()I", Cond.instanceMethod yJ5_length_8abf5, Cond.code yJ5_length_8abf5 cJ5_length_8abf5 1 (some .int), Cond.methodLink RX6 240 yJ4_charAt_5068e, Cond.instanceMethod yJ4_charAt_5068e, Cond.selects RJ4 yJ4_charAt_5068e yJ4_charAt_5068e, Cond.code yJ4_charAt_5068e cJ4_charAt_5068e 2 (some .char), Cond.methodLink RJ4 329 yJ5_charAt_5068e, Cond.sameMethod "java/lang/AbstractStringBuilder" "java/lang/AbstractStringBuilder" "charAt" "(I)C", Cond.instanceMethod yJ5_charAt_5068e, Cond.code yJ5_charAt_5068e cJ5_charAt_5068e 5 (some .char), Cond.methodLink RJ5 138 Lib.Math.min.name, Cond.methodLink RJ5 144 yJ0_checkIndex_df160, Cond.methodLink RJ5 148 yJ2_getChar_3b067, Cond.static yJ2_getChar_3b067, Cond.code yJ2_getChar_3b067 cJ2_getChar_3b067 2 (some .char), Cond.methodLink RL 152 yX7_textAt]
def wsL_law0_r29 : List Cond := [Cond.instanceMethod yX7_textAt, Cond.selects RX7 yX7_textAt yX7_textAt, Cond.code yX7_textAt cX7_textAt 5 (some .int), Cond.methodLink RX7 156 yX7_signOf, Cond.static yX7_signOf, Cond.code yX7_signOf cX7_signOf 1 (some .int), Cond.methodLink RL 153 yL_bond, Cond.static yL_bond, Cond.codeWith yL_bond cL_bond 4 (some .int) [(0, 9, 12, 13)], Cond.methodLink RL 66 yX6_bond, Cond.instanceMethod yX6_bond, Cond.selects RX6 yX6_bond yX6_bond, Cond.code yX6_bond cX6_bond 2 (some .int), Cond.methodLink RL 155 yX7_bond, Cond.instanceMethod yX7_bond, Cond.selects RX7 yX7_bond yX7_bond, Cond.code yX7_bond cX7_bond 2 (some .int), Cond.methodLink RL 156 yL_bondByCuts, Cond.static yL_bondByCuts, Cond.codeWith yL_bondByCuts cL_bondByCuts 4 (some .int) [(0, 9, 12, 13)], Cond.methodLink RL 69 yX6_bondByCuts, Cond.instanceMethod yX6_bondByCuts, Cond.selects RX6 yX6_bondByCuts yX6_bondByCuts, Cond.code yX6_bondByCuts cX6_bondByCuts 5 (some .int)]
def wsL_law0_r30 : List Cond := [Cond.methodLink RL 158 yX7_bondByCuts, Cond.instanceMethod yX7_bondByCuts, Cond.selects RX7 yX7_bondByCuts yX7_bondByCuts, Cond.code yX7_bondByCuts cX7_bondByCuts 2 (some .int), Cond.methodLink RL 159 yL_earned, Cond.static yL_earned, Cond.codeWith yL_earned cL_earned 4 (some .int) [(0, 9, 12, 13)], Cond.methodLink RL 72 yX6_earned, Cond.instanceMethod yX6_earned, Cond.selects RX6 yX6_earned yX6_earned, Cond.code yX6_earned cX6_earned 2 (some .int), Cond.methodLink RL 161 yX7_earned, Cond.instanceMethod yX7_earned, Cond.selects RX7 yX7_earned yX7_earned, Cond.code yX7_earned cX7_earned 2 (some .int), Cond.methodLink RL 162 yL_mark, Cond.static yL_mark, Cond.codeWith yL_mark cL_mark 4 (some .int) [(0, 9, 12, 13)], Cond.methodLink RL 75 yX6_mark, Cond.instanceMethod yX6_mark, Cond.selects RX6 yX6_mark yX6_mark, Cond.code yX6_mark cX6_mark 5 (some .int), Cond.methodLink RX6 246 yX6_weightOf, Cond.static yX6_weightOf]
def wsL_law0_r31 : List Cond := [Cond.code yX6_weightOf cX6_weightOf 1 (some .int), Cond.methodLink RL 164 yX7_mark, Cond.instanceMethod yX7_mark, Cond.selects RX7 yX7_mark yX7_mark, Cond.code yX7_mark cX7_mark 4 (some .int), Cond.methodLink RL 165 yL_purse, Cond.static yL_purse, Cond.codeWith yL_purse cL_purse 4 (some .int) [(0, 9, 12, 13)], Cond.methodLink RL 78 yX6_purse, Cond.instanceMethod yX6_purse, Cond.selects RX6 yX6_purse yX6_purse, Cond.code yX6_purse cX6_purse 2 (some .int), Cond.methodLink RL 167 yX7_purse, Cond.instanceMethod yX7_purse, Cond.selects RX7 yX7_purse yX7_purse, Cond.code yX7_purse cX7_purse 2 (some .int), Cond.methodLink RL 168 yL_aside, Cond.static yL_aside, Cond.codeWith yL_aside cL_aside 5 (some .int) [(0, 10, 13, 13)], Cond.methodLink RL 81 yX6_aside, Cond.instanceMethod yX6_aside, Cond.selects RX6 yX6_aside yX6_aside, Cond.code yX6_aside cX6_aside 6 (some .int), Cond.methodLink RL 170 yX7_aside]
def wsL_law0_r32 : List Cond := [Cond.instanceMethod yX7_aside, Cond.selects RX7 yX7_aside yX7_aside, Cond.code yX7_aside cX7_aside 3 (some .int), Cond.methodLink RL 171 yX6_house, Cond.instanceMethod yX6_house, Cond.selects RX6 yX6_house yX6_house, Cond.code yX6_house cX6_house 1 (some .int), Cond.methodLink RL 174 yX7_house, Cond.instanceMethod yX7_house, Cond.selects RX7 yX7_house yX7_house, Cond.code yX7_house cX7_house 1 (some .int)]
def wsL_law0 : List Cond := (wsL_law0_r1 ++ (wsL_law0_r2 ++ (wsL_law0_r3 ++ (wsL_law0_r4 ++ (wsL_law0_r5 ++ (wsL_law0_r6 ++ (wsL_law0_r7 ++ (wsL_law0_r8 ++ (wsL_law0_r9 ++ (wsL_law0_r10 ++ (wsL_law0_r11 ++ (wsL_law0_r12 ++ (wsL_law0_r13 ++ (wsL_law0_r14 ++ (wsL_law0_r15 ++ (wsL_law0_r16 ++ (wsL_law0_r17 ++ (wsL_law0_r18 ++ (wsL_law0_r19 ++ (wsL_law0_r20 ++ (wsL_law0_r21 ++ (wsL_law0_r22 ++ (wsL_law0_r23 ++ (wsL_law0_r24 ++ (wsL_law0_r25 ++ (wsL_law0_r26 ++ (wsL_law0_r27 ++ (wsL_law0_r28 ++ (wsL_law0_r29 ++ (wsL_law0_r30 ++ (wsL_law0_r31 ++ wsL_law0_r32))))))))))))))))))))))))))))))) ++ wsX60 ++ wsX70 ++ wsX30 ++ wsX40 ++ wsX00 ++ wsX20 ++ wsX50 ++ wsX10 ++ wsJ40 ++ ([] : List Cond)
def wsL_law : List Cond := wsL_law0 ++ (vx_atS RX6 63 "java/lang/IndexOutOfBoundsException" ["java/lang/RuntimeException", "java/lang/Exception"]).filter goodWord ++ (vx_atS RX6 97 "java/lang/IllegalArgumentException" ["java/lang/RuntimeException", "java/lang/Exception"]).filter goodWord ++ (vx_atS RX6 105 "java/lang/IllegalStateException" ["java/lang/RuntimeException", "java/lang/Exception"]).filter goodWord
abbrev vwCl : List vw_C := [(RJ4, TJ4, 4), (RX0, TX0, 2), (RX1, TX1, 4), (RX2, TX2, 10), (RX3, TX3, 4), (RX4, TX4, 7), (RX5, TX5, 3), (RX6, TX6, 8), (RX7, TX7, 27)]
