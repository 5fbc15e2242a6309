/-! ===== what is the same all the time, outside the memory: words of nest mates, of throws, of texts ===== -/
def gNF : List (String × Nat × String × String × String × String) := [("SensorBond", 66, "SensorBond$Repeater", "number", "I", "SensorBond"), ("SensorBond", 55, "SensorBond$Repeater", "on", "LSensorBond$Repeater;", "SensorBond"), ("SensorBond", 84, "SensorBond$Repeater", "lossEvery", "I", "SensorBond"), ("SensorBond", 87, "SensorBond$Repeater", "come", "I", "SensorBond"), ("SensorBond$Challenge", 26, "SensorBond$Sensor", "number", "I", "SensorBond"), ("SensorBond", 174, "SensorBond$Sensor", "number", "I", "SensorBond"), ("SensorBond", 73, "SensorBond$Sensor", "repeater", "LSensorBond$Repeater;", "SensorBond"), ("SensorBond", 90, "SensorBond$Sensor", "price", "I", "SensorBond"), ("SensorBond", 106, "SensorBond$Sensor", "bond", "I", "SensorBond"), ("SensorBond", 98, "SensorBond$Sensor", "purse", "I", "SensorBond"), ("SensorBond", 109, "SensorBond$Sensor", "put", "I", "SensorBond"), ("SensorBond", 112, "SensorBond$Sensor", "lastTold", "I", "SensorBond"), ("SensorBond", 142, "SensorBond$Buyer", "purse", "I", "SensorBond"), ("SensorBond", 138, "SensorBond$Buyer", "windows", "[LSensorBond$Window;", "SensorBond"), ("SensorBond", 170, "SensorBond$Reading", "sensor", "LSensorBond$Sensor;", "SensorBond"), ("SensorBond", 227, "SensorBond$Reading", "value", "I", "SensorBond"), ("SensorBond", 206, "SensorBond$Reading", "parts", "I", "SensorBond"), ("SensorBond", 124, "SensorBond$Reading", "state", "I", "SensorBond"), ("SensorBond", 275, "SensorBond$Reading", "due", "I", "SensorBond"), ("SensorBond", 271, "SensorBond$Reading", "paid", "[I", "SensorBond"), ("SensorBond", 209, "SensorBond$Reading", "users", "I", "SensorBond"), ("SensorBond", 212, "SensorBond$Reading", "held", "I", "SensorBond"), ("SensorBond", 243, "SensorBond$Reading", "cut", "I", "SensorBond"), ("SensorBond", 166, "SensorBond$Reading", "challenge", "LSensorBond$Challenge;", "SensorBond"), ("SensorBond", 270, "SensorBond$Window", "price", "I", "SensorBond"), ("SensorBond", 291, "SensorBond$Window", "last", "I", "SensorBond"), ("SensorBond", 249, "SensorBond$Window", "left", "I", "SensorBond"), ("SensorBond", 304, "SensorBond$Challenge", "challenger", "LSensorBond$Buyer;", "SensorBond"), ("SensorBond", 193, "SensorBond$Challenge", "count", "I", "SensorBond")]
def gNM : List (String × Nat × MethodName × String) := [("SensorBond", 46, ⟨"SensorBond$Repeater", "<init>", "(ILSensorBond$Repeater;)V"⟩, "SensorBond"), ("SensorBond", 49, ⟨"SensorBond$Sensor", "<init>", "(ILSensorBond$Repeater;)V"⟩, "SensorBond"), ("SensorBond", 50, ⟨"SensorBond$Buyer", "<init>", "()V"⟩, "SensorBond"), ("SensorBond", 80, ⟨"SensorBond$Repeater", "countLost", "()I"⟩, "SensorBond"), ("SensorBond", 266, ⟨"SensorBond$Repeater", "losesNext", "()Z"⟩, "SensorBond"), ("SensorBond", 121, ⟨"SensorBond$Reading", "<init>", "(LSensorBond$Sensor;II)V"⟩, "SensorBond"), ("SensorBond", 147, ⟨"SensorBond$Window", "<init>", "(III)V"⟩, "SensorBond"), ("SensorBond", 163, ⟨"SensorBond$Challenge", "<init>", "(LSensorBond$Buyer;)V"⟩, "SensorBond"), ("SensorBond", 183, ⟨"SensorBond$Challenge", "hasSampleOf", "(LSensorBond$Sensor;)Z"⟩, "SensorBond"), ("SensorBond", 189, ⟨"SensorBond$Challenge", "addSample", "(LSensorBond$Sensor;I)V"⟩, "SensorBond"), ("SensorBond", 294, ⟨"SensorBond$Challenge", "refutes", "(I)Z"⟩, "SensorBond"), ("SensorBond", 278, ⟨"SensorBond$Reading", "isOpen", "()Z"⟩, "SensorBond"), ("SensorBond", 215, ⟨"SensorBond$Challenge", "findMiddle", "()I"⟩, "SensorBond")]
def gNC : List (String × String) := [("java/lang/IndexOutOfBoundsException", "java/lang/IndexOutOfBoundsException"), ("java/lang/IllegalArgumentException", "java/lang/IllegalArgumentException"), ("java/lang/IllegalStateException", "java/lang/IllegalStateException")]
def gND : List MethodName := [Bundle.initS "java/lang/RuntimeException", Bundle.initS "java/lang/Exception", Bundle.initS Bundle.tN]
def gNX : List (String × String) := [("java/lang/IllegalArgumentException", "java/lang/IndexOutOfBoundsException"), ("java/lang/IllegalStateException", "java/lang/IndexOutOfBoundsException")]
def gNA : List String := ["SensorBond$Buyer", "SensorBond$Reading", "SensorBond$Repeater", "SensorBond$Sensor", "SensorBond$Window"]
def gStr : List (Nat × String) := [(252, "there is no such repeater"), (61, "a repeater hangs on a lower one, and the hub on none"), (254, "there is no such sensor"), (260, "a number is out of range"), (95, "the amount is below 1"), (103, "the purse of the sensor is less"), (115, "the sensor can tell nothing now"), (256, "there is no such buyer"), (143, "the buyer has a window on the sensor, or its purse is too small"), (258, "there is no such reading"), (159, "the reading is not FRESH, or the purse of the buyer is too small"), (187, "the sensor can give no sample for the reading"), (200, "the tick would be too high"), (218, "the place is below 0")]
/-- the signs of the numbers below 100, as the JDK's two rows hold them -/
def gDig1 (j : Nat) : Value := .int (nI (48 + j % 10))
def gDig10 (j : Nat) : Value := .int (nI (48 + j / 10))
def gF (A : Nat → Prop) (U : State) (H : Heap) : Prop :=
  (∀ q ∈ gNF, va_Nw (.fieldLinkNest q.1 q.2.1 q.2.2.1 q.2.2.2.1 q.2.2.2.2.1 q.2.2.2.2.2) U) ∧ (∀ q ∈ gNM, va_Nw (.methodLinkNest q.1 q.2.1 q.2.2.1 q.2.2.2) U) ∧ (∀ q ∈ gNC, va_Nw (.castable q.1 q.2) U) ∧ (∀ x ∈ gND, va_Nw (.declares x) U) ∧ (∀ q ∈ gNX, va_Nc q.1 q.2 U) ∧ (∀ C ∈ gNA, va_AO C U) ∧
  (vx_Zq Bundle.tN "UNASSIGNED_STACK" Bundle.steD A U H ∧ vx_Zq Bundle.tN "SUPPRESSED_SENTINEL" Bundle.listD A U H) ∧ (∀ q ∈ gStr, ∃ a : Nat, vk_R RX6 q.1 q.2 a U) ∧
  (va_Z "java/lang/String" "COMPACT_STRINGS" "Z" (.int 1) A U H ∧ ∃ t1 t2 : Nat, va_Z "java/lang/Integer" "DigitOnes" "[B" (.ref t1) A U H ∧ va_Z "java/lang/Integer" "DigitTens" "[B" (.ref t2) A U H ∧ va_T .byte t1 100 gDig1 A U H ∧ va_T .byte t2 100 gDig10 A U H ∧ va_Zq "jdk/internal/util/Preconditions" "SIOOBE_FORMATTER" "Ljava/util/function/BiFunction;" A U H)
theorem gF.moved {A : Nat → Prop} {s U : State} {H : Heap} {locs : List Loc} (hW : s.WarmedH U.vm) (hS : va_S A s.heap H locs) (hF : gF A s s.heap) : gF A U H := by
  obtain ⟨h1, h2, h3, h4, h5, h6, ⟨h7, h8⟩, h9, h10, t1, t2, h11, h12, h13, h14, h15⟩ := hF
  have ha := hW.alike
  exact ⟨fun q hq => va_Nw.warmF hW (h1 q hq), fun q hq => va_Nw.warmM hW (h2 q hq), fun q hq => va_Nw.warmC hW (h3 q hq), fun q hq => va_Nw.warmD hW (h4 q hq), fun q hq => va_Nc.moved ha (h5 q hq), fun q hq => va_AO.moved ha (h6 q hq),
    ⟨vx_Zq.moved ha (h7.kept hS.2.1), vx_Zq.moved ha (h8.kept hS.2.1)⟩, fun q hq => (h9 q hq).imp fun a h => vk_R.warm hW h,
    va_Z.moved ha (h10.kept hS.2.1), t1, t2, va_Z.moved ha (h11.kept hS.2.1), va_Z.moved ha (h12.kept hS.2.1), va_T.moved ha (h13.kept hS.2.1), va_T.moved ha (h14.kept hS.2.1), va_Zq.moved ha (h15.kept hS.2.1)⟩
theorem gF.same {A : Nat → Prop} {s U : State} (hv : s.vm = U.vm) (hh : U.heap = s.heap) (hF : gF A s s.heap) : gF A U U.heap := by
  rw [hh]
  exact hF.moved (locs := []) (by rw [← hv]; exact State.WarmedH.refl s) va_S.rf
theorem gnf {A : Nat → Prop} {s : State} {H : Heap} (hF : gF A s H) (i : Nat) {q : String × Nat × String × String × String × String} (h : gNF[i]? = some q) : va_Nw (.fieldLinkNest q.1 q.2.1 q.2.2.1 q.2.2.2.1 q.2.2.2.2.1 q.2.2.2.2.2) s := hF.1 q (List.mem_of_getElem? h)
theorem gnm {A : Nat → Prop} {s : State} {H : Heap} (hF : gF A s H) (i : Nat) {q : String × Nat × MethodName × String} (h : gNM[i]? = some q) : va_Nw (.methodLinkNest q.1 q.2.1 q.2.2.1 q.2.2.2) s := hF.2.1 q (List.mem_of_getElem? h)
/-! ===== contracts over the memory ===== -/
abbrev GSt : Type := gIds × gAd × gMem
/-- the memory, before a method -/
def gU (D : va_G) (aC : Nat → ClassId) (A : Nat → Prop) (σ : GSt) (U : State) : Prop :=
  va_P D vwCl (gW aC σ.1 σ.2.1 σ.2.2) U.heap ∧ va_D A (gW aC σ.1 σ.2.1 σ.2.2) ∧ va_K D vwCl (gTy aC) U ∧ (∀ q : Nat, U.heap.size ≤ q → A q) ∧ gF A U U.heap
/-- .. and behind it -/
def gE (D : va_G) (aC : Nat → ClassId) (A : Nat → Prop) (σ : GSt) (t : State) : Prop :=
  va_P D vwCl (gW aC σ.1 σ.2.1 σ.2.2) t.heap ∧ va_D A (gW aC σ.1 σ.2.1 σ.2.2)
/-- a contract: returns an int / nothing / a reference; or throws -/
def gMi (l : Launch) (y : MethodName) (ws : List Cond) (rm : Room) (mc ms : Nat) (args : List Value) (σ : GSt) (post : Int32 → GSt → Prop) : Prop :=
  ∀ (D : va_G) (aC : Nat → ClassId) (A : Nat → Prop), Met l y ws rm (va_Pc args (gU D aC A σ)) (va_Qi post (gE D aC A) A) mc ms A
def gMv (l : Launch) (y : MethodName) (ws : List Cond) (rm : Room) (mc ms : Nat) (args : List Value) (σ : GSt) (post : GSt → Prop) : Prop :=
  ∀ (D : va_G) (aC : Nat → ClassId) (A : Nat → Prop), Met l y ws rm (va_Pc args (gU D aC A σ)) (va_Qv post (gE D aC A) A) mc ms A
def gMr (l : Launch) (y : MethodName) (ws : List Cond) (rm : Room) (mc ms : Nat) (args : List Value) (σ : GSt) (post : Nat → GSt → Prop) : Prop :=
  ∀ (D : va_G) (aC : Nat → ClassId) (A : Nat → Prop), Met l y ws rm (va_Pc args (gU D aC A σ)) (va_Qr (fun _ => True) (fun u a t => post a u ∧ gE D aC A u t) A) mc ms A
def gX (D : va_G) (aC : Nat → ClassId) (A : Nat → Prop) (px : String → GSt → Prop) : String → State → State → Prop := vx_X (fun _ : GSt => True) (fun E u t => px E u ∧ gE D aC A u t) A
def gXi (l : Launch) (y : MethodName) (ws : List Cond) (rm : Room) (mc ms : Nat) (args : List Value) (σ : GSt) (post : Int32 → GSt → Prop) (px : String → GSt → Prop) : Prop :=
  ∀ (D : va_G) (aC : Nat → ClassId) (A : Nat → Prop), vx_Met l y ws rm (va_Pc args (gU D aC A σ)) (va_Qi post (gE D aC A) A) (gX D aC A px) mc ms A
def gXv (l : Launch) (y : MethodName) (ws : List Cond) (rm : Room) (mc ms : Nat) (args : List Value) (σ : GSt) (post : GSt → Prop) (px : String → GSt → Prop) : Prop :=
  ∀ (D : va_G) (aC : Nat → ClassId) (A : Nat → Prop), vx_Met l y ws rm (va_Pc args (gU D aC A σ)) (va_Qv post (gE D aC A) A) (gX D aC A px) mc ms A
def gXr (l : Launch) (y : MethodName) (ws : List Cond) (rm : Room) (mc ms : Nat) (args : List Value) (σ : GSt) (post : Nat → GSt → Prop) (px : String → GSt → Prop) : Prop :=
  ∀ (D : va_G) (aC : Nat → ClassId) (A : Nat → Prop), vx_Met l y ws rm (va_Pc args (gU D aC A σ)) (va_Qr (fun _ => True) (fun u a t => post a u ∧ gE D aC A u t) A) (gX D aC A px) mc ms A
theorem gU.blind {D : va_G} {aC : Nat → ClassId} {A : Nat → Prop} {σ : GSt} {args : List Value} : FrameBlind (va_Pc args (gU D aC A σ)) := by
  intro a U g mk h
  obtain ⟨rfl, h1, h2, h3, h4, h5⟩ := h
  exact ⟨rfl, h1, h2, va_K.moved (u := U) (U := U.calling g mk _) (Vm.Alike.refl U.vm) h3, h4, h5.same (s := U) (U := U.calling g mk _) rfl rfl⟩
/-- what a body begins with -/
theorem g_of {l : Launch} {y : MethodName} {ws ws' : List Cond} {rm : Room} {args : List Value} {σ : GSt} {Qc : Array Value → State → Outcome → State → Prop} {mc ms : Nat} {D : va_G} {aC : Nat → ClassId} {A : Nat → Prop} {cc : ByteArray} {maxL : Nat} {ret : Option FieldType}
    (hy : plainName y.cls = true) (hw : ws = Cond.code y cc maxL ret :: ws') (hlen : (lg_sl args).length ≤ maxL)
    (body : ∀ (p : Program) (e : Env) (s : State) (m : MethodId) (below : List Frame) (meth : Method) (c : Code) (ls : Array Slot), CallFix p m c cc maxL s args.toArray ws y.cls → gS D aC A s σ.1 σ.2.1 σ.2.2 s.heap [] → gF A s s.heap → meth.sig.returnType = ret → meth.locks = false → meth.name = y.name → lv_has ls maxL (lv_args 0 args) →
      W p l e (headSpec ws rm).room s m args.toArray below meth c s.heap [] 0 0 (MQ below Qc args.toArray s mc ms A) (F0 m 0 ls [])) : Met l y ws rm (va_Pc args (gU D aC A σ)) Qc mc ms A := by
  refine Met.ofW (cc := cc) (maxL := maxL) (ret := ret) hy hw ?_
  intro p e s m args' below meth c s₁ B hml hv
  obtain ⟨rfl, hP, hD, hK, hA, hF⟩ := hv
  rw [lg_entry_eq]
  exact body p e s m below meth c _ ⟨B.exec, B.bytes, hml, findClass_of_methodNamed B.named, atoms_spec (ws := ws) B.pre⟩ ⟨hP, hD, hK, va_S.rf, hA⟩ hF B.returns B.notSynchronized (name_of_methodNamed B.named B.method).1 (lv_entry args hlen)
theorem gx_of {l : Launch} {y : MethodName} {ws ws' : List Cond} {rm : Room} {args : List Value} {σ : GSt} {Qc : Array Value → State → Outcome → State → Prop} {XC : String → State → State → Prop} {mc ms : Nat} {D : va_G} {aC : Nat → ClassId} {A : Nat → Prop} {cc : ByteArray} {maxL : Nat} {ret : Option FieldType}
    (hy : plainName y.cls = true) (hw : ws = Cond.code y cc maxL ret :: ws') (hlen : (lg_sl args).length ≤ maxL)
    (body : ∀ (p : Program) (e : Env) (s : State) (m : MethodId) (below : List Frame) (meth : Method) (c : Code) (ls : Array Slot), CallFix p m c cc maxL s args.toArray ws y.cls → gS D aC A s σ.1 σ.2.1 σ.2.2 s.heap [] → gF A s s.heap → meth.sig.returnType = ret → meth.locks = false → (∀ x ∈ c.exceptionTable.toList, False) → lv_has ls maxL (lv_args 0 args) →
      W p l e (headSpec ws rm).room s m args.toArray below meth c s.heap [] 0 0 (vx_MQ below Qc XC args.toArray s mc ms A) (F0 m 0 ls [])) : vx_Met l y ws rm (va_Pc args (gU D aC A σ)) Qc XC mc ms A := by
  refine vx_ofW (cc := cc) (maxL := maxL) (ret := ret) hy hw ?_
  intro p e s m args' below meth c s₁ B hml hex hv
  obtain ⟨rfl, hP, hD, hK, hA, hF⟩ := hv
  rw [lg_entry_eq]
  exact body p e s m below meth c _ ⟨B.exec, B.bytes, hml, findClass_of_methodNamed B.named, atoms_spec (ws := ws) B.pre⟩ ⟨hP, hD, hK, va_S.rf, hA⟩ hF B.returns B.notSynchronized hex (lv_entry args hlen)
section GC
variable {p : Program} {l : Launch} {e : Env} {R : Room} {s : State} {m : MethodId} {args : Array Value} {below : List Frame} {meth : Method} {c : Code} {H : Heap} {locs : List Loc} {cells slots : Nat} {Q : State → Prop}
variable {cc : ByteArray} {pc nL : Nat} {ls : Array Slot} {rest st0 : List Value} {Ts : List Cond} {own : String}
variable {D : va_G} {aC : Nat → ClassId} {A : Nat → Prop} {ids : gIds} {ad : gAd} {π : gMem} {mc ms cm sm : Nat}
theorem g_E (G : gS D aC A s ids ad π H locs) {t : State} (ht : t.heap = H) : gE D aC A (ids, ad, π) t := by
  refine ⟨?_, G.2.1⟩
  rw [ht]; exact G.1
/-! ends -/
theorem g_iret (S : CallFix p m c cc nL s args Ts own) (G : gS D aC A s ids ad π H locs) (hr : meth.sig.returnType = some .int) (hlk : meth.locks = false) {post : Int32 → GSt → Prop} {v : Int32} (hp : post v (ids, ad, π)) (hc : cells ≤ cm) (hs : slots ≤ sm) (hdg : decode cc pc = .ok (.ireturn, 1)) :
    W p l e R s m args below meth c H locs cells slots (MQ below (va_Qi post (gE D aC A) A) args s cm sm A) (F0 m pc ls [.int v]) :=
  W.widen hc hs (W.iret S.1 S.2.1 hr (fun t ht _ => ⟨⟨v, (ids, ad, π), rfl, hp, g_E G ht⟩, G.2.2.2.1.F ht⟩) G.2.2.2.1.2.2 hdg hlk)
theorem g_zret (S : CallFix p m c cc nL s args Ts own) (G : gS D aC A s ids ad π H locs) {ty : FieldType} (hr : meth.sig.returnType = some ty) (hlk : meth.locks = false) {post : Int32 → GSt → Prop} {v : Int32} (hn : narrow ty (.int v) = .int v) (hp : post v (ids, ad, π)) (hc : cells ≤ cm) (hs : slots ≤ sm) (hdg : decode cc pc = .ok (.ireturn, 1)) :
    W p l e R s m args below meth c H locs cells slots (MQ below (va_Qi post (gE D aC A) A) args s cm sm A) (F0 m pc ls [.int v]) :=
  W.widen hc hs (W.zret S.1 S.2.1 hr hn (fun t ht _ => ⟨⟨v, (ids, ad, π), rfl, hp, g_E G ht⟩, G.2.2.2.1.F ht⟩) G.2.2.2.1.2.2 hdg hlk)
theorem g_vret (S : CallFix p m c cc nL s args Ts own) (G : gS D aC A s ids ad π H locs) (hr : meth.sig.returnType = none) (hlk : meth.locks = false) {post : GSt → Prop} (hp : post (ids, ad, π)) (hc : cells ≤ cm) (hs : slots ≤ sm) (hdg : decode cc pc = .ok (.return_, 1)) :
    W p l e R s m args below meth c H locs cells slots (MQ below (va_Qv post (gE D aC A) A) args s cm sm A) (F0 m pc ls []) :=
  W.widen hc hs (W.vret S.1 S.2.1 hr (fun t ht _ => ⟨⟨(ids, ad, π), rfl, hp, g_E G ht⟩, G.2.2.2.1.F ht⟩) G.2.2.2.1.2.2 hdg hlk)
theorem g_aret (S : CallFix p m c cc nL s args Ts own) (G : gS D aC A s ids ad π H locs) {rt : FieldType} (hr : meth.sig.returnType = some rt) (hlk : meth.locks = false) {post : Nat → GSt → Prop} {a : Nat} (hn : (∃ n, rt = FieldType.object n) ∨ ∃ t, rt = FieldType.array t) (hp : post a (ids, ad, π)) (hc : cells ≤ cm) (hs : slots ≤ sm) (hdg : decode cc pc = .ok (.areturn, 1)) :
    W p l e R s m args below meth c H locs cells slots (MQ below (va_Qr (fun _ => True) (fun u a t => post a u ∧ gE D aC A u t) A) args s cm sm A) (F0 m pc ls [.ref a]) :=
  W.widen hc hs (W.aret S.1 S.2.1 hr hn (Or.inr ⟨a, rfl⟩) (fun t ht _ => ⟨⟨(ids, ad, π), a, rfl, trivial, hp, g_E G ht⟩, G.2.2.2.1.F ht⟩) G.2.2.2.1.2.2 hdg hlk)
/-! before a call -/
theorem gPreS (G : gS D aC A s ids ad π H locs) (hF : gF A s s.heap) {As : List Value} : PreS s H (va_Pc As (gU D aC A (ids, ad, π))) As := by
  refine ⟨gU.blind, fun U hU hW => ⟨rfl, ?_, G.2.1, va_K.moved hW.alike G.2.2.1, fun q hq => G.2.2.2.2 q (Nat.le_trans G.2.2.2.1.1 (by rw [← hU]; exact hq)), ?_⟩⟩
  · rw [hU]; exact G.1
  · rw [hU]; exact hF.moved hW G.2.2.2.1
theorem gPreV (G : gS D aC A s ids ad π H locs) (hF : gF A s s.heap) (f : Nat) {i : Nat} (hV : (f, i) ∈ ids) (hf : f < 8) {As : List Value} : PreV s H (gCl f).1 (ad f i) (va_Pc (.ref (ad f i) :: As) (gU D aC A (ids, ad, π))) As := by
  obtain ⟨h1, h2⟩ := gPreS G hF (As := .ref (ad f i) :: As)
  obtain ⟨q0, -, h4⟩ := gW_get (aC := aC) (ad := ad) (π := π) hV
  rw [gm_e_obj hf] at h4
  exact ⟨h1, va_recv G.2.2.1 G.1 (gCl_at f hf) h4, h2⟩
/-! behind a call -/
theorem g_behi {post : Int32 → GSt → Prop} {a : Array Value} (G : gS D aC A s ids ad π H locs) (hr : va_Run p l e R s m args below meth c H locs cells slots mc ms (F0 m pc ls st0) rest (va_Qi post (gE D aC A) A a) A)
    (kk : ∀ (r : Int32) (u : GSt) (H1 : Heap) (locs1 : List Loc), post r u → gS D aC A s u.1 u.2.1 u.2.2 H1 locs1 → W p l e R s m args below meth c H1 locs1 (cells + mc) (slots + ms) Q (F0 m (pc + 3) ls (.int r :: rest))) : W p l e R s m args below meth c H locs cells slots Q (F0 m pc ls st0) :=
  va_calli hr G.2.2.2.1 (fun _ _ h => h) (fun _ h => h) (fun r u t H1 locs1 ht _ hp hB _ _ hS => kk r u H1 locs1 hp ⟨by rw [← ht]; exact hB.1, hB.2, G.2.2.1, hS, G.2.2.2.2⟩)
theorem g_behv {post : GSt → Prop} {a : Array Value} (G : gS D aC A s ids ad π H locs) (hr : va_Run p l e R s m args below meth c H locs cells slots mc ms (F0 m pc ls st0) rest (va_Qv post (gE D aC A) A a) A)
    (kk : ∀ (u : GSt) (H1 : Heap) (locs1 : List Loc), post u → gS D aC A s u.1 u.2.1 u.2.2 H1 locs1 → W p l e R s m args below meth c H1 locs1 (cells + mc) (slots + ms) Q (F0 m (pc + 3) ls rest)) : W p l e R s m args below meth c H locs cells slots Q (F0 m pc ls st0) :=
  va_callv hr G.2.2.2.1 (fun _ _ h => h) (fun _ h => h) (fun u t H1 locs1 ht _ hp hB _ _ hS => kk u H1 locs1 hp ⟨by rw [← ht]; exact hB.1, hB.2, G.2.2.1, hS, G.2.2.2.2⟩)
theorem g_behr {post : Nat → GSt → Prop} {a : Array Value} (G : gS D aC A s ids ad π H locs) (hr : va_Run p l e R s m args below meth c H locs cells slots mc ms (F0 m pc ls st0) rest (va_Qr (fun _ => True) (fun u a t => post a u ∧ gE D aC A u t) A a) A)
    (kk : ∀ (r : Nat) (u : GSt) (H1 : Heap) (locs1 : List Loc), post r u → gS D aC A s u.1 u.2.1 u.2.2 H1 locs1 → W p l e R s m args below meth c H1 locs1 (cells + mc) (slots + ms) Q (F0 m (pc + 3) ls (.ref r :: rest))) : W p l e R s m args below meth c H locs cells slots Q (F0 m pc ls st0) :=
  va_callr hr G.2.2.2.1 (fun _ _ h => h) (fun _ h => h) (fun u r t H1 locs1 ht _ _ hB _ _ hS => kk r u H1 locs1 hB.1 ⟨by rw [← ht]; exact hB.2.1, hB.2.2, G.2.2.1, hS, G.2.2.2.2⟩)
/-! .. of a method that may throw -/
theorem gx_callr {post : Nat → GSt → Prop} {px : String → GSt → Prop} {a : Array Value} (G : gS D aC A s ids ad π H locs) (hr : vx_Run p l e R s m args below meth c H locs cells slots mc ms (F0 m pc ls st0) rest (va_Qr (fun _ => True) (fun u a t => post a u ∧ gE D aC A u t) A a) (gX D aC A px) A)
    (kx : ∀ (E : String) (ce : Cell) (q9 : Addr) (u : GSt) (H1 : Heap) (locs1 : List Loc), px E u → gS D aC A s u.1 u.2.1 u.2.2 H1 locs1 → H1[q9]? = some ce → ce.vm = .none → s.vm.findClass E = some ce.cls → vx_W p l e R s m args below meth c H1 locs1 (cells + mc) (slots + ms) Q (F0 m pc ls rest) q9)
    (kk : ∀ (r : Nat) (u : GSt) (H1 : Heap) (locs1 : List Loc), post r u → gS D aC A s u.1 u.2.1 u.2.2 H1 locs1 → W p l e R s m args below meth c H1 locs1 (cells + mc) (slots + ms) Q (F0 m (pc + 3) ls (.ref r :: rest))) : W p l e R s m args below meth c H locs cells slots Q (F0 m pc ls st0) := by
  intro T hT X
  rcases hr T hT X with ⟨v, st₀, t, T', L, h0, X', hL, e1, e2, ⟨⟨u, r, hv, -, hp, hb⟩, hF⟩, st⟩ | ⟨q, st₀, t, T', L, E, ce, h0, X', hL, e1, e2, ⟨u, -, ⟨hp, hb⟩, hF⟩, hce, hcv, hcl, st⟩
  · cases hv
    obtain ⟨k1, k2, k3⟩ := vx_keep h0 e1 G.2.2.2.1 (fun _ _ h => h) (fun _ h => h) hL hF
    obtain ⟨t2, a1, b1⟩ := kk r u T'.heap (locs ++ L) hp ⟨by rw [e1]; exact hb.1, hb.2, G.2.2.1, k3, G.2.2.2.2⟩ T' rfl X'
    exact ⟨t2, st t2 a1, b1⟩
  · obtain ⟨k1, k2, k3⟩ := vx_keep h0 e1 G.2.2.2.1 (fun _ _ h => h) (fun _ h => h) hL hF
    obtain ⟨t2, a1, b1⟩ := kx E ce q u T'.heap (locs ++ L) hp ⟨by rw [e1]; exact hb.1, hb.2, G.2.2.1, k3, G.2.2.2.2⟩ (by rw [e1]; exact hce) hcv hcl T' rfl X'
    exact ⟨t2, st.trans a1, b1⟩
theorem gx_calli {post : Int32 → GSt → Prop} {px : String → GSt → Prop} {a : Array Value} (G : gS D aC A s ids ad π H locs) (hr : vx_Run p l e R s m args below meth c H locs cells slots mc ms (F0 m pc ls st0) rest (va_Qi post (gE D aC A) A a) (gX D aC A px) A)
    (kx : ∀ (E : String) (ce : Cell) (q9 : Addr) (u : GSt) (H1 : Heap) (locs1 : List Loc), px E u → gS D aC A s u.1 u.2.1 u.2.2 H1 locs1 → H1[q9]? = some ce → ce.vm = .none → s.vm.findClass E = some ce.cls → vx_W p l e R s m args below meth c H1 locs1 (cells + mc) (slots + ms) Q (F0 m pc ls rest) q9)
    (kk : ∀ (r : Int32) (u : GSt) (H1 : Heap) (locs1 : List Loc), post r u → gS D aC A s u.1 u.2.1 u.2.2 H1 locs1 → W p l e R s m args below meth c H1 locs1 (cells + mc) (slots + ms) Q (F0 m (pc + 3) ls (.int r :: rest))) : W p l e R s m args below meth c H locs cells slots Q (F0 m pc ls st0) :=
  vx_calli hr G.2.2.2.1 (fun _ _ h => h) (fun _ h => h) (fun _ _ h => h)
    (fun E ce q9 u t H1 locs1 ht _ _ hB _ _ hS h1 h2 h3 => kx E ce q9 u H1 locs1 hB.1 ⟨by rw [← ht]; exact hB.2.1, hB.2.2, G.2.2.1, hS, G.2.2.2.2⟩ h1 h2 h3)
    (fun r u t H1 locs1 ht _ hp hB _ _ hS => kk r u H1 locs1 hp ⟨by rw [← ht]; exact hB.1, hB.2, G.2.2.1, hS, G.2.2.2.2⟩)
theorem gx_callv {post : GSt → Prop} {px : String → GSt → Prop} {a : Array Value} (G : gS D aC A s ids ad π H locs) (hr : vx_Run p l e R s m args below meth c H locs cells slots mc ms (F0 m pc ls st0) rest (va_Qv post (gE D aC A) A a) (gX D aC A px) A)
    (kx : ∀ (E : String) (ce : Cell) (q9 : Addr) (u : GSt) (H1 : Heap) (locs1 : List Loc), px E u → gS D aC A s u.1 u.2.1 u.2.2 H1 locs1 → H1[q9]? = some ce → ce.vm = .none → s.vm.findClass E = some ce.cls → vx_W p l e R s m args below meth c H1 locs1 (cells + mc) (slots + ms) Q (F0 m pc ls rest) q9)
    (kk : ∀ (u : GSt) (H1 : Heap) (locs1 : List Loc), post u → gS D aC A s u.1 u.2.1 u.2.2 H1 locs1 → W p l e R s m args below meth c H1 locs1 (cells + mc) (slots + ms) Q (F0 m (pc + 3) ls rest)) : W p l e R s m args below meth c H locs cells slots Q (F0 m pc ls st0) :=
  vx_callv hr G.2.2.2.1 (fun _ _ h => h) (fun _ h => h) (fun _ _ h => h)
    (fun E ce q9 u t H1 locs1 ht _ _ hB _ _ hS h1 h2 h3 => kx E ce q9 u H1 locs1 hB.1 ⟨by rw [← ht]; exact hB.2.1, hB.2.2, G.2.2.1, hS, G.2.2.2.2⟩ h1 h2 h3)
    (fun u t H1 locs1 ht _ hp hB _ _ hS => kk u H1 locs1 hp ⟨by rw [← ht]; exact hB.1, hB.2, G.2.2.1, hS, G.2.2.2.2⟩)
/-- it goes on to the caller -/
theorem gx_pass {Qc : Array Value → State → Outcome → State → Prop} {px px' : String → GSt → Prop} (hex : ∀ x ∈ c.exceptionTable.toList, False) (hlk : meth.locks = false) (hpx : ∀ E u, px E u → px' E u) (hc : cells ≤ cm) (hs : slots ≤ sm) :
    ∀ (E : String) (ce : Cell) (q9 : Addr) (u : GSt) (H1 : Heap) (locs1 : List Loc), px E u → gS D aC A s u.1 u.2.1 u.2.2 H1 locs1 → H1[q9]? = some ce → ce.vm = .none → s.vm.findClass E = some ce.cls → vx_W p l e R s m args below meth c H1 locs1 cells slots (vx_MQ below Qc (gX D aC A px') args s cm sm A) (F0 m pc ls rest) q9 :=
  fun E ce q9 u H1 locs1 hp G h1 h2 h3 => vx_out (fun x hx => (hex x hx).elim) hlk h1 h2 h3 (fun t ht _ => ⟨u, trivial, ⟨hpx E u hp, g_E G ht⟩, G.2.2.2.1.F ht⟩) G.2.2.2.1.2.2 hc hs
/-- throw new X("..") -/
theorem g_throw (S : CallFix p m c cc nL s args Ts own) (G : gS D aC A s ids ad π H locs) (hF : gF A s s.heap) (hl : l.stackTraces = false) (hlk : meth.locks = false) (hex : ∀ x ∈ c.exceptionTable.toList, False) (hsz : ls.size = nL) {cls text : String} {ik is ic : Nat} (hown : own = RX6)
    (hcls : Bundle.fit cls = true) (hnc : (cls, cls) ∈ gNC) (htx : (is, text) ∈ gStr)
    (hk : Cond.classLink RX6 ik cls ∈ Ts) (hini : Cond.initialized cls ∈ Ts) (hat : ∀ w ∈ (vx_atS RX6 ic cls ["java/lang/RuntimeException", "java/lang/Exception"]).filter goodWord, w ∈ Ts)
    (hbad : ∀ w ∈ (vx_atS RX6 ic cls ["java/lang/RuntimeException", "java/lang/Exception"]).filter (fun w => !goodWord w), w ∈ [Cond.castable cls cls, Cond.declares (Bundle.initS "java/lang/RuntimeException"), Cond.declares (Bundle.initS "java/lang/Exception"), Cond.declares (Bundle.initS Bundle.tN)])
    (hgood : ∀ w ∈ Cond.classLink RX6 ik cls :: Cond.initialized cls :: vx_atS RX6 ic cls ["java/lang/RuntimeException", "java/lang/Exception"], vx_ot w = true)
    (d0 : decode cc pc = .ok (.new ik, 3)) (d3 : decode cc (pc + 3) = .ok (.dup, 1)) (d6 : (decode cc (pc + 4) = .ok (.ldc is, 2) ∧ decode cc (pc + 6) = .ok (.invokespecial ic, 3) ∧ decode cc (pc + 9) = .ok (.athrow, 1)) ∨ (decode cc (pc + 4) = .ok (.ldc_w is, 3) ∧ decode cc (pc + 7) = .ok (.invokespecial ic, 3) ∧ decode cc (pc + 10) = .ok (.athrow, 1)))
    (hRf : 5 < R.frames) (hRl : (rest.map fun v => v.category).sum + 82 ≤ R.locals) (hRc : cells + 1 ≤ R.cells) (hRs : slots + 6 ≤ R.slots) {Qc : Array Value → State → Outcome → State → Prop} {px : String → GSt → Prop} (hpx : px cls (ids, ad, π)) (hc : cells + 1 ≤ cm) (hs : slots + 6 ≤ sm) :
    W p l e R s m args below meth c H locs cells slots (vx_MQ below Qc (gX D aC A px) args s cm sm A) (F0 m pc ls rest) := by
  subst hown
  obtain ⟨h1, h2, h3, h4, h5, h6, ⟨h7, h8⟩, h9, h10⟩ := id hF
  obtain ⟨sa, hstr⟩ := h9 _ htx
  have hB : ∀ w ∈ [Cond.castable cls cls, Cond.declares (Bundle.initS "java/lang/RuntimeException"), Cond.declares (Bundle.initS "java/lang/Exception"), Cond.declares (Bundle.initS Bundle.tN)], w.before args s = true :=
    vx_c (va_Nw.use rfl (h3 _ hnc)) (vx_c (va_Nw.use rfl (h4 _ (List.mem_of_getElem? (i := 0) rfl))) (vx_c (va_Nw.use rfl (h4 _ (List.mem_of_getElem? (i := 1) rfl))) (vx_c (va_Nw.use rfl (h4 _ (List.mem_of_getElem? (i := 2) rfl))) vx_n)))
  have hX : ∀ t : State, s.vm.Alike t.vm → H.size ≤ t.heap.size → (∀ q : Nat, q < H.size → t.heap[q]? = H[q]?) → gX D aC A px cls s t := fun t _ hz hq =>
    ⟨(ids, ad, π), trivial, ⟨hpx, G.1.kept (fun k q hk => hq q.1 ((G.1 k q hk).lt)), G.2.1⟩, Nat.le_trans G.2.2.2.1.1 hz, fun q a1 a2 => (hq q (Nat.lt_of_lt_of_le a1 G.2.2.2.1.1)).trans (G.2.2.2.1.2.1 q a1 a2)⟩
  have hn : ∀ n ∈ ["java/lang/RuntimeException", "java/lang/Exception"], Bundle.fit n = true := by decide +kernel
  rcases d6 with ⟨d4, d6, d9⟩ | ⟨d4, d6, d9⟩
  · exact vx_throwS S.1 S.2.1 hl S.2.2.2.1 hcls hn (S.2.2.2.2 _ hk) (S.2.2.2.2 _ hini) hstr (vx_hat (fun w hw => S.2.2.2.2 w (hat w hw)) hbad hB) hgood h7 h8 G.2.2.2.1 (hsz.trans S.2.2.1.symm) d0 d3 d4 d6 d9 (fun x hx => (hex x hx).elim) hRf hRl hRc hRs hlk hX G.2.2.2.1.2.2 hc hs
  · exact vx_throwSW S.1 S.2.1 hl S.2.2.2.1 hcls hn (S.2.2.2.2 _ hk) (S.2.2.2.2 _ hini) hstr (vx_hat (fun w hw => S.2.2.2.2 w (hat w hw)) hbad hB) hgood h7 h8 G.2.2.2.1 (hsz.trans S.2.2.1.symm) d0 d3 d4 d6 d9 (fun x hx => (hex x hx).elim) hRf hRl hRc hRs hlk hX G.2.2.2.1.2.2 hc hs
end GC
