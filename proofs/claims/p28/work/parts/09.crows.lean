/-! ===== rows that the class needs beside ===== -/
theorem gad_inj {D : va_G} {aC : Nat → ClassId} {A : Nat → Prop} {s : State} {ids : gIds} {ad : gAd} {π : gMem} {H : Heap} {locs : List Loc} (G : gS D aC A s ids ad π H locs) {f i g j : Nat} (h1 : (f, i) ∈ ids) (h2 : (g, j) ∈ ids) (h : ad f i = ad g j) : f = g ∧ i = j := by
  obtain ⟨q1, a1, b1⟩ := gW_get (aC := aC) (ad := ad) (π := π) h1
  obtain ⟨q2, a2, b2⟩ := gW_get (aC := aC) (ad := ad) (π := π) h2
  have e := G.2.1.1 q1 q2 _ _ b1 b2 h
  subst e
  rw [a1] at a2
  cases a2
  exact ⟨rfl, rfl⟩
section CR
variable {p : Program} {l : Launch} {e : Env} {R : Room} {s : State} {m : MethodId} {args : Array Value} {below : List Frame} {meth : Method} {c : Code} {H : Heap} {locs : List Loc} {cells slots : Nat} {Q : State → Prop}
variable {cc : ByteArray} {pc nL : Nat} {ls : Array Slot} {rest : List Value} {Ts : List Cond} {own : String} {lv : List (Nat × Value)}
variable {D : va_G} {aC : Nat → ClassId} {A : Nat → Prop} {ids : gIds} {ad : gAd} {π : gMem}
theorem g_acmp_ne (S : CallFix p m c cc nL s args Ts own) (G : gS D aC A s ids ad π H locs) (f : Nat) {i j : Nat} (h1 : (f, i) ∈ ids) (h2 : (f, j) ∈ ids) {off : Int} {tgt : Nat} (hdg : decode cc pc = .ok (.if_acmp .ne off, 3)) (ht : (pc : Int) + off = (tgt : Int))
    (kt : ¬ i = j → W p l e R s m args below meth c H locs cells slots Q (F0 m tgt ls rest)) (kf : i = j → W p l e R s m args below meth c H locs cells slots Q (F0 m (pc + 3) ls rest)) : W p l e R s m args below meth c H locs cells slots Q (F0 m pc ls (.ref (ad f j) :: .ref (ad f i) :: rest)) :=
  lv_acmp_ne (rx := some (ad f i)) (ry := some (ad f j)) S.1 S.2.1 hdg ht (fun z => kt (fun q => z (by rw [q]))) (fun z => kf (gad_inj G h1 h2 (Option.some.inj z)).2)
theorem g_alen (S : CallFix p m c cc nL s args Ts own) (G : gS D aC A s ids ad π H locs) (f : Nat) {i : Nat} {ty : FieldType} {v : Int32} (hV : (f, i) ∈ ids) (hkd : gm_k f ≠ 0) (ht : (gTy aC)[gm_c f]? = some (aC (gm_c f), ty)) (hv : Int32.ofNat (gm_n f) = v) (hdg : decode cc pc = .ok (.arraylength, 1))
    (kk : W p l e R s m args below meth c H locs cells slots Q (F0 m (pc + 1) ls (.int v :: rest))) : W p l e R s m args below meth c H locs cells slots Q (F0 m pc ls (.ref (ad f i) :: rest)) := by
  obtain ⟨q0, h1, h2⟩ := gW_get (aC := aC) (ad := ad) (π := π) hV
  have e : gm_e aC ad π f i = .inl (aC (gm_c f), gm_n f, gm_row (gm_k f) (gm_t f 0) ad (π f i)) := by simp only [gm_e, if_neg hkd]
  rw [e] at h2
  exact va_alen S.1 S.2.1 G.2.2.1 G.1 q0 (gm_c f) h2 ht hv hdg kk
theorem g_max (S : CallFix p m c cc nL s args Ts own) (hl : lv_has ls nL lv) {index : Nat} (h1 : Cond.methodLink own index Lib.Math.max.name ∈ Ts) (h2 : Cond.static Lib.Math.max.name ∈ Ts) (h3 : Cond.initialized "java/lang/Math" ∈ Ts) (h4 : Cond.code Lib.Math.max.name Lib.Math.max.code 2 (some .int) ∈ Ts)
    (hf : 1 ≤ R.frames) (hlo : (rest.map fun v => v.category).sum + 13 ≤ R.locals) (hc : cells ≤ R.cells) (hs : slots ≤ R.slots) {x y : Int32} (hdg : decode cc pc = .ok (.invokestatic index, 3))
    (kk : W p l e R s m args below meth c H locs cells slots Q (F0 m (pc + 3) ls (.int (if x < y then y else x) :: rest))) : W p l e R s m args below meth c H locs cells slots Q (F0 m pc ls (.int y :: .int x :: rest)) :=
  va_mmax S.1 S.2.1 (S.2.2.1.trans hl.1.symm) S.2.2.2.1 (S.2.2.2.2 _ h1) (S.2.2.2.2 _ h2) (S.2.2.2.2 _ h3) (S.2.2.2.2 _ h4) hf hlo hc hs hdg kk
theorem g_min (S : CallFix p m c cc nL s args Ts own) (hl : lv_has ls nL lv) {index : Nat} (h1 : Cond.methodLink own index Lib.Math.min.name ∈ Ts) (h2 : Cond.static Lib.Math.min.name ∈ Ts) (h3 : Cond.initialized "java/lang/Math" ∈ Ts) (h4 : Cond.code Lib.Math.min.name Lib.Math.min.code 2 (some .int) ∈ Ts)
    (hf : 1 ≤ R.frames) (hlo : (rest.map fun v => v.category).sum + 13 ≤ R.locals) (hc : cells ≤ R.cells) (hs : slots ≤ R.slots) {x y : Int32} (hdg : decode cc pc = .ok (.invokestatic index, 3))
    (kk : W p l e R s m args below meth c H locs cells slots Q (F0 m (pc + 3) ls (.int (if y < x then y else x) :: rest))) : W p l e R s m args below meth c H locs cells slots Q (F0 m pc ls (.int y :: .int x :: rest)) :=
  va_mmin S.1 S.2.1 (S.2.2.1.trans hl.1.symm) S.2.2.2.1 (S.2.2.2.2 _ h1) (S.2.2.2.2 _ h2) (S.2.2.2.2 _ h3) (S.2.2.2.2 _ h4) hf hlo hc hs hdg kk
theorem g_abs (S : CallFix p m c cc nL s args Ts own) (hl : lv_has ls nL lv) {index : Nat} (h1 : Cond.methodLink own index Lib.Math.abs.name ∈ Ts) (h2 : Cond.static Lib.Math.abs.name ∈ Ts) (h3 : Cond.initialized "java/lang/Math" ∈ Ts) (h4 : Cond.code Lib.Math.abs.name Lib.Math.abs.code 1 (some .int) ∈ Ts)
    (hf : 1 ≤ R.frames) (hlo : (rest.map fun v => v.category).sum + 13 ≤ R.locals) (hc : cells ≤ R.cells) (hs : slots ≤ R.slots) {x : Int32} (hdg : decode cc pc = .ok (.invokestatic index, 3))
    (kk : W p l e R s m args below meth c H locs cells slots Q (F0 m (pc + 3) ls (.int (if 0 ≤ x then x else 0 - x) :: rest))) : W p l e R s m args below meth c H locs cells slots Q (F0 m pc ls (.int x :: rest)) :=
  va_mabs S.1 S.2.1 (S.2.2.1.trans hl.1.symm) S.2.2.2.1 (S.2.2.2.2 _ h1) (S.2.2.2.2 _ h2) (S.2.2.2.2 _ h3) (S.2.2.2.2 _ h4) hf hlo hc hs hdg kk
end CR
