/-! ===== the memory of a system as one function: families of objects and rows by number ===== -/
abbrev gMem : Type := Nat → Nat → Nat → Int32
abbrev gAd : Type := Nat → Nat → Nat
abbrev gIds : Type := List (Nat × Nat)
def gCl (f : Nat) : vw_C := vwCl.getD f (RX0, TX0, 2)
/-- 0: an object of the class vwCl[f]; 1: a row of ints, booleans, bytes; 2: a row of references; 3: a row of longs -/
def gm_k (f : Nat) : Nat := if f < 10 then 0 else if f < 15 then 2 else if f = 18 then 3 else 1
def gm_c (f : Nat) : Nat := if f = 10 then 4 else if f = 11 then 5 else if f = 12 then 6 else if f = 13 then 7 else if f = 14 then 8 else if f = 17 then 3 else if f = 18 then 2 else if f = 32 then 1 else 0
def gm_n (f : Nat) : Nat := if f < 10 then (gCl f).2.2 else if f = 10 then 6 else if f = 11 then 12 else if f = 12 then 6 else if f = 13 then 80 else if f = 14 then 12 else if f = 15 then 6 else if f = 16 then 4 else if f = 17 then 16 else if f = 18 then 1 else if f = 20 then 64 else if f = 21 then 2 else 12
/-- 0: a number; g + 1: a reference to one of the family g -/
def gm_t (f k : Nat) : Nat :=
  if f = 0 then (if k = 0 then 18 else 0)
  else if f = 1 then (if k = 1 then 15 else 0)
  else if f = 2 then (if k = 0 then 2 else if k = 1 then 17 else 0)
  else if f = 3 then (if k = 0 then 6 else if k = 5 then 16 else if k = 9 then 3 else 0)
  else if f = 4 then (if k = 1 then 5 else 0)
  else if f = 5 then (if k = 1 then 5 else 0)
  else if f = 7 then (if k < 4 then 11 + k else 0)
  else if f = 8 then (if k = 0 then 0 else if k = 11 then 0 else if k = 16 then 0 else if k = 26 then 0 else 21 + k)
  else if f = 10 then 5 else if f = 11 then 6 else if f = 12 then 2 else if f = 13 then 4 else if f = 14 then 7 else 0
def gm_r (ad : gAd) (g : Nat) (x : Int32) : Option Nat := if x < 0 then none else some (ad g x.toNatClampNeg)
def gm_w (ad : gAd) (t : Nat) (x : Int32) : Value := match t with
  | 0 => .int x
  | g + 1 => va_rf (gm_r ad g x)
def gm_v (ad : gAd) (π : gMem) (f i k : Nat) : Value := gm_w ad (gm_t f k) (π f i k)
def gm_row (kd t : Nat) (ad : gAd) (r : Nat → Int32) : (Nat → Int32) ⊕ (Nat → Int64) ⊕ (Nat → UInt32) ⊕ (Nat → UInt64) ⊕ (Nat → Option Nat) :=
  if kd = 1 then .inl r else if kd = 2 then .inr (.inr (.inr (.inr (fun k => gm_r ad (t - 1) (r k))))) else .inr (.inl (fun k => (r k).toInt64))
def gm_e (aC : Nat → ClassId) (ad : gAd) (π : gMem) (f i : Nat) : va_E :=
  if gm_k f = 0 then .inr (f, (List.range (gm_n f)).map (gm_v ad π f i)) else .inl (aC (gm_c f), gm_n f, gm_row (gm_k f) (gm_t f 0) ad (π f i))
def gW (aC : Nat → ClassId) (ids : gIds) (ad : gAd) (π : gMem) : va_W := ids.map (fun q => (ad q.1 q.2, gm_e aC ad π q.1 q.2))
def upd3 (π : gMem) (f i k : Nat) (x : Int32) : gMem := fun g j l => if g = f ∧ l = k ∧ j = i then x else π g j l
def updA (ad : gAd) (f i q : Nat) : gAd := fun g j => if g = f ∧ j = i then q else ad g j
/-- a whole object or row -/
def updR (π : gMem) (f i : Nat) (r : Nat → Int32) : gMem := fun g j l => if g = f ∧ j = i then r l else π g j l
theorem upd3_s {π : gMem} {f i k : Nat} {x : Int32} : upd3 π f i k x f i k = x := by simp [upd3]
theorem upd3_n {π : gMem} {f i k g j l : Nat} {x : Int32} (h : ¬ (g = f ∧ j = i ∧ l = k)) : upd3 π f i k x g j l = π g j l := by
  have h2 : ¬ (g = f ∧ l = k ∧ j = i) := fun z => h ⟨z.1, z.2.2, z.2.1⟩
  simp only [upd3, if_neg h2]
theorem upd3_row {π : gMem} {f i k : Nat} {x : Int32} : upd3 π f i k x f i = upd (π f i) k x := by
  funext l
  by_cases h : l = k <;> simp [upd3, upd, h]
theorem upd3_far {π : gMem} {f i k g j : Nat} {x : Int32} (h : ¬ (g = f ∧ j = i)) : upd3 π f i k x g j = π g j := by
  funext l
  exact upd3_n (fun z => h ⟨z.1, z.2.1⟩)
theorem updR_s {π : gMem} {f i : Nat} {r : Nat → Int32} : updR π f i r f i = r := by funext l; simp [updR]
theorem updR_far {π : gMem} {f i g j : Nat} {r : Nat → Int32} (h : ¬ (g = f ∧ j = i)) : updR π f i r g j = π g j := by
  funext l
  simp only [updR, if_neg h]
theorem updA_s {ad : gAd} {f i q : Nat} : updA ad f i q f i = q := by simp [updA]
theorem updA_n {ad : gAd} {f i q g j : Nat} (h : ¬ (g = f ∧ j = i)) : updA ad f i q g j = ad g j := by simp only [updA, if_neg h]
theorem gm_r_nI {ad : gAd} {g j : Nat} (h : j < 2 ^ 31) : gm_r ad g (nI j) = some (ad g j) := by
  rw [gm_r, if_neg (nI_pos h), nI_clamp h]
theorem gm_r_neg {ad : gAd} {g : Nat} {x : Int32} (h : x < 0) : gm_r ad g x = none := if_pos h
theorem gm_e_of {aC : Nat → ClassId} {ad : gAd} {π π' : gMem} {f i : Nat} (h : π' f i = π f i) : gm_e aC ad π' f i = gm_e aC ad π f i := by
  have h2 : gm_v ad π' f i = gm_v ad π f i := by
    funext k
    simp only [gm_v, h]
  simp only [gm_e, h, h2]
theorem gm_e_obj {aC : Nat → ClassId} {ad : gAd} {π : gMem} {f i : Nat} (hf : f < 8) : gm_e aC ad π f i = .inr (f, (List.range (gm_n f)).map (gm_v ad π f i)) := by
  have h : gm_k f = 0 := by simp only [gm_k, if_pos (show f < 10 by omega)]
  simp only [gm_e, if_pos h]
theorem gm_e_row {aC : Nat → ClassId} {ad : gAd} {π : gMem} {f i : Nat} (hf : gm_k f = 1) : gm_e aC ad π f i = .inl (aC (gm_c f), gm_n f, .inl (π f i)) := by
  have h : ¬ gm_k f = 0 := by omega
  simp only [gm_e, if_neg h, gm_row, if_pos hf]
theorem gm_e_rowq {aC : Nat → ClassId} {ad : gAd} {π : gMem} {f i : Nat} (hf : gm_k f = 2) : gm_e aC ad π f i = .inl (aC (gm_c f), gm_n f, .inr (.inr (.inr (.inr (fun k => gm_r ad (gm_t f 0 - 1) (π f i k)))))) := by
  have h : ¬ gm_k f = 0 := by omega
  have h1 : ¬ gm_k f = 1 := by omega
  simp only [gm_e, if_neg h, gm_row, if_neg h1, if_pos hf]
theorem gm_e_rowl {aC : Nat → ClassId} {ad : gAd} {π : gMem} {f i : Nat} (hf : gm_k f = 3) : gm_e aC ad π f i = .inl (aC (gm_c f), gm_n f, .inr (.inl (fun k => (π f i k).toInt64))) := by
  have h : ¬ gm_k f = 0 := by omega
  have h1 : ¬ gm_k f = 1 := by omega
  have h2 : ¬ gm_k f = 2 := by omega
  simp only [gm_e, if_neg h, gm_row, if_neg h1, if_neg h2]
theorem gm_e_objset {aC : Nat → ClassId} {ad : gAd} {π : gMem} {f i k : Nat} {x : Int32} (hf : f < 8) : gm_e aC ad (upd3 π f i k x) f i = .inr (f, ((List.range (gm_n f)).map (gm_v ad π f i)).set k (gm_w ad (gm_t f k) x)) := by
  rw [gm_e_obj hf]
  congr 2
  apply List.ext_getElem?
  intro j
  by_cases hj : j = k
  · subst hj
    by_cases hl : j < gm_n f
    · simp [hl, gm_v, upd3_s]
    · simp [hl]
  · rw [List.getElem?_set_ne (Ne.symm hj)]
    by_cases hl : j < gm_n f
    · simp only [List.getElem?_map, List.getElem?_range hl, Option.map_some]
      rw [gm_v, gm_v, upd3_n (fun z => hj z.2.2)]
    · simp [hl]
theorem gW_g (aC : Nat → ClassId) (ids : gIds) (ad : gAd) (π : gMem) (j : Nat) : (gW aC ids ad π)[j]? = (ids[j]?).map (fun q => (ad q.1 q.2, gm_e aC ad π q.1 q.2)) := by
  rw [gW, List.getElem?_map]
theorem gW_some {aC : Nat → ClassId} {ids : gIds} {ad : gAd} {π : gMem} {j f i : Nat} (h : ids[j]? = some (f, i)) : (gW aC ids ad π)[j]? = some (ad f i, gm_e aC ad π f i) := by
  rw [gW_g, h, Option.map_some]
theorem gW_get {aC : Nat → ClassId} {ids : gIds} {ad : gAd} {π : gMem} {f i : Nat} (h : (f, i) ∈ ids) : ∃ q0 : Nat, ids[q0]? = some (f, i) ∧ (gW aC ids ad π)[q0]? = some (ad f i, gm_e aC ad π f i) := by
  obtain ⟨q0, hq⟩ := List.getElem?_of_mem h
  exact ⟨q0, hq, gW_some hq⟩
theorem gW_at {aC : Nat → ClassId} {ids : gIds} {ad : gAd} {π : gMem} {j : Nat} {q : Nat × va_E} (h : (gW aC ids ad π)[j]? = some q) : ∃ f i, ids[j]? = some (f, i) ∧ q = (ad f i, gm_e aC ad π f i) := by
  rw [gW_g] at h
  cases hj : ids[j]? with
  | none => rw [hj] at h; cases h
  | some x => rw [hj] at h; exact ⟨x.1, x.2, rfl, (Option.some.inj h).symm⟩
theorem gL_set {A : Nat → Prop} {ids : gIds} {ad : gAd} {E E' : Nat → Nat → va_E} {f i q0 : Nat} (hD : va_D A (ids.map (fun q => (ad q.1 q.2, E q.1 q.2)))) (hq : ids[q0]? = some (f, i)) (ho : ∀ g j, ¬ (g = f ∧ j = i) → E' g j = E g j) : (ids.map (fun q => (ad q.1 q.2, E q.1 q.2))).set q0 (ad f i, E' f i) = ids.map (fun q => (ad q.1 q.2, E' q.1 q.2)) := by
  have hw : (ids.map (fun q => (ad q.1 q.2, E q.1 q.2)))[q0]? = some (ad f i, E f i) := by rw [List.getElem?_map, hq, Option.map_some]
  have hl := (List.getElem?_eq_some_iff.mp hw).1
  apply List.ext_getElem?
  intro j
  by_cases hj : j = q0
  · rw [hj, List.getElem?_set_self hl, List.getElem?_map, hq, Option.map_some]
  · rw [List.getElem?_set_ne (Ne.symm hj), List.getElem?_map, List.getElem?_map]
    cases hx : ids[j]? with
    | none => rfl
    | some x =>
      have hne : ¬ (x.1 = f ∧ x.2 = i) := by
        intro e
        have h2 : (ids.map (fun q => (ad q.1 q.2, E q.1 q.2)))[j]? = some (ad x.1 x.2, E x.1 x.2) := by rw [List.getElem?_map, hx, Option.map_some]
        have h3 : ad x.1 x.2 = ad f i := by rw [e.1, e.2]
        exact hj (hD.1 j q0 _ _ h2 hw h3)
      rw [Option.map_some, Option.map_some, ho _ _ hne]
theorem gW_set {aC : Nat → ClassId} {A : Nat → Prop} {ids : gIds} {ad : gAd} {π π' : gMem} {f i q0 : Nat} (hD : va_D A (gW aC ids ad π)) (hq : ids[q0]? = some (f, i)) (ho : ∀ g j, ¬ (g = f ∧ j = i) → π' g j = π g j) : (gW aC ids ad π).set q0 (ad f i, gm_e aC ad π' f i) = gW aC ids ad π' :=
  gL_set (E := gm_e aC ad π) (E' := gm_e aC ad π') hD hq (fun g j h => gm_e_of (ho g j h))
theorem gW_push {aC : Nat → ClassId} {ids : gIds} {ad ad' : gAd} {π π' : gMem} {f i : Nat} (h : ∀ g j, (g, j) ∈ ids → ad' g j = ad g j ∧ gm_e aC ad' π' g j = gm_e aC ad π g j) : gW aC ids ad π ++ [(ad' f i, gm_e aC ad' π' f i)] = gW aC (ids ++ [(f, i)]) ad' π' := by
  simp only [gW, List.map_append, List.map_cons, List.map_nil]
  congr 1
  apply List.map_congr_left
  intro q hq
  obtain ⟨e1, e2⟩ := h q.1 q.2 hq
  rw [e1, e2]
def gTy (aC : Nat → ClassId) : List (ClassId × FieldType) := [(aC 0, .int), (aC 1, .int), (aC 2, .int), (aC 3, .byte), (aC 4, .object RX3), (aC 5, .object RX4), (aC 6, .object RX0), (aC 7, .object RX2), (aC 8, .object RX5)]
/-- the memory in a heap, inside a method -/
def gS (D : va_G) (aC : Nat → ClassId) (A : Nat → Prop) (s : State) (ids : gIds) (ad : gAd) (π : gMem) (H : Heap) (locs : List Loc) : Prop :=
  va_P D vwCl (gW aC ids ad π) H ∧ va_D A (gW aC ids ad π) ∧ va_K D vwCl (gTy aC) s ∧ va_S A s.heap H locs ∧ (∀ q : Nat, s.heap.size ≤ q → A q)
