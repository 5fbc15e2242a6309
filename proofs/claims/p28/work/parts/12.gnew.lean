/-! ===== the memory by its members; new cells ===== -/
def gD (A : Nat → Prop) (ids : gIds) (ad : gAd) : Prop := ids.Nodup ∧ (∀ x ∈ ids, ∀ y ∈ ids, ad x.1 x.2 = ad y.1 y.2 → x = y) ∧ ∀ x ∈ ids, A (ad x.1 x.2)
theorem gD_of {aC : Nat → ClassId} {A : Nat → Prop} {ids : gIds} {ad : gAd} {π : gMem} (h : va_D A (gW aC ids ad π)) : gD A ids ad := by
  refine ⟨List.pairwise_iff_getElem.mpr (fun i j hi hj hij e => ?_), fun x hx y hy hxy => ?_, fun x hx => ?_⟩
  · have h1 := gW_some (aC := aC) (ad := ad) (π := π) (show ids[i]? = some (ids[i].1, ids[i].2) from List.getElem?_eq_getElem hi)
    have h2 := gW_some (aC := aC) (ad := ad) (π := π) (show ids[j]? = some (ids[j].1, ids[j].2) from List.getElem?_eq_getElem hj)
    have := h.1 i j _ _ h1 h2 (by rw [e])
    omega
  · obtain ⟨i, hi⟩ := List.getElem?_of_mem hx
    obtain ⟨j, hj⟩ := List.getElem?_of_mem hy
    have := h.1 i j _ _ (gW_some (aC := aC) (ad := ad) (π := π) (f := x.1) (i := x.2) hi) (gW_some (aC := aC) (ad := ad) (π := π) (f := y.1) (i := y.2) hj) hxy
    subst this
    exact Option.some.inj (hi.symm.trans hj)
  · obtain ⟨i, hi⟩ := List.getElem?_of_mem hx
    exact h.2 i _ (gW_some (aC := aC) (ad := ad) (π := π) (f := x.1) (i := x.2) hi)
theorem gD.to {aC : Nat → ClassId} {A : Nat → Prop} {ids : gIds} {ad : gAd} {π : gMem} (h : gD A ids ad) : va_D A (gW aC ids ad π) := by
  refine ⟨fun i j x y hx hy hxy => ?_, fun k q hk => ?_⟩
  · obtain ⟨f, a, h1, rfl⟩ := gW_at hx
    obtain ⟨g, b, h2, rfl⟩ := gW_at hy
    have e := h.2.1 _ (List.mem_of_getElem? h1) _ (List.mem_of_getElem? h2) hxy
    rw [e] at h1
    exact (List.getElem?_inj (List.getElem?_eq_some_iff.mp h1).1 h.1).mp (h1.trans h2.symm)
  · obtain ⟨f, a, h1, rfl⟩ := gW_at hk
    exact h.2.2 _ (List.mem_of_getElem? h1)
def gP (D : va_G) (aC : Nat → ClassId) (ids : gIds) (ad : gAd) (π : gMem) (H : Heap) : Prop := ∀ x ∈ ids, va_at D vwCl (ad x.1 x.2, gm_e aC ad π x.1 x.2) H
theorem gP_of {D : va_G} {aC : Nat → ClassId} {ids : gIds} {ad : gAd} {π : gMem} {H : Heap} (h : va_P D vwCl (gW aC ids ad π) H) : gP D aC ids ad π H := by
  intro x hx
  obtain ⟨i, hi⟩ := List.getElem?_of_mem hx
  exact h i _ (gW_some (aC := aC) (ad := ad) (π := π) (f := x.1) (i := x.2) hi)
theorem gP.to {D : va_G} {aC : Nat → ClassId} {ids : gIds} {ad : gAd} {π : gMem} {H : Heap} (h : gP D aC ids ad π H) : va_P D vwCl (gW aC ids ad π) H := by
  intro k q hk
  obtain ⟨f, a, h1, rfl⟩ := gW_at hk
  exact h _ (List.mem_of_getElem? h1)
theorem gm_kf (f : Nat) : (f < 10 ∧ gm_k f = 0) ∨ ((f = 10 ∨ f = 11 ∨ f = 12 ∨ f = 13 ∨ f = 14) ∧ gm_k f = 2) ∨ (f = 18 ∧ gm_k f = 3) ∨ (15 ≤ f ∧ f ≠ 18 ∧ gm_k f = 1) := by
  by_cases h1 : f < 10
  · left; exact ⟨h1, by simp only [gm_k, if_pos h1]⟩
  · by_cases h2 : f < 15
    · right; left; exact ⟨by omega, by simp only [gm_k, if_neg h1, if_pos h2]⟩
    · by_cases h3 : f = 18
      · right; right; left; exact ⟨h3, by subst h3; rfl⟩
      · right; right; right; exact ⟨by omega, h3, by simp only [gm_k, if_neg h1, if_neg h2, if_neg h3]⟩
theorem gm_t_big {f k : Nat} (h : 15 ≤ f) : gm_t f k = 0 := by
  simp only [gm_t, if_neg (show ¬ f = 0 by omega), if_neg (show ¬ f = 1 by omega), if_neg (show ¬ f = 2 by omega), if_neg (show ¬ f = 3 by omega), if_neg (show ¬ f = 4 by omega), if_neg (show ¬ f = 5 by omega), if_neg (show ¬ f = 7 by omega), if_neg (show ¬ f = 8 by omega), if_neg (show ¬ f = 10 by omega), if_neg (show ¬ f = 11 by omega), if_neg (show ¬ f = 12 by omega), if_neg (show ¬ f = 13 by omega), if_neg (show ¬ f = 14 by omega)]
theorem gm_rq {D : va_G} {aC : Nat → ClassId} {ad ad' : gAd} {π π' : gMem} {f i : Nat} {H : Heap} (hk : gm_k f = 2) (h : va_at D vwCl (ad f i, gm_e aC ad π f i) H) (hv : ∀ k, k < gm_n f → va_rf (gm_r ad' (gm_t f 0 - 1) (π' f i k)) = va_rf (gm_r ad (gm_t f 0 - 1) (π f i k))) : va_at D vwCl (ad f i, gm_e aC ad' π' f i) H := by
  rw [gm_e_rowq hk] at h ⊢
  refine Eq.trans (show H[ad f i]? = some _ from h) ?_
  congr 1
  exact (arrV_congr (fun k hk => (hv k hk).symm))
/-- the same cell, in other words -/
theorem gm_at_conv {D : va_G} {aC : Nat → ClassId} {ad ad' : gAd} {π π' : gMem} {f i : Nat} {H : Heap} (h : va_at D vwCl (ad f i, gm_e aC ad π f i) H) (e : ad' f i = ad f i) (hv : ∀ k, k < gm_n f → gm_v ad' π' f i k = gm_v ad π f i k) : va_at D vwCl (ad' f i, gm_e aC ad' π' f i) H := by
  rw [e]
  rcases gm_kf f with ⟨hf, hk⟩ | ⟨hf, hk⟩ | ⟨hf, hk⟩ | ⟨hf, hf2, hk⟩
  · have e1 : gm_e aC ad' π' f i = gm_e aC ad π f i := by
      simp only [gm_e, if_pos hk]
      congr 2
      apply List.map_congr_left
      intro k hk
      exact hv k (List.mem_range.mp hk)
    rw [e1]; exact h
  · rcases hf with rfl | rfl | rfl | rfl | rfl
    · exact gm_rq hk h hv
    · exact gm_rq hk h hv
    · exact gm_rq hk h hv
    · exact gm_rq hk h hv
    · exact gm_rq hk h hv
  · subst hf
    rw [gm_e_rowl hk] at h ⊢
    refine Eq.trans (show H[ad 18 i]? = some _ from h) ?_
    congr 1
    have h9 : ∀ k, k < gm_n 18 → Value.long (π 18 i k).toInt64 = Value.long (π' 18 i k).toInt64 := by
      intro k hk
      have h2 := hv k hk
      rw [gm_v, gm_v, gm_t_big (by omega)] at h2
      have h3 : π' 18 i k = π 18 i k := Value.int.inj h2
      rw [h3]
    exact arrV_congr (f := fun j => Value.long (π 18 i j).toInt64) (g := fun j => Value.long (π' 18 i j).toInt64) h9
  · rw [gm_e_row hk] at h ⊢
    refine Eq.trans (show H[ad f i]? = some _ from h) ?_
    congr 1
    have h9 : ∀ k, k < gm_n f → Value.int (π f i k) = Value.int (π' f i k) := by
      intro k hk
      have h2 := hv k hk
      rw [gm_v, gm_v, gm_t_big hf] at h2
      exact h2.symm
    exact arrV_congr (f := fun j => Value.int (π f i j)) (g := fun j => Value.int (π' f i j)) h9
section GN
variable {D : va_G} {aC : Nat → ClassId} {A : Nat → Prop} {s : State} {ids ids' : gIds} {ad ad' : gAd} {π π' : gMem} {H : Heap} {locs : List Loc}
/-- cells fall out of sight -/
theorem gD.sub (h : gD A ids ad) (hs : ∀ x ∈ ids', x ∈ ids) (hn : ids'.Nodup) : gD A ids' ad := ⟨hn, fun x hx y hy => h.2.1 x (hs x hx) y (hs y hy), fun x hx => h.2.2 x (hs x hx)⟩
theorem gS.sub (G : gS D aC A s ids ad π H locs) (hs : ∀ x ∈ ids', x ∈ ids) (hn : ids'.Nodup) : gS D aC A s ids' ad π H locs :=
  ⟨gP.to (fun x hx => gP_of G.1 x (hs x hx)), gD.to ((gD_of G.2.1).sub hs hn), G.2.2⟩
theorem gS.nodup (G : gS D aC A s ids ad π H locs) : ids.Nodup := (gD_of G.2.1).1
/-- the same memory in other words -/
theorem gS.alt (G : gS D aC A s ids ad π H locs) (h : ∀ x ∈ ids, ad' x.1 x.2 = ad x.1 x.2 ∧ ∀ k, k < gm_n x.1 → gm_v ad' π' x.1 x.2 k = gm_v ad π x.1 x.2 k) : gS D aC A s ids ad' π' H locs := by
  refine ⟨gP.to (fun x hx => gm_at_conv (gP_of G.1 x hx) (h x hx).1 (h x hx).2), gD.to ?_, G.2.2⟩
  obtain ⟨h1, h2, h3⟩ := gD_of G.2.1
  exact ⟨h1, fun x hx y hy e => h2 x hx y hy (by rw [← (h x hx).1, ← (h y hy).1]; exact e), fun x hx => by rw [(h x hx).1]; exact h3 x hx⟩
/-- no cell that there is speaks of (f, i) -/
def gFree (ids : gIds) (π : gMem) (f i : Nat) : Prop := ∀ x ∈ ids, ∀ k, k < gm_n x.1 → gm_t x.1 k = f + 1 → π x.1 x.2 k < 0 ∨ tN (π x.1 x.2 k) ≠ i
theorem gS_push (G : gS D aC A s ids ad π H locs) {f i q : Nat} {E : va_E} {H1 : Heap} (hP : va_P D vwCl (gW aC ids ad π ++ [(q, E)]) H1) (hD : va_D A (gW aC ids ad π ++ [(q, E)])) (hS : va_S A s.heap H1 locs) (hn : (f, i) ∉ ids) (hfree : gFree ids π f i) {r : Nat → Int32} (hE : ∀ ad' : gAd, gm_e aC ad' (updR π f i r) f i = E) : gS D aC A s (ids ++ [(f, i)]) (updA ad f i q) (updR π f i r) H1 locs := by
  have hlen : (gW aC ids ad π).length = ids.length := by simp [gW]
  have hne : ∀ x ∈ ids, ¬ (x.1 = f ∧ x.2 = i) := fun x hx e => hn (by rw [← e.1, ← e.2]; exact hx)
  have hold : ∀ (k : Nat) (x : Nat × Nat), ids[k]? = some x → (gW aC ids ad π ++ [(q, E)])[k]? = some (ad x.1 x.2, gm_e aC ad π x.1 x.2) := by
    intro k x hk
    have hl : k < ids.length := (List.getElem?_eq_some_iff.mp hk).1
    rw [List.getElem?_append_left (by rw [hlen]; exact hl)]
    exact gW_some (f := x.1) (i := x.2) hk
  have hlast : (gW aC ids ad π ++ [(q, E)])[ids.length]? = some (q, E) := by
    rw [List.getElem?_append_right (by rw [hlen]; exact Nat.le_refl _), hlen, Nat.sub_self]; rfl
  refine ⟨gP.to (fun x hx => ?_), gD.to ⟨?_, ?_, ?_⟩, G.2.2.1, hS, G.2.2.2.2⟩
  · rcases List.mem_append.mp hx with h | h
    · obtain ⟨k, hk⟩ := List.getElem?_of_mem h
      refine gm_at_conv (hP k _ (hold k x hk)) (updA_n (hne x h)) (fun j hj => ?_)
      rw [gm_v, gm_v, updR_far (hne x h)]
      cases ht : gm_t x.1 j with
      | zero => rfl
      | succ g =>
        by_cases hneg : π x.1 x.2 j < 0
        · simp only [gm_w, gm_r_neg hneg]
        · have : ¬ (g = f ∧ tN (π x.1 x.2 j) = i) := by
            rintro ⟨rfl, e⟩
            rcases hfree x h j hj ht with z | z
            · exact hneg z
            · exact z e
          simp only [gm_w, gm_r, if_neg hneg, updA_n this]
    · obtain rfl := List.mem_singleton.mp h
      have h2 := hP _ _ hlast
      show va_at D vwCl (updA ad f i q f i, gm_e aC (updA ad f i q) (updR π f i r) f i) H1
      rw [hE, updA_s]; exact h2
  · exact List.nodup_append.mpr ⟨(gD_of G.2.1).1, List.nodup_cons.mpr ⟨List.not_mem_nil, List.nodup_nil⟩, fun x hx y hy e => by
      obtain rfl := List.mem_singleton.mp hy
      exact hn (e ▸ hx)⟩
  · have hq : ∀ x ∈ ids, ad x.1 x.2 ≠ q := by
      intro x hx e
      obtain ⟨k, hk⟩ := List.getElem?_of_mem hx
      have := hD.1 k ids.length _ _ (hold k x hk) hlast e
      have hl : k < ids.length := (List.getElem?_eq_some_iff.mp hk).1
      omega
    intro x hx y hy e
    rcases List.mem_append.mp hx with h | h <;> rcases List.mem_append.mp hy with h' | h'
    · rw [updA_n (hne x h), updA_n (hne y h')] at e
      exact (gD_of G.2.1).2.1 x h y h' e
    · obtain rfl := List.mem_singleton.mp h'
      rw [updA_n (hne x h)] at e
      exact absurd (e.trans updA_s) (hq x h)
    · obtain rfl := List.mem_singleton.mp h
      rw [updA_n (hne y h')] at e
      exact absurd (e.symm.trans updA_s) (hq y h')
    · rw [List.mem_singleton.mp h, List.mem_singleton.mp h']
  · intro x hx
    rcases List.mem_append.mp hx with h | h
    · rw [updA_n (hne x h)]; exact (gD_of G.2.1).2.2 x h
    · obtain rfl := List.mem_singleton.mp h
      show A (updA ad f i q f i)
      rw [updA_s]; exact hD.2 _ _ hlast
end GN
/-- what a new object's slots hold -/
def gDef (f : Nat) : Nat → Int32 := fun k => if gm_t f k = 0 then 0 else -1
def gDv (f k : Nat) : Value := if gm_t f k = 0 then .int 0 else .null
theorem gDef_v {ad : gAd} {π : gMem} {f i k : Nat} : gm_v ad (updR π f i (gDef f)) f i k = gDv f k := by
  rw [gm_v, updR_s]
  cases ht : gm_t f k with
  | zero => simp only [gm_w, gDef, gDv, ht, if_true]
  | succ g =>
    have h : gDef f k = -1 := by simp only [gDef, ht]; rfl
    rw [h]
    simp only [gm_w, gDv, ht]
    rw [gm_r_neg (by decide)]
    rfl
theorem gDef0 : ∀ k, k < 4 → defaultValue (tyJ4 k) = gDv 0 k
  | 0, _ => rfl
  | 1, _ => rfl
  | 2, _ => rfl
  | 3, _ => rfl
  | n + 4, h => absurd h (by omega)
theorem gDef1 : ∀ k, k < 2 → defaultValue (tyX0 k) = gDv 1 k
  | 0, _ => rfl
  | 1, _ => rfl
  | n + 2, h => absurd h (by omega)
theorem gDef2 : ∀ k, k < 4 → defaultValue (tyX1 k) = gDv 2 k
  | 0, _ => rfl
  | 1, _ => rfl
  | 2, _ => rfl
  | 3, _ => rfl
  | n + 4, h => absurd h (by omega)
theorem gDef3 : ∀ k, k < 10 → defaultValue (tyX2 k) = gDv 3 k
  | 0, _ => rfl
  | 1, _ => rfl
  | 2, _ => rfl
  | 3, _ => rfl
  | 4, _ => rfl
  | 5, _ => rfl
  | 6, _ => rfl
  | 7, _ => rfl
  | 8, _ => rfl
  | 9, _ => rfl
  | n + 10, h => absurd h (by omega)
theorem gDef4 : ∀ k, k < 4 → defaultValue (tyX3 k) = gDv 4 k
  | 0, _ => rfl
  | 1, _ => rfl
  | 2, _ => rfl
  | 3, _ => rfl
  | n + 4, h => absurd h (by omega)
theorem gDef5 : ∀ k, k < 7 → defaultValue (tyX4 k) = gDv 5 k
  | 0, _ => rfl
  | 1, _ => rfl
  | 2, _ => rfl
  | 3, _ => rfl
  | 4, _ => rfl
  | 5, _ => rfl
  | 6, _ => rfl
  | n + 7, h => absurd h (by omega)
theorem gDef6 : ∀ k, k < 3 → defaultValue (tyX5 k) = gDv 6 k
  | 0, _ => rfl
  | 1, _ => rfl
  | 2, _ => rfl
  | n + 3, h => absurd h (by omega)
theorem gDef7 : ∀ k, k < 8 → defaultValue (tyX6 k) = gDv 7 k
  | 0, _ => rfl
  | 1, _ => rfl
  | 2, _ => rfl
  | 3, _ => rfl
  | 4, _ => rfl
  | 5, _ => rfl
  | 6, _ => rfl
  | 7, _ => rfl
  | n + 8, h => absurd h (by omega)
theorem gCl_tyd : ∀ f, f < 8 → ∃ ty0 : Nat → FieldType, (∀ k, k < (gCl f).2.2 → parseFieldDescriptor ((gCl f).2.1 k).2.2.1 = some (ty0 k)) ∧ ∀ k, k < (gCl f).2.2 → defaultValue (ty0 k) = gDv f k
  | 0, _ => ⟨tyJ4, tyJ4_ok, gDef0⟩
  | 1, _ => ⟨tyX0, tyX0_ok, gDef1⟩
  | 2, _ => ⟨tyX1, tyX1_ok, gDef2⟩
  | 3, _ => ⟨tyX2, tyX2_ok, gDef3⟩
  | 4, _ => ⟨tyX3, tyX3_ok, gDef4⟩
  | 5, _ => ⟨tyX4, tyX4_ok, gDef5⟩
  | 6, _ => ⟨tyX5, tyX5_ok, gDef6⟩
  | 7, _ => ⟨tyX6, tyX6_ok, gDef7⟩
  | n + 8, h => absurd h (by omega)
section GNR
variable {p : Program} {l : Launch} {e : Env} {R : Room} {s : State} {m : MethodId} {args : Array Value} {below : List Frame} {meth : Method} {c : Code} {H : Heap} {locs : List Loc} {cells slots : Nat} {Q : State → Prop}
variable {cc : ByteArray} {pc nL : Nat} {ls : Array Slot} {rest : List Value} {Ts : List Cond} {own : String} {lv : List (Nat × Value)}
variable {D : va_G} {aC : Nat → ClassId} {A : Nat → Prop} {ids : gIds} {ad : gAd} {π : gMem}
theorem g_new (S : CallFix p m c cc nL s args Ts own) (G : gS D aC A s ids ad π H locs) (f i : Nat) {index : Nat} (hf : f < 8) (hin : ∀ w ∈ u_ws (gCl f).1 (gCl f).2.1 (gCl f).2.2, w ∈ Ts) (hcl : Cond.classLink own index (gCl f).1 ∈ Ts) (hinst : Cond.instantiable (gCl f).1 (gCl f).2.2 ∈ Ts) (hini : Cond.initialized (gCl f).1 ∈ Ts) (hn : (f, i) ∉ ids) (hfree : gFree ids π f i) (hcells : cells + 1 ≤ R.cells) (hslots : slots + (gCl f).2.2 ≤ R.slots) (hdg : decode cc pc = .ok (.new index, 3))
    (kk : ∀ (q : Nat) (H1 : Heap), gS D aC A s (ids ++ [(f, i)]) (updA ad f i q) (updR π f i (gDef f)) H1 locs → W p l e R s m args below meth c H1 locs (cells + 1) (slots + (gCl f).2.2) Q (F0 m (pc + 3) ls (.ref (updA ad f i q f i) :: rest))) : W p l e R s m args below meth c H locs cells slots Q (F0 m pc ls rest) := by
  obtain ⟨ty0, hty, hdv⟩ := gCl_tyd f hf
  refine va_new (fs := (List.range (gm_n f)).map (gDv f)) S.1 S.2.1 S.2.2.2.2 hin ty0 hty S.2.2.2.1 (S.2.2.2.2 _ hcl) (S.2.2.2.2 _ hinst) (S.2.2.2.2 _ hini) G.2.2.1 G.1 G.2.1 G.2.2.2.1 G.2.2.2.2 (gCl_at f hf) (fun j hj => ?_) hcells hslots hdg (fun q H1 hP hD hS => ?_)
  · rw [hdv j hj]
    simp [vp_V, gm_n_obj hf, hj]
  · have z := kk q H1 (gS_push G hP hD hS hn hfree (fun ad' => by
      rw [gm_e_obj hf]
      congr 2
      apply List.map_congr_left
      intro k _
      exact gDef_v))
    rw [updA_s] at z
    exact z
theorem g_newa (S : CallFix p m c cc nL s args Ts own) (G : gS D aC A s ids ad π H locs) (f i : Nat) {atype : ArrayType} {n : Int32} (hkd : gm_k f = 1) (hty : (gTy aC)[gm_c f]? = some (aC (gm_c f), newarray.typeOf atype)) (hd : defaultValue (newarray.typeOf atype) = .int 0) (harr : Cond.arrayClass (newarray.typeOf atype) ∈ Ts) (hnf : (f, i) ∉ ids) (hfree : gFree ids π f i) (hn : n = nI (gm_n f)) (hb : gm_n f * componentBytes (newarray.typeOf atype) ≤ 536870912) (hcells : cells + 1 ≤ R.cells) (hslots : slots + gm_n f ≤ R.slots) (hdg : decode cc pc = .ok (.newarray atype, 2))
    (kk : ∀ (q : Nat) (H1 : Heap), gS D aC A s (ids ++ [(f, i)]) (updA ad f i q) (updR π f i (fun _ => 0)) H1 locs → W p l e R s m args below meth c H1 locs (cells + 1) (slots + gm_n f) Q (F0 m (pc + 2) ls (.ref (updA ad f i q f i) :: rest))) : W p l e R s m args below meth c H locs cells slots Q (F0 m pc ls (.int n :: rest)) := by
  have hlt := gm_n_lt f (by omega)
  refine va_newa (atype := atype) (a0 := (gm_n f, .inl (fun _ => 0))) S.1 S.2.1 (S.2.2.2.2 _ harr) rfl G.2.2.1 G.1 G.2.1 G.2.2.2.1 G.2.2.2.2 (fun cA => by rw [vp_cell_i, hd]) (by rw [hn]; exact nI_pos hlt) (by rw [hn]; exact nI_clamp hlt) hb hcells hslots hdg (fun q cA H1 hK hP hD hS => ?_)
  have h1 := (hK.2 (gTy aC).length (cA, newarray.typeOf atype) (by rw [List.getElem?_append_right (Nat.le_refl _), Nat.sub_self]; rfl)).2
  have h2 := (G.2.2.1.2 _ _ hty).2
  have hc : cA = aC (gm_c f) := by cases atype <;> exact Option.some.inj (Eq.trans (Eq.symm h1) h2)
  subst hc
  have z := kk q H1 (gS_push G hP hD hS hnf hfree (fun ad' => by rw [gm_e_row hkd, updR_s]))
  rw [updA_s] at z
  exact z
theorem g_newl (S : CallFix p m c cc nL s args Ts own) (G : gS D aC A s ids ad π H locs) (f i : Nat) {n : Int32} (hkd : gm_k f = 3) (hty : (gTy aC)[gm_c f]? = some (aC (gm_c f), .long)) (harr : Cond.arrayClass .long ∈ Ts) (hnf : (f, i) ∉ ids) (hfree : gFree ids π f i) (hn : n = nI (gm_n f)) (hb : gm_n f * componentBytes .long ≤ 536870912) (hcells : cells + 1 ≤ R.cells) (hslots : slots + gm_n f ≤ R.slots) (hdg : decode cc pc = .ok (.newarray .long, 2))
    (kk : ∀ (q : Nat) (H1 : Heap), gS D aC A s (ids ++ [(f, i)]) (updA ad f i q) (updR π f i (fun _ => 0)) H1 locs → W p l e R s m args below meth c H1 locs (cells + 1) (slots + gm_n f) Q (F0 m (pc + 2) ls (.ref (updA ad f i q f i) :: rest))) : W p l e R s m args below meth c H locs cells slots Q (F0 m pc ls (.int n :: rest)) := by
  have hlt := gm_n_lt f (by omega)
  refine va_newa (atype := .long) (ty := .long) (a0 := (gm_n f, .inr (.inl (fun _ => 0)))) S.1 S.2.1 (S.2.2.2.2 _ harr) rfl G.2.2.1 G.1 G.2.1 G.2.2.2.1 G.2.2.2.2 (fun cA => rfl) (by rw [hn]; exact nI_pos hlt) (by rw [hn]; exact nI_clamp hlt) hb hcells hslots hdg (fun q cA H1 hK hP hD hS => ?_)
  have h1 := (hK.2 (gTy aC).length (cA, .long) (by rw [List.getElem?_append_right (Nat.le_refl _), Nat.sub_self]; rfl)).2
  have h2 := (G.2.2.1.2 _ _ hty).2
  have hc : cA = aC (gm_c f) := Option.some.inj (Eq.trans (Eq.symm h1) h2)
  subst hc
  have z := kk q H1 (gS_push G hP hD hS hnf hfree (fun ad' => by rw [gm_e_rowl hkd, updR_s]; rfl))
  rw [updA_s] at z
  exact z
theorem g_newq (S : CallFix p m c cc nL s args Ts own) (G : gS D aC A s ids ad π H locs) (f i : Nat) {C : String} {index : Nat} {n : Int32} (hkd : gm_k f = 2) (hty : (gTy aC)[gm_c f]? = some (aC (gm_c f), .object C)) (hcl : Cond.classLink own index C ∈ Ts) (hover : va_AO C s) (hnf : (f, i) ∉ ids) (hfree : gFree ids π f i) (hn : n = nI (gm_n f)) (hb : gm_n f * 4 ≤ 536870912) (hcells : cells + 1 ≤ R.cells) (hslots : slots + gm_n f ≤ R.slots) (hdg : decode cc pc = .ok (.anewarray index, 3))
    (kk : ∀ (q : Nat) (H1 : Heap), gS D aC A s (ids ++ [(f, i)]) (updA ad f i q) (updR π f i (fun _ => -1)) H1 locs → W p l e R s m args below meth c H1 locs (cells + 1) (slots + gm_n f) Q (F0 m (pc + 3) ls (.ref (updA ad f i q f i) :: rest))) : W p l e R s m args below meth c H locs cells slots Q (F0 m pc ls (.int n :: rest)) := by
  have hlt := gm_n_lt f (by omega)
  refine va_newq S.1 S.2.1 S.2.2.2.1 (S.2.2.2.2 _ hcl) hover G.2.2.1 G.1 G.2.1 G.2.2.2.1 G.2.2.2.2 (by rw [hn]; exact nI_pos hlt) (by rw [hn]; exact nI_clamp hlt) hb hcells hslots hdg (fun q cA H1 hK hP hD hS => ?_)
  have h1 := (hK.2 (gTy aC).length (cA, .object C) (by rw [List.getElem?_append_right (Nat.le_refl _), Nat.sub_self]; rfl)).2
  have h2 := (G.2.2.1.2 _ _ hty).2
  have hc : cA = aC (gm_c f) := by
    obtain ⟨_, _, _, _, _, n1⟩ := h1
    obtain ⟨_, _, _, _, _, n2⟩ := h2
    exact Option.some.inj (n1.symm.trans n2)
  subst hc
  have z := kk q H1 (gS_push G hP hD hS hnf hfree (fun ad' => by
    rw [gm_e_rowq hkd, updR_s]
    simp only [gm_r_neg (show (-1 : Int32) < 0 by decide)]))
  rw [updA_s] at z
  exact z
theorem g_objInit (S : CallFix p m c cc nL s args Ts own) (hl : lv_has ls nL lv) {idx a : Nat} (h1 : Cond.methodLink own idx Lib.objectInit ∈ Ts) (h2 : Cond.instanceMethod Lib.objectInit ∈ Ts) (h3 : Cond.code Lib.objectInit ⟨#[0xb1]⟩ 1 none ∈ Ts) (hf : 1 ≤ R.frames) (hlo : (rest.map fun v => v.category).sum + 12 ≤ R.locals) (hdg : decode cc pc = .ok (.invokespecial idx, 3))
    (kk : W p l e R s m args below meth c H locs cells slots Q (F0 m (pc + 3) ls rest)) : W p l e R s m args below meth c H locs cells slots Q (F0 m pc ls (.ref a :: rest)) :=
  W.objInit S.1 S.2.1 S.2.2.2.1 (S.2.2.2.2 _ h1) (S.2.2.2.2 _ h2) (S.2.2.2.2 _ h3) rfl (hl.1.trans S.2.2.1.symm) rfl hdg hf (by show 2 * 0 + _ + 12 ≤ _; omega) kk
theorem gF.narrow {A A' : Nat → Prop} {U : State} {H : Heap} (hA : ∀ q, A' q → A q) (hF : gF A U H) : gF A' U H := by
  obtain ⟨h1, h2, h3, h4, h5, h6, ⟨h7, h8⟩, h9, h10, t1, t2, h11, h12, h13, h14, h15⟩ := hF
  exact ⟨h1, h2, h3, h4, h5, h6, ⟨h7.narrow hA, h8.narrow hA⟩, h9, h10.narrow hA, t1, t2, h11.narrow hA, h12.narrow hA, h13.narrow hA, h14.narrow hA, h15.narrow hA⟩
/-- a call beside a cell that is being made: it isn't seen, and stays -/
theorem g_cSiF {κ κ' : gMem} {f i : Nat} {d : Nat → Int32} {bytes : ByteArray} {maxL index n mc ms : Nat} {st0 As : List Value} {ws : List Cond} {y : MethodName} {ret : Option FieldType} {rm : Room} (S : CallFix p m c cc nL s args Ts own) (G : gS D aC A s (ids ++ [(f, i)]) ad (updR (gk κ) f i d) H locs) (hF : gF A s s.heap) (hl : lv_has ls nL lv) {P : Int32 → Prop} (hM : gMi l y ws rm mc ms As (ids, ad, gk κ) (fun r u => P r ∧ u = (ids, ad, gk κ'))) (cw : CallB R s args own index y bytes maxL ret ws rm mc ms n ∧ (Cond.static y).before args s = true) (hn : As.length = n) (hst : st0 = As.reverse ++ rest) (hroom : (rest.map fun v => v.category).sum ≤ 8) (hdg : decode cc pc = .ok (.invokestatic index, 3)) (hfit : cells + mc ≤ R.cells ∧ slots + ms ≤ R.slots)
    (kk : ∀ (r : Int32) (H1 : Heap) (locs1 : List Loc), P r → gS D aC A s (ids ++ [(f, i)]) ad (updR (gk κ') f i d) H1 locs1 → W p l e R s m args below meth c H1 locs1 (cells + mc) (slots + ms) Q (F0 m (pc + 3) ls (.int r :: rest))) : W p l e R s m args below meth c H locs cells slots Q (F0 m pc ls st0) := by
  have hP := gP_of G.1
  obtain ⟨hN, hI, hAa⟩ := gD_of G.2.1
  have hin : (f, i) ∈ ids ++ [(f, i)] := List.mem_append_right _ List.mem_cons_self
  have hne : ∀ x ∈ ids, ¬ (x.1 = f ∧ x.2 = i) := fun x hx e => (List.nodup_append.mp hN).2.2 x hx (f, i) List.mem_cons_self (Prod.ext e.1 e.2)
  have hlt : ad f i < H.size := (hP _ hin).lt
  have hP0 : ∀ (κ0 : gMem) (H0 : Heap), gP D aC (ids ++ [(f, i)]) ad (updR (gk κ0) f i d) H0 → gP D aC ids ad (gk κ0) H0 := fun κ0 H0 h x hx => gm_at_conv (h x (List.mem_append_left _ hx)) rfl (fun k _ => by rw [gm_v, gm_v, updR_far (hne x hx)])
  have hD0 : gD (fun q => A q ∧ q ≠ ad f i) ids ad := ⟨(List.nodup_append.mp hN).1, fun x hx y hy => hI x (List.mem_append_left _ hx) y (List.mem_append_left _ hy), fun x hx => ⟨hAa x (List.mem_append_left _ hx), fun e => hne x hx (by rw [hI x (List.mem_append_left _ hx) _ hin e]; exact ⟨rfl, rfl⟩)⟩⟩
  have hpre : PreS s H (va_Pc As (gU D aC (fun q => A q ∧ q ≠ ad f i) (ids, ad, gk κ))) As := by
    refine ⟨gU.blind, fun U hU hW => ⟨rfl, ?_, hD0.to, va_K.moved hW.alike G.2.2.1, fun q hq => ⟨G.2.2.2.2 q (Nat.le_trans G.2.2.2.1.1 (by rw [← hU]; exact hq)), fun e => by rw [hU] at hq; omega⟩, ?_⟩⟩
    · rw [hU]; exact (hP0 κ H hP).to
    · rw [hU]; exact (hF.moved hW G.2.2.2.1).narrow (fun q h => h.1)
  refine va_calli (va_runS S (hM D aC (fun q => A q ∧ q ≠ ad f i)) cw hpre rfl hn hl.1 hst (lv_room hroom) hdg hfit) G.2.2.2.1 (fun _ _ h => h.1) (fun _ h => h.1) (fun r u t H1 locs1 ht _ hp hB hz hk hS => ?_)
  obtain ⟨hp, rfl⟩ := hp
  refine kk r H1 locs1 hp ⟨gP.to (fun x hx => ?_), gD.to ⟨hN, hI, hAa⟩, G.2.2.1, hS, G.2.2.2.2⟩
  rcases List.mem_append.mp hx with h | h
  · have h2 := gP_of hB.1 x h
    rw [ht] at h2
    exact gm_at_conv h2 rfl (fun k _ => by rw [gm_v, gm_v, updR_far (hne x h)])
  · obtain rfl := List.mem_singleton.mp h
    have h2 := (hP _ hin).kept (hk _ hlt (fun z => z.2 rfl))
    exact gm_at_conv h2 rfl (fun k _ => by rw [gm_v, gm_v, updR_s, updR_s])
theorem g_cSiV {κ κ' : gMem} {f i : Nat} {d : Nat → Int32} {bytes : ByteArray} {maxL index n mc ms : Nat} {st0 As : List Value} {ws : List Cond} {y : MethodName} {ret : Option FieldType} {rm : Room} (S : CallFix p m c cc nL s args Ts own) (G : gS D aC A s (ids ++ [(f, i)]) ad (updR (gk κ) f i d) H locs) (hF : gF A s s.heap) (hl : lv_has ls nL lv) {v : Int32} (hM : gMi l y ws rm mc ms As (ids, ad, gk κ) (fun r u => r = v ∧ u = (ids, ad, gk κ'))) (cw : CallB R s args own index y bytes maxL ret ws rm mc ms n ∧ (Cond.static y).before args s = true) (hn : As.length = n) (hst : st0 = As.reverse ++ rest) (hroom : (rest.map fun v => v.category).sum ≤ 8) (hdg : decode cc pc = .ok (.invokestatic index, 3)) (hfit : cells + mc ≤ R.cells ∧ slots + ms ≤ R.slots)
    (kk : ∀ (H1 : Heap) (locs1 : List Loc), gS D aC A s (ids ++ [(f, i)]) ad (updR (gk κ') f i d) H1 locs1 → W p l e R s m args below meth c H1 locs1 (cells + mc) (slots + ms) Q (F0 m (pc + 3) ls (.int v :: rest))) : W p l e R s m args below meth c H locs cells slots Q (F0 m pc ls st0) :=
  g_cSiF (P := fun r => r = v) S G hF hl hM cw hn hst hroom hdg hfit (fun r H1 locs1 hp G => by
    have hp : r = v := hp
    subst hp
    exact kk H1 locs1 G)
end GNR
