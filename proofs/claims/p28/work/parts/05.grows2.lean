/-! ===== the memory with its owned cells fixed: what a system's own constructors have set once ===== -/
/-- a slot that never changes behind the constructors: its number -/
def gOwn (f i k : Nat) : Option Int32 :=
  if f = 7 then (if k < 4 then some 0 else none)
  else if f = 8 then (if gm_t 8 k = 0 then none else some 0)
  else if f = 1 then (if k = 1 then some (nI i) else none)
  else if f = 2 then (if k = 1 then some (nI i) else none)
  else if f = 3 then (if k = 5 then some (nI i) else none)
  else if f = 4 then (if k = 0 then some (nI i) else none)
  else if f = 5 then (if k = 0 then some (nI i) else none)
  else if f = 10 then some (nI k)
  else if f = 11 then some (nI k)
  else if f = 12 then some (nI k)
  else none
def gk (κ : gMem) : gMem := fun f i k => match gOwn f i k with
  | some x => x
  | none => κ f i k
theorem gk_n {κ : gMem} {f i k : Nat} (h : gOwn f i k = none) : gk κ f i k = κ f i k := by simp only [gk, h]
theorem gk_o {κ : gMem} {f i k : Nat} {x : Int32} (h : gOwn f i k = some x) : gk κ f i k = x := by simp only [gk, h]
theorem gk_upd {κ : gMem} {f i k : Nat} {x : Int32} (h : gOwn f i k = none) : upd3 (gk κ) f i k x = gk (upd3 κ f i k x) := by
  funext g j l
  by_cases hc : g = f ∧ j = i ∧ l = k
  · obtain ⟨rfl, rfl, rfl⟩ := hc
    rw [upd3_s, gk_n h, upd3_s]
  · rw [upd3_n hc]
    simp only [gk]
    split
    · rfl
    · rw [upd3_n hc]
theorem gvk_i {ad : gAd} {κ : gMem} {f i k : Nat} (hT : gm_t f k = 0) (hO : gOwn f i k = none) : gm_v ad (gk κ) f i k = .int (κ f i k) := by rw [gv_i hT, gk_n hO]
theorem gvk_oi {ad : gAd} {κ : gMem} {f i k : Nat} {x : Int32} (hT : gm_t f k = 0) (hO : gOwn f i k = some x) : gm_v ad (gk κ) f i k = .int x := by rw [gv_i hT, gk_o hO]
theorem gvk_or {ad : gAd} {κ : gMem} {f i k g j : Nat} (hT : gm_t f k = g + 1) (hO : gOwn f i k = some (nI j)) (hj : j < 2 ^ 31) : gm_v ad (gk κ) f i k = .ref (ad g j) := gv_r hT (gk_o hO) hj
theorem gvk_r {ad : gAd} {κ : gMem} {f i k g j : Nat} (hT : gm_t f k = g + 1) (hO : gOwn f i k = none) (hr : κ f i k = nI j) (hj : j < 2 ^ 31) : gm_v ad (gk κ) f i k = .ref (ad g j) := gv_r hT ((gk_n hO).trans hr) hj
theorem gvk_n {ad : gAd} {κ : gMem} {f i k g : Nat} (hT : gm_t f k = g + 1) (hO : gOwn f i k = none) (hr : κ f i k < 0) : gm_v ad (gk κ) f i k = .null := gv_n hT (by rw [gk_n hO]; exact hr)
theorem gqk_r {ad : gAd} {κ : gMem} {f i k g j : Nat} (hT : gm_t f 0 - 1 = g) (hO : gOwn f i k = none) (hr : κ f i k = nI j) (hj : j < 2 ^ 31) : va_rf (gm_r ad (gm_t f 0 - 1) (gk κ f i k)) = .ref (ad g j) := gq_r hT ((gk_n hO).trans hr) hj
theorem gqk_or {ad : gAd} {κ : gMem} {f i k g j : Nat} (hT : gm_t f 0 - 1 = g) (hO : gOwn f i k = some (nI j)) (hj : j < 2 ^ 31) : va_rf (gm_r ad (gm_t f 0 - 1) (gk κ f i k)) = .ref (ad g j) := gq_r hT (gk_o hO) hj
theorem gqk_n {ad : gAd} {κ : gMem} {f i k : Nat} (hO : gOwn f i k = none) (hr : κ f i k < 0) : va_rf (gm_r ad (gm_t f 0 - 1) (gk κ f i k)) = .null := gq_n (by rw [gk_n hO]; exact hr)
/-- only what lies in the rows counts -/
theorem arrV_congr {cI : ClassId} {N : Nat} {f g : Nat → Value} (h : ∀ k, k < N → f k = g k) : arrV cI N f = arrV cI N g := by
  simp only [arrV]
  congr 2
  funext j
  exact h j.1 j.2
theorem gS.conv {D : va_G} {aC : Nat → ClassId} {A : Nat → Prop} {s : State} {ids : gIds} {ad : gAd} {π π' : gMem} {H : Heap} {locs : List Loc} (G : gS D aC A s ids ad π H locs) (h : ∀ q ∈ ids, ∀ k, k < gm_n q.1 → π' q.1 q.2 k = π q.1 q.2 k) : gS D aC A s ids ad π' H locs := by
  obtain ⟨hP, hD, hR⟩ := G
  refine ⟨fun k q hk => ?_, ⟨fun i j x y hx hy hxy => ?_, fun k q hk => ?_⟩, hR⟩
  · obtain ⟨f, i, h1, rfl⟩ := gW_at hk
    have hin : (f, i) ∈ ids := List.mem_of_getElem? h1
    have h2 := hP k (ad f i, gm_e aC ad π f i) (by simp [gW, h1])
    have hv : ∀ k, k < gm_n f → π' f i k = π f i k := h (f, i) hin
    by_cases hf : gm_k f = 0
    · have e1 : gm_e aC ad π' f i = gm_e aC ad π f i := by
        simp only [gm_e, if_pos hf]
        congr 2
        apply List.map_congr_left
        intro k hk
        rw [gm_v, gm_v, hv k (List.mem_range.mp hk)]
      rw [e1]; exact h2
    · simp only [gm_e, if_neg hf, gm_row, va_at] at h2 ⊢
      refine h2.trans ?_
      congr 1
      split
      · rw [vp_cell_i, vp_cell_i]
        exact arrV_congr (fun k hk => by rw [hv k hk])
      · split
        · rw [vp_cell_q, vp_cell_q]
          exact arrV_congr (fun k hk => by rw [hv k hk])
        · rw [vp_cell_l, vp_cell_l]
          exact arrV_congr (fun k hk => by rw [hv k hk])
  · obtain ⟨f, a, h1, rfl⟩ := gW_at hx
    obtain ⟨g, b, h2, rfl⟩ := gW_at hy
    exact hD.1 i j (ad f a, gm_e aC ad π f a) (ad g b, gm_e aC ad π g b) (by simp [gW, h1]) (by simp [gW, h2]) hxy
  · obtain ⟨f, a, h1, rfl⟩ := gW_at hk
    exact hD.2 k (ad f a, gm_e aC ad π f a) (by simp [gW, h1])
section KR
variable {p : Program} {l : Launch} {e : Env} {R : Room} {s : State} {m : MethodId} {args : Array Value} {below : List Frame} {meth : Method} {c : Code} {H : Heap} {locs : List Loc} {cells slots : Nat} {Q : State → Prop}
variable {cc : ByteArray} {pc nL : Nat} {ls : Array Slot} {rest : List Value} {Ts : List Cond} {own : String}
variable {D : va_G} {aC : Nat → ClassId} {A : Nat → Prop} {ids : gIds} {ad : gAd} {κ : gMem}
theorem gk_S {f i k : Nat} {x : Int32} (h : gOwn f i k = none) (G : gS D aC A s ids ad (upd3 (gk κ) f i k x) H locs) : gS D aC A s ids ad (gk (upd3 κ f i k x)) H locs := by
  rw [← gk_upd h]; exact G
theorem k_iald (S : CallFix p m c cc nL s args Ts own) (G : gS D aC A s ids ad (gk κ) H locs) (f : Nat) {i j : Nat} {x : Int32} (hV : (f, i) ∈ ids) (hkd : gm_k f = 1) (ht : (gTy aC)[gm_c f]? = some (aC (gm_c f), .int)) (hO : gOwn f i j = none) (hx : x = nI j) (hj : j < gm_n f) (hdg : decode cc pc = .ok (.iaload, 1))
    (kk : W p l e R s m args below meth c H locs cells slots Q (F0 m (pc + 1) ls (.int (κ f i j) :: rest))) : W p l e R s m args below meth c H locs cells slots Q (F0 m pc ls (.int x :: .ref (ad f i) :: rest)) :=
  g_iald S G f hV hkd ht hx hj hdg (by rw [gk_n hO]; exact kk)
theorem k_zald (S : CallFix p m c cc nL s args Ts own) (G : gS D aC A s ids ad (gk κ) H locs) (f : Nat) {i j : Nat} {x : Int32} (hV : (f, i) ∈ ids) (hkd : gm_k f = 1) (ht : (gTy aC)[gm_c f]? = some (aC (gm_c f), .boolean)) (hO : gOwn f i j = none) (hx : x = nI j) (hj : j < gm_n f) (hdg : decode cc pc = .ok (.baload, 1))
    (kk : W p l e R s m args below meth c H locs cells slots Q (F0 m (pc + 1) ls (.int (κ f i j) :: rest))) : W p l e R s m args below meth c H locs cells slots Q (F0 m pc ls (.int x :: .ref (ad f i) :: rest)) :=
  g_zald S G f hV hkd ht hx hj hdg (by rw [gk_n hO]; exact kk)
theorem k_lald (S : CallFix p m c cc nL s args Ts own) (G : gS D aC A s ids ad (gk κ) H locs) (f : Nat) {i j : Nat} {x : Int32} (hV : (f, i) ∈ ids) (hkd : gm_k f = 3) (ht : (gTy aC)[gm_c f]? = some (aC (gm_c f), .long)) (hO : gOwn f i j = none) (hx : x = nI j) (hj : j < gm_n f) (hdg : decode cc pc = .ok (.laload, 1))
    (kk : W p l e R s m args below meth c H locs cells slots Q (F0 m (pc + 1) ls (.long (κ f i j).toInt64 :: rest))) : W p l e R s m args below meth c H locs cells slots Q (F0 m pc ls (.int x :: .ref (ad f i) :: rest)) :=
  g_lald S G f hV hkd ht hx hj hdg (by rw [gk_n hO]; exact kk)
theorem k_iast (S : CallFix p m c cc nL s args Ts own) (G : gS D aC A s ids ad (gk κ) H locs) (f : Nat) {i j : Nat} {x y : Int32} (hV : (f, i) ∈ ids) (hkd : gm_k f = 1) (ht : (gTy aC)[gm_c f]? = some (aC (gm_c f), .int)) (hO : gOwn f i j = none) (hx : x = nI j) (hj : j < gm_n f) (hdg : decode cc pc = .ok (.iastore, 1))
    (kk : ∀ (H1 : Heap) (locs1 : List Loc), gS D aC A s ids ad (gk (upd3 κ f i j y)) H1 locs1 → W p l e R s m args below meth c H1 locs1 cells slots Q (F0 m (pc + 1) ls rest)) : W p l e R s m args below meth c H locs cells slots Q (F0 m pc ls (.int y :: .int x :: .ref (ad f i) :: rest)) :=
  g_iast S G f hV hkd ht hx hj hdg (fun H1 locs1 G1 => kk H1 locs1 (gk_S hO G1))
theorem k_last (S : CallFix p m c cc nL s args Ts own) (G : gS D aC A s ids ad (gk κ) H locs) (f : Nat) {i j : Nat} {x y : Int32} (hV : (f, i) ∈ ids) (hkd : gm_k f = 3) (ht : (gTy aC)[gm_c f]? = some (aC (gm_c f), .long)) (hO : gOwn f i j = none) (hx : x = nI j) (hj : j < gm_n f) (hdg : decode cc pc = .ok (.lastore, 1))
    (kk : ∀ (H1 : Heap) (locs1 : List Loc), gS D aC A s ids ad (gk (upd3 κ f i j y)) H1 locs1 → W p l e R s m args below meth c H1 locs1 cells slots Q (F0 m (pc + 1) ls rest)) : W p l e R s m args below meth c H locs cells slots Q (F0 m pc ls (.long y.toInt64 :: .int x :: .ref (ad f i) :: rest)) :=
  g_last S G f hV hkd ht hx hj hdg (fun H1 locs1 G1 => kk H1 locs1 (gk_S hO G1))
theorem g_zast {π : gMem} (S : CallFix p m c cc nL s args Ts own) (G : gS D aC A s ids ad π H locs) (f : Nat) {i j : Nat} {x y z : Int32} (hV : (f, i) ∈ ids) (hkd : gm_k f = 1) (ht : (gTy aC)[gm_c f]? = some (aC (gm_c f), .boolean)) (hx : x = nI j) (hj : j < gm_n f) (hz : vp_nar .boolean y = z) (hdg : decode cc pc = .ok (.bastore, 1))
    (kk : ∀ (H1 : Heap) (locs1 : List Loc), gS D aC A s ids ad (upd3 π f i j z) H1 locs1 → W p l e R s m args below meth c H1 locs1 cells slots Q (F0 m (pc + 1) ls rest)) : W p l e R s m args below meth c H locs cells slots Q (F0 m pc ls (.int y :: .int x :: .ref (ad f i) :: rest)) := by
  obtain ⟨q0, h1, h2⟩ := gW_get (aC := aC) (ad := ad) (π := π) hV
  rw [gm_e_row hkd] at h2
  obtain ⟨g1, g2⟩ := g_in hx hj (gm_n_lt f (by omega))
  refine va_zast S.1 S.2.1 G.2.2.1 G.1 G.2.1 G.2.2.2.1 q0 (gm_c f) h2 ht g1 hdg (fun H1 locs1 hP hD hS => kk H1 locs1 ?_)
  rw [g2, hz, ← gm_e_rowset hkd, gW_set G.2.1 h1 (fun g j h => upd3_far h)] at hP hD
  exact ⟨hP, hD, G.2.2.1, hS, G.2.2.2.2⟩
theorem g_bast {π : gMem} (S : CallFix p m c cc nL s args Ts own) (G : gS D aC A s ids ad π H locs) (f : Nat) {i j : Nat} {x y z : Int32} (hV : (f, i) ∈ ids) (hkd : gm_k f = 1) (ht : (gTy aC)[gm_c f]? = some (aC (gm_c f), .byte)) (hx : x = nI j) (hj : j < gm_n f) (hz : vp_nar .byte y = z) (hdg : decode cc pc = .ok (.bastore, 1))
    (kk : ∀ (H1 : Heap) (locs1 : List Loc), gS D aC A s ids ad (upd3 π f i j z) H1 locs1 → W p l e R s m args below meth c H1 locs1 cells slots Q (F0 m (pc + 1) ls rest)) : W p l e R s m args below meth c H locs cells slots Q (F0 m pc ls (.int y :: .int x :: .ref (ad f i) :: rest)) := by
  obtain ⟨q0, h1, h2⟩ := gW_get (aC := aC) (ad := ad) (π := π) hV
  rw [gm_e_row hkd] at h2
  obtain ⟨g1, g2⟩ := g_in hx hj (gm_n_lt f (by omega))
  refine va_bast S.1 S.2.1 G.2.2.1 G.1 G.2.1 G.2.2.2.1 q0 (gm_c f) h2 ht g1 hdg (fun H1 locs1 hP hD hS => kk H1 locs1 ?_)
  rw [g2, hz, ← gm_e_rowset hkd, gW_set G.2.1 h1 (fun g j h => upd3_far h)] at hP hD
  exact ⟨hP, hD, G.2.2.1, hS, G.2.2.2.2⟩
theorem k_zast (S : CallFix p m c cc nL s args Ts own) (G : gS D aC A s ids ad (gk κ) H locs) (f : Nat) {i j : Nat} {x y z : Int32} (hV : (f, i) ∈ ids) (hkd : gm_k f = 1) (ht : (gTy aC)[gm_c f]? = some (aC (gm_c f), .boolean)) (hO : gOwn f i j = none) (hx : x = nI j) (hj : j < gm_n f) (hz : vp_nar .boolean y = z) (hdg : decode cc pc = .ok (.bastore, 1))
    (kk : ∀ (H1 : Heap) (locs1 : List Loc), gS D aC A s ids ad (gk (upd3 κ f i j z)) H1 locs1 → W p l e R s m args below meth c H1 locs1 cells slots Q (F0 m (pc + 1) ls rest)) : W p l e R s m args below meth c H locs cells slots Q (F0 m pc ls (.int y :: .int x :: .ref (ad f i) :: rest)) :=
  g_zast S G f hV hkd ht hx hj hz hdg (fun H1 locs1 G1 => kk H1 locs1 (gk_S hO G1))
theorem k_aast (S : CallFix p m c cc nL s args Ts own) (G : gS D aC A s ids ad (gk κ) H locs) (f g : Nat) {i j y : Nat} {x : Int32} (hV : (f, i) ∈ ids) (hVg : (g, y) ∈ ids) (hg : g < 8) (hy : y < 2 ^ 31) (hT : gm_t f 0 - 1 = g) (hkd : gm_k f = 2) (ht : (gTy aC)[gm_c f]? = some (aC (gm_c f), .object (gCl g).1)) (hO : gOwn f i j = none) (hx : x = nI j) (hj : j < gm_n f) (hdg : decode cc pc = .ok (.aastore, 1))
    (kk : ∀ (H1 : Heap) (locs1 : List Loc), gS D aC A s ids ad (gk (upd3 κ f i j (nI y))) H1 locs1 → W p l e R s m args below meth c H1 locs1 cells slots Q (F0 m (pc + 1) ls rest)) : W p l e R s m args below meth c H locs cells slots Q (F0 m pc ls (.ref (ad g y) :: .int x :: .ref (ad f i) :: rest)) :=
  g_aast S G f g hV hVg hg hy hT hkd ht hx hj hdg (fun H1 locs1 G1 => kk H1 locs1 (gk_S hO G1))
theorem k_aastN (S : CallFix p m c cc nL s args Ts own) (G : gS D aC A s ids ad (gk κ) H locs) (f : Nat) {C : String} {i j : Nat} {x : Int32} (hV : (f, i) ∈ ids) (hkd : gm_k f = 2) (ht : (gTy aC)[gm_c f]? = some (aC (gm_c f), .object C)) (hO : gOwn f i j = none) (hx : x = nI j) (hj : j < gm_n f) (hdg : decode cc pc = .ok (.aastore, 1))
    (kk : ∀ (H1 : Heap) (locs1 : List Loc), gS D aC A s ids ad (gk (upd3 κ f i j (-1))) H1 locs1 → W p l e R s m args below meth c H1 locs1 cells slots Q (F0 m (pc + 1) ls rest)) : W p l e R s m args below meth c H locs cells slots Q (F0 m pc ls (.null :: .int x :: .ref (ad f i) :: rest)) :=
  g_aastN S G f hV hkd ht hx hj hdg (fun H1 locs1 G1 => kk H1 locs1 (gk_S hO G1))
end KR
