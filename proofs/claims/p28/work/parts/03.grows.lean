/-! ===== one row an instruction, over the memory ===== -/
theorem gCl_at : ∀ f, f < 8 → vwCl[f]? = some ((gCl f).1, (gCl f).2.1, (gCl f).2.2)
  | 0, _ => rfl
  | 1, _ => rfl
  | 2, _ => rfl
  | 3, _ => rfl
  | 4, _ => rfl
  | 5, _ => rfl
  | 6, _ => rfl
  | 7, _ => rfl
  | n + 8, h => absurd h (by omega)
theorem gm_n_obj {f : Nat} (hf : f < 8) : gm_n f = (gCl f).2.2 := by simp only [gm_n, if_pos (show f < 10 by omega)]
theorem gCl_ty : ∀ f, f < 8 → ∃ ty0 : Nat → FieldType, ∀ k, k < (gCl f).2.2 → parseFieldDescriptor ((gCl f).2.1 k).2.2.1 = some (ty0 k)
  | 0, _ => ⟨tyJ4, tyJ4_ok⟩
  | 1, _ => ⟨tyX0, tyX0_ok⟩
  | 2, _ => ⟨tyX1, tyX1_ok⟩
  | 3, _ => ⟨tyX2, tyX2_ok⟩
  | 4, _ => ⟨tyX3, tyX3_ok⟩
  | 5, _ => ⟨tyX4, tyX4_ok⟩
  | 6, _ => ⟨tyX5, tyX5_ok⟩
  | 7, _ => ⟨tyX6, tyX6_ok⟩
  | n + 8, h => absurd h (by omega)
theorem gCl_nm : ∀ f, f < 8 → ∀ a, a < (gCl f).2.2 → ∀ b, b < (gCl f).2.2 → a ≠ b → ((gCl f).2.1 a).2.1 ≠ ((gCl f).2.1 b).2.1
  | 0, _ => nmJ4
  | 1, _ => nmX0
  | 2, _ => nmX1
  | 3, _ => nmX2
  | 4, _ => nmX3
  | 5, _ => nmX4
  | 6, _ => nmX5
  | 7, _ => nmX6
  | n + 8, h => absurd h (by omega)
section GR
variable {p : Program} {l : Launch} {e : Env} {R : Room} {s : State} {m : MethodId} {args : Array Value} {below : List Frame} {meth : Method} {c : Code} {H : Heap} {locs : List Loc} {cells slots : Nat} {Q : State → Prop}
variable {cc : ByteArray} {pc nL : Nat} {ls : Array Slot} {rest : List Value} {Ts : List Cond} {own : String}
variable {D : va_G} {aC : Nat → ClassId} {A : Nat → Prop} {ids : gIds} {ad : gAd} {π : gMem}
theorem g_get (S : CallFix p m c cc nL s args Ts own) (G : gS D aC A s ids ad π H locs) (f k : Nat) {i index : Nat} (hV : (f, i) ∈ ids) (hf : f < 8) (hk : k < (gCl f).2.2) (hin : ∀ w ∈ u_ws (gCl f).1 (gCl f).2.1 (gCl f).2.2, w ∈ Ts)
    (hlink : (Cond.fieldLink own index ((gCl f).2.1 k).1 ((gCl f).2.1 k).2.1 ((gCl f).2.1 k).2.2.1).before args s = true) {v : Value} (hv : gm_v ad π f i k = v) (hdg : decode cc pc = .ok (.getfield index, 3))
    (kk : W p l e R s m args below meth c H locs cells slots Q (F0 m (pc + 3) ls (v :: rest))) : W p l e R s m args below meth c H locs cells slots Q (F0 m pc ls (.ref (ad f i) :: rest)) := by
  obtain ⟨q0, h1, h2⟩ := gW_get (aC := aC) (ad := ad) (π := π) hV
  rw [gm_e_obj hf, gm_n_obj hf] at h2
  exact va_get S.1 S.2.1 S.2.2.2.2 hin S.2.2.2.1 G.2.2.1 G.1 q0 h2 (gCl_at f hf) k hk hlink (fun _ h => h) (by simp [hk, hv]) hdg kk
theorem g_getN (S : CallFix p m c cc nL s args Ts own) (G : gS D aC A s ids ad π H locs) (f k : Nat) {i index : Nat} {host : String} (hV : (f, i) ∈ ids) (hf : f < 8) (hk : k < (gCl f).2.2) (hin : ∀ w ∈ u_ws (gCl f).1 (gCl f).2.1 (gCl f).2.2, w ∈ Ts)
    (hlink : va_Nw (.fieldLinkNest own index ((gCl f).2.1 k).1 ((gCl f).2.1 k).2.1 ((gCl f).2.1 k).2.2.1 host) s) {v : Value} (hv : gm_v ad π f i k = v) (hdg : decode cc pc = .ok (.getfield index, 3))
    (kk : W p l e R s m args below meth c H locs cells slots Q (F0 m (pc + 3) ls (v :: rest))) : W p l e R s m args below meth c H locs cells slots Q (F0 m pc ls (.ref (ad f i) :: rest)) := by
  obtain ⟨q0, h1, h2⟩ := gW_get (aC := aC) (ad := ad) (π := π) hV
  rw [gm_e_obj hf, gm_n_obj hf] at h2
  exact va_getN S.1 S.2.1 S.2.2.2.2 hin S.2.2.2.1 G.2.2.1 G.1 q0 h2 (gCl_at f hf) k hk (va_Nw.use rfl hlink) (fun _ h => h) (by simp [hk, hv]) hdg kk
theorem gv_i {f i k : Nat} (hT : gm_t f k = 0) : gm_v ad π f i k = .int (π f i k) := by simp only [gm_v, hT, gm_w]
theorem gv_r {f i k g j : Nat} (hT : gm_t f k = g + 1) (hr : π f i k = nI j) (hj : j < 2 ^ 31) : gm_v ad π f i k = .ref (ad g j) := by simp only [gm_v, hT, gm_w, hr, gm_r_nI hj, va_rf]
theorem gv_n {f i k g : Nat} (hT : gm_t f k = g + 1) (hr : π f i k < 0) : gm_v ad π f i k = .null := by simp only [gm_v, hT, gm_w, gm_r_neg hr, va_rf]
theorem gw_r {t g j : Nat} (hT : t = g + 1) (hj : j < 2 ^ 31) : gm_w ad t (nI j) = .ref (ad g j) := by simp only [hT, gm_w, gm_r_nI hj, va_rf]
theorem gw_n {t g : Nat} (hT : t = g + 1) : gm_w ad t (-1) = .null := by
  simp only [hT, gm_w, gm_r_neg (show (-1 : Int32) < 0 by decide), va_rf]
theorem gw_i {t : Nat} {x : Int32} (hT : t = 0) : gm_w ad t x = .int x := by simp only [hT, gm_w]
theorem g_put (S : CallFix p m c cc nL s args Ts own) (G : gS D aC A s ids ad π H locs) (f k : Nat) {i index : Nat} {x : Int32} (hV : (f, i) ∈ ids) (hf : f < 8) (hk : k < (gCl f).2.2) (hin : ∀ w ∈ u_ws (gCl f).1 (gCl f).2.1 (gCl f).2.2, w ∈ Ts)
    (hlink : (Cond.fieldLink own index ((gCl f).2.1 k).1 ((gCl f).2.1 k).2.1 ((gCl f).2.1 k).2.2.1).before args s = true) (hfin : ((gCl f).2.1 k).2.2.2 = false) {ty : FieldType} {v : Value} (hd : parseFieldDescriptor ((gCl f).2.1 k).2.2.1 = some ty) (hn : narrow ty v = v) (hfit : fits ty v = true) (hv : gm_w ad (gm_t f k) x = v) (hdg : decode cc pc = .ok (.putfield index, 3))
    (kk : ∀ (H1 : Heap) (locs1 : List Loc), gS D aC A s ids ad (upd3 π f i k x) H1 locs1 → W p l e R s m args below meth c H1 locs1 cells slots Q (F0 m (pc + 3) ls rest)) : W p l e R s m args below meth c H locs cells slots Q (F0 m pc ls (v :: .ref (ad f i) :: rest)) := by
  obtain ⟨q0, h1, h2⟩ := gW_get (aC := aC) (ad := ad) (π := π) hV
  rw [gm_e_obj hf, gm_n_obj hf] at h2
  obtain ⟨ty0, hty⟩ := gCl_ty f hf
  refine va_put S.1 S.2.1 S.2.2.2.2 hin ty0 hty (gCl_nm f hf) S.2.2.2.1 G.2.2.1 G.1 G.2.1 G.2.2.2.1 q0 h2 (gCl_at f hf) k hk hlink (fun _ h => h) hfin hd hn hfit (by simpa using hk) hdg (fun H1 locs1 hP hD hS => kk H1 locs1 ?_)
  have e1 := gm_e_objset (aC := aC) (ad := ad) (π := π) (i := i) (k := k) (x := x) hf
  rw [hv, gm_n_obj hf] at e1
  rw [← e1, gW_set G.2.1 h1 (fun g j h => upd3_far h)] at hP hD
  exact ⟨hP, hD, G.2.2.1, hS, G.2.2.2.2⟩
theorem g_putN (S : CallFix p m c cc nL s args Ts own) (G : gS D aC A s ids ad π H locs) (f k : Nat) {i index : Nat} {host : String} {x : Int32} (hV : (f, i) ∈ ids) (hf : f < 8) (hk : k < (gCl f).2.2) (hin : ∀ w ∈ u_ws (gCl f).1 (gCl f).2.1 (gCl f).2.2, w ∈ Ts)
    (hlink : va_Nw (.fieldLinkNest own index ((gCl f).2.1 k).1 ((gCl f).2.1 k).2.1 ((gCl f).2.1 k).2.2.1 host) s) (hfin : ((gCl f).2.1 k).2.2.2 = false) {ty : FieldType} {v : Value} (hd : parseFieldDescriptor ((gCl f).2.1 k).2.2.1 = some ty) (hn : narrow ty v = v) (hfit : fits ty v = true) (hv : gm_w ad (gm_t f k) x = v) (hdg : decode cc pc = .ok (.putfield index, 3))
    (kk : ∀ (H1 : Heap) (locs1 : List Loc), gS D aC A s ids ad (upd3 π f i k x) H1 locs1 → W p l e R s m args below meth c H1 locs1 cells slots Q (F0 m (pc + 3) ls rest)) : W p l e R s m args below meth c H locs cells slots Q (F0 m pc ls (v :: .ref (ad f i) :: rest)) := by
  obtain ⟨q0, h1, h2⟩ := gW_get (aC := aC) (ad := ad) (π := π) hV
  rw [gm_e_obj hf, gm_n_obj hf] at h2
  obtain ⟨ty0, hty⟩ := gCl_ty f hf
  refine va_putN S.1 S.2.1 S.2.2.2.2 hin ty0 hty (gCl_nm f hf) S.2.2.2.1 G.2.2.1 G.1 G.2.1 G.2.2.2.1 q0 h2 (gCl_at f hf) k hk (va_Nw.use rfl hlink) (fun _ h => h) hfin hd hn hfit (by simpa using hk) hdg (fun H1 locs1 hP hD hS => kk H1 locs1 ?_)
  have e1 := gm_e_objset (aC := aC) (ad := ad) (π := π) (i := i) (k := k) (x := x) hf
  rw [hv, gm_n_obj hf] at e1
  rw [← e1, gW_set G.2.1 h1 (fun g j h => upd3_far h)] at hP hD
  exact ⟨hP, hD, G.2.2.1, hS, G.2.2.2.2⟩
theorem g_putF (S : CallFix p m c cc nL s args Ts own) (hinit : meth.name = "<init>") (G : gS D aC A s ids ad π H locs) (f k : Nat) {i index : Nat} {x : Int32} (hV : (f, i) ∈ ids) (hf : f < 8) (hk : k < (gCl f).2.2) (hin : ∀ w ∈ u_ws (gCl f).1 (gCl f).2.1 (gCl f).2.2, w ∈ Ts)
    (hlink : (Cond.fieldLink own index ((gCl f).2.1 k).1 ((gCl f).2.1 k).2.1 ((gCl f).2.1 k).2.2.1).before args s = true) (hfin : ((gCl f).2.1 k).2.2.2 = true) (hdecl : ((gCl f).2.1 k).1 = own) {ty : FieldType} {v : Value} (hd : parseFieldDescriptor ((gCl f).2.1 k).2.2.1 = some ty) (hn : narrow ty v = v) (hfit : fits ty v = true) (hv : gm_w ad (gm_t f k) x = v) (hdg : decode cc pc = .ok (.putfield index, 3))
    (kk : ∀ (H1 : Heap) (locs1 : List Loc), gS D aC A s ids ad (upd3 π f i k x) H1 locs1 → W p l e R s m args below meth c H1 locs1 cells slots Q (F0 m (pc + 3) ls rest)) : W p l e R s m args below meth c H locs cells slots Q (F0 m pc ls (v :: .ref (ad f i) :: rest)) := by
  obtain ⟨q0, h1, h2⟩ := gW_get (aC := aC) (ad := ad) (π := π) hV
  rw [gm_e_obj hf, gm_n_obj hf] at h2
  obtain ⟨ty0, hty⟩ := gCl_ty f hf
  refine va_putF S.1 S.2.1 S.2.2.2.2 hin ty0 hty (gCl_nm f hf) S.2.2.2.1 G.2.2.1 G.1 G.2.1 G.2.2.2.1 q0 h2 (gCl_at f hf) k hk hlink (fun _ h => h) hfin hinit hdecl hd hn hfit (by simpa using hk) hdg (fun H1 locs1 hP hD hS => kk H1 locs1 ?_)
  have e1 := gm_e_objset (aC := aC) (ad := ad) (π := π) (i := i) (k := k) (x := x) hf
  rw [hv, gm_n_obj hf] at e1
  rw [← e1, gW_set G.2.1 h1 (fun g j h => upd3_far h)] at hP hD
  exact ⟨hP, hD, G.2.2.1, hS, G.2.2.2.2⟩
/-! rows of numbers -/
theorem g_in {x : Int32} {j n : Nat} (hx : x = nI j) (hj : j < n) (hn : n < 2 ^ 31) : vp_in x n ∧ x.toNatClampNeg = j := by
  subst hx
  exact ⟨vp_in_nI hj hn, nI_clamp (by omega)⟩
theorem gi_le {q : Prop} [Decidable q] {a b n : Nat} (ha : a ≤ n) (hb : b ≤ n) : (if q then a else b) ≤ n := by
  by_cases h : q
  · rw [if_pos h]; exact ha
  · rw [if_neg h]; exact hb
theorem gm_n_lt (f : Nat) (hf : gm_k f ≠ 0) : gm_n f < 2 ^ 31 := by
  have h : ¬ f < 10 := fun z => hf (by simp only [gm_k, if_pos z])
  have h2 : gm_n f ≤ 960 := by
    simp only [gm_n, if_neg h]
    repeat (refine gi_le (by decide) ?_)
    decide
  exact Nat.lt_of_le_of_lt h2 (by decide)
theorem g_iald (S : CallFix p m c cc nL s args Ts own) (G : gS D aC A s ids ad π H locs) (f : Nat) {i j : Nat} {x : Int32} (hV : (f, i) ∈ ids) (hkd : gm_k f = 1) (ht : (gTy aC)[gm_c f]? = some (aC (gm_c f), .int)) (hx : x = nI j) (hj : j < gm_n f) (hdg : decode cc pc = .ok (.iaload, 1))
    (kk : W p l e R s m args below meth c H locs cells slots Q (F0 m (pc + 1) ls (.int (π f i j) :: rest))) : W p l e R s m args below meth c H locs cells slots Q (F0 m pc ls (.int x :: .ref (ad f i) :: rest)) := by
  obtain ⟨q0, h1, h2⟩ := gW_get (aC := aC) (ad := ad) (π := π) hV
  rw [gm_e_row hkd] at h2
  obtain ⟨g1, g2⟩ := g_in hx hj (gm_n_lt f (by omega))
  refine va_iald S.1 S.2.1 G.2.2.1 G.1 q0 (gm_c f) h2 ht g1 hdg ?_
  rw [g2]; exact kk
theorem g_zald (S : CallFix p m c cc nL s args Ts own) (G : gS D aC A s ids ad π H locs) (f : Nat) {i j : Nat} {x : Int32} (hV : (f, i) ∈ ids) (hkd : gm_k f = 1) (ht : (gTy aC)[gm_c f]? = some (aC (gm_c f), .boolean)) (hx : x = nI j) (hj : j < gm_n f) (hdg : decode cc pc = .ok (.baload, 1))
    (kk : W p l e R s m args below meth c H locs cells slots Q (F0 m (pc + 1) ls (.int (π f i j) :: rest))) : W p l e R s m args below meth c H locs cells slots Q (F0 m pc ls (.int x :: .ref (ad f i) :: rest)) := by
  obtain ⟨q0, h1, h2⟩ := gW_get (aC := aC) (ad := ad) (π := π) hV
  rw [gm_e_row hkd] at h2
  obtain ⟨g1, g2⟩ := g_in hx hj (gm_n_lt f (by omega))
  refine va_zald S.1 S.2.1 G.2.2.1 G.1 q0 (gm_c f) h2 ht g1 hdg ?_
  rw [g2]; exact kk
theorem g_bald (S : CallFix p m c cc nL s args Ts own) (G : gS D aC A s ids ad π H locs) (f : Nat) {i j : Nat} {x : Int32} (hV : (f, i) ∈ ids) (hkd : gm_k f = 1) (ht : (gTy aC)[gm_c f]? = some (aC (gm_c f), .byte)) (hx : x = nI j) (hj : j < gm_n f) (hdg : decode cc pc = .ok (.baload, 1))
    (kk : W p l e R s m args below meth c H locs cells slots Q (F0 m (pc + 1) ls (.int (π f i j) :: rest))) : W p l e R s m args below meth c H locs cells slots Q (F0 m pc ls (.int x :: .ref (ad f i) :: rest)) := by
  obtain ⟨q0, h1, h2⟩ := gW_get (aC := aC) (ad := ad) (π := π) hV
  rw [gm_e_row hkd] at h2
  obtain ⟨g1, g2⟩ := g_in hx hj (gm_n_lt f (by omega))
  refine va_bald S.1 S.2.1 G.2.2.1 G.1 q0 (gm_c f) h2 ht g1 hdg ?_
  rw [g2]; exact kk
theorem g_lald (S : CallFix p m c cc nL s args Ts own) (G : gS D aC A s ids ad π H locs) (f : Nat) {i j : Nat} {x : Int32} (hV : (f, i) ∈ ids) (hkd : gm_k f = 3) (ht : (gTy aC)[gm_c f]? = some (aC (gm_c f), .long)) (hx : x = nI j) (hj : j < gm_n f) (hdg : decode cc pc = .ok (.laload, 1))
    (kk : W p l e R s m args below meth c H locs cells slots Q (F0 m (pc + 1) ls (.long (π f i j).toInt64 :: rest))) : W p l e R s m args below meth c H locs cells slots Q (F0 m pc ls (.int x :: .ref (ad f i) :: rest)) := by
  obtain ⟨q0, h1, h2⟩ := gW_get (aC := aC) (ad := ad) (π := π) hV
  rw [gm_e_rowl hkd] at h2
  obtain ⟨g1, g2⟩ := g_in hx hj (gm_n_lt f (by omega))
  refine va_lald S.1 S.2.1 G.2.2.1 G.1 q0 (gm_c f) h2 ht g1 hdg ?_
  rw [g2]; exact kk
theorem gm_e_rowset {f i j : Nat} {x : Int32} (hkd : gm_k f = 1) : gm_e aC ad (upd3 π f i j x) f i = .inl (aC (gm_c f), gm_n f, .inl (upd (π f i) j x)) := by
  rw [gm_e_row hkd, upd3_row]
theorem gm_e_rowsetq {f i j : Nat} {x : Int32} (hkd : gm_k f = 2) : gm_e aC ad (upd3 π f i j x) f i = .inl (aC (gm_c f), gm_n f, .inr (.inr (.inr (.inr (va_up (fun k => gm_r ad (gm_t f 0 - 1) (π f i k)) j (gm_r ad (gm_t f 0 - 1) x)))))) := by
  have e : (fun k => gm_r ad (gm_t f 0 - 1) (upd3 π f i j x f i k)) = va_up (fun k => gm_r ad (gm_t f 0 - 1) (π f i k)) j (gm_r ad (gm_t f 0 - 1) x) := by
    funext k
    by_cases h : k = j
    · subst h; rw [upd3_s, va_up_self]
    · rw [va_up_ne _ _ h, upd3_n (show ¬ (f = f ∧ i = i ∧ k = j) from fun z => h z.2.2)]
  rw [gm_e_rowq hkd, e]
theorem gm_e_rowsetl {f i j : Nat} {x : Int32} (hkd : gm_k f = 3) : gm_e aC ad (upd3 π f i j x) f i = .inl (aC (gm_c f), gm_n f, .inr (.inl (vp_updL (fun k => (π f i k).toInt64) j x.toInt64))) := by
  have e : (fun k => (upd3 π f i j x f i k).toInt64) = vp_updL (fun k => (π f i k).toInt64) j x.toInt64 := by
    funext k
    by_cases h : k = j
    · subst h; rw [upd3_s, pk_uLs]
    · rw [pk_uLn h, upd3_n (show ¬ (f = f ∧ i = i ∧ k = j) from fun z => h z.2.2)]
  rw [gm_e_rowl hkd, e]
theorem g_iast (S : CallFix p m c cc nL s args Ts own) (G : gS D aC A s ids ad π H locs) (f : Nat) {i j : Nat} {x y : Int32} (hV : (f, i) ∈ ids) (hkd : gm_k f = 1) (ht : (gTy aC)[gm_c f]? = some (aC (gm_c f), .int)) (hx : x = nI j) (hj : j < gm_n f) (hdg : decode cc pc = .ok (.iastore, 1))
    (kk : ∀ (H1 : Heap) (locs1 : List Loc), gS D aC A s ids ad (upd3 π f i j y) H1 locs1 → W p l e R s m args below meth c H1 locs1 cells slots Q (F0 m (pc + 1) ls rest)) : W p l e R s m args below meth c H locs cells slots Q (F0 m pc ls (.int y :: .int x :: .ref (ad f i) :: rest)) := by
  obtain ⟨q0, h1, h2⟩ := gW_get (aC := aC) (ad := ad) (π := π) hV
  rw [gm_e_row hkd] at h2
  obtain ⟨g1, g2⟩ := g_in hx hj (gm_n_lt f (by omega))
  refine va_iast S.1 S.2.1 G.2.2.1 G.1 G.2.1 G.2.2.2.1 q0 (gm_c f) h2 ht g1 hdg (fun H1 locs1 hP hD hS => kk H1 locs1 ?_)
  rw [g2, ← gm_e_rowset hkd, gW_set G.2.1 h1 (fun g j h => upd3_far h)] at hP hD
  exact ⟨hP, hD, G.2.2.1, hS, G.2.2.2.2⟩
theorem g_last (S : CallFix p m c cc nL s args Ts own) (G : gS D aC A s ids ad π H locs) (f : Nat) {i j : Nat} {x y : Int32} (hV : (f, i) ∈ ids) (hkd : gm_k f = 3) (ht : (gTy aC)[gm_c f]? = some (aC (gm_c f), .long)) (hx : x = nI j) (hj : j < gm_n f) (hdg : decode cc pc = .ok (.lastore, 1))
    (kk : ∀ (H1 : Heap) (locs1 : List Loc), gS D aC A s ids ad (upd3 π f i j y) H1 locs1 → W p l e R s m args below meth c H1 locs1 cells slots Q (F0 m (pc + 1) ls rest)) : W p l e R s m args below meth c H locs cells slots Q (F0 m pc ls (.long y.toInt64 :: .int x :: .ref (ad f i) :: rest)) := by
  obtain ⟨q0, h1, h2⟩ := gW_get (aC := aC) (ad := ad) (π := π) hV
  rw [gm_e_rowl hkd] at h2
  obtain ⟨g1, g2⟩ := g_in hx hj (gm_n_lt f (by omega))
  refine va_last S.1 S.2.1 G.2.2.1 G.1 G.2.1 G.2.2.2.1 q0 (gm_c f) h2 ht g1 hdg (fun H1 locs1 hP hD hS => kk H1 locs1 ?_)
  rw [g2, ← gm_e_rowsetl hkd, gW_set G.2.1 h1 (fun g j h => upd3_far h)] at hP hD
  exact ⟨hP, hD, G.2.2.1, hS, G.2.2.2.2⟩
/-! rows of references -/
theorem g_aald (S : CallFix p m c cc nL s args Ts own) (G : gS D aC A s ids ad π H locs) (f : Nat) {C : String} {i j : Nat} {x : Int32} {v : Value} (hV : (f, i) ∈ ids) (hkd : gm_k f = 2) (ht : (gTy aC)[gm_c f]? = some (aC (gm_c f), .object C)) (hx : x = nI j) (hj : j < gm_n f) (hv : va_rf (gm_r ad (gm_t f 0 - 1) (π f i j)) = v) (hdg : decode cc pc = .ok (.aaload, 1))
    (kk : W p l e R s m args below meth c H locs cells slots Q (F0 m (pc + 1) ls (v :: rest))) : W p l e R s m args below meth c H locs cells slots Q (F0 m pc ls (.int x :: .ref (ad f i) :: rest)) := by
  obtain ⟨q0, h1, h2⟩ := gW_get (aC := aC) (ad := ad) (π := π) hV
  rw [gm_e_rowq hkd] at h2
  obtain ⟨g1, g2⟩ := g_in hx hj (gm_n_lt f (by omega))
  refine va_aldq S.1 S.2.1 G.2.2.1 G.1 q0 (gm_c f) h2 ht g1 hdg ?_
  rw [g2, hv]; exact kk
theorem gq_r {f i k g j : Nat} (hT : gm_t f 0 - 1 = g) (hr : π f i k = nI j) (hj : j < 2 ^ 31) : va_rf (gm_r ad (gm_t f 0 - 1) (π f i k)) = .ref (ad g j) := by rw [hT, hr, gm_r_nI hj]; rfl
theorem gq_n {f i k : Nat} (hr : π f i k < 0) : va_rf (gm_r ad (gm_t f 0 - 1) (π f i k)) = .null := by rw [gm_r_neg hr]; rfl
theorem g_aast (S : CallFix p m c cc nL s args Ts own) (G : gS D aC A s ids ad π H locs) (f g : Nat) {i j y : Nat} {x : Int32} (hV : (f, i) ∈ ids) (hVg : (g, y) ∈ ids) (hg : g < 8) (hy : y < 2 ^ 31) (hT : gm_t f 0 - 1 = g) (hkd : gm_k f = 2) (ht : (gTy aC)[gm_c f]? = some (aC (gm_c f), .object (gCl g).1)) (hx : x = nI j) (hj : j < gm_n f) (hdg : decode cc pc = .ok (.aastore, 1))
    (kk : ∀ (H1 : Heap) (locs1 : List Loc), gS D aC A s ids ad (upd3 π f i j (nI y)) H1 locs1 → W p l e R s m args below meth c H1 locs1 cells slots Q (F0 m (pc + 1) ls rest)) : W p l e R s m args below meth c H locs cells slots Q (F0 m pc ls (.ref (ad g y) :: .int x :: .ref (ad f i) :: rest)) := by
  obtain ⟨q0, h1, h2⟩ := gW_get (aC := aC) (ad := ad) (π := π) hV
  obtain ⟨q1, h3, h4⟩ := gW_get (aC := aC) (ad := ad) (π := π) hVg
  rw [gm_e_rowq hkd] at h2
  rw [gm_e_obj hg] at h4
  obtain ⟨g1, g2⟩ := g_in hx hj (gm_n_lt f (by omega))
  refine va_astq S.1 S.2.1 G.2.2.1 G.1 G.2.1 G.2.2.2.1 q0 (gm_c f) q1 g h2 ht h4 (gCl_at g hg) g1 hdg (fun H1 locs1 hP hD hS => kk H1 locs1 ?_)
  have e2 : some (ad g y) = gm_r ad (gm_t f 0 - 1) (nI y) := by rw [hT, gm_r_nI hy]
  rw [g2, e2, ← gm_e_rowsetq hkd, gW_set G.2.1 h1 (fun g j h => upd3_far h)] at hP hD
  exact ⟨hP, hD, G.2.2.1, hS, G.2.2.2.2⟩
theorem g_aastN (S : CallFix p m c cc nL s args Ts own) (G : gS D aC A s ids ad π H locs) (f : Nat) {C : String} {i j : Nat} {x : Int32} (hV : (f, i) ∈ ids) (hkd : gm_k f = 2) (ht : (gTy aC)[gm_c f]? = some (aC (gm_c f), .object C)) (hx : x = nI j) (hj : j < gm_n f) (hdg : decode cc pc = .ok (.aastore, 1))
    (kk : ∀ (H1 : Heap) (locs1 : List Loc), gS D aC A s ids ad (upd3 π f i j (-1)) H1 locs1 → W p l e R s m args below meth c H1 locs1 cells slots Q (F0 m (pc + 1) ls rest)) : W p l e R s m args below meth c H locs cells slots Q (F0 m pc ls (.null :: .int x :: .ref (ad f i) :: rest)) := by
  obtain ⟨q0, h1, h2⟩ := gW_get (aC := aC) (ad := ad) (π := π) hV
  rw [gm_e_rowq hkd] at h2
  obtain ⟨g1, g2⟩ := g_in hx hj (gm_n_lt f (by omega))
  refine va_astqN S.1 S.2.1 G.2.2.1 G.1 G.2.1 G.2.2.2.1 q0 (gm_c f) h2 ht g1 hdg (fun H1 locs1 hP hD hS => kk H1 locs1 ?_)
  have e2 : (none : Option Nat) = gm_r ad (gm_t f 0 - 1) (-1) := (gm_r_neg (by decide)).symm
  rw [g2, e2, ← gm_e_rowsetq hkd, gW_set G.2.1 h1 (fun g j h => upd3_far h)] at hP hD
  exact ⟨hP, hD, G.2.2.1, hS, G.2.2.2.2⟩
end GR
