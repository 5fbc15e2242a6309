/-! what the class's well formedness speaks of stays the same -/
def cSame (κ κ' : gMem) : Prop := ∀ f i k, cTouch f k = true → κ' f i k = κ f i k
theorem cSame.rf {κ : gMem} : cSame κ κ := fun _ _ _ _ => rfl
theorem cSame.tr {κ κ1 κ2 : gMem} (h1 : cSame κ κ1) (h2 : cSame κ1 κ2) : cSame κ κ2 := fun f i k h => (h2 f i k h).trans (h1 f i k h)
theorem cSame.upd {κ : gMem} {f i k : Nat} {x : Int32} (ht : cTouch f k = false) : cSame κ (upd3 κ f i k x) := fun g j l hg => upd3_n (fun z => by rw [z.1, z.2.2, ht] at hg; cases hg)
theorem cSame.it {F : Nat → gMem → gMem} (h : ∀ k κ, cSame κ (F k κ)) (n : Nat) (κ : gMem) : cSame κ (gIt F n κ) := by
  induction n with
  | zero => exact cSame.rf
  | succ n ih => exact ih.tr (h n _)
theorem cWF.to {ids : gIds} {κ κ' : gMem} (h : cWF ids κ) (hs : cSame κ κ') : cWF ids κ' := h.of hs
theorem cSame.cnt {κ κ' : gMem} (h : cSame κ κ') : κ' 7 0 4 = κ 7 0 4 := h 7 0 4 rfl
theorem cCh.to {ids : gIds} {κ κ' : gMem} {r : Nat} (h : cCh ids κ r) (hs : cSame κ κ') : cCh ids κ' r := by
  obtain ⟨h1, h2, h3, h4⟩ := h
  exact ⟨h1, h2, by rw [hs 2 r 0 rfl]; exact h3, by rw [hs 2 r 2 rfl]; exact h4⟩
theorem cRd.to {ids : gIds} {κ κ' : gMem} {r : Nat} (h : cRd ids κ r) (hs : cSame κ κ') : cRd ids κ' r := by
  obtain ⟨h1, h2, h3, h4, h5⟩ := h
  refine ⟨by rw [hs 13 0 r rfl]; exact h1, h2, h3, by rw [hs 3 r 0 rfl]; exact h4, ?_⟩
  rw [hs 3 r 9 rfl]
  exact h5.imp id (fun z => ⟨z.1, z.2.to hs⟩)
theorem sUse_same {r k : Nat} {κ : gMem} : cSame κ (sUse r k κ) := by
  unfold sUse
  split
  · exact cSame.rf
  · exact (((cSame.upd rfl).tr (cSame.upd rfl)).tr (cSame.upd rfl)).tr (cSame.upd rfl)
theorem sUses_same {r : Nat} {κ : gMem} : cSame κ (sUses κ r) := cSame.it (fun _ _ => sUse_same) _ _
theorem sWait_same {r : Nat} {κ : gMem} : cSame κ (sWait κ r) := (cSame.upd rfl).tr (cSame.upd rfl)
theorem sStand_same {r : Nat} {κ : gMem} : cSame κ (sStand κ r) := ((cSame.upd rfl).tr (cSame.upd rfl)).tr (cSame.upd rfl)
theorem sBack1_same {r k : Nat} {κ : gMem} : cSame κ (sBack1 r k κ) := cSame.upd rfl
theorem sBack_same {r : Nat} {κ : gMem} : cSame κ (sBack κ r) := ((cSame.it (fun _ _ => sBack1_same) _ _).tr (cSame.upd rfl)).tr (cSame.upd rfl)
theorem sPay1_same {r k : Nat} {sh : Int32} {κ : gMem} : cSame κ (sPay1 r sh k κ) := by
  unfold sPay1
  split
  · exact cSame.rf
  · exact cSame.upd rfl
theorem sPayK_same {r : Nat} {h : Int32} {κ : gMem} : cSame κ (sPayK κ r h) := by
  unfold sPayK
  split
  · exact cSame.rf
  · exact cSame.it (fun _ _ => sPay1_same) _ _
theorem sShare1_same {r : Nat} {κ : gMem} : cSame κ (sShare1 κ r) := ((cSame.upd rfl).tr (cSame.upd rfl)).tr (cSame.upd rfl)
theorem sShare_same {r : Nat} {κ : gMem} : cSame κ (sShare κ r) := (sShare1_same.tr sPayK_same).tr (cSame.upd rfl)
theorem sJudge_same {r : Nat} {κ : gMem} : cSame κ (sJudge κ r) := by
  unfold sJudge
  split
  · exact (cSame.upd rfl).tr sStand_same
  · exact ((cSame.upd rfl).tr sBack_same).tr sShare_same
theorem sSettle_same {r : Nat} {κ : gMem} : cSame κ (sSettle κ r) := by
  unfold sSettle
  split
  · exact sStand_same
  · exact sJudge_same
theorem sEnd1_same {k : Nat} {e : Int32} {κ : gMem} : cSame κ (sEnd1 e k κ) := by
  unfold sEnd1
  split
  · exact cSame.rf
  · split
    · exact sSettle_same
    · exact cSame.rf
theorem sEnd1_it_same {n : Nat} {e : Int32} {κ : gMem} : cSame κ (gIt (sEnd1 e) n κ) := cSame.it (fun _ _ => sEnd1_same) _ _
theorem sClose1_cnt {b k : Nat} {e : Int32} {κ : gMem} : sClose1 b e k κ 7 0 4 = κ 7 0 4 := by
  unfold sClose1
  split
  · rfl
  · split
    · rfl
    · rfl
theorem sClose_it_cnt {k : Nat} {e : Int32} {κ : gMem} : gIt (fun b => sClose b e) k κ 7 0 4 = κ 7 0 4 := gIt_keep (fun _ _ => gIt_keep (fun _ _ => sClose1_cnt) _ _) _ _
theorem sEnd_cnt {e : Int32} {κ : gMem} : sEnd κ e 7 0 4 = κ 7 0 4 := (sClose_it_cnt).trans (sEnd1_it_same.cnt)
theorem sBack1_it_keep {r n f i k : Nat} {κ : gMem} (h : f ≠ 1) : gIt (sBack1 r) n κ f i k = κ f i k := gIt_keep (fun _ _ => upd3_f h) _ _
theorem sPay1_it_keep {r n f i k : Nat} {sh : Int32} {κ : gMem} (h : f ≠ 1) : gIt (sPay1 r sh) n κ f i k = κ f i k := gIt_keep (fun _ _ => by
  unfold sPay1
  split
  · rfl
  · exact upd3_f h) _ _
theorem sPart_it_keep {s n f i k : Nat} {κ : gMem} (h : f ≠ 4) : gIt (fun _ => sPart s) n κ f i k = κ f i k := gIt_keep (fun _ _ => sGoes_keep _ _ _ _ _ _ (Or.inl h)) _ _
def sSign (x : Int32) : Int32 := if x = 0 then 46 else if x = 1 then 63 else if x = 2 then 43 else if x = 3 then 45 else 120
theorem sw_out {x : Int32} (h0 : ¬ x = 0) (h1 : ¬ x = 1) (h2 : ¬ x = 2) (h3 : ¬ x = 3) : x.toInt < 0 ∨ 3 < x.toInt := by
  have e : ∀ j : Int32, x ≠ j → x.toInt ≠ j.toInt := fun j h z => h (Int32.toInt_inj.mp z)
  have a0 := e 0 h0
  have a1 := e 1 h1
  have a2 := e 2 h2
  have a3 := e 3 h3
  have z0 : (0 : Int32).toInt = 0 := by decide +kernel
  have z1 : (1 : Int32).toInt = 1 := by decide +kernel
  have z2 : (2 : Int32).toInt = 2 := by decide +kernel
  have z3 : (3 : Int32).toInt = 3 := by decide +kernel
  omega
theorem i32_lt6 {x : Int32} (h : x < 6) : ¬ 5 < x := i32_le5 h
theorem i32_lt12 {x : Int32} (h : x < 12) : ¬ 11 < x := i32_le11 h
