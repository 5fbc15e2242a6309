/-! ===== what holds at the law's entry ===== -/
theorem lw_in {w : Cond} (h : w ∈ tables_1) : w ∈ lw_tbl := List.mem_append_right _ (List.mem_append_right _ h)
theorem st_nf : ∀ q ∈ gNF, Cond.fieldLinkNest q.1 q.2.1 q.2.2.1 q.2.2.2.1 q.2.2.2.2.1 q.2.2.2.2.2 ∈ lw_tbl := List.forall_mem_cons.mpr ⟨(lw_in (List.mem_of_getElem? (i := 50) (by decide +kernel))), List.forall_mem_cons.mpr ⟨(lw_in (List.mem_of_getElem? (i := 52) (by decide +kernel))), List.forall_mem_cons.mpr ⟨(lw_in (List.mem_of_getElem? (i := 54) (by decide +kernel))), List.forall_mem_cons.mpr ⟨(lw_in (List.mem_of_getElem? (i := 56) (by decide +kernel))), List.forall_mem_cons.mpr ⟨(lw_in (List.mem_of_getElem? (i := 72) (by decide +kernel))), List.forall_mem_cons.mpr ⟨(lw_in (List.mem_of_getElem? (i := 73) (by decide +kernel))), List.forall_mem_cons.mpr ⟨(lw_in (List.mem_of_getElem? (i := 75) (by decide +kernel))), List.forall_mem_cons.mpr ⟨(lw_in (List.mem_of_getElem? (i := 77) (by decide +kernel))), List.forall_mem_cons.mpr ⟨(lw_in (List.mem_of_getElem? (i := 79) (by decide +kernel))), List.forall_mem_cons.mpr ⟨(lw_in (List.mem_of_getElem? (i := 81) (by decide +kernel))), List.forall_mem_cons.mpr ⟨(lw_in (List.mem_of_getElem? (i := 83) (by decide +kernel))), List.forall_mem_cons.mpr ⟨(lw_in (List.mem_of_getElem? (i := 85) (by decide +kernel))), List.forall_mem_cons.mpr ⟨(lw_in (List.mem_of_getElem? (i := 109) (by decide +kernel))), List.forall_mem_cons.mpr ⟨(lw_in (List.mem_of_getElem? (i := 111) (by decide +kernel))), List.forall_mem_cons.mpr ⟨(lw_in (List.mem_of_getElem? (i := 301) (by decide +kernel))), List.forall_mem_cons.mpr ⟨(lw_in (List.mem_of_getElem? (i := 303) (by decide +kernel))), List.forall_mem_cons.mpr ⟨(lw_in (List.mem_of_getElem? (i := 305) (by decide +kernel))), List.forall_mem_cons.mpr ⟨(lw_in (List.mem_of_getElem? (i := 307) (by decide +kernel))), List.forall_mem_cons.mpr ⟨(lw_in (List.mem_of_getElem? (i := 309) (by decide +kernel))), List.forall_mem_cons.mpr ⟨(lw_in (List.mem_of_getElem? (i := 311) (by decide +kernel))), List.forall_mem_cons.mpr ⟨(lw_in (List.mem_of_getElem? (i := 313) (by decide +kernel))), List.forall_mem_cons.mpr ⟨(lw_in (List.mem_of_getElem? (i := 315) (by decide +kernel))), List.forall_mem_cons.mpr ⟨(lw_in (List.mem_of_getElem? (i := 317) (by decide +kernel))), List.forall_mem_cons.mpr ⟨(lw_in (List.mem_of_getElem? (i := 319) (by decide +kernel))), List.forall_mem_cons.mpr ⟨(lw_in (List.mem_of_getElem? (i := 364) (by decide +kernel))), List.forall_mem_cons.mpr ⟨(lw_in (List.mem_of_getElem? (i := 366) (by decide +kernel))), List.forall_mem_cons.mpr ⟨(lw_in (List.mem_of_getElem? (i := 368) (by decide +kernel))), List.forall_mem_cons.mpr ⟨(lw_in (List.mem_of_getElem? (i := 393) (by decide +kernel))), List.forall_mem_cons.mpr ⟨(lw_in (List.mem_of_getElem? (i := 396) (by decide +kernel))), fun _ h => absurd h List.not_mem_nil⟩⟩⟩⟩⟩⟩⟩⟩⟩⟩⟩⟩⟩⟩⟩⟩⟩⟩⟩⟩⟩⟩⟩⟩⟩⟩⟩⟩⟩
theorem st_nm : ∀ q ∈ gNM, Cond.methodLinkNest q.1 q.2.1 q.2.2.1 q.2.2.2 ∈ lw_tbl := List.forall_mem_cons.mpr ⟨(lw_in (List.mem_of_getElem? (i := 45) (by decide +kernel))), List.forall_mem_cons.mpr ⟨(lw_in (List.mem_of_getElem? (i := 67) (by decide +kernel))), List.forall_mem_cons.mpr ⟨(lw_in (List.mem_of_getElem? (i := 102) (by decide +kernel))), List.forall_mem_cons.mpr ⟨(lw_in (List.mem_of_getElem? (i := 524) (by decide +kernel))), List.forall_mem_cons.mpr ⟨(lw_in (List.mem_of_getElem? (i := 292) (by decide +kernel))), List.forall_mem_cons.mpr ⟨(lw_in (List.mem_of_getElem? (i := 296) (by decide +kernel))), List.forall_mem_cons.mpr ⟨(lw_in (List.mem_of_getElem? (i := 359) (by decide +kernel))), List.forall_mem_cons.mpr ⟨(lw_in (List.mem_of_getElem? (i := 388) (by decide +kernel))), List.forall_mem_cons.mpr ⟨(lw_in (List.mem_of_getElem? (i := 420) (by decide +kernel))), List.forall_mem_cons.mpr ⟨(lw_in (List.mem_of_getElem? (i := 425) (by decide +kernel))), List.forall_mem_cons.mpr ⟨(lw_in (List.mem_of_getElem? (i := 433) (by decide +kernel))), List.forall_mem_cons.mpr ⟨(lw_in (List.mem_of_getElem? (i := 545) (by decide +kernel))), List.forall_mem_cons.mpr ⟨(lw_in (List.mem_of_getElem? (i := 505) (by decide +kernel))), fun _ h => absurd h List.not_mem_nil⟩⟩⟩⟩⟩⟩⟩⟩⟩⟩⟩⟩⟩
theorem st_nc : ∀ q ∈ gNC, Cond.castable q.1 q.2 ∈ lw_tbl := List.forall_mem_cons.mpr ⟨(lw_in (List.mem_of_getElem? (i := 165) (by decide +kernel))), List.forall_mem_cons.mpr ⟨(lw_in (List.mem_of_getElem? (i := 255) (by decide +kernel))), List.forall_mem_cons.mpr ⟨(lw_in (List.mem_of_getElem? (i := 271) (by decide +kernel))), fun _ h => absurd h List.not_mem_nil⟩⟩⟩
theorem st_nd : ∀ x ∈ gND, Cond.declares x ∈ lw_tbl := List.forall_mem_cons.mpr ⟨(lw_in (List.mem_of_getElem? (i := 167) (by decide +kernel))), List.forall_mem_cons.mpr ⟨(lw_in (List.mem_of_getElem? (i := 169) (by decide +kernel))), List.forall_mem_cons.mpr ⟨(lw_in (List.mem_of_getElem? (i := 171) (by decide +kernel))), fun _ h => absurd h List.not_mem_nil⟩⟩⟩
theorem st_na : ∀ C ∈ gNA, Cond.arrayOver (.object C) ∈ lw_tbl := List.forall_mem_cons.mpr ⟨(lw_in (List.mem_of_getElem? (i := 41) (by decide +kernel))), List.forall_mem_cons.mpr ⟨(lw_in (List.mem_of_getElem? (i := 43) (by decide +kernel))), List.forall_mem_cons.mpr ⟨(lw_in (List.mem_of_getElem? (i := 37) (by decide +kernel))), List.forall_mem_cons.mpr ⟨(lw_in (List.mem_of_getElem? (i := 39) (by decide +kernel))), List.forall_mem_cons.mpr ⟨(lw_in (List.mem_of_getElem? (i := 107) (by decide +kernel))), fun _ h => absurd h List.not_mem_nil⟩⟩⟩⟩⟩
theorem st_str : ∀ q ∈ gStr, Cond.stringRef RX6 q.1 q.2 ∈ lw_tbl := List.forall_mem_cons.mpr ⟨(lw_in (List.mem_of_getElem? (i := 474) (by decide +kernel))), List.forall_mem_cons.mpr ⟨(lw_in (List.mem_of_getElem? (i := 475) (by decide +kernel))), List.forall_mem_cons.mpr ⟨(lw_in (List.mem_of_getElem? (i := 204) (by decide +kernel))), List.forall_mem_cons.mpr ⟨(lw_in (List.mem_of_getElem? (i := 262) (by decide +kernel))), List.forall_mem_cons.mpr ⟨(lw_in (List.mem_of_getElem? (i := 464) (by decide +kernel))), List.forall_mem_cons.mpr ⟨(lw_in (List.mem_of_getElem? (i := 465) (by decide +kernel))), List.forall_mem_cons.mpr ⟨(lw_in (List.mem_of_getElem? (i := 278) (by decide +kernel))), List.forall_mem_cons.mpr ⟨(lw_in (List.mem_of_getElem? (i := 240) (by decide +kernel))), List.forall_mem_cons.mpr ⟨(lw_in (List.mem_of_getElem? (i := 356) (by decide +kernel))), List.forall_mem_cons.mpr ⟨(lw_in (List.mem_of_getElem? (i := 384) (by decide +kernel))), List.forall_mem_cons.mpr ⟨(lw_in (List.mem_of_getElem? (i := 385) (by decide +kernel))), List.forall_mem_cons.mpr ⟨(lw_in (List.mem_of_getElem? (i := 424) (by decide +kernel))), List.forall_mem_cons.mpr ⟨(lw_in (List.mem_of_getElem? (i := 540) (by decide +kernel))), List.forall_mem_cons.mpr ⟨(lw_in (List.mem_of_getElem? (i := 582) (by decide +kernel))), fun _ h => absurd h List.not_mem_nil⟩⟩⟩⟩⟩⟩⟩⟩⟩⟩⟩⟩⟩⟩
theorem st_nx {C T : String} (h : (C, T) ∈ gNX) : Cond.not (.castable C T) ∈ flatC (Cond.and given_1 narrow_1) := by
  simp only [gNX, List.mem_cons, Prod.mk.injEq, List.not_mem_nil, or_false] at h
  rcases h with ⟨rfl, rfl⟩ | ⟨rfl, rfl⟩ <;> decide +kernel
theorem st_d1_0 : ∀ i, i < 10 → Cond.eq (.elem (.static "java/lang/Integer" "DigitOnes" "[B") (.int (Int32.ofNat (0 + i)))) (.int (nI (48 + (0 + i) % 10))) ∈ flatC (Cond.and given_1 narrow_1) := by decide +kernel
theorem st_d1_1 : ∀ i, i < 10 → Cond.eq (.elem (.static "java/lang/Integer" "DigitOnes" "[B") (.int (Int32.ofNat (10 + i)))) (.int (nI (48 + (10 + i) % 10))) ∈ flatC (Cond.and given_1 narrow_1) := by decide +kernel
theorem st_d1_2 : ∀ i, i < 10 → Cond.eq (.elem (.static "java/lang/Integer" "DigitOnes" "[B") (.int (Int32.ofNat (20 + i)))) (.int (nI (48 + (20 + i) % 10))) ∈ flatC (Cond.and given_1 narrow_1) := by decide +kernel
theorem st_d1_3 : ∀ i, i < 10 → Cond.eq (.elem (.static "java/lang/Integer" "DigitOnes" "[B") (.int (Int32.ofNat (30 + i)))) (.int (nI (48 + (30 + i) % 10))) ∈ flatC (Cond.and given_1 narrow_1) := by decide +kernel
theorem st_d1_4 : ∀ i, i < 10 → Cond.eq (.elem (.static "java/lang/Integer" "DigitOnes" "[B") (.int (Int32.ofNat (40 + i)))) (.int (nI (48 + (40 + i) % 10))) ∈ flatC (Cond.and given_1 narrow_1) := by decide +kernel
theorem st_d1_5 : ∀ i, i < 10 → Cond.eq (.elem (.static "java/lang/Integer" "DigitOnes" "[B") (.int (Int32.ofNat (50 + i)))) (.int (nI (48 + (50 + i) % 10))) ∈ flatC (Cond.and given_1 narrow_1) := by decide +kernel
theorem st_d1_6 : ∀ i, i < 10 → Cond.eq (.elem (.static "java/lang/Integer" "DigitOnes" "[B") (.int (Int32.ofNat (60 + i)))) (.int (nI (48 + (60 + i) % 10))) ∈ flatC (Cond.and given_1 narrow_1) := by decide +kernel
theorem st_d1_7 : ∀ i, i < 10 → Cond.eq (.elem (.static "java/lang/Integer" "DigitOnes" "[B") (.int (Int32.ofNat (70 + i)))) (.int (nI (48 + (70 + i) % 10))) ∈ flatC (Cond.and given_1 narrow_1) := by decide +kernel
theorem st_d1_8 : ∀ i, i < 10 → Cond.eq (.elem (.static "java/lang/Integer" "DigitOnes" "[B") (.int (Int32.ofNat (80 + i)))) (.int (nI (48 + (80 + i) % 10))) ∈ flatC (Cond.and given_1 narrow_1) := by decide +kernel
theorem st_d1_9 : ∀ i, i < 10 → Cond.eq (.elem (.static "java/lang/Integer" "DigitOnes" "[B") (.int (Int32.ofNat (90 + i)))) (.int (nI (48 + (90 + i) % 10))) ∈ flatC (Cond.and given_1 narrow_1) := by decide +kernel
theorem st_d1 : ∀ j, j < 100 → Cond.eq (.elem (.static "java/lang/Integer" "DigitOnes" "[B") (.int (Int32.ofNat j))) (.int (nI (48 + j % 10))) ∈ flatC (Cond.and given_1 narrow_1) := by
  intro j hj
  rcases (by omega : j / 10 = 0 ∨ j / 10 = 1 ∨ j / 10 = 2 ∨ j / 10 = 3 ∨ j / 10 = 4 ∨ j / 10 = 5 ∨ j / 10 = 6 ∨ j / 10 = 7 ∨ j / 10 = 8 ∨ j / 10 = 9) with h | h | h | h | h | h | h | h | h | h
  · have h2 := st_d1_0 (j % 10) (by omega)
    rw [show 0 + j % 10 = j by omega] at h2
    exact h2
  · have h2 := st_d1_1 (j % 10) (by omega)
    rw [show 10 + j % 10 = j by omega] at h2
    exact h2
  · have h2 := st_d1_2 (j % 10) (by omega)
    rw [show 20 + j % 10 = j by omega] at h2
    exact h2
  · have h2 := st_d1_3 (j % 10) (by omega)
    rw [show 30 + j % 10 = j by omega] at h2
    exact h2
  · have h2 := st_d1_4 (j % 10) (by omega)
    rw [show 40 + j % 10 = j by omega] at h2
    exact h2
  · have h2 := st_d1_5 (j % 10) (by omega)
    rw [show 50 + j % 10 = j by omega] at h2
    exact h2
  · have h2 := st_d1_6 (j % 10) (by omega)
    rw [show 60 + j % 10 = j by omega] at h2
    exact h2
  · have h2 := st_d1_7 (j % 10) (by omega)
    rw [show 70 + j % 10 = j by omega] at h2
    exact h2
  · have h2 := st_d1_8 (j % 10) (by omega)
    rw [show 80 + j % 10 = j by omega] at h2
    exact h2
  · have h2 := st_d1_9 (j % 10) (by omega)
    rw [show 90 + j % 10 = j by omega] at h2
    exact h2
theorem st_d10_0 : ∀ i, i < 10 → Cond.eq (.elem (.static "java/lang/Integer" "DigitTens" "[B") (.int (Int32.ofNat (0 + i)))) (.int (nI (48 + (0 + i) / 10))) ∈ flatC (Cond.and given_1 narrow_1) := by decide +kernel
theorem st_d10_1 : ∀ i, i < 10 → Cond.eq (.elem (.static "java/lang/Integer" "DigitTens" "[B") (.int (Int32.ofNat (10 + i)))) (.int (nI (48 + (10 + i) / 10))) ∈ flatC (Cond.and given_1 narrow_1) := by decide +kernel
theorem st_d10_2 : ∀ i, i < 10 → Cond.eq (.elem (.static "java/lang/Integer" "DigitTens" "[B") (.int (Int32.ofNat (20 + i)))) (.int (nI (48 + (20 + i) / 10))) ∈ flatC (Cond.and given_1 narrow_1) := by decide +kernel
theorem st_d10_3 : ∀ i, i < 10 → Cond.eq (.elem (.static "java/lang/Integer" "DigitTens" "[B") (.int (Int32.ofNat (30 + i)))) (.int (nI (48 + (30 + i) / 10))) ∈ flatC (Cond.and given_1 narrow_1) := by decide +kernel
theorem st_d10_4 : ∀ i, i < 10 → Cond.eq (.elem (.static "java/lang/Integer" "DigitTens" "[B") (.int (Int32.ofNat (40 + i)))) (.int (nI (48 + (40 + i) / 10))) ∈ flatC (Cond.and given_1 narrow_1) := by decide +kernel
theorem st_d10_5 : ∀ i, i < 10 → Cond.eq (.elem (.static "java/lang/Integer" "DigitTens" "[B") (.int (Int32.ofNat (50 + i)))) (.int (nI (48 + (50 + i) / 10))) ∈ flatC (Cond.and given_1 narrow_1) := by decide +kernel
theorem st_d10_6 : ∀ i, i < 10 → Cond.eq (.elem (.static "java/lang/Integer" "DigitTens" "[B") (.int (Int32.ofNat (60 + i)))) (.int (nI (48 + (60 + i) / 10))) ∈ flatC (Cond.and given_1 narrow_1) := by decide +kernel
theorem st_d10_7 : ∀ i, i < 10 → Cond.eq (.elem (.static "java/lang/Integer" "DigitTens" "[B") (.int (Int32.ofNat (70 + i)))) (.int (nI (48 + (70 + i) / 10))) ∈ flatC (Cond.and given_1 narrow_1) := by decide +kernel
theorem st_d10_8 : ∀ i, i < 10 → Cond.eq (.elem (.static "java/lang/Integer" "DigitTens" "[B") (.int (Int32.ofNat (80 + i)))) (.int (nI (48 + (80 + i) / 10))) ∈ flatC (Cond.and given_1 narrow_1) := by decide +kernel
theorem st_d10_9 : ∀ i, i < 10 → Cond.eq (.elem (.static "java/lang/Integer" "DigitTens" "[B") (.int (Int32.ofNat (90 + i)))) (.int (nI (48 + (90 + i) / 10))) ∈ flatC (Cond.and given_1 narrow_1) := by decide +kernel
theorem st_d10 : ∀ j, j < 100 → Cond.eq (.elem (.static "java/lang/Integer" "DigitTens" "[B") (.int (Int32.ofNat j))) (.int (nI (48 + j / 10))) ∈ flatC (Cond.and given_1 narrow_1) := by
  intro j hj
  rcases (by omega : j / 10 = 0 ∨ j / 10 = 1 ∨ j / 10 = 2 ∨ j / 10 = 3 ∨ j / 10 = 4 ∨ j / 10 = 5 ∨ j / 10 = 6 ∨ j / 10 = 7 ∨ j / 10 = 8 ∨ j / 10 = 9) with h | h | h | h | h | h | h | h | h | h
  · have h2 := st_d10_0 (j % 10) (by omega)
    rw [show 0 + j % 10 = j by omega] at h2
    exact h2
  · have h2 := st_d10_1 (j % 10) (by omega)
    rw [show 10 + j % 10 = j by omega] at h2
    exact h2
  · have h2 := st_d10_2 (j % 10) (by omega)
    rw [show 20 + j % 10 = j by omega] at h2
    exact h2
  · have h2 := st_d10_3 (j % 10) (by omega)
    rw [show 30 + j % 10 = j by omega] at h2
    exact h2
  · have h2 := st_d10_4 (j % 10) (by omega)
    rw [show 40 + j % 10 = j by omega] at h2
    exact h2
  · have h2 := st_d10_5 (j % 10) (by omega)
    rw [show 50 + j % 10 = j by omega] at h2
    exact h2
  · have h2 := st_d10_6 (j % 10) (by omega)
    rw [show 60 + j % 10 = j by omega] at h2
    exact h2
  · have h2 := st_d10_7 (j % 10) (by omega)
    rw [show 70 + j % 10 = j by omega] at h2
    exact h2
  · have h2 := st_d10_8 (j % 10) (by omega)
    rw [show 80 + j % 10 = j by omega] at h2
    exact h2
  · have h2 := st_d10_9 (j % 10) (by omega)
    rw [show 90 + j % 10 = j by omega] at h2
    exact h2
theorem law_gF {s : State} {b : Nat} {cur : ClassId} (hcur : s.vm.findClass RX6 = some cur) (hts : ∀ w ∈ lw_tbl, w.before #[Value.ref b] s = true) (hgv : (Cond.and given_1 narrow_1).before #[Value.ref b] s = true) : gF (fun q : Nat => s.heap.size ≤ q) s s.heap := by
  have hs := flat_of_before _ hgv
  have hA : ∀ a : Nat, a < s.heap.size → ¬ (fun q : Nat => s.heap.size ≤ q) a := fun a h => Nat.not_le.mpr h
  obtain ⟨t1, et1, ht1⟩ := va_Tof (tm := .static "java/lang/Integer" "DigitOnes" "[B") (ty := .byte) (N := 100) (f := gDig1) (A := fun q : Nat => s.heap.size ≤ q) (by decide) (hs _ (by decide +kernel)) (va_eqt (hs (Cond.eq (.length (.static "java/lang/Integer" "DigitOnes" "[B")) (.int 100)) (by decide +kernel))) (fun j hj => va_eqt (hs _ (st_d1 j hj))) hA
  obtain ⟨t2, et2, ht2⟩ := va_Tof (tm := .static "java/lang/Integer" "DigitTens" "[B") (ty := .byte) (N := 100) (f := gDig10) (A := fun q : Nat => s.heap.size ≤ q) (by decide) (hs _ (by decide +kernel)) (va_eqt (hs (Cond.eq (.length (.static "java/lang/Integer" "DigitTens" "[B")) (.int 100)) (by decide +kernel))) (fun j hj => va_eqt (hs _ (st_d10 j hj))) hA
  refine ⟨fun q hq => va_Nw.of rfl (hts _ (st_nf q hq)), fun q hq => va_Nw.of rfl (hts _ (st_nm q hq)), fun q hq => va_Nw.of rfl (hts _ (st_nc q hq)), fun x hx => va_Nw.of rfl (hts _ (st_nd x hx)), fun q hq => va_Nc.of (hs _ (st_nx hq)), fun C hC => va_AO.of (hts _ (st_na C hC)),
    ⟨vx_Zqof (hts _ (lw_in (List.mem_of_getElem? (i := 190) (by decide +kernel)))) (hts _ (lw_in (List.mem_of_getElem? (i := 5) (by decide +kernel)))) (hs _ (by decide +kernel)) hA, vx_Zqof (hts _ (lw_in (List.mem_of_getElem? (i := 192) (by decide +kernel)))) (hts _ (lw_in (List.mem_of_getElem? (i := 5) (by decide +kernel)))) (hs _ (by decide +kernel)) hA⟩, fun q hq => ?_,
    va_Zof (hts _ (lw_in (List.mem_of_getElem? (i := 593) (by decide +kernel)))) (hts _ (lw_in (List.mem_of_getElem? (i := 17) (by decide +kernel)))) (va_eqi (hs _ (by decide +kernel))) hA, t1, t2, va_Zof (hts _ (lw_in (List.mem_of_getElem? (i := 718) (by decide +kernel)))) (hts _ (lw_in (List.mem_of_getElem? (i := 24) (by decide +kernel)))) et1 hA, va_Zof (hts _ (lw_in (List.mem_of_getElem? (i := 720) (by decide +kernel)))) (hts _ (lw_in (List.mem_of_getElem? (i := 24) (by decide +kernel)))) et2 hA, ht1, ht2, va_Zqof (hts _ (lw_in (List.mem_of_getElem? (i := 679) (by decide +kernel)))) (hts _ (lw_in (List.mem_of_getElem? (i := 23) (by decide +kernel)))) (hs _ (by decide +kernel)) hA⟩
  have h1 := hts _ (st_str q hq)
  obtain ⟨k, cf, i, a, -, -, -, -, -, h2⟩ := Cond.stringRef_spec hcur h1
  exact ⟨a, vk_R.of h1 h2⟩
theorem law_K {s : State} {b : Nat} (hts : ∀ w ∈ lw_tbl, w.before #[Value.ref b] s = true) : ∃ (D : va_G) (aC : Nat → ClassId), va_K D vwCl (gTy aC) s := by
  obtain ⟨c0, iS0, hKn0⟩ := u_known (C := RJ4) (T := TJ4) (N := 4) (n := 4) hts inJ4 (hts (.instantiable RJ4 4) (lw_in (List.mem_of_getElem? (i := 584) (by decide +kernel))))
  obtain ⟨c1, iS1, hKn1⟩ := u_known (C := RX0) (T := TX0) (N := 2) (n := 2) hts inX0 (hts (.instantiable RX0 2) (lw_in (List.mem_of_getElem? (i := 101) (by decide +kernel))))
  obtain ⟨c2, iS2, hKn2⟩ := u_known (C := RX1) (T := TX1) (N := 4) (n := 4) hts inX1 (hts (.instantiable RX1 4) (lw_in (List.mem_of_getElem? (i := 387) (by decide +kernel))))
  obtain ⟨c3, iS3, hKn3⟩ := u_known (C := RX2) (T := TX2) (N := 10) (n := 10) hts inX2 (hts (.instantiable RX2 10) (lw_in (List.mem_of_getElem? (i := 285) (by decide +kernel))))
  obtain ⟨c4, iS4, hKn4⟩ := u_known (C := RX3) (T := TX3) (N := 4) (n := 4) hts inX3 (hts (.instantiable RX3 4) (lw_in (List.mem_of_getElem? (i := 44) (by decide +kernel))))
  obtain ⟨c5, iS5, hKn5⟩ := u_known (C := RX4) (T := TX4) (N := 7) (n := 7) hts inX4 (hts (.instantiable RX4 7) (lw_in (List.mem_of_getElem? (i := 66) (by decide +kernel))))
  obtain ⟨c6, iS6, hKn6⟩ := u_known (C := RX5) (T := TX5) (N := 3) (n := 3) hts inX5 (hts (.instantiable RX5 3) (lw_in (List.mem_of_getElem? (i := 358) (by decide +kernel))))
  obtain ⟨c7, iS7, hKn7⟩ := u_known (C := RX6) (T := TX6) (N := 8) (n := 8) hts inX6 (hts (.instantiable RX6 8) (lw_in (List.mem_of_getElem? (i := 29) (by decide +kernel))))
  obtain ⟨a0, k0, co0, f0, g0, h0⟩ := Cond.arrayClass_spec (hts (.arrayClass .int) (lw_in (List.mem_of_getElem? (i := 230) (by decide +kernel))))
  obtain ⟨a3, k3, co3, f3, g3, h3⟩ := Cond.arrayClass_spec (hts (.arrayClass .byte) (lw_in (List.mem_of_getElem? (i := 231) (by decide +kernel))))
  obtain ⟨co4, a4, k4, f4, -, g4, h4, n4⟩ := Cond.arrayOver_spec (hts _ (st_na "SensorBond$Repeater" (by decide)))
  obtain ⟨co5, a5, k5, f5, -, g5, h5, n5⟩ := Cond.arrayOver_spec (hts _ (st_na "SensorBond$Sensor" (by decide)))
  obtain ⟨co6, a6, k6, f6, -, g6, h6, n6⟩ := Cond.arrayOver_spec (hts _ (st_na "SensorBond$Buyer" (by decide)))
  obtain ⟨co7, a7, k7, f7, -, g7, h7, n7⟩ := Cond.arrayOver_spec (hts _ (st_na "SensorBond$Reading" (by decide)))
  obtain ⟨co8, a8, k8, f8, -, g8, h8, n8⟩ := Cond.arrayOver_spec (hts _ (st_na "SensorBond$Window" (by decide)))
  refine ⟨(fun k => if k = 0 then c0 else if k = 1 then c1 else if k = 2 then c2 else if k = 3 then c3 else if k = 4 then c4 else if k = 5 then c5 else if k = 6 then c6 else c7, fun k => if k = 0 then iS0 else if k = 1 then iS1 else if k = 2 then iS2 else if k = 3 then iS3 else if k = 4 then iS4 else if k = 5 then iS5 else if k = 6 then iS6 else iS7), fun k => if k = 0 then a0 else if k = 1 then a0 else if k = 2 then a0 else if k = 3 then a3 else if k = 4 then a4 else if k = 5 then a5 else if k = 6 then a6 else if k = 7 then a7 else a8, fun k q hq => ?_, fun k q hq => ?_⟩
  · match k, hq with
    | 0, hq => cases hq; exact hKn0
    | 1, hq => cases hq; exact hKn1
    | 2, hq => cases hq; exact hKn2
    | 3, hq => cases hq; exact hKn3
    | 4, hq => cases hq; exact hKn4
    | 5, hq => cases hq; exact hKn5
    | 6, hq => cases hq; exact hKn6
    | 7, hq => cases hq; exact hKn7
    | k + 8, hq => simp [vwCl] at hq
  · match k, hq with
    | 0, hq => cases hq; exact ⟨fun n z => ⟨fun k h => (by cases h), k0, g0, co0, h0⟩, f0⟩
    | 1, hq => cases hq; exact ⟨fun n z => ⟨fun k h => (by cases h), k0, g0, co0, h0⟩, f0⟩
    | 2, hq => cases hq; exact ⟨fun n z => ⟨fun k h => (by cases h), k0, g0, co0, h0⟩, f0⟩
    | 3, hq => cases hq; exact ⟨fun n z => ⟨fun k h => (by cases h), k3, g3, co3, h3⟩, f3⟩
    | 4, hq => cases hq; exact ⟨fun n z => ⟨fun k h => (by cases h), k4, g4, co4, h4⟩, k4, co4, g4, h4, f4, n4⟩
    | 5, hq => cases hq; exact ⟨fun n z => ⟨fun k h => (by cases h), k5, g5, co5, h5⟩, k5, co5, g5, h5, f5, n5⟩
    | 6, hq => cases hq; exact ⟨fun n z => ⟨fun k h => (by cases h), k6, g6, co6, h6⟩, k6, co6, g6, h6, f6, n6⟩
    | 7, hq => cases hq; exact ⟨fun n z => ⟨fun k h => (by cases h), k7, g7, co7, h7⟩, k7, co7, g7, h7, f7, n7⟩
    | 8, hq => cases hq; exact ⟨fun n z => ⟨fun k h => (by cases h), k8, g8, co8, h8⟩, k8, co8, g8, h8, f8, n8⟩
    | k + 9, hq => simp [gTy] at hq
