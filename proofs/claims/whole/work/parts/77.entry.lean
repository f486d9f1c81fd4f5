/-! what holds at the law's entry, for its calls -/
theorem nlL_in : ∀ q ∈ nlL, Cond.methodLinkNest q.1 q.2.1 q.2.2 RX1 ∈ lw_tbl := by decide +kernel
theorem nlS_in : ∀ q ∈ nlS, Cond.stringRef RX1 q.1 q.2 ∈ lw_tbl := by decide +kernel
theorem nlC_in : ∀ x ∈ nlC, Cond.castable x x ∈ lw_tbl := by decide +kernel
theorem nlD_in : ∀ x ∈ nlD, Cond.declares x ∈ lw_tbl := by decide +kernel
section Entry
variable {s : State} {args : Array Value}
theorem lw_NM (hts : ∀ w ∈ lw_tbl, w.before args s = true) {c1 : ClassId} (h1 : s.vm.findClass RX1 = some c1) : NM s := by
  refine ⟨fun q hq => va_Nw.of rfl (hts _ (nlL_in q hq)), fun q hq => ?_, fun x hx => va_Nw.of rfl (hts _ (nlC_in x hx))⟩
  have h2 := hts _ (nlS_in q hq)
  obtain ⟨k, cf, i, a, -, -, -, -, -, hev⟩ := Cond.stringRef_spec h1 h2
  exact ⟨a, vk_R.of h2 hev⟩
theorem lw_ND (hts : ∀ w ∈ lw_tbl, w.before args s = true) : ND s := fun x hx => va_Nw.of rfl (hts _ (nlD_in x hx))
theorem lw_NX (hgv : (Jvm.Cond.and given_1 narrow_1).before args s = true) : NX s := by
  have hs := flat_of_before _ hgv
  intro q hq
  simp only [nlX, List.mem_cons, List.not_mem_nil, or_false] at hq
  rcases hq with rfl | rfl | rfl | rfl | rfl | rfl | rfl | rfl | rfl | rfl | rfl | rfl
  · exact va_Nc.of (hs _ (by decide +kernel))
  · exact va_Nc.of (hs _ (by decide +kernel))
  · exact va_Nc.of (hs _ (by decide +kernel))
  · exact va_Nc.of (hs _ (by decide +kernel))
  · exact va_Nc.of (hs _ (by decide +kernel))
  · exact va_Nc.of (hs _ (by decide +kernel))
  · exact va_Nc.of (hs _ (by decide +kernel))
  · exact va_Nc.of (hs _ (by decide +kernel))
  · exact va_Nc.of (hs _ (by decide +kernel))
  · exact va_Nc.of (hs _ (by decide +kernel))
  · exact va_Nc.of (hs _ (by decide +kernel))
  · exact va_Nc.of (hs _ (by decide +kernel))
theorem lw_ZQ (hts : ∀ w ∈ lw_tbl, w.before args s = true) (hgv : (Jvm.Cond.and given_1 narrow_1).before args s = true) : ZQ (fun q : Nat => s.heap.size ≤ q) s s.heap := by
  have hs := flat_of_before _ hgv
  exact ⟨vx_Zqof (hts (.laysStatic Bundle.tN "UNASSIGNED_STACK" Bundle.steD) (by decide +kernel)) (hts (.initialized Bundle.tN) (by decide +kernel)) (hs (.isRef (.static Bundle.tN "UNASSIGNED_STACK" Bundle.steD)) (by decide +kernel)) (fun _ h => Nat.not_le.mpr h),
    vx_Zqof (hts (.laysStatic Bundle.tN "SUPPRESSED_SENTINEL" Bundle.listD) (by decide +kernel)) (hts (.initialized Bundle.tN) (by decide +kernel)) (hs (.isRef (.static Bundle.tN "SUPPRESSED_SENTINEL" Bundle.listD)) (by decide +kernel)) (fun _ h => Nat.not_le.mpr h)⟩
theorem ka_I (h : (Cond.arrayClass .int).before args s = true) : ∃ cA : ClassId, ArrOfT s cA .int ∧ va_RA s cA .int := by
  obtain ⟨cA, kA, comp, hfind, hk, hkind⟩ := Cond.arrayClass_spec h
  exact ⟨cA, fun n z => ⟨fun k h => (by cases h), kA, hk, comp, hkind⟩, hfind⟩
theorem ka_Z (h : (Cond.arrayClass .boolean).before args s = true) : ∃ cA : ClassId, ArrOfT s cA .boolean ∧ va_RA s cA .boolean := by
  obtain ⟨cA, kA, comp, hfind, hk, hkind⟩ := Cond.arrayClass_spec h
  exact ⟨cA, fun n z => ⟨fun k h => (by cases h), kA, hk, comp, hkind⟩, hfind⟩
theorem ka_J (h : (Cond.arrayClass .long).before args s = true) : ∃ cA : ClassId, ArrOfT s cA .long ∧ va_RA s cA .long := by
  obtain ⟨cA, kA, comp, hfind, hk, hkind⟩ := Cond.arrayClass_spec h
  exact ⟨cA, fun n z => ⟨fun k h => (by cases h), kA, hk, comp, hkind⟩, hfind⟩
theorem lw_K (hts : ∀ w ∈ lw_tbl, w.before args s = true) : ∃ (D : va_G) (cI cZ cJ : ClassId), va_K D vwCl (tys9 cI cZ cJ) s := by
  obtain ⟨c0, iS0, h0⟩ := u_known (C := RX0) (T := TX0) (N := 2) (n := 2) hts wsL_x00 (hts (.instantiable RX0 2) (wsL_r1 _ (List.mem_of_getElem? (i := 14) rfl)))
  obtain ⟨c1, iS1, h1⟩ := u_known (C := RX1) (T := TX1) (N := 14) (n := 14) hts wsL_x10 (hts (.instantiable RX1 14) (wsL_r1 _ (List.mem_of_getElem? (i := 1) rfl)))
  obtain ⟨c2, iS2, h2⟩ := u_known (C := RX2) (T := TX2) (N := 16) (n := 16) hts wsL_x20 (hts (.instantiable RX2 16) (wsL_r1 _ (List.mem_of_getElem? (i := 4) rfl)))
  obtain ⟨cI, i1, i2⟩ := ka_I (hts (.arrayClass .int) (wsL_r1 _ (List.mem_of_getElem? (i := 17) rfl)))
  obtain ⟨cZ, z1, z2⟩ := ka_Z (hts (.arrayClass .boolean) (wsL_r2 _ (List.mem_of_getElem? (i := 8) rfl)))
  obtain ⟨cJ, j1, j2⟩ := ka_J (hts (.arrayClass .long) (wsL_r1 _ (List.mem_of_getElem? (i := 6) rfl)))
  refine ⟨(fun k => if k = 0 then c0 else if k = 1 then c1 else c2, fun k => if k = 0 then iS0 else if k = 1 then iS1 else iS2), cI, cZ, cJ, fun k q hq => ?_, fun k q hq => ?_⟩
  · match k, hq with
    | 0, hq => cases hq; exact h0
    | 1, hq => cases hq; exact h1
    | 2, hq => cases hq; exact h2
    | k + 3, hq => simp [vwCl] at hq
  · match k, hq with
    | 0, hq => cases hq; exact ⟨i1, i2⟩
    | 1, hq => cases hq; exact ⟨z1, z2⟩
    | 2, hq => cases hq; exact ⟨j1, j2⟩
    | k + 3, hq => simp at hq
end Entry
theorem fl_no (l : Launch) (h : l.flags = flags0) : l.stackTraces = false := by
  unfold Launch.stackTraces
  rw [h]
  decide +kernel
