/-! the words of the law in the tables, all together -/
theorem wsL_x10 : ∀ w ∈ wsX10, w ∈ lw_tbl := by decide +kernel
theorem wsL_x20 : ∀ w ∈ wsX20, w ∈ lw_tbl := by decide +kernel
theorem wsL_x00 : ∀ w ∈ wsX00, w ∈ lw_tbl := by decide +kernel
theorem wsL_law_in0 : ∀ w ∈ wsL_law0, w ∈ lw_tbl := by
  have hA := List.forall_mem_append.mpr ⟨wsL_r1, List.forall_mem_append.mpr ⟨wsL_r2, List.forall_mem_append.mpr ⟨wsL_r3, List.forall_mem_append.mpr ⟨wsL_r4, List.forall_mem_append.mpr ⟨wsL_r5, List.forall_mem_append.mpr ⟨wsL_r6, List.forall_mem_append.mpr ⟨wsL_r7, List.forall_mem_append.mpr ⟨wsL_r8, List.forall_mem_append.mpr ⟨wsL_r9, List.forall_mem_append.mpr ⟨wsL_r10, List.forall_mem_append.mpr ⟨wsL_r11, List.forall_mem_append.mpr ⟨wsL_r12, List.forall_mem_append.mpr ⟨wsL_r13, List.forall_mem_append.mpr ⟨wsL_r14, List.forall_mem_append.mpr ⟨wsL_r15, List.forall_mem_append.mpr ⟨wsL_r16, List.forall_mem_append.mpr ⟨wsL_r17, List.forall_mem_append.mpr ⟨wsL_r18, List.forall_mem_append.mpr ⟨wsL_r19, List.forall_mem_append.mpr ⟨wsL_r20, List.forall_mem_append.mpr ⟨wsL_r21, List.forall_mem_append.mpr ⟨wsL_r22, wsL_r23⟩⟩⟩⟩⟩⟩⟩⟩⟩⟩⟩⟩⟩⟩⟩⟩⟩⟩⟩⟩⟩⟩
  unfold wsL_law0
  exact List.forall_mem_append.mpr ⟨List.forall_mem_append.mpr ⟨List.forall_mem_append.mpr ⟨List.forall_mem_append.mpr ⟨hA, wsL_x10⟩, wsL_x20⟩, wsL_x00⟩, fun _ h => absurd h List.not_mem_nil⟩
theorem wsL_law_x0 : ∀ w ∈ (vx_atS RX1 44 "java/lang/IllegalArgumentException" ["java/lang/RuntimeException", "java/lang/Exception"]).filter goodWord, w ∈ lw_tbl := by decide +kernel
theorem wsL_law_x1 : ∀ w ∈ (vx_atS RX1 175 "java/lang/IllegalStateException" ["java/lang/RuntimeException", "java/lang/Exception"]).filter goodWord, w ∈ lw_tbl := by decide +kernel
theorem wsL_law_x2 : ∀ w ∈ (vx_atS RX1 184 "java/lang/IndexOutOfBoundsException" ["java/lang/RuntimeException", "java/lang/Exception"]).filter goodWord, w ∈ lw_tbl := by decide +kernel
theorem wsL_law_x3 : ∀ w ∈ nsW, w ∈ lw_tbl := by decide +kernel
theorem wsL_law_in : ∀ w ∈ wsL_law, w ∈ lw_tbl := fun w h => (List.mem_append.mp h).elim (fun h => (List.mem_append.mp h).elim (fun h => (List.mem_append.mp h).elim (fun h => (List.mem_append.mp h).elim (fun h => wsL_law_in0 w h) (fun h => wsL_law_x0 w h)) (fun h => wsL_law_x1 w h)) (fun h => wsL_law_x2 w h)) (fun h => wsL_law_x3 w h)
