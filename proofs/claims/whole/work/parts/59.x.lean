theorem wi_wsX80 : ∀ w ∈ wsX80, w ∈ lw_tbl := by decide +kernel
theorem wi_wsX90 : ∀ w ∈ wsX90, w ∈ lw_tbl := by decide +kernel
theorem wi_wsX70 : ∀ w ∈ wsX70, w ∈ lw_tbl := by decide +kernel
theorem wi_wsX60 : ∀ w ∈ wsX60, w ∈ lw_tbl := by decide +kernel
theorem wi_wsX10 : ∀ w ∈ wsX10, w ∈ lw_tbl := by decide +kernel
theorem wi_wsX00 : ∀ w ∈ wsX00, w ∈ lw_tbl := by decide +kernel
theorem wi_wsX50 : ∀ w ∈ wsX50, w ∈ lw_tbl := by decide +kernel
theorem wi_wsX20 : ∀ w ∈ wsX20, w ∈ lw_tbl := by decide +kernel
theorem wi_wsX30 : ∀ w ∈ wsX30, w ∈ lw_tbl := by decide +kernel
theorem wi_wsX40 : ∀ w ∈ wsX40, w ∈ lw_tbl := by decide +kernel
theorem wsL_law_in : ∀ w ∈ wsL_law, w ∈ lw_tbl := by
  unfold wsL_law
  exact List.forall_mem_append.mpr ⟨List.forall_mem_append.mpr ⟨List.forall_mem_append.mpr ⟨List.forall_mem_append.mpr ⟨List.forall_mem_append.mpr ⟨List.forall_mem_append.mpr ⟨List.forall_mem_append.mpr ⟨List.forall_mem_append.mpr ⟨List.forall_mem_append.mpr ⟨List.forall_mem_append.mpr ⟨List.forall_mem_append.mpr ⟨List.forall_mem_append.mpr ⟨wi_r1, List.forall_mem_append.mpr ⟨wi_r2, List.forall_mem_append.mpr ⟨wi_r3, List.forall_mem_append.mpr ⟨wi_r4, List.forall_mem_append.mpr ⟨wi_r5, List.forall_mem_append.mpr ⟨wi_r6, List.forall_mem_append.mpr ⟨wi_r7, List.forall_mem_append.mpr ⟨wi_r8, List.forall_mem_append.mpr ⟨wi_r9, List.forall_mem_append.mpr ⟨wi_r10, List.forall_mem_append.mpr ⟨wi_r11, List.forall_mem_append.mpr ⟨wi_r12, List.forall_mem_append.mpr ⟨wi_r13, List.forall_mem_append.mpr ⟨wi_r14, List.forall_mem_append.mpr ⟨wi_r15, List.forall_mem_append.mpr ⟨wi_r16, List.forall_mem_append.mpr ⟨wi_r17, List.forall_mem_append.mpr ⟨wi_r18, List.forall_mem_append.mpr ⟨wi_r19, List.forall_mem_append.mpr ⟨wi_r20, List.forall_mem_append.mpr ⟨wi_r21, List.forall_mem_append.mpr ⟨wi_r22, List.forall_mem_append.mpr ⟨wi_r23, List.forall_mem_append.mpr ⟨wi_r24, List.forall_mem_append.mpr ⟨wi_r25, List.forall_mem_append.mpr ⟨wi_r26, List.forall_mem_append.mpr ⟨wi_r27, List.forall_mem_append.mpr ⟨wi_r28, List.forall_mem_append.mpr ⟨wi_r29, List.forall_mem_append.mpr ⟨wi_r30, List.forall_mem_append.mpr ⟨wi_r31, List.forall_mem_append.mpr ⟨wi_r32, List.forall_mem_append.mpr ⟨wi_r33, List.forall_mem_append.mpr ⟨wi_r34, List.forall_mem_append.mpr ⟨wi_r35, List.forall_mem_append.mpr ⟨wi_r36, List.forall_mem_append.mpr ⟨wi_r37, wi_r38⟩⟩⟩⟩⟩⟩⟩⟩⟩⟩⟩⟩⟩⟩⟩⟩⟩⟩⟩⟩⟩⟩⟩⟩⟩⟩⟩⟩⟩⟩⟩⟩⟩⟩⟩⟩⟩, wi_wsX80⟩, wi_wsX90⟩, wi_wsX70⟩, wi_wsX60⟩, wi_wsX10⟩, wi_wsX00⟩, wi_wsX50⟩, wi_wsX20⟩, wi_wsX30⟩, wi_wsX40⟩, fun _ h => absurd h List.not_mem_nil⟩
