theorem wx_wsX80 : ∀ w ∈ wsX80, w ∈ lw_tbl := by decide +kernel
theorem wx_wsX20 : ∀ w ∈ wsX20, w ∈ lw_tbl := by decide +kernel
theorem wx_wsX10 : ∀ w ∈ wsX10, w ∈ lw_tbl := by decide +kernel
theorem wx_wsX30 : ∀ w ∈ wsX30, w ∈ lw_tbl := by decide +kernel
theorem wx_wsX40 : ∀ w ∈ wsX40, w ∈ lw_tbl := by decide +kernel
theorem wx_wsX00 : ∀ w ∈ wsX00, w ∈ lw_tbl := by decide +kernel
theorem wx_wsX70 : ∀ w ∈ wsX70, w ∈ lw_tbl := by decide +kernel
theorem wx_wsX50 : ∀ w ∈ wsX50, w ∈ lw_tbl := by decide +kernel
theorem wx_wsX60 : ∀ w ∈ wsX60, w ∈ lw_tbl := by decide +kernel
theorem wsL_law_in0 : ∀ w ∈ wsL_law0, w ∈ lw_tbl := by
  unfold wsL_law0
  exact List.forall_mem_append.mpr ⟨List.forall_mem_append.mpr ⟨List.forall_mem_append.mpr ⟨List.forall_mem_append.mpr ⟨List.forall_mem_append.mpr ⟨List.forall_mem_append.mpr ⟨List.forall_mem_append.mpr ⟨List.forall_mem_append.mpr ⟨List.forall_mem_append.mpr ⟨List.forall_mem_append.mpr ⟨List.forall_mem_append.mpr ⟨wi_wsL_law0_r1, List.forall_mem_append.mpr ⟨wi_wsL_law0_r2, List.forall_mem_append.mpr ⟨wi_wsL_law0_r3, List.forall_mem_append.mpr ⟨wi_wsL_law0_r4, List.forall_mem_append.mpr ⟨wi_wsL_law0_r5, List.forall_mem_append.mpr ⟨wi_wsL_law0_r6, List.forall_mem_append.mpr ⟨wi_wsL_law0_r7, List.forall_mem_append.mpr ⟨wi_wsL_law0_r8, List.forall_mem_append.mpr ⟨wi_wsL_law0_r9, List.forall_mem_append.mpr ⟨wi_wsL_law0_r10, List.forall_mem_append.mpr ⟨wi_wsL_law0_r11, List.forall_mem_append.mpr ⟨wi_wsL_law0_r12, List.forall_mem_append.mpr ⟨wi_wsL_law0_r13, List.forall_mem_append.mpr ⟨wi_wsL_law0_r14, List.forall_mem_append.mpr ⟨wi_wsL_law0_r15, List.forall_mem_append.mpr ⟨wi_wsL_law0_r16, List.forall_mem_append.mpr ⟨wi_wsL_law0_r17, List.forall_mem_append.mpr ⟨wi_wsL_law0_r18, List.forall_mem_append.mpr ⟨wi_wsL_law0_r19, wi_wsL_law0_r20⟩⟩⟩⟩⟩⟩⟩⟩⟩⟩⟩⟩⟩⟩⟩⟩⟩⟩⟩, wx_wsX80⟩, wx_wsX20⟩, wx_wsX10⟩, wx_wsX30⟩, wx_wsX40⟩, wx_wsX00⟩, wx_wsX70⟩, wx_wsX50⟩, wx_wsX60⟩, fun _ h => absurd h List.not_mem_nil⟩
theorem wsL_law_x0 : ∀ w ∈ (vx_atS RX8 147 "java/lang/IllegalArgumentException" ["java/lang/RuntimeException", "java/lang/Exception"]).filter goodWord, w ∈ lw_tbl := by decide +kernel
theorem wsL_law_x1 : ∀ w ∈ (vx_atS RX8 88 "java/lang/IllegalStateException" ["java/lang/RuntimeException", "java/lang/Exception"]).filter goodWord, w ∈ lw_tbl := by decide +kernel
theorem wsL_law_x2 : ∀ w ∈ (vx_atS RX8 287 "java/lang/IndexOutOfBoundsException" ["java/lang/RuntimeException", "java/lang/Exception"]).filter goodWord, w ∈ lw_tbl := by decide +kernel
theorem wsL_law_in : ∀ w ∈ wsL_law, w ∈ lw_tbl := fun w h => (List.mem_append.mp h).elim (fun h => (List.mem_append.mp h).elim (fun h => (List.mem_append.mp h).elim (fun h => wsL_law_in0 w h) (fun h => wsL_law_x0 w h)) (fun h => wsL_law_x1 w h)) (fun h => wsL_law_x2 w h)
