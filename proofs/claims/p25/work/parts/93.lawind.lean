theorem inw_X70 : ∀ w ∈ wsX70, w ∈ lw_tbl := by decide +kernel
theorem inw_X00 : ∀ w ∈ wsX00, w ∈ lw_tbl := by decide +kernel
theorem inw_X10 : ∀ w ∈ wsX10, w ∈ lw_tbl := by decide +kernel
theorem inw_X60 : ∀ w ∈ wsX60, w ∈ lw_tbl := by decide +kernel
theorem inw_X40 : ∀ w ∈ wsX40, w ∈ lw_tbl := by decide +kernel
theorem inw_X30 : ∀ w ∈ wsX30, w ∈ lw_tbl := by decide +kernel
theorem inw_X50 : ∀ w ∈ wsX50, w ∈ lw_tbl := by decide +kernel
theorem inw_X20 : ∀ w ∈ wsX20, w ∈ lw_tbl := by decide +kernel
set_option maxRecDepth 20000 in
theorem wsL_law_in : ∀ w ∈ wsL_law, w ∈ lw_tbl := List.forall_mem_append.mpr ⟨List.forall_mem_append.mpr ⟨List.forall_mem_append.mpr ⟨List.forall_mem_append.mpr ⟨List.forall_mem_append.mpr ⟨List.forall_mem_append.mpr ⟨List.forall_mem_append.mpr ⟨List.forall_mem_append.mpr ⟨List.forall_mem_append.mpr ⟨List.forall_mem_append.mpr ⟨in_wsL_law_r1, List.forall_mem_append.mpr ⟨in_wsL_law_r2, List.forall_mem_append.mpr ⟨in_wsL_law_r3, List.forall_mem_append.mpr ⟨in_wsL_law_r4, List.forall_mem_append.mpr ⟨in_wsL_law_r5, List.forall_mem_append.mpr ⟨in_wsL_law_r6, List.forall_mem_append.mpr ⟨in_wsL_law_r7, List.forall_mem_append.mpr ⟨in_wsL_law_r8, List.forall_mem_append.mpr ⟨in_wsL_law_r9, List.forall_mem_append.mpr ⟨in_wsL_law_r10, List.forall_mem_append.mpr ⟨in_wsL_law_r11, List.forall_mem_append.mpr ⟨in_wsL_law_r12, List.forall_mem_append.mpr ⟨in_wsL_law_r13, List.forall_mem_append.mpr ⟨in_wsL_law_r14, List.forall_mem_append.mpr ⟨in_wsL_law_r15, List.forall_mem_append.mpr ⟨in_wsL_law_r16, List.forall_mem_append.mpr ⟨in_wsL_law_r17, List.forall_mem_append.mpr ⟨in_wsL_law_r18, in_wsL_law_r19⟩⟩⟩⟩⟩⟩⟩⟩⟩⟩⟩⟩⟩⟩⟩⟩⟩⟩, inw_X70⟩, inw_X00⟩, inw_X10⟩, inw_X60⟩, inw_X40⟩, inw_X30⟩, inw_X50⟩, inw_X20⟩, fun _ h => absurd h List.not_mem_nil⟩
