set_option maxRecDepth 100000 in
theorem tb_25 : ∀ w ∈ wsL_law0_r25, w ∈ lw_tbl := by decide +kernel
set_option maxRecDepth 100000 in
theorem tb_26 : ∀ w ∈ wsL_law0_r26, w ∈ lw_tbl := by decide +kernel
set_option maxRecDepth 100000 in
theorem tb_27 : ∀ w ∈ wsL_law0_r27, w ∈ lw_tbl := by decide +kernel
set_option maxRecDepth 100000 in
theorem tb_28 : ∀ w ∈ wsL_law0_r28, w ∈ lw_tbl := by decide +kernel
set_option maxRecDepth 100000 in
theorem tb_29 : ∀ w ∈ wsL_law0_r29, w ∈ lw_tbl := by decide +kernel
set_option maxRecDepth 100000 in
theorem tb_30 : ∀ w ∈ wsL_law0_r30, w ∈ lw_tbl := by decide +kernel
set_option maxRecDepth 100000 in
theorem tb_31 : ∀ w ∈ wsL_law0_r31, w ∈ lw_tbl := by decide +kernel
set_option maxRecDepth 100000 in
theorem tb_wsX30 : ∀ w ∈ wsX30, w ∈ lw_tbl := by decide +kernel
set_option maxRecDepth 100000 in
theorem tb_wsX40 : ∀ w ∈ wsX40, w ∈ lw_tbl := by decide +kernel
set_option maxRecDepth 100000 in
theorem tb_wsX00 : ∀ w ∈ wsX00, w ∈ lw_tbl := by decide +kernel
set_option maxRecDepth 100000 in
theorem tb_wsX20 : ∀ w ∈ wsX20, w ∈ lw_tbl := by decide +kernel
set_option maxRecDepth 100000 in
theorem tb_wsX10 : ∀ w ∈ wsX10, w ∈ lw_tbl := by decide +kernel
set_option maxRecDepth 100000 in
theorem nw_tbl : ∀ w ∈ zm_nw, w ∈ lw_tbl := by decide +kernel
set_option maxRecDepth 100000 in
theorem st_tbl : ∀ w ∈ [Cond.laysStatic Bundle.tN "UNASSIGNED_STACK" Bundle.steD, Cond.laysStatic Bundle.tN "SUPPRESSED_SENTINEL" Bundle.listD, Cond.initialized Bundle.tN, Cond.stringRef RX3 220 "no such beam", Cond.stringRef RX3 228 "no note of the beam has so many levels"], w ∈ lw_tbl := by decide +kernel
theorem tb_all : ∀ w ∈ zm_tb, w ∈ lw_tbl := List.forall_mem_append.mpr ⟨List.forall_mem_append.mpr ⟨List.forall_mem_append.mpr ⟨List.forall_mem_append.mpr ⟨List.forall_mem_append.mpr ⟨List.forall_mem_append.mpr ⟨List.forall_mem_append.mpr ⟨tb_1, List.forall_mem_append.mpr ⟨tb_2, List.forall_mem_append.mpr ⟨tb_3, List.forall_mem_append.mpr ⟨tb_4, List.forall_mem_append.mpr ⟨tb_5, List.forall_mem_append.mpr ⟨tb_6, List.forall_mem_append.mpr ⟨tb_7, List.forall_mem_append.mpr ⟨tb_8, List.forall_mem_append.mpr ⟨tb_9, List.forall_mem_append.mpr ⟨tb_10, List.forall_mem_append.mpr ⟨tb_11, List.forall_mem_append.mpr ⟨tb_12, List.forall_mem_append.mpr ⟨tb_13, List.forall_mem_append.mpr ⟨tb_14, List.forall_mem_append.mpr ⟨tb_15, List.forall_mem_append.mpr ⟨tb_16, List.forall_mem_append.mpr ⟨tb_17, List.forall_mem_append.mpr ⟨tb_18, List.forall_mem_append.mpr ⟨tb_19, List.forall_mem_append.mpr ⟨tb_20, List.forall_mem_append.mpr ⟨tb_21, List.forall_mem_append.mpr ⟨tb_22, List.forall_mem_append.mpr ⟨tb_23, List.forall_mem_append.mpr ⟨tb_24, List.forall_mem_append.mpr ⟨tb_25, List.forall_mem_append.mpr ⟨tb_26, List.forall_mem_append.mpr ⟨tb_27, List.forall_mem_append.mpr ⟨tb_28, List.forall_mem_append.mpr ⟨tb_29, List.forall_mem_append.mpr ⟨tb_30, tb_31⟩⟩⟩⟩⟩⟩⟩⟩⟩⟩⟩⟩⟩⟩⟩⟩⟩⟩⟩⟩⟩⟩⟩⟩⟩⟩⟩⟩⟩⟩, tb_wsX30⟩, tb_wsX40⟩, tb_wsX00⟩, tb_wsX20⟩, tb_wsX10⟩, fun _ h => nomatch h⟩
