set_option maxRecDepth 20000 in
theorem tb_Wl_0 : ∀ w ∈ Wl_0, w ∈ lw_tbl := by decide +kernel
set_option maxRecDepth 20000 in
theorem tb_Wl_1 : ∀ w ∈ Wl_1, w ∈ lw_tbl := by decide +kernel
set_option maxRecDepth 20000 in
theorem tb_Wl_2 : ∀ w ∈ Wl_2, w ∈ lw_tbl := by decide +kernel
set_option maxRecDepth 20000 in
theorem tb_Wl_3 : ∀ w ∈ Wl_3, w ∈ lw_tbl := by decide +kernel
set_option maxRecDepth 20000 in
theorem tb_Wl_4 : ∀ w ∈ Wl_4, w ∈ lw_tbl := by decide +kernel
set_option maxRecDepth 20000 in
theorem tb_Wl_5 : ∀ w ∈ Wl_5, w ∈ lw_tbl := by decide +kernel
set_option maxRecDepth 20000 in
theorem tb_Wl_6 : ∀ w ∈ Wl_6, w ∈ lw_tbl := by decide +kernel
set_option maxRecDepth 20000 in
theorem tb_Wl_7 : ∀ w ∈ Wl_7, w ∈ lw_tbl := by decide +kernel
set_option maxRecDepth 20000 in
theorem tb_Wl_8 : ∀ w ∈ Wl_8, w ∈ lw_tbl := by decide +kernel
set_option maxRecDepth 20000 in
theorem tb_Wl_9 : ∀ w ∈ Wl_9, w ∈ lw_tbl := by decide +kernel
set_option maxRecDepth 20000 in
theorem tb_Wl_10 : ∀ w ∈ Wl_10, w ∈ lw_tbl := by decide +kernel
set_option maxRecDepth 20000 in
theorem tb_Wl_11 : ∀ w ∈ Wl_11, w ∈ lw_tbl := by decide +kernel
set_option maxRecDepth 20000 in
theorem tb_Wl_12 : ∀ w ∈ Wl_12, w ∈ lw_tbl := by decide +kernel
set_option maxRecDepth 20000 in
theorem tb_Wl_13 : ∀ w ∈ Wl_13, w ∈ lw_tbl := by decide +kernel
set_option maxRecDepth 20000 in
theorem tb_Wl_14 : ∀ w ∈ Wl_14, w ∈ lw_tbl := by decide +kernel
set_option maxRecDepth 20000 in
theorem tb_Wl_15 : ∀ w ∈ Wl_15, w ∈ lw_tbl := by decide +kernel
set_option maxRecDepth 20000 in
theorem tb_Wl_16 : ∀ w ∈ Wl_16, w ∈ lw_tbl := by decide +kernel
set_option maxRecDepth 20000 in
theorem tb_Wl_17 : ∀ w ∈ Wl_17, w ∈ lw_tbl := by decide +kernel
set_option maxRecDepth 20000 in
theorem tb_Wl_18 : ∀ w ∈ Wl_18, w ∈ lw_tbl := by decide +kernel
set_option maxRecDepth 20000 in
theorem tb_Wl_19 : ∀ w ∈ Wl_19, w ∈ lw_tbl := by decide +kernel
set_option maxRecDepth 20000 in
theorem tb_Wl_20 : ∀ w ∈ Wl_20, w ∈ lw_tbl := by decide +kernel
set_option maxRecDepth 20000 in
theorem tb_Wl_21 : ∀ w ∈ Wl_21, w ∈ lw_tbl := by decide +kernel
set_option maxRecDepth 20000 in
theorem tb_Wl_22 : ∀ w ∈ Wl_22, w ∈ lw_tbl := by decide +kernel
set_option maxRecDepth 20000 in
theorem tb_wsX00 : ∀ w ∈ wsX00, w ∈ lw_tbl := by decide +kernel
set_option maxRecDepth 20000 in
theorem tb_wsX10 : ∀ w ∈ wsX10, w ∈ lw_tbl := by decide +kernel
set_option maxRecDepth 20000 in
theorem tb_wsX20 : ∀ w ∈ wsX20, w ∈ lw_tbl := by decide +kernel
set_option maxRecDepth 20000 in
theorem tb_wsX30 : ∀ w ∈ wsX30, w ∈ lw_tbl := by decide +kernel
set_option maxRecDepth 20000 in
theorem tb_wsX40 : ∀ w ∈ wsX40, w ∈ lw_tbl := by decide +kernel
set_option maxRecDepth 20000 in
theorem tb_wsX50 : ∀ w ∈ wsX50, w ∈ lw_tbl := by decide +kernel
set_option maxRecDepth 20000 in
theorem tb_wsX60 : ∀ w ∈ wsX60, w ∈ lw_tbl := by decide +kernel
theorem Wall_tbl : ∀ w ∈ Wall, w ∈ lw_tbl := List.forall_mem_append.mpr ⟨tb_Wl_0, List.forall_mem_append.mpr ⟨tb_Wl_1, List.forall_mem_append.mpr ⟨tb_Wl_2, List.forall_mem_append.mpr ⟨tb_Wl_3, List.forall_mem_append.mpr ⟨tb_Wl_4, List.forall_mem_append.mpr ⟨tb_Wl_5, List.forall_mem_append.mpr ⟨tb_Wl_6, List.forall_mem_append.mpr ⟨tb_Wl_7, List.forall_mem_append.mpr ⟨tb_Wl_8, List.forall_mem_append.mpr ⟨tb_Wl_9, List.forall_mem_append.mpr ⟨tb_Wl_10, List.forall_mem_append.mpr ⟨tb_Wl_11, List.forall_mem_append.mpr ⟨tb_Wl_12, List.forall_mem_append.mpr ⟨tb_Wl_13, List.forall_mem_append.mpr ⟨tb_Wl_14, List.forall_mem_append.mpr ⟨tb_Wl_15, List.forall_mem_append.mpr ⟨tb_Wl_16, List.forall_mem_append.mpr ⟨tb_Wl_17, List.forall_mem_append.mpr ⟨tb_Wl_18, List.forall_mem_append.mpr ⟨tb_Wl_19, List.forall_mem_append.mpr ⟨tb_Wl_20, List.forall_mem_append.mpr ⟨tb_Wl_21, List.forall_mem_append.mpr ⟨tb_Wl_22, List.forall_mem_append.mpr ⟨tb_wsX00, List.forall_mem_append.mpr ⟨tb_wsX10, List.forall_mem_append.mpr ⟨tb_wsX20, List.forall_mem_append.mpr ⟨tb_wsX30, List.forall_mem_append.mpr ⟨tb_wsX40, List.forall_mem_append.mpr ⟨tb_wsX50, tb_wsX60⟩⟩⟩⟩⟩⟩⟩⟩⟩⟩⟩⟩⟩⟩⟩⟩⟩⟩⟩⟩⟩⟩⟩⟩⟩⟩⟩⟩⟩
