-- deps: B6.d5.in3
theorem wJ_11 : ∀ w ∈ wsX110, w ∈ lw_tbl := by decide +kernel
theorem wJ_12 : ∀ w ∈ wsX120, w ∈ lw_tbl := by decide +kernel
theorem wJ_8 : ∀ w ∈ wsX80, w ∈ lw_tbl := by decide +kernel
theorem wJ_10 : ∀ w ∈ wsX100, w ∈ lw_tbl := by decide +kernel
theorem wJ_1 : ∀ w ∈ wsX10, w ∈ lw_tbl := by decide +kernel
theorem wJ_7 : ∀ w ∈ wsX70, w ∈ lw_tbl := by decide +kernel
theorem wJ_3 : ∀ w ∈ wsX30, w ∈ lw_tbl := by decide +kernel
theorem wJ_6 : ∀ w ∈ wsX60, w ∈ lw_tbl := by decide +kernel
theorem wJ_5 : ∀ w ∈ wsX50, w ∈ lw_tbl := by decide +kernel
theorem wJ_9 : ∀ w ∈ wsX90, w ∈ lw_tbl := by decide +kernel
theorem wJ_4 : ∀ w ∈ wsX40, w ∈ lw_tbl := by decide +kernel
theorem wJ_0 : ∀ w ∈ wsX00, w ∈ lw_tbl := by decide +kernel
theorem wJ_2 : ∀ w ∈ wsX20, w ∈ lw_tbl := by decide +kernel
theorem wsL_law_in : ∀ w ∈ wsL_law, w ∈ lw_tbl := by
  unfold wsL_law
  exact (List.forall_mem_append.mpr ⟨(List.forall_mem_append.mpr ⟨(List.forall_mem_append.mpr ⟨(List.forall_mem_append.mpr ⟨(List.forall_mem_append.mpr ⟨(List.forall_mem_append.mpr ⟨(List.forall_mem_append.mpr ⟨(List.forall_mem_append.mpr ⟨(List.forall_mem_append.mpr ⟨(List.forall_mem_append.mpr ⟨(List.forall_mem_append.mpr ⟨(List.forall_mem_append.mpr ⟨(List.forall_mem_append.mpr ⟨(List.forall_mem_append.mpr ⟨(List.forall_mem_append.mpr ⟨wI_1, (List.forall_mem_append.mpr ⟨wI_2, (List.forall_mem_append.mpr ⟨wI_3, (List.forall_mem_append.mpr ⟨wI_4, (List.forall_mem_append.mpr ⟨wI_5, (List.forall_mem_append.mpr ⟨wI_6, (List.forall_mem_append.mpr ⟨wI_7, (List.forall_mem_append.mpr ⟨wI_8, (List.forall_mem_append.mpr ⟨wI_9, (List.forall_mem_append.mpr ⟨wI_10, (List.forall_mem_append.mpr ⟨wI_11, (List.forall_mem_append.mpr ⟨wI_12, (List.forall_mem_append.mpr ⟨wI_13, (List.forall_mem_append.mpr ⟨wI_14, (List.forall_mem_append.mpr ⟨wI_15, (List.forall_mem_append.mpr ⟨wI_16, (List.forall_mem_append.mpr ⟨wI_17, (List.forall_mem_append.mpr ⟨wI_18, (List.forall_mem_append.mpr ⟨wI_19, (List.forall_mem_append.mpr ⟨wI_20, (List.forall_mem_append.mpr ⟨wI_21, (List.forall_mem_append.mpr ⟨wI_22, (List.forall_mem_append.mpr ⟨wI_23, (List.forall_mem_append.mpr ⟨wI_24, (List.forall_mem_append.mpr ⟨wI_25, (List.forall_mem_append.mpr ⟨wI_26, (List.forall_mem_append.mpr ⟨wI_27, (List.forall_mem_append.mpr ⟨wI_28, (List.forall_mem_append.mpr ⟨wI_29, (List.forall_mem_append.mpr ⟨wI_30, (List.forall_mem_append.mpr ⟨wI_31, (List.forall_mem_append.mpr ⟨wI_32, (List.forall_mem_append.mpr ⟨wI_33, (List.forall_mem_append.mpr ⟨wI_34, (List.forall_mem_append.mpr ⟨wI_35, (List.forall_mem_append.mpr ⟨wI_36, (List.forall_mem_append.mpr ⟨wI_37, (List.forall_mem_append.mpr ⟨wI_38, (List.forall_mem_append.mpr ⟨wI_39, (List.forall_mem_append.mpr ⟨wI_40, (List.forall_mem_append.mpr ⟨wI_41, (List.forall_mem_append.mpr ⟨wI_42, (List.forall_mem_append.mpr ⟨wI_43, (List.forall_mem_append.mpr ⟨wI_44, (List.forall_mem_append.mpr ⟨wI_45, wI_46⟩)⟩)⟩)⟩)⟩)⟩)⟩)⟩)⟩)⟩)⟩)⟩)⟩)⟩)⟩)⟩)⟩)⟩)⟩)⟩)⟩)⟩)⟩)⟩)⟩)⟩)⟩)⟩)⟩)⟩)⟩)⟩)⟩)⟩)⟩)⟩)⟩)⟩)⟩)⟩)⟩)⟩)⟩)⟩)⟩), wJ_11⟩), wJ_12⟩), wJ_8⟩), wJ_10⟩), wJ_1⟩), wJ_7⟩), wJ_3⟩), wJ_6⟩), wJ_5⟩), wJ_9⟩), wJ_4⟩), wJ_0⟩), wJ_2⟩), fun _ h => absurd h List.not_mem_nil⟩)
