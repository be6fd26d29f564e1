-- deps: 01
theorem wI_13 : ∀ w ∈ wsL_law_r13, w ∈ lw_tbl := by decide +kernel
theorem wI_14 : ∀ w ∈ wsL_law_r14, w ∈ lw_tbl := by decide +kernel
theorem wI_15 : ∀ w ∈ wsL_law_r15, w ∈ lw_tbl := by decide +kernel
theorem wI_16 : ∀ w ∈ wsL_law_r16, w ∈ lw_tbl := by decide +kernel
theorem wI_17 : ∀ w ∈ wsL_law_r17, w ∈ lw_tbl := by decide +kernel
theorem wI_18 : ∀ w ∈ wsL_law_r18, w ∈ lw_tbl := by decide +kernel
theorem wI_19 : ∀ w ∈ wsL_law_r19, w ∈ lw_tbl := by decide +kernel
theorem wI_20 : ∀ w ∈ wsL_law_r20, w ∈ lw_tbl := by decide +kernel
theorem wI_21 : ∀ w ∈ wsL_law_r21, w ∈ lw_tbl := by decide +kernel
theorem wI_22 : ∀ w ∈ wsL_law_r22, w ∈ lw_tbl := by decide +kernel
theorem wI_23 : ∀ w ∈ wsL_law_r23, w ∈ lw_tbl := by decide +kernel
theorem wI_24 : ∀ w ∈ wsL_law_r24, w ∈ lw_tbl := by decide +kernel
