-- deps: 01
theorem wI_25 : ∀ w ∈ wsL_law_r25, w ∈ lw_tbl := by decide +kernel
theorem wI_26 : ∀ w ∈ wsL_law_r26, w ∈ lw_tbl := by decide +kernel
theorem wI_27 : ∀ w ∈ wsL_law_r27, w ∈ lw_tbl := by decide +kernel
theorem wI_28 : ∀ w ∈ wsL_law_r28, w ∈ lw_tbl := by decide +kernel
theorem wI_29 : ∀ w ∈ wsL_law_r29, w ∈ lw_tbl := by decide +kernel
theorem wI_30 : ∀ w ∈ wsL_law_r30, w ∈ lw_tbl := by decide +kernel
theorem wI_31 : ∀ w ∈ wsL_law_r31, w ∈ lw_tbl := by decide +kernel
theorem wI_32 : ∀ w ∈ wsL_law_r32, w ∈ lw_tbl := by decide +kernel
theorem wI_33 : ∀ w ∈ wsL_law_r33, w ∈ lw_tbl := by decide +kernel
theorem wI_34 : ∀ w ∈ wsL_law_r34, w ∈ lw_tbl := by decide +kernel
theorem wI_35 : ∀ w ∈ wsL_law_r35, w ∈ lw_tbl := by decide +kernel
theorem wI_36 : ∀ w ∈ wsL_law_r36, w ∈ lw_tbl := by decide +kernel
