-- deps: 01
theorem wI_1 : ∀ w ∈ wsL_law_r1, w ∈ lw_tbl := by decide +kernel
theorem wI_2 : ∀ w ∈ wsL_law_r2, w ∈ lw_tbl := by decide +kernel
theorem wI_3 : ∀ w ∈ wsL_law_r3, w ∈ lw_tbl := by decide +kernel
theorem wI_4 : ∀ w ∈ wsL_law_r4, w ∈ lw_tbl := by decide +kernel
theorem wI_5 : ∀ w ∈ wsL_law_r5, w ∈ lw_tbl := by decide +kernel
theorem wI_6 : ∀ w ∈ wsL_law_r6, w ∈ lw_tbl := by decide +kernel
theorem wI_7 : ∀ w ∈ wsL_law_r7, w ∈ lw_tbl := by decide +kernel
theorem wI_8 : ∀ w ∈ wsL_law_r8, w ∈ lw_tbl := by decide +kernel
theorem wI_9 : ∀ w ∈ wsL_law_r9, w ∈ lw_tbl := by decide +kernel
theorem wI_10 : ∀ w ∈ wsL_law_r10, w ∈ lw_tbl := by decide +kernel
theorem wI_11 : ∀ w ∈ wsL_law_r11, w ∈ lw_tbl := by decide +kernel
theorem wI_12 : ∀ w ∈ wsL_law_r12, w ∈ lw_tbl := by decide +kernel
