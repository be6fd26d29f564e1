-- deps: 01
theorem wI_37 : ∀ w ∈ wsL_law_r37, w ∈ lw_tbl := by decide +kernel
theorem wI_38 : ∀ w ∈ wsL_law_r38, w ∈ lw_tbl := by decide +kernel
theorem wI_39 : ∀ w ∈ wsL_law_r39, w ∈ lw_tbl := by decide +kernel
theorem wI_40 : ∀ w ∈ wsL_law_r40, w ∈ lw_tbl := by decide +kernel
theorem wI_41 : ∀ w ∈ wsL_law_r41, w ∈ lw_tbl := by decide +kernel
theorem wI_42 : ∀ w ∈ wsL_law_r42, w ∈ lw_tbl := by decide +kernel
theorem wI_43 : ∀ w ∈ wsL_law_r43, w ∈ lw_tbl := by decide +kernel
theorem wI_44 : ∀ w ∈ wsL_law_r44, w ∈ lw_tbl := by decide +kernel
theorem wI_45 : ∀ w ∈ wsL_law_r45, w ∈ lw_tbl := by decide +kernel
theorem wI_46 : ∀ w ∈ wsL_law_r46, w ∈ lw_tbl := by decide +kernel
