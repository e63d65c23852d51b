set_option maxRecDepth 20000 in
theorem wsL_law_i17 : ∀ w ∈ wsL_law0_r17, w ∈ lw_tbl := by decide +kernel
set_option maxRecDepth 20000 in
theorem wsL_law_i18 : ∀ w ∈ wsL_law0_r18, w ∈ lw_tbl := by decide +kernel
set_option maxRecDepth 20000 in
theorem wsL_law_i19 : ∀ w ∈ wsL_law0_r19, w ∈ lw_tbl := by decide +kernel
