set_option maxRecDepth 20000 in
theorem wlp_19 : ∀ w ∈ wsL_law0_r19, w ∈ lw_tbl := by decide +kernel
set_option maxRecDepth 20000 in
theorem wlp_20 : ∀ w ∈ wsL_law0_r20, w ∈ lw_tbl := by decide +kernel
set_option maxRecDepth 20000 in
theorem wlp_21 : ∀ w ∈ wsL_law0_r21, w ∈ lw_tbl := by decide +kernel
