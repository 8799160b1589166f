-- the words of the law's start
set_option maxRecDepth 100000 in
set_option maxHeartbeats 4000000 in
theorem lw_sub : ∀ w ∈ wsL_law, w ∈ lw_tbl := by decide +kernel
