theorem lw_iX0 : ∀ w ∈ u_ws RX0 TX0 4, w ∈ wsL_law := by decide +kernel
theorem lw_iX1 : ∀ w ∈ u_ws RX1 TX1 3, w ∈ wsL_law := by decide +kernel
theorem lw_iX2 : ∀ w ∈ u_ws RX2 TX2 2, w ∈ wsL_law := by decide +kernel
theorem lw_iX3 : ∀ w ∈ u_ws RX3 TX3 11, w ∈ wsL_law := by decide +kernel
theorem lw_iX4 : ∀ w ∈ u_ws RX4 TX4 3, w ∈ wsL_law := by decide +kernel
theorem lw_iX5 : ∀ w ∈ u_ws RX5 TX5 7, w ∈ wsL_law := by decide +kernel
theorem lw_iX6 : ∀ w ∈ u_ws RX6 TX6 2, w ∈ wsL_law := by decide +kernel
theorem lw_iX7 : ∀ w ∈ u_ws RX7 TX7 3, w ∈ wsL_law := by decide +kernel
theorem lw_iX8 : ∀ w ∈ u_ws RX8 TX8 6, w ∈ wsL_law := by decide +kernel
theorem lw_iX9 : ∀ w ∈ u_ws RX9 TX9 7, w ∈ wsL_law := by decide +kernel
theorem lw_iX10 : ∀ w ∈ u_ws RX10 TX10 23, w ∈ wsL_law := by decide +kernel
set_option maxRecDepth 100000 in
theorem lw_nf : ∀ q ∈ kn_F, Cond.fieldLinkNest q.1 q.2.1 q.2.2.1 q.2.2.2.1 q.2.2.2.2.1 q.2.2.2.2.2 ∈ lw_tbl := by decide +kernel
set_option maxRecDepth 100000 in
theorem lw_nm : ∀ q ∈ kn_M, Cond.methodLinkNest q.1 q.2.1 q.2.2.1 q.2.2.2 ∈ lw_tbl := by decide +kernel
