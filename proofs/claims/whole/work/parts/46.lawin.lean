set_option maxRecDepth 20000 in
theorem i_wsL_law0_r1 : ∀ w ∈ wsL_law0_r1, w ∈ lw_tbl := fun w h => (goodIn_p wsL_law0_r1 [42, 45] (by decide +kernel) (by decide +kernel) w h).1
set_option maxRecDepth 20000 in
theorem i_wsL_law0_r2 : ∀ w ∈ wsL_law0_r2, w ∈ lw_tbl := fun w h => (goodIn_p wsL_law0_r2 [50, 368] (by decide +kernel) (by decide +kernel) w h).1
set_option maxRecDepth 20000 in
theorem i_wsL_law0_r3 : ∀ w ∈ wsL_law0_r3, w ∈ lw_tbl := fun w h => (goodIn_p wsL_law0_r3 [105, 108, 178, 184, 188, 192] (by decide +kernel) (by decide +kernel) w h).1
set_option maxRecDepth 20000 in
theorem i_wsL_law0_r4 : ∀ w ∈ wsL_law0_r4, w ∈ lw_tbl := fun w h => (goodIn_p wsL_law0_r4 [196, 200, 405, 408, 411, 415] (by decide +kernel) (by decide +kernel) w h).1
set_option maxRecDepth 20000 in
theorem i_wsL_law0_r5 : ∀ w ∈ wsL_law0_r5, w ∈ lw_tbl := fun w h => (goodIn_p wsL_law0_r5 [418, 422, 425, 428, 401, 208] (by decide +kernel) (by decide +kernel) w h).1
