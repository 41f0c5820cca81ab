set_option maxRecDepth 20000 in
theorem i_wsL_law0_r6 : ∀ w ∈ wsL_law0_r6, w ∈ lw_tbl := fun w h => (goodIn_p wsL_law0_r6 [433, 437, 93, 441, 216] (by decide +kernel) (by decide +kernel) w h).1
set_option maxRecDepth 20000 in
theorem i_wsL_law0_r7 : ∀ w ∈ wsL_law0_r7, w ∈ lw_tbl := fun w h => (goodIn_p wsL_law0_r7 [220, 224, 244, 249, 253, 445] (by decide +kernel) (by decide +kernel) w h).1
set_option maxRecDepth 20000 in
theorem i_wsL_law0_r8 : ∀ w ∈ wsL_law0_r8, w ∈ lw_tbl := fun w h => (goodIn_p wsL_law0_r8 [449, 453, 456, 260, 460] (by decide +kernel) (by decide +kernel) w h).1
set_option maxRecDepth 20000 in
theorem i_wsL_law0_r9 : ∀ w ∈ wsL_law0_r9, w ∈ lw_tbl := fun w h => (goodIn_p wsL_law0_r9 [267, 271, 274, 278, 282] (by decide +kernel) (by decide +kernel) w h).1
set_option maxRecDepth 20000 in
theorem i_wsL_law0_r10 : ∀ w ∈ wsL_law0_r10, w ∈ lw_tbl := fun w h => (goodIn_p wsL_law0_r10 [286, 464, 468, 472, 475, 479] (by decide +kernel) (by decide +kernel) w h).1
