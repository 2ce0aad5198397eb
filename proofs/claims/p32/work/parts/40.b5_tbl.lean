set_option maxRecDepth 20000 in
theorem wsL_law_r21 : ∀ w ∈ wsL_law0_r21, w ∈ lw_tbl := fun w h => (goodIn_p wsL_law0_r21 [695, 699, 703, 707, 711] (by decide +kernel) (by decide +kernel) w h).1
