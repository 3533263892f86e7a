set_option maxRecDepth 20000 in
theorem wLin_wsX20 : ∀ w ∈ wsX20, w ∈ lw_tbl := by decide +kernel
set_option maxRecDepth 20000 in
theorem wLin_wsX30 : ∀ w ∈ wsX30, w ∈ lw_tbl := by decide +kernel
set_option maxRecDepth 20000 in
theorem wLin_wsX10 : ∀ w ∈ wsX10, w ∈ lw_tbl := by decide +kernel
set_option maxRecDepth 20000 in
theorem wLin_wsX00 : ∀ w ∈ wsX00, w ∈ lw_tbl := by decide +kernel
theorem wsL_law_in0 : ∀ w ∈ wsL_law0, w ∈ lw_tbl := fun w h => (List.mem_append.mp h).elim (fun h => (List.mem_append.mp h).elim (fun h => (List.mem_append.mp h).elim (fun h => (List.mem_append.mp h).elim (fun h => (List.mem_append.mp h).elim (fun h => (List.mem_append.mp h).elim (fun h => wLin_1 w h) (fun h => (List.mem_append.mp h).elim (fun h => wLin_2 w h) (fun h => (List.mem_append.mp h).elim (fun h => wLin_3 w h) (fun h => (List.mem_append.mp h).elim (fun h => wLin_4 w h) (fun h => (List.mem_append.mp h).elim (fun h => wLin_5 w h) (fun h => (List.mem_append.mp h).elim (fun h => wLin_6 w h) (fun h => (List.mem_append.mp h).elim (fun h => wLin_7 w h) (fun h => (List.mem_append.mp h).elim (fun h => wLin_8 w h) (fun h => (List.mem_append.mp h).elim (fun h => wLin_9 w h) (fun h => (List.mem_append.mp h).elim (fun h => wLin_10 w h) (fun h => (List.mem_append.mp h).elim (fun h => wLin_11 w h) (fun h => (List.mem_append.mp h).elim (fun h => wLin_12 w h) (fun h => (List.mem_append.mp h).elim (fun h => wLin_13 w h) (fun h => (List.mem_append.mp h).elim (fun h => wLin_14 w h) (fun h => (List.mem_append.mp h).elim (fun h => wLin_15 w h) (fun h => (List.mem_append.mp h).elim (fun h => wLin_16 w h) (fun h => (List.mem_append.mp h).elim (fun h => wLin_17 w h) (fun h => (List.mem_append.mp h).elim (fun h => wLin_18 w h) (fun h => (List.mem_append.mp h).elim (fun h => wLin_19 w h) (fun h => (List.mem_append.mp h).elim (fun h => wLin_20 w h) (fun h => (List.mem_append.mp h).elim (fun h => wLin_21 w h) (fun h => (List.mem_append.mp h).elim (fun h => wLin_22 w h) (fun h => (List.mem_append.mp h).elim (fun h => wLin_23 w h) (fun h => (List.mem_append.mp h).elim (fun h => wLin_24 w h) (fun h => (List.mem_append.mp h).elim (fun h => wLin_25 w h) (fun h => (List.mem_append.mp h).elim (fun h => wLin_26 w h) (fun h => (List.mem_append.mp h).elim (fun h => wLin_27 w h) (fun h => wLin_28 w h)))))))))))))))))))))))))))) (fun h => wLin_wsX20 w h)) (fun h => wLin_wsX30 w h)) (fun h => wLin_wsX10 w h)) (fun h => wLin_wsX00 w h)) (fun h => nomatch h)
theorem wsL_law_in : ∀ w ∈ wsL_law, w ∈ lw_tbl := fun w h => (List.mem_append.mp h).elim (fun h => (List.mem_append.mp h).elim (fun h => (List.mem_append.mp h).elim (fun h => wsL_law_in0 w h) (fun h => wsL_law_x0 w h)) (fun h => wsL_law_x1 w h)) (fun h => wsL_law_x2 w h)
theorem inlX0 : ∀ w ∈ wsX00, w ∈ wsL_law := fun _ h => List.mem_append_left _ (List.mem_append_left _ (List.mem_append_left _ (List.mem_append_left _ (List.mem_append_right _ h))))
theorem inX0 : ∀ w ∈ wsX00, w ∈ lw_tbl := fun w h => wsL_law_in w (inlX0 w h)
theorem inlX1 : ∀ w ∈ wsX10, w ∈ wsL_law := fun _ h => List.mem_append_left _ (List.mem_append_left _ (List.mem_append_left _ (List.mem_append_left _ (List.mem_append_left _ (List.mem_append_right _ h)))))
theorem inX1 : ∀ w ∈ wsX10, w ∈ lw_tbl := fun w h => wsL_law_in w (inlX1 w h)
theorem inlX2 : ∀ w ∈ wsX20, w ∈ wsL_law := fun _ h => List.mem_append_left _ (List.mem_append_left _ (List.mem_append_left _ (List.mem_append_left _ (List.mem_append_left _ (List.mem_append_left _ (List.mem_append_left _ (List.mem_append_right _ h)))))))
theorem inX2 : ∀ w ∈ wsX20, w ∈ lw_tbl := fun w h => wsL_law_in w (inlX2 w h)
theorem inlX3 : ∀ w ∈ wsX30, w ∈ wsL_law := fun _ h => List.mem_append_left _ (List.mem_append_left _ (List.mem_append_left _ (List.mem_append_left _ (List.mem_append_left _ (List.mem_append_left _ (List.mem_append_right _ h))))))
theorem inX3 : ∀ w ∈ wsX30, w ∈ lw_tbl := fun w h => wsL_law_in w (inlX3 w h)
theorem inJx8e188 : ∀ w ∈ wsJx8e1880, w ∈ lw_tbl := by decide +kernel
theorem inJ9 : ∀ w ∈ wsJ90, w ∈ lw_tbl := by decide +kernel
theorem inJ0 : ∀ w ∈ wsJ00, w ∈ lw_tbl := by decide +kernel
theorem inJ10 : ∀ w ∈ wsJ100, w ∈ lw_tbl := by decide +kernel
