/-! all of the law's words are in the table -/
set_option maxRecDepth 20000 in
theorem wsL_law0_x2 : ∀ w ∈ wsX20, w ∈ lw_tbl := by decide +kernel
set_option maxRecDepth 20000 in
theorem wsL_law0_x4 : ∀ w ∈ wsX40, w ∈ lw_tbl := by decide +kernel
set_option maxRecDepth 20000 in
theorem wsL_law0_x1 : ∀ w ∈ wsX10, w ∈ lw_tbl := by decide +kernel
set_option maxRecDepth 20000 in
theorem wsL_law0_x0 : ∀ w ∈ wsX00, w ∈ lw_tbl := by decide +kernel
set_option maxRecDepth 20000 in
theorem wsL_law0_x3 : ∀ w ∈ wsX30, w ∈ lw_tbl := by decide +kernel
theorem wsL_law_in0 : ∀ w ∈ wsL_law0, w ∈ lw_tbl := fun w h => (List.mem_append.mp h).elim (fun h => (List.mem_append.mp h).elim (fun h => (List.mem_append.mp h).elim (fun h => (List.mem_append.mp h).elim (fun h => (List.mem_append.mp h).elim (fun h => (List.mem_append.mp h).elim (fun h => (List.mem_append.mp h).elim (fun h => wsL_law0_i1 w h) (fun h => (List.mem_append.mp h).elim (fun h => wsL_law0_i2 w h) (fun h => (List.mem_append.mp h).elim (fun h => wsL_law0_i3 w h) (fun h => (List.mem_append.mp h).elim (fun h => wsL_law0_i4 w h) (fun h => (List.mem_append.mp h).elim (fun h => wsL_law0_i5 w h) (fun h => (List.mem_append.mp h).elim (fun h => wsL_law0_i6 w h) (fun h => (List.mem_append.mp h).elim (fun h => wsL_law0_i7 w h) (fun h => (List.mem_append.mp h).elim (fun h => wsL_law0_i8 w h) (fun h => (List.mem_append.mp h).elim (fun h => wsL_law0_i9 w h) (fun h => (List.mem_append.mp h).elim (fun h => wsL_law0_i10 w h) (fun h => (List.mem_append.mp h).elim (fun h => wsL_law0_i11 w h) (fun h => (List.mem_append.mp h).elim (fun h => wsL_law0_i12 w h) (fun h => (List.mem_append.mp h).elim (fun h => wsL_law0_i13 w h) (fun h => (List.mem_append.mp h).elim (fun h => wsL_law0_i14 w h) (fun h => (List.mem_append.mp h).elim (fun h => wsL_law0_i15 w h) (fun h => (List.mem_append.mp h).elim (fun h => wsL_law0_i16 w h) (fun h => (List.mem_append.mp h).elim (fun h => wsL_law0_i17 w h) (fun h => (List.mem_append.mp h).elim (fun h => wsL_law0_i18 w h) (fun h => (List.mem_append.mp h).elim (fun h => wsL_law0_i19 w h) (fun h => (List.mem_append.mp h).elim (fun h => wsL_law0_i20 w h) (fun h => wsL_law0_i21 w h))))))))))))))))))))) (fun h => wsL_law0_x2 w h)) (fun h => wsL_law0_x4 w h)) (fun h => wsL_law0_x1 w h)) (fun h => wsL_law0_x0 w h)) (fun h => wsL_law0_x3 w h)) (fun h => absurd h List.not_mem_nil)
theorem wsL_law_x0 : ∀ w ∈ (vx_atS RX2 36 "java/lang/IllegalArgumentException" ["java/lang/RuntimeException", "java/lang/Exception"]).filter goodWord, w ∈ lw_tbl := by decide +kernel
theorem wsL_law_x1 : ∀ w ∈ (vx_atS RX2 49 "java/lang/IllegalStateException" ["java/lang/RuntimeException", "java/lang/Exception"]).filter goodWord, w ∈ lw_tbl := by decide +kernel
theorem wsL_law_x2 : ∀ w ∈ (vx_atS RX2 58 "java/lang/IndexOutOfBoundsException" ["java/lang/RuntimeException", "java/lang/Exception"]).filter goodWord, w ∈ lw_tbl := by decide +kernel
theorem wsL_law_in : ∀ w ∈ wsL_law, w ∈ lw_tbl := fun w h => (List.mem_append.mp h).elim (fun h => (List.mem_append.mp h).elim (fun h => (List.mem_append.mp h).elim (fun h => wsL_law_in0 w h) (fun h => wsL_law_x0 w h)) (fun h => wsL_law_x1 w h)) (fun h => wsL_law_x2 w h)
theorem inlX0 : ∀ w ∈ wsX00, w ∈ wsL_law := fun _ h => List.mem_append_left _ (List.mem_append_left _ (List.mem_append_left _ (List.mem_append_left _ (List.mem_append_left _ (List.mem_append_right _ h)))))
theorem inX0 : ∀ w ∈ wsX00, w ∈ lw_tbl := fun w h => wsL_law_in w (inlX0 w h)
theorem inlX1 : ∀ w ∈ wsX10, w ∈ wsL_law := fun _ h => List.mem_append_left _ (List.mem_append_left _ (List.mem_append_left _ (List.mem_append_left _ (List.mem_append_left _ (List.mem_append_left _ (List.mem_append_right _ h))))))
theorem inX1 : ∀ w ∈ wsX10, w ∈ lw_tbl := fun w h => wsL_law_in w (inlX1 w h)
theorem inlX2 : ∀ w ∈ wsX20, w ∈ wsL_law := fun _ h => List.mem_append_left _ (List.mem_append_left _ (List.mem_append_left _ (List.mem_append_left _ (List.mem_append_left _ (List.mem_append_left _ (List.mem_append_left _ (List.mem_append_left _ (List.mem_append_right _ h))))))))
theorem inX2 : ∀ w ∈ wsX20, w ∈ lw_tbl := fun w h => wsL_law_in w (inlX2 w h)
theorem inlX3 : ∀ w ∈ wsX30, w ∈ wsL_law := fun _ h => List.mem_append_left _ (List.mem_append_left _ (List.mem_append_left _ (List.mem_append_left _ (List.mem_append_right _ h))))
theorem inX3 : ∀ w ∈ wsX30, w ∈ lw_tbl := fun w h => wsL_law_in w (inlX3 w h)
theorem inlX4 : ∀ w ∈ wsX40, w ∈ wsL_law := fun _ h => List.mem_append_left _ (List.mem_append_left _ (List.mem_append_left _ (List.mem_append_left _ (List.mem_append_left _ (List.mem_append_left _ (List.mem_append_left _ (List.mem_append_right _ h)))))))
theorem inX4 : ∀ w ∈ wsX40, w ∈ lw_tbl := fun w h => wsL_law_in w (inlX4 w h)
theorem inJ9 : ∀ w ∈ wsJ90, w ∈ lw_tbl := by decide +kernel
theorem inJ0 : ∀ w ∈ wsJ00, w ∈ lw_tbl := by decide +kernel
theorem inJ10 : ∀ w ∈ wsJ100, w ∈ lw_tbl := by decide +kernel
