set_option maxRecDepth 1000000 in
theorem wsL_law_x0 : ∀ w ∈ (vx_atS RX3 38 "java/lang/IllegalArgumentException" ["java/lang/RuntimeException", "java/lang/Exception"]).filter goodWord, w ∈ lw_tbl := lw_mem _ [32, 218, 227, 231, 234, 236, 219, 220, 47, 48, 221, 226, 232, 252, 208, 253, 210, 254, 212, 222, 224, 214, 248, 249, 251, 214, 275, 276, 277, 242, 242, 243, 244, 245, 245, 246, 247, 248, 274, 265, 267, 229, 268, 269, 270, 271, 217, 216, 272] rfl
set_option maxRecDepth 1000000 in
theorem wsL_law_x1 : ∀ w ∈ (vx_atS RX3 175 "java/lang/IndexOutOfBoundsException" ["java/lang/RuntimeException", "java/lang/Exception"]).filter goodWord, w ∈ lw_tbl := lw_mem _ [32, 218, 227, 231, 234, 236, 219, 220, 47, 48, 221, 226, 232, 252, 208, 253, 210, 254, 212, 222, 224, 214, 248, 249, 251, 214, 239, 240, 241, 242, 242, 243, 244, 245, 245, 246, 247, 248, 238, 197, 205, 206, 207, 209, 211, 213, 217, 216, 215] rfl
set_option maxRecDepth 1000000 in
theorem wsL_law_x2 : ∀ w ∈ (vx_atS RX3 120 "java/lang/IllegalStateException" ["java/lang/RuntimeException", "java/lang/Exception"]).filter goodWord, w ∈ lw_tbl := lw_mem _ [32, 218, 227, 231, 234, 236, 219, 220, 47, 48, 221, 226, 232, 252, 208, 253, 210, 254, 212, 222, 224, 214, 248, 249, 251, 214, 311, 312, 313, 242, 242, 243, 244, 245, 245, 246, 247, 248, 310, 301, 303, 230, 304, 305, 306, 307, 217, 216, 308] rfl
theorem wsL_law_in : ∀ w ∈ wsL_law, w ∈ lw_tbl := fun w h => (List.mem_append.mp h).elim (fun h => (List.mem_append.mp h).elim (fun h => (List.mem_append.mp h).elim (fun h => wsL_law_in0 w h) (fun h => wsL_law_x0 w h)) (fun h => wsL_law_x1 w h)) (fun h => wsL_law_x2 w h)
theorem inlX0 : ∀ w ∈ wsX00, w ∈ wsL_law := fun _ h => List.mem_append_left _ (List.mem_append_left _ (List.mem_append_left _ (List.mem_append_left _ (List.mem_append_left _ (List.mem_append_left _ (List.mem_append_right _ h))))))
theorem inX0 : ∀ w ∈ wsX00, w ∈ lw_tbl := fun w h => wsL_law_in w (inlX0 w h)
theorem inlX1 : ∀ w ∈ wsX10, w ∈ wsL_law := fun _ h => List.mem_append_left _ (List.mem_append_left _ (List.mem_append_left _ (List.mem_append_left _ (List.mem_append_right _ h))))
theorem inX1 : ∀ w ∈ wsX10, w ∈ lw_tbl := fun w h => wsL_law_in w (inlX1 w h)
theorem inlX2 : ∀ w ∈ wsX20, w ∈ wsL_law := fun _ h => List.mem_append_left _ (List.mem_append_left _ (List.mem_append_left _ (List.mem_append_left _ (List.mem_append_left _ (List.mem_append_right _ h)))))
theorem inX2 : ∀ w ∈ wsX20, w ∈ lw_tbl := fun w h => wsL_law_in w (inlX2 w h)
theorem inlX3 : ∀ w ∈ wsX30, w ∈ wsL_law := fun _ h => List.mem_append_left _ (List.mem_append_left _ (List.mem_append_left _ (List.mem_append_left _ (List.mem_append_left _ (List.mem_append_left _ (List.mem_append_left _ (List.mem_append_left _ (List.mem_append_right _ h))))))))
theorem inX3 : ∀ w ∈ wsX30, w ∈ lw_tbl := fun w h => wsL_law_in w (inlX3 w h)
theorem inlX4 : ∀ w ∈ wsX40, w ∈ wsL_law := fun _ h => List.mem_append_left _ (List.mem_append_left _ (List.mem_append_left _ (List.mem_append_left _ (List.mem_append_left _ (List.mem_append_left _ (List.mem_append_left _ (List.mem_append_right _ h)))))))
theorem inX4 : ∀ w ∈ wsX40, w ∈ lw_tbl := fun w h => wsL_law_in w (inlX4 w h)
set_option maxRecDepth 1000000 in
theorem inJ9 : ∀ w ∈ wsJ90, w ∈ lw_tbl := lw_mem _ [] rfl
set_option maxRecDepth 1000000 in
theorem inJ0 : ∀ w ∈ wsJ00, w ∈ lw_tbl := lw_mem _ [] rfl
set_option maxRecDepth 1000000 in
theorem inJ10 : ∀ w ∈ wsJ100, w ∈ lw_tbl := lw_mem _ [] rfl
set_option maxRecDepth 1000000 in
theorem inJ7 : ∀ w ∈ wsJ70, w ∈ lw_tbl := lw_mem _ [] rfl
