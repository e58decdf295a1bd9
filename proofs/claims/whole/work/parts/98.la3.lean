set_option maxRecDepth 20000 in
theorem lin_p29 : ∀ w ∈ wsL_law_r29, w ∈ lw_tbl := fun w h => (goodIn_p wsL_law_r29 [659, 663, 1000, 668, 672] rfl (by decide +kernel) w h).1
set_option maxRecDepth 20000 in
theorem lin_p30 : ∀ w ∈ wsL_law_r30, w ∈ lw_tbl := fun w h => (goodIn_p wsL_law_r30 [1004, 1008, 677, 1012, 682] rfl (by decide +kernel) w h).1
set_option maxRecDepth 20000 in
theorem lin_p31 : ∀ w ∈ wsL_law_r31, w ∈ lw_tbl := fun w h => (goodIn_p wsL_law_r31 [1016, 686, 690, 1020, 694, 699] rfl (by decide +kernel) w h).1
set_option maxRecDepth 20000 in
theorem lin_p32 : ∀ w ∈ wsL_law_r32, w ∈ lw_tbl := fun w h => (goodIn_p wsL_law_r32 [1024, 705, 709, 1029, 713] rfl (by decide +kernel) w h).1
set_option maxRecDepth 20000 in
theorem lin_p33 : ∀ w ∈ wsL_law_r33, w ∈ lw_tbl := fun w h => (goodIn_p wsL_law_r33 [1033] rfl (by decide +kernel) w h).1
set_option maxRecDepth 20000 in
theorem lin_p34 : ∀ w ∈ wsX60, w ∈ lw_tbl := fun w h => (goodIn_p wsX60 [] rfl (by decide +kernel) w h).1
set_option maxRecDepth 20000 in
theorem lin_p35 : ∀ w ∈ wsX70, w ∈ lw_tbl := fun w h => (goodIn_p wsX70 [] rfl (by decide +kernel) w h).1
set_option maxRecDepth 20000 in
theorem lin_p36 : ∀ w ∈ wsJx4a65c0, w ∈ lw_tbl := fun w h => (goodIn_p wsJx4a65c0 [] rfl (by decide +kernel) w h).1
set_option maxRecDepth 20000 in
theorem lin_p37 : ∀ w ∈ wsX30, w ∈ lw_tbl := fun w h => (goodIn_p wsX30 [] rfl (by decide +kernel) w h).1
set_option maxRecDepth 20000 in
theorem lin_p38 : ∀ w ∈ wsX10, w ∈ lw_tbl := fun w h => (goodIn_p wsX10 [] rfl (by decide +kernel) w h).1
set_option maxRecDepth 20000 in
theorem lin_p39 : ∀ w ∈ wsX50, w ∈ lw_tbl := fun w h => (goodIn_p wsX50 [] rfl (by decide +kernel) w h).1
set_option maxRecDepth 20000 in
theorem lin_p40 : ∀ w ∈ wsX40, w ∈ lw_tbl := fun w h => (goodIn_p wsX40 [] rfl (by decide +kernel) w h).1
set_option maxRecDepth 20000 in
theorem lin_p41 : ∀ w ∈ wsX00, w ∈ lw_tbl := fun w h => (goodIn_p wsX00 [] rfl (by decide +kernel) w h).1
set_option maxRecDepth 20000 in
theorem lin_p42 : ∀ w ∈ wsX20, w ∈ lw_tbl := fun w h => (goodIn_p wsX20 [] rfl (by decide +kernel) w h).1
theorem wsL_law_in : ∀ w ∈ wsL_law, w ∈ lw_tbl := (lin_app (lin_app (lin_app (lin_app (lin_app (lin_app (lin_app (lin_app (lin_app (lin_app (lin_app lin_p1 (lin_app lin_p2 (lin_app lin_p3 (lin_app lin_p4 (lin_app lin_p5 (lin_app lin_p6 (lin_app lin_p7 (lin_app lin_p8 (lin_app lin_p9 (lin_app lin_p10 (lin_app lin_p11 (lin_app lin_p12 (lin_app lin_p13 (lin_app lin_p14 (lin_app lin_p15 (lin_app lin_p16 (lin_app lin_p17 (lin_app lin_p18 (lin_app lin_p19 (lin_app lin_p20 (lin_app lin_p21 (lin_app lin_p22 (lin_app lin_p23 (lin_app lin_p24 (lin_app lin_p25 (lin_app lin_p26 (lin_app lin_p27 (lin_app lin_p28 (lin_app lin_p29 (lin_app lin_p30 (lin_app lin_p31 (lin_app lin_p32 lin_p33)))))))))))))))))))))))))))))))) lin_p34) lin_p35) lin_p36) lin_p37) lin_p38) lin_p39) lin_p40) lin_p41) lin_p42) lin_nil)
theorem inlX0 : ∀ w ∈ wsX00, w ∈ wsL_law := fun _ h => List.mem_append_left _ (List.mem_append_left _ (List.mem_append_right _ h))
theorem inX0 : ∀ w ∈ wsX00, w ∈ lw_tbl := fun w h => wsL_law_in w (inlX0 w h)
theorem inlX1 : ∀ w ∈ wsX10, w ∈ wsL_law := fun _ h => List.mem_append_left _ (List.mem_append_left _ (List.mem_append_left _ (List.mem_append_left _ (List.mem_append_left _ (List.mem_append_right _ h)))))
theorem inX1 : ∀ w ∈ wsX10, w ∈ lw_tbl := fun w h => wsL_law_in w (inlX1 w h)
theorem inlX2 : ∀ w ∈ wsX20, w ∈ wsL_law := fun _ h => List.mem_append_left _ (List.mem_append_right _ h)
theorem inX2 : ∀ w ∈ wsX20, w ∈ lw_tbl := fun w h => wsL_law_in w (inlX2 w h)
theorem inlX3 : ∀ w ∈ wsX30, w ∈ wsL_law := fun _ h => List.mem_append_left _ (List.mem_append_left _ (List.mem_append_left _ (List.mem_append_left _ (List.mem_append_left _ (List.mem_append_left _ (List.mem_append_right _ h))))))
theorem inX3 : ∀ w ∈ wsX30, w ∈ lw_tbl := fun w h => wsL_law_in w (inlX3 w h)
theorem inlX4 : ∀ w ∈ wsX40, w ∈ wsL_law := fun _ h => List.mem_append_left _ (List.mem_append_left _ (List.mem_append_left _ (List.mem_append_right _ h)))
theorem inX4 : ∀ w ∈ wsX40, w ∈ lw_tbl := fun w h => wsL_law_in w (inlX4 w h)
theorem inlX5 : ∀ w ∈ wsX50, w ∈ wsL_law := fun _ h => List.mem_append_left _ (List.mem_append_left _ (List.mem_append_left _ (List.mem_append_left _ (List.mem_append_right _ h))))
theorem inX5 : ∀ w ∈ wsX50, w ∈ lw_tbl := fun w h => wsL_law_in w (inlX5 w h)
theorem inlX6 : ∀ w ∈ wsX60, w ∈ wsL_law := fun _ h => List.mem_append_left _ (List.mem_append_left _ (List.mem_append_left _ (List.mem_append_left _ (List.mem_append_left _ (List.mem_append_left _ (List.mem_append_left _ (List.mem_append_left _ (List.mem_append_left _ (List.mem_append_right _ h)))))))))
theorem inX6 : ∀ w ∈ wsX60, w ∈ lw_tbl := fun w h => wsL_law_in w (inlX6 w h)
theorem inlX7 : ∀ w ∈ wsX70, w ∈ wsL_law := fun _ h => List.mem_append_left _ (List.mem_append_left _ (List.mem_append_left _ (List.mem_append_left _ (List.mem_append_left _ (List.mem_append_left _ (List.mem_append_left _ (List.mem_append_left _ (List.mem_append_right _ h))))))))
theorem inX7 : ∀ w ∈ wsX70, w ∈ lw_tbl := fun w h => wsL_law_in w (inlX7 w h)
theorem inJ6 : ∀ w ∈ wsJ60, w ∈ lw_tbl := by decide +kernel
theorem inJ9 : ∀ w ∈ wsJ90, w ∈ lw_tbl := by decide +kernel
theorem inJ10 : ∀ w ∈ wsJ100, w ∈ lw_tbl := by decide +kernel
theorem inlJx4a65c : ∀ w ∈ wsJx4a65c0, w ∈ wsL_law := fun _ h => List.mem_append_left _ (List.mem_append_left _ (List.mem_append_left _ (List.mem_append_left _ (List.mem_append_left _ (List.mem_append_left _ (List.mem_append_left _ (List.mem_append_right _ h)))))))
theorem inJ7 : ∀ w ∈ wsJ70, w ∈ lw_tbl := by decide +kernel
theorem inJ15 : ∀ w ∈ wsJ150, w ∈ lw_tbl := by decide +kernel
theorem inJ8 : ∀ w ∈ wsJ80, w ∈ lw_tbl := by decide +kernel
theorem inJ3 : ∀ w ∈ wsJ30, w ∈ lw_tbl := by decide +kernel
