theorem lin_app {a b : List Cond} (ha : ∀ w ∈ a, w ∈ lw_tbl) (hb : ∀ w ∈ b, w ∈ lw_tbl) : ∀ w ∈ a ++ b, w ∈ lw_tbl := fun w h => by
  rcases List.mem_append.mp h with h | h
  · exact ha w h
  · exact hb w h
theorem lin_nil : ∀ w ∈ ([] : List Cond), w ∈ lw_tbl := fun w h => by cases h
set_option maxRecDepth 20000 in
theorem lin_p1 : ∀ w ∈ wsL_law_r1, w ∈ lw_tbl := fun w h => (goodIn_p wsL_law_r1 [73, 76] rfl (by decide +kernel) w h).1
set_option maxRecDepth 20000 in
theorem lin_p2 : ∀ w ∈ wsL_law_r2, w ∈ lw_tbl := fun w h => (goodIn_p wsL_law_r2 [81, 84] rfl (by decide +kernel) w h).1
set_option maxRecDepth 20000 in
theorem lin_p3 : ∀ w ∈ wsL_law_r3, w ∈ lw_tbl := fun w h => (goodIn_p wsL_law_r3 [87, 108, 114, 151] rfl (by decide +kernel) w h).1
set_option maxRecDepth 20000 in
theorem lin_p4 : ∀ w ∈ wsL_law_r4, w ∈ lw_tbl := fun w h => (goodIn_p wsL_law_r4 [183, 187, 190, 195, 198, 214] rfl (by decide +kernel) w h).1
set_option maxRecDepth 20000 in
theorem lin_p5 : ∀ w ∈ wsL_law_r5, w ∈ lw_tbl := fun w h => (goodIn_p wsL_law_r5 [718] rfl (by decide +kernel) w h).1
set_option maxRecDepth 20000 in
theorem lin_p6 : ∀ w ∈ wsL_law_r6, w ∈ lw_tbl := fun w h => (goodIn_p wsL_law_r6 [] rfl (by decide +kernel) w h).1
set_option maxRecDepth 20000 in
theorem lin_p7 : ∀ w ∈ wsL_law_r7, w ∈ lw_tbl := fun w h => (goodIn_p wsL_law_r7 [271, 275] rfl (by decide +kernel) w h).1
set_option maxRecDepth 20000 in
theorem lin_p8 : ∀ w ∈ wsL_law_r8, w ∈ lw_tbl := fun w h => (goodIn_p wsL_law_r8 [884, 888, 279, 892, 283] rfl (by decide +kernel) w h).1
set_option maxRecDepth 20000 in
theorem lin_p9 : ∀ w ∈ wsL_law_r9, w ∈ lw_tbl := fun w h => (goodIn_p wsL_law_r9 [896, 287, 291, 295, 299] rfl (by decide +kernel) w h).1
set_option maxRecDepth 20000 in
theorem lin_p10 : ∀ w ∈ wsL_law_r10, w ∈ lw_tbl := fun w h => (goodIn_p wsL_law_r10 [302, 900, 306, 310, 343] rfl (by decide +kernel) w h).1
set_option maxRecDepth 20000 in
theorem lin_p11 : ∀ w ∈ wsL_law_r11, w ∈ lw_tbl := fun w h => (goodIn_p wsL_law_r11 [314, 318, 321, 324, 327, 332] rfl (by decide +kernel) w h).1
set_option maxRecDepth 20000 in
theorem lin_p12 : ∀ w ∈ wsL_law_r12, w ∈ lw_tbl := fun w h => (goodIn_p wsL_law_r12 [337, 340, 348, 360] rfl (by decide +kernel) w h).1
set_option maxRecDepth 20000 in
theorem lin_p13 : ∀ w ∈ wsL_law_r13, w ∈ lw_tbl := fun w h => (goodIn_p wsL_law_r13 [352, 356, 409, 413] rfl (by decide +kernel) w h).1
set_option maxRecDepth 20000 in
theorem lin_p14 : ∀ w ∈ wsL_law_r14, w ∈ lw_tbl := fun w h => (goodIn_p wsL_law_r14 [419, 423, 428, 432] rfl (by decide +kernel) w h).1
