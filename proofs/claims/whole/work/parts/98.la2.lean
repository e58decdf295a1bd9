set_option maxRecDepth 20000 in
theorem lin_p15 : ∀ w ∈ wsL_law_r15, w ∈ lw_tbl := fun w h => (goodIn_p wsL_law_r15 [436, 440, 444, 448] rfl (by decide +kernel) w h).1
set_option maxRecDepth 20000 in
theorem lin_p16 : ∀ w ∈ wsL_law_r16, w ∈ lw_tbl := fun w h => (goodIn_p wsL_law_r16 [463, 470, 473, 477, 482] rfl (by decide +kernel) w h).1
set_option maxRecDepth 20000 in
theorem lin_p17 : ∀ w ∈ wsL_law_r17, w ∈ lw_tbl := fun w h => (goodIn_p wsL_law_r17 [487, 492, 496, 500, 504] rfl (by decide +kernel) w h).1
set_option maxRecDepth 20000 in
theorem lin_p18 : ∀ w ∈ wsL_law_r18, w ∈ lw_tbl := fun w h => (goodIn_p wsL_law_r18 [508, 512, 516, 519, 523, 528] rfl (by decide +kernel) w h).1
set_option maxRecDepth 20000 in
theorem lin_p19 : ∀ w ∈ wsL_law_r19, w ∈ lw_tbl := fun w h => (goodIn_p wsL_law_r19 [531, 534, 540, 544, 548, 552] rfl (by decide +kernel) w h).1
set_option maxRecDepth 20000 in
theorem lin_p20 : ∀ w ∈ wsL_law_r20, w ∈ lw_tbl := fun w h => (goodIn_p wsL_law_r20 [555, 560, 563, 579] rfl (by decide +kernel) w h).1
set_option maxRecDepth 20000 in
theorem lin_p21 : ∀ w ∈ wsL_law_r21, w ∈ lw_tbl := fun w h => (goodIn_p wsL_law_r21 [592, 596, 600, 604] rfl (by decide +kernel) w h).1
set_option maxRecDepth 20000 in
theorem lin_p22 : ∀ w ∈ wsL_law_r22, w ∈ lw_tbl := fun w h => (goodIn_p wsL_law_r22 [616, 619, 623, 628] rfl (by decide +kernel) w h).1
set_option maxRecDepth 20000 in
theorem lin_p23 : ∀ w ∈ wsL_law_r23, w ∈ lw_tbl := fun w h => (goodIn_p wsL_law_r23 [632, 638, 641, 904, 908] rfl (by decide +kernel) w h).1
set_option maxRecDepth 20000 in
theorem lin_p24 : ∀ w ∈ wsL_law_r24, w ∈ lw_tbl := fun w h => (goodIn_p wsL_law_r24 [912, 919] rfl (by decide +kernel) w h).1
set_option maxRecDepth 20000 in
theorem lin_p25 : ∀ w ∈ wsL_law_r25, w ∈ lw_tbl := fun w h => (goodIn_p wsL_law_r25 [923, 927, 932, 937, 941] rfl (by decide +kernel) w h).1
set_option maxRecDepth 20000 in
theorem lin_p26 : ∀ w ∈ wsL_law_r26, w ∈ lw_tbl := fun w h => (goodIn_p wsL_law_r26 [945, 949, 953, 957, 960, 964] rfl (by decide +kernel) w h).1
set_option maxRecDepth 20000 in
theorem lin_p27 : ∀ w ∈ wsL_law_r27, w ∈ lw_tbl := fun w h => (goodIn_p wsL_law_r27 [968, 972, 980, 984] rfl (by decide +kernel) w h).1
set_option maxRecDepth 20000 in
theorem lin_p28 : ∀ w ∈ wsL_law_r28, w ∈ lw_tbl := fun w h => (goodIn_p wsL_law_r28 [989, 994, 645, 649, 652, 655] rfl (by decide +kernel) w h).1
