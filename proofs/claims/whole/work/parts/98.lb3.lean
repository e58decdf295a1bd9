set_option maxRecDepth 20000 in
theorem ggL_law_X7_end_p1 : GoodIn wsL_law [.fieldLink RX7 110 "SoundBenchModel" "place" "I", .fieldLink RX7 103 "SoundBenchModel" "taped" "I"] := goodIn_r _ [184, 171] (by decide +kernel) (by decide +kernel)
set_option maxRecDepth 20000 in
theorem ggL_law_X7_end_c : GoodIn wsL_law [.code yX7_end cX7_end 2 (some .int)] := goodIn_r _ [183] (by decide +kernel) (by decide +kernel)
theorem ggL_law_X7_end : GoodIn wsL_law wsX7_end := goodIn_app (a := [.code yX7_end cX7_end 2 (some .int)]) ggL_law_X7_end_c (goodIn_app ggL_law_X7_end_p1 ggL_t_wsX70)
set_option maxRecDepth 20000 in
theorem gL_law_X7_end : GoodIn wsL_law (wsV RL 22 RX7 yX7_end wsX7_end) := goodIn_app (goodIn_of _ (by decide +kernel)) ggL_law_X7_end
set_option maxRecDepth 20000 in
theorem ggL_law_X6_set_p1 : GoodIn wsL_law [.fieldLink RX6 17 "SoundBench" "place" "I", .fieldLink RX6 13 "SoundBench" "length" "I", .fieldLink RX6 9 "SoundBench" "tape" "[I"] := goodIn_r _ [15, 14, 13] (by decide +kernel) (by decide +kernel)
set_option maxRecDepth 20000 in
theorem ggL_law_X6_set_c : GoodIn wsL_law [.code yX6_set cX6_set 4 (some .int)] := goodIn_r _ [188] (by decide +kernel) (by decide +kernel)
theorem ggL_law_X6_set : GoodIn wsL_law wsX6_set := goodIn_app (a := [.code yX6_set cX6_set 4 (some .int)]) ggL_law_X6_set_c (goodIn_app ggL_law_X6_set_p1 ggL_t_wsX60)
set_option maxRecDepth 20000 in
theorem gL_law_X6_set : GoodIn wsL_law (wsV RL 23 RX6 yX6_set wsX6_set) := goodIn_app (goodIn_of _ (by decide +kernel)) ggL_law_X6_set
set_option maxRecDepth 20000 in
theorem ggL_law_X7_set_p1 : GoodIn wsL_law [.fieldLink RX7 110 "SoundBenchModel" "place" "I", .fieldLink RX7 103 "SoundBenchModel" "taped" "I", .fieldLink RX7 9 "SoundBenchModel" "tape" "[B"] := goodIn_r _ [184, 171, 106] (by decide +kernel) (by decide +kernel)
set_option maxRecDepth 20000 in
theorem ggL_law_X7_set_c : GoodIn wsL_law [.code yX7_set cX7_set 4 (some .int)] := goodIn_r _ [192] (by decide +kernel) (by decide +kernel)
theorem ggL_law_X7_set : GoodIn wsL_law wsX7_set := goodIn_app (a := [.code yX7_set cX7_set 4 (some .int)]) ggL_law_X7_set_c (goodIn_app ggL_law_X7_set_p1 ggL_t_wsX70)
set_option maxRecDepth 20000 in
theorem gL_law_X7_set : GoodIn wsL_law (wsV RL 27 RX7 yX7_set wsX7_set) := goodIn_app (goodIn_of _ (by decide +kernel)) ggL_law_X7_set
set_option maxRecDepth 20000 in
theorem ggL_law_X6_clear_p1 : GoodIn wsL_law wsX6_clear_r1 := goodIn_r _ [19, 14, 15, 20, 36, 37, 197, 198, 199, 18, 200, 201, 202, 203, 204, 205, 206, 207, 42, 208, 209, 210, 35, 211] (by decide +kernel) (by decide +kernel)
set_option maxRecDepth 20000 in
theorem ggL_law_X6_clear_p2 : GoodIn wsL_law wsX6_clear_r2 := goodIn_r _ [96, 212, 213, 214, 215, 216, 217] (by decide +kernel) (by decide +kernel)
set_option maxRecDepth 20000 in
theorem ggL_law_X6_clear_c : GoodIn wsL_law [.code yX6_clear cX6_clear 2 (some .int)] := goodIn_r _ [196] (by decide +kernel) (by decide +kernel)
theorem ggL_law_X6_clear : GoodIn wsL_law wsX6_clear := goodIn_app (a := [.code yX6_clear cX6_clear 2 (some .int)]) ggL_law_X6_clear_c (goodIn_app (goodIn_app (goodIn_app (goodIn_app ggL_law_X6_clear_p1 ggL_law_X6_clear_p2) ggL_t_wsX60) ggL_t_wsJx4a65c0) ggL_t_wsX40)
set_option maxRecDepth 20000 in
theorem gL_law_X6_clear : GoodIn wsL_law (wsV RL 28 RX6 yX6_clear wsX6_clear) := goodIn_app (goodIn_of _ (by decide +kernel)) ggL_law_X6_clear
set_option maxRecDepth 20000 in
theorem ggL_law_X7_clear_p1 : GoodIn wsL_law [.fieldLink RX7 113 "SoundBenchModel" "frames" "I", .fieldLink RX7 103 "SoundBenchModel" "taped" "I", .fieldLink RX7 110 "SoundBenchModel" "place" "I", .fieldLink RX7 116 "SoundBenchModel" "decoded" "I", .fieldLink RX7 119 "SoundBenchModel" "hasOne" "Z", .fieldLink RX7 22 "SoundBenchModel" "pcms" "[I", .fieldLink RX7 26 "SoundBenchModel" "v" "[[I"] := goodIn_r _ [222, 171, 184, 223, 224, 111, 112] (by decide +kernel) (by decide +kernel)
set_option maxRecDepth 20000 in
theorem ggL_law_X7_clear_c : GoodIn wsL_law [.code yX7_clear cX7_clear 4 (some .int)] := goodIn_r _ [221] (by decide +kernel) (by decide +kernel)
theorem ggL_law_X7_clear : GoodIn wsL_law wsX7_clear := goodIn_app (a := [.code yX7_clear cX7_clear 4 (some .int)]) ggL_law_X7_clear_c (goodIn_app ggL_law_X7_clear_p1 ggL_t_wsX70)
set_option maxRecDepth 20000 in
theorem gL_law_X7_clear : GoodIn wsL_law (wsV RL 32 RX7 yX7_clear wsX7_clear) := goodIn_app (goodIn_of _ (by decide +kernel)) ggL_law_X7_clear
