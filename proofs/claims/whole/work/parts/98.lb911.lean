set_option maxRecDepth 20000 in
theorem ggL_law_X6_count_p1 : GoodIn wsL_law [.fieldLink RX6 13 "SoundBench" "length" "I", .fieldLink RX6 17 "SoundBench" "place" "I", .fieldLink RX6 23 "SoundBench" "frames" "Ljava/util/ArrayList;", .fieldLink RX6 27 "SoundBench" "decoded" "I", .fieldLink RX6 55 "SoundBench" "firstVoice" "LSoundBench$Voice;", .fieldLink RX6 124 "SoundBench$Voice" "made" "I", .fieldLink RX6 59 "SoundBench" "secondVoice" "LSoundBench$Voice;", .methodLink RX6 66 yJx4a65c_size_8abf5, .instanceMethod yJx4a65c_size_8abf5, .selects RJx4a65c yJx4a65c_size_8abf5 yJx4a65c_size_8abf5, .initialized RJx4a65c, .code yJx4a65c_size_8abf5 cJx4a65c_size_8abf5 1 (some .int), .fieldLink RJx4a65c 48 "java/util/ArrayList" "size" "I"] := goodIn_r _ [14, 15, 19, 20, 36, 767, 37, 197, 198, 199, 18, 200, 201] (by decide +kernel) (by decide +kernel)
set_option maxRecDepth 20000 in
theorem ggL_law_X6_count_c : GoodIn wsL_law [.code yX6_count cX6_count 2 (some .int)] := goodIn_r _ [766] (by decide +kernel) (by decide +kernel)
theorem ggL_law_X6_count : GoodIn wsL_law wsX6_count := goodIn_app (a := [.code yX6_count cX6_count 2 (some .int)]) ggL_law_X6_count_c (goodIn_app (goodIn_app (goodIn_app ggL_law_X6_count_p1 ggL_t_wsX60) ggL_t_wsX40) ggL_t_wsJx4a65c0)
set_option maxRecDepth 20000 in
theorem gL_law_X6_count : GoodIn wsL_law (wsV RL 66 RX6 yX6_count wsX6_count) := goodIn_app (goodIn_of _ (by decide +kernel)) ggL_law_X6_count
set_option maxRecDepth 20000 in
theorem ggL_law_X7_count_p1 : GoodIn wsL_law [.fieldLink RX7 103 "SoundBenchModel" "taped" "I", .fieldLink RX7 110 "SoundBenchModel" "place" "I", .fieldLink RX7 113 "SoundBenchModel" "frames" "I", .fieldLink RX7 116 "SoundBenchModel" "decoded" "I", .fieldLink RX7 22 "SoundBenchModel" "pcms" "[I"] := goodIn_r _ [171, 184, 222, 223, 111] (by decide +kernel) (by decide +kernel)
set_option maxRecDepth 20000 in
theorem ggL_law_X7_count_c : GoodIn wsL_law [.code yX7_count cX7_count 2 (some .int)] := goodIn_r _ [771] (by decide +kernel) (by decide +kernel)
theorem ggL_law_X7_count : GoodIn wsL_law wsX7_count := goodIn_app (a := [.code yX7_count cX7_count 2 (some .int)]) ggL_law_X7_count_c (goodIn_app ggL_law_X7_count_p1 ggL_t_wsX70)
set_option maxRecDepth 20000 in
theorem gL_law_X7_count : GoodIn wsL_law (wsV RL 69 RX7 yX7_count wsX7_count) := goodIn_app (goodIn_of _ (by decide +kernel)) ggL_law_X7_count
