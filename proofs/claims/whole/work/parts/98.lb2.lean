set_option maxRecDepth 20000 in
theorem ggL_law_X7_init_p1 : GoodIn wsL_law wsX7_init_r1 := goodIn_r _ [104, 10, 11, 105, 106, 107, 12, 108, 109, 110, 111, 112, 113, 114, 115, 116, 117, 118, 119, 120, 121, 122, 123, 124] (by decide +kernel) (by decide +kernel)
set_option maxRecDepth 20000 in
theorem ggL_law_X7_init_p2 : GoodIn wsL_law wsX7_init_r2 := goodIn_r _ [125, 126, 127, 128, 129, 130, 131, 132, 133, 134, 135, 136, 137, 138, 139, 140, 141, 142, 143, 144, 145, 146, 147, 148] (by decide +kernel) (by decide +kernel)
set_option maxRecDepth 20000 in
theorem ggL_law_X7_init_p3 : GoodIn wsL_law wsX7_init_r3 := goodIn_r _ [149, 150, 151, 152, 153, 154, 155, 156, 157, 158] (by decide +kernel) (by decide +kernel)
set_option maxRecDepth 20000 in
theorem ggL_law_X7_init_c : GoodIn wsL_law [.code yX7_init cX7_init 1 none] := goodIn_r _ [103] rfl (by decide +kernel)
theorem ggL_law_X7_init : GoodIn wsL_law wsX7_init := goodIn_app (a := [.code yX7_init cX7_init 1 none]) ggL_law_X7_init_c (goodIn_app (goodIn_app ggL_law_X7_init_p1 (goodIn_app ggL_law_X7_init_p2 ggL_law_X7_init_p3)) ggL_t_wsX70)
set_option maxRecDepth 20000 in
theorem gL_law_X7_init : GoodIn wsL_law (wsX7_init) := ggL_law_X7_init
set_option maxRecDepth 20000 in
theorem ggL_law_X6_feed_p1 : GoodIn wsL_law [.fieldLink RX6 13 "SoundBench" "length" "I", .methodLink RX6 62 yX6_appendWord, .instanceMethod yX6_appendWord, .selects RX6 yX6_appendWord yX6_appendWord, .initialized RX6, .code yX6_appendWord cX6_appendWord 2 none, .fieldLink RX6 9 "SoundBench" "tape" "[I"] := goodIn_r _ [14, 163, 164, 165, 2, 166, 13] (by decide +kernel) (by decide +kernel)
set_option maxRecDepth 20000 in
theorem ggL_law_X6_feed_c : GoodIn wsL_law [.code yX6_feed cX6_feed 6 (some .int)] := goodIn_r _ [162] (by decide +kernel) (by decide +kernel)
theorem ggL_law_X6_feed : GoodIn wsL_law wsX6_feed := goodIn_app (a := [.code yX6_feed cX6_feed 6 (some .int)]) ggL_law_X6_feed_c (goodIn_app ggL_law_X6_feed_p1 ggL_t_wsX60)
set_option maxRecDepth 20000 in
theorem gL_law_X6_feed : GoodIn wsL_law (wsV RL 13 RX6 yX6_feed wsX6_feed) := goodIn_app (goodIn_of _ (by decide +kernel)) ggL_law_X6_feed
set_option maxRecDepth 20000 in
theorem ggL_law_X7_feed_p1 : GoodIn wsL_law [.fieldLink RX7 103 "SoundBenchModel" "taped" "I", .methodLink RX7 106 yX7_put, .instanceMethod yX7_put, .selects RX7 yX7_put yX7_put, .initialized RX7, .code yX7_put cX7_put 3 none, .fieldLink RX7 9 "SoundBenchModel" "tape" "[B"] := goodIn_r _ [171, 172, 173, 174, 5, 175, 106] (by decide +kernel) (by decide +kernel)
set_option maxRecDepth 20000 in
theorem ggL_law_X7_feed_c : GoodIn wsL_law [.code yX7_feed cX7_feed 6 (some .int)] := goodIn_r _ [170] (by decide +kernel) (by decide +kernel)
theorem ggL_law_X7_feed : GoodIn wsL_law wsX7_feed := goodIn_app (a := [.code yX7_feed cX7_feed 6 (some .int)]) ggL_law_X7_feed_c (goodIn_app ggL_law_X7_feed_p1 ggL_t_wsX70)
set_option maxRecDepth 20000 in
theorem gL_law_X7_feed : GoodIn wsL_law (wsV RL 17 RX7 yX7_feed wsX7_feed) := goodIn_app (goodIn_of _ (by decide +kernel)) ggL_law_X7_feed
set_option maxRecDepth 20000 in
theorem ggL_law_X6_end_p1 : GoodIn wsL_law [.fieldLink RX6 13 "SoundBench" "length" "I", .fieldLink RX6 17 "SoundBench" "place" "I"] := goodIn_r _ [14, 15] (by decide +kernel) (by decide +kernel)
set_option maxRecDepth 20000 in
theorem ggL_law_X6_end_c : GoodIn wsL_law [.code yX6_end cX6_end 2 (some .int)] := goodIn_r _ [179] (by decide +kernel) (by decide +kernel)
theorem ggL_law_X6_end : GoodIn wsL_law wsX6_end := goodIn_app (a := [.code yX6_end cX6_end 2 (some .int)]) ggL_law_X6_end_c (goodIn_app ggL_law_X6_end_p1 ggL_t_wsX60)
set_option maxRecDepth 20000 in
theorem gL_law_X6_end : GoodIn wsL_law (wsV RL 18 RX6 yX6_end wsX6_end) := goodIn_app (goodIn_of _ (by decide +kernel)) ggL_law_X6_end
