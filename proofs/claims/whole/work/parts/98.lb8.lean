set_option maxRecDepth 20000 in
theorem ggL_law_X6_frame_p1 : GoodIn wsL_law wsX6_frame_r1 := goodIn_r _ [19, 659, 197, 198, 199, 18, 200, 201, 660, 661, 662, 663, 664, 665, 666, 667, 668, 669, 670, 671, 672, 673, 674, 675] (by decide +kernel) (by decide +kernel)
set_option maxRecDepth 20000 in
theorem ggL_law_X6_frame_p2 : GoodIn wsL_law wsX6_frame_r2 := goodIn_r _ [42, 676, 677, 678, 239, 679, 288, 274, 279, 275, 277, 278, 280, 281, 287, 680, 318, 319, 320] (by decide +kernel) (by decide +kernel)
set_option maxRecDepth 20000 in
theorem ggL_law_X6_frame_c : GoodIn wsL_law [.code yX6_frame cX6_frame 3 (some .int)] := goodIn_r _ [658] (by decide +kernel) (by decide +kernel)
theorem ggL_law_X6_frame : GoodIn wsL_law wsX6_frame := goodIn_app (a := [.code yX6_frame cX6_frame 3 (some .int)]) ggL_law_X6_frame_c (goodIn_app (goodIn_app (goodIn_app (goodIn_app ggL_law_X6_frame_p1 ggL_law_X6_frame_p2) ggL_t_wsX60) ggL_t_wsJx4a65c0) ggL_t_wsX20)
set_option maxRecDepth 20000 in
theorem gL_law_X6_frame : GoodIn wsL_law (wsV RL 37 RX6 yX6_frame wsX6_frame) := goodIn_app (goodIn_of _ (by decide +kernel)) ggL_law_X6_frame
set_option maxRecDepth 20000 in
theorem ggL_law_X7_frame_p1 : GoodIn wsL_law [.fieldLink RX7 113 "SoundBenchModel" "frames" "I", .fieldLink RX7 15 "SoundBenchModel" "frame" "[[I"] := goodIn_r _ [222, 108] (by decide +kernel) (by decide +kernel)
set_option maxRecDepth 20000 in
theorem ggL_law_X7_frame_c : GoodIn wsL_law [.code yX7_frame cX7_frame 3 (some .int)] := goodIn_r _ [684] (by decide +kernel) (by decide +kernel)
theorem ggL_law_X7_frame : GoodIn wsL_law wsX7_frame := goodIn_app (a := [.code yX7_frame cX7_frame 3 (some .int)]) ggL_law_X7_frame_c (goodIn_app ggL_law_X7_frame_p1 ggL_t_wsX70)
set_option maxRecDepth 20000 in
theorem gL_law_X7_frame : GoodIn wsL_law (wsV RL 40 RX7 yX7_frame wsX7_frame) := goodIn_app (goodIn_of _ (by decide +kernel)) ggL_law_X7_frame
set_option maxRecDepth 20000 in
theorem ggL_law_X6_band_p1 : GoodIn wsL_law [.fieldLink RX6 40 "SoundBench" "latest" "LSoundBench$Content;", .fieldLink RX6 94 "SoundBench$Content" "rows" "I", .fieldLink RX6 97 "SoundBench$Content" "samples" "[I", .methodLink RX6 90 yX6_hasBand, .instanceMethod yX6_hasBand, .selects RX6 yX6_hasBand yX6_hasBand, .initialized RX6, .code yX6_hasBand cX6_hasBand 3 (some .boolean), .fieldLink RX6 27 "SoundBench" "decoded" "I", .fieldLink RX6 166 "SoundBench$Content" "channels" "I", .methodLink RX6 100 yX1_rowIndex, .static yX1_rowIndex, .initialized RX1, .code yX1_rowIndex cX1_rowIndex 2 (some .int)] := goodIn_r _ [28, 689, 690, 691, 692, 693, 2, 694, 20, 488, 695, 434, 27, 435] (by decide +kernel) (by decide +kernel)
set_option maxRecDepth 20000 in
theorem ggL_law_X6_band_c : GoodIn wsL_law [.code yX6_band cX6_band 4 (some .int)] := goodIn_r _ [688] (by decide +kernel) (by decide +kernel)
theorem ggL_law_X6_band : GoodIn wsL_law wsX6_band := goodIn_app (a := [.code yX6_band cX6_band 4 (some .int)]) ggL_law_X6_band_c (goodIn_app (goodIn_app ggL_law_X6_band_p1 ggL_t_wsX60) ggL_t_wsX10)
set_option maxRecDepth 20000 in
theorem gL_law_X6_band : GoodIn wsL_law (wsV RL 41 RX6 yX6_band wsX6_band) := goodIn_app (goodIn_of _ (by decide +kernel)) ggL_law_X6_band
set_option maxRecDepth 20000 in
theorem ggL_law_X7_band_p1 : GoodIn wsL_law [.fieldLink RX7 236 "SoundBenchModel" "oneRows" "I", .fieldLink RX7 31 "SoundBenchModel" "sample" "[[[I", .methodLink RX7 262 yX7_isBand, .instanceMethod yX7_isBand, .selects RX7 yX7_isBand yX7_isBand, .initialized RX7, .code yX7_isBand cX7_isBand 3 (some .boolean), .fieldLink RX7 119 "SoundBenchModel" "hasOne" "Z", .fieldLink RX7 233 "SoundBenchModel" "oneChannels" "I"] := goodIn_r _ [630, 113, 700, 701, 702, 5, 703, 224, 629] (by decide +kernel) (by decide +kernel)
set_option maxRecDepth 20000 in
theorem ggL_law_X7_band_c : GoodIn wsL_law [.code yX7_band cX7_band 4 (some .int)] := goodIn_r _ [699] (by decide +kernel) (by decide +kernel)
theorem ggL_law_X7_band : GoodIn wsL_law wsX7_band := goodIn_app (a := [.code yX7_band cX7_band 4 (some .int)]) ggL_law_X7_band_c (goodIn_app ggL_law_X7_band_p1 ggL_t_wsX70)
set_option maxRecDepth 20000 in
theorem gL_law_X7_band : GoodIn wsL_law (wsV RL 45 RX7 yX7_band wsX7_band) := goodIn_app (goodIn_of _ (by decide +kernel)) ggL_law_X7_band
