set_option maxRecDepth 20000 in
theorem ggL_law_X7_pcm_p1 : GoodIn wsL_law [.fieldLink RX7 22 "SoundBenchModel" "pcms" "[I", .fieldLink RX7 19 "SoundBenchModel" "pcm" "[[I"] := goodIn_r _ [111, 110] (by decide +kernel) (by decide +kernel)
set_option maxRecDepth 20000 in
theorem ggL_law_X7_pcm_c : GoodIn wsL_law [.code yX7_pcm cX7_pcm 3 (some .int)] := goodIn_r _ [734] (by decide +kernel) (by decide +kernel)
theorem ggL_law_X7_pcm : GoodIn wsL_law wsX7_pcm := goodIn_app (a := [.code yX7_pcm cX7_pcm 3 (some .int)]) ggL_law_X7_pcm_c (goodIn_app ggL_law_X7_pcm_p1 ggL_t_wsX70)
set_option maxRecDepth 20000 in
theorem gL_law_X7_pcm : GoodIn wsL_law (wsV RL 57 RX7 yX7_pcm wsX7_pcm) := goodIn_app (goodIn_of _ (by decide +kernel)) ggL_law_X7_pcm
set_option maxRecDepth 20000 in
theorem ggL_law_X6_sum_p1 : GoodIn wsL_law [.constantLong RX6 116 (2000), .fieldLink RX6 55 "SoundBench" "firstVoice" "LSoundBench$Voice;", .fieldLink RX6 59 "SoundBench" "secondVoice" "LSoundBench$Voice;", .methodLink RX6 118 yX4_weightedSum, .instanceMethod yX4_weightedSum, .selects RX4 yX4_weightedSum yX4_weightedSum, .initialized RX4, .code yX4_weightedSum cX4_weightedSum 6 (some .int), .fieldLink RX4 36 "SoundBench$Voice" "made" "I", .methodLink RX4 39 Lib.Math.min.name, .static Lib.Math.min.name, .initialized "java/lang/Math", .code Lib.Math.min.name Lib.Math.min.code 2 (some .int), .methodLink RX4 45 yX4_sampleAt, .instanceMethod yX4_sampleAt, .selects RX4 yX4_sampleAt yX4_sampleAt, .code yX4_sampleAt cX4_sampleAt 2 (some .int), .fieldLink RX4 19 "SoundBench$Voice" "samples" "[I"] := goodIn_r _ [739, 36, 37, 740, 741, 742, 35, 743, 213, 744, 285, 235, 286, 745, 728, 729, 730, 99] (by decide +kernel) (by decide +kernel)
set_option maxRecDepth 20000 in
theorem ggL_law_X6_sum_c : GoodIn wsL_law [.code yX6_sum cX6_sum 4 (some .int)] := goodIn_r _ [738] (by decide +kernel) (by decide +kernel)
theorem ggL_law_X6_sum : GoodIn wsL_law wsX6_sum := goodIn_app (a := [.code yX6_sum cX6_sum 4 (some .int)]) ggL_law_X6_sum_c (goodIn_app (goodIn_app ggL_law_X6_sum_p1 ggL_t_wsX60) ggL_t_wsX40)
set_option maxRecDepth 20000 in
theorem gL_law_X6_sum : GoodIn wsL_law (wsV RL 58 RX6 yX6_sum wsX6_sum) := goodIn_app (goodIn_of _ (by decide +kernel)) ggL_law_X6_sum
set_option maxRecDepth 20000 in
theorem ggL_law_X7_sum_p1 : GoodIn wsL_law [.methodLink RX7 266 yX7_pcm, .instanceMethod yX7_pcm, .selects RX7 yX7_pcm yX7_pcm, .initialized RX7, .code yX7_pcm cX7_pcm 3 (some .int), .fieldLink RX7 22 "SoundBenchModel" "pcms" "[I", .fieldLink RX7 19 "SoundBenchModel" "pcm" "[[I"] := goodIn_r _ [750, 732, 733, 5, 734, 111, 110] (by decide +kernel) (by decide +kernel)
set_option maxRecDepth 20000 in
theorem ggL_law_X7_sum_c : GoodIn wsL_law [.code yX7_sum cX7_sum 6 (some .int)] := goodIn_r _ [749] (by decide +kernel) (by decide +kernel)
theorem ggL_law_X7_sum : GoodIn wsL_law wsX7_sum := goodIn_app (a := [.code yX7_sum cX7_sum 6 (some .int)]) ggL_law_X7_sum_c (goodIn_app ggL_law_X7_sum_p1 ggL_t_wsX70)
set_option maxRecDepth 20000 in
theorem gL_law_X7_sum : GoodIn wsL_law (wsV RL 61 RX7 yX7_sum wsX7_sum) := goodIn_app (goodIn_of _ (by decide +kernel)) ggL_law_X7_sum
set_option maxRecDepth 20000 in
theorem ggL_law_X6_memory_p1 : GoodIn wsL_law [.fieldLink RX6 55 "SoundBench" "firstVoice" "LSoundBench$Voice;", .fieldLink RX6 59 "SoundBench" "secondVoice" "LSoundBench$Voice;", .methodLink RX6 121 yX4_numberAt, .instanceMethod yX4_numberAt, .selects RX4 yX4_numberAt yX4_numberAt, .initialized RX4, .code yX4_numberAt cX4_numberAt 2 (some .int), .fieldLink RX4 11 "SoundBench$Voice" "numbers" "[I", .fieldLink RX4 32 "SoundBench$Voice" "newest" "I"] := goodIn_r _ [36, 37, 755, 756, 757, 35, 758, 96, 212] (by decide +kernel) (by decide +kernel)
set_option maxRecDepth 20000 in
theorem ggL_law_X6_memory_c : GoodIn wsL_law [.code yX6_memory cX6_memory 3 (some .int)] := goodIn_r _ [754] (by decide +kernel) (by decide +kernel)
theorem ggL_law_X6_memory : GoodIn wsL_law wsX6_memory := goodIn_app (a := [.code yX6_memory cX6_memory 3 (some .int)]) ggL_law_X6_memory_c (goodIn_app (goodIn_app ggL_law_X6_memory_p1 ggL_t_wsX60) ggL_t_wsX40)
set_option maxRecDepth 20000 in
theorem gL_law_X6_memory : GoodIn wsL_law (wsV RL 62 RX6 yX6_memory wsX6_memory) := goodIn_app (goodIn_of _ (by decide +kernel)) ggL_law_X6_memory
set_option maxRecDepth 20000 in
theorem ggL_law_X7_memory_p1 : GoodIn wsL_law [.fieldLink RX7 26 "SoundBenchModel" "v" "[[I"] := goodIn_r _ [112] (by decide +kernel) (by decide +kernel)
set_option maxRecDepth 20000 in
theorem ggL_law_X7_memory_c : GoodIn wsL_law [.code yX7_memory cX7_memory 3 (some .int)] := goodIn_r _ [762] (by decide +kernel) (by decide +kernel)
theorem ggL_law_X7_memory : GoodIn wsL_law wsX7_memory := goodIn_app (a := [.code yX7_memory cX7_memory 3 (some .int)]) ggL_law_X7_memory_c (goodIn_app ggL_law_X7_memory_p1 ggL_t_wsX70)
set_option maxRecDepth 20000 in
theorem gL_law_X7_memory : GoodIn wsL_law (wsV RL 65 RX7 yX7_memory wsX7_memory) := goodIn_app (goodIn_of _ (by decide +kernel)) ggL_law_X7_memory
