set_option maxRecDepth 20000 in
theorem ggL_law_X6_steps_p1 : GoodIn wsL_law [.fieldLink RX6 40 "SoundBench" "latest" "LSoundBench$Content;", .fieldLink RX6 104 "SoundBench$Content" "steps" "[I", .methodLink RX6 90 yX6_hasBand, .instanceMethod yX6_hasBand, .selects RX6 yX6_hasBand yX6_hasBand, .initialized RX6, .code yX6_hasBand cX6_hasBand 3 (some .boolean), .fieldLink RX6 27 "SoundBench" "decoded" "I", .fieldLink RX6 166 "SoundBench$Content" "channels" "I", .methodLink RX6 107 yX1_bandIndex, .static yX1_bandIndex, .initialized RX1, .code yX1_bandIndex cX1_bandIndex 2 (some .int)] := goodIn_r _ [28, 708, 691, 692, 693, 2, 694, 20, 488, 709, 372, 27, 373] (by decide +kernel) (by decide +kernel)
set_option maxRecDepth 20000 in
theorem ggL_law_X6_steps_c : GoodIn wsL_law [.code yX6_steps cX6_steps 3 (some .int)] := goodIn_r _ [707] (by decide +kernel) (by decide +kernel)
theorem ggL_law_X6_steps : GoodIn wsL_law wsX6_steps := goodIn_app (a := [.code yX6_steps cX6_steps 3 (some .int)]) ggL_law_X6_steps_c (goodIn_app (goodIn_app ggL_law_X6_steps_p1 ggL_t_wsX60) ggL_t_wsX10)
set_option maxRecDepth 20000 in
theorem gL_law_X6_steps : GoodIn wsL_law (wsV RL 46 RX6 yX6_steps wsX6_steps) := goodIn_app (goodIn_of _ (by decide +kernel)) ggL_law_X6_steps
set_option maxRecDepth 20000 in
theorem ggL_law_X7_steps_p1 : GoodIn wsL_law [.fieldLink RX7 34 "SoundBenchModel" "oneSteps" "[[I", .methodLink RX7 262 yX7_isBand, .instanceMethod yX7_isBand, .selects RX7 yX7_isBand yX7_isBand, .initialized RX7, .code yX7_isBand cX7_isBand 3 (some .boolean), .fieldLink RX7 119 "SoundBenchModel" "hasOne" "Z", .fieldLink RX7 233 "SoundBenchModel" "oneChannels" "I"] := goodIn_r _ [114, 700, 701, 702, 5, 703, 224, 629] (by decide +kernel) (by decide +kernel)
set_option maxRecDepth 20000 in
theorem ggL_law_X7_steps_c : GoodIn wsL_law [.code yX7_steps cX7_steps 3 (some .int)] := goodIn_r _ [713] (by decide +kernel) (by decide +kernel)
theorem ggL_law_X7_steps : GoodIn wsL_law wsX7_steps := goodIn_app (a := [.code yX7_steps cX7_steps 3 (some .int)]) ggL_law_X7_steps_c (goodIn_app ggL_law_X7_steps_p1 ggL_t_wsX70)
set_option maxRecDepth 20000 in
theorem gL_law_X7_steps : GoodIn wsL_law (wsV RL 49 RX7 yX7_steps wsX7_steps) := goodIn_app (goodIn_of _ (by decide +kernel)) ggL_law_X7_steps
set_option maxRecDepth 20000 in
theorem ggL_law_X6_factor_p1 : GoodIn wsL_law [.fieldLink RX6 40 "SoundBench" "latest" "LSoundBench$Content;", .fieldLink RX6 104 "SoundBench$Content" "steps" "[I", .fieldLink RX6 110 "SoundBench$Content" "factors" "[I", .methodLink RX6 90 yX6_hasBand, .instanceMethod yX6_hasBand, .selects RX6 yX6_hasBand yX6_hasBand, .initialized RX6, .code yX6_hasBand cX6_hasBand 3 (some .boolean), .fieldLink RX6 27 "SoundBench" "decoded" "I", .fieldLink RX6 166 "SoundBench$Content" "channels" "I", .methodLink RX6 107 yX1_bandIndex, .static yX1_bandIndex, .initialized RX1, .code yX1_bandIndex cX1_bandIndex 2 (some .int)] := goodIn_r _ [28, 708, 718, 691, 692, 693, 2, 694, 20, 488, 709, 372, 27, 373] (by decide +kernel) (by decide +kernel)
set_option maxRecDepth 20000 in
theorem ggL_law_X6_factor_c : GoodIn wsL_law [.code yX6_factor cX6_factor 5 (some .int)] := goodIn_r _ [717] (by decide +kernel) (by decide +kernel)
theorem ggL_law_X6_factor : GoodIn wsL_law wsX6_factor := goodIn_app (a := [.code yX6_factor cX6_factor 5 (some .int)]) ggL_law_X6_factor_c (goodIn_app (goodIn_app ggL_law_X6_factor_p1 ggL_t_wsX60) ggL_t_wsX10)
set_option maxRecDepth 20000 in
theorem gL_law_X6_factor : GoodIn wsL_law (wsV RL 50 RX6 yX6_factor wsX6_factor) := goodIn_app (goodIn_of _ (by decide +kernel)) ggL_law_X6_factor
set_option maxRecDepth 20000 in
theorem ggL_law_X7_factor_p1 : GoodIn wsL_law [.fieldLink RX7 34 "SoundBenchModel" "oneSteps" "[[I", .fieldLink RX7 37 "SoundBenchModel" "oneFactor" "[[[I", .methodLink RX7 262 yX7_isBand, .instanceMethod yX7_isBand, .selects RX7 yX7_isBand yX7_isBand, .initialized RX7, .code yX7_isBand cX7_isBand 3 (some .boolean), .fieldLink RX7 119 "SoundBenchModel" "hasOne" "Z", .fieldLink RX7 233 "SoundBenchModel" "oneChannels" "I"] := goodIn_r _ [114, 115, 700, 701, 702, 5, 703, 224, 629] (by decide +kernel) (by decide +kernel)
set_option maxRecDepth 20000 in
theorem ggL_law_X7_factor_c : GoodIn wsL_law [.code yX7_factor cX7_factor 4 (some .int)] := goodIn_r _ [722] (by decide +kernel) (by decide +kernel)
theorem ggL_law_X7_factor : GoodIn wsL_law wsX7_factor := goodIn_app (a := [.code yX7_factor cX7_factor 4 (some .int)]) ggL_law_X7_factor_c (goodIn_app ggL_law_X7_factor_p1 ggL_t_wsX70)
set_option maxRecDepth 20000 in
theorem gL_law_X7_factor : GoodIn wsL_law (wsV RL 53 RX7 yX7_factor wsX7_factor) := goodIn_app (goodIn_of _ (by decide +kernel)) ggL_law_X7_factor
set_option maxRecDepth 20000 in
theorem ggL_law_X6_pcm_p1 : GoodIn wsL_law [.fieldLink RX6 55 "SoundBench" "firstVoice" "LSoundBench$Voice;", .fieldLink RX6 59 "SoundBench" "secondVoice" "LSoundBench$Voice;", .methodLink RX6 113 yX4_sampleAt, .instanceMethod yX4_sampleAt, .selects RX4 yX4_sampleAt yX4_sampleAt, .initialized RX4, .code yX4_sampleAt cX4_sampleAt 2 (some .int), .fieldLink RX4 36 "SoundBench$Voice" "made" "I", .fieldLink RX4 19 "SoundBench$Voice" "samples" "[I"] := goodIn_r _ [36, 37, 727, 728, 729, 35, 730, 213, 99] (by decide +kernel) (by decide +kernel)
set_option maxRecDepth 20000 in
theorem ggL_law_X6_pcm_c : GoodIn wsL_law [.code yX6_pcm cX6_pcm 3 (some .int)] := goodIn_r _ [726] (by decide +kernel) (by decide +kernel)
theorem ggL_law_X6_pcm : GoodIn wsL_law wsX6_pcm := goodIn_app (a := [.code yX6_pcm cX6_pcm 3 (some .int)]) ggL_law_X6_pcm_c (goodIn_app (goodIn_app ggL_law_X6_pcm_p1 ggL_t_wsX60) ggL_t_wsX40)
set_option maxRecDepth 20000 in
theorem gL_law_X6_pcm : GoodIn wsL_law (wsV RL 54 RX6 yX6_pcm wsX6_pcm) := goodIn_app (goodIn_of _ (by decide +kernel)) ggL_law_X6_pcm
