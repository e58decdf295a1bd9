set_option maxRecDepth 20000 in
theorem ggX7_steps_X7_isBand : GoodIn wsX7_steps wsX7_isBand := goodIn_r _ [6, 7, 8, 9, 10, 11, 12, 13, 14, 15, 16, 17, 18, 19, 20, 21, 22, 23, 24, 25, 26, 27, 28, 29, 30, 31, 32, 33, 34, 35, 36, 37, 38, 39, 40, 41, 42, 43, 44, 45, 46, 47, 48] (by decide +kernel) (by decide +kernel)
set_option maxRecDepth 20000 in
theorem gX7_steps_X7_isBand : GoodIn wsX7_steps (wsV RX7 262 RX7 yX7_isBand wsX7_isBand) := goodIn_app (goodIn_of _ (by decide +kernel)) ggX7_steps_X7_isBand
set_option maxRecDepth 20000 in
theorem ggX7_factor_X7_isBand : GoodIn wsX7_factor wsX7_isBand := goodIn_r _ [7, 8, 9, 10, 11, 12, 13, 14, 15, 16, 17, 18, 19, 20, 21, 22, 23, 24, 25, 26, 27, 28, 29, 30, 31, 32, 33, 34, 35, 36, 37, 38, 39, 40, 41, 42, 43, 44, 45, 46, 47, 48, 49] (by decide +kernel) (by decide +kernel)
set_option maxRecDepth 20000 in
theorem gX7_factor_X7_isBand : GoodIn wsX7_factor (wsV RX7 262 RX7 yX7_isBand wsX7_isBand) := goodIn_app (goodIn_of _ (by decide +kernel)) ggX7_factor_X7_isBand
set_option maxRecDepth 20000 in
theorem ggX7_sum_X7_pcm : GoodIn wsX7_sum wsX7_pcm := goodIn_r _ [5, 6, 7, 8, 9, 10, 11, 12, 13, 14, 15, 16, 17, 18, 19, 20, 21, 22, 23, 24, 25, 26, 27, 28, 29, 30, 31, 32, 33, 34, 35, 36, 37, 38, 39, 40, 41, 42, 43, 44, 45, 46, 47] (by decide +kernel) (by decide +kernel)
set_option maxRecDepth 20000 in
theorem gX7_sum_X7_pcm : GoodIn wsX7_sum (wsV RX7 266 RX7 yX7_pcm wsX7_pcm) := goodIn_app (goodIn_of _ (by decide +kernel)) ggX7_sum_X7_pcm
