set_option maxRecDepth 20000 in
theorem ggX7_codesTwo_X7_three : GoodIn wsX7_codesTwo wsX7_three := goodIn_r _ [10, 11, 12, 13, 9, 14, 15, 16, 17, 18, 19, 20, 21, 22, 23, 24, 25, 26, 27, 28, 29, 30, 31, 32, 33, 34, 35, 36, 37, 38, 39, 40, 41, 42, 43, 44, 45, 46, 47, 48, 49, 50, 51, 52, 53, 54, 55, 56, 57, 58, 59, 60, 61] (by decide +kernel) (by decide +kernel)
set_option maxRecDepth 20000 in
theorem gX7_codesTwo_X7_three : GoodIn wsX7_codesTwo (wsV RX7 229 RX7 yX7_three wsX7_three) := goodIn_app (goodIn_of _ (by decide +kernel)) ggX7_codesTwo_X7_three
set_option maxRecDepth 20000 in
theorem ggX7_three_X7_bits : GoodIn wsX7_three wsX7_bits := goodIn_r _ [5, 6, 7, 8, 9, 13, 14, 15, 16, 17, 18, 19, 20, 21, 22, 23, 24, 25, 26, 27, 28, 29, 30, 31, 32, 33, 34, 35, 36, 37, 38, 39, 40, 41, 42, 43, 44, 45, 46, 47, 48, 49, 50, 51, 52] (by decide +kernel) (by decide +kernel)
set_option maxRecDepth 20000 in
theorem gX7_three_X7_bits : GoodIn wsX7_three (wsV RX7 132 RX7 yX7_bits wsX7_bits) := goodIn_app (goodIn_of _ (by decide +kernel)) ggX7_three_X7_bits
set_option maxRecDepth 20000 in
theorem ggX7_three_X7_bitsOf : GoodIn wsX7_three wsX7_bitsOf := goodIn_r _ [12] (by decide +kernel) (by decide +kernel)
set_option maxRecDepth 20000 in
theorem gX7_three_X7_bitsOf : GoodIn wsX7_three (va_wsS RX7 226 yX7_bitsOf wsX7_bitsOf) := goodIn_app (goodIn_of _ (by decide +kernel)) ggX7_three_X7_bitsOf
set_option maxRecDepth 20000 in
theorem ggX7_sound_X7_row : GoodIn wsX7_sound wsX7_row := goodIn_r _ [11, 12, 13, 14, 15, 16, 17, 18, 10, 19, 20, 21, 22, 23, 24, 25, 26, 27, 28, 29, 30, 31, 32, 33, 34, 35, 36, 37, 38, 39, 40, 41, 42, 43, 44, 45, 46, 47, 48, 49, 50, 51, 52, 53, 54, 55, 56, 57, 58, 59, 60, 61, 62, 63, 64, 65] (by decide +kernel) (by decide +kernel)
set_option maxRecDepth 20000 in
theorem gX7_sound_X7_row : GoodIn wsX7_sound (wsV RX7 244 RX7 yX7_row wsX7_row) := goodIn_app (goodIn_of _ (by decide +kernel)) ggX7_sound_X7_row
set_option maxRecDepth 20000 in
theorem ggX7_row_X7_cosineOf : GoodIn wsX7_row wsX7_cosineOf := goodIn_r _ [9, 10, 16, 17, 18, 19, 20, 21, 22, 23, 24, 25, 26, 27, 28, 29, 30, 31, 32, 33, 34, 35, 36, 37, 38, 39, 40, 41, 42, 43, 44, 45, 46, 47, 48, 49, 50, 51, 52, 53, 54, 55] (by decide +kernel) (by decide +kernel)
set_option maxRecDepth 20000 in
theorem gX7_row_X7_cosineOf : GoodIn wsX7_row (wsV RX7 250 RX7 yX7_cosineOf wsX7_cosineOf) := goodIn_app (goodIn_of _ (by decide +kernel)) ggX7_row_X7_cosineOf
set_option maxRecDepth 20000 in
theorem ggX7_row_X7_windowOf : GoodIn wsX7_row wsX7_windowOf := goodIn_r _ [14, 15, 16, 17, 18, 19, 20, 21, 22, 23, 24, 25, 26, 27, 28, 29, 30, 31, 32, 33, 34, 35, 36, 37, 38, 39, 40, 41, 42, 43, 44, 45, 46, 47, 48, 49, 50, 51, 52, 53, 54, 55] (by decide +kernel) (by decide +kernel)
set_option maxRecDepth 20000 in
theorem gX7_row_X7_windowOf : GoodIn wsX7_row (wsV RX7 255 RX7 yX7_windowOf wsX7_windowOf) := goodIn_app (goodIn_of _ (by decide +kernel)) ggX7_row_X7_windowOf
set_option maxRecDepth 20000 in
theorem ggX7_band_X7_isBand : GoodIn wsX7_band wsX7_isBand := goodIn_r _ [7, 8, 9, 10, 11, 12, 13, 14, 15, 16, 17, 18, 19, 20, 21, 22, 23, 24, 25, 26, 27, 28, 29, 30, 31, 32, 33, 34, 35, 36, 37, 38, 39, 40, 41, 42, 43, 44, 45, 46, 47, 48, 49] (by decide +kernel) (by decide +kernel)
set_option maxRecDepth 20000 in
theorem gX7_band_X7_isBand : GoodIn wsX7_band (wsV RX7 262 RX7 yX7_isBand wsX7_isBand) := goodIn_app (goodIn_of _ (by decide +kernel)) ggX7_band_X7_isBand
