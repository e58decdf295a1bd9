set_option maxRecDepth 20000 in
theorem ggX7_take_X7_read_c : GoodIn wsX7_take [.code yX7_read cX7_read 5 (some .int)] := goodIn_r _ [16] (by decide +kernel) (by decide +kernel)
set_option maxRecDepth 20000 in
theorem ggX7_take_X7_read_0 : GoodIn wsX7_take wsX7_read_r1 := goodIn_r _ [1, 17, 4, 18, 19, 20, 21, 22, 23, 9, 24, 10, 5, 25, 26, 27, 28, 29, 15, 30, 31, 32, 33, 34] (by decide +kernel) (by decide +kernel)
set_option maxRecDepth 20000 in
theorem ggX7_take_X7_read_1 : GoodIn wsX7_take wsX7_read_r2 := goodIn_r _ [35, 36, 37, 38, 39, 40, 41, 42, 43, 44, 45, 46, 47, 48, 49, 50, 51, 52, 53, 54, 55, 56, 57, 58] (by decide +kernel) (by decide +kernel)
set_option maxRecDepth 20000 in
theorem ggX7_take_X7_read_2 : GoodIn wsX7_take wsX7_read_r3 := goodIn_r _ [59, 60, 61, 62, 63, 64, 65, 66, 67, 68, 69, 70, 71, 72, 73] (by decide +kernel) (by decide +kernel)
set_option maxRecDepth 20000 in
theorem ggX7_take_X7_read_s : GoodIn wsX7_take wsX70 := goodIn_r _ [113, 114, 115, 116, 117, 118, 119, 120, 121, 122, 123, 124, 125, 126, 127, 128, 129, 130, 131, 132, 133, 134, 135, 136, 137, 138, 139, 140, 141, 142, 143, 144, 145, 146, 147, 148, 149, 150, 151, 152] (by decide +kernel) (by decide +kernel)
theorem ggX7_take_X7_read : GoodIn wsX7_take wsX7_read := goodIn_app (a := [.code yX7_read cX7_read 5 (some .int)]) ggX7_take_X7_read_c (goodIn_app (goodIn_app ggX7_take_X7_read_0 (goodIn_app ggX7_take_X7_read_1 ggX7_take_X7_read_2)) ggX7_take_X7_read_s)
set_option maxRecDepth 20000 in
theorem gX7_take_X7_read : GoodIn wsX7_take (wsV RX7 185 RX7 yX7_read wsX7_read) := goodIn_app (goodIn_of _ (by decide +kernel)) ggX7_take_X7_read
