set_option maxRecDepth 20000 in
theorem ggX7_decode_X7_take_c : GoodIn wsX7_decode [.code yX7_take cX7_take 4 none] := goodIn_r _ [38] (by decide +kernel) (by decide +kernel)
set_option maxRecDepth 20000 in
theorem ggX7_decode_X7_take_0 : GoodIn wsX7_decode wsX7_take_r1 := goodIn_r _ [39, 40, 41, 3, 16, 18, 21, 14, 22, 25, 42, 43, 44, 45, 7, 46, 9, 10, 11, 47, 48, 12, 24, 49] (by decide +kernel) (by decide +kernel)
set_option maxRecDepth 20000 in
theorem ggX7_decode_X7_take_1 : GoodIn wsX7_decode wsX7_take_r2 := goodIn_r _ [50, 51, 26, 27, 28, 29, 30, 52, 53, 54, 55, 56, 57, 58, 59, 60, 61, 62, 63, 64, 65, 66, 67, 68] (by decide +kernel) (by decide +kernel)
set_option maxRecDepth 20000 in
theorem ggX7_decode_X7_take_2 : GoodIn wsX7_decode wsX7_take_r3 := goodIn_r _ [69, 70, 71, 72, 73, 74, 75, 76, 77, 78, 79, 80, 81, 82, 83, 84, 85, 86, 87, 88, 89, 90, 91, 92] (by decide +kernel) (by decide +kernel)
