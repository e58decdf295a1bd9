set_option maxRecDepth 20000 in
theorem ggX7_decode_X7_take_3 : GoodIn wsX7_decode wsX7_take_r4 := goodIn_r _ [93, 94, 95, 96, 97, 98, 99, 100, 101, 102, 103, 104, 105, 106, 107, 108, 109, 110, 111, 112, 113, 114, 115, 116] (by decide +kernel) (by decide +kernel)
set_option maxRecDepth 20000 in
theorem ggX7_decode_X7_take_4 : GoodIn wsX7_decode wsX7_take_r5 := goodIn_r _ [117, 118, 119, 120, 121, 122, 123, 124, 125, 126, 127, 128, 129, 130, 131, 132] (by decide +kernel) (by decide +kernel)
set_option maxRecDepth 20000 in
theorem ggX7_decode_X7_take_s : GoodIn wsX7_decode wsX70 := goodIn_r _ [133, 134, 135, 136, 137, 138, 139, 140, 141, 142, 143, 144, 145, 146, 147, 148, 149, 150, 151, 152, 153, 154, 155, 156, 157, 158, 159, 160, 161, 162, 163, 164, 165, 166, 167, 168, 169, 170, 171, 172] (by decide +kernel) (by decide +kernel)
theorem ggX7_decode_X7_take : GoodIn wsX7_decode wsX7_take := goodIn_app (a := [.code yX7_take cX7_take 4 none]) ggX7_decode_X7_take_c (goodIn_app (goodIn_app ggX7_decode_X7_take_0 (goodIn_app ggX7_decode_X7_take_1 (goodIn_app ggX7_decode_X7_take_2 (goodIn_app ggX7_decode_X7_take_3 ggX7_decode_X7_take_4)))) ggX7_decode_X7_take_s)
set_option maxRecDepth 20000 in
theorem gX7_decode_X7_take : GoodIn wsX7_decode (wsV RX7 179 RX7 yX7_take wsX7_take) := goodIn_app (goodIn_of _ (by decide +kernel)) ggX7_decode_X7_take
