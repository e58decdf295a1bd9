set_option maxRecDepth 20000 in
theorem ggX7_decode_X7_header : GoodIn wsX7_decode wsX7_header := goodIn_r _ [8, 2, 9, 10, 11, 12, 13, 14, 15, 16, 17, 18, 19, 20, 21, 22, 23, 3, 24, 25, 26, 27, 28, 7, 29, 30, 31, 32, 33, 34, 133, 134, 135, 136, 137, 138, 139, 140, 141, 142, 143, 144, 145, 146, 147, 148, 149, 150, 151, 152, 153, 154, 155, 156, 157, 158, 159, 160, 161, 162, 163, 164, 165, 166, 167, 168, 169, 170, 171, 172] (by decide +kernel) (by decide +kernel)
set_option maxRecDepth 20000 in
theorem gX7_decode_X7_header : GoodIn wsX7_decode (wsV RX7 175 RX7 yX7_header wsX7_header) := goodIn_app (goodIn_of _ (by decide +kernel)) ggX7_decode_X7_header
