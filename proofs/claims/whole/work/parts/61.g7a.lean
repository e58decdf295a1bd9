set_option maxRecDepth 20000 in
theorem ggX7_feed_X7_put : GoodIn wsX7_feed wsX7_put := goodIn_r _ [6, 7, 1, 8, 9, 10, 11, 12, 13, 14, 15, 16, 17, 18, 19, 20, 21, 22, 23, 24, 25, 26, 27, 28, 29, 30, 31, 32, 33, 34, 35, 36, 37, 38, 39, 40, 41, 42, 43, 44, 45, 46, 47] (by decide +kernel) (by decide +kernel)
set_option maxRecDepth 20000 in
theorem gX7_feed_X7_put : GoodIn wsX7_feed (wsV RX7 106 RX7 yX7_put wsX7_put) := goodIn_app (goodIn_of _ (by decide +kernel)) ggX7_feed_X7_put
set_option maxRecDepth 20000 in
theorem ggX7_header_X7_bits : GoodIn wsX7_header wsX7_bits := goodIn_r _ [24, 2, 3, 4, 25, 30, 31, 32, 33, 34, 35, 36, 37, 38, 39, 40, 41, 42, 43, 44, 45, 46, 47, 48, 49, 50, 51, 52, 53, 54, 55, 56, 57, 58, 59, 60, 61, 62, 63, 64, 65, 66, 67, 68, 69] (by decide +kernel) (by decide +kernel)
set_option maxRecDepth 20000 in
theorem gX7_header_X7_bits : GoodIn wsX7_header (wsV RX7 132 RX7 yX7_bits wsX7_bits) := goodIn_app (goodIn_of _ (by decide +kernel)) ggX7_header_X7_bits
set_option maxRecDepth 20000 in
theorem ggX7_header_X7_bandsOf : GoodIn wsX7_header wsX7_bandsOf := goodIn_r _ [29, 14, 13, 30, 31, 32, 33, 34, 35, 36, 37, 38, 39, 40, 41, 42, 43, 44, 45, 46, 47, 48, 49, 50, 51, 52, 53, 54, 55, 56, 57, 58, 59, 60, 61, 62, 63, 64, 65, 66, 67, 68, 69] (by decide +kernel) (by decide +kernel)
set_option maxRecDepth 20000 in
theorem gX7_header_X7_bandsOf : GoodIn wsX7_header (wsV RX7 166 RX7 yX7_bandsOf wsX7_bandsOf) := goodIn_app (goodIn_of _ (by decide +kernel)) ggX7_header_X7_bandsOf
