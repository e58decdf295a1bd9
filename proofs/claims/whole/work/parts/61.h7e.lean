set_option maxRecDepth 20000 in
theorem ggX7_take_X7_keep : GoodIn wsX7_take wsX7_keep := goodIn_r _ [77, 78, 9, 79, 5, 80, 26, 81, 82, 57, 83, 84, 85, 86, 87, 62, 113, 114, 115, 116, 117, 118, 119, 120, 121, 122, 123, 124, 125, 126, 127, 128, 129, 130, 131, 132, 133, 134, 135, 136, 137, 138, 139, 140, 141, 142, 143, 144, 145, 146, 147, 148, 149, 150, 151, 152] (by decide +kernel) (by decide +kernel)
set_option maxRecDepth 20000 in
theorem gX7_take_X7_keep : GoodIn wsX7_take (wsV RX7 189 RX7 yX7_keep wsX7_keep) := goodIn_app (goodIn_of _ (by decide +kernel)) ggX7_take_X7_keep
