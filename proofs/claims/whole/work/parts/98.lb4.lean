set_option maxRecDepth 20000 in
theorem ggL_law_X6_decode_p1 : GoodIn wsL_law wsX6_decode_r1 := goodIn_r _ [229, 230, 231, 2, 232, 15, 14, 233, 234, 235, 236, 237, 238, 239, 240, 24, 13, 29, 241, 19, 242, 243, 244, 245] (by decide +kernel) (by decide +kernel)
set_option maxRecDepth 20000 in
theorem ggL_law_X6_decode_p2 : GoodIn wsL_law wsX6_decode_r2 := goodIn_r _ [246, 247, 248, 249, 250, 251, 252, 253, 254, 255, 256, 257, 258, 259, 260, 261, 262, 263, 264, 265, 266, 267, 268, 269] (by decide +kernel) (by decide +kernel)
set_option maxRecDepth 20000 in
theorem ggL_law_X6_decode_p3 : GoodIn wsL_law wsX6_decode_r3 := goodIn_r _ [270, 271, 272, 273, 10, 11, 274, 275, 276, 277, 278, 279, 280, 281, 282, 283, 284, 285, 286, 287, 288, 289, 290, 291] (by decide +kernel) (by decide +kernel)
set_option maxRecDepth 20000 in
theorem ggL_law_X6_decode_p4 : GoodIn wsL_law wsX6_decode_r4 := goodIn_r _ [292, 293, 294, 295, 296, 297, 298, 299, 23, 300, 59, 301, 302, 303, 304, 305, 306, 307, 308, 309, 58, 310, 65, 311] (by decide +kernel) (by decide +kernel)
set_option maxRecDepth 20000 in
theorem ggL_law_X6_decode_p5 : GoodIn wsL_law wsX6_decode_r5 := goodIn_r _ [312, 313, 314, 315, 316, 317, 318, 319, 320, 321, 322, 323, 27, 324, 325, 326, 69, 70, 71, 327, 215, 216, 217, 328] (by decide +kernel) (by decide +kernel)
set_option maxRecDepth 20000 in
theorem ggL_law_X6_decode_p6 : GoodIn wsL_law wsX6_decode_r6 := goodIn_r _ [329, 330, 331, 332, 333, 334, 335, 336, 337, 338, 339, 340, 341, 342, 343, 344, 345, 346, 347, 348, 349, 350, 351, 352] (by decide +kernel) (by decide +kernel)
set_option maxRecDepth 20000 in
theorem ggL_law_X6_decode_p7 : GoodIn wsL_law wsX6_decode_r7 := goodIn_r _ [353, 354, 355, 356, 357, 358, 359, 360, 361, 362, 363, 364, 365, 366, 367, 368, 369, 370, 371, 372, 373, 374, 375, 376] (by decide +kernel) (by decide +kernel)
