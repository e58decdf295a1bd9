set_option maxRecDepth 20000 in
theorem ggL_law_X6_decode_p8 : GoodIn wsL_law wsX6_decode_r8 := goodIn_r _ [377, 60, 378, 379, 380, 381, 382, 383, 384, 385, 386, 387, 388, 389, 390, 391, 392, 393, 394, 395, 396, 397, 398, 399] (by decide +kernel) (by decide +kernel)
set_option maxRecDepth 20000 in
theorem ggL_law_X6_decode_p9 : GoodIn wsL_law wsX6_decode_r9 := goodIn_r _ [400, 401, 402, 403, 404, 405, 406, 407, 408, 409, 410, 411, 412, 413, 414, 415, 416, 417, 418, 419, 61, 420, 421, 422] (by decide +kernel) (by decide +kernel)
set_option maxRecDepth 20000 in
theorem ggL_law_X6_decode_p10 : GoodIn wsL_law wsX6_decode_r10 := goodIn_r _ [423, 424, 425, 426, 427, 428, 429, 430, 431, 432, 433, 434, 435, 436, 437, 438, 439, 440, 441, 442, 18, 443, 206, 207] (by decide +kernel) (by decide +kernel)
set_option maxRecDepth 20000 in
theorem ggL_law_X6_decode_p11 : GoodIn wsL_law wsX6_decode_r11 := goodIn_r _ [42, 201, 444, 445, 446, 447, 448, 449, 450, 451, 452, 453, 454, 455, 41, 456, 457, 458, 459, 460, 461, 462, 463, 464] (by decide +kernel) (by decide +kernel)
set_option maxRecDepth 20000 in
theorem ggL_law_X6_decode_p12 : GoodIn wsL_law wsX6_decode_r12 := goodIn_r _ [465, 466, 467, 468, 469, 470, 471, 472, 473, 474, 475, 476, 477, 478, 479, 480, 481, 482, 483, 484, 485, 486, 487, 28] (by decide +kernel) (by decide +kernel)
set_option maxRecDepth 20000 in
theorem ggL_law_X6_decode_p13 : GoodIn wsL_law wsX6_decode_r13 := goodIn_r _ [20, 36, 488, 37, 489, 490, 491, 35, 492, 493, 494, 495, 496, 497, 498, 213, 99, 499, 500, 501, 502, 503, 504, 505] (by decide +kernel) (by decide +kernel)
set_option maxRecDepth 20000 in
theorem ggL_law_X6_decode_p14 : GoodIn wsL_law wsX6_decode_r14 := goodIn_r _ [506, 507, 508, 12, 509, 510, 511, 512, 513, 98, 212, 96, 514, 515, 516, 517, 518, 519, 520, 521, 100, 522, 523, 524] (by decide +kernel) (by decide +kernel)
