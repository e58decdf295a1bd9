set_option maxRecDepth 20000 in
theorem ggL_law_X7_decode_p1 : GoodIn wsL_law wsX7_decode_r1 := goodIn_r _ [184, 171, 545, 546, 547, 548, 5, 549, 550, 551, 552, 553, 554, 555, 556, 557, 121, 558, 559, 560, 561, 562, 563, 564] (by decide +kernel) (by decide +kernel)
set_option maxRecDepth 20000 in
theorem ggL_law_X7_decode_p2 : GoodIn wsL_law wsX7_decode_r2 := goodIn_r _ [565, 566, 567, 568, 569, 106, 570, 571, 572, 573, 574, 575, 576, 577, 578, 108, 222, 223, 579, 580, 581, 582, 583, 584] (by decide +kernel) (by decide +kernel)
set_option maxRecDepth 20000 in
theorem ggL_law_X7_decode_p3 : GoodIn wsL_law wsX7_decode_r3 := goodIn_r _ [118, 117, 116, 585, 586, 587, 588, 589, 590, 591, 592, 593, 594, 595, 596, 597, 598, 599, 600, 601, 602, 603, 604, 605] (by decide +kernel) (by decide +kernel)
set_option maxRecDepth 20000 in
theorem ggL_law_X7_decode_p4 : GoodIn wsL_law wsX7_decode_r4 := goodIn_r _ [606, 607, 608, 609, 119, 610, 611, 612, 613, 120, 614, 615, 616, 617, 618, 619, 620, 621, 622, 623, 624, 625, 626, 627] (by decide +kernel) (by decide +kernel)
set_option maxRecDepth 20000 in
theorem ggL_law_X7_decode_p5 : GoodIn wsL_law wsX7_decode_r5 := goodIn_r _ [628, 224, 629, 630, 114, 115, 631, 632, 633, 113, 634, 635, 636, 637, 638, 112, 110, 111, 639, 640, 641, 642, 643, 644] (by decide +kernel) (by decide +kernel)
set_option maxRecDepth 20000 in
theorem ggL_law_X7_decode_p6 : GoodIn wsL_law wsX7_decode_r6 := goodIn_r _ [645, 646, 647, 648, 649, 650, 122, 651, 652, 653, 654, 158] (by decide +kernel) (by decide +kernel)
set_option maxRecDepth 20000 in
theorem ggL_law_X7_decode_c : GoodIn wsL_law [.code yX7_decode cX7_decode 5 (some .int)] := goodIn_r _ [544] (by decide +kernel) (by decide +kernel)
theorem ggL_law_X7_decode : GoodIn wsL_law wsX7_decode := goodIn_app (a := [.code yX7_decode cX7_decode 5 (some .int)]) ggL_law_X7_decode_c (goodIn_app (goodIn_app ggL_law_X7_decode_p1 (goodIn_app ggL_law_X7_decode_p2 (goodIn_app ggL_law_X7_decode_p3 (goodIn_app ggL_law_X7_decode_p4 (goodIn_app ggL_law_X7_decode_p5 ggL_law_X7_decode_p6))))) ggL_t_wsX70)
set_option maxRecDepth 20000 in
theorem gL_law_X7_decode : GoodIn wsL_law (wsV RL 36 RX7 yX7_decode wsX7_decode) := goodIn_app (goodIn_of _ (by decide +kernel)) ggL_law_X7_decode
