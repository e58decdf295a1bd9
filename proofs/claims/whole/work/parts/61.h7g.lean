set_option maxRecDepth 20000 in
theorem ggX7_checked_X7_bits : GoodIn wsX7_checked wsX7_bits := goodIn_r _ [9, 10, 11, 1, 12, 13, 14, 15, 16, 17, 18, 19, 20, 21, 22, 23, 24, 25, 26, 27, 28, 29, 30, 31, 32, 33, 34, 35, 36, 37, 38, 39, 40, 41, 42, 43, 44, 45, 46, 47, 48, 49, 50, 51, 52] (by decide +kernel) (by decide +kernel)
set_option maxRecDepth 20000 in
theorem gX7_checked_X7_bits : GoodIn wsX7_checked (wsV RX7 132 RX7 yX7_bits wsX7_bits) := goodIn_app (goodIn_of _ (by decide +kernel)) ggX7_checked_X7_bits
set_option maxRecDepth 20000 in
theorem ggX7_allocationBits_X7_isFirstTable : GoodIn wsX7_allocationBits wsX7_isFirstTable := goodIn_r _ [6, 7, 8, 9, 10, 11, 12, 13, 14, 15, 16, 17, 18, 19, 20, 21, 22, 23, 24, 25, 26, 27, 28, 29, 30, 31, 32, 33, 34, 35, 36, 37, 38, 39, 40, 41, 42, 43, 44, 45, 46, 47] (by decide +kernel) (by decide +kernel)
set_option maxRecDepth 20000 in
theorem gX7_allocationBits_X7_isFirstTable : GoodIn wsX7_allocationBits (wsV RX7 200 RX7 yX7_isFirstTable wsX7_isFirstTable) := goodIn_app (goodIn_of _ (by decide +kernel)) ggX7_allocationBits_X7_isFirstTable
set_option maxRecDepth 20000 in
theorem ggX7_classOf_X7_isFirstTable : GoodIn wsX7_classOf wsX7_isFirstTable := goodIn_r _ [5, 6, 7, 8, 9, 10, 11, 12, 13, 14, 15, 16, 17, 18, 19, 20, 21, 22, 23, 24, 25, 26, 27, 28, 29, 30, 31, 32, 33, 34, 35, 36, 37, 38, 39, 40, 41, 42, 43, 44, 45, 46] (by decide +kernel) (by decide +kernel)
set_option maxRecDepth 20000 in
theorem gX7_classOf_X7_isFirstTable : GoodIn wsX7_classOf (wsV RX7 200 RX7 yX7_isFirstTable wsX7_isFirstTable) := goodIn_app (goodIn_of _ (by decide +kernel)) ggX7_classOf_X7_isFirstTable
set_option maxRecDepth 20000 in
theorem ggX7_stepsBy_X7_classOf : GoodIn wsX7_stepsBy wsX7_classOf := goodIn_r _ [6, 7, 8, 9, 5, 10, 11, 12, 13, 14, 15, 16, 17, 18, 19, 20, 21, 22, 23, 24, 25, 26, 27, 28, 29, 30, 31, 32, 33, 34, 35, 36, 37, 38, 39, 40, 41, 42, 43, 44, 45, 46, 47, 48, 49, 50, 51] (by decide +kernel) (by decide +kernel)
set_option maxRecDepth 20000 in
theorem gX7_stepsBy_X7_classOf : GoodIn wsX7_stepsBy (wsV RX7 204 RX7 yX7_classOf wsX7_classOf) := goodIn_app (goodIn_of _ (by decide +kernel)) ggX7_stepsBy_X7_classOf
set_option maxRecDepth 20000 in
theorem ggX7_read_X7_bits : GoodIn wsX7_read wsX7_bits := goodIn_r _ [20, 2, 4, 5, 21, 64, 65, 66, 67, 68, 69, 70, 71, 72, 73, 74, 75, 76, 77, 78, 79, 80, 81, 82, 83, 84, 85, 86, 87, 88, 89, 90, 91, 92, 93, 94, 95, 96, 97, 98, 99, 100, 101, 102, 103] (by decide +kernel) (by decide +kernel)
set_option maxRecDepth 20000 in
theorem gX7_read_X7_bits : GoodIn wsX7_read (wsV RX7 132 RX7 yX7_bits wsX7_bits) := goodIn_app (goodIn_of _ (by decide +kernel)) ggX7_read_X7_bits
set_option maxRecDepth 20000 in
theorem ggX7_read_X7_checked : GoodIn wsX7_read wsX7_checked := goodIn_r _ [25, 5, 7, 6, 26, 16, 17, 18, 19, 20, 2, 4, 21, 64, 65, 66, 67, 68, 69, 70, 71, 72, 73, 74, 75, 76, 77, 78, 79, 80, 81, 82, 83, 84, 85, 86, 87, 88, 89, 90, 91, 92, 93, 94, 95, 96, 97, 98, 99, 100, 101, 102, 103] (by decide +kernel) (by decide +kernel)
set_option maxRecDepth 20000 in
theorem gX7_read_X7_checked : GoodIn wsX7_read (wsV RX7 208 RX7 yX7_checked wsX7_checked) := goodIn_app (goodIn_of _ (by decide +kernel)) ggX7_read_X7_checked
set_option maxRecDepth 20000 in
theorem ggX7_read_X7_allocationBits : GoodIn wsX7_read wsX7_allocationBits := goodIn_r _ [30, 13, 31, 32, 33, 19, 34, 9, 64, 65, 66, 67, 68, 69, 70, 71, 72, 73, 74, 75, 76, 77, 78, 79, 80, 81, 82, 83, 84, 85, 86, 87, 88, 89, 90, 91, 92, 93, 94, 95, 96, 97, 98, 99, 100, 101, 102, 103] (by decide +kernel) (by decide +kernel)
set_option maxRecDepth 20000 in
theorem gX7_read_X7_allocationBits : GoodIn wsX7_read (wsV RX7 211 RX7 yX7_allocationBits wsX7_allocationBits) := goodIn_app (goodIn_of _ (by decide +kernel)) ggX7_read_X7_allocationBits
