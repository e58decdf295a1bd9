set_option maxRecDepth 20000 in
theorem ggX7_read_X7_stepsBy : GoodIn wsX7_read wsX7_stepsBy := goodIn_r _ [38, 13, 39, 40, 41, 19, 42, 31, 32, 33, 34, 9, 64, 65, 66, 67, 68, 69, 70, 71, 72, 73, 74, 75, 76, 77, 78, 79, 80, 81, 82, 83, 84, 85, 86, 87, 88, 89, 90, 91, 92, 93, 94, 95, 96, 97, 98, 99, 100, 101, 102, 103] (by decide +kernel) (by decide +kernel)
set_option maxRecDepth 20000 in
theorem gX7_read_X7_stepsBy : GoodIn wsX7_read (wsV RX7 214 RX7 yX7_stepsBy wsX7_stepsBy) := goodIn_app (goodIn_of _ (by decide +kernel)) ggX7_read_X7_stepsBy
set_option maxRecDepth 20000 in
theorem ggX7_read_X7_factors : GoodIn wsX7_read wsX7_factors := goodIn_r _ [46, 9, 10, 15, 13, 14, 47, 16, 17, 18, 19, 20, 2, 4, 5, 21, 64, 65, 66, 67, 68, 69, 70, 71, 72, 73, 74, 75, 76, 77, 78, 79, 80, 81, 82, 83, 84, 85, 86, 87, 88, 89, 90, 91, 92, 93, 94, 95, 96, 97, 98, 99, 100, 101, 102, 103] (by decide +kernel) (by decide +kernel)
set_option maxRecDepth 20000 in
theorem gX7_read_X7_factors : GoodIn wsX7_read (wsV RX7 217 RX7 yX7_factors wsX7_factors) := goodIn_app (goodIn_of _ (by decide +kernel)) ggX7_read_X7_factors
set_option maxRecDepth 20000 in
theorem ggX7_read_X7_codesOne : GoodIn wsX7_read wsX7_codesOne := goodIn_r _ [51, 9, 10, 15, 52, 12, 53, 54, 19, 55, 16, 17, 18, 20, 2, 4, 5, 21, 64, 65, 66, 67, 68, 69, 70, 71, 72, 73, 74, 75, 76, 77, 78, 79, 80, 81, 82, 83, 84, 85, 86, 87, 88, 89, 90, 91, 92, 93, 94, 95, 96, 97, 98, 99, 100, 101, 102, 103] (by decide +kernel) (by decide +kernel)
set_option maxRecDepth 20000 in
theorem gX7_read_X7_codesOne : GoodIn wsX7_read (wsV RX7 220 RX7 yX7_codesOne wsX7_codesOne) := goodIn_app (goodIn_of _ (by decide +kernel)) ggX7_read_X7_codesOne
set_option maxRecDepth 20000 in
theorem ggX7_read_X7_codesTwo : GoodIn wsX7_read wsX7_codesTwo := goodIn_r _ [59, 9, 10, 15, 12, 52, 60, 61, 62, 19, 63, 16, 17, 18, 20, 2, 4, 5, 21, 53, 54, 55, 64, 65, 66, 67, 68, 69, 70, 71, 72, 73, 74, 75, 76, 77, 78, 79, 80, 81, 82, 83, 84, 85, 86, 87, 88, 89, 90, 91, 92, 93, 94, 95, 96, 97, 98, 99, 100, 101, 102, 103] (by decide +kernel) (by decide +kernel)
set_option maxRecDepth 20000 in
theorem gX7_read_X7_codesTwo : GoodIn wsX7_read (wsV RX7 223 RX7 yX7_codesTwo wsX7_codesTwo) := goodIn_app (goodIn_of _ (by decide +kernel)) ggX7_read_X7_codesTwo
set_option maxRecDepth 20000 in
theorem ggX7_factors_X7_bits : GoodIn wsX7_factors wsX7_bits := goodIn_r _ [11, 12, 13, 14, 15, 16, 17, 18, 19, 20, 21, 22, 23, 24, 25, 26, 27, 28, 29, 30, 31, 32, 33, 34, 35, 36, 37, 38, 39, 40, 41, 42, 43, 44, 45, 46, 47, 48, 49, 50, 51, 52, 53, 54, 55] (by decide +kernel) (by decide +kernel)
set_option maxRecDepth 20000 in
theorem gX7_factors_X7_bits : GoodIn wsX7_factors (wsV RX7 132 RX7 yX7_bits wsX7_bits) := goodIn_app (goodIn_of _ (by decide +kernel)) ggX7_factors_X7_bits
set_option maxRecDepth 20000 in
theorem ggX7_codesOne_X7_bitsOf : GoodIn wsX7_codesOne wsX7_bitsOf := goodIn_r _ [9] (by decide +kernel) (by decide +kernel)
set_option maxRecDepth 20000 in
theorem gX7_codesOne_X7_bitsOf : GoodIn wsX7_codesOne (va_wsS RX7 226 yX7_bitsOf wsX7_bitsOf) := goodIn_app (goodIn_of _ (by decide +kernel)) ggX7_codesOne_X7_bitsOf
set_option maxRecDepth 20000 in
theorem ggX7_codesOne_X7_bits : GoodIn wsX7_codesOne wsX7_bits := goodIn_r _ [13, 14, 15, 16, 17, 18, 19, 20, 21, 22, 23, 24, 25, 26, 27, 28, 29, 30, 31, 32, 33, 34, 35, 36, 37, 38, 39, 40, 41, 42, 43, 44, 45, 46, 47, 48, 49, 50, 51, 52, 53, 54, 55, 56, 57] (by decide +kernel) (by decide +kernel)
set_option maxRecDepth 20000 in
theorem gX7_codesOne_X7_bits : GoodIn wsX7_codesOne (wsV RX7 132 RX7 yX7_bits wsX7_bits) := goodIn_app (goodIn_of _ (by decide +kernel)) ggX7_codesOne_X7_bits
