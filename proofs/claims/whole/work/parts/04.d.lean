set_option maxRecDepth 20000 in
theorem ggX3_init_X0_init : GoodIn wsX3_init wsX0_init := goodIn_r _ [12, 13, 2, 3, 8, 14, 15, 16, 17, 18, 19] (by decide +kernel) (by decide +kernel)
set_option maxRecDepth 20000 in
theorem gX3_init_X0_init_n11 : GoodIn wsX3_init (wsX0_init) := ggX3_init_X0_init
theorem dX3_init_0 : decode cX3_init 0 = .ok (.aload_n 0, 1) := by decide +kernel
theorem dX3_init_1 : decode cX3_init 1 = .ok (.invokespecial 3, 3) := by decide +kernel
theorem dX3_init_4 : decode cX3_init 4 = .ok (.aload_n 0, 1) := by decide +kernel
theorem dX3_init_5 : decode cX3_init 5 = .ok (.new 9, 3) := by decide +kernel
theorem dX3_init_8 : decode cX3_init 8 = .ok (.dup, 1) := by decide +kernel
theorem dX3_init_9 : decode cX3_init 9 = .ok (.invokespecial 11, 3) := by decide +kernel
theorem dX3_init_12 : decode cX3_init 12 = .ok (.putfield 12, 3) := by decide +kernel
theorem dX3_init_15 : decode cX3_init 15 = .ok (.aload_n 0, 1) := by decide +kernel
theorem dX3_init_16 : decode cX3_init 16 = .ok (.bipush 64, 2) := by decide +kernel
theorem dX3_init_18 : decode cX3_init 18 = .ok (.newarray .int, 2) := by decide +kernel
theorem dX3_init_20 : decode cX3_init 20 = .ok (.putfield 18, 3) := by decide +kernel
theorem dX3_init_23 : decode cX3_init 23 = .ok (.aload_n 0, 1) := by decide +kernel
theorem dX3_init_24 : decode cX3_init 24 = .ok (.iconst 3, 1) := by decide +kernel
theorem dX3_init_25 : decode cX3_init 25 = .ok (.newarray .int, 2) := by decide +kernel
theorem dX3_init_27 : decode cX3_init 27 = .ok (.putfield 22, 3) := by decide +kernel
theorem dX3_init_30 : decode cX3_init 30 = .ok (.return_, 1) := by decide +kernel
set_option maxRecDepth 20000 in
theorem ggX3_read_X0_open : GoodIn wsX3_read wsX0_open := goodIn_r _ [12, 13, 14, 15, 16, 17, 18, 19, 20, 21, 22, 23, 24, 179, 180, 181, 182, 183] (by decide +kernel) (by decide +kernel)
set_option maxRecDepth 20000 in
theorem gX3_read_X0_open : GoodIn wsX3_read (wsV RX3 34 RX0 yX0_open wsX0_open) := goodIn_app (goodIn_of _ (by decide +kernel)) ggX3_read_X0_open
set_option maxRecDepth 20000 in
theorem ggX3_read_X2_samplesAtOnce : GoodIn wsX3_read wsX2_samplesAtOnce := goodIn_r _ [29, 30, 167, 168, 169, 170, 171, 172, 173, 174, 175, 176, 177, 178] (by decide +kernel) (by decide +kernel)
set_option maxRecDepth 20000 in
theorem gX3_read_X2_samplesAtOnce : GoodIn wsX3_read (wsV RX3 45 RX2 yX2_samplesAtOnce wsX2_samplesAtOnce) := goodIn_app (goodIn_of _ (by decide +kernel)) ggX3_read_X2_samplesAtOnce
set_option maxRecDepth 20000 in
theorem ggX3_read_X1_wipe : GoodIn wsX3_read wsX1_wipe := goodIn_r _ [35, 36, 37, 38, 39, 40, 41, 42, 43, 44, 184, 185, 186, 187, 188] (by decide +kernel) (by decide +kernel)
set_option maxRecDepth 20000 in
theorem gX3_read_X1_wipe : GoodIn wsX3_read (wsV RX3 49 RX1 yX1_wipe wsX1_wipe) := goodIn_app (goodIn_of _ (by decide +kernel)) ggX3_read_X1_wipe
set_option maxRecDepth 20000 in
theorem ggX3_read_X0_take : GoodIn wsX3_read wsX0_take := goodIn_r _ [48, 23, 22, 24, 13, 18, 179, 180, 181, 182, 183] (by decide +kernel) (by decide +kernel)
set_option maxRecDepth 20000 in
theorem gX3_read_X0_take : GoodIn wsX3_read (wsV RX3 55 RX0 yX0_take wsX0_take) := goodIn_app (goodIn_of _ (by decide +kernel)) ggX3_read_X0_take
set_option maxRecDepth 20000 in
theorem ggX3_read_X3_takeAllocations : GoodIn wsX3_read wsX3_takeAllocations := goodIn_r _ [53, 54, 5, 55, 56, 57, 58, 28, 59, 60, 61, 62, 63, 64, 52, 65, 1, 4, 66, 67, 68, 69, 30, 70, 71, 72, 73, 74, 75, 76, 77, 78, 79, 80, 81, 82, 83, 84, 85, 86, 87, 45, 46, 47, 11, 48, 23, 22, 24, 13, 18, 88, 89, 90, 91, 92, 93, 34, 94, 167, 168, 169, 170, 171, 172, 173, 174, 175, 176, 177, 178, 184, 185, 186, 187, 188, 163, 164, 165, 166, 179, 180, 181, 182, 183] (by decide +kernel) (by decide +kernel)
set_option maxRecDepth 20000 in
theorem gX3_read_X3_takeAllocations : GoodIn wsX3_read (wsV RX3 62 RX3 yX3_takeAllocations wsX3_takeAllocations) := goodIn_app (goodIn_of _ (by decide +kernel)) ggX3_read_X3_takeAllocations
set_option maxRecDepth 20000 in
theorem ggX3_read_X3_takeSelections : GoodIn wsX3_read wsX3_takeSelections := goodIn_r _ [98, 99, 100, 54, 5, 55, 1, 101, 42, 43, 44, 92, 93, 34, 94, 45, 46, 47, 11, 48, 23, 22, 24, 13, 18, 163, 164, 165, 166, 167, 168, 169, 170, 171, 172, 173, 174, 175, 176, 177, 178, 184, 185, 186, 187, 188, 179, 180, 181, 182, 183] (by decide +kernel) (by decide +kernel)
set_option maxRecDepth 20000 in
theorem gX3_read_X3_takeSelections : GoodIn wsX3_read (wsV RX3 66 RX3 yX3_takeSelections wsX3_takeSelections) := goodIn_app (goodIn_of _ (by decide +kernel)) ggX3_read_X3_takeSelections
set_option maxRecDepth 20000 in
theorem ggX3_read_X3_checkOfBits : GoodIn wsX3_read wsX3_checkOfBits := goodIn_r _ [105, 1, 106, 107, 108, 109, 110, 52, 111, 112, 45, 46, 47, 11, 48, 23, 22, 24, 13, 18, 163, 164, 165, 166, 179, 180, 181, 182, 183] (by decide +kernel) (by decide +kernel)
set_option maxRecDepth 20000 in
theorem gX3_read_X3_checkOfBits : GoodIn wsX3_read (wsV RX3 72 RX3 yX3_checkOfBits wsX3_checkOfBits) := goodIn_app (goodIn_of _ (by decide +kernel)) ggX3_read_X3_checkOfBits
set_option maxRecDepth 20000 in
theorem ggX3_read_X3_takeFactors : GoodIn wsX3_read wsX3_takeFactors := goodIn_r _ [116, 54, 5, 55, 99, 117, 92, 93, 34, 94, 118, 119, 120, 52, 121, 122, 123, 124, 125, 1, 4, 45, 46, 47, 11, 48, 23, 22, 24, 13, 18, 167, 168, 169, 170, 171, 172, 173, 174, 175, 176, 177, 178, 184, 185, 186, 187, 188, 163, 164, 165, 166, 179, 180, 181, 182, 183] (by decide +kernel) (by decide +kernel)
set_option maxRecDepth 20000 in
theorem gX3_read_X3_takeFactors : GoodIn wsX3_read (wsV RX3 75 RX3 yX3_takeFactors wsX3_takeFactors) := goodIn_app (goodIn_of _ (by decide +kernel)) ggX3_read_X3_takeFactors
set_option maxRecDepth 20000 in
theorem ggX3_read_X3_takeSamples : GoodIn wsX3_read wsX3_takeSamples := goodIn_r _ [129, 54, 130, 131, 132, 52, 133, 4, 1, 7, 134, 135, 136, 137, 55, 5, 56, 57, 58, 28, 59, 60, 61, 92, 93, 34, 94, 25, 26, 27, 29, 30, 138, 139, 140, 141, 142, 143, 144, 145, 45, 46, 47, 11, 48, 23, 22, 24, 13, 18, 146, 147, 148, 149, 150, 82, 83, 84, 85, 86, 87, 151, 152, 153, 154, 117, 155, 156, 157, 158, 159, 160, 161, 162, 167, 168, 169, 170, 171, 172, 173, 174, 175, 176, 177, 178, 163, 164, 165, 166, 179, 180, 181, 182, 183, 184, 185, 186, 187, 188] (by decide +kernel) (by decide +kernel)
set_option maxRecDepth 20000 in
theorem gX3_read_X3_takeSamples : GoodIn wsX3_read (wsV RX3 78 RX3 yX3_takeSamples wsX3_takeSamples) := goodIn_app (goodIn_of _ (by decide +kernel)) ggX3_read_X3_takeSamples
set_option maxRecDepth 20000 in
theorem ggX3_read_X3_isLost : GoodIn wsX3_read wsX3_isLost := goodIn_r _ [133, 4, 1, 7, 163, 164, 165, 166, 179, 180, 181, 182, 183] (by decide +kernel) (by decide +kernel)
set_option maxRecDepth 20000 in
theorem gX3_read_X3_isLost : GoodIn wsX3_read (wsV RX3 81 RX3 yX3_isLost wsX3_isLost) := goodIn_app (goodIn_of _ (by decide +kernel)) ggX3_read_X3_isLost
theorem dX3_read_0 : decode cX3_read 0 = .ok (.aload_n 0, 1) := by decide +kernel
theorem dX3_read_1 : decode cX3_read 1 = .ok (.getfield 12, 3) := by decide +kernel
theorem dX3_read_4 : decode cX3_read 4 = .ok (.aload_n 1, 1) := by decide +kernel
theorem dX3_read_5 : decode cX3_read 5 = .ok (.aload_n 2, 1) := by decide +kernel
theorem dX3_read_6 : decode cX3_read 6 = .ok (.getfield 25, 3) := by decide +kernel
theorem dX3_read_9 : decode cX3_read 9 = .ok (.aload_n 2, 1) := by decide +kernel
theorem dX3_read_10 : decode cX3_read 10 = .ok (.getfield 31, 3) := by decide +kernel
theorem dX3_read_13 : decode cX3_read 13 = .ok (.invokevirtual 34, 3) := by decide +kernel
theorem dX3_read_16 : decode cX3_read 16 = .ok (.aload_n 0, 1) := by decide +kernel
theorem dX3_read_17 : decode cX3_read 17 = .ok (.iconst 0, 1) := by decide +kernel
theorem dX3_read_18 : decode cX3_read 18 = .ok (.putfield 38, 3) := by decide +kernel
theorem dX3_read_21 : decode cX3_read 21 = .ok (.aload_n 3, 1) := by decide +kernel
theorem dX3_read_22 : decode cX3_read 22 = .ok (.aload_n 2, 1) := by decide +kernel
theorem dX3_read_23 : decode cX3_read 23 = .ok (.getfield 42, 3) := by decide +kernel
theorem dX3_read_26 : decode cX3_read 26 = .ok (.bipush 12, 2) := by decide +kernel
theorem dX3_read_28 : decode cX3_read 28 = .ok (.aload_n 2, 1) := by decide +kernel
theorem dX3_read_29 : decode cX3_read 29 = .ok (.invokevirtual 45, 3) := by decide +kernel
theorem dX3_read_32 : decode cX3_read 32 = .ok (.imul, 1) := by decide +kernel
theorem dX3_read_33 : decode cX3_read 33 = .ok (.invokevirtual 49, 3) := by decide +kernel
theorem dX3_read_36 : decode cX3_read 36 = .ok (.aload_n 0, 1) := by decide +kernel
theorem dX3_read_37 : decode cX3_read 37 = .ok (.getfield 12, 3) := by decide +kernel
theorem dX3_read_40 : decode cX3_read 40 = .ok (.bipush 32, 2) := by decide +kernel
theorem dX3_read_42 : decode cX3_read 42 = .ok (.invokevirtual 55, 3) := by decide +kernel
theorem dX3_read_45 : decode cX3_read 45 = .ok (.pop, 1) := by decide +kernel
theorem dX3_read_46 : decode cX3_read 46 = .ok (.aload_n 2, 1) := by decide +kernel
theorem dX3_read_47 : decode cX3_read 47 = .ok (.getfield 59, 3) := by decide +kernel
theorem dX3_read_50 : decode cX3_read 50 = .ok (.ifCond .eq 15, 3) := by decide +kernel
theorem dX3_read_53 : decode cX3_read 53 = .ok (.aload_n 0, 1) := by decide +kernel
theorem dX3_read_54 : decode cX3_read 54 = .ok (.getfield 12, 3) := by decide +kernel
theorem dX3_read_57 : decode cX3_read 57 = .ok (.bipush 16, 2) := by decide +kernel
theorem dX3_read_59 : decode cX3_read 59 = .ok (.invokevirtual 55, 3) := by decide +kernel
theorem dX3_read_62 : decode cX3_read 62 = .ok (.goto 4, 3) := by decide +kernel
theorem dX3_read_65 : decode cX3_read 65 = .ok (.iconst 0, 1) := by decide +kernel
theorem dX3_read_66 : decode cX3_read 66 = .ok (.istore 4, 2) := by decide +kernel
theorem dX3_read_68 : decode cX3_read 68 = .ok (.aload_n 0, 1) := by decide +kernel
theorem dX3_read_69 : decode cX3_read 69 = .ok (.aload_n 2, 1) := by decide +kernel
theorem dX3_read_70 : decode cX3_read 70 = .ok (.aload_n 3, 1) := by decide +kernel
theorem dX3_read_71 : decode cX3_read 71 = .ok (.invokevirtual 62, 3) := by decide +kernel
theorem dX3_read_74 : decode cX3_read 74 = .ok (.aload_n 0, 1) := by decide +kernel
theorem dX3_read_75 : decode cX3_read 75 = .ok (.aload_n 2, 1) := by decide +kernel
theorem dX3_read_76 : decode cX3_read 76 = .ok (.aload_n 3, 1) := by decide +kernel
theorem dX3_read_77 : decode cX3_read 77 = .ok (.invokevirtual 66, 3) := by decide +kernel
theorem dX3_read_80 : decode cX3_read 80 = .ok (.aload_n 0, 1) := by decide +kernel
theorem dX3_read_81 : decode cX3_read 81 = .ok (.getfield 12, 3) := by decide +kernel
theorem dX3_read_84 : decode cX3_read 84 = .ok (.getfield 69, 3) := by decide +kernel
theorem dX3_read_87 : decode cX3_read 87 = .ok (.ifCond .eq 5, 3) := by decide +kernel
theorem dX3_read_90 : decode cX3_read 90 = .ok (.iconst 2, 1) := by decide +kernel
theorem dX3_read_91 : decode cX3_read 91 = .ok (.ireturn, 1) := by decide +kernel
theorem dX3_read_92 : decode cX3_read 92 = .ok (.aload_n 2, 1) := by decide +kernel
theorem dX3_read_93 : decode cX3_read 93 = .ok (.getfield 59, 3) := by decide +kernel
theorem dX3_read_96 : decode cX3_read 96 = .ok (.ifCond .eq 14, 3) := by decide +kernel
theorem dX3_read_99 : decode cX3_read 99 = .ok (.iload 4, 2) := by decide +kernel
theorem dX3_read_101 : decode cX3_read 101 = .ok (.aload_n 0, 1) := by decide +kernel
theorem dX3_read_102 : decode cX3_read 102 = .ok (.invokevirtual 72, 3) := by decide +kernel
theorem dX3_read_105 : decode cX3_read 105 = .ok (.if_icmp .eq 5, 3) := by decide +kernel
theorem dX3_read_108 : decode cX3_read 108 = .ok (.iconst 1, 1) := by decide +kernel
theorem dX3_read_109 : decode cX3_read 109 = .ok (.ireturn, 1) := by decide +kernel
theorem dX3_read_110 : decode cX3_read 110 = .ok (.aload_n 0, 1) := by decide +kernel
theorem dX3_read_111 : decode cX3_read 111 = .ok (.aload_n 2, 1) := by decide +kernel
theorem dX3_read_112 : decode cX3_read 112 = .ok (.aload_n 3, 1) := by decide +kernel
theorem dX3_read_113 : decode cX3_read 113 = .ok (.invokevirtual 75, 3) := by decide +kernel
theorem dX3_read_116 : decode cX3_read 116 = .ok (.aload_n 0, 1) := by decide +kernel
theorem dX3_read_117 : decode cX3_read 117 = .ok (.aload_n 2, 1) := by decide +kernel
theorem dX3_read_118 : decode cX3_read 118 = .ok (.aload_n 3, 1) := by decide +kernel
theorem dX3_read_119 : decode cX3_read 119 = .ok (.invokevirtual 78, 3) := by decide +kernel
theorem dX3_read_122 : decode cX3_read 122 = .ok (.aload_n 0, 1) := by decide +kernel
theorem dX3_read_123 : decode cX3_read 123 = .ok (.invokevirtual 81, 3) := by decide +kernel
theorem dX3_read_126 : decode cX3_read 126 = .ok (.ifCond .eq 7, 3) := by decide +kernel
theorem dX3_read_129 : decode cX3_read 129 = .ok (.iconst 2, 1) := by decide +kernel
theorem dX3_read_130 : decode cX3_read 130 = .ok (.goto 4, 3) := by decide +kernel
theorem dX3_read_133 : decode cX3_read 133 = .ok (.iconst 0, 1) := by decide +kernel
theorem dX3_read_134 : decode cX3_read 134 = .ok (.ireturn, 1) := by decide +kernel
theorem dX3_isLost_0 : decode cX3_isLost 0 = .ok (.aload_n 0, 1) := by decide +kernel
theorem dX3_isLost_1 : decode cX3_isLost 1 = .ok (.getfield 38, 3) := by decide +kernel
theorem dX3_isLost_4 : decode cX3_isLost 4 = .ok (.ifCond .ne 13, 3) := by decide +kernel
theorem dX3_isLost_7 : decode cX3_isLost 7 = .ok (.aload_n 0, 1) := by decide +kernel
theorem dX3_isLost_8 : decode cX3_isLost 8 = .ok (.getfield 12, 3) := by decide +kernel
theorem dX3_isLost_11 : decode cX3_isLost 11 = .ok (.getfield 69, 3) := by decide +kernel
theorem dX3_isLost_14 : decode cX3_isLost 14 = .ok (.ifCond .eq 7, 3) := by decide +kernel
theorem dX3_isLost_17 : decode cX3_isLost 17 = .ok (.iconst 1, 1) := by decide +kernel
theorem dX3_isLost_18 : decode cX3_isLost 18 = .ok (.goto 4, 3) := by decide +kernel
theorem dX3_isLost_21 : decode cX3_isLost 21 = .ok (.iconst 0, 1) := by decide +kernel
theorem dX3_isLost_22 : decode cX3_isLost 22 = .ok (.ireturn, 1) := by decide +kernel
set_option maxRecDepth 20000 in
theorem ggX3_takeAllocations_X2_channelsTold : GoodIn wsX3_takeAllocations wsX2_channelsTold := goodIn_r _ [8, 9, 10, 59, 60, 61, 62, 63, 64, 65, 66, 67, 68, 69, 70] (by decide +kernel) (by decide +kernel)
set_option maxRecDepth 20000 in
theorem gX3_takeAllocations_X2_channelsTold : GoodIn wsX3_takeAllocations (wsV RX3 88 RX2 yX2_channelsTold wsX2_channelsTold) := goodIn_app (goodIn_of _ (by decide +kernel)) ggX3_takeAllocations_X2_channelsTold
set_option maxRecDepth 20000 in
theorem ggX3_takeAllocations_X3_takeSteps : GoodIn wsX3_takeAllocations wsX3_takeSteps := goodIn_r _ [15, 16, 17, 18, 19, 20, 7, 21, 22, 23, 24, 25, 26, 27, 28, 29, 30, 31, 32, 33, 34, 35, 36, 37, 38, 39, 40, 41, 42, 43, 44, 45, 46, 47, 48, 49, 50, 51, 52, 53, 54, 76, 77, 78, 79, 59, 60, 61, 62, 63, 64, 65, 66, 67, 68, 69, 70, 80, 81, 82, 83, 84] (by decide +kernel) (by decide +kernel)
set_option maxRecDepth 20000 in
theorem gX3_takeAllocations_X3_takeSteps : GoodIn wsX3_takeAllocations (wsV RX3 91 RX3 yX3_takeSteps wsX3_takeSteps) := goodIn_app (goodIn_of _ (by decide +kernel)) ggX3_takeAllocations_X3_takeSteps
set_option maxRecDepth 20000 in
theorem ggX3_takeAllocations_X1_bandIndex : GoodIn wsX3_takeAllocations wsX1_bandIndex := goodIn_r _ [58] (by decide +kernel) (by decide +kernel)
set_option maxRecDepth 20000 in
theorem gX3_takeAllocations_X1_bandIndex : GoodIn wsX3_takeAllocations (va_wsS RX3 98 yX1_bandIndex wsX1_bandIndex) := goodIn_app (goodIn_of _ (by decide +kernel)) ggX3_takeAllocations_X1_bandIndex
theorem dX3_takeAllocations_0 : decode cX3_takeAllocations 0 = .ok (.iconst 0, 1) := by decide +kernel
theorem dX3_takeAllocations_1 : decode cX3_takeAllocations 1 = .ok (.istore_n 3, 1) := by decide +kernel
theorem dX3_takeAllocations_2 : decode cX3_takeAllocations 2 = .ok (.iload_n 3, 1) := by decide +kernel
theorem dX3_takeAllocations_3 : decode cX3_takeAllocations 3 = .ok (.aload_n 1, 1) := by decide +kernel
theorem dX3_takeAllocations_4 : decode cX3_takeAllocations 4 = .ok (.getfield 85, 3) := by decide +kernel
theorem dX3_takeAllocations_7 : decode cX3_takeAllocations 7 = .ok (.if_icmp .ge 72, 3) := by decide +kernel
theorem dX3_takeAllocations_10 : decode cX3_takeAllocations 10 = .ok (.aload_n 1, 1) := by decide +kernel
theorem dX3_takeAllocations_11 : decode cX3_takeAllocations 11 = .ok (.iload_n 3, 1) := by decide +kernel
theorem dX3_takeAllocations_12 : decode cX3_takeAllocations 12 = .ok (.invokevirtual 88, 3) := by decide +kernel
theorem dX3_takeAllocations_15 : decode cX3_takeAllocations 15 = .ok (.istore 4, 2) := by decide +kernel
theorem dX3_takeAllocations_17 : decode cX3_takeAllocations 17 = .ok (.iconst 0, 1) := by decide +kernel
theorem dX3_takeAllocations_18 : decode cX3_takeAllocations 18 = .ok (.istore 5, 2) := by decide +kernel
theorem dX3_takeAllocations_20 : decode cX3_takeAllocations 20 = .ok (.iload 5, 2) := by decide +kernel
theorem dX3_takeAllocations_22 : decode cX3_takeAllocations 22 = .ok (.iload 4, 2) := by decide +kernel
theorem dX3_takeAllocations_24 : decode cX3_takeAllocations 24 = .ok (.if_icmp .ge 49, 3) := by decide +kernel
theorem dX3_takeAllocations_27 : decode cX3_takeAllocations 27 = .ok (.aload_n 0, 1) := by decide +kernel
theorem dX3_takeAllocations_28 : decode cX3_takeAllocations 28 = .ok (.aload_n 1, 1) := by decide +kernel
theorem dX3_takeAllocations_29 : decode cX3_takeAllocations 29 = .ok (.iload_n 3, 1) := by decide +kernel
theorem dX3_takeAllocations_30 : decode cX3_takeAllocations 30 = .ok (.invokevirtual 91, 3) := by decide +kernel
theorem dX3_takeAllocations_33 : decode cX3_takeAllocations 33 = .ok (.istore 6, 2) := by decide +kernel
theorem dX3_takeAllocations_35 : decode cX3_takeAllocations 35 = .ok (.iload 5, 2) := by decide +kernel
theorem dX3_takeAllocations_37 : decode cX3_takeAllocations 37 = .ok (.istore 7, 2) := by decide +kernel
theorem dX3_takeAllocations_39 : decode cX3_takeAllocations 39 = .ok (.iload 7, 2) := by decide +kernel
theorem dX3_takeAllocations_41 : decode cX3_takeAllocations 41 = .ok (.aload_n 1, 1) := by decide +kernel
theorem dX3_takeAllocations_42 : decode cX3_takeAllocations 42 = .ok (.getfield 42, 3) := by decide +kernel
theorem dX3_takeAllocations_45 : decode cX3_takeAllocations 45 = .ok (.if_icmp .ge 22, 3) := by decide +kernel
theorem dX3_takeAllocations_48 : decode cX3_takeAllocations 48 = .ok (.aload_n 2, 1) := by decide +kernel
theorem dX3_takeAllocations_49 : decode cX3_takeAllocations 49 = .ok (.getfield 95, 3) := by decide +kernel
theorem dX3_takeAllocations_52 : decode cX3_takeAllocations 52 = .ok (.iload 7, 2) := by decide +kernel
theorem dX3_takeAllocations_54 : decode cX3_takeAllocations 54 = .ok (.iload_n 3, 1) := by decide +kernel
theorem dX3_takeAllocations_55 : decode cX3_takeAllocations 55 = .ok (.invokestatic 98, 3) := by decide +kernel
theorem dX3_takeAllocations_58 : decode cX3_takeAllocations 58 = .ok (.iload 6, 2) := by decide +kernel
theorem dX3_takeAllocations_60 : decode cX3_takeAllocations 60 = .ok (.iastore, 1) := by decide +kernel
theorem dX3_takeAllocations_61 : decode cX3_takeAllocations 61 = .ok (.iinc 7 1, 3) := by decide +kernel
theorem dX3_takeAllocations_64 : decode cX3_takeAllocations 64 = .ok (.goto (-25), 3) := by decide +kernel
theorem dX3_takeAllocations_67 : decode cX3_takeAllocations 67 = .ok (.iinc 5 1, 3) := by decide +kernel
theorem dX3_takeAllocations_70 : decode cX3_takeAllocations 70 = .ok (.goto (-50), 3) := by decide +kernel
theorem dX3_takeAllocations_73 : decode cX3_takeAllocations 73 = .ok (.iinc 3 1, 3) := by decide +kernel
theorem dX3_takeAllocations_76 : decode cX3_takeAllocations 76 = .ok (.goto (-74), 3) := by decide +kernel
theorem dX3_takeAllocations_79 : decode cX3_takeAllocations 79 = .ok (.return_, 1) := by decide +kernel
set_option maxRecDepth 20000 in
theorem ggX3_takeSteps_X2_allocationBits : GoodIn wsX3_takeSteps wsX2_allocationBits := goodIn_r _ [7, 8, 9, 10, 11, 6, 12, 13, 14, 15, 16, 17, 18, 19, 20, 21, 22, 23, 24, 25, 26, 45, 46, 47, 48, 49, 50, 51, 52, 53, 54, 55, 56] (by decide +kernel) (by decide +kernel)
set_option maxRecDepth 20000 in
theorem gX3_takeSteps_X2_allocationBits : GoodIn wsX3_takeSteps (wsV RX3 102 RX2 yX2_allocationBits wsX2_allocationBits) := goodIn_app (goodIn_of _ (by decide +kernel)) ggX3_takeSteps_X2_allocationBits
set_option maxRecDepth 20000 in
theorem ggX3_takeSteps_X0_take : GoodIn wsX3_takeSteps wsX0_take := goodIn_r _ [31, 32, 33, 34, 35, 36, 57, 58, 59, 60, 61] (by decide +kernel) (by decide +kernel)
set_option maxRecDepth 20000 in
theorem gX3_takeSteps_X0_take : GoodIn wsX3_takeSteps (wsV RX3 55 RX0 yX0_take wsX0_take) := goodIn_app (goodIn_of _ (by decide +kernel)) ggX3_takeSteps_X0_take
set_option maxRecDepth 20000 in
theorem ggX3_takeSteps_X2_stepsOf : GoodIn wsX3_takeSteps wsX2_stepsOf := goodIn_r _ [40, 8, 9, 10, 11, 6, 12, 13, 14, 15, 16, 17, 18, 19, 45, 46, 47, 48, 49, 50, 51, 52, 53, 54, 55, 56] (by decide +kernel) (by decide +kernel)
set_option maxRecDepth 20000 in
theorem gX3_takeSteps_X2_stepsOf : GoodIn wsX3_takeSteps (wsV RX3 105 RX2 yX2_stepsOf wsX2_stepsOf) := goodIn_app (goodIn_of _ (by decide +kernel)) ggX3_takeSteps_X2_stepsOf
theorem dX3_takeSteps_0 : decode cX3_takeSteps 0 = .ok (.aload_n 1, 1) := by decide +kernel
theorem dX3_takeSteps_1 : decode cX3_takeSteps 1 = .ok (.iload_n 2, 1) := by decide +kernel
theorem dX3_takeSteps_2 : decode cX3_takeSteps 2 = .ok (.aload_n 0, 1) := by decide +kernel
theorem dX3_takeSteps_3 : decode cX3_takeSteps 3 = .ok (.getfield 12, 3) := by decide +kernel
theorem dX3_takeSteps_6 : decode cX3_takeSteps 6 = .ok (.aload_n 1, 1) := by decide +kernel
theorem dX3_takeSteps_7 : decode cX3_takeSteps 7 = .ok (.iload_n 2, 1) := by decide +kernel
theorem dX3_takeSteps_8 : decode cX3_takeSteps 8 = .ok (.invokevirtual 102, 3) := by decide +kernel
theorem dX3_takeSteps_11 : decode cX3_takeSteps 11 = .ok (.invokevirtual 55, 3) := by decide +kernel
theorem dX3_takeSteps_14 : decode cX3_takeSteps 14 = .ok (.invokevirtual 105, 3) := by decide +kernel
theorem dX3_takeSteps_17 : decode cX3_takeSteps 17 = .ok (.istore_n 3, 1) := by decide +kernel
theorem dX3_takeSteps_18 : decode cX3_takeSteps 18 = .ok (.iload_n 3, 1) := by decide +kernel
theorem dX3_takeSteps_19 : decode cX3_takeSteps 19 = .ok (.iconst (-1), 1) := by decide +kernel
theorem dX3_takeSteps_20 : decode cX3_takeSteps 20 = .ok (.if_icmp .ne 10, 3) := by decide +kernel
theorem dX3_takeSteps_23 : decode cX3_takeSteps 23 = .ok (.aload_n 0, 1) := by decide +kernel
theorem dX3_takeSteps_24 : decode cX3_takeSteps 24 = .ok (.iconst 1, 1) := by decide +kernel
theorem dX3_takeSteps_25 : decode cX3_takeSteps 25 = .ok (.putfield 38, 3) := by decide +kernel
theorem dX3_takeSteps_28 : decode cX3_takeSteps 28 = .ok (.iconst 0, 1) := by decide +kernel
theorem dX3_takeSteps_29 : decode cX3_takeSteps 29 = .ok (.ireturn, 1) := by decide +kernel
theorem dX3_takeSteps_30 : decode cX3_takeSteps 30 = .ok (.iload_n 3, 1) := by decide +kernel
theorem dX3_takeSteps_31 : decode cX3_takeSteps 31 = .ok (.ireturn, 1) := by decide +kernel
set_option maxRecDepth 20000 in
theorem ggX3_takeSelections_J7_fill_53178 : GoodIn wsX3_takeSelections wsJ7_fill_53178 := goodIn_r _ [10] (by decide +kernel) (by decide +kernel)
set_option maxRecDepth 20000 in
theorem gX3_takeSelections_J7_fill_53178 : GoodIn wsX3_takeSelections (va_wsS RX3 108 yJ7_fill_53178 wsJ7_fill_53178) := goodIn_app (goodIn_of _ (by decide +kernel)) ggX3_takeSelections_J7_fill_53178
set_option maxRecDepth 20000 in
theorem ggX3_takeSelections_X1_bandIndex : GoodIn wsX3_takeSelections wsX1_bandIndex := goodIn_r _ [14] (by decide +kernel) (by decide +kernel)
set_option maxRecDepth 20000 in
theorem gX3_takeSelections_X1_bandIndex : GoodIn wsX3_takeSelections (va_wsS RX3 98 yX1_bandIndex wsX1_bandIndex) := goodIn_app (goodIn_of _ (by decide +kernel)) ggX3_takeSelections_X1_bandIndex
set_option maxRecDepth 20000 in
theorem ggX3_takeSelections_X0_take : GoodIn wsX3_takeSelections wsX0_take := goodIn_r _ [19, 20, 21, 22, 23, 24, 46, 47, 48, 49, 50] (by decide +kernel) (by decide +kernel)
set_option maxRecDepth 20000 in
theorem gX3_takeSelections_X0_take : GoodIn wsX3_takeSelections (wsV RX3 55 RX0 yX0_take wsX0_take) := goodIn_app (goodIn_of _ (by decide +kernel)) ggX3_takeSelections_X0_take
theorem dX3_takeSelections_0 : decode cX3_takeSelections 0 = .ok (.aload_n 0, 1) := by decide +kernel
theorem dX3_takeSelections_1 : decode cX3_takeSelections 1 = .ok (.getfield 18, 3) := by decide +kernel
theorem dX3_takeSelections_4 : decode cX3_takeSelections 4 = .ok (.iconst 2, 1) := by decide +kernel
theorem dX3_takeSelections_5 : decode cX3_takeSelections 5 = .ok (.invokestatic 108, 3) := by decide +kernel
theorem dX3_takeSelections_8 : decode cX3_takeSelections 8 = .ok (.aload_n 1, 1) := by decide +kernel
theorem dX3_takeSelections_9 : decode cX3_takeSelections 9 = .ok (.getfield 114, 3) := by decide +kernel
theorem dX3_takeSelections_12 : decode cX3_takeSelections 12 = .ok (.iconst 1, 1) := by decide +kernel
theorem dX3_takeSelections_13 : decode cX3_takeSelections 13 = .ok (.if_icmp .ne 4, 3) := by decide +kernel
theorem dX3_takeSelections_16 : decode cX3_takeSelections 16 = .ok (.return_, 1) := by decide +kernel
theorem dX3_takeSelections_17 : decode cX3_takeSelections 17 = .ok (.iconst 0, 1) := by decide +kernel
theorem dX3_takeSelections_18 : decode cX3_takeSelections 18 = .ok (.istore_n 3, 1) := by decide +kernel
theorem dX3_takeSelections_19 : decode cX3_takeSelections 19 = .ok (.iload_n 3, 1) := by decide +kernel
theorem dX3_takeSelections_20 : decode cX3_takeSelections 20 = .ok (.aload_n 1, 1) := by decide +kernel
theorem dX3_takeSelections_21 : decode cX3_takeSelections 21 = .ok (.getfield 85, 3) := by decide +kernel
theorem dX3_takeSelections_24 : decode cX3_takeSelections 24 = .ok (.if_icmp .ge 60, 3) := by decide +kernel
theorem dX3_takeSelections_27 : decode cX3_takeSelections 27 = .ok (.iconst 0, 1) := by decide +kernel
theorem dX3_takeSelections_28 : decode cX3_takeSelections 28 = .ok (.istore 4, 2) := by decide +kernel
theorem dX3_takeSelections_30 : decode cX3_takeSelections 30 = .ok (.iload 4, 2) := by decide +kernel
theorem dX3_takeSelections_32 : decode cX3_takeSelections 32 = .ok (.aload_n 1, 1) := by decide +kernel
theorem dX3_takeSelections_33 : decode cX3_takeSelections 33 = .ok (.getfield 42, 3) := by decide +kernel
theorem dX3_takeSelections_36 : decode cX3_takeSelections 36 = .ok (.if_icmp .ge 42, 3) := by decide +kernel
theorem dX3_takeSelections_39 : decode cX3_takeSelections 39 = .ok (.iload 4, 2) := by decide +kernel
theorem dX3_takeSelections_41 : decode cX3_takeSelections 41 = .ok (.iload_n 3, 1) := by decide +kernel
theorem dX3_takeSelections_42 : decode cX3_takeSelections 42 = .ok (.invokestatic 98, 3) := by decide +kernel
theorem dX3_takeSelections_45 : decode cX3_takeSelections 45 = .ok (.istore 5, 2) := by decide +kernel
theorem dX3_takeSelections_47 : decode cX3_takeSelections 47 = .ok (.aload_n 2, 1) := by decide +kernel
theorem dX3_takeSelections_48 : decode cX3_takeSelections 48 = .ok (.getfield 95, 3) := by decide +kernel
theorem dX3_takeSelections_51 : decode cX3_takeSelections 51 = .ok (.iload 5, 2) := by decide +kernel
theorem dX3_takeSelections_53 : decode cX3_takeSelections 53 = .ok (.iaload, 1) := by decide +kernel
theorem dX3_takeSelections_54 : decode cX3_takeSelections 54 = .ok (.ifCond .eq 18, 3) := by decide +kernel
theorem dX3_takeSelections_57 : decode cX3_takeSelections 57 = .ok (.aload_n 0, 1) := by decide +kernel
theorem dX3_takeSelections_58 : decode cX3_takeSelections 58 = .ok (.getfield 18, 3) := by decide +kernel
theorem dX3_takeSelections_61 : decode cX3_takeSelections 61 = .ok (.iload 5, 2) := by decide +kernel
theorem dX3_takeSelections_63 : decode cX3_takeSelections 63 = .ok (.aload_n 0, 1) := by decide +kernel
theorem dX3_takeSelections_64 : decode cX3_takeSelections 64 = .ok (.getfield 12, 3) := by decide +kernel
theorem dX3_takeSelections_67 : decode cX3_takeSelections 67 = .ok (.iconst 2, 1) := by decide +kernel
theorem dX3_takeSelections_68 : decode cX3_takeSelections 68 = .ok (.invokevirtual 55, 3) := by decide +kernel
theorem dX3_takeSelections_71 : decode cX3_takeSelections 71 = .ok (.iastore, 1) := by decide +kernel
theorem dX3_takeSelections_72 : decode cX3_takeSelections 72 = .ok (.iinc 4 1, 3) := by decide +kernel
theorem dX3_takeSelections_75 : decode cX3_takeSelections 75 = .ok (.goto (-45), 3) := by decide +kernel
theorem dX3_takeSelections_78 : decode cX3_takeSelections 78 = .ok (.iinc 3 1, 3) := by decide +kernel
theorem dX3_takeSelections_81 : decode cX3_takeSelections 81 = .ok (.goto (-62), 3) := by decide +kernel
theorem dX3_takeSelections_84 : decode cX3_takeSelections 84 = .ok (.return_, 1) := by decide +kernel
set_option maxRecDepth 20000 in
theorem ggX3_checkOfBits_X3_checkOver : GoodIn wsX3_checkOfBits wsX3_checkOver := goodIn_r _ [8, 1, 2, 3, 9, 10, 11, 12, 13, 14, 15, 16, 17, 18, 19, 20, 21, 22, 23, 24, 25, 26, 27, 28] (by decide +kernel) (by decide +kernel)
set_option maxRecDepth 20000 in
theorem gX3_checkOfBits_X3_checkOver : GoodIn wsX3_checkOfBits (wsV RX3 121 RX3 yX3_checkOver wsX3_checkOver) := goodIn_app (goodIn_of _ (by decide +kernel)) ggX3_checkOfBits_X3_checkOver
theorem dX3_checkOfBits_0 : decode cX3_checkOfBits 0 = .ok (.aload_n 0, 1) := by decide +kernel
theorem dX3_checkOfBits_1 : decode cX3_checkOfBits 1 = .ok (.getfield 12, 3) := by decide +kernel
theorem dX3_checkOfBits_4 : decode cX3_checkOfBits 4 = .ok (.getfield 117, 3) := by decide +kernel
theorem dX3_checkOfBits_7 : decode cX3_checkOfBits 7 = .ok (.istore_n 1, 1) := by decide +kernel
theorem dX3_checkOfBits_8 : decode cX3_checkOfBits 8 = .ok (.aload_n 0, 1) := by decide +kernel
theorem dX3_checkOfBits_9 : decode cX3_checkOfBits 9 = .ok (.ldc 120, 2) := by decide +kernel
theorem dX3_checkOfBits_11 : decode cX3_checkOfBits 11 = .ok (.bipush 16, 2) := by decide +kernel
theorem dX3_checkOfBits_13 : decode cX3_checkOfBits 13 = .ok (.bipush 32, 2) := by decide +kernel
theorem dX3_checkOfBits_15 : decode cX3_checkOfBits 15 = .ok (.invokevirtual 121, 3) := by decide +kernel
theorem dX3_checkOfBits_18 : decode cX3_checkOfBits 18 = .ok (.istore_n 2, 1) := by decide +kernel
theorem dX3_checkOfBits_19 : decode cX3_checkOfBits 19 = .ok (.aload_n 0, 1) := by decide +kernel
theorem dX3_checkOfBits_20 : decode cX3_checkOfBits 20 = .ok (.iload_n 2, 1) := by decide +kernel
theorem dX3_checkOfBits_21 : decode cX3_checkOfBits 21 = .ok (.bipush 48, 2) := by decide +kernel
theorem dX3_checkOfBits_23 : decode cX3_checkOfBits 23 = .ok (.iload_n 1, 1) := by decide +kernel
theorem dX3_checkOfBits_24 : decode cX3_checkOfBits 24 = .ok (.invokevirtual 121, 3) := by decide +kernel
theorem dX3_checkOfBits_27 : decode cX3_checkOfBits 27 = .ok (.ireturn, 1) := by decide +kernel
set_option maxRecDepth 20000 in
theorem ggX3_checkOver_X0_take : GoodIn wsX3_checkOver wsX0_take := goodIn_r _ [9, 10, 11, 12, 13, 14, 19, 20, 21, 22, 23] (by decide +kernel) (by decide +kernel)
set_option maxRecDepth 20000 in
theorem gX3_checkOver_X0_take : GoodIn wsX3_checkOver (wsV RX3 55 RX0 yX0_take wsX0_take) := goodIn_app (goodIn_of _ (by decide +kernel)) ggX3_checkOver_X0_take
theorem dX3_checkOver_0 : decode cX3_checkOver 0 = .ok (.iload_n 1, 1) := by decide +kernel
theorem dX3_checkOver_1 : decode cX3_checkOver 1 = .ok (.istore 4, 2) := by decide +kernel
theorem dX3_checkOver_3 : decode cX3_checkOver 3 = .ok (.aload_n 0, 1) := by decide +kernel
theorem dX3_checkOver_4 : decode cX3_checkOver 4 = .ok (.getfield 12, 3) := by decide +kernel
theorem dX3_checkOver_7 : decode cX3_checkOver 7 = .ok (.iload_n 2, 1) := by decide +kernel
theorem dX3_checkOver_8 : decode cX3_checkOver 8 = .ok (.putfield 117, 3) := by decide +kernel
theorem dX3_checkOver_11 : decode cX3_checkOver 11 = .ok (.iload_n 2, 1) := by decide +kernel
theorem dX3_checkOver_12 : decode cX3_checkOver 12 = .ok (.istore 5, 2) := by decide +kernel
theorem dX3_checkOver_14 : decode cX3_checkOver 14 = .ok (.iload 5, 2) := by decide +kernel
theorem dX3_checkOver_16 : decode cX3_checkOver 16 = .ok (.iload_n 3, 1) := by decide +kernel
theorem dX3_checkOver_17 : decode cX3_checkOver 17 = .ok (.if_icmp .ge 46, 3) := by decide +kernel
theorem dX3_checkOver_20 : decode cX3_checkOver 20 = .ok (.iload 4, 2) := by decide +kernel
theorem dX3_checkOver_22 : decode cX3_checkOver 22 = .ok (.iconst 1, 1) := by decide +kernel
theorem dX3_checkOver_23 : decode cX3_checkOver 23 = .ok (.ishl, 1) := by decide +kernel
theorem dX3_checkOver_24 : decode cX3_checkOver 24 = .ok (.ldc 120, 2) := by decide +kernel
theorem dX3_checkOver_26 : decode cX3_checkOver 26 = .ok (.iand, 1) := by decide +kernel
theorem dX3_checkOver_27 : decode cX3_checkOver 27 = .ok (.istore 6, 2) := by decide +kernel
theorem dX3_checkOver_29 : decode cX3_checkOver 29 = .ok (.iload 4, 2) := by decide +kernel
theorem dX3_checkOver_31 : decode cX3_checkOver 31 = .ok (.bipush 15, 2) := by decide +kernel
theorem dX3_checkOver_33 : decode cX3_checkOver 33 = .ok (.ishr, 1) := by decide +kernel
theorem dX3_checkOver_34 : decode cX3_checkOver 34 = .ok (.aload_n 0, 1) := by decide +kernel
theorem dX3_checkOver_35 : decode cX3_checkOver 35 = .ok (.getfield 12, 3) := by decide +kernel
theorem dX3_checkOver_38 : decode cX3_checkOver 38 = .ok (.iconst 1, 1) := by decide +kernel
theorem dX3_checkOver_39 : decode cX3_checkOver 39 = .ok (.invokevirtual 55, 3) := by decide +kernel
theorem dX3_checkOver_42 : decode cX3_checkOver 42 = .ok (.if_icmp .eq 11, 3) := by decide +kernel
theorem dX3_checkOver_45 : decode cX3_checkOver 45 = .ok (.iload 6, 2) := by decide +kernel
theorem dX3_checkOver_47 : decode cX3_checkOver 47 = .ok (.ldc 125, 2) := by decide +kernel
theorem dX3_checkOver_49 : decode cX3_checkOver 49 = .ok (.ixor, 1) := by decide +kernel
theorem dX3_checkOver_50 : decode cX3_checkOver 50 = .ok (.goto 5, 3) := by decide +kernel
theorem dX3_checkOver_53 : decode cX3_checkOver 53 = .ok (.iload 6, 2) := by decide +kernel
theorem dX3_checkOver_55 : decode cX3_checkOver 55 = .ok (.istore 4, 2) := by decide +kernel
theorem dX3_checkOver_57 : decode cX3_checkOver 57 = .ok (.iinc 5 1, 3) := by decide +kernel
theorem dX3_checkOver_60 : decode cX3_checkOver 60 = .ok (.goto (-46), 3) := by decide +kernel
theorem dX3_checkOver_63 : decode cX3_checkOver 63 = .ok (.iload 4, 2) := by decide +kernel
theorem dX3_checkOver_65 : decode cX3_checkOver 65 = .ok (.ireturn, 1) := by decide +kernel
set_option maxRecDepth 20000 in
theorem ggX3_takeFactors_X1_bandIndex : GoodIn wsX3_takeFactors wsX1_bandIndex := goodIn_r _ [9] (by decide +kernel) (by decide +kernel)
set_option maxRecDepth 20000 in
theorem gX3_takeFactors_X1_bandIndex : GoodIn wsX3_takeFactors (va_wsS RX3 98 yX1_bandIndex wsX1_bandIndex) := goodIn_app (goodIn_of _ (by decide +kernel)) ggX3_takeFactors_X1_bandIndex
set_option maxRecDepth 20000 in
theorem ggX3_takeFactors_X3_takeThirds : GoodIn wsX3_takeFactors wsX3_takeThirds := goodIn_r _ [14, 15, 16, 17, 13, 18, 19, 20, 21, 22, 23, 24, 25, 26, 27, 28, 29, 30, 48, 49, 50, 51, 52, 53, 54, 55, 56] (by decide +kernel) (by decide +kernel)
set_option maxRecDepth 20000 in
theorem gX3_takeFactors_X3_takeThirds : GoodIn wsX3_takeFactors (wsV RX3 129 RX3 yX3_takeThirds wsX3_takeThirds) := goodIn_app (goodIn_of _ (by decide +kernel)) ggX3_takeFactors_X3_takeThirds
theorem dX3_takeFactors_0 : decode cX3_takeFactors 0 = .ok (.iconst 0, 1) := by decide +kernel
theorem dX3_takeFactors_1 : decode cX3_takeFactors 1 = .ok (.istore_n 3, 1) := by decide +kernel
theorem dX3_takeFactors_2 : decode cX3_takeFactors 2 = .ok (.iload_n 3, 1) := by decide +kernel
theorem dX3_takeFactors_3 : decode cX3_takeFactors 3 = .ok (.aload_n 1, 1) := by decide +kernel
theorem dX3_takeFactors_4 : decode cX3_takeFactors 4 = .ok (.getfield 85, 3) := by decide +kernel
theorem dX3_takeFactors_7 : decode cX3_takeFactors 7 = .ok (.if_icmp .ge 64, 3) := by decide +kernel
theorem dX3_takeFactors_10 : decode cX3_takeFactors 10 = .ok (.iconst 0, 1) := by decide +kernel
theorem dX3_takeFactors_11 : decode cX3_takeFactors 11 = .ok (.istore 4, 2) := by decide +kernel
theorem dX3_takeFactors_13 : decode cX3_takeFactors 13 = .ok (.iload 4, 2) := by decide +kernel
theorem dX3_takeFactors_15 : decode cX3_takeFactors 15 = .ok (.aload_n 1, 1) := by decide +kernel
theorem dX3_takeFactors_16 : decode cX3_takeFactors 16 = .ok (.getfield 42, 3) := by decide +kernel
theorem dX3_takeFactors_19 : decode cX3_takeFactors 19 = .ok (.if_icmp .ge 46, 3) := by decide +kernel
theorem dX3_takeFactors_22 : decode cX3_takeFactors 22 = .ok (.iload 4, 2) := by decide +kernel
theorem dX3_takeFactors_24 : decode cX3_takeFactors 24 = .ok (.iload_n 3, 1) := by decide +kernel
theorem dX3_takeFactors_25 : decode cX3_takeFactors 25 = .ok (.invokestatic 98, 3) := by decide +kernel
theorem dX3_takeFactors_28 : decode cX3_takeFactors 28 = .ok (.istore 5, 2) := by decide +kernel
theorem dX3_takeFactors_30 : decode cX3_takeFactors 30 = .ok (.aload_n 2, 1) := by decide +kernel
theorem dX3_takeFactors_31 : decode cX3_takeFactors 31 = .ok (.getfield 95, 3) := by decide +kernel
theorem dX3_takeFactors_34 : decode cX3_takeFactors 34 = .ok (.iload 5, 2) := by decide +kernel
theorem dX3_takeFactors_36 : decode cX3_takeFactors 36 = .ok (.iaload, 1) := by decide +kernel
theorem dX3_takeFactors_37 : decode cX3_takeFactors 37 = .ok (.ifCond .eq 22, 3) := by decide +kernel
theorem dX3_takeFactors_40 : decode cX3_takeFactors 40 = .ok (.aload_n 0, 1) := by decide +kernel
theorem dX3_takeFactors_41 : decode cX3_takeFactors 41 = .ok (.aload_n 0, 1) := by decide +kernel
theorem dX3_takeFactors_42 : decode cX3_takeFactors 42 = .ok (.getfield 18, 3) := by decide +kernel
theorem dX3_takeFactors_45 : decode cX3_takeFactors 45 = .ok (.iload 5, 2) := by decide +kernel
theorem dX3_takeFactors_47 : decode cX3_takeFactors 47 = .ok (.iaload, 1) := by decide +kernel
theorem dX3_takeFactors_48 : decode cX3_takeFactors 48 = .ok (.aload_n 2, 1) := by decide +kernel
theorem dX3_takeFactors_49 : decode cX3_takeFactors 49 = .ok (.getfield 126, 3) := by decide +kernel
theorem dX3_takeFactors_52 : decode cX3_takeFactors 52 = .ok (.iload 5, 2) := by decide +kernel
theorem dX3_takeFactors_54 : decode cX3_takeFactors 54 = .ok (.iconst 3, 1) := by decide +kernel
theorem dX3_takeFactors_55 : decode cX3_takeFactors 55 = .ok (.imul, 1) := by decide +kernel
theorem dX3_takeFactors_56 : decode cX3_takeFactors 56 = .ok (.invokevirtual 129, 3) := by decide +kernel
theorem dX3_takeFactors_59 : decode cX3_takeFactors 59 = .ok (.iinc 4 1, 3) := by decide +kernel
theorem dX3_takeFactors_62 : decode cX3_takeFactors 62 = .ok (.goto (-49), 3) := by decide +kernel
theorem dX3_takeFactors_65 : decode cX3_takeFactors 65 = .ok (.iinc 3 1, 3) := by decide +kernel
theorem dX3_takeFactors_68 : decode cX3_takeFactors 68 = .ok (.goto (-66), 3) := by decide +kernel
theorem dX3_takeFactors_71 : decode cX3_takeFactors 71 = .ok (.return_, 1) := by decide +kernel
set_option maxRecDepth 20000 in
theorem ggX3_takeThirds_X3_takeFactor : GoodIn wsX3_takeThirds wsX3_takeFactor := goodIn_r _ [5, 6, 7, 8, 9, 10, 11, 12, 13, 14, 15, 16, 17, 18, 19, 20, 21, 22, 23, 24, 25, 26] (by decide +kernel) (by decide +kernel)
set_option maxRecDepth 20000 in
theorem gX3_takeThirds_X3_takeFactor : GoodIn wsX3_takeThirds (wsV RX3 133 RX3 yX3_takeFactor wsX3_takeFactor) := goodIn_app (goodIn_of _ (by decide +kernel)) ggX3_takeThirds_X3_takeFactor
theorem dX3_takeThirds_0 : decode cX3_takeThirds 0 = .ok (.iload_n 3, 1) := by decide +kernel
theorem dX3_takeThirds_1 : decode cX3_takeThirds 1 = .ok (.ifCond .lt 11, 3) := by decide +kernel
theorem dX3_takeThirds_4 : decode cX3_takeThirds 4 = .ok (.iload_n 3, 1) := by decide +kernel
theorem dX3_takeThirds_5 : decode cX3_takeThirds 5 = .ok (.iconst 2, 1) := by decide +kernel
theorem dX3_takeThirds_6 : decode cX3_takeThirds 6 = .ok (.iadd, 1) := by decide +kernel
theorem dX3_takeThirds_7 : decode cX3_takeThirds 7 = .ok (.aload_n 2, 1) := by decide +kernel
theorem dX3_takeThirds_8 : decode cX3_takeThirds 8 = .ok (.arraylength, 1) := by decide +kernel
theorem dX3_takeThirds_9 : decode cX3_takeThirds 9 = .ok (.if_icmp .lt 4, 3) := by decide +kernel
theorem dX3_takeThirds_12 : decode cX3_takeThirds 12 = .ok (.return_, 1) := by decide +kernel
theorem dX3_takeThirds_13 : decode cX3_takeThirds 13 = .ok (.aload_n 2, 1) := by decide +kernel
theorem dX3_takeThirds_14 : decode cX3_takeThirds 14 = .ok (.iload_n 3, 1) := by decide +kernel
theorem dX3_takeThirds_15 : decode cX3_takeThirds 15 = .ok (.aload_n 0, 1) := by decide +kernel
theorem dX3_takeThirds_16 : decode cX3_takeThirds 16 = .ok (.invokevirtual 133, 3) := by decide +kernel
theorem dX3_takeThirds_19 : decode cX3_takeThirds 19 = .ok (.iastore, 1) := by decide +kernel
theorem dX3_takeThirds_20 : decode cX3_takeThirds 20 = .ok (.iload_n 1, 1) := by decide +kernel
theorem dX3_takeThirds_21 : decode cX3_takeThirds 21 = .ok (.ifCond .eq 8, 3) := by decide +kernel
theorem dX3_takeThirds_24 : decode cX3_takeThirds 24 = .ok (.iload_n 1, 1) := by decide +kernel
theorem dX3_takeThirds_25 : decode cX3_takeThirds 25 = .ok (.iconst 3, 1) := by decide +kernel
theorem dX3_takeThirds_26 : decode cX3_takeThirds 26 = .ok (.if_icmp .ne 7, 3) := by decide +kernel
theorem dX3_takeThirds_29 : decode cX3_takeThirds 29 = .ok (.iconst 1, 1) := by decide +kernel
theorem dX3_takeThirds_30 : decode cX3_takeThirds 30 = .ok (.goto 4, 3) := by decide +kernel
theorem dX3_takeThirds_33 : decode cX3_takeThirds 33 = .ok (.iconst 0, 1) := by decide +kernel
theorem dX3_takeThirds_34 : decode cX3_takeThirds 34 = .ok (.istore 4, 2) := by decide +kernel
theorem dX3_takeThirds_36 : decode cX3_takeThirds 36 = .ok (.aload_n 2, 1) := by decide +kernel
theorem dX3_takeThirds_37 : decode cX3_takeThirds 37 = .ok (.iload_n 3, 1) := by decide +kernel
theorem dX3_takeThirds_38 : decode cX3_takeThirds 38 = .ok (.iconst 1, 1) := by decide +kernel
theorem dX3_takeThirds_39 : decode cX3_takeThirds 39 = .ok (.iadd, 1) := by decide +kernel
theorem dX3_takeThirds_40 : decode cX3_takeThirds 40 = .ok (.iload 4, 2) := by decide +kernel
theorem dX3_takeThirds_42 : decode cX3_takeThirds 42 = .ok (.ifCond .eq 10, 3) := by decide +kernel
theorem dX3_takeThirds_45 : decode cX3_takeThirds 45 = .ok (.aload_n 0, 1) := by decide +kernel
theorem dX3_takeThirds_46 : decode cX3_takeThirds 46 = .ok (.invokevirtual 133, 3) := by decide +kernel
theorem dX3_takeThirds_49 : decode cX3_takeThirds 49 = .ok (.goto 6, 3) := by decide +kernel
theorem dX3_takeThirds_52 : decode cX3_takeThirds 52 = .ok (.aload_n 2, 1) := by decide +kernel
theorem dX3_takeThirds_53 : decode cX3_takeThirds 53 = .ok (.iload_n 3, 1) := by decide +kernel
theorem dX3_takeThirds_54 : decode cX3_takeThirds 54 = .ok (.iaload, 1) := by decide +kernel
theorem dX3_takeThirds_55 : decode cX3_takeThirds 55 = .ok (.iastore, 1) := by decide +kernel
theorem dX3_takeThirds_56 : decode cX3_takeThirds 56 = .ok (.iload_n 1, 1) := by decide +kernel
theorem dX3_takeThirds_57 : decode cX3_takeThirds 57 = .ok (.ifCond .eq 8, 3) := by decide +kernel
theorem dX3_takeThirds_60 : decode cX3_takeThirds 60 = .ok (.iload_n 1, 1) := by decide +kernel
theorem dX3_takeThirds_61 : decode cX3_takeThirds 61 = .ok (.iconst 1, 1) := by decide +kernel
theorem dX3_takeThirds_62 : decode cX3_takeThirds 62 = .ok (.if_icmp .ne 7, 3) := by decide +kernel
theorem dX3_takeThirds_65 : decode cX3_takeThirds 65 = .ok (.iconst 1, 1) := by decide +kernel
theorem dX3_takeThirds_66 : decode cX3_takeThirds 66 = .ok (.goto 4, 3) := by decide +kernel
theorem dX3_takeThirds_69 : decode cX3_takeThirds 69 = .ok (.iconst 0, 1) := by decide +kernel
theorem dX3_takeThirds_70 : decode cX3_takeThirds 70 = .ok (.istore 5, 2) := by decide +kernel
theorem dX3_takeThirds_72 : decode cX3_takeThirds 72 = .ok (.aload_n 2, 1) := by decide +kernel
theorem dX3_takeThirds_73 : decode cX3_takeThirds 73 = .ok (.iload_n 3, 1) := by decide +kernel
theorem dX3_takeThirds_74 : decode cX3_takeThirds 74 = .ok (.iconst 2, 1) := by decide +kernel
theorem dX3_takeThirds_75 : decode cX3_takeThirds 75 = .ok (.iadd, 1) := by decide +kernel
theorem dX3_takeThirds_76 : decode cX3_takeThirds 76 = .ok (.iload 5, 2) := by decide +kernel
theorem dX3_takeThirds_78 : decode cX3_takeThirds 78 = .ok (.ifCond .eq 10, 3) := by decide +kernel
theorem dX3_takeThirds_81 : decode cX3_takeThirds 81 = .ok (.aload_n 0, 1) := by decide +kernel
theorem dX3_takeThirds_82 : decode cX3_takeThirds 82 = .ok (.invokevirtual 133, 3) := by decide +kernel
theorem dX3_takeThirds_85 : decode cX3_takeThirds 85 = .ok (.goto 8, 3) := by decide +kernel
theorem dX3_takeThirds_88 : decode cX3_takeThirds 88 = .ok (.aload_n 2, 1) := by decide +kernel
theorem dX3_takeThirds_89 : decode cX3_takeThirds 89 = .ok (.iload_n 3, 1) := by decide +kernel
theorem dX3_takeThirds_90 : decode cX3_takeThirds 90 = .ok (.iconst 1, 1) := by decide +kernel
theorem dX3_takeThirds_91 : decode cX3_takeThirds 91 = .ok (.iadd, 1) := by decide +kernel
theorem dX3_takeThirds_92 : decode cX3_takeThirds 92 = .ok (.iaload, 1) := by decide +kernel
theorem dX3_takeThirds_93 : decode cX3_takeThirds 93 = .ok (.iastore, 1) := by decide +kernel
theorem dX3_takeThirds_94 : decode cX3_takeThirds 94 = .ok (.return_, 1) := by decide +kernel
set_option maxRecDepth 20000 in
theorem ggX3_takeFactor_X0_take : GoodIn wsX3_takeFactor wsX0_take := goodIn_r _ [7, 8, 9, 10, 11, 12, 17, 18, 19, 20, 21] (by decide +kernel) (by decide +kernel)
set_option maxRecDepth 20000 in
theorem gX3_takeFactor_X0_take : GoodIn wsX3_takeFactor (wsV RX3 55 RX0 yX0_take wsX0_take) := goodIn_app (goodIn_of _ (by decide +kernel)) ggX3_takeFactor_X0_take
theorem dX3_takeFactor_0 : decode cX3_takeFactor 0 = .ok (.aload_n 0, 1) := by decide +kernel
theorem dX3_takeFactor_1 : decode cX3_takeFactor 1 = .ok (.getfield 12, 3) := by decide +kernel
theorem dX3_takeFactor_4 : decode cX3_takeFactor 4 = .ok (.bipush 6, 2) := by decide +kernel
theorem dX3_takeFactor_6 : decode cX3_takeFactor 6 = .ok (.invokevirtual 55, 3) := by decide +kernel
theorem dX3_takeFactor_9 : decode cX3_takeFactor 9 = .ok (.istore_n 1, 1) := by decide +kernel
theorem dX3_takeFactor_10 : decode cX3_takeFactor 10 = .ok (.iload_n 1, 1) := by decide +kernel
theorem dX3_takeFactor_11 : decode cX3_takeFactor 11 = .ok (.bipush 63, 2) := by decide +kernel
theorem dX3_takeFactor_13 : decode cX3_takeFactor 13 = .ok (.if_icmp .ne 8, 3) := by decide +kernel
theorem dX3_takeFactor_16 : decode cX3_takeFactor 16 = .ok (.aload_n 0, 1) := by decide +kernel
theorem dX3_takeFactor_17 : decode cX3_takeFactor 17 = .ok (.iconst 1, 1) := by decide +kernel
theorem dX3_takeFactor_18 : decode cX3_takeFactor 18 = .ok (.putfield 38, 3) := by decide +kernel
theorem dX3_takeFactor_21 : decode cX3_takeFactor 21 = .ok (.iload_n 1, 1) := by decide +kernel
theorem dX3_takeFactor_22 : decode cX3_takeFactor 22 = .ok (.ireturn, 1) := by decide +kernel
set_option maxRecDepth 20000 in
theorem ggX3_takeSamples_X3_isLost : GoodIn wsX3_takeSamples wsX3_isLost := goodIn_r _ [6, 7, 8, 9, 86, 87, 88, 89, 90, 91, 92, 93, 94] (by decide +kernel) (by decide +kernel)
set_option maxRecDepth 20000 in
theorem gX3_takeSamples_X3_isLost : GoodIn wsX3_takeSamples (wsV RX3 81 RX3 yX3_isLost wsX3_isLost) := goodIn_app (goodIn_of _ (by decide +kernel)) ggX3_takeSamples_X3_isLost
set_option maxRecDepth 20000 in
theorem ggX3_takeSamples_X3_takeBand : GoodIn wsX3_takeSamples wsX3_takeBand := goodIn_r _ [13, 14, 15, 16, 17, 18, 19, 20, 21, 22, 23, 24, 25, 26, 27, 28, 29, 30, 31, 32, 33, 34, 5, 35, 36, 8, 7, 37, 38, 39, 40, 41, 42, 43, 44, 45, 46, 47, 48, 49, 50, 51, 52, 53, 54, 55, 56, 57, 58, 59, 60, 61, 62, 63, 64, 65, 66, 67, 68, 69, 70, 71, 72, 73, 95, 96, 97, 98, 99, 74, 75, 76, 77, 78, 79, 80, 81, 82, 83, 84, 85, 86, 87, 88, 89, 90, 91, 92, 93, 94] (by decide +kernel) (by decide +kernel)
set_option maxRecDepth 20000 in
theorem gX3_takeSamples_X3_takeBand : GoodIn wsX3_takeSamples (wsV RX3 136 RX3 yX3_takeBand wsX3_takeBand) := goodIn_app (goodIn_of _ (by decide +kernel)) ggX3_takeSamples_X3_takeBand
theorem dX3_takeSamples_0 : decode cX3_takeSamples 0 = .ok (.iconst 0, 1) := by decide +kernel
theorem dX3_takeSamples_1 : decode cX3_takeSamples 1 = .ok (.istore_n 3, 1) := by decide +kernel
theorem dX3_takeSamples_2 : decode cX3_takeSamples 2 = .ok (.iload_n 3, 1) := by decide +kernel
theorem dX3_takeSamples_3 : decode cX3_takeSamples 3 = .ok (.bipush 12, 2) := by decide +kernel
theorem dX3_takeSamples_5 : decode cX3_takeSamples 5 = .ok (.if_icmp .ge 43, 3) := by decide +kernel
theorem dX3_takeSamples_8 : decode cX3_takeSamples 8 = .ok (.aload_n 0, 1) := by decide +kernel
theorem dX3_takeSamples_9 : decode cX3_takeSamples 9 = .ok (.invokevirtual 81, 3) := by decide +kernel
theorem dX3_takeSamples_12 : decode cX3_takeSamples 12 = .ok (.ifCond .ne 36, 3) := by decide +kernel
theorem dX3_takeSamples_15 : decode cX3_takeSamples 15 = .ok (.iconst 0, 1) := by decide +kernel
theorem dX3_takeSamples_16 : decode cX3_takeSamples 16 = .ok (.istore 4, 2) := by decide +kernel
theorem dX3_takeSamples_18 : decode cX3_takeSamples 18 = .ok (.iload 4, 2) := by decide +kernel
theorem dX3_takeSamples_20 : decode cX3_takeSamples 20 = .ok (.aload_n 1, 1) := by decide +kernel
theorem dX3_takeSamples_21 : decode cX3_takeSamples 21 = .ok (.getfield 85, 3) := by decide +kernel
theorem dX3_takeSamples_24 : decode cX3_takeSamples 24 = .ok (.if_icmp .ge 18, 3) := by decide +kernel
theorem dX3_takeSamples_27 : decode cX3_takeSamples 27 = .ok (.aload_n 0, 1) := by decide +kernel
theorem dX3_takeSamples_28 : decode cX3_takeSamples 28 = .ok (.aload_n 1, 1) := by decide +kernel
theorem dX3_takeSamples_29 : decode cX3_takeSamples 29 = .ok (.aload_n 2, 1) := by decide +kernel
theorem dX3_takeSamples_30 : decode cX3_takeSamples 30 = .ok (.iload_n 3, 1) := by decide +kernel
theorem dX3_takeSamples_31 : decode cX3_takeSamples 31 = .ok (.iload 4, 2) := by decide +kernel
theorem dX3_takeSamples_33 : decode cX3_takeSamples 33 = .ok (.invokevirtual 136, 3) := by decide +kernel
theorem dX3_takeSamples_36 : decode cX3_takeSamples 36 = .ok (.iinc 4 1, 3) := by decide +kernel
theorem dX3_takeSamples_39 : decode cX3_takeSamples 39 = .ok (.goto (-21), 3) := by decide +kernel
theorem dX3_takeSamples_42 : decode cX3_takeSamples 42 = .ok (.iinc 3 1, 3) := by decide +kernel
theorem dX3_takeSamples_45 : decode cX3_takeSamples 45 = .ok (.goto (-43), 3) := by decide +kernel
theorem dX3_takeSamples_48 : decode cX3_takeSamples 48 = .ok (.return_, 1) := by decide +kernel
set_option maxRecDepth 20000 in
theorem ggX3_takeBand_X2_channelsTold : GoodIn wsX3_takeBand wsX2_channelsTold := goodIn_r _ [7, 8, 9, 69, 70, 71, 72, 73, 74, 75, 76, 77, 78, 79, 80] (by decide +kernel) (by decide +kernel)
set_option maxRecDepth 20000 in
theorem gX3_takeBand_X2_channelsTold : GoodIn wsX3_takeBand (wsV RX3 88 RX2 yX2_channelsTold wsX2_channelsTold) := goodIn_app (goodIn_of _ (by decide +kernel)) ggX3_takeBand_X2_channelsTold
set_option maxRecDepth 20000 in
theorem ggX3_takeBand_X1_bandIndex : GoodIn wsX3_takeBand wsX1_bandIndex := goodIn_r _ [13] (by decide +kernel) (by decide +kernel)
set_option maxRecDepth 20000 in
theorem gX3_takeBand_X1_bandIndex : GoodIn wsX3_takeBand (va_wsS RX3 98 yX1_bandIndex wsX1_bandIndex) := goodIn_app (goodIn_of _ (by decide +kernel)) ggX3_takeBand_X1_bandIndex
set_option maxRecDepth 20000 in
theorem ggX3_takeBand_X2_samplesAtOnce : GoodIn wsX3_takeBand wsX2_samplesAtOnce := goodIn_r _ [17, 18, 69, 70, 71, 72, 73, 74, 75, 76, 77, 78, 79, 80] (by decide +kernel) (by decide +kernel)
set_option maxRecDepth 20000 in
theorem gX3_takeBand_X2_samplesAtOnce : GoodIn wsX3_takeBand (wsV RX3 45 RX2 yX2_samplesAtOnce wsX2_samplesAtOnce) := goodIn_app (goodIn_of _ (by decide +kernel)) ggX3_takeBand_X2_samplesAtOnce
set_option maxRecDepth 20000 in
theorem ggX3_takeBand_X3_takeCodes : GoodIn wsX3_takeBand wsX3_takeCodes := goodIn_r _ [23, 24, 25, 26, 27, 28, 22, 29, 30, 31, 32, 33, 34, 35, 36, 37, 38, 39, 40, 41, 42, 43, 44, 45, 46, 47, 48, 49, 50, 81, 82, 83, 84, 85, 86, 87, 88, 89] (by decide +kernel) (by decide +kernel)
set_option maxRecDepth 20000 in
theorem gX3_takeBand_X3_takeCodes : GoodIn wsX3_takeBand (wsV RX3 140 RX3 yX3_takeCodes wsX3_takeCodes) := goodIn_app (goodIn_of _ (by decide +kernel)) ggX3_takeBand_X3_takeCodes
set_option maxRecDepth 20000 in
theorem ggX3_takeBand_X3_placeSamples : GoodIn wsX3_takeBand wsX3_placeSamples := goodIn_r _ [54, 55, 24, 56, 1, 10, 11, 12, 13, 57, 58, 59, 60, 61, 62, 63, 64, 65, 66, 67, 68, 81, 82, 83, 84] (by decide +kernel) (by decide +kernel)
set_option maxRecDepth 20000 in
theorem gX3_takeBand_X3_placeSamples : GoodIn wsX3_takeBand (wsV RX3 143 RX3 yX3_placeSamples wsX3_placeSamples) := goodIn_app (goodIn_of _ (by decide +kernel)) ggX3_takeBand_X3_placeSamples
theorem dX3_takeBand_0 : decode cX3_takeBand 0 = .ok (.aload_n 1, 1) := by decide +kernel
theorem dX3_takeBand_1 : decode cX3_takeBand 1 = .ok (.iload 4, 2) := by decide +kernel
theorem dX3_takeBand_3 : decode cX3_takeBand 3 = .ok (.invokevirtual 88, 3) := by decide +kernel
theorem dX3_takeBand_6 : decode cX3_takeBand 6 = .ok (.istore 5, 2) := by decide +kernel
theorem dX3_takeBand_8 : decode cX3_takeBand 8 = .ok (.iconst 0, 1) := by decide +kernel
theorem dX3_takeBand_9 : decode cX3_takeBand 9 = .ok (.istore 6, 2) := by decide +kernel
theorem dX3_takeBand_11 : decode cX3_takeBand 11 = .ok (.iload 6, 2) := by decide +kernel
theorem dX3_takeBand_13 : decode cX3_takeBand 13 = .ok (.iload 5, 2) := by decide +kernel
theorem dX3_takeBand_15 : decode cX3_takeBand 15 = .ok (.if_icmp .ge 94, 3) := by decide +kernel
theorem dX3_takeBand_18 : decode cX3_takeBand 18 = .ok (.aload_n 2, 1) := by decide +kernel
theorem dX3_takeBand_19 : decode cX3_takeBand 19 = .ok (.getfield 95, 3) := by decide +kernel
theorem dX3_takeBand_22 : decode cX3_takeBand 22 = .ok (.iload 6, 2) := by decide +kernel
theorem dX3_takeBand_24 : decode cX3_takeBand 24 = .ok (.iload 4, 2) := by decide +kernel
theorem dX3_takeBand_26 : decode cX3_takeBand 26 = .ok (.invokestatic 98, 3) := by decide +kernel
theorem dX3_takeBand_29 : decode cX3_takeBand 29 = .ok (.iaload, 1) := by decide +kernel
theorem dX3_takeBand_30 : decode cX3_takeBand 30 = .ok (.istore 7, 2) := by decide +kernel
theorem dX3_takeBand_32 : decode cX3_takeBand 32 = .ok (.iload 7, 2) := by decide +kernel
theorem dX3_takeBand_34 : decode cX3_takeBand 34 = .ok (.ifCond .ne 6, 3) := by decide +kernel
theorem dX3_takeBand_37 : decode cX3_takeBand 37 = .ok (.goto 66, 3) := by decide +kernel
theorem dX3_takeBand_40 : decode cX3_takeBand 40 = .ok (.aload_n 0, 1) := by decide +kernel
theorem dX3_takeBand_41 : decode cX3_takeBand 41 = .ok (.aload_n 1, 1) := by decide +kernel
theorem dX3_takeBand_42 : decode cX3_takeBand 42 = .ok (.invokevirtual 45, 3) := by decide +kernel
theorem dX3_takeBand_45 : decode cX3_takeBand 45 = .ok (.iload 7, 2) := by decide +kernel
theorem dX3_takeBand_47 : decode cX3_takeBand 47 = .ok (.invokevirtual 140, 3) := by decide +kernel
theorem dX3_takeBand_50 : decode cX3_takeBand 50 = .ok (.iload 5, 2) := by decide +kernel
theorem dX3_takeBand_52 : decode cX3_takeBand 52 = .ok (.aload_n 1, 1) := by decide +kernel
theorem dX3_takeBand_53 : decode cX3_takeBand 53 = .ok (.getfield 42, 3) := by decide +kernel
theorem dX3_takeBand_56 : decode cX3_takeBand 56 = .ok (.if_icmp .ge 12, 3) := by decide +kernel
theorem dX3_takeBand_59 : decode cX3_takeBand 59 = .ok (.aload_n 1, 1) := by decide +kernel
theorem dX3_takeBand_60 : decode cX3_takeBand 60 = .ok (.getfield 42, 3) := by decide +kernel
theorem dX3_takeBand_63 : decode cX3_takeBand 63 = .ok (.iconst 1, 1) := by decide +kernel
theorem dX3_takeBand_64 : decode cX3_takeBand 64 = .ok (.isub, 1) := by decide +kernel
theorem dX3_takeBand_65 : decode cX3_takeBand 65 = .ok (.goto 5, 3) := by decide +kernel
theorem dX3_takeBand_68 : decode cX3_takeBand 68 = .ok (.iload 6, 2) := by decide +kernel
theorem dX3_takeBand_70 : decode cX3_takeBand 70 = .ok (.istore 8, 2) := by decide +kernel
theorem dX3_takeBand_72 : decode cX3_takeBand 72 = .ok (.iload 6, 2) := by decide +kernel
theorem dX3_takeBand_74 : decode cX3_takeBand 74 = .ok (.istore 9, 2) := by decide +kernel
theorem dX3_takeBand_76 : decode cX3_takeBand 76 = .ok (.iload 9, 2) := by decide +kernel
theorem dX3_takeBand_78 : decode cX3_takeBand 78 = .ok (.iload 8, 2) := by decide +kernel
theorem dX3_takeBand_80 : decode cX3_takeBand 80 = .ok (.if_icmp .gt 23, 3) := by decide +kernel
theorem dX3_takeBand_83 : decode cX3_takeBand 83 = .ok (.aload_n 0, 1) := by decide +kernel
theorem dX3_takeBand_84 : decode cX3_takeBand 84 = .ok (.aload_n 1, 1) := by decide +kernel
theorem dX3_takeBand_85 : decode cX3_takeBand 85 = .ok (.invokevirtual 45, 3) := by decide +kernel
theorem dX3_takeBand_88 : decode cX3_takeBand 88 = .ok (.aload_n 2, 1) := by decide +kernel
theorem dX3_takeBand_89 : decode cX3_takeBand 89 = .ok (.iload_n 3, 1) := by decide +kernel
theorem dX3_takeBand_90 : decode cX3_takeBand 90 = .ok (.iload 9, 2) := by decide +kernel
theorem dX3_takeBand_92 : decode cX3_takeBand 92 = .ok (.iload 4, 2) := by decide +kernel
theorem dX3_takeBand_94 : decode cX3_takeBand 94 = .ok (.invokevirtual 143, 3) := by decide +kernel
theorem dX3_takeBand_97 : decode cX3_takeBand 97 = .ok (.iinc 9 1, 3) := by decide +kernel
theorem dX3_takeBand_100 : decode cX3_takeBand 100 = .ok (.goto (-24), 3) := by decide +kernel
theorem dX3_takeBand_103 : decode cX3_takeBand 103 = .ok (.iinc 6 1, 3) := by decide +kernel
theorem dX3_takeBand_106 : decode cX3_takeBand 106 = .ok (.goto (-95), 3) := by decide +kernel
theorem dX3_takeBand_109 : decode cX3_takeBand 109 = .ok (.return_, 1) := by decide +kernel
set_option maxRecDepth 20000 in
theorem ggX3_placeSamples_X1_bandIndex : GoodIn wsX3_placeSamples wsX1_bandIndex := goodIn_r _ [8] (by decide +kernel) (by decide +kernel)
set_option maxRecDepth 20000 in
theorem gX3_placeSamples_X1_bandIndex : GoodIn wsX3_placeSamples (va_wsS RX3 98 yX1_bandIndex wsX1_bandIndex) := goodIn_app (goodIn_of _ (by decide +kernel)) ggX3_placeSamples_X1_bandIndex
set_option maxRecDepth 20000 in
theorem ggX3_placeSamples_X1_rowIndex : GoodIn wsX3_placeSamples wsX1_rowIndex := goodIn_r _ [11] (by decide +kernel) (by decide +kernel)
set_option maxRecDepth 20000 in
theorem gX3_placeSamples_X1_rowIndex : GoodIn wsX3_placeSamples (va_wsS RX3 147 yX1_rowIndex wsX1_rowIndex) := goodIn_app (goodIn_of _ (by decide +kernel)) ggX3_placeSamples_X1_rowIndex
set_option maxRecDepth 20000 in
theorem ggX3_placeSamples_X1_sampleOf : GoodIn wsX3_placeSamples wsX1_sampleOf := goodIn_r _ [14, 15] (by decide +kernel) (by decide +kernel)
set_option maxRecDepth 20000 in
theorem gX3_placeSamples_X1_sampleOf : GoodIn wsX3_placeSamples (va_wsS RX3 153 yX1_sampleOf wsX1_sampleOf) := goodIn_app (goodIn_of _ (by decide +kernel)) ggX3_placeSamples_X1_sampleOf
theorem dX3_placeSamples_0 : decode cX3_placeSamples 0 = .ok (.iload 4, 2) := by decide +kernel
theorem dX3_placeSamples_2 : decode cX3_placeSamples 2 = .ok (.iload 5, 2) := by decide +kernel
theorem dX3_placeSamples_4 : decode cX3_placeSamples 4 = .ok (.invokestatic 98, 3) := by decide +kernel
theorem dX3_placeSamples_7 : decode cX3_placeSamples 7 = .ok (.istore 6, 2) := by decide +kernel
theorem dX3_placeSamples_9 : decode cX3_placeSamples 9 = .ok (.aload_n 2, 1) := by decide +kernel
theorem dX3_placeSamples_10 : decode cX3_placeSamples 10 = .ok (.getfield 126, 3) := by decide +kernel
theorem dX3_placeSamples_13 : decode cX3_placeSamples 13 = .ok (.iload 6, 2) := by decide +kernel
theorem dX3_placeSamples_15 : decode cX3_placeSamples 15 = .ok (.iconst 3, 1) := by decide +kernel
theorem dX3_placeSamples_16 : decode cX3_placeSamples 16 = .ok (.imul, 1) := by decide +kernel
theorem dX3_placeSamples_17 : decode cX3_placeSamples 17 = .ok (.iload_n 3, 1) := by decide +kernel
theorem dX3_placeSamples_18 : decode cX3_placeSamples 18 = .ok (.iconst 4, 1) := by decide +kernel
theorem dX3_placeSamples_19 : decode cX3_placeSamples 19 = .ok (.idiv, 1) := by decide +kernel
theorem dX3_placeSamples_20 : decode cX3_placeSamples 20 = .ok (.iadd, 1) := by decide +kernel
theorem dX3_placeSamples_21 : decode cX3_placeSamples 21 = .ok (.iaload, 1) := by decide +kernel
theorem dX3_placeSamples_22 : decode cX3_placeSamples 22 = .ok (.istore 7, 2) := by decide +kernel
theorem dX3_placeSamples_24 : decode cX3_placeSamples 24 = .ok (.iconst 0, 1) := by decide +kernel
theorem dX3_placeSamples_25 : decode cX3_placeSamples 25 = .ok (.istore 8, 2) := by decide +kernel
theorem dX3_placeSamples_27 : decode cX3_placeSamples 27 = .ok (.iload 8, 2) := by decide +kernel
theorem dX3_placeSamples_29 : decode cX3_placeSamples 29 = .ok (.iload_n 1, 1) := by decide +kernel
theorem dX3_placeSamples_30 : decode cX3_placeSamples 30 = .ok (.if_icmp .ge 61, 3) := by decide +kernel
theorem dX3_placeSamples_33 : decode cX3_placeSamples 33 = .ok (.iload 8, 2) := by decide +kernel
theorem dX3_placeSamples_35 : decode cX3_placeSamples 35 = .ok (.aload_n 0, 1) := by decide +kernel
theorem dX3_placeSamples_36 : decode cX3_placeSamples 36 = .ok (.getfield 22, 3) := by decide +kernel
theorem dX3_placeSamples_39 : decode cX3_placeSamples 39 = .ok (.arraylength, 1) := by decide +kernel
theorem dX3_placeSamples_40 : decode cX3_placeSamples 40 = .ok (.if_icmp .ge 51, 3) := by decide +kernel
theorem dX3_placeSamples_43 : decode cX3_placeSamples 43 = .ok (.iload 4, 2) := by decide +kernel
theorem dX3_placeSamples_45 : decode cX3_placeSamples 45 = .ok (.iload_n 3, 1) := by decide +kernel
theorem dX3_placeSamples_46 : decode cX3_placeSamples 46 = .ok (.iload_n 1, 1) := by decide +kernel
theorem dX3_placeSamples_47 : decode cX3_placeSamples 47 = .ok (.imul, 1) := by decide +kernel
theorem dX3_placeSamples_48 : decode cX3_placeSamples 48 = .ok (.iload 8, 2) := by decide +kernel
theorem dX3_placeSamples_50 : decode cX3_placeSamples 50 = .ok (.iadd, 1) := by decide +kernel
theorem dX3_placeSamples_51 : decode cX3_placeSamples 51 = .ok (.invokestatic 147, 3) := by decide +kernel
theorem dX3_placeSamples_54 : decode cX3_placeSamples 54 = .ok (.istore 9, 2) := by decide +kernel
theorem dX3_placeSamples_56 : decode cX3_placeSamples 56 = .ok (.aload_n 2, 1) := by decide +kernel
theorem dX3_placeSamples_57 : decode cX3_placeSamples 57 = .ok (.getfield 150, 3) := by decide +kernel
theorem dX3_placeSamples_60 : decode cX3_placeSamples 60 = .ok (.iload 9, 2) := by decide +kernel
theorem dX3_placeSamples_62 : decode cX3_placeSamples 62 = .ok (.iload 5, 2) := by decide +kernel
theorem dX3_placeSamples_64 : decode cX3_placeSamples 64 = .ok (.iadd, 1) := by decide +kernel
theorem dX3_placeSamples_65 : decode cX3_placeSamples 65 = .ok (.aload_n 0, 1) := by decide +kernel
theorem dX3_placeSamples_66 : decode cX3_placeSamples 66 = .ok (.getfield 22, 3) := by decide +kernel
theorem dX3_placeSamples_69 : decode cX3_placeSamples 69 = .ok (.iload 8, 2) := by decide +kernel
theorem dX3_placeSamples_71 : decode cX3_placeSamples 71 = .ok (.iaload, 1) := by decide +kernel
theorem dX3_placeSamples_72 : decode cX3_placeSamples 72 = .ok (.aload_n 2, 1) := by decide +kernel
theorem dX3_placeSamples_73 : decode cX3_placeSamples 73 = .ok (.getfield 95, 3) := by decide +kernel
theorem dX3_placeSamples_76 : decode cX3_placeSamples 76 = .ok (.iload 6, 2) := by decide +kernel
theorem dX3_placeSamples_78 : decode cX3_placeSamples 78 = .ok (.iaload, 1) := by decide +kernel
theorem dX3_placeSamples_79 : decode cX3_placeSamples 79 = .ok (.iload 7, 2) := by decide +kernel
theorem dX3_placeSamples_81 : decode cX3_placeSamples 81 = .ok (.invokestatic 153, 3) := by decide +kernel
theorem dX3_placeSamples_84 : decode cX3_placeSamples 84 = .ok (.iastore, 1) := by decide +kernel
theorem dX3_placeSamples_85 : decode cX3_placeSamples 85 = .ok (.iinc 8 1, 3) := by decide +kernel
theorem dX3_placeSamples_88 : decode cX3_placeSamples 88 = .ok (.goto (-61), 3) := by decide +kernel
theorem dX3_placeSamples_91 : decode cX3_placeSamples 91 = .ok (.return_, 1) := by decide +kernel
set_option maxRecDepth 20000 in
theorem ggX3_takeCodes_X3_groupBitsOf : GoodIn wsX3_takeCodes wsX3_groupBitsOf := goodIn_r _ [7] (by decide +kernel) (by decide +kernel)
set_option maxRecDepth 20000 in
theorem gX3_takeCodes_X3_groupBitsOf : GoodIn wsX3_takeCodes (va_wsS RX3 156 yX3_groupBitsOf wsX3_groupBitsOf) := goodIn_app (goodIn_of _ (by decide +kernel)) ggX3_takeCodes_X3_groupBitsOf
set_option maxRecDepth 20000 in
theorem ggX3_takeCodes_X0_take : GoodIn wsX3_takeCodes wsX0_take := goodIn_r _ [12, 13, 14, 15, 16, 17, 33, 34, 35, 36, 37] (by decide +kernel) (by decide +kernel)
set_option maxRecDepth 20000 in
theorem gX3_takeCodes_X0_take : GoodIn wsX3_takeCodes (wsV RX3 55 RX0 yX0_take wsX0_take) := goodIn_app (goodIn_of _ (by decide +kernel)) ggX3_takeCodes_X0_take
set_option maxRecDepth 20000 in
theorem ggX3_takeCodes_X3_splitGroup : GoodIn wsX3_takeCodes wsX3_splitGroup := goodIn_r _ [21, 3, 1, 29, 30, 31, 32] (by decide +kernel) (by decide +kernel)
set_option maxRecDepth 20000 in
theorem gX3_takeCodes_X3_splitGroup : GoodIn wsX3_takeCodes (wsV RX3 159 RX3 yX3_splitGroup wsX3_splitGroup) := goodIn_app (goodIn_of _ (by decide +kernel)) ggX3_takeCodes_X3_splitGroup
set_option maxRecDepth 20000 in
theorem ggX3_takeCodes_J6_bitCount_0f7a4 : GoodIn wsX3_takeCodes wsJ6_bitCount_0f7a4 := goodIn_r _ [25, 26, 27, 28] (by decide +kernel) (by decide +kernel)
set_option maxRecDepth 20000 in
theorem gX3_takeCodes_J6_bitCount_0f7a4 : GoodIn wsX3_takeCodes (va_wsS RX3 162 yJ6_bitCount_0f7a4 wsJ6_bitCount_0f7a4) := goodIn_app (goodIn_of _ (by decide +kernel)) ggX3_takeCodes_J6_bitCount_0f7a4
theorem dX3_takeCodes_0 : decode cX3_takeCodes 0 = .ok (.iload_n 1, 1) := by decide +kernel
theorem dX3_takeCodes_1 : decode cX3_takeCodes 1 = .ok (.aload_n 0, 1) := by decide +kernel
theorem dX3_takeCodes_2 : decode cX3_takeCodes 2 = .ok (.getfield 22, 3) := by decide +kernel
theorem dX3_takeCodes_5 : decode cX3_takeCodes 5 = .ok (.arraylength, 1) := by decide +kernel
theorem dX3_takeCodes_6 : decode cX3_takeCodes 6 = .ok (.if_icmp .ne 10, 3) := by decide +kernel
theorem dX3_takeCodes_9 : decode cX3_takeCodes 9 = .ok (.iload_n 2, 1) := by decide +kernel
theorem dX3_takeCodes_10 : decode cX3_takeCodes 10 = .ok (.invokestatic 156, 3) := by decide +kernel
theorem dX3_takeCodes_13 : decode cX3_takeCodes 13 = .ok (.goto 4, 3) := by decide +kernel
theorem dX3_takeCodes_16 : decode cX3_takeCodes 16 = .ok (.iconst 0, 1) := by decide +kernel
theorem dX3_takeCodes_17 : decode cX3_takeCodes 17 = .ok (.istore_n 3, 1) := by decide +kernel
theorem dX3_takeCodes_18 : decode cX3_takeCodes 18 = .ok (.iload_n 3, 1) := by decide +kernel
theorem dX3_takeCodes_19 : decode cX3_takeCodes 19 = .ok (.ifCond .le 17, 3) := by decide +kernel
theorem dX3_takeCodes_22 : decode cX3_takeCodes 22 = .ok (.aload_n 0, 1) := by decide +kernel
theorem dX3_takeCodes_23 : decode cX3_takeCodes 23 = .ok (.aload_n 0, 1) := by decide +kernel
theorem dX3_takeCodes_24 : decode cX3_takeCodes 24 = .ok (.getfield 12, 3) := by decide +kernel
theorem dX3_takeCodes_27 : decode cX3_takeCodes 27 = .ok (.iload_n 3, 1) := by decide +kernel
theorem dX3_takeCodes_28 : decode cX3_takeCodes 28 = .ok (.invokevirtual 55, 3) := by decide +kernel
theorem dX3_takeCodes_31 : decode cX3_takeCodes 31 = .ok (.iload_n 2, 1) := by decide +kernel
theorem dX3_takeCodes_32 : decode cX3_takeCodes 32 = .ok (.invokevirtual 159, 3) := by decide +kernel
theorem dX3_takeCodes_35 : decode cX3_takeCodes 35 = .ok (.return_, 1) := by decide +kernel
theorem dX3_takeCodes_36 : decode cX3_takeCodes 36 = .ok (.iconst 0, 1) := by decide +kernel
theorem dX3_takeCodes_37 : decode cX3_takeCodes 37 = .ok (.istore 4, 2) := by decide +kernel
theorem dX3_takeCodes_39 : decode cX3_takeCodes 39 = .ok (.iload 4, 2) := by decide +kernel
theorem dX3_takeCodes_41 : decode cX3_takeCodes 41 = .ok (.iload_n 1, 1) := by decide +kernel
theorem dX3_takeCodes_42 : decode cX3_takeCodes 42 = .ok (.if_icmp .ge 53, 3) := by decide +kernel
theorem dX3_takeCodes_45 : decode cX3_takeCodes 45 = .ok (.iload 4, 2) := by decide +kernel
theorem dX3_takeCodes_47 : decode cX3_takeCodes 47 = .ok (.aload_n 0, 1) := by decide +kernel
theorem dX3_takeCodes_48 : decode cX3_takeCodes 48 = .ok (.getfield 22, 3) := by decide +kernel
theorem dX3_takeCodes_51 : decode cX3_takeCodes 51 = .ok (.arraylength, 1) := by decide +kernel
theorem dX3_takeCodes_52 : decode cX3_takeCodes 52 = .ok (.if_icmp .ge 43, 3) := by decide +kernel
theorem dX3_takeCodes_55 : decode cX3_takeCodes 55 = .ok (.aload_n 0, 1) := by decide +kernel
theorem dX3_takeCodes_56 : decode cX3_takeCodes 56 = .ok (.getfield 22, 3) := by decide +kernel
theorem dX3_takeCodes_59 : decode cX3_takeCodes 59 = .ok (.iload 4, 2) := by decide +kernel
theorem dX3_takeCodes_61 : decode cX3_takeCodes 61 = .ok (.aload_n 0, 1) := by decide +kernel
theorem dX3_takeCodes_62 : decode cX3_takeCodes 62 = .ok (.getfield 12, 3) := by decide +kernel
theorem dX3_takeCodes_65 : decode cX3_takeCodes 65 = .ok (.iload_n 2, 1) := by decide +kernel
theorem dX3_takeCodes_66 : decode cX3_takeCodes 66 = .ok (.invokestatic 162, 3) := by decide +kernel
theorem dX3_takeCodes_69 : decode cX3_takeCodes 69 = .ok (.invokevirtual 55, 3) := by decide +kernel
theorem dX3_takeCodes_72 : decode cX3_takeCodes 72 = .ok (.iastore, 1) := by decide +kernel
theorem dX3_takeCodes_73 : decode cX3_takeCodes 73 = .ok (.aload_n 0, 1) := by decide +kernel
theorem dX3_takeCodes_74 : decode cX3_takeCodes 74 = .ok (.getfield 22, 3) := by decide +kernel
theorem dX3_takeCodes_77 : decode cX3_takeCodes 77 = .ok (.iload 4, 2) := by decide +kernel
theorem dX3_takeCodes_79 : decode cX3_takeCodes 79 = .ok (.iaload, 1) := by decide +kernel
theorem dX3_takeCodes_80 : decode cX3_takeCodes 80 = .ok (.iload_n 2, 1) := by decide +kernel
theorem dX3_takeCodes_81 : decode cX3_takeCodes 81 = .ok (.if_icmp .ne 8, 3) := by decide +kernel
theorem dX3_takeCodes_84 : decode cX3_takeCodes 84 = .ok (.aload_n 0, 1) := by decide +kernel
theorem dX3_takeCodes_85 : decode cX3_takeCodes 85 = .ok (.iconst 1, 1) := by decide +kernel
theorem dX3_takeCodes_86 : decode cX3_takeCodes 86 = .ok (.putfield 38, 3) := by decide +kernel
theorem dX3_takeCodes_89 : decode cX3_takeCodes 89 = .ok (.iinc 4 1, 3) := by decide +kernel
theorem dX3_takeCodes_92 : decode cX3_takeCodes 92 = .ok (.goto (-53), 3) := by decide +kernel
theorem dX3_takeCodes_95 : decode cX3_takeCodes 95 = .ok (.return_, 1) := by decide +kernel
theorem dX3_groupBitsOf_0 : decode cX3_groupBitsOf 0 = .ok (.iload_n 0, 1) := by decide +kernel
theorem dX3_groupBitsOf_1 : decode cX3_groupBitsOf 1 = .ok (.lookupswitch 43 #[(3, 35), (5, 37), (9, 40)], 35) := by decide +kernel
theorem dX3_groupBitsOf_36 : decode cX3_groupBitsOf 36 = .ok (.iconst 5, 1) := by decide +kernel
theorem dX3_groupBitsOf_37 : decode cX3_groupBitsOf 37 = .ok (.ireturn, 1) := by decide +kernel
theorem dX3_groupBitsOf_38 : decode cX3_groupBitsOf 38 = .ok (.bipush 7, 2) := by decide +kernel
theorem dX3_groupBitsOf_40 : decode cX3_groupBitsOf 40 = .ok (.ireturn, 1) := by decide +kernel
theorem dX3_groupBitsOf_41 : decode cX3_groupBitsOf 41 = .ok (.bipush 10, 2) := by decide +kernel
theorem dX3_groupBitsOf_43 : decode cX3_groupBitsOf 43 = .ok (.ireturn, 1) := by decide +kernel
theorem dX3_groupBitsOf_44 : decode cX3_groupBitsOf 44 = .ok (.iconst 0, 1) := by decide +kernel
theorem dX3_groupBitsOf_45 : decode cX3_groupBitsOf 45 = .ok (.ireturn, 1) := by decide +kernel
theorem dX3_splitGroup_0 : decode cX3_splitGroup 0 = .ok (.iload_n 2, 1) := by decide +kernel
theorem dX3_splitGroup_1 : decode cX3_splitGroup 1 = .ok (.ifCond .gt 4, 3) := by decide +kernel
theorem dX3_splitGroup_4 : decode cX3_splitGroup 4 = .ok (.return_, 1) := by decide +kernel
theorem dX3_splitGroup_5 : decode cX3_splitGroup 5 = .ok (.iload_n 1, 1) := by decide +kernel
theorem dX3_splitGroup_6 : decode cX3_splitGroup 6 = .ok (.iload_n 2, 1) := by decide +kernel
theorem dX3_splitGroup_7 : decode cX3_splitGroup 7 = .ok (.iload_n 2, 1) := by decide +kernel
theorem dX3_splitGroup_8 : decode cX3_splitGroup 8 = .ok (.imul, 1) := by decide +kernel
theorem dX3_splitGroup_9 : decode cX3_splitGroup 9 = .ok (.iload_n 2, 1) := by decide +kernel
theorem dX3_splitGroup_10 : decode cX3_splitGroup 10 = .ok (.imul, 1) := by decide +kernel
theorem dX3_splitGroup_11 : decode cX3_splitGroup 11 = .ok (.if_icmp .lt 8, 3) := by decide +kernel
theorem dX3_splitGroup_14 : decode cX3_splitGroup 14 = .ok (.aload_n 0, 1) := by decide +kernel
theorem dX3_splitGroup_15 : decode cX3_splitGroup 15 = .ok (.iconst 1, 1) := by decide +kernel
theorem dX3_splitGroup_16 : decode cX3_splitGroup 16 = .ok (.putfield 38, 3) := by decide +kernel
theorem dX3_splitGroup_19 : decode cX3_splitGroup 19 = .ok (.iload_n 1, 1) := by decide +kernel
theorem dX3_splitGroup_20 : decode cX3_splitGroup 20 = .ok (.istore_n 3, 1) := by decide +kernel
theorem dX3_splitGroup_21 : decode cX3_splitGroup 21 = .ok (.iconst 0, 1) := by decide +kernel
theorem dX3_splitGroup_22 : decode cX3_splitGroup 22 = .ok (.istore 4, 2) := by decide +kernel
theorem dX3_splitGroup_24 : decode cX3_splitGroup 24 = .ok (.iload 4, 2) := by decide +kernel
theorem dX3_splitGroup_26 : decode cX3_splitGroup 26 = .ok (.aload_n 0, 1) := by decide +kernel
theorem dX3_splitGroup_27 : decode cX3_splitGroup 27 = .ok (.getfield 22, 3) := by decide +kernel
theorem dX3_splitGroup_30 : decode cX3_splitGroup 30 = .ok (.arraylength, 1) := by decide +kernel
theorem dX3_splitGroup_31 : decode cX3_splitGroup 31 = .ok (.if_icmp .ge 23, 3) := by decide +kernel
theorem dX3_splitGroup_34 : decode cX3_splitGroup 34 = .ok (.aload_n 0, 1) := by decide +kernel
theorem dX3_splitGroup_35 : decode cX3_splitGroup 35 = .ok (.getfield 22, 3) := by decide +kernel
theorem dX3_splitGroup_38 : decode cX3_splitGroup 38 = .ok (.iload 4, 2) := by decide +kernel
theorem dX3_splitGroup_40 : decode cX3_splitGroup 40 = .ok (.iload_n 3, 1) := by decide +kernel
theorem dX3_splitGroup_41 : decode cX3_splitGroup 41 = .ok (.iload_n 2, 1) := by decide +kernel
theorem dX3_splitGroup_42 : decode cX3_splitGroup 42 = .ok (.irem, 1) := by decide +kernel
theorem dX3_splitGroup_43 : decode cX3_splitGroup 43 = .ok (.iastore, 1) := by decide +kernel
theorem dX3_splitGroup_44 : decode cX3_splitGroup 44 = .ok (.iload_n 3, 1) := by decide +kernel
theorem dX3_splitGroup_45 : decode cX3_splitGroup 45 = .ok (.iload_n 2, 1) := by decide +kernel
theorem dX3_splitGroup_46 : decode cX3_splitGroup 46 = .ok (.idiv, 1) := by decide +kernel
theorem dX3_splitGroup_47 : decode cX3_splitGroup 47 = .ok (.istore_n 3, 1) := by decide +kernel
theorem dX3_splitGroup_48 : decode cX3_splitGroup 48 = .ok (.iinc 4 1, 3) := by decide +kernel
theorem dX3_splitGroup_51 : decode cX3_splitGroup 51 = .ok (.goto (-27), 3) := by decide +kernel
theorem dX3_splitGroup_54 : decode cX3_splitGroup 54 = .ok (.return_, 1) := by decide +kernel
