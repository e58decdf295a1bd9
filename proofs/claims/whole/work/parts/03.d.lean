theorem dX0_init_0 : decode cX0_init 0 = .ok (.aload_n 0, 1) := by decide +kernel
theorem dX0_init_1 : decode cX0_init 1 = .ok (.invokespecial 1, 3) := by decide +kernel
theorem dX0_init_4 : decode cX0_init 4 = .ok (.aload_n 0, 1) := by decide +kernel
theorem dX0_init_5 : decode cX0_init 5 = .ok (.iconst 0, 1) := by decide +kernel
theorem dX0_init_6 : decode cX0_init 6 = .ok (.newarray .int, 2) := by decide +kernel
theorem dX0_init_8 : decode cX0_init 8 = .ok (.putfield 7, 3) := by decide +kernel
theorem dX0_init_11 : decode cX0_init 11 = .ok (.return_, 1) := by decide +kernel
theorem dX0_open_0 : decode cX0_open 0 = .ok (.aload_n 0, 1) := by decide +kernel
theorem dX0_open_1 : decode cX0_open 1 = .ok (.aload_n 1, 1) := by decide +kernel
theorem dX0_open_2 : decode cX0_open 2 = .ok (.putfield 7, 3) := by decide +kernel
theorem dX0_open_5 : decode cX0_open 5 = .ok (.aload_n 0, 1) := by decide +kernel
theorem dX0_open_6 : decode cX0_open 6 = .ok (.iload_n 2, 1) := by decide +kernel
theorem dX0_open_7 : decode cX0_open 7 = .ok (.iconst 0, 1) := by decide +kernel
theorem dX0_open_8 : decode cX0_open 8 = .ok (.invokestatic 13, 3) := by decide +kernel
theorem dX0_open_11 : decode cX0_open 11 = .ok (.putfield 19, 3) := by decide +kernel
theorem dX0_open_14 : decode cX0_open 14 = .ok (.aload_n 0, 1) := by decide +kernel
theorem dX0_open_15 : decode cX0_open 15 = .ok (.bipush 8, 2) := by decide +kernel
theorem dX0_open_17 : decode cX0_open 17 = .ok (.iload_n 3, 1) := by decide +kernel
theorem dX0_open_18 : decode cX0_open 18 = .ok (.aload_n 1, 1) := by decide +kernel
theorem dX0_open_19 : decode cX0_open 19 = .ok (.arraylength, 1) := by decide +kernel
theorem dX0_open_20 : decode cX0_open 20 = .ok (.aload_n 0, 1) := by decide +kernel
theorem dX0_open_21 : decode cX0_open 21 = .ok (.getfield 19, 3) := by decide +kernel
theorem dX0_open_24 : decode cX0_open 24 = .ok (.isub, 1) := by decide +kernel
theorem dX0_open_25 : decode cX0_open 25 = .ok (.invokestatic 23, 3) := by decide +kernel
theorem dX0_open_28 : decode cX0_open 28 = .ok (.imul, 1) := by decide +kernel
theorem dX0_open_29 : decode cX0_open 29 = .ok (.putfield 26, 3) := by decide +kernel
theorem dX0_open_32 : decode cX0_open 32 = .ok (.aload_n 0, 1) := by decide +kernel
theorem dX0_open_33 : decode cX0_open 33 = .ok (.iconst 0, 1) := by decide +kernel
theorem dX0_open_34 : decode cX0_open 34 = .ok (.putfield 29, 3) := by decide +kernel
theorem dX0_open_37 : decode cX0_open 37 = .ok (.aload_n 0, 1) := by decide +kernel
theorem dX0_open_38 : decode cX0_open 38 = .ok (.iconst 0, 1) := by decide +kernel
theorem dX0_open_39 : decode cX0_open 39 = .ok (.putfield 32, 3) := by decide +kernel
theorem dX0_open_42 : decode cX0_open 42 = .ok (.return_, 1) := by decide +kernel
theorem dX0_take_0 : decode cX0_take 0 = .ok (.aload_n 0, 1) := by decide +kernel
theorem dX0_take_1 : decode cX0_take 1 = .ok (.getfield 29, 3) := by decide +kernel
theorem dX0_take_4 : decode cX0_take 4 = .ok (.ifCond .lt 16, 3) := by decide +kernel
theorem dX0_take_7 : decode cX0_take 7 = .ok (.iload_n 1, 1) := by decide +kernel
theorem dX0_take_8 : decode cX0_take 8 = .ok (.aload_n 0, 1) := by decide +kernel
theorem dX0_take_9 : decode cX0_take 9 = .ok (.getfield 26, 3) := by decide +kernel
theorem dX0_take_12 : decode cX0_take 12 = .ok (.aload_n 0, 1) := by decide +kernel
theorem dX0_take_13 : decode cX0_take 13 = .ok (.getfield 29, 3) := by decide +kernel
theorem dX0_take_16 : decode cX0_take 16 = .ok (.isub, 1) := by decide +kernel
theorem dX0_take_17 : decode cX0_take 17 = .ok (.if_icmp .le 10, 3) := by decide +kernel
theorem dX0_take_20 : decode cX0_take 20 = .ok (.aload_n 0, 1) := by decide +kernel
theorem dX0_take_21 : decode cX0_take 21 = .ok (.iconst 1, 1) := by decide +kernel
theorem dX0_take_22 : decode cX0_take 22 = .ok (.putfield 32, 3) := by decide +kernel
theorem dX0_take_25 : decode cX0_take 25 = .ok (.iconst 0, 1) := by decide +kernel
theorem dX0_take_26 : decode cX0_take 26 = .ok (.ireturn, 1) := by decide +kernel
theorem dX0_take_27 : decode cX0_take 27 = .ok (.iconst 0, 1) := by decide +kernel
theorem dX0_take_28 : decode cX0_take 28 = .ok (.istore_n 2, 1) := by decide +kernel
theorem dX0_take_29 : decode cX0_take 29 = .ok (.iconst 0, 1) := by decide +kernel
theorem dX0_take_30 : decode cX0_take 30 = .ok (.istore_n 3, 1) := by decide +kernel
theorem dX0_take_31 : decode cX0_take 31 = .ok (.iload_n 3, 1) := by decide +kernel
theorem dX0_take_32 : decode cX0_take 32 = .ok (.iload_n 1, 1) := by decide +kernel
theorem dX0_take_33 : decode cX0_take 33 = .ok (.if_icmp .ge 57, 3) := by decide +kernel
theorem dX0_take_36 : decode cX0_take 36 = .ok (.aload_n 0, 1) := by decide +kernel
theorem dX0_take_37 : decode cX0_take 37 = .ok (.getfield 7, 3) := by decide +kernel
theorem dX0_take_40 : decode cX0_take 40 = .ok (.aload_n 0, 1) := by decide +kernel
theorem dX0_take_41 : decode cX0_take 41 = .ok (.getfield 19, 3) := by decide +kernel
theorem dX0_take_44 : decode cX0_take 44 = .ok (.aload_n 0, 1) := by decide +kernel
theorem dX0_take_45 : decode cX0_take 45 = .ok (.getfield 29, 3) := by decide +kernel
theorem dX0_take_48 : decode cX0_take 48 = .ok (.iconst 3, 1) := by decide +kernel
theorem dX0_take_49 : decode cX0_take 49 = .ok (.ishr, 1) := by decide +kernel
theorem dX0_take_50 : decode cX0_take 50 = .ok (.iadd, 1) := by decide +kernel
theorem dX0_take_51 : decode cX0_take 51 = .ok (.iaload, 1) := by decide +kernel
theorem dX0_take_52 : decode cX0_take 52 = .ok (.bipush 7, 2) := by decide +kernel
theorem dX0_take_54 : decode cX0_take 54 = .ok (.aload_n 0, 1) := by decide +kernel
theorem dX0_take_55 : decode cX0_take 55 = .ok (.getfield 29, 3) := by decide +kernel
theorem dX0_take_58 : decode cX0_take 58 = .ok (.bipush 7, 2) := by decide +kernel
theorem dX0_take_60 : decode cX0_take 60 = .ok (.iand, 1) := by decide +kernel
theorem dX0_take_61 : decode cX0_take 61 = .ok (.isub, 1) := by decide +kernel
theorem dX0_take_62 : decode cX0_take 62 = .ok (.ishr, 1) := by decide +kernel
theorem dX0_take_63 : decode cX0_take 63 = .ok (.iconst 1, 1) := by decide +kernel
theorem dX0_take_64 : decode cX0_take 64 = .ok (.iand, 1) := by decide +kernel
theorem dX0_take_65 : decode cX0_take 65 = .ok (.istore 4, 2) := by decide +kernel
theorem dX0_take_67 : decode cX0_take 67 = .ok (.iload_n 2, 1) := by decide +kernel
theorem dX0_take_68 : decode cX0_take 68 = .ok (.iconst 1, 1) := by decide +kernel
theorem dX0_take_69 : decode cX0_take 69 = .ok (.ishl, 1) := by decide +kernel
theorem dX0_take_70 : decode cX0_take 70 = .ok (.iload 4, 2) := by decide +kernel
theorem dX0_take_72 : decode cX0_take 72 = .ok (.ior, 1) := by decide +kernel
theorem dX0_take_73 : decode cX0_take 73 = .ok (.istore_n 2, 1) := by decide +kernel
theorem dX0_take_74 : decode cX0_take 74 = .ok (.aload_n 0, 1) := by decide +kernel
theorem dX0_take_75 : decode cX0_take 75 = .ok (.dup, 1) := by decide +kernel
theorem dX0_take_76 : decode cX0_take 76 = .ok (.getfield 29, 3) := by decide +kernel
theorem dX0_take_79 : decode cX0_take 79 = .ok (.iconst 1, 1) := by decide +kernel
theorem dX0_take_80 : decode cX0_take 80 = .ok (.iadd, 1) := by decide +kernel
theorem dX0_take_81 : decode cX0_take 81 = .ok (.putfield 29, 3) := by decide +kernel
theorem dX0_take_84 : decode cX0_take 84 = .ok (.iinc 3 1, 3) := by decide +kernel
theorem dX0_take_87 : decode cX0_take 87 = .ok (.goto (-56), 3) := by decide +kernel
theorem dX0_take_90 : decode cX0_take 90 = .ok (.iload_n 2, 1) := by decide +kernel
theorem dX0_take_91 : decode cX0_take 91 = .ok (.ireturn, 1) := by decide +kernel
theorem dX1_init_0 : decode cX1_init 0 = .ok (.aload_n 0, 1) := by decide +kernel
theorem dX1_init_1 : decode cX1_init 1 = .ok (.invokespecial 3, 3) := by decide +kernel
theorem dX1_init_4 : decode cX1_init 4 = .ok (.aload_n 0, 1) := by decide +kernel
theorem dX1_init_5 : decode cX1_init 5 = .ok (.bipush 64, 2) := by decide +kernel
theorem dX1_init_7 : decode cX1_init 7 = .ok (.newarray .int, 2) := by decide +kernel
theorem dX1_init_9 : decode cX1_init 9 = .ok (.putfield 9, 3) := by decide +kernel
theorem dX1_init_12 : decode cX1_init 12 = .ok (.aload_n 0, 1) := by decide +kernel
theorem dX1_init_13 : decode cX1_init 13 = .ok (.sipush 192, 3) := by decide +kernel
theorem dX1_init_16 : decode cX1_init 16 = .ok (.newarray .int, 2) := by decide +kernel
theorem dX1_init_18 : decode cX1_init 18 = .ok (.putfield 15, 3) := by decide +kernel
theorem dX1_init_21 : decode cX1_init 21 = .ok (.aload_n 0, 1) := by decide +kernel
theorem dX1_init_22 : decode cX1_init 22 = .ok (.sipush 2304, 3) := by decide +kernel
theorem dX1_init_25 : decode cX1_init 25 = .ok (.newarray .int, 2) := by decide +kernel
theorem dX1_init_27 : decode cX1_init 27 = .ok (.putfield 18, 3) := by decide +kernel
theorem dX1_init_30 : decode cX1_init 30 = .ok (.return_, 1) := by decide +kernel
theorem dX1_bandIndex_0 : decode cX1_bandIndex 0 = .ok (.iload_n 0, 1) := by decide +kernel
theorem dX1_bandIndex_1 : decode cX1_bandIndex 1 = .ok (.bipush 32, 2) := by decide +kernel
theorem dX1_bandIndex_3 : decode cX1_bandIndex 3 = .ok (.imul, 1) := by decide +kernel
theorem dX1_bandIndex_4 : decode cX1_bandIndex 4 = .ok (.iload_n 1, 1) := by decide +kernel
theorem dX1_bandIndex_5 : decode cX1_bandIndex 5 = .ok (.iadd, 1) := by decide +kernel
theorem dX1_bandIndex_6 : decode cX1_bandIndex 6 = .ok (.ireturn, 1) := by decide +kernel
theorem dX1_rowIndex_0 : decode cX1_rowIndex 0 = .ok (.iload_n 0, 1) := by decide +kernel
theorem dX1_rowIndex_1 : decode cX1_rowIndex 1 = .ok (.bipush 36, 2) := by decide +kernel
theorem dX1_rowIndex_3 : decode cX1_rowIndex 3 = .ok (.imul, 1) := by decide +kernel
theorem dX1_rowIndex_4 : decode cX1_rowIndex 4 = .ok (.iload_n 1, 1) := by decide +kernel
theorem dX1_rowIndex_5 : decode cX1_rowIndex 5 = .ok (.iadd, 1) := by decide +kernel
theorem dX1_rowIndex_6 : decode cX1_rowIndex 6 = .ok (.bipush 32, 2) := by decide +kernel
theorem dX1_rowIndex_8 : decode cX1_rowIndex 8 = .ok (.imul, 1) := by decide +kernel
theorem dX1_rowIndex_9 : decode cX1_rowIndex 9 = .ok (.ireturn, 1) := by decide +kernel
set_option maxRecDepth 20000 in
theorem ggX1_wipe_J7_fill_53178 : GoodIn wsX1_wipe wsJ7_fill_53178 := goodIn_r _ [9] (by decide +kernel) (by decide +kernel)
set_option maxRecDepth 20000 in
theorem gX1_wipe_J7_fill_53178 : GoodIn wsX1_wipe (va_wsS RX1 28 yJ7_fill_53178 wsJ7_fill_53178) := goodIn_app (goodIn_of _ (by decide +kernel)) ggX1_wipe_J7_fill_53178
theorem dX1_wipe_0 : decode cX1_wipe 0 = .ok (.aload_n 0, 1) := by decide +kernel
theorem dX1_wipe_1 : decode cX1_wipe 1 = .ok (.iload_n 1, 1) := by decide +kernel
theorem dX1_wipe_2 : decode cX1_wipe 2 = .ok (.putfield 21, 3) := by decide +kernel
theorem dX1_wipe_5 : decode cX1_wipe 5 = .ok (.aload_n 0, 1) := by decide +kernel
theorem dX1_wipe_6 : decode cX1_wipe 6 = .ok (.iload_n 2, 1) := by decide +kernel
theorem dX1_wipe_7 : decode cX1_wipe 7 = .ok (.putfield 25, 3) := by decide +kernel
theorem dX1_wipe_10 : decode cX1_wipe 10 = .ok (.aload_n 0, 1) := by decide +kernel
theorem dX1_wipe_11 : decode cX1_wipe 11 = .ok (.getfield 9, 3) := by decide +kernel
theorem dX1_wipe_14 : decode cX1_wipe 14 = .ok (.iconst 0, 1) := by decide +kernel
theorem dX1_wipe_15 : decode cX1_wipe 15 = .ok (.invokestatic 28, 3) := by decide +kernel
theorem dX1_wipe_18 : decode cX1_wipe 18 = .ok (.aload_n 0, 1) := by decide +kernel
theorem dX1_wipe_19 : decode cX1_wipe 19 = .ok (.getfield 15, 3) := by decide +kernel
theorem dX1_wipe_22 : decode cX1_wipe 22 = .ok (.iconst 0, 1) := by decide +kernel
theorem dX1_wipe_23 : decode cX1_wipe 23 = .ok (.invokestatic 28, 3) := by decide +kernel
theorem dX1_wipe_26 : decode cX1_wipe 26 = .ok (.aload_n 0, 1) := by decide +kernel
theorem dX1_wipe_27 : decode cX1_wipe 27 = .ok (.getfield 18, 3) := by decide +kernel
theorem dX1_wipe_30 : decode cX1_wipe 30 = .ok (.iconst 0, 1) := by decide +kernel
theorem dX1_wipe_31 : decode cX1_wipe 31 = .ok (.invokestatic 28, 3) := by decide +kernel
theorem dX1_wipe_34 : decode cX1_wipe 34 = .ok (.return_, 1) := by decide +kernel
theorem dX1_sampleOf_0 : decode cX1_sampleOf 0 = .ok (.iload_n 1, 1) := by decide +kernel
theorem dX1_sampleOf_1 : decode cX1_sampleOf 1 = .ok (.ifCond .le 7, 3) := by decide +kernel
theorem dX1_sampleOf_4 : decode cX1_sampleOf 4 = .ok (.iload_n 2, 1) := by decide +kernel
theorem dX1_sampleOf_5 : decode cX1_sampleOf 5 = .ok (.ifCond .ge 5, 3) := by decide +kernel
theorem dX1_sampleOf_8 : decode cX1_sampleOf 8 = .ok (.iconst 0, 1) := by decide +kernel
theorem dX1_sampleOf_9 : decode cX1_sampleOf 9 = .ok (.ireturn, 1) := by decide +kernel
theorem dX1_sampleOf_10 : decode cX1_sampleOf 10 = .ok (.getstatic 34, 3) := by decide +kernel
theorem dX1_sampleOf_13 : decode cX1_sampleOf 13 = .ok (.iload_n 2, 1) := by decide +kernel
theorem dX1_sampleOf_14 : decode cX1_sampleOf 14 = .ok (.iconst 3, 1) := by decide +kernel
theorem dX1_sampleOf_15 : decode cX1_sampleOf 15 = .ok (.irem, 1) := by decide +kernel
theorem dX1_sampleOf_16 : decode cX1_sampleOf 16 = .ok (.iaload, 1) := by decide +kernel
theorem dX1_sampleOf_17 : decode cX1_sampleOf 17 = .ok (.iload_n 2, 1) := by decide +kernel
theorem dX1_sampleOf_18 : decode cX1_sampleOf 18 = .ok (.iconst 3, 1) := by decide +kernel
theorem dX1_sampleOf_19 : decode cX1_sampleOf 19 = .ok (.idiv, 1) := by decide +kernel
theorem dX1_sampleOf_20 : decode cX1_sampleOf 20 = .ok (.ishr, 1) := by decide +kernel
theorem dX1_sampleOf_21 : decode cX1_sampleOf 21 = .ok (.i2l, 1) := by decide +kernel
theorem dX1_sampleOf_22 : decode cX1_sampleOf 22 = .ok (.lstore_n 3, 1) := by decide +kernel
theorem dX1_sampleOf_23 : decode cX1_sampleOf 23 = .ok (.iconst 2, 1) := by decide +kernel
theorem dX1_sampleOf_24 : decode cX1_sampleOf 24 = .ok (.iload_n 0, 1) := by decide +kernel
theorem dX1_sampleOf_25 : decode cX1_sampleOf 25 = .ok (.imul, 1) := by decide +kernel
theorem dX1_sampleOf_26 : decode cX1_sampleOf 26 = .ok (.iconst 1, 1) := by decide +kernel
theorem dX1_sampleOf_27 : decode cX1_sampleOf 27 = .ok (.iadd, 1) := by decide +kernel
theorem dX1_sampleOf_28 : decode cX1_sampleOf 28 = .ok (.iload_n 1, 1) := by decide +kernel
theorem dX1_sampleOf_29 : decode cX1_sampleOf 29 = .ok (.isub, 1) := by decide +kernel
theorem dX1_sampleOf_30 : decode cX1_sampleOf 30 = .ok (.i2l, 1) := by decide +kernel
theorem dX1_sampleOf_31 : decode cX1_sampleOf 31 = .ok (.lload_n 3, 1) := by decide +kernel
theorem dX1_sampleOf_32 : decode cX1_sampleOf 32 = .ok (.lmul, 1) := by decide +kernel
theorem dX1_sampleOf_33 : decode cX1_sampleOf 33 = .ok (.iload_n 1, 1) := by decide +kernel
theorem dX1_sampleOf_34 : decode cX1_sampleOf 34 = .ok (.i2l, 1) := by decide +kernel
theorem dX1_sampleOf_35 : decode cX1_sampleOf 35 = .ok (.ldiv, 1) := by decide +kernel
theorem dX1_sampleOf_36 : decode cX1_sampleOf 36 = .ok (.l2i, 1) := by decide +kernel
theorem dX1_sampleOf_37 : decode cX1_sampleOf 37 = .ok (.ireturn, 1) := by decide +kernel
set_option maxRecDepth 20000 in
theorem ggX2_init_X2_layerOf : GoodIn wsX2_init wsX2_layerOf := goodIn_r _ [23] (by decide +kernel) (by decide +kernel)
set_option maxRecDepth 20000 in
theorem gX2_init_X2_layerOf : GoodIn wsX2_init (va_wsS RX2 15 yX2_layerOf wsX2_layerOf) := goodIn_app (goodIn_of _ (by decide +kernel)) ggX2_init_X2_layerOf
set_option maxRecDepth 20000 in
theorem ggX2_init_X2_rateOf : GoodIn wsX2_init wsX2_rateOf := goodIn_r _ [26, 27, 20, 21, 22, 23] (by decide +kernel) (by decide +kernel)
set_option maxRecDepth 20000 in
theorem gX2_init_X2_rateOf : GoodIn wsX2_init (va_wsS RX2 26 yX2_rateOf wsX2_rateOf) := goodIn_app (goodIn_of _ (by decide +kernel)) ggX2_init_X2_rateOf
set_option maxRecDepth 20000 in
theorem ggX2_init_X2_samplingOf : GoodIn wsX2_init wsX2_samplingOf := goodIn_r _ [30, 31] (by decide +kernel) (by decide +kernel)
set_option maxRecDepth 20000 in
theorem gX2_init_X2_samplingOf : GoodIn wsX2_init (va_wsS RX2 32 yX2_samplingOf wsX2_samplingOf) := goodIn_app (goodIn_of _ (by decide +kernel)) ggX2_init_X2_samplingOf
set_option maxRecDepth 20000 in
theorem ggX2_init_X2_bytesOf : GoodIn wsX2_init wsX2_bytesOf := goodIn_r _ [34, 35] (by decide +kernel) (by decide +kernel)
set_option maxRecDepth 20000 in
theorem gX2_init_X2_bytesOf : GoodIn wsX2_init (va_wsS RX2 38 yX2_bytesOf wsX2_bytesOf) := goodIn_app (goodIn_of _ (by decide +kernel)) ggX2_init_X2_bytesOf
set_option maxRecDepth 20000 in
theorem ggX2_init_X2_modeOf : GoodIn wsX2_init wsX2_modeOf := goodIn_r _ [38] (by decide +kernel) (by decide +kernel)
set_option maxRecDepth 20000 in
theorem gX2_init_X2_modeOf : GoodIn wsX2_init (va_wsS RX2 45 yX2_modeOf wsX2_modeOf) := goodIn_app (goodIn_of _ (by decide +kernel)) ggX2_init_X2_modeOf
set_option maxRecDepth 20000 in
theorem ggX2_init_X2_layerTwoBands : GoodIn wsX2_init wsX2_layerTwoBands := goodIn_r _ [41, 42] (by decide +kernel) (by decide +kernel)
set_option maxRecDepth 20000 in
theorem gX2_init_X2_layerTwoBands : GoodIn wsX2_init (va_wsS RX2 54 yX2_layerTwoBands wsX2_layerTwoBands) := goodIn_app (goodIn_of _ (by decide +kernel)) ggX2_init_X2_layerTwoBands
theorem dX2_init_0 : decode cX2_init 0 = .ok (.aload_n 0, 1) := by decide +kernel
theorem dX2_init_1 : decode cX2_init 1 = .ok (.invokespecial 3, 3) := by decide +kernel
theorem dX2_init_4 : decode cX2_init 4 = .ok (.aload_n 0, 1) := by decide +kernel
theorem dX2_init_5 : decode cX2_init 5 = .ok (.iload_n 2, 1) := by decide +kernel
theorem dX2_init_6 : decode cX2_init 6 = .ok (.putfield 9, 3) := by decide +kernel
theorem dX2_init_9 : decode cX2_init 9 = .ok (.aload_n 0, 1) := by decide +kernel
theorem dX2_init_10 : decode cX2_init 10 = .ok (.iload_n 1, 1) := by decide +kernel
theorem dX2_init_11 : decode cX2_init 11 = .ok (.invokestatic 15, 3) := by decide +kernel
theorem dX2_init_14 : decode cX2_init 14 = .ok (.putfield 19, 3) := by decide +kernel
theorem dX2_init_17 : decode cX2_init 17 = .ok (.aload_n 0, 1) := by decide +kernel
theorem dX2_init_18 : decode cX2_init 18 = .ok (.iload_n 1, 1) := by decide +kernel
theorem dX2_init_19 : decode cX2_init 19 = .ok (.bipush 16, 2) := by decide +kernel
theorem dX2_init_21 : decode cX2_init 21 = .ok (.iushr, 1) := by decide +kernel
theorem dX2_init_22 : decode cX2_init 22 = .ok (.iconst 1, 1) := by decide +kernel
theorem dX2_init_23 : decode cX2_init 23 = .ok (.iand, 1) := by decide +kernel
theorem dX2_init_24 : decode cX2_init 24 = .ok (.ifCond .ne 7, 3) := by decide +kernel
theorem dX2_init_27 : decode cX2_init 27 = .ok (.iconst 1, 1) := by decide +kernel
theorem dX2_init_28 : decode cX2_init 28 = .ok (.goto 4, 3) := by decide +kernel
theorem dX2_init_31 : decode cX2_init 31 = .ok (.iconst 0, 1) := by decide +kernel
theorem dX2_init_32 : decode cX2_init 32 = .ok (.putfield 22, 3) := by decide +kernel
theorem dX2_init_35 : decode cX2_init 35 = .ok (.aload_n 0, 1) := by decide +kernel
theorem dX2_init_36 : decode cX2_init 36 = .ok (.iload_n 1, 1) := by decide +kernel
theorem dX2_init_37 : decode cX2_init 37 = .ok (.invokestatic 26, 3) := by decide +kernel
theorem dX2_init_40 : decode cX2_init 40 = .ok (.putfield 29, 3) := by decide +kernel
theorem dX2_init_43 : decode cX2_init 43 = .ok (.aload_n 0, 1) := by decide +kernel
theorem dX2_init_44 : decode cX2_init 44 = .ok (.iload_n 1, 1) := by decide +kernel
theorem dX2_init_45 : decode cX2_init 45 = .ok (.invokestatic 32, 3) := by decide +kernel
theorem dX2_init_48 : decode cX2_init 48 = .ok (.putfield 35, 3) := by decide +kernel
theorem dX2_init_51 : decode cX2_init 51 = .ok (.aload_n 0, 1) := by decide +kernel
theorem dX2_init_52 : decode cX2_init 52 = .ok (.aload_n 0, 1) := by decide +kernel
theorem dX2_init_53 : decode cX2_init 53 = .ok (.getfield 19, 3) := by decide +kernel
theorem dX2_init_56 : decode cX2_init 56 = .ok (.aload_n 0, 1) := by decide +kernel
theorem dX2_init_57 : decode cX2_init 57 = .ok (.getfield 29, 3) := by decide +kernel
theorem dX2_init_60 : decode cX2_init 60 = .ok (.aload_n 0, 1) := by decide +kernel
theorem dX2_init_61 : decode cX2_init 61 = .ok (.getfield 35, 3) := by decide +kernel
theorem dX2_init_64 : decode cX2_init 64 = .ok (.iload_n 1, 1) := by decide +kernel
theorem dX2_init_65 : decode cX2_init 65 = .ok (.bipush 9, 2) := by decide +kernel
theorem dX2_init_67 : decode cX2_init 67 = .ok (.iushr, 1) := by decide +kernel
theorem dX2_init_68 : decode cX2_init 68 = .ok (.iconst 1, 1) := by decide +kernel
theorem dX2_init_69 : decode cX2_init 69 = .ok (.iand, 1) := by decide +kernel
theorem dX2_init_70 : decode cX2_init 70 = .ok (.invokestatic 38, 3) := by decide +kernel
theorem dX2_init_73 : decode cX2_init 73 = .ok (.putfield 42, 3) := by decide +kernel
theorem dX2_init_76 : decode cX2_init 76 = .ok (.aload_n 0, 1) := by decide +kernel
theorem dX2_init_77 : decode cX2_init 77 = .ok (.iload_n 1, 1) := by decide +kernel
theorem dX2_init_78 : decode cX2_init 78 = .ok (.invokestatic 45, 3) := by decide +kernel
theorem dX2_init_81 : decode cX2_init 81 = .ok (.putfield 48, 3) := by decide +kernel
theorem dX2_init_84 : decode cX2_init 84 = .ok (.aload_n 0, 1) := by decide +kernel
theorem dX2_init_85 : decode cX2_init 85 = .ok (.aload_n 0, 1) := by decide +kernel
theorem dX2_init_86 : decode cX2_init 86 = .ok (.getfield 48, 3) := by decide +kernel
theorem dX2_init_89 : decode cX2_init 89 = .ok (.iconst 3, 1) := by decide +kernel
theorem dX2_init_90 : decode cX2_init 90 = .ok (.if_icmp .ne 7, 3) := by decide +kernel
theorem dX2_init_93 : decode cX2_init 93 = .ok (.iconst 1, 1) := by decide +kernel
theorem dX2_init_94 : decode cX2_init 94 = .ok (.goto 4, 3) := by decide +kernel
theorem dX2_init_97 : decode cX2_init 97 = .ok (.iconst 2, 1) := by decide +kernel
theorem dX2_init_98 : decode cX2_init 98 = .ok (.putfield 51, 3) := by decide +kernel
theorem dX2_init_101 : decode cX2_init 101 = .ok (.aload_n 0, 1) := by decide +kernel
theorem dX2_init_102 : decode cX2_init 102 = .ok (.getfield 29, 3) := by decide +kernel
theorem dX2_init_105 : decode cX2_init 105 = .ok (.aload_n 0, 1) := by decide +kernel
theorem dX2_init_106 : decode cX2_init 106 = .ok (.getfield 51, 3) := by decide +kernel
theorem dX2_init_109 : decode cX2_init 109 = .ok (.idiv, 1) := by decide +kernel
theorem dX2_init_110 : decode cX2_init 110 = .ok (.istore_n 3, 1) := by decide +kernel
theorem dX2_init_111 : decode cX2_init 111 = .ok (.aload_n 0, 1) := by decide +kernel
theorem dX2_init_112 : decode cX2_init 112 = .ok (.aload_n 0, 1) := by decide +kernel
theorem dX2_init_113 : decode cX2_init 113 = .ok (.getfield 19, 3) := by decide +kernel
theorem dX2_init_116 : decode cX2_init 116 = .ok (.iconst 1, 1) := by decide +kernel
theorem dX2_init_117 : decode cX2_init 117 = .ok (.if_icmp .ne 8, 3) := by decide +kernel
theorem dX2_init_120 : decode cX2_init 120 = .ok (.bipush 32, 2) := by decide +kernel
theorem dX2_init_122 : decode cX2_init 122 = .ok (.goto 11, 3) := by decide +kernel
theorem dX2_init_125 : decode cX2_init 125 = .ok (.iload_n 3, 1) := by decide +kernel
theorem dX2_init_126 : decode cX2_init 126 = .ok (.aload_n 0, 1) := by decide +kernel
theorem dX2_init_127 : decode cX2_init 127 = .ok (.getfield 35, 3) := by decide +kernel
theorem dX2_init_130 : decode cX2_init 130 = .ok (.invokestatic 54, 3) := by decide +kernel
theorem dX2_init_133 : decode cX2_init 133 = .ok (.putfield 58, 3) := by decide +kernel
theorem dX2_init_136 : decode cX2_init 136 = .ok (.aload_n 0, 1) := by decide +kernel
theorem dX2_init_137 : decode cX2_init 137 = .ok (.iload_n 3, 1) := by decide +kernel
theorem dX2_init_138 : decode cX2_init 138 = .ok (.bipush 56, 2) := by decide +kernel
theorem dX2_init_140 : decode cX2_init 140 = .ok (.if_icmp .lt 7, 3) := by decide +kernel
theorem dX2_init_143 : decode cX2_init 143 = .ok (.iconst 1, 1) := by decide +kernel
theorem dX2_init_144 : decode cX2_init 144 = .ok (.goto 4, 3) := by decide +kernel
theorem dX2_init_147 : decode cX2_init 147 = .ok (.iconst 0, 1) := by decide +kernel
theorem dX2_init_148 : decode cX2_init 148 = .ok (.putfield 61, 3) := by decide +kernel
theorem dX2_init_151 : decode cX2_init 151 = .ok (.aload_n 0, 1) := by decide +kernel
theorem dX2_init_152 : decode cX2_init 152 = .ok (.aload_n 0, 1) := by decide +kernel
theorem dX2_init_153 : decode cX2_init 153 = .ok (.getfield 48, 3) := by decide +kernel
theorem dX2_init_156 : decode cX2_init 156 = .ok (.iconst 1, 1) := by decide +kernel
theorem dX2_init_157 : decode cX2_init 157 = .ok (.if_icmp .ne 22, 3) := by decide +kernel
theorem dX2_init_160 : decode cX2_init 160 = .ok (.iconst 4, 1) := by decide +kernel
theorem dX2_init_161 : decode cX2_init 161 = .ok (.iload_n 1, 1) := by decide +kernel
theorem dX2_init_162 : decode cX2_init 162 = .ok (.iconst 4, 1) := by decide +kernel
theorem dX2_init_163 : decode cX2_init 163 = .ok (.iushr, 1) := by decide +kernel
theorem dX2_init_164 : decode cX2_init 164 = .ok (.iconst 3, 1) := by decide +kernel
theorem dX2_init_165 : decode cX2_init 165 = .ok (.iand, 1) := by decide +kernel
theorem dX2_init_166 : decode cX2_init 166 = .ok (.iconst 1, 1) := by decide +kernel
theorem dX2_init_167 : decode cX2_init 167 = .ok (.iadd, 1) := by decide +kernel
theorem dX2_init_168 : decode cX2_init 168 = .ok (.imul, 1) := by decide +kernel
theorem dX2_init_169 : decode cX2_init 169 = .ok (.aload_n 0, 1) := by decide +kernel
theorem dX2_init_170 : decode cX2_init 170 = .ok (.getfield 58, 3) := by decide +kernel
theorem dX2_init_173 : decode cX2_init 173 = .ok (.invokestatic 64, 3) := by decide +kernel
theorem dX2_init_176 : decode cX2_init 176 = .ok (.goto 7, 3) := by decide +kernel
theorem dX2_init_179 : decode cX2_init 179 = .ok (.aload_n 0, 1) := by decide +kernel
theorem dX2_init_180 : decode cX2_init 180 = .ok (.getfield 58, 3) := by decide +kernel
theorem dX2_init_183 : decode cX2_init 183 = .ok (.putfield 69, 3) := by decide +kernel
theorem dX2_init_186 : decode cX2_init 186 = .ok (.aload_n 0, 1) := by decide +kernel
theorem dX2_init_187 : decode cX2_init 187 = .ok (.iconst 2, 1) := by decide +kernel
theorem dX2_init_188 : decode cX2_init 188 = .ok (.putfield 72, 3) := by decide +kernel
theorem dX2_init_191 : decode cX2_init 191 = .ok (.return_, 1) := by decide +kernel
set_option maxRecDepth 20000 in
theorem ggX2_isGood_X2_layerOf : GoodIn wsX2_isGood wsX2_layerOf := goodIn_r _ [4] (by decide +kernel) (by decide +kernel)
set_option maxRecDepth 20000 in
theorem gX2_isGood_X2_layerOf : GoodIn wsX2_isGood (va_wsS RX2 15 yX2_layerOf wsX2_layerOf) := goodIn_app (goodIn_of _ (by decide +kernel)) ggX2_isGood_X2_layerOf
set_option maxRecDepth 20000 in
theorem ggX2_isGood_X2_samplingOf : GoodIn wsX2_isGood wsX2_samplingOf := goodIn_r _ [7, 8] (by decide +kernel) (by decide +kernel)
set_option maxRecDepth 20000 in
theorem gX2_isGood_X2_samplingOf : GoodIn wsX2_isGood (va_wsS RX2 32 yX2_samplingOf wsX2_samplingOf) := goodIn_app (goodIn_of _ (by decide +kernel)) ggX2_isGood_X2_samplingOf
set_option maxRecDepth 20000 in
theorem ggX2_isGood_X2_rateOf : GoodIn wsX2_isGood wsX2_rateOf := goodIn_r _ [11, 12, 1, 2, 3, 4] (by decide +kernel) (by decide +kernel)
set_option maxRecDepth 20000 in
theorem gX2_isGood_X2_rateOf : GoodIn wsX2_isGood (va_wsS RX2 26 yX2_rateOf wsX2_rateOf) := goodIn_app (goodIn_of _ (by decide +kernel)) ggX2_isGood_X2_rateOf
set_option maxRecDepth 20000 in
theorem ggX2_isGood_X2_modeOf : GoodIn wsX2_isGood wsX2_modeOf := goodIn_r _ [15] (by decide +kernel) (by decide +kernel)
set_option maxRecDepth 20000 in
theorem gX2_isGood_X2_modeOf : GoodIn wsX2_isGood (va_wsS RX2 45 yX2_modeOf wsX2_modeOf) := goodIn_app (goodIn_of _ (by decide +kernel)) ggX2_isGood_X2_modeOf
set_option maxRecDepth 20000 in
theorem ggX2_isGood_X2_suitsMode : GoodIn wsX2_isGood wsX2_suitsMode := goodIn_r _ [18] (by decide +kernel) (by decide +kernel)
set_option maxRecDepth 20000 in
theorem gX2_isGood_X2_suitsMode : GoodIn wsX2_isGood (va_wsS RX2 75 yX2_suitsMode wsX2_suitsMode) := goodIn_app (goodIn_of _ (by decide +kernel)) ggX2_isGood_X2_suitsMode
theorem dX2_isGood_0 : decode cX2_isGood 0 = .ok (.iload_n 0, 1) := by decide +kernel
theorem dX2_isGood_1 : decode cX2_isGood 1 = .ok (.bipush 20, 2) := by decide +kernel
theorem dX2_isGood_3 : decode cX2_isGood 3 = .ok (.iushr, 1) := by decide +kernel
theorem dX2_isGood_4 : decode cX2_isGood 4 = .ok (.sipush 4095, 3) := by decide +kernel
theorem dX2_isGood_7 : decode cX2_isGood 7 = .ok (.if_icmp .ne 17, 3) := by decide +kernel
theorem dX2_isGood_10 : decode cX2_isGood 10 = .ok (.iload_n 0, 1) := by decide +kernel
theorem dX2_isGood_11 : decode cX2_isGood 11 = .ok (.bipush 19, 2) := by decide +kernel
theorem dX2_isGood_13 : decode cX2_isGood 13 = .ok (.iushr, 1) := by decide +kernel
theorem dX2_isGood_14 : decode cX2_isGood 14 = .ok (.iconst 1, 1) := by decide +kernel
theorem dX2_isGood_15 : decode cX2_isGood 15 = .ok (.iand, 1) := by decide +kernel
theorem dX2_isGood_16 : decode cX2_isGood 16 = .ok (.iconst 1, 1) := by decide +kernel
theorem dX2_isGood_17 : decode cX2_isGood 17 = .ok (.if_icmp .ne 7, 3) := by decide +kernel
theorem dX2_isGood_20 : decode cX2_isGood 20 = .ok (.iconst 1, 1) := by decide +kernel
theorem dX2_isGood_21 : decode cX2_isGood 21 = .ok (.goto 4, 3) := by decide +kernel
theorem dX2_isGood_24 : decode cX2_isGood 24 = .ok (.iconst 0, 1) := by decide +kernel
theorem dX2_isGood_25 : decode cX2_isGood 25 = .ok (.istore_n 1, 1) := by decide +kernel
theorem dX2_isGood_26 : decode cX2_isGood 26 = .ok (.iload_n 1, 1) := by decide +kernel
theorem dX2_isGood_27 : decode cX2_isGood 27 = .ok (.ifCond .eq 24, 3) := by decide +kernel
theorem dX2_isGood_30 : decode cX2_isGood 30 = .ok (.iload_n 0, 1) := by decide +kernel
theorem dX2_isGood_31 : decode cX2_isGood 31 = .ok (.invokestatic 15, 3) := by decide +kernel
theorem dX2_isGood_34 : decode cX2_isGood 34 = .ok (.ifCond .eq 17, 3) := by decide +kernel
theorem dX2_isGood_37 : decode cX2_isGood 37 = .ok (.iload_n 0, 1) := by decide +kernel
theorem dX2_isGood_38 : decode cX2_isGood 38 = .ok (.invokestatic 32, 3) := by decide +kernel
theorem dX2_isGood_41 : decode cX2_isGood 41 = .ok (.ifCond .eq 10, 3) := by decide +kernel
theorem dX2_isGood_44 : decode cX2_isGood 44 = .ok (.iload_n 0, 1) := by decide +kernel
theorem dX2_isGood_45 : decode cX2_isGood 45 = .ok (.iconst 3, 1) := by decide +kernel
theorem dX2_isGood_46 : decode cX2_isGood 46 = .ok (.iand, 1) := by decide +kernel
theorem dX2_isGood_47 : decode cX2_isGood 47 = .ok (.iconst 2, 1) := by decide +kernel
theorem dX2_isGood_48 : decode cX2_isGood 48 = .ok (.if_icmp .ne 5, 3) := by decide +kernel
theorem dX2_isGood_51 : decode cX2_isGood 51 = .ok (.iconst 0, 1) := by decide +kernel
theorem dX2_isGood_52 : decode cX2_isGood 52 = .ok (.ireturn, 1) := by decide +kernel
theorem dX2_isGood_53 : decode cX2_isGood 53 = .ok (.iload_n 0, 1) := by decide +kernel
theorem dX2_isGood_54 : decode cX2_isGood 54 = .ok (.invokestatic 26, 3) := by decide +kernel
theorem dX2_isGood_57 : decode cX2_isGood 57 = .ok (.istore_n 2, 1) := by decide +kernel
theorem dX2_isGood_58 : decode cX2_isGood 58 = .ok (.iload_n 2, 1) := by decide +kernel
theorem dX2_isGood_59 : decode cX2_isGood 59 = .ok (.ifCond .eq 26, 3) := by decide +kernel
theorem dX2_isGood_62 : decode cX2_isGood 62 = .ok (.iload_n 0, 1) := by decide +kernel
theorem dX2_isGood_63 : decode cX2_isGood 63 = .ok (.invokestatic 15, 3) := by decide +kernel
theorem dX2_isGood_66 : decode cX2_isGood 66 = .ok (.iconst 1, 1) := by decide +kernel
theorem dX2_isGood_67 : decode cX2_isGood 67 = .ok (.if_icmp .eq 14, 3) := by decide +kernel
theorem dX2_isGood_70 : decode cX2_isGood 70 = .ok (.iload_n 2, 1) := by decide +kernel
theorem dX2_isGood_71 : decode cX2_isGood 71 = .ok (.iload_n 0, 1) := by decide +kernel
theorem dX2_isGood_72 : decode cX2_isGood 72 = .ok (.invokestatic 45, 3) := by decide +kernel
theorem dX2_isGood_75 : decode cX2_isGood 75 = .ok (.invokestatic 75, 3) := by decide +kernel
theorem dX2_isGood_78 : decode cX2_isGood 78 = .ok (.ifCond .eq 7, 3) := by decide +kernel
theorem dX2_isGood_81 : decode cX2_isGood 81 = .ok (.iconst 1, 1) := by decide +kernel
theorem dX2_isGood_82 : decode cX2_isGood 82 = .ok (.goto 4, 3) := by decide +kernel
theorem dX2_isGood_85 : decode cX2_isGood 85 = .ok (.iconst 0, 1) := by decide +kernel
theorem dX2_isGood_86 : decode cX2_isGood 86 = .ok (.ireturn, 1) := by decide +kernel
set_option maxRecDepth 20000 in
theorem ggX2_tell_X2_samplesAtOnce : GoodIn wsX2_tell wsX2_samplesAtOnce := goodIn_r _ [14, 4, 15, 16, 17, 18, 19, 20, 21, 22, 23, 24, 25, 26] (by decide +kernel) (by decide +kernel)
set_option maxRecDepth 20000 in
theorem gX2_tell_X2_samplesAtOnce : GoodIn wsX2_tell (wsV RX2 79 RX2 yX2_samplesAtOnce wsX2_samplesAtOnce) := goodIn_app (goodIn_of _ (by decide +kernel)) ggX2_tell_X2_samplesAtOnce
theorem dX2_tell_0 : decode cX2_tell 0 = .ok (.iload_n 1, 1) := by decide +kernel
theorem dX2_tell_1 : decode cX2_tell 1 = .ok (.tableswitch 122 0 9 #[55, 60, 65, 70, 75, 80, 85, 90, 95, 100], 55) := by decide +kernel
theorem dX2_tell_56 : decode cX2_tell 56 = .ok (.aload_n 0, 1) := by decide +kernel
theorem dX2_tell_57 : decode cX2_tell 57 = .ok (.getfield 72, 3) := by decide +kernel
theorem dX2_tell_60 : decode cX2_tell 60 = .ok (.ireturn, 1) := by decide +kernel
theorem dX2_tell_61 : decode cX2_tell 61 = .ok (.aload_n 0, 1) := by decide +kernel
theorem dX2_tell_62 : decode cX2_tell 62 = .ok (.getfield 9, 3) := by decide +kernel
theorem dX2_tell_65 : decode cX2_tell 65 = .ok (.ireturn, 1) := by decide +kernel
theorem dX2_tell_66 : decode cX2_tell 66 = .ok (.aload_n 0, 1) := by decide +kernel
theorem dX2_tell_67 : decode cX2_tell 67 = .ok (.getfield 42, 3) := by decide +kernel
theorem dX2_tell_70 : decode cX2_tell 70 = .ok (.ireturn, 1) := by decide +kernel
theorem dX2_tell_71 : decode cX2_tell 71 = .ok (.aload_n 0, 1) := by decide +kernel
theorem dX2_tell_72 : decode cX2_tell 72 = .ok (.getfield 19, 3) := by decide +kernel
theorem dX2_tell_75 : decode cX2_tell 75 = .ok (.ireturn, 1) := by decide +kernel
theorem dX2_tell_76 : decode cX2_tell 76 = .ok (.aload_n 0, 1) := by decide +kernel
theorem dX2_tell_77 : decode cX2_tell 77 = .ok (.getfield 29, 3) := by decide +kernel
theorem dX2_tell_80 : decode cX2_tell 80 = .ok (.ireturn, 1) := by decide +kernel
theorem dX2_tell_81 : decode cX2_tell 81 = .ok (.aload_n 0, 1) := by decide +kernel
theorem dX2_tell_82 : decode cX2_tell 82 = .ok (.getfield 35, 3) := by decide +kernel
theorem dX2_tell_85 : decode cX2_tell 85 = .ok (.ireturn, 1) := by decide +kernel
theorem dX2_tell_86 : decode cX2_tell 86 = .ok (.aload_n 0, 1) := by decide +kernel
theorem dX2_tell_87 : decode cX2_tell 87 = .ok (.getfield 48, 3) := by decide +kernel
theorem dX2_tell_90 : decode cX2_tell 90 = .ok (.ireturn, 1) := by decide +kernel
theorem dX2_tell_91 : decode cX2_tell 91 = .ok (.aload_n 0, 1) := by decide +kernel
theorem dX2_tell_92 : decode cX2_tell 92 = .ok (.getfield 51, 3) := by decide +kernel
theorem dX2_tell_95 : decode cX2_tell 95 = .ok (.ireturn, 1) := by decide +kernel
theorem dX2_tell_96 : decode cX2_tell 96 = .ok (.aload_n 0, 1) := by decide +kernel
theorem dX2_tell_97 : decode cX2_tell 97 = .ok (.getfield 69, 3) := by decide +kernel
theorem dX2_tell_100 : decode cX2_tell 100 = .ok (.ireturn, 1) := by decide +kernel
theorem dX2_tell_101 : decode cX2_tell 101 = .ok (.aload_n 0, 1) := by decide +kernel
theorem dX2_tell_102 : decode cX2_tell 102 = .ok (.getfield 72, 3) := by decide +kernel
theorem dX2_tell_105 : decode cX2_tell 105 = .ok (.ifCond .ne 16, 3) := by decide +kernel
theorem dX2_tell_108 : decode cX2_tell 108 = .ok (.bipush 12, 2) := by decide +kernel
theorem dX2_tell_110 : decode cX2_tell 110 = .ok (.aload_n 0, 1) := by decide +kernel
theorem dX2_tell_111 : decode cX2_tell 111 = .ok (.invokevirtual 79, 3) := by decide +kernel
theorem dX2_tell_114 : decode cX2_tell 114 = .ok (.imul, 1) := by decide +kernel
theorem dX2_tell_115 : decode cX2_tell 115 = .ok (.bipush 32, 2) := by decide +kernel
theorem dX2_tell_117 : decode cX2_tell 117 = .ok (.imul, 1) := by decide +kernel
theorem dX2_tell_118 : decode cX2_tell 118 = .ok (.goto 4, 3) := by decide +kernel
theorem dX2_tell_121 : decode cX2_tell 121 = .ok (.iconst 0, 1) := by decide +kernel
theorem dX2_tell_122 : decode cX2_tell 122 = .ok (.ireturn, 1) := by decide +kernel
theorem dX2_tell_123 : decode cX2_tell 123 = .ok (.iconst (-1), 1) := by decide +kernel
theorem dX2_tell_124 : decode cX2_tell 124 = .ok (.ireturn, 1) := by decide +kernel
theorem dX2_samplesAtOnce_0 : decode cX2_samplesAtOnce 0 = .ok (.aload_n 0, 1) := by decide +kernel
theorem dX2_samplesAtOnce_1 : decode cX2_samplesAtOnce 1 = .ok (.getfield 19, 3) := by decide +kernel
theorem dX2_samplesAtOnce_4 : decode cX2_samplesAtOnce 4 = .ok (.iconst 1, 1) := by decide +kernel
theorem dX2_samplesAtOnce_5 : decode cX2_samplesAtOnce 5 = .ok (.if_icmp .ne 7, 3) := by decide +kernel
theorem dX2_samplesAtOnce_8 : decode cX2_samplesAtOnce 8 = .ok (.iconst 1, 1) := by decide +kernel
theorem dX2_samplesAtOnce_9 : decode cX2_samplesAtOnce 9 = .ok (.goto 4, 3) := by decide +kernel
theorem dX2_samplesAtOnce_12 : decode cX2_samplesAtOnce 12 = .ok (.iconst 3, 1) := by decide +kernel
theorem dX2_samplesAtOnce_13 : decode cX2_samplesAtOnce 13 = .ok (.ireturn, 1) := by decide +kernel
theorem dX2_channelsTold_0 : decode cX2_channelsTold 0 = .ok (.iload_n 1, 1) := by decide +kernel
theorem dX2_channelsTold_1 : decode cX2_channelsTold 1 = .ok (.aload_n 0, 1) := by decide +kernel
theorem dX2_channelsTold_2 : decode cX2_channelsTold 2 = .ok (.getfield 69, 3) := by decide +kernel
theorem dX2_channelsTold_5 : decode cX2_channelsTold 5 = .ok (.if_icmp .ge 10, 3) := by decide +kernel
theorem dX2_channelsTold_8 : decode cX2_channelsTold 8 = .ok (.aload_n 0, 1) := by decide +kernel
theorem dX2_channelsTold_9 : decode cX2_channelsTold 9 = .ok (.getfield 51, 3) := by decide +kernel
theorem dX2_channelsTold_12 : decode cX2_channelsTold 12 = .ok (.goto 4, 3) := by decide +kernel
theorem dX2_channelsTold_15 : decode cX2_channelsTold 15 = .ok (.iconst 1, 1) := by decide +kernel
theorem dX2_channelsTold_16 : decode cX2_channelsTold 16 = .ok (.ireturn, 1) := by decide +kernel
set_option maxRecDepth 20000 in
theorem ggX2_allocationBits_X2_stepNumbers : GoodIn wsX2_allocationBits wsX2_stepNumbers := goodIn_r _ [6, 7, 8, 9, 10, 11, 12, 13, 21, 22, 23, 24, 25, 26, 27, 28, 29, 30, 31, 32] (by decide +kernel) (by decide +kernel)
set_option maxRecDepth 20000 in
theorem gX2_allocationBits_X2_stepNumbers : GoodIn wsX2_allocationBits (wsV RX2 83 RX2 yX2_stepNumbers wsX2_stepNumbers) := goodIn_app (goodIn_of _ (by decide +kernel)) ggX2_allocationBits_X2_stepNumbers
set_option maxRecDepth 20000 in
theorem ggX2_allocationBits_J6_bitCount_0f7a4 : GoodIn wsX2_allocationBits wsJ6_bitCount_0f7a4 := goodIn_r _ [17, 18, 19, 20] (by decide +kernel) (by decide +kernel)
set_option maxRecDepth 20000 in
theorem gX2_allocationBits_J6_bitCount_0f7a4 : GoodIn wsX2_allocationBits (va_wsS RX2 87 yJ6_bitCount_0f7a4 wsJ6_bitCount_0f7a4) := goodIn_app (goodIn_of _ (by decide +kernel)) ggX2_allocationBits_J6_bitCount_0f7a4
theorem dX2_allocationBits_0 : decode cX2_allocationBits 0 = .ok (.aload_n 0, 1) := by decide +kernel
theorem dX2_allocationBits_1 : decode cX2_allocationBits 1 = .ok (.getfield 19, 3) := by decide +kernel
theorem dX2_allocationBits_4 : decode cX2_allocationBits 4 = .ok (.iconst 1, 1) := by decide +kernel
theorem dX2_allocationBits_5 : decode cX2_allocationBits 5 = .ok (.if_icmp .ne 7, 3) := by decide +kernel
theorem dX2_allocationBits_8 : decode cX2_allocationBits 8 = .ok (.iconst 4, 1) := by decide +kernel
theorem dX2_allocationBits_9 : decode cX2_allocationBits 9 = .ok (.goto 12, 3) := by decide +kernel
theorem dX2_allocationBits_12 : decode cX2_allocationBits 12 = .ok (.aload_n 0, 1) := by decide +kernel
theorem dX2_allocationBits_13 : decode cX2_allocationBits 13 = .ok (.iload_n 1, 1) := by decide +kernel
theorem dX2_allocationBits_14 : decode cX2_allocationBits 14 = .ok (.invokevirtual 83, 3) := by decide +kernel
theorem dX2_allocationBits_17 : decode cX2_allocationBits 17 = .ok (.arraylength, 1) := by decide +kernel
theorem dX2_allocationBits_18 : decode cX2_allocationBits 18 = .ok (.invokestatic 87, 3) := by decide +kernel
theorem dX2_allocationBits_21 : decode cX2_allocationBits 21 = .ok (.ireturn, 1) := by decide +kernel
set_option maxRecDepth 20000 in
theorem ggX2_stepsOf_X2_stepNumbers : GoodIn wsX2_stepsOf wsX2_stepNumbers := goodIn_r _ [6, 7, 8, 9, 10, 11, 12, 13, 14, 15, 16, 17, 18, 19, 20, 21, 22, 23, 24, 25] (by decide +kernel) (by decide +kernel)
set_option maxRecDepth 20000 in
theorem gX2_stepsOf_X2_stepNumbers : GoodIn wsX2_stepsOf (wsV RX2 83 RX2 yX2_stepNumbers wsX2_stepNumbers) := goodIn_app (goodIn_of _ (by decide +kernel)) ggX2_stepsOf_X2_stepNumbers
theorem dX2_stepsOf_0 : decode cX2_stepsOf 0 = .ok (.iload_n 2, 1) := by decide +kernel
theorem dX2_stepsOf_1 : decode cX2_stepsOf 1 = .ok (.ifCond .ne 5, 3) := by decide +kernel
theorem dX2_stepsOf_4 : decode cX2_stepsOf 4 = .ok (.iconst 0, 1) := by decide +kernel
theorem dX2_stepsOf_5 : decode cX2_stepsOf 5 = .ok (.ireturn, 1) := by decide +kernel
theorem dX2_stepsOf_6 : decode cX2_stepsOf 6 = .ok (.aload_n 0, 1) := by decide +kernel
theorem dX2_stepsOf_7 : decode cX2_stepsOf 7 = .ok (.getfield 19, 3) := by decide +kernel
theorem dX2_stepsOf_10 : decode cX2_stepsOf 10 = .ok (.iconst 1, 1) := by decide +kernel
theorem dX2_stepsOf_11 : decode cX2_stepsOf 11 = .ok (.if_icmp .ne 25, 3) := by decide +kernel
theorem dX2_stepsOf_14 : decode cX2_stepsOf 14 = .ok (.iload_n 2, 1) := by decide +kernel
theorem dX2_stepsOf_15 : decode cX2_stepsOf 15 = .ok (.ifCond .le 19, 3) := by decide +kernel
theorem dX2_stepsOf_18 : decode cX2_stepsOf 18 = .ok (.iload_n 2, 1) := by decide +kernel
theorem dX2_stepsOf_19 : decode cX2_stepsOf 19 = .ok (.bipush 15, 2) := by decide +kernel
theorem dX2_stepsOf_21 : decode cX2_stepsOf 21 = .ok (.if_icmp .ge 13, 3) := by decide +kernel
theorem dX2_stepsOf_24 : decode cX2_stepsOf 24 = .ok (.iconst 1, 1) := by decide +kernel
theorem dX2_stepsOf_25 : decode cX2_stepsOf 25 = .ok (.iload_n 2, 1) := by decide +kernel
theorem dX2_stepsOf_26 : decode cX2_stepsOf 26 = .ok (.iconst 1, 1) := by decide +kernel
theorem dX2_stepsOf_27 : decode cX2_stepsOf 27 = .ok (.iadd, 1) := by decide +kernel
theorem dX2_stepsOf_28 : decode cX2_stepsOf 28 = .ok (.ishl, 1) := by decide +kernel
theorem dX2_stepsOf_29 : decode cX2_stepsOf 29 = .ok (.iconst 1, 1) := by decide +kernel
theorem dX2_stepsOf_30 : decode cX2_stepsOf 30 = .ok (.isub, 1) := by decide +kernel
theorem dX2_stepsOf_31 : decode cX2_stepsOf 31 = .ok (.goto 4, 3) := by decide +kernel
theorem dX2_stepsOf_34 : decode cX2_stepsOf 34 = .ok (.iconst (-1), 1) := by decide +kernel
theorem dX2_stepsOf_35 : decode cX2_stepsOf 35 = .ok (.ireturn, 1) := by decide +kernel
theorem dX2_stepsOf_36 : decode cX2_stepsOf 36 = .ok (.aload_n 0, 1) := by decide +kernel
theorem dX2_stepsOf_37 : decode cX2_stepsOf 37 = .ok (.iload_n 1, 1) := by decide +kernel
theorem dX2_stepsOf_38 : decode cX2_stepsOf 38 = .ok (.invokevirtual 83, 3) := by decide +kernel
theorem dX2_stepsOf_41 : decode cX2_stepsOf 41 = .ok (.astore_n 3, 1) := by decide +kernel
theorem dX2_stepsOf_42 : decode cX2_stepsOf 42 = .ok (.iload_n 2, 1) := by decide +kernel
theorem dX2_stepsOf_43 : decode cX2_stepsOf 43 = .ok (.ifCond .lt 9, 3) := by decide +kernel
theorem dX2_stepsOf_46 : decode cX2_stepsOf 46 = .ok (.iload_n 2, 1) := by decide +kernel
theorem dX2_stepsOf_47 : decode cX2_stepsOf 47 = .ok (.aload_n 3, 1) := by decide +kernel
theorem dX2_stepsOf_48 : decode cX2_stepsOf 48 = .ok (.arraylength, 1) := by decide +kernel
theorem dX2_stepsOf_49 : decode cX2_stepsOf 49 = .ok (.if_icmp .le 5, 3) := by decide +kernel
theorem dX2_stepsOf_52 : decode cX2_stepsOf 52 = .ok (.iconst (-1), 1) := by decide +kernel
theorem dX2_stepsOf_53 : decode cX2_stepsOf 53 = .ok (.ireturn, 1) := by decide +kernel
theorem dX2_stepsOf_54 : decode cX2_stepsOf 54 = .ok (.aload_n 3, 1) := by decide +kernel
theorem dX2_stepsOf_55 : decode cX2_stepsOf 55 = .ok (.iload_n 2, 1) := by decide +kernel
theorem dX2_stepsOf_56 : decode cX2_stepsOf 56 = .ok (.iconst 1, 1) := by decide +kernel
theorem dX2_stepsOf_57 : decode cX2_stepsOf 57 = .ok (.isub, 1) := by decide +kernel
theorem dX2_stepsOf_58 : decode cX2_stepsOf 58 = .ok (.iaload, 1) := by decide +kernel
theorem dX2_stepsOf_59 : decode cX2_stepsOf 59 = .ok (.istore 4, 2) := by decide +kernel
theorem dX2_stepsOf_61 : decode cX2_stepsOf 61 = .ok (.iload 4, 2) := by decide +kernel
theorem dX2_stepsOf_63 : decode cX2_stepsOf 63 = .ok (.iconst 4, 1) := by decide +kernel
theorem dX2_stepsOf_64 : decode cX2_stepsOf 64 = .ok (.if_icmp .ge 12, 3) := by decide +kernel
theorem dX2_stepsOf_67 : decode cX2_stepsOf 67 = .ok (.iconst 2, 1) := by decide +kernel
theorem dX2_stepsOf_68 : decode cX2_stepsOf 68 = .ok (.iload 4, 2) := by decide +kernel
theorem dX2_stepsOf_70 : decode cX2_stepsOf 70 = .ok (.imul, 1) := by decide +kernel
theorem dX2_stepsOf_71 : decode cX2_stepsOf 71 = .ok (.iconst 3, 1) := by decide +kernel
theorem dX2_stepsOf_72 : decode cX2_stepsOf 72 = .ok (.iadd, 1) := by decide +kernel
theorem dX2_stepsOf_73 : decode cX2_stepsOf 73 = .ok (.goto 9, 3) := by decide +kernel
theorem dX2_stepsOf_76 : decode cX2_stepsOf 76 = .ok (.iconst 1, 1) := by decide +kernel
theorem dX2_stepsOf_77 : decode cX2_stepsOf 77 = .ok (.iload 4, 2) := by decide +kernel
theorem dX2_stepsOf_79 : decode cX2_stepsOf 79 = .ok (.ishl, 1) := by decide +kernel
theorem dX2_stepsOf_80 : decode cX2_stepsOf 80 = .ok (.iconst 1, 1) := by decide +kernel
theorem dX2_stepsOf_81 : decode cX2_stepsOf 81 = .ok (.isub, 1) := by decide +kernel
theorem dX2_stepsOf_82 : decode cX2_stepsOf 82 = .ok (.ireturn, 1) := by decide +kernel
theorem dX2_stepNumbers_0 : decode cX2_stepNumbers 0 = .ok (.aload_n 0, 1) := by decide +kernel
theorem dX2_stepNumbers_1 : decode cX2_stepNumbers 1 = .ok (.getfield 61, 3) := by decide +kernel
theorem dX2_stepNumbers_4 : decode cX2_stepNumbers 4 = .ok (.ifCond .ne 18, 3) := by decide +kernel
theorem dX2_stepNumbers_7 : decode cX2_stepNumbers 7 = .ok (.iload_n 1, 1) := by decide +kernel
theorem dX2_stepNumbers_8 : decode cX2_stepNumbers 8 = .ok (.iconst 2, 1) := by decide +kernel
theorem dX2_stepNumbers_9 : decode cX2_stepNumbers 9 = .ok (.if_icmp .ge 9, 3) := by decide +kernel
theorem dX2_stepNumbers_12 : decode cX2_stepNumbers 12 = .ok (.getstatic 92, 3) := by decide +kernel
theorem dX2_stepNumbers_15 : decode cX2_stepNumbers 15 = .ok (.goto 6, 3) := by decide +kernel
theorem dX2_stepNumbers_18 : decode cX2_stepNumbers 18 = .ok (.getstatic 96, 3) := by decide +kernel
theorem dX2_stepNumbers_21 : decode cX2_stepNumbers 21 = .ok (.areturn, 1) := by decide +kernel
theorem dX2_stepNumbers_22 : decode cX2_stepNumbers 22 = .ok (.iload_n 1, 1) := by decide +kernel
theorem dX2_stepNumbers_23 : decode cX2_stepNumbers 23 = .ok (.bipush 11, 2) := by decide +kernel
theorem dX2_stepNumbers_25 : decode cX2_stepNumbers 25 = .ok (.if_icmp .ge 18, 3) := by decide +kernel
theorem dX2_stepNumbers_28 : decode cX2_stepNumbers 28 = .ok (.iload_n 1, 1) := by decide +kernel
theorem dX2_stepNumbers_29 : decode cX2_stepNumbers 29 = .ok (.iconst 3, 1) := by decide +kernel
theorem dX2_stepNumbers_30 : decode cX2_stepNumbers 30 = .ok (.if_icmp .ge 9, 3) := by decide +kernel
theorem dX2_stepNumbers_33 : decode cX2_stepNumbers 33 = .ok (.getstatic 99, 3) := by decide +kernel
theorem dX2_stepNumbers_36 : decode cX2_stepNumbers 36 = .ok (.goto 6, 3) := by decide +kernel
theorem dX2_stepNumbers_39 : decode cX2_stepNumbers 39 = .ok (.getstatic 102, 3) := by decide +kernel
theorem dX2_stepNumbers_42 : decode cX2_stepNumbers 42 = .ok (.areturn, 1) := by decide +kernel
theorem dX2_stepNumbers_43 : decode cX2_stepNumbers 43 = .ok (.iload_n 1, 1) := by decide +kernel
theorem dX2_stepNumbers_44 : decode cX2_stepNumbers 44 = .ok (.bipush 23, 2) := by decide +kernel
theorem dX2_stepNumbers_46 : decode cX2_stepNumbers 46 = .ok (.if_icmp .ge 9, 3) := by decide +kernel
theorem dX2_stepNumbers_49 : decode cX2_stepNumbers 49 = .ok (.getstatic 105, 3) := by decide +kernel
theorem dX2_stepNumbers_52 : decode cX2_stepNumbers 52 = .ok (.goto 6, 3) := by decide +kernel
theorem dX2_stepNumbers_55 : decode cX2_stepNumbers 55 = .ok (.getstatic 108, 3) := by decide +kernel
theorem dX2_stepNumbers_58 : decode cX2_stepNumbers 58 = .ok (.areturn, 1) := by decide +kernel
theorem dX2_layerOf_0 : decode cX2_layerOf 0 = .ok (.iload_n 0, 1) := by decide +kernel
theorem dX2_layerOf_1 : decode cX2_layerOf 1 = .ok (.bipush 17, 2) := by decide +kernel
theorem dX2_layerOf_3 : decode cX2_layerOf 3 = .ok (.iushr, 1) := by decide +kernel
theorem dX2_layerOf_4 : decode cX2_layerOf 4 = .ok (.iconst 3, 1) := by decide +kernel
theorem dX2_layerOf_5 : decode cX2_layerOf 5 = .ok (.iand, 1) := by decide +kernel
theorem dX2_layerOf_6 : decode cX2_layerOf 6 = .ok (.istore_n 1, 1) := by decide +kernel
theorem dX2_layerOf_7 : decode cX2_layerOf 7 = .ok (.iload_n 1, 1) := by decide +kernel
theorem dX2_layerOf_8 : decode cX2_layerOf 8 = .ok (.iconst 2, 1) := by decide +kernel
theorem dX2_layerOf_9 : decode cX2_layerOf 9 = .ok (.if_icmp .lt 9, 3) := by decide +kernel
theorem dX2_layerOf_12 : decode cX2_layerOf 12 = .ok (.iconst 4, 1) := by decide +kernel
theorem dX2_layerOf_13 : decode cX2_layerOf 13 = .ok (.iload_n 1, 1) := by decide +kernel
theorem dX2_layerOf_14 : decode cX2_layerOf 14 = .ok (.isub, 1) := by decide +kernel
theorem dX2_layerOf_15 : decode cX2_layerOf 15 = .ok (.goto 4, 3) := by decide +kernel
theorem dX2_layerOf_18 : decode cX2_layerOf 18 = .ok (.iconst 0, 1) := by decide +kernel
theorem dX2_layerOf_19 : decode cX2_layerOf 19 = .ok (.ireturn, 1) := by decide +kernel
theorem dX2_modeOf_0 : decode cX2_modeOf 0 = .ok (.iload_n 0, 1) := by decide +kernel
theorem dX2_modeOf_1 : decode cX2_modeOf 1 = .ok (.bipush 6, 2) := by decide +kernel
theorem dX2_modeOf_3 : decode cX2_modeOf 3 = .ok (.iushr, 1) := by decide +kernel
theorem dX2_modeOf_4 : decode cX2_modeOf 4 = .ok (.iconst 3, 1) := by decide +kernel
theorem dX2_modeOf_5 : decode cX2_modeOf 5 = .ok (.iand, 1) := by decide +kernel
theorem dX2_modeOf_6 : decode cX2_modeOf 6 = .ok (.ireturn, 1) := by decide +kernel
theorem dX2_samplingOf_0 : decode cX2_samplingOf 0 = .ok (.iload_n 0, 1) := by decide +kernel
theorem dX2_samplingOf_1 : decode cX2_samplingOf 1 = .ok (.bipush 10, 2) := by decide +kernel
theorem dX2_samplingOf_3 : decode cX2_samplingOf 3 = .ok (.iushr, 1) := by decide +kernel
theorem dX2_samplingOf_4 : decode cX2_samplingOf 4 = .ok (.iconst 3, 1) := by decide +kernel
theorem dX2_samplingOf_5 : decode cX2_samplingOf 5 = .ok (.iand, 1) := by decide +kernel
theorem dX2_samplingOf_6 : decode cX2_samplingOf 6 = .ok (.istore_n 1, 1) := by decide +kernel
theorem dX2_samplingOf_7 : decode cX2_samplingOf 7 = .ok (.iload_n 1, 1) := by decide +kernel
theorem dX2_samplingOf_8 : decode cX2_samplingOf 8 = .ok (.getstatic 111, 3) := by decide +kernel
theorem dX2_samplingOf_11 : decode cX2_samplingOf 11 = .ok (.arraylength, 1) := by decide +kernel
theorem dX2_samplingOf_12 : decode cX2_samplingOf 12 = .ok (.if_icmp .ge 11, 3) := by decide +kernel
theorem dX2_samplingOf_15 : decode cX2_samplingOf 15 = .ok (.getstatic 111, 3) := by decide +kernel
theorem dX2_samplingOf_18 : decode cX2_samplingOf 18 = .ok (.iload_n 1, 1) := by decide +kernel
theorem dX2_samplingOf_19 : decode cX2_samplingOf 19 = .ok (.iaload, 1) := by decide +kernel
theorem dX2_samplingOf_20 : decode cX2_samplingOf 20 = .ok (.goto 4, 3) := by decide +kernel
theorem dX2_samplingOf_23 : decode cX2_samplingOf 23 = .ok (.iconst 0, 1) := by decide +kernel
theorem dX2_samplingOf_24 : decode cX2_samplingOf 24 = .ok (.ireturn, 1) := by decide +kernel
set_option maxRecDepth 20000 in
theorem ggX2_rateOf_X2_layerOf : GoodIn wsX2_rateOf wsX2_layerOf := goodIn_r _ [5] (by decide +kernel) (by decide +kernel)
set_option maxRecDepth 20000 in
theorem gX2_rateOf_X2_layerOf : GoodIn wsX2_rateOf (va_wsS RX2 15 yX2_layerOf wsX2_layerOf) := goodIn_app (goodIn_of _ (by decide +kernel)) ggX2_rateOf_X2_layerOf
theorem dX2_rateOf_0 : decode cX2_rateOf 0 = .ok (.iload_n 0, 1) := by decide +kernel
theorem dX2_rateOf_1 : decode cX2_rateOf 1 = .ok (.bipush 12, 2) := by decide +kernel
theorem dX2_rateOf_3 : decode cX2_rateOf 3 = .ok (.iushr, 1) := by decide +kernel
theorem dX2_rateOf_4 : decode cX2_rateOf 4 = .ok (.bipush 15, 2) := by decide +kernel
theorem dX2_rateOf_6 : decode cX2_rateOf 6 = .ok (.iand, 1) := by decide +kernel
theorem dX2_rateOf_7 : decode cX2_rateOf 7 = .ok (.istore_n 1, 1) := by decide +kernel
theorem dX2_rateOf_8 : decode cX2_rateOf 8 = .ok (.iload_n 1, 1) := by decide +kernel
theorem dX2_rateOf_9 : decode cX2_rateOf 9 = .ok (.getstatic 114, 3) := by decide +kernel
theorem dX2_rateOf_12 : decode cX2_rateOf 12 = .ok (.arraylength, 1) := by decide +kernel
theorem dX2_rateOf_13 : decode cX2_rateOf 13 = .ok (.if_icmp .lt 5, 3) := by decide +kernel
theorem dX2_rateOf_16 : decode cX2_rateOf 16 = .ok (.iconst 0, 1) := by decide +kernel
theorem dX2_rateOf_17 : decode cX2_rateOf 17 = .ok (.ireturn, 1) := by decide +kernel
theorem dX2_rateOf_18 : decode cX2_rateOf 18 = .ok (.iload_n 0, 1) := by decide +kernel
theorem dX2_rateOf_19 : decode cX2_rateOf 19 = .ok (.invokestatic 15, 3) := by decide +kernel
theorem dX2_rateOf_22 : decode cX2_rateOf 22 = .ok (.iconst 1, 1) := by decide +kernel
theorem dX2_rateOf_23 : decode cX2_rateOf 23 = .ok (.if_icmp .ne 10, 3) := by decide +kernel
theorem dX2_rateOf_26 : decode cX2_rateOf 26 = .ok (.bipush 32, 2) := by decide +kernel
theorem dX2_rateOf_28 : decode cX2_rateOf 28 = .ok (.iload_n 1, 1) := by decide +kernel
theorem dX2_rateOf_29 : decode cX2_rateOf 29 = .ok (.imul, 1) := by decide +kernel
theorem dX2_rateOf_30 : decode cX2_rateOf 30 = .ok (.goto 8, 3) := by decide +kernel
theorem dX2_rateOf_33 : decode cX2_rateOf 33 = .ok (.getstatic 114, 3) := by decide +kernel
theorem dX2_rateOf_36 : decode cX2_rateOf 36 = .ok (.iload_n 1, 1) := by decide +kernel
theorem dX2_rateOf_37 : decode cX2_rateOf 37 = .ok (.iaload, 1) := by decide +kernel
theorem dX2_rateOf_38 : decode cX2_rateOf 38 = .ok (.ireturn, 1) := by decide +kernel
theorem dX2_suitsMode_0 : decode cX2_suitsMode 0 = .ok (.iload_n 0, 1) := by decide +kernel
theorem dX2_suitsMode_1 : decode cX2_suitsMode 1 = .ok (.bipush 32, 2) := by decide +kernel
theorem dX2_suitsMode_3 : decode cX2_suitsMode 3 = .ok (.if_icmp .eq 21, 3) := by decide +kernel
theorem dX2_suitsMode_6 : decode cX2_suitsMode 6 = .ok (.iload_n 0, 1) := by decide +kernel
theorem dX2_suitsMode_7 : decode cX2_suitsMode 7 = .ok (.bipush 48, 2) := by decide +kernel
theorem dX2_suitsMode_9 : decode cX2_suitsMode 9 = .ok (.if_icmp .eq 15, 3) := by decide +kernel
theorem dX2_suitsMode_12 : decode cX2_suitsMode 12 = .ok (.iload_n 0, 1) := by decide +kernel
theorem dX2_suitsMode_13 : decode cX2_suitsMode 13 = .ok (.bipush 56, 2) := by decide +kernel
theorem dX2_suitsMode_15 : decode cX2_suitsMode 15 = .ok (.if_icmp .eq 9, 3) := by decide +kernel
theorem dX2_suitsMode_18 : decode cX2_suitsMode 18 = .ok (.iload_n 0, 1) := by decide +kernel
theorem dX2_suitsMode_19 : decode cX2_suitsMode 19 = .ok (.bipush 80, 2) := by decide +kernel
theorem dX2_suitsMode_21 : decode cX2_suitsMode 21 = .ok (.if_icmp .ne 14, 3) := by decide +kernel
theorem dX2_suitsMode_24 : decode cX2_suitsMode 24 = .ok (.iload_n 1, 1) := by decide +kernel
theorem dX2_suitsMode_25 : decode cX2_suitsMode 25 = .ok (.iconst 3, 1) := by decide +kernel
theorem dX2_suitsMode_26 : decode cX2_suitsMode 26 = .ok (.if_icmp .ne 7, 3) := by decide +kernel
theorem dX2_suitsMode_29 : decode cX2_suitsMode 29 = .ok (.iconst 1, 1) := by decide +kernel
theorem dX2_suitsMode_30 : decode cX2_suitsMode 30 = .ok (.goto 4, 3) := by decide +kernel
theorem dX2_suitsMode_33 : decode cX2_suitsMode 33 = .ok (.iconst 0, 1) := by decide +kernel
theorem dX2_suitsMode_34 : decode cX2_suitsMode 34 = .ok (.ireturn, 1) := by decide +kernel
theorem dX2_suitsMode_35 : decode cX2_suitsMode 35 = .ok (.iload_n 0, 1) := by decide +kernel
theorem dX2_suitsMode_36 : decode cX2_suitsMode 36 = .ok (.sipush 224, 3) := by decide +kernel
theorem dX2_suitsMode_39 : decode cX2_suitsMode 39 = .ok (.if_icmp .lt 8, 3) := by decide +kernel
theorem dX2_suitsMode_42 : decode cX2_suitsMode 42 = .ok (.iload_n 1, 1) := by decide +kernel
theorem dX2_suitsMode_43 : decode cX2_suitsMode 43 = .ok (.iconst 3, 1) := by decide +kernel
theorem dX2_suitsMode_44 : decode cX2_suitsMode 44 = .ok (.if_icmp .eq 7, 3) := by decide +kernel
theorem dX2_suitsMode_47 : decode cX2_suitsMode 47 = .ok (.iconst 1, 1) := by decide +kernel
theorem dX2_suitsMode_48 : decode cX2_suitsMode 48 = .ok (.goto 4, 3) := by decide +kernel
theorem dX2_suitsMode_51 : decode cX2_suitsMode 51 = .ok (.iconst 0, 1) := by decide +kernel
theorem dX2_suitsMode_52 : decode cX2_suitsMode 52 = .ok (.ireturn, 1) := by decide +kernel
theorem dX2_bytesOf_0 : decode cX2_bytesOf 0 = .ok (.iload_n 2, 1) := by decide +kernel
theorem dX2_bytesOf_1 : decode cX2_bytesOf 1 = .ok (.ifCond .gt 5, 3) := by decide +kernel
theorem dX2_bytesOf_4 : decode cX2_bytesOf 4 = .ok (.iconst 0, 1) := by decide +kernel
theorem dX2_bytesOf_5 : decode cX2_bytesOf 5 = .ok (.ireturn, 1) := by decide +kernel
theorem dX2_bytesOf_6 : decode cX2_bytesOf 6 = .ok (.iload_n 0, 1) := by decide +kernel
theorem dX2_bytesOf_7 : decode cX2_bytesOf 7 = .ok (.iconst 1, 1) := by decide +kernel
theorem dX2_bytesOf_8 : decode cX2_bytesOf 8 = .ok (.if_icmp .ne 15, 3) := by decide +kernel
theorem dX2_bytesOf_11 : decode cX2_bytesOf 11 = .ok (.iconst 4, 1) := by decide +kernel
theorem dX2_bytesOf_12 : decode cX2_bytesOf 12 = .ok (.sipush 12000, 3) := by decide +kernel
theorem dX2_bytesOf_15 : decode cX2_bytesOf 15 = .ok (.iload_n 1, 1) := by decide +kernel
theorem dX2_bytesOf_16 : decode cX2_bytesOf 16 = .ok (.imul, 1) := by decide +kernel
theorem dX2_bytesOf_17 : decode cX2_bytesOf 17 = .ok (.iload_n 2, 1) := by decide +kernel
theorem dX2_bytesOf_18 : decode cX2_bytesOf 18 = .ok (.idiv, 1) := by decide +kernel
theorem dX2_bytesOf_19 : decode cX2_bytesOf 19 = .ok (.iload_n 3, 1) := by decide +kernel
theorem dX2_bytesOf_20 : decode cX2_bytesOf 20 = .ok (.iadd, 1) := by decide +kernel
theorem dX2_bytesOf_21 : decode cX2_bytesOf 21 = .ok (.imul, 1) := by decide +kernel
theorem dX2_bytesOf_22 : decode cX2_bytesOf 22 = .ok (.ireturn, 1) := by decide +kernel
theorem dX2_bytesOf_23 : decode cX2_bytesOf 23 = .ok (.ldc 117, 2) := by decide +kernel
theorem dX2_bytesOf_25 : decode cX2_bytesOf 25 = .ok (.iload_n 1, 1) := by decide +kernel
theorem dX2_bytesOf_26 : decode cX2_bytesOf 26 = .ok (.imul, 1) := by decide +kernel
theorem dX2_bytesOf_27 : decode cX2_bytesOf 27 = .ok (.iload_n 2, 1) := by decide +kernel
theorem dX2_bytesOf_28 : decode cX2_bytesOf 28 = .ok (.idiv, 1) := by decide +kernel
theorem dX2_bytesOf_29 : decode cX2_bytesOf 29 = .ok (.iload_n 3, 1) := by decide +kernel
theorem dX2_bytesOf_30 : decode cX2_bytesOf 30 = .ok (.iadd, 1) := by decide +kernel
theorem dX2_bytesOf_31 : decode cX2_bytesOf 31 = .ok (.ireturn, 1) := by decide +kernel
theorem dX2_layerTwoBands_0 : decode cX2_layerTwoBands 0 = .ok (.iload_n 0, 1) := by decide +kernel
theorem dX2_layerTwoBands_1 : decode cX2_layerTwoBands 1 = .ok (.bipush 56, 2) := by decide +kernel
theorem dX2_layerTwoBands_3 : decode cX2_layerTwoBands 3 = .ok (.if_icmp .lt 23, 3) := by decide +kernel
theorem dX2_layerTwoBands_6 : decode cX2_layerTwoBands 6 = .ok (.iload_n 0, 1) := by decide +kernel
theorem dX2_layerTwoBands_7 : decode cX2_layerTwoBands 7 = .ok (.bipush 80, 2) := by decide +kernel
theorem dX2_layerTwoBands_9 : decode cX2_layerTwoBands 9 = .ok (.if_icmp .le 9, 3) := by decide +kernel
theorem dX2_layerTwoBands_12 : decode cX2_layerTwoBands 12 = .ok (.iload_n 1, 1) := by decide +kernel
theorem dX2_layerTwoBands_13 : decode cX2_layerTwoBands 13 = .ok (.ldc 118, 2) := by decide +kernel
theorem dX2_layerTwoBands_15 : decode cX2_layerTwoBands 15 = .ok (.if_icmp .ne 8, 3) := by decide +kernel
theorem dX2_layerTwoBands_18 : decode cX2_layerTwoBands 18 = .ok (.bipush 27, 2) := by decide +kernel
theorem dX2_layerTwoBands_20 : decode cX2_layerTwoBands 20 = .ok (.goto 5, 3) := by decide +kernel
theorem dX2_layerTwoBands_23 : decode cX2_layerTwoBands 23 = .ok (.bipush 30, 2) := by decide +kernel
theorem dX2_layerTwoBands_25 : decode cX2_layerTwoBands 25 = .ok (.ireturn, 1) := by decide +kernel
theorem dX2_layerTwoBands_26 : decode cX2_layerTwoBands 26 = .ok (.iload_n 1, 1) := by decide +kernel
theorem dX2_layerTwoBands_27 : decode cX2_layerTwoBands 27 = .ok (.sipush 32000, 3) := by decide +kernel
theorem dX2_layerTwoBands_30 : decode cX2_layerTwoBands 30 = .ok (.if_icmp .ne 8, 3) := by decide +kernel
theorem dX2_layerTwoBands_33 : decode cX2_layerTwoBands 33 = .ok (.bipush 12, 2) := by decide +kernel
theorem dX2_layerTwoBands_35 : decode cX2_layerTwoBands 35 = .ok (.goto 5, 3) := by decide +kernel
theorem dX2_layerTwoBands_38 : decode cX2_layerTwoBands 38 = .ok (.bipush 8, 2) := by decide +kernel
theorem dX2_layerTwoBands_40 : decode cX2_layerTwoBands 40 = .ok (.ireturn, 1) := by decide +kernel
set_option maxRecDepth 20000 in
theorem ggX5_init_X5_cosineOf : GoodIn wsX5_init wsX5_cosineOf := goodIn_r _ [10, 11, 12, 9, 13, 14] (by decide +kernel) (by decide +kernel)
set_option maxRecDepth 20000 in
theorem gX5_init_X5_cosineOf : GoodIn wsX5_init (va_wsS RX5 16 yX5_cosineOf wsX5_cosineOf) := goodIn_app (goodIn_of _ (by decide +kernel)) ggX5_init_X5_cosineOf
set_option maxRecDepth 20000 in
theorem ggX5_init_X5_windowOf : GoodIn wsX5_init wsX5_windowOf := goodIn_r _ [17, 18, 19, 9, 20, 21] (by decide +kernel) (by decide +kernel)
set_option maxRecDepth 20000 in
theorem gX5_init_X5_windowOf : GoodIn wsX5_init (va_wsS RX5 20 yX5_windowOf wsX5_windowOf) := goodIn_app (goodIn_of _ (by decide +kernel)) ggX5_init_X5_windowOf
theorem dX5_init_0 : decode cX5_init 0 = .ok (.aload_n 0, 1) := by decide +kernel
theorem dX5_init_1 : decode cX5_init 1 = .ok (.invokespecial 1, 3) := by decide +kernel
theorem dX5_init_4 : decode cX5_init 4 = .ok (.aload_n 0, 1) := by decide +kernel
theorem dX5_init_5 : decode cX5_init 5 = .ok (.sipush 128, 3) := by decide +kernel
theorem dX5_init_8 : decode cX5_init 8 = .ok (.newarray .int, 2) := by decide +kernel
theorem dX5_init_10 : decode cX5_init 10 = .ok (.putfield 7, 3) := by decide +kernel
theorem dX5_init_13 : decode cX5_init 13 = .ok (.aload_n 0, 1) := by decide +kernel
theorem dX5_init_14 : decode cX5_init 14 = .ok (.sipush 512, 3) := by decide +kernel
theorem dX5_init_17 : decode cX5_init 17 = .ok (.newarray .int, 2) := by decide +kernel
theorem dX5_init_19 : decode cX5_init 19 = .ok (.putfield 13, 3) := by decide +kernel
theorem dX5_init_22 : decode cX5_init 22 = .ok (.iconst 0, 1) := by decide +kernel
theorem dX5_init_23 : decode cX5_init 23 = .ok (.istore_n 1, 1) := by decide +kernel
theorem dX5_init_24 : decode cX5_init 24 = .ok (.iload_n 1, 1) := by decide +kernel
theorem dX5_init_25 : decode cX5_init 25 = .ok (.aload_n 0, 1) := by decide +kernel
theorem dX5_init_26 : decode cX5_init 26 = .ok (.getfield 7, 3) := by decide +kernel
theorem dX5_init_29 : decode cX5_init 29 = .ok (.arraylength, 1) := by decide +kernel
theorem dX5_init_30 : decode cX5_init 30 = .ok (.if_icmp .ge 19, 3) := by decide +kernel
theorem dX5_init_33 : decode cX5_init 33 = .ok (.aload_n 0, 1) := by decide +kernel
theorem dX5_init_34 : decode cX5_init 34 = .ok (.getfield 7, 3) := by decide +kernel
theorem dX5_init_37 : decode cX5_init 37 = .ok (.iload_n 1, 1) := by decide +kernel
theorem dX5_init_38 : decode cX5_init 38 = .ok (.iload_n 1, 1) := by decide +kernel
theorem dX5_init_39 : decode cX5_init 39 = .ok (.invokestatic 16, 3) := by decide +kernel
theorem dX5_init_42 : decode cX5_init 42 = .ok (.iastore, 1) := by decide +kernel
theorem dX5_init_43 : decode cX5_init 43 = .ok (.iinc 1 1, 3) := by decide +kernel
theorem dX5_init_46 : decode cX5_init 46 = .ok (.goto (-22), 3) := by decide +kernel
theorem dX5_init_49 : decode cX5_init 49 = .ok (.iconst 0, 1) := by decide +kernel
theorem dX5_init_50 : decode cX5_init 50 = .ok (.istore_n 1, 1) := by decide +kernel
theorem dX5_init_51 : decode cX5_init 51 = .ok (.iload_n 1, 1) := by decide +kernel
theorem dX5_init_52 : decode cX5_init 52 = .ok (.aload_n 0, 1) := by decide +kernel
theorem dX5_init_53 : decode cX5_init 53 = .ok (.getfield 13, 3) := by decide +kernel
theorem dX5_init_56 : decode cX5_init 56 = .ok (.arraylength, 1) := by decide +kernel
theorem dX5_init_57 : decode cX5_init 57 = .ok (.if_icmp .ge 19, 3) := by decide +kernel
theorem dX5_init_60 : decode cX5_init 60 = .ok (.aload_n 0, 1) := by decide +kernel
theorem dX5_init_61 : decode cX5_init 61 = .ok (.getfield 13, 3) := by decide +kernel
theorem dX5_init_64 : decode cX5_init 64 = .ok (.iload_n 1, 1) := by decide +kernel
theorem dX5_init_65 : decode cX5_init 65 = .ok (.iload_n 1, 1) := by decide +kernel
theorem dX5_init_66 : decode cX5_init 66 = .ok (.invokestatic 20, 3) := by decide +kernel
theorem dX5_init_69 : decode cX5_init 69 = .ok (.iastore, 1) := by decide +kernel
theorem dX5_init_70 : decode cX5_init 70 = .ok (.iinc 1 1, 3) := by decide +kernel
theorem dX5_init_73 : decode cX5_init 73 = .ok (.goto (-22), 3) := by decide +kernel
theorem dX5_init_76 : decode cX5_init 76 = .ok (.return_, 1) := by decide +kernel
set_option maxRecDepth 20000 in
theorem ggX5_cosineOf_X5_quarterAt : GoodIn wsX5_cosineOf wsX5_quarterAt := goodIn_r _ [4, 5] (by decide +kernel) (by decide +kernel)
set_option maxRecDepth 20000 in
theorem gX5_cosineOf_X5_quarterAt : GoodIn wsX5_cosineOf (va_wsS RX5 23 yX5_quarterAt wsX5_quarterAt) := goodIn_app (goodIn_of _ (by decide +kernel)) ggX5_cosineOf_X5_quarterAt
theorem dX5_cosineOf_0 : decode cX5_cosineOf 0 = .ok (.iload_n 0, 1) := by decide +kernel
theorem dX5_cosineOf_1 : decode cX5_cosineOf 1 = .ok (.bipush 64, 2) := by decide +kernel
theorem dX5_cosineOf_3 : decode cX5_cosineOf 3 = .ok (.if_icmp .le 11, 3) := by decide +kernel
theorem dX5_cosineOf_6 : decode cX5_cosineOf 6 = .ok (.sipush 128, 3) := by decide +kernel
theorem dX5_cosineOf_9 : decode cX5_cosineOf 9 = .ok (.iload_n 0, 1) := by decide +kernel
theorem dX5_cosineOf_10 : decode cX5_cosineOf 10 = .ok (.isub, 1) := by decide +kernel
theorem dX5_cosineOf_11 : decode cX5_cosineOf 11 = .ok (.goto 4, 3) := by decide +kernel
theorem dX5_cosineOf_14 : decode cX5_cosineOf 14 = .ok (.iload_n 0, 1) := by decide +kernel
theorem dX5_cosineOf_15 : decode cX5_cosineOf 15 = .ok (.istore_n 1, 1) := by decide +kernel
theorem dX5_cosineOf_16 : decode cX5_cosineOf 16 = .ok (.iload_n 1, 1) := by decide +kernel
theorem dX5_cosineOf_17 : decode cX5_cosineOf 17 = .ok (.bipush 32, 2) := by decide +kernel
theorem dX5_cosineOf_19 : decode cX5_cosineOf 19 = .ok (.if_icmp .le 14, 3) := by decide +kernel
theorem dX5_cosineOf_22 : decode cX5_cosineOf 22 = .ok (.bipush 64, 2) := by decide +kernel
theorem dX5_cosineOf_24 : decode cX5_cosineOf 24 = .ok (.iload_n 1, 1) := by decide +kernel
theorem dX5_cosineOf_25 : decode cX5_cosineOf 25 = .ok (.isub, 1) := by decide +kernel
theorem dX5_cosineOf_26 : decode cX5_cosineOf 26 = .ok (.invokestatic 23, 3) := by decide +kernel
theorem dX5_cosineOf_29 : decode cX5_cosineOf 29 = .ok (.ineg, 1) := by decide +kernel
theorem dX5_cosineOf_30 : decode cX5_cosineOf 30 = .ok (.goto 7, 3) := by decide +kernel
theorem dX5_cosineOf_33 : decode cX5_cosineOf 33 = .ok (.iload_n 1, 1) := by decide +kernel
theorem dX5_cosineOf_34 : decode cX5_cosineOf 34 = .ok (.invokestatic 23, 3) := by decide +kernel
theorem dX5_cosineOf_37 : decode cX5_cosineOf 37 = .ok (.ireturn, 1) := by decide +kernel
theorem dX5_quarterAt_0 : decode cX5_quarterAt 0 = .ok (.iload_n 0, 1) := by decide +kernel
theorem dX5_quarterAt_1 : decode cX5_quarterAt 1 = .ok (.ifCond .lt 19, 3) := by decide +kernel
theorem dX5_quarterAt_4 : decode cX5_quarterAt 4 = .ok (.iload_n 0, 1) := by decide +kernel
theorem dX5_quarterAt_5 : decode cX5_quarterAt 5 = .ok (.getstatic 26, 3) := by decide +kernel
theorem dX5_quarterAt_8 : decode cX5_quarterAt 8 = .ok (.arraylength, 1) := by decide +kernel
theorem dX5_quarterAt_9 : decode cX5_quarterAt 9 = .ok (.if_icmp .ge 11, 3) := by decide +kernel
theorem dX5_quarterAt_12 : decode cX5_quarterAt 12 = .ok (.getstatic 26, 3) := by decide +kernel
theorem dX5_quarterAt_15 : decode cX5_quarterAt 15 = .ok (.iload_n 0, 1) := by decide +kernel
theorem dX5_quarterAt_16 : decode cX5_quarterAt 16 = .ok (.iaload, 1) := by decide +kernel
theorem dX5_quarterAt_17 : decode cX5_quarterAt 17 = .ok (.goto 4, 3) := by decide +kernel
theorem dX5_quarterAt_20 : decode cX5_quarterAt 20 = .ok (.iconst 0, 1) := by decide +kernel
theorem dX5_quarterAt_21 : decode cX5_quarterAt 21 = .ok (.ireturn, 1) := by decide +kernel
set_option maxRecDepth 20000 in
theorem ggX5_windowOf_X5_halfWindowAt : GoodIn wsX5_windowOf wsX5_halfWindowAt := goodIn_r _ [4, 5] (by decide +kernel) (by decide +kernel)
set_option maxRecDepth 20000 in
theorem gX5_windowOf_X5_halfWindowAt : GoodIn wsX5_windowOf (va_wsS RX5 29 yX5_halfWindowAt wsX5_halfWindowAt) := goodIn_app (goodIn_of _ (by decide +kernel)) ggX5_windowOf_X5_halfWindowAt
theorem dX5_windowOf_0 : decode cX5_windowOf 0 = .ok (.iload_n 0, 1) := by decide +kernel
theorem dX5_windowOf_1 : decode cX5_windowOf 1 = .ok (.sipush 256, 3) := by decide +kernel
theorem dX5_windowOf_4 : decode cX5_windowOf 4 = .ok (.if_icmp .gt 8, 3) := by decide +kernel
theorem dX5_windowOf_7 : decode cX5_windowOf 7 = .ok (.iload_n 0, 1) := by decide +kernel
theorem dX5_windowOf_8 : decode cX5_windowOf 8 = .ok (.invokestatic 29, 3) := by decide +kernel
theorem dX5_windowOf_11 : decode cX5_windowOf 11 = .ok (.ireturn, 1) := by decide +kernel
theorem dX5_windowOf_12 : decode cX5_windowOf 12 = .ok (.sipush 512, 3) := by decide +kernel
theorem dX5_windowOf_15 : decode cX5_windowOf 15 = .ok (.iload_n 0, 1) := by decide +kernel
theorem dX5_windowOf_16 : decode cX5_windowOf 16 = .ok (.isub, 1) := by decide +kernel
theorem dX5_windowOf_17 : decode cX5_windowOf 17 = .ok (.invokestatic 29, 3) := by decide +kernel
theorem dX5_windowOf_20 : decode cX5_windowOf 20 = .ok (.istore_n 1, 1) := by decide +kernel
theorem dX5_windowOf_21 : decode cX5_windowOf 21 = .ok (.iload_n 0, 1) := by decide +kernel
theorem dX5_windowOf_22 : decode cX5_windowOf 22 = .ok (.bipush 64, 2) := by decide +kernel
theorem dX5_windowOf_24 : decode cX5_windowOf 24 = .ok (.irem, 1) := by decide +kernel
theorem dX5_windowOf_25 : decode cX5_windowOf 25 = .ok (.ifCond .ne 7, 3) := by decide +kernel
theorem dX5_windowOf_28 : decode cX5_windowOf 28 = .ok (.iload_n 1, 1) := by decide +kernel
theorem dX5_windowOf_29 : decode cX5_windowOf 29 = .ok (.goto 5, 3) := by decide +kernel
theorem dX5_windowOf_32 : decode cX5_windowOf 32 = .ok (.iload_n 1, 1) := by decide +kernel
theorem dX5_windowOf_33 : decode cX5_windowOf 33 = .ok (.ineg, 1) := by decide +kernel
theorem dX5_windowOf_34 : decode cX5_windowOf 34 = .ok (.ireturn, 1) := by decide +kernel
theorem dX5_halfWindowAt_0 : decode cX5_halfWindowAt 0 = .ok (.iload_n 0, 1) := by decide +kernel
theorem dX5_halfWindowAt_1 : decode cX5_halfWindowAt 1 = .ok (.ifCond .lt 19, 3) := by decide +kernel
theorem dX5_halfWindowAt_4 : decode cX5_halfWindowAt 4 = .ok (.iload_n 0, 1) := by decide +kernel
theorem dX5_halfWindowAt_5 : decode cX5_halfWindowAt 5 = .ok (.getstatic 32, 3) := by decide +kernel
theorem dX5_halfWindowAt_8 : decode cX5_halfWindowAt 8 = .ok (.arraylength, 1) := by decide +kernel
theorem dX5_halfWindowAt_9 : decode cX5_halfWindowAt 9 = .ok (.if_icmp .ge 11, 3) := by decide +kernel
theorem dX5_halfWindowAt_12 : decode cX5_halfWindowAt 12 = .ok (.getstatic 32, 3) := by decide +kernel
theorem dX5_halfWindowAt_15 : decode cX5_halfWindowAt 15 = .ok (.iload_n 0, 1) := by decide +kernel
theorem dX5_halfWindowAt_16 : decode cX5_halfWindowAt 16 = .ok (.iaload, 1) := by decide +kernel
theorem dX5_halfWindowAt_17 : decode cX5_halfWindowAt 17 = .ok (.goto 4, 3) := by decide +kernel
theorem dX5_halfWindowAt_20 : decode cX5_halfWindowAt 20 = .ok (.iconst 0, 1) := by decide +kernel
theorem dX5_halfWindowAt_21 : decode cX5_halfWindowAt 21 = .ok (.ireturn, 1) := by decide +kernel
theorem dJ6_bitCount_0f7a4_0 : decode cJ6_bitCount_0f7a4 0 = .ok (.iload_n 0, 1) := by decide +kernel
theorem dJ6_bitCount_0f7a4_1 : decode cJ6_bitCount_0f7a4 1 = .ok (.iload_n 0, 1) := by decide +kernel
theorem dJ6_bitCount_0f7a4_2 : decode cJ6_bitCount_0f7a4 2 = .ok (.iconst 1, 1) := by decide +kernel
theorem dJ6_bitCount_0f7a4_3 : decode cJ6_bitCount_0f7a4 3 = .ok (.iushr, 1) := by decide +kernel
theorem dJ6_bitCount_0f7a4_4 : decode cJ6_bitCount_0f7a4 4 = .ok (.ldc_w 265, 3) := by decide +kernel
theorem dJ6_bitCount_0f7a4_7 : decode cJ6_bitCount_0f7a4 7 = .ok (.iand, 1) := by decide +kernel
theorem dJ6_bitCount_0f7a4_8 : decode cJ6_bitCount_0f7a4 8 = .ok (.isub, 1) := by decide +kernel
theorem dJ6_bitCount_0f7a4_9 : decode cJ6_bitCount_0f7a4 9 = .ok (.istore_n 0, 1) := by decide +kernel
theorem dJ6_bitCount_0f7a4_10 : decode cJ6_bitCount_0f7a4 10 = .ok (.iload_n 0, 1) := by decide +kernel
theorem dJ6_bitCount_0f7a4_11 : decode cJ6_bitCount_0f7a4 11 = .ok (.ldc_w 266, 3) := by decide +kernel
theorem dJ6_bitCount_0f7a4_14 : decode cJ6_bitCount_0f7a4 14 = .ok (.iand, 1) := by decide +kernel
theorem dJ6_bitCount_0f7a4_15 : decode cJ6_bitCount_0f7a4 15 = .ok (.iload_n 0, 1) := by decide +kernel
theorem dJ6_bitCount_0f7a4_16 : decode cJ6_bitCount_0f7a4 16 = .ok (.iconst 2, 1) := by decide +kernel
theorem dJ6_bitCount_0f7a4_17 : decode cJ6_bitCount_0f7a4 17 = .ok (.iushr, 1) := by decide +kernel
theorem dJ6_bitCount_0f7a4_18 : decode cJ6_bitCount_0f7a4 18 = .ok (.ldc_w 266, 3) := by decide +kernel
theorem dJ6_bitCount_0f7a4_21 : decode cJ6_bitCount_0f7a4 21 = .ok (.iand, 1) := by decide +kernel
theorem dJ6_bitCount_0f7a4_22 : decode cJ6_bitCount_0f7a4 22 = .ok (.iadd, 1) := by decide +kernel
theorem dJ6_bitCount_0f7a4_23 : decode cJ6_bitCount_0f7a4 23 = .ok (.istore_n 0, 1) := by decide +kernel
theorem dJ6_bitCount_0f7a4_24 : decode cJ6_bitCount_0f7a4 24 = .ok (.iload_n 0, 1) := by decide +kernel
theorem dJ6_bitCount_0f7a4_25 : decode cJ6_bitCount_0f7a4 25 = .ok (.iload_n 0, 1) := by decide +kernel
theorem dJ6_bitCount_0f7a4_26 : decode cJ6_bitCount_0f7a4 26 = .ok (.iconst 4, 1) := by decide +kernel
theorem dJ6_bitCount_0f7a4_27 : decode cJ6_bitCount_0f7a4 27 = .ok (.iushr, 1) := by decide +kernel
theorem dJ6_bitCount_0f7a4_28 : decode cJ6_bitCount_0f7a4 28 = .ok (.iadd, 1) := by decide +kernel
theorem dJ6_bitCount_0f7a4_29 : decode cJ6_bitCount_0f7a4 29 = .ok (.ldc_w 267, 3) := by decide +kernel
theorem dJ6_bitCount_0f7a4_32 : decode cJ6_bitCount_0f7a4 32 = .ok (.iand, 1) := by decide +kernel
theorem dJ6_bitCount_0f7a4_33 : decode cJ6_bitCount_0f7a4 33 = .ok (.istore_n 0, 1) := by decide +kernel
theorem dJ6_bitCount_0f7a4_34 : decode cJ6_bitCount_0f7a4 34 = .ok (.iload_n 0, 1) := by decide +kernel
theorem dJ6_bitCount_0f7a4_35 : decode cJ6_bitCount_0f7a4 35 = .ok (.iload_n 0, 1) := by decide +kernel
theorem dJ6_bitCount_0f7a4_36 : decode cJ6_bitCount_0f7a4 36 = .ok (.bipush 8, 2) := by decide +kernel
theorem dJ6_bitCount_0f7a4_38 : decode cJ6_bitCount_0f7a4 38 = .ok (.iushr, 1) := by decide +kernel
theorem dJ6_bitCount_0f7a4_39 : decode cJ6_bitCount_0f7a4 39 = .ok (.iadd, 1) := by decide +kernel
theorem dJ6_bitCount_0f7a4_40 : decode cJ6_bitCount_0f7a4 40 = .ok (.istore_n 0, 1) := by decide +kernel
theorem dJ6_bitCount_0f7a4_41 : decode cJ6_bitCount_0f7a4 41 = .ok (.iload_n 0, 1) := by decide +kernel
theorem dJ6_bitCount_0f7a4_42 : decode cJ6_bitCount_0f7a4 42 = .ok (.iload_n 0, 1) := by decide +kernel
theorem dJ6_bitCount_0f7a4_43 : decode cJ6_bitCount_0f7a4 43 = .ok (.bipush 16, 2) := by decide +kernel
theorem dJ6_bitCount_0f7a4_45 : decode cJ6_bitCount_0f7a4 45 = .ok (.iushr, 1) := by decide +kernel
theorem dJ6_bitCount_0f7a4_46 : decode cJ6_bitCount_0f7a4 46 = .ok (.iadd, 1) := by decide +kernel
theorem dJ6_bitCount_0f7a4_47 : decode cJ6_bitCount_0f7a4 47 = .ok (.istore_n 0, 1) := by decide +kernel
theorem dJ6_bitCount_0f7a4_48 : decode cJ6_bitCount_0f7a4 48 = .ok (.iload_n 0, 1) := by decide +kernel
theorem dJ6_bitCount_0f7a4_49 : decode cJ6_bitCount_0f7a4 49 = .ok (.bipush 63, 2) := by decide +kernel
theorem dJ6_bitCount_0f7a4_51 : decode cJ6_bitCount_0f7a4 51 = .ok (.iand, 1) := by decide +kernel
theorem dJ6_bitCount_0f7a4_52 : decode cJ6_bitCount_0f7a4 52 = .ok (.ireturn, 1) := by decide +kernel
theorem dJ9_max_7cf53_0 : decode cJ9_max_7cf53 0 = .ok (.iload_n 0, 1) := by decide +kernel
theorem dJ9_max_7cf53_1 : decode cJ9_max_7cf53 1 = .ok (.iload_n 1, 1) := by decide +kernel
theorem dJ9_max_7cf53_2 : decode cJ9_max_7cf53 2 = .ok (.if_icmp .lt 7, 3) := by decide +kernel
theorem dJ9_max_7cf53_5 : decode cJ9_max_7cf53 5 = .ok (.iload_n 0, 1) := by decide +kernel
theorem dJ9_max_7cf53_6 : decode cJ9_max_7cf53 6 = .ok (.goto 4, 3) := by decide +kernel
theorem dJ9_max_7cf53_9 : decode cJ9_max_7cf53 9 = .ok (.iload_n 1, 1) := by decide +kernel
theorem dJ9_max_7cf53_10 : decode cJ9_max_7cf53 10 = .ok (.ireturn, 1) := by decide +kernel
theorem dJ9_max_f86c9_0 : decode cJ9_max_f86c9 0 = .ok (.lload_n 0, 1) := by decide +kernel
theorem dJ9_max_f86c9_1 : decode cJ9_max_f86c9 1 = .ok (.lload_n 2, 1) := by decide +kernel
theorem dJ9_max_f86c9_2 : decode cJ9_max_f86c9 2 = .ok (.lcmp, 1) := by decide +kernel
theorem dJ9_max_f86c9_3 : decode cJ9_max_f86c9 3 = .ok (.ifCond .lt 7, 3) := by decide +kernel
theorem dJ9_max_f86c9_6 : decode cJ9_max_f86c9 6 = .ok (.lload_n 0, 1) := by decide +kernel
theorem dJ9_max_f86c9_7 : decode cJ9_max_f86c9 7 = .ok (.goto 4, 3) := by decide +kernel
theorem dJ9_max_f86c9_10 : decode cJ9_max_f86c9 10 = .ok (.lload_n 2, 1) := by decide +kernel
theorem dJ9_max_f86c9_11 : decode cJ9_max_f86c9 11 = .ok (.lreturn, 1) := by decide +kernel
theorem dJ9_min_7cf53_0 : decode cJ9_min_7cf53 0 = .ok (.iload_n 0, 1) := by decide +kernel
theorem dJ9_min_7cf53_1 : decode cJ9_min_7cf53 1 = .ok (.iload_n 1, 1) := by decide +kernel
theorem dJ9_min_7cf53_2 : decode cJ9_min_7cf53 2 = .ok (.if_icmp .gt 7, 3) := by decide +kernel
theorem dJ9_min_7cf53_5 : decode cJ9_min_7cf53 5 = .ok (.iload_n 0, 1) := by decide +kernel
theorem dJ9_min_7cf53_6 : decode cJ9_min_7cf53 6 = .ok (.goto 4, 3) := by decide +kernel
theorem dJ9_min_7cf53_9 : decode cJ9_min_7cf53 9 = .ok (.iload_n 1, 1) := by decide +kernel
theorem dJ9_min_7cf53_10 : decode cJ9_min_7cf53 10 = .ok (.ireturn, 1) := by decide +kernel
theorem dJ9_min_f86c9_0 : decode cJ9_min_f86c9 0 = .ok (.lload_n 0, 1) := by decide +kernel
theorem dJ9_min_f86c9_1 : decode cJ9_min_f86c9 1 = .ok (.lload_n 2, 1) := by decide +kernel
theorem dJ9_min_f86c9_2 : decode cJ9_min_f86c9 2 = .ok (.lcmp, 1) := by decide +kernel
theorem dJ9_min_f86c9_3 : decode cJ9_min_f86c9 3 = .ok (.ifCond .gt 7, 3) := by decide +kernel
theorem dJ9_min_f86c9_6 : decode cJ9_min_f86c9 6 = .ok (.lload_n 0, 1) := by decide +kernel
theorem dJ9_min_f86c9_7 : decode cJ9_min_f86c9 7 = .ok (.goto 4, 3) := by decide +kernel
theorem dJ9_min_f86c9_10 : decode cJ9_min_f86c9 10 = .ok (.lload_n 2, 1) := by decide +kernel
theorem dJ9_min_f86c9_11 : decode cJ9_min_f86c9 11 = .ok (.lreturn, 1) := by decide +kernel
theorem dJxa1e45_init_da8c8_0 : decode cJxa1e45_init_da8c8 0 = .ok (.aload_n 0, 1) := by decide +kernel
theorem dJxa1e45_init_da8c8_1 : decode cJxa1e45_init_da8c8 1 = .ok (.invokespecial 1, 3) := by decide +kernel
theorem dJxa1e45_init_da8c8_4 : decode cJxa1e45_init_da8c8 4 = .ok (.return_, 1) := by decide +kernel
set_option maxRecDepth 20000 in
theorem ggJxc12de_init_da8c8_Jxa1e45_init_da8c8 : GoodIn wsJxc12de_init_da8c8 wsJxa1e45_init_da8c8 := goodIn_r _ [5, 6, 7, 8] (by decide +kernel) (by decide +kernel)
set_option maxRecDepth 20000 in
theorem gJxc12de_init_da8c8_Jxa1e45_init_da8c8 : GoodIn wsJxc12de_init_da8c8 (wsJxa1e45_init_da8c8) := ggJxc12de_init_da8c8_Jxa1e45_init_da8c8
theorem dJxc12de_init_da8c8_0 : decode cJxc12de_init_da8c8 0 = .ok (.aload_n 0, 1) := by decide +kernel
theorem dJxc12de_init_da8c8_1 : decode cJxc12de_init_da8c8 1 = .ok (.invokespecial 1, 3) := by decide +kernel
theorem dJxc12de_init_da8c8_4 : decode cJxc12de_init_da8c8 4 = .ok (.aload_n 0, 1) := by decide +kernel
theorem dJxc12de_init_da8c8_5 : decode cJxc12de_init_da8c8 5 = .ok (.iconst 0, 1) := by decide +kernel
theorem dJxc12de_init_da8c8_6 : decode cJxc12de_init_da8c8 6 = .ok (.putfield 7, 3) := by decide +kernel
theorem dJxc12de_init_da8c8_9 : decode cJxc12de_init_da8c8 9 = .ok (.return_, 1) := by decide +kernel
set_option maxRecDepth 20000 in
theorem ggJx4a65c_init_da8c8_Jxc12de_init_da8c8 : GoodIn wsJx4a65c_init_da8c8 wsJxc12de_init_da8c8 := goodIn_r _ [6, 7, 8, 9, 10, 11, 12, 13, 14, 15, 16, 17] (by decide +kernel) (by decide +kernel)
set_option maxRecDepth 20000 in
theorem gJx4a65c_init_da8c8_Jxc12de_init_da8c8 : GoodIn wsJx4a65c_init_da8c8 (wsJxc12de_init_da8c8) := ggJx4a65c_init_da8c8_Jxc12de_init_da8c8
theorem dJx4a65c_init_da8c8_0 : decode cJx4a65c_init_da8c8 0 = .ok (.aload_n 0, 1) := by decide +kernel
theorem dJx4a65c_init_da8c8_1 : decode cJx4a65c_init_da8c8 1 = .ok (.invokespecial 1, 3) := by decide +kernel
theorem dJx4a65c_init_da8c8_4 : decode cJx4a65c_init_da8c8 4 = .ok (.aload_n 0, 1) := by decide +kernel
theorem dJx4a65c_init_da8c8_5 : decode cJx4a65c_init_da8c8 5 = .ok (.getstatic 39, 3) := by decide +kernel
theorem dJx4a65c_init_da8c8_8 : decode cJx4a65c_init_da8c8 8 = .ok (.putfield 9, 3) := by decide +kernel
theorem dJx4a65c_init_da8c8_11 : decode cJx4a65c_init_da8c8 11 = .ok (.return_, 1) := by decide +kernel
set_option maxRecDepth 20000 in
theorem ggJx4a65c_grow_92f84_J8_newLength_cabcc : GoodIn wsJx4a65c_grow_92f84 wsJ8_newLength_cabcc := goodIn_r _ [11, 12, 4, 5, 6, 13, 14, 15, 10, 16] (by decide +kernel) (by decide +kernel)
set_option maxRecDepth 20000 in
theorem gJx4a65c_grow_92f84_J8_newLength_cabcc : GoodIn wsJx4a65c_grow_92f84 (va_wsS RJx4a65c 73 yJ8_newLength_cabcc wsJ8_newLength_cabcc) := goodIn_app (goodIn_of _ (by decide +kernel)) ggJx4a65c_grow_92f84_J8_newLength_cabcc
set_option maxRecDepth 20000 in
theorem ggJx4a65c_grow_92f84_J7_copyOf_1904c : GoodIn wsJx4a65c_grow_92f84 wsJ7_copyOf_1904c := goodIn_r _ [20, 21, 22, 23, 24, 25, 26, 19, 27, 28, 29, 30, 31, 5, 32, 33, 34, 35, 36] (by decide +kernel) (by decide +kernel)
set_option maxRecDepth 20000 in
theorem gJx4a65c_grow_92f84_J7_copyOf_1904c : GoodIn wsJx4a65c_grow_92f84 (va_wsS RJx4a65c 66 yJ7_copyOf_1904c wsJ7_copyOf_1904c) := goodIn_app (goodIn_of _ (by decide +kernel)) ggJx4a65c_grow_92f84_J7_copyOf_1904c
theorem dJx4a65c_grow_92f84_0 : decode cJx4a65c_grow_92f84 0 = .ok (.aload_n 0, 1) := by decide +kernel
theorem dJx4a65c_grow_92f84_1 : decode cJx4a65c_grow_92f84 1 = .ok (.getfield 9, 3) := by decide +kernel
theorem dJx4a65c_grow_92f84_4 : decode cJx4a65c_grow_92f84 4 = .ok (.arraylength, 1) := by decide +kernel
theorem dJx4a65c_grow_92f84_5 : decode cJx4a65c_grow_92f84 5 = .ok (.istore_n 2, 1) := by decide +kernel
theorem dJx4a65c_grow_92f84_6 : decode cJx4a65c_grow_92f84 6 = .ok (.iload_n 2, 1) := by decide +kernel
theorem dJx4a65c_grow_92f84_7 : decode cJx4a65c_grow_92f84 7 = .ok (.ifCond .gt 13, 3) := by decide +kernel
theorem dJx4a65c_grow_92f84_10 : decode cJx4a65c_grow_92f84 10 = .ok (.aload_n 0, 1) := by decide +kernel
theorem dJx4a65c_grow_92f84_11 : decode cJx4a65c_grow_92f84 11 = .ok (.getfield 9, 3) := by decide +kernel
theorem dJx4a65c_grow_92f84_14 : decode cJx4a65c_grow_92f84 14 = .ok (.getstatic 39, 3) := by decide +kernel
theorem dJx4a65c_grow_92f84_17 : decode cJx4a65c_grow_92f84 17 = .ok (.if_acmp .eq 28, 3) := by decide +kernel
theorem dJx4a65c_grow_92f84_20 : decode cJx4a65c_grow_92f84 20 = .ok (.iload_n 2, 1) := by decide +kernel
theorem dJx4a65c_grow_92f84_21 : decode cJx4a65c_grow_92f84 21 = .ok (.iload_n 1, 1) := by decide +kernel
theorem dJx4a65c_grow_92f84_22 : decode cJx4a65c_grow_92f84 22 = .ok (.iload_n 2, 1) := by decide +kernel
theorem dJx4a65c_grow_92f84_23 : decode cJx4a65c_grow_92f84 23 = .ok (.isub, 1) := by decide +kernel
theorem dJx4a65c_grow_92f84_24 : decode cJx4a65c_grow_92f84 24 = .ok (.iload_n 2, 1) := by decide +kernel
theorem dJx4a65c_grow_92f84_25 : decode cJx4a65c_grow_92f84 25 = .ok (.iconst 1, 1) := by decide +kernel
theorem dJx4a65c_grow_92f84_26 : decode cJx4a65c_grow_92f84 26 = .ok (.ishr, 1) := by decide +kernel
theorem dJx4a65c_grow_92f84_27 : decode cJx4a65c_grow_92f84 27 = .ok (.invokestatic 73, 3) := by decide +kernel
theorem dJx4a65c_grow_92f84_30 : decode cJx4a65c_grow_92f84 30 = .ok (.istore_n 3, 1) := by decide +kernel
theorem dJx4a65c_grow_92f84_31 : decode cJx4a65c_grow_92f84 31 = .ok (.aload_n 0, 1) := by decide +kernel
theorem dJx4a65c_grow_92f84_32 : decode cJx4a65c_grow_92f84 32 = .ok (.aload_n 0, 1) := by decide +kernel
theorem dJx4a65c_grow_92f84_33 : decode cJx4a65c_grow_92f84 33 = .ok (.getfield 9, 3) := by decide +kernel
theorem dJx4a65c_grow_92f84_36 : decode cJx4a65c_grow_92f84 36 = .ok (.iload_n 3, 1) := by decide +kernel
theorem dJx4a65c_grow_92f84_37 : decode cJx4a65c_grow_92f84 37 = .ok (.invokestatic 66, 3) := by decide +kernel
theorem dJx4a65c_grow_92f84_40 : decode cJx4a65c_grow_92f84 40 = .ok (.dup_x1, 1) := by decide +kernel
theorem dJx4a65c_grow_92f84_41 : decode cJx4a65c_grow_92f84 41 = .ok (.putfield 9, 3) := by decide +kernel
theorem dJx4a65c_grow_92f84_44 : decode cJx4a65c_grow_92f84 44 = .ok (.areturn, 1) := by decide +kernel
theorem dJx4a65c_grow_92f84_45 : decode cJx4a65c_grow_92f84 45 = .ok (.aload_n 0, 1) := by decide +kernel
theorem dJx4a65c_grow_92f84_46 : decode cJx4a65c_grow_92f84 46 = .ok (.bipush 10, 2) := by decide +kernel
theorem dJx4a65c_grow_92f84_48 : decode cJx4a65c_grow_92f84 48 = .ok (.iload_n 1, 1) := by decide +kernel
theorem dJx4a65c_grow_92f84_49 : decode cJx4a65c_grow_92f84 49 = .ok (.invokestatic 79, 3) := by decide +kernel
theorem dJx4a65c_grow_92f84_52 : decode cJx4a65c_grow_92f84 52 = .ok (.anewarray 7, 3) := by decide +kernel
theorem dJx4a65c_grow_92f84_55 : decode cJx4a65c_grow_92f84 55 = .ok (.dup_x1, 1) := by decide +kernel
theorem dJx4a65c_grow_92f84_56 : decode cJx4a65c_grow_92f84 56 = .ok (.putfield 9, 3) := by decide +kernel
theorem dJx4a65c_grow_92f84_59 : decode cJx4a65c_grow_92f84 59 = .ok (.areturn, 1) := by decide +kernel
set_option maxRecDepth 20000 in
theorem ggJx4a65c_grow_d5877_Jx4a65c_grow_92f84 : GoodIn wsJx4a65c_grow_d5877 wsJx4a65c_grow_92f84 := goodIn_r _ [6, 7, 8, 9, 10, 11, 12, 13, 14, 15, 16, 17, 18, 19, 20, 21, 22, 23, 24, 25, 26, 27, 28, 29, 30, 31, 32, 33, 34, 35, 36, 37, 38, 39, 40, 41, 42, 43, 44, 45] (by decide +kernel) (by decide +kernel)
set_option maxRecDepth 20000 in
theorem gJx4a65c_grow_d5877_Jx4a65c_grow_92f84 : GoodIn wsJx4a65c_grow_d5877 (wsV RJx4a65c 69 RJx4a65c yJx4a65c_grow_92f84 wsJx4a65c_grow_92f84) := goodIn_app (goodIn_of _ (by decide +kernel)) ggJx4a65c_grow_d5877_Jx4a65c_grow_92f84
theorem dJx4a65c_grow_d5877_0 : decode cJx4a65c_grow_d5877 0 = .ok (.aload_n 0, 1) := by decide +kernel
theorem dJx4a65c_grow_d5877_1 : decode cJx4a65c_grow_d5877 1 = .ok (.aload_n 0, 1) := by decide +kernel
theorem dJx4a65c_grow_d5877_2 : decode cJx4a65c_grow_d5877 2 = .ok (.getfield 48, 3) := by decide +kernel
theorem dJx4a65c_grow_d5877_5 : decode cJx4a65c_grow_d5877 5 = .ok (.iconst 1, 1) := by decide +kernel
theorem dJx4a65c_grow_d5877_6 : decode cJx4a65c_grow_d5877 6 = .ok (.iadd, 1) := by decide +kernel
theorem dJx4a65c_grow_d5877_7 : decode cJx4a65c_grow_d5877 7 = .ok (.invokevirtual 69, 3) := by decide +kernel
theorem dJx4a65c_grow_d5877_10 : decode cJx4a65c_grow_d5877 10 = .ok (.areturn, 1) := by decide +kernel
theorem dJx4a65c_size_8abf5_0 : decode cJx4a65c_size_8abf5 0 = .ok (.aload_n 0, 1) := by decide +kernel
theorem dJx4a65c_size_8abf5_1 : decode cJx4a65c_size_8abf5 1 = .ok (.getfield 48, 3) := by decide +kernel
theorem dJx4a65c_size_8abf5_4 : decode cJx4a65c_size_8abf5 4 = .ok (.ireturn, 1) := by decide +kernel
theorem dJx4a65c_elementData_915e3_0 : decode cJx4a65c_elementData_915e3 0 = .ok (.aload_n 0, 1) := by decide +kernel
theorem dJx4a65c_elementData_915e3_1 : decode cJx4a65c_elementData_915e3 1 = .ok (.getfield 9, 3) := by decide +kernel
theorem dJx4a65c_elementData_915e3_4 : decode cJx4a65c_elementData_915e3 4 = .ok (.iload_n 1, 1) := by decide +kernel
theorem dJx4a65c_elementData_915e3_5 : decode cJx4a65c_elementData_915e3 5 = .ok (.aaload, 1) := by decide +kernel
theorem dJx4a65c_elementData_915e3_6 : decode cJx4a65c_elementData_915e3 6 = .ok (.areturn, 1) := by decide +kernel
set_option maxRecDepth 20000 in
theorem ggJx4a65c_get_915e3_J15_checkIndex_7cf53 : GoodIn wsJx4a65c_get_915e3 wsJ15_checkIndex_7cf53 := goodIn_r _ [5, 6, 7, 8, 9] (by decide +kernel) (by decide +kernel)
set_option maxRecDepth 20000 in
theorem gJx4a65c_get_915e3_J15_checkIndex_7cf53 : GoodIn wsJx4a65c_get_915e3 (va_wsS RJx4a65c 118 yJ15_checkIndex_7cf53 wsJ15_checkIndex_7cf53) := goodIn_app (goodIn_of _ (by decide +kernel)) ggJx4a65c_get_915e3_J15_checkIndex_7cf53
set_option maxRecDepth 20000 in
theorem ggJx4a65c_get_915e3_Jx4a65c_elementData_915e3 : GoodIn wsJx4a65c_get_915e3 wsJx4a65c_elementData_915e3 := goodIn_r _ [14, 15, 16, 17, 18] (by decide +kernel) (by decide +kernel)
set_option maxRecDepth 20000 in
theorem gJx4a65c_get_915e3_Jx4a65c_elementData_915e3 : GoodIn wsJx4a65c_get_915e3 (wsV RJx4a65c 123 RJx4a65c yJx4a65c_elementData_915e3 wsJx4a65c_elementData_915e3) := goodIn_app (goodIn_of _ (by decide +kernel)) ggJx4a65c_get_915e3_Jx4a65c_elementData_915e3
theorem dJx4a65c_get_915e3_0 : decode cJx4a65c_get_915e3 0 = .ok (.iload_n 1, 1) := by decide +kernel
theorem dJx4a65c_get_915e3_1 : decode cJx4a65c_get_915e3 1 = .ok (.aload_n 0, 1) := by decide +kernel
theorem dJx4a65c_get_915e3_2 : decode cJx4a65c_get_915e3 2 = .ok (.getfield 48, 3) := by decide +kernel
theorem dJx4a65c_get_915e3_5 : decode cJx4a65c_get_915e3 5 = .ok (.invokestatic 118, 3) := by decide +kernel
theorem dJx4a65c_get_915e3_8 : decode cJx4a65c_get_915e3 8 = .ok (.pop, 1) := by decide +kernel
theorem dJx4a65c_get_915e3_9 : decode cJx4a65c_get_915e3 9 = .ok (.aload_n 0, 1) := by decide +kernel
theorem dJx4a65c_get_915e3_10 : decode cJx4a65c_get_915e3 10 = .ok (.iload_n 1, 1) := by decide +kernel
theorem dJx4a65c_get_915e3_11 : decode cJx4a65c_get_915e3 11 = .ok (.invokevirtual 123, 3) := by decide +kernel
theorem dJx4a65c_get_915e3_14 : decode cJx4a65c_get_915e3 14 = .ok (.areturn, 1) := by decide +kernel
set_option maxRecDepth 20000 in
theorem ggJx4a65c_add_72be8_Jx4a65c_grow_d5877 : GoodIn wsJx4a65c_add_72be8 wsJx4a65c_grow_d5877 := goodIn_r _ [6, 1, 7, 8, 9, 5, 10, 11, 12, 13, 14, 15, 16, 17, 18, 19, 20, 21, 22, 23, 24, 25, 26, 27, 28, 29, 30, 31, 32, 33, 34, 35, 36, 37, 38, 39, 40, 41, 42, 43, 44, 45, 46, 47, 48, 49] (by decide +kernel) (by decide +kernel)
set_option maxRecDepth 20000 in
theorem gJx4a65c_add_72be8_Jx4a65c_grow_d5877 : GoodIn wsJx4a65c_add_72be8 (wsV RJx4a65c 129 RJx4a65c yJx4a65c_grow_d5877 wsJx4a65c_grow_d5877) := goodIn_app (goodIn_of _ (by decide +kernel)) ggJx4a65c_add_72be8_Jx4a65c_grow_d5877
theorem dJx4a65c_add_72be8_0 : decode cJx4a65c_add_72be8 0 = .ok (.iload_n 3, 1) := by decide +kernel
theorem dJx4a65c_add_72be8_1 : decode cJx4a65c_add_72be8 1 = .ok (.aload_n 2, 1) := by decide +kernel
theorem dJx4a65c_add_72be8_2 : decode cJx4a65c_add_72be8 2 = .ok (.arraylength, 1) := by decide +kernel
theorem dJx4a65c_add_72be8_3 : decode cJx4a65c_add_72be8 3 = .ok (.if_icmp .ne 8, 3) := by decide +kernel
theorem dJx4a65c_add_72be8_6 : decode cJx4a65c_add_72be8 6 = .ok (.aload_n 0, 1) := by decide +kernel
theorem dJx4a65c_add_72be8_7 : decode cJx4a65c_add_72be8 7 = .ok (.invokevirtual 129, 3) := by decide +kernel
theorem dJx4a65c_add_72be8_10 : decode cJx4a65c_add_72be8 10 = .ok (.astore_n 2, 1) := by decide +kernel
theorem dJx4a65c_add_72be8_11 : decode cJx4a65c_add_72be8 11 = .ok (.aload_n 2, 1) := by decide +kernel
theorem dJx4a65c_add_72be8_12 : decode cJx4a65c_add_72be8 12 = .ok (.iload_n 3, 1) := by decide +kernel
theorem dJx4a65c_add_72be8_13 : decode cJx4a65c_add_72be8 13 = .ok (.aload_n 1, 1) := by decide +kernel
theorem dJx4a65c_add_72be8_14 : decode cJx4a65c_add_72be8 14 = .ok (.aastore, 1) := by decide +kernel
theorem dJx4a65c_add_72be8_15 : decode cJx4a65c_add_72be8 15 = .ok (.aload_n 0, 1) := by decide +kernel
theorem dJx4a65c_add_72be8_16 : decode cJx4a65c_add_72be8 16 = .ok (.iload_n 3, 1) := by decide +kernel
theorem dJx4a65c_add_72be8_17 : decode cJx4a65c_add_72be8 17 = .ok (.iconst 1, 1) := by decide +kernel
theorem dJx4a65c_add_72be8_18 : decode cJx4a65c_add_72be8 18 = .ok (.iadd, 1) := by decide +kernel
theorem dJx4a65c_add_72be8_19 : decode cJx4a65c_add_72be8 19 = .ok (.putfield 48, 3) := by decide +kernel
theorem dJx4a65c_add_72be8_22 : decode cJx4a65c_add_72be8 22 = .ok (.return_, 1) := by decide +kernel
set_option maxRecDepth 20000 in
theorem ggJx4a65c_add_9ea2d_Jx4a65c_add_72be8 : GoodIn wsJx4a65c_add_9ea2d wsJx4a65c_add_72be8 := goodIn_r _ [9, 4, 10, 11, 12, 8, 13, 14, 15, 16, 17, 3, 18, 19, 20, 21, 22, 23, 24, 25, 26, 27, 28, 29, 30, 31, 32, 33, 34, 35, 36, 37, 38, 39, 40, 41, 42, 43, 44, 45, 46, 47, 48, 49, 50, 51, 52, 53, 54, 55] (by decide +kernel) (by decide +kernel)
set_option maxRecDepth 20000 in
theorem gJx4a65c_add_9ea2d_Jx4a65c_add_72be8 : GoodIn wsJx4a65c_add_9ea2d (wsV RJx4a65c 131 RJx4a65c yJx4a65c_add_72be8 wsJx4a65c_add_72be8) := goodIn_app (goodIn_of _ (by decide +kernel)) ggJx4a65c_add_9ea2d_Jx4a65c_add_72be8
theorem dJx4a65c_add_9ea2d_0 : decode cJx4a65c_add_9ea2d 0 = .ok (.aload_n 0, 1) := by decide +kernel
theorem dJx4a65c_add_9ea2d_1 : decode cJx4a65c_add_9ea2d 1 = .ok (.dup, 1) := by decide +kernel
theorem dJx4a65c_add_9ea2d_2 : decode cJx4a65c_add_9ea2d 2 = .ok (.getfield 63, 3) := by decide +kernel
theorem dJx4a65c_add_9ea2d_5 : decode cJx4a65c_add_9ea2d 5 = .ok (.iconst 1, 1) := by decide +kernel
theorem dJx4a65c_add_9ea2d_6 : decode cJx4a65c_add_9ea2d 6 = .ok (.iadd, 1) := by decide +kernel
theorem dJx4a65c_add_9ea2d_7 : decode cJx4a65c_add_9ea2d 7 = .ok (.putfield 63, 3) := by decide +kernel
theorem dJx4a65c_add_9ea2d_10 : decode cJx4a65c_add_9ea2d 10 = .ok (.aload_n 0, 1) := by decide +kernel
theorem dJx4a65c_add_9ea2d_11 : decode cJx4a65c_add_9ea2d 11 = .ok (.aload_n 1, 1) := by decide +kernel
theorem dJx4a65c_add_9ea2d_12 : decode cJx4a65c_add_9ea2d 12 = .ok (.aload_n 0, 1) := by decide +kernel
theorem dJx4a65c_add_9ea2d_13 : decode cJx4a65c_add_9ea2d 13 = .ok (.getfield 9, 3) := by decide +kernel
theorem dJx4a65c_add_9ea2d_16 : decode cJx4a65c_add_9ea2d 16 = .ok (.aload_n 0, 1) := by decide +kernel
theorem dJx4a65c_add_9ea2d_17 : decode cJx4a65c_add_9ea2d 17 = .ok (.getfield 48, 3) := by decide +kernel
theorem dJx4a65c_add_9ea2d_20 : decode cJx4a65c_add_9ea2d 20 = .ok (.invokevirtual 131, 3) := by decide +kernel
theorem dJx4a65c_add_9ea2d_23 : decode cJx4a65c_add_9ea2d 23 = .ok (.iconst 1, 1) := by decide +kernel
theorem dJx4a65c_add_9ea2d_24 : decode cJx4a65c_add_9ea2d 24 = .ok (.ireturn, 1) := by decide +kernel
theorem dJx4a65c_clear_da8c8_0 : decode cJx4a65c_clear_da8c8 0 = .ok (.aload_n 0, 1) := by decide +kernel
theorem dJx4a65c_clear_da8c8_1 : decode cJx4a65c_clear_da8c8 1 = .ok (.dup, 1) := by decide +kernel
theorem dJx4a65c_clear_da8c8_2 : decode cJx4a65c_clear_da8c8 2 = .ok (.getfield 63, 3) := by decide +kernel
theorem dJx4a65c_clear_da8c8_5 : decode cJx4a65c_clear_da8c8 5 = .ok (.iconst 1, 1) := by decide +kernel
theorem dJx4a65c_clear_da8c8_6 : decode cJx4a65c_clear_da8c8 6 = .ok (.iadd, 1) := by decide +kernel
theorem dJx4a65c_clear_da8c8_7 : decode cJx4a65c_clear_da8c8 7 = .ok (.putfield 63, 3) := by decide +kernel
theorem dJx4a65c_clear_da8c8_10 : decode cJx4a65c_clear_da8c8 10 = .ok (.aload_n 0, 1) := by decide +kernel
theorem dJx4a65c_clear_da8c8_11 : decode cJx4a65c_clear_da8c8 11 = .ok (.getfield 9, 3) := by decide +kernel
theorem dJx4a65c_clear_da8c8_14 : decode cJx4a65c_clear_da8c8 14 = .ok (.astore_n 1, 1) := by decide +kernel
theorem dJx4a65c_clear_da8c8_15 : decode cJx4a65c_clear_da8c8 15 = .ok (.aload_n 0, 1) := by decide +kernel
theorem dJx4a65c_clear_da8c8_16 : decode cJx4a65c_clear_da8c8 16 = .ok (.getfield 48, 3) := by decide +kernel
theorem dJx4a65c_clear_da8c8_19 : decode cJx4a65c_clear_da8c8 19 = .ok (.istore_n 2, 1) := by decide +kernel
theorem dJx4a65c_clear_da8c8_20 : decode cJx4a65c_clear_da8c8 20 = .ok (.aload_n 0, 1) := by decide +kernel
theorem dJx4a65c_clear_da8c8_21 : decode cJx4a65c_clear_da8c8 21 = .ok (.iconst 0, 1) := by decide +kernel
theorem dJx4a65c_clear_da8c8_22 : decode cJx4a65c_clear_da8c8 22 = .ok (.dup_x1, 1) := by decide +kernel
theorem dJx4a65c_clear_da8c8_23 : decode cJx4a65c_clear_da8c8 23 = .ok (.putfield 48, 3) := by decide +kernel
theorem dJx4a65c_clear_da8c8_26 : decode cJx4a65c_clear_da8c8 26 = .ok (.istore_n 3, 1) := by decide +kernel
theorem dJx4a65c_clear_da8c8_27 : decode cJx4a65c_clear_da8c8 27 = .ok (.iload_n 3, 1) := by decide +kernel
theorem dJx4a65c_clear_da8c8_28 : decode cJx4a65c_clear_da8c8 28 = .ok (.iload_n 2, 1) := by decide +kernel
theorem dJx4a65c_clear_da8c8_29 : decode cJx4a65c_clear_da8c8 29 = .ok (.if_icmp .ge 13, 3) := by decide +kernel
theorem dJx4a65c_clear_da8c8_32 : decode cJx4a65c_clear_da8c8 32 = .ok (.aload_n 1, 1) := by decide +kernel
theorem dJx4a65c_clear_da8c8_33 : decode cJx4a65c_clear_da8c8 33 = .ok (.iload_n 3, 1) := by decide +kernel
theorem dJx4a65c_clear_da8c8_34 : decode cJx4a65c_clear_da8c8 34 = .ok (.aconst_null, 1) := by decide +kernel
theorem dJx4a65c_clear_da8c8_35 : decode cJx4a65c_clear_da8c8 35 = .ok (.aastore, 1) := by decide +kernel
theorem dJx4a65c_clear_da8c8_36 : decode cJx4a65c_clear_da8c8 36 = .ok (.iinc 3 1, 3) := by decide +kernel
theorem dJx4a65c_clear_da8c8_39 : decode cJx4a65c_clear_da8c8 39 = .ok (.goto (-12), 3) := by decide +kernel
theorem dJx4a65c_clear_da8c8_42 : decode cJx4a65c_clear_da8c8 42 = .ok (.return_, 1) := by decide +kernel
theorem dJ7_fill_d0a16_0 : decode cJ7_fill_d0a16 0 = .ok (.iconst 0, 1) := by decide +kernel
theorem dJ7_fill_d0a16_1 : decode cJ7_fill_d0a16 1 = .ok (.istore_n 3, 1) := by decide +kernel
theorem dJ7_fill_d0a16_2 : decode cJ7_fill_d0a16 2 = .ok (.aload_n 0, 1) := by decide +kernel
theorem dJ7_fill_d0a16_3 : decode cJ7_fill_d0a16 3 = .ok (.arraylength, 1) := by decide +kernel
theorem dJ7_fill_d0a16_4 : decode cJ7_fill_d0a16 4 = .ok (.istore 4, 2) := by decide +kernel
theorem dJ7_fill_d0a16_6 : decode cJ7_fill_d0a16 6 = .ok (.iload_n 3, 1) := by decide +kernel
theorem dJ7_fill_d0a16_7 : decode cJ7_fill_d0a16 7 = .ok (.iload 4, 2) := by decide +kernel
theorem dJ7_fill_d0a16_9 : decode cJ7_fill_d0a16 9 = .ok (.if_icmp .ge 13, 3) := by decide +kernel
theorem dJ7_fill_d0a16_12 : decode cJ7_fill_d0a16 12 = .ok (.aload_n 0, 1) := by decide +kernel
theorem dJ7_fill_d0a16_13 : decode cJ7_fill_d0a16 13 = .ok (.iload_n 3, 1) := by decide +kernel
theorem dJ7_fill_d0a16_14 : decode cJ7_fill_d0a16 14 = .ok (.lload_n 1, 1) := by decide +kernel
theorem dJ7_fill_d0a16_15 : decode cJ7_fill_d0a16 15 = .ok (.lastore, 1) := by decide +kernel
theorem dJ7_fill_d0a16_16 : decode cJ7_fill_d0a16 16 = .ok (.iinc 3 1, 3) := by decide +kernel
theorem dJ7_fill_d0a16_19 : decode cJ7_fill_d0a16 19 = .ok (.goto (-13), 3) := by decide +kernel
theorem dJ7_fill_d0a16_22 : decode cJ7_fill_d0a16 22 = .ok (.return_, 1) := by decide +kernel
theorem dJ7_fill_53178_0 : decode cJ7_fill_53178 0 = .ok (.iconst 0, 1) := by decide +kernel
theorem dJ7_fill_53178_1 : decode cJ7_fill_53178 1 = .ok (.istore_n 2, 1) := by decide +kernel
theorem dJ7_fill_53178_2 : decode cJ7_fill_53178 2 = .ok (.aload_n 0, 1) := by decide +kernel
theorem dJ7_fill_53178_3 : decode cJ7_fill_53178 3 = .ok (.arraylength, 1) := by decide +kernel
theorem dJ7_fill_53178_4 : decode cJ7_fill_53178 4 = .ok (.istore_n 3, 1) := by decide +kernel
theorem dJ7_fill_53178_5 : decode cJ7_fill_53178 5 = .ok (.iload_n 2, 1) := by decide +kernel
theorem dJ7_fill_53178_6 : decode cJ7_fill_53178 6 = .ok (.iload_n 3, 1) := by decide +kernel
theorem dJ7_fill_53178_7 : decode cJ7_fill_53178 7 = .ok (.if_icmp .ge 13, 3) := by decide +kernel
theorem dJ7_fill_53178_10 : decode cJ7_fill_53178 10 = .ok (.aload_n 0, 1) := by decide +kernel
theorem dJ7_fill_53178_11 : decode cJ7_fill_53178 11 = .ok (.iload_n 2, 1) := by decide +kernel
theorem dJ7_fill_53178_12 : decode cJ7_fill_53178 12 = .ok (.iload_n 1, 1) := by decide +kernel
theorem dJ7_fill_53178_13 : decode cJ7_fill_53178 13 = .ok (.iastore, 1) := by decide +kernel
theorem dJ7_fill_53178_14 : decode cJ7_fill_53178 14 = .ok (.iinc 2 1, 3) := by decide +kernel
theorem dJ7_fill_53178_17 : decode cJ7_fill_53178 17 = .ok (.goto (-12), 3) := by decide +kernel
theorem dJ7_fill_53178_20 : decode cJ7_fill_53178 20 = .ok (.return_, 1) := by decide +kernel
set_option maxRecDepth 20000 in
theorem ggJ7_copyOf_1904c_J7_copyOf_6403c : GoodIn wsJ7_copyOf_1904c wsJ7_copyOf_6403c := goodIn_r _ [8, 9, 10, 11, 12, 13, 14, 15, 16, 17, 18] (by decide +kernel) (by decide +kernel)
set_option maxRecDepth 20000 in
theorem gJ7_copyOf_1904c_J7_copyOf_6403c : GoodIn wsJ7_copyOf_1904c (va_wsS RJ7 300 yJ7_copyOf_6403c wsJ7_copyOf_6403c) := goodIn_app (goodIn_of _ (by decide +kernel)) ggJ7_copyOf_1904c_J7_copyOf_6403c
theorem dJ7_copyOf_1904c_0 : decode cJ7_copyOf_1904c 0 = .ok (.aload_n 0, 1) := by decide +kernel
theorem dJ7_copyOf_1904c_1 : decode cJ7_copyOf_1904c 1 = .ok (.iload_n 1, 1) := by decide +kernel
theorem dJ7_copyOf_1904c_2 : decode cJ7_copyOf_1904c 2 = .ok (.aload_n 0, 1) := by decide +kernel
theorem dJ7_copyOf_1904c_3 : decode cJ7_copyOf_1904c 3 = .ok (.invokevirtual 86, 3) := by decide +kernel
theorem dJ7_copyOf_1904c_6 : decode cJ7_copyOf_1904c 6 = .ok (.invokestatic 300, 3) := by decide +kernel
theorem dJ7_copyOf_1904c_9 : decode cJ7_copyOf_1904c 9 = .ok (.areturn, 1) := by decide +kernel
theorem dJ7_copyOf_6403c_0 : decode cJ7_copyOf_6403c 0 = .ok (.aload_n 2, 1) := by decide +kernel
theorem dJ7_copyOf_6403c_1 : decode cJ7_copyOf_6403c 1 = .ok (.ldc 110, 2) := by decide +kernel
theorem dJ7_copyOf_6403c_3 : decode cJ7_copyOf_6403c 3 = .ok (.if_acmp .ne 10, 3) := by decide +kernel
theorem dJ7_copyOf_6403c_6 : decode cJ7_copyOf_6403c 6 = .ok (.iload_n 1, 1) := by decide +kernel
theorem dJ7_copyOf_6403c_7 : decode cJ7_copyOf_6403c 7 = .ok (.anewarray 2, 3) := by decide +kernel
theorem dJ7_copyOf_6403c_10 : decode cJ7_copyOf_6403c 10 = .ok (.goto 14, 3) := by decide +kernel
theorem dJ7_copyOf_6403c_13 : decode cJ7_copyOf_6403c 13 = .ok (.aload_n 2, 1) := by decide +kernel
theorem dJ7_copyOf_6403c_14 : decode cJ7_copyOf_6403c 14 = .ok (.invokevirtual 90, 3) := by decide +kernel
theorem dJ7_copyOf_6403c_17 : decode cJ7_copyOf_6403c 17 = .ok (.iload_n 1, 1) := by decide +kernel
theorem dJ7_copyOf_6403c_18 : decode cJ7_copyOf_6403c 18 = .ok (.invokestatic 95, 3) := by decide +kernel
theorem dJ7_copyOf_6403c_21 : decode cJ7_copyOf_6403c 21 = .ok (.checkcast 110, 3) := by decide +kernel
theorem dJ7_copyOf_6403c_24 : decode cJ7_copyOf_6403c 24 = .ok (.astore_n 3, 1) := by decide +kernel
theorem dJ7_copyOf_6403c_25 : decode cJ7_copyOf_6403c 25 = .ok (.aload_n 0, 1) := by decide +kernel
theorem dJ7_copyOf_6403c_26 : decode cJ7_copyOf_6403c 26 = .ok (.iconst 0, 1) := by decide +kernel
theorem dJ7_copyOf_6403c_27 : decode cJ7_copyOf_6403c 27 = .ok (.aload_n 3, 1) := by decide +kernel
theorem dJ7_copyOf_6403c_28 : decode cJ7_copyOf_6403c 28 = .ok (.iconst 0, 1) := by decide +kernel
theorem dJ7_copyOf_6403c_29 : decode cJ7_copyOf_6403c 29 = .ok (.aload_n 0, 1) := by decide +kernel
theorem dJ7_copyOf_6403c_30 : decode cJ7_copyOf_6403c 30 = .ok (.arraylength, 1) := by decide +kernel
theorem dJ7_copyOf_6403c_31 : decode cJ7_copyOf_6403c 31 = .ok (.iload_n 1, 1) := by decide +kernel
theorem dJ7_copyOf_6403c_32 : decode cJ7_copyOf_6403c 32 = .ok (.invokestatic 304, 3) := by decide +kernel
theorem dJ7_copyOf_6403c_35 : decode cJ7_copyOf_6403c 35 = .ok (.invokestatic 150, 3) := by decide +kernel
theorem dJ7_copyOf_6403c_38 : decode cJ7_copyOf_6403c 38 = .ok (.aload_n 3, 1) := by decide +kernel
theorem dJ7_copyOf_6403c_39 : decode cJ7_copyOf_6403c 39 = .ok (.areturn, 1) := by decide +kernel
theorem dJ7_copyOf_59c91_0 : decode cJ7_copyOf_59c91 0 = .ok (.iload_n 1, 1) := by decide +kernel
theorem dJ7_copyOf_59c91_1 : decode cJ7_copyOf_59c91 1 = .ok (.aload_n 0, 1) := by decide +kernel
theorem dJ7_copyOf_59c91_2 : decode cJ7_copyOf_59c91 2 = .ok (.arraylength, 1) := by decide +kernel
theorem dJ7_copyOf_59c91_3 : decode cJ7_copyOf_59c91 3 = .ok (.if_icmp .ne 11, 3) := by decide +kernel
theorem dJ7_copyOf_59c91_6 : decode cJ7_copyOf_59c91 6 = .ok (.aload_n 0, 1) := by decide +kernel
theorem dJ7_copyOf_59c91_7 : decode cJ7_copyOf_59c91 7 = .ok (.invokevirtual 316, 3) := by decide +kernel
theorem dJ7_copyOf_59c91_10 : decode cJ7_copyOf_59c91 10 = .ok (.checkcast 317, 3) := by decide +kernel
theorem dJ7_copyOf_59c91_13 : decode cJ7_copyOf_59c91 13 = .ok (.areturn, 1) := by decide +kernel
theorem dJ7_copyOf_59c91_14 : decode cJ7_copyOf_59c91 14 = .ok (.iload_n 1, 1) := by decide +kernel
theorem dJ7_copyOf_59c91_15 : decode cJ7_copyOf_59c91 15 = .ok (.newarray .int, 2) := by decide +kernel
theorem dJ7_copyOf_59c91_17 : decode cJ7_copyOf_59c91 17 = .ok (.astore_n 2, 1) := by decide +kernel
theorem dJ7_copyOf_59c91_18 : decode cJ7_copyOf_59c91 18 = .ok (.aload_n 0, 1) := by decide +kernel
theorem dJ7_copyOf_59c91_19 : decode cJ7_copyOf_59c91 19 = .ok (.iconst 0, 1) := by decide +kernel
theorem dJ7_copyOf_59c91_20 : decode cJ7_copyOf_59c91 20 = .ok (.aload_n 2, 1) := by decide +kernel
theorem dJ7_copyOf_59c91_21 : decode cJ7_copyOf_59c91 21 = .ok (.iconst 0, 1) := by decide +kernel
theorem dJ7_copyOf_59c91_22 : decode cJ7_copyOf_59c91 22 = .ok (.aload_n 0, 1) := by decide +kernel
theorem dJ7_copyOf_59c91_23 : decode cJ7_copyOf_59c91 23 = .ok (.arraylength, 1) := by decide +kernel
theorem dJ7_copyOf_59c91_24 : decode cJ7_copyOf_59c91 24 = .ok (.iload_n 1, 1) := by decide +kernel
theorem dJ7_copyOf_59c91_25 : decode cJ7_copyOf_59c91 25 = .ok (.invokestatic 304, 3) := by decide +kernel
theorem dJ7_copyOf_59c91_28 : decode cJ7_copyOf_59c91 28 = .ok (.invokestatic 150, 3) := by decide +kernel
theorem dJ7_copyOf_59c91_31 : decode cJ7_copyOf_59c91 31 = .ok (.aload_n 2, 1) := by decide +kernel
theorem dJ7_copyOf_59c91_32 : decode cJ7_copyOf_59c91 32 = .ok (.areturn, 1) := by decide +kernel
set_option maxRecDepth 20000 in
theorem ggJ15_checkIndex_7cf53_J3_checkIndex_8e157 : GoodIn wsJ15_checkIndex_7cf53 wsJ3_checkIndex_8e157 := goodIn_r _ [4] (by decide +kernel) (by decide +kernel)
set_option maxRecDepth 20000 in
theorem gJ15_checkIndex_7cf53_J3_checkIndex_8e157 : GoodIn wsJ15_checkIndex_7cf53 (va_wsS RJ15 105 yJ3_checkIndex_8e157 wsJ3_checkIndex_8e157) := goodIn_app (goodIn_of _ (by decide +kernel)) ggJ15_checkIndex_7cf53_J3_checkIndex_8e157
theorem dJ15_checkIndex_7cf53_0 : decode cJ15_checkIndex_7cf53 0 = .ok (.iload_n 0, 1) := by decide +kernel
theorem dJ15_checkIndex_7cf53_1 : decode cJ15_checkIndex_7cf53 1 = .ok (.iload_n 1, 1) := by decide +kernel
theorem dJ15_checkIndex_7cf53_2 : decode cJ15_checkIndex_7cf53 2 = .ok (.aconst_null, 1) := by decide +kernel
theorem dJ15_checkIndex_7cf53_3 : decode cJ15_checkIndex_7cf53 3 = .ok (.invokestatic 105, 3) := by decide +kernel
theorem dJ15_checkIndex_7cf53_6 : decode cJ15_checkIndex_7cf53 6 = .ok (.ireturn, 1) := by decide +kernel
set_option maxRecDepth 20000 in
theorem ggJ8_newLength_cabcc_J8_hugeLength_7cf53 : GoodIn wsJ8_newLength_cabcc wsJ8_hugeLength_7cf53 := goodIn_r _ [9, 5] (by decide +kernel) (by decide +kernel)
set_option maxRecDepth 20000 in
theorem gJ8_newLength_cabcc_J8_hugeLength_7cf53 : GoodIn wsJ8_newLength_cabcc (va_wsS RJ8 201 yJ8_hugeLength_7cf53 wsJ8_hugeLength_7cf53) := goodIn_app (goodIn_of _ (by decide +kernel)) ggJ8_newLength_cabcc_J8_hugeLength_7cf53
theorem dJ8_newLength_cabcc_0 : decode cJ8_newLength_cabcc 0 = .ok (.iload_n 0, 1) := by decide +kernel
theorem dJ8_newLength_cabcc_1 : decode cJ8_newLength_cabcc 1 = .ok (.iload_n 1, 1) := by decide +kernel
theorem dJ8_newLength_cabcc_2 : decode cJ8_newLength_cabcc 2 = .ok (.iload_n 2, 1) := by decide +kernel
theorem dJ8_newLength_cabcc_3 : decode cJ8_newLength_cabcc 3 = .ok (.invokestatic 194, 3) := by decide +kernel
theorem dJ8_newLength_cabcc_6 : decode cJ8_newLength_cabcc 6 = .ok (.iadd, 1) := by decide +kernel
theorem dJ8_newLength_cabcc_7 : decode cJ8_newLength_cabcc 7 = .ok (.istore_n 3, 1) := by decide +kernel
theorem dJ8_newLength_cabcc_8 : decode cJ8_newLength_cabcc 8 = .ok (.iconst 0, 1) := by decide +kernel
theorem dJ8_newLength_cabcc_9 : decode cJ8_newLength_cabcc 9 = .ok (.iload_n 3, 1) := by decide +kernel
theorem dJ8_newLength_cabcc_10 : decode cJ8_newLength_cabcc 10 = .ok (.if_icmp .ge 11, 3) := by decide +kernel
theorem dJ8_newLength_cabcc_13 : decode cJ8_newLength_cabcc 13 = .ok (.iload_n 3, 1) := by decide +kernel
theorem dJ8_newLength_cabcc_14 : decode cJ8_newLength_cabcc 14 = .ok (.ldc 200, 2) := by decide +kernel
theorem dJ8_newLength_cabcc_16 : decode cJ8_newLength_cabcc 16 = .ok (.if_icmp .gt 5, 3) := by decide +kernel
theorem dJ8_newLength_cabcc_19 : decode cJ8_newLength_cabcc 19 = .ok (.iload_n 3, 1) := by decide +kernel
theorem dJ8_newLength_cabcc_20 : decode cJ8_newLength_cabcc 20 = .ok (.ireturn, 1) := by decide +kernel
theorem dJ8_newLength_cabcc_21 : decode cJ8_newLength_cabcc 21 = .ok (.iload_n 0, 1) := by decide +kernel
theorem dJ8_newLength_cabcc_22 : decode cJ8_newLength_cabcc 22 = .ok (.iload_n 1, 1) := by decide +kernel
theorem dJ8_newLength_cabcc_23 : decode cJ8_newLength_cabcc 23 = .ok (.invokestatic 201, 3) := by decide +kernel
theorem dJ8_newLength_cabcc_26 : decode cJ8_newLength_cabcc 26 = .ok (.ireturn, 1) := by decide +kernel
theorem dJ8_hugeLength_7cf53_0 : decode cJ8_hugeLength_7cf53 0 = .ok (.iload_n 0, 1) := by decide +kernel
theorem dJ8_hugeLength_7cf53_1 : decode cJ8_hugeLength_7cf53 1 = .ok (.iload_n 1, 1) := by decide +kernel
theorem dJ8_hugeLength_7cf53_2 : decode cJ8_hugeLength_7cf53 2 = .ok (.iadd, 1) := by decide +kernel
theorem dJ8_hugeLength_7cf53_3 : decode cJ8_hugeLength_7cf53 3 = .ok (.istore_n 2, 1) := by decide +kernel
theorem dJ8_hugeLength_7cf53_4 : decode cJ8_hugeLength_7cf53 4 = .ok (.iload_n 2, 1) := by decide +kernel
theorem dJ8_hugeLength_7cf53_5 : decode cJ8_hugeLength_7cf53 5 = .ok (.ifCond .ge 44, 3) := by decide +kernel
theorem dJ8_hugeLength_7cf53_8 : decode cJ8_hugeLength_7cf53 8 = .ok (.new 204, 3) := by decide +kernel
theorem dJ8_hugeLength_7cf53_11 : decode cJ8_hugeLength_7cf53 11 = .ok (.dup, 1) := by decide +kernel
theorem dJ8_hugeLength_7cf53_12 : decode cJ8_hugeLength_7cf53 12 = .ok (.new 89, 3) := by decide +kernel
theorem dJ8_hugeLength_7cf53_15 : decode cJ8_hugeLength_7cf53 15 = .ok (.dup, 1) := by decide +kernel
theorem dJ8_hugeLength_7cf53_16 : decode cJ8_hugeLength_7cf53 16 = .ok (.invokespecial 91, 3) := by decide +kernel
theorem dJ8_hugeLength_7cf53_19 : decode cJ8_hugeLength_7cf53 19 = .ok (.ldc 206, 2) := by decide +kernel
theorem dJ8_hugeLength_7cf53_21 : decode cJ8_hugeLength_7cf53 21 = .ok (.invokevirtual 94, 3) := by decide +kernel
theorem dJ8_hugeLength_7cf53_24 : decode cJ8_hugeLength_7cf53 24 = .ok (.iload_n 0, 1) := by decide +kernel
theorem dJ8_hugeLength_7cf53_25 : decode cJ8_hugeLength_7cf53 25 = .ok (.invokevirtual 98, 3) := by decide +kernel
theorem dJ8_hugeLength_7cf53_28 : decode cJ8_hugeLength_7cf53 28 = .ok (.ldc 208, 2) := by decide +kernel
theorem dJ8_hugeLength_7cf53_30 : decode cJ8_hugeLength_7cf53 30 = .ok (.invokevirtual 94, 3) := by decide +kernel
theorem dJ8_hugeLength_7cf53_33 : decode cJ8_hugeLength_7cf53 33 = .ok (.iload_n 1, 1) := by decide +kernel
theorem dJ8_hugeLength_7cf53_34 : decode cJ8_hugeLength_7cf53 34 = .ok (.invokevirtual 98, 3) := by decide +kernel
theorem dJ8_hugeLength_7cf53_37 : decode cJ8_hugeLength_7cf53 37 = .ok (.ldc 210, 2) := by decide +kernel
theorem dJ8_hugeLength_7cf53_39 : decode cJ8_hugeLength_7cf53 39 = .ok (.invokevirtual 94, 3) := by decide +kernel
theorem dJ8_hugeLength_7cf53_42 : decode cJ8_hugeLength_7cf53 42 = .ok (.invokevirtual 101, 3) := by decide +kernel
theorem dJ8_hugeLength_7cf53_45 : decode cJ8_hugeLength_7cf53 45 = .ok (.invokespecial 212, 3) := by decide +kernel
theorem dJ8_hugeLength_7cf53_48 : decode cJ8_hugeLength_7cf53 48 = .ok (.athrow, 1) := by decide +kernel
theorem dJ8_hugeLength_7cf53_49 : decode cJ8_hugeLength_7cf53 49 = .ok (.iload_n 2, 1) := by decide +kernel
theorem dJ8_hugeLength_7cf53_50 : decode cJ8_hugeLength_7cf53 50 = .ok (.ldc 200, 2) := by decide +kernel
theorem dJ8_hugeLength_7cf53_52 : decode cJ8_hugeLength_7cf53 52 = .ok (.if_icmp .gt 6, 3) := by decide +kernel
theorem dJ8_hugeLength_7cf53_55 : decode cJ8_hugeLength_7cf53 55 = .ok (.ldc 200, 2) := by decide +kernel
theorem dJ8_hugeLength_7cf53_57 : decode cJ8_hugeLength_7cf53 57 = .ok (.ireturn, 1) := by decide +kernel
theorem dJ8_hugeLength_7cf53_58 : decode cJ8_hugeLength_7cf53 58 = .ok (.iload_n 2, 1) := by decide +kernel
theorem dJ8_hugeLength_7cf53_59 : decode cJ8_hugeLength_7cf53 59 = .ok (.ireturn, 1) := by decide +kernel
theorem dJ3_checkIndex_8e157_0 : decode cJ3_checkIndex_8e157 0 = .ok (.iload_n 0, 1) := by decide +kernel
theorem dJ3_checkIndex_8e157_1 : decode cJ3_checkIndex_8e157 1 = .ok (.ifCond .lt 8, 3) := by decide +kernel
theorem dJ3_checkIndex_8e157_4 : decode cJ3_checkIndex_8e157 4 = .ok (.iload_n 0, 1) := by decide +kernel
theorem dJ3_checkIndex_8e157_5 : decode cJ3_checkIndex_8e157 5 = .ok (.iload_n 1, 1) := by decide +kernel
theorem dJ3_checkIndex_8e157_6 : decode cJ3_checkIndex_8e157 6 = .ok (.if_icmp .lt 10, 3) := by decide +kernel
theorem dJ3_checkIndex_8e157_9 : decode cJ3_checkIndex_8e157 9 = .ok (.aload_n 2, 1) := by decide +kernel
theorem dJ3_checkIndex_8e157_10 : decode cJ3_checkIndex_8e157 10 = .ok (.iload_n 0, 1) := by decide +kernel
theorem dJ3_checkIndex_8e157_11 : decode cJ3_checkIndex_8e157 11 = .ok (.iload_n 1, 1) := by decide +kernel
theorem dJ3_checkIndex_8e157_12 : decode cJ3_checkIndex_8e157 12 = .ok (.invokestatic 95, 3) := by decide +kernel
theorem dJ3_checkIndex_8e157_15 : decode cJ3_checkIndex_8e157 15 = .ok (.athrow, 1) := by decide +kernel
theorem dJ3_checkIndex_8e157_16 : decode cJ3_checkIndex_8e157 16 = .ok (.iload_n 0, 1) := by decide +kernel
theorem dJ3_checkIndex_8e157_17 : decode cJ3_checkIndex_8e157 17 = .ok (.ireturn, 1) := by decide +kernel
