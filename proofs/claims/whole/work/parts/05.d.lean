theorem dX4_init_0 : decode cX4_init 0 = .ok (.aload_n 0, 1) := by decide +kernel
theorem dX4_init_1 : decode cX4_init 1 = .ok (.invokespecial 3, 3) := by decide +kernel
theorem dX4_init_4 : decode cX4_init 4 = .ok (.aload_n 0, 1) := by decide +kernel
theorem dX4_init_5 : decode cX4_init 5 = .ok (.sipush 1024, 3) := by decide +kernel
theorem dX4_init_8 : decode cX4_init 8 = .ok (.newarray .int, 2) := by decide +kernel
theorem dX4_init_10 : decode cX4_init 10 = .ok (.putfield 11, 3) := by decide +kernel
theorem dX4_init_13 : decode cX4_init 13 = .ok (.aload_n 0, 1) := by decide +kernel
theorem dX4_init_14 : decode cX4_init 14 = .ok (.bipush 64, 2) := by decide +kernel
theorem dX4_init_16 : decode cX4_init 16 = .ok (.newarray .long, 2) := by decide +kernel
theorem dX4_init_18 : decode cX4_init 18 = .ok (.putfield 15, 3) := by decide +kernel
theorem dX4_init_21 : decode cX4_init 21 = .ok (.aload_n 0, 1) := by decide +kernel
theorem dX4_init_22 : decode cX4_init 22 = .ok (.iconst 0, 1) := by decide +kernel
theorem dX4_init_23 : decode cX4_init 23 = .ok (.newarray .int, 2) := by decide +kernel
theorem dX4_init_25 : decode cX4_init 25 = .ok (.putfield 19, 3) := by decide +kernel
theorem dX4_init_28 : decode cX4_init 28 = .ok (.aload_n 0, 1) := by decide +kernel
theorem dX4_init_29 : decode cX4_init 29 = .ok (.aload_n 1, 1) := by decide +kernel
theorem dX4_init_30 : decode cX4_init 30 = .ok (.putfield 22, 3) := by decide +kernel
theorem dX4_init_33 : decode cX4_init 33 = .ok (.return_, 1) := by decide +kernel
set_option maxRecDepth 20000 in
theorem ggX4_silence_J7_fill_53178 : GoodIn wsX4_silence wsJ7_fill_53178 := goodIn_r _ [7] (by decide +kernel) (by decide +kernel)
set_option maxRecDepth 20000 in
theorem gX4_silence_J7_fill_53178 : GoodIn wsX4_silence (va_wsS RX4 26 yJ7_fill_53178 wsJ7_fill_53178) := goodIn_app (goodIn_of _ (by decide +kernel)) ggX4_silence_J7_fill_53178
theorem dX4_silence_0 : decode cX4_silence 0 = .ok (.aload_n 0, 1) := by decide +kernel
theorem dX4_silence_1 : decode cX4_silence 1 = .ok (.getfield 11, 3) := by decide +kernel
theorem dX4_silence_4 : decode cX4_silence 4 = .ok (.iconst 0, 1) := by decide +kernel
theorem dX4_silence_5 : decode cX4_silence 5 = .ok (.invokestatic 26, 3) := by decide +kernel
theorem dX4_silence_8 : decode cX4_silence 8 = .ok (.aload_n 0, 1) := by decide +kernel
theorem dX4_silence_9 : decode cX4_silence 9 = .ok (.iconst 0, 1) := by decide +kernel
theorem dX4_silence_10 : decode cX4_silence 10 = .ok (.putfield 32, 3) := by decide +kernel
theorem dX4_silence_13 : decode cX4_silence 13 = .ok (.aload_n 0, 1) := by decide +kernel
theorem dX4_silence_14 : decode cX4_silence 14 = .ok (.iconst 0, 1) := by decide +kernel
theorem dX4_silence_15 : decode cX4_silence 15 = .ok (.putfield 36, 3) := by decide +kernel
theorem dX4_silence_18 : decode cX4_silence 18 = .ok (.return_, 1) := by decide +kernel
theorem dX4_sampleAt_0 : decode cX4_sampleAt 0 = .ok (.iload_n 1, 1) := by decide +kernel
theorem dX4_sampleAt_1 : decode cX4_sampleAt 1 = .ok (.ifCond .lt 29, 3) := by decide +kernel
theorem dX4_sampleAt_4 : decode cX4_sampleAt 4 = .ok (.iload_n 1, 1) := by decide +kernel
theorem dX4_sampleAt_5 : decode cX4_sampleAt 5 = .ok (.aload_n 0, 1) := by decide +kernel
theorem dX4_sampleAt_6 : decode cX4_sampleAt 6 = .ok (.getfield 36, 3) := by decide +kernel
theorem dX4_sampleAt_9 : decode cX4_sampleAt 9 = .ok (.if_icmp .ge 21, 3) := by decide +kernel
theorem dX4_sampleAt_12 : decode cX4_sampleAt 12 = .ok (.iload_n 1, 1) := by decide +kernel
theorem dX4_sampleAt_13 : decode cX4_sampleAt 13 = .ok (.aload_n 0, 1) := by decide +kernel
theorem dX4_sampleAt_14 : decode cX4_sampleAt 14 = .ok (.getfield 19, 3) := by decide +kernel
theorem dX4_sampleAt_17 : decode cX4_sampleAt 17 = .ok (.arraylength, 1) := by decide +kernel
theorem dX4_sampleAt_18 : decode cX4_sampleAt 18 = .ok (.if_icmp .ge 12, 3) := by decide +kernel
theorem dX4_sampleAt_21 : decode cX4_sampleAt 21 = .ok (.aload_n 0, 1) := by decide +kernel
theorem dX4_sampleAt_22 : decode cX4_sampleAt 22 = .ok (.getfield 19, 3) := by decide +kernel
theorem dX4_sampleAt_25 : decode cX4_sampleAt 25 = .ok (.iload_n 1, 1) := by decide +kernel
theorem dX4_sampleAt_26 : decode cX4_sampleAt 26 = .ok (.iaload, 1) := by decide +kernel
theorem dX4_sampleAt_27 : decode cX4_sampleAt 27 = .ok (.goto 4, 3) := by decide +kernel
theorem dX4_sampleAt_30 : decode cX4_sampleAt 30 = .ok (.iconst 0, 1) := by decide +kernel
theorem dX4_sampleAt_31 : decode cX4_sampleAt 31 = .ok (.ireturn, 1) := by decide +kernel
theorem dX4_numberAt_0 : decode cX4_numberAt 0 = .ok (.iload_n 1, 1) := by decide +kernel
theorem dX4_numberAt_1 : decode cX4_numberAt 1 = .ok (.ifCond .lt 28, 3) := by decide +kernel
theorem dX4_numberAt_4 : decode cX4_numberAt 4 = .ok (.iload_n 1, 1) := by decide +kernel
theorem dX4_numberAt_5 : decode cX4_numberAt 5 = .ok (.sipush 1024, 3) := by decide +kernel
theorem dX4_numberAt_8 : decode cX4_numberAt 8 = .ok (.if_icmp .ge 21, 3) := by decide +kernel
theorem dX4_numberAt_11 : decode cX4_numberAt 11 = .ok (.aload_n 0, 1) := by decide +kernel
theorem dX4_numberAt_12 : decode cX4_numberAt 12 = .ok (.getfield 11, 3) := by decide +kernel
theorem dX4_numberAt_15 : decode cX4_numberAt 15 = .ok (.aload_n 0, 1) := by decide +kernel
theorem dX4_numberAt_16 : decode cX4_numberAt 16 = .ok (.getfield 32, 3) := by decide +kernel
theorem dX4_numberAt_19 : decode cX4_numberAt 19 = .ok (.iload_n 1, 1) := by decide +kernel
theorem dX4_numberAt_20 : decode cX4_numberAt 20 = .ok (.iadd, 1) := by decide +kernel
theorem dX4_numberAt_21 : decode cX4_numberAt 21 = .ok (.sipush 1023, 3) := by decide +kernel
theorem dX4_numberAt_24 : decode cX4_numberAt 24 = .ok (.iand, 1) := by decide +kernel
theorem dX4_numberAt_25 : decode cX4_numberAt 25 = .ok (.iaload, 1) := by decide +kernel
theorem dX4_numberAt_26 : decode cX4_numberAt 26 = .ok (.goto 4, 3) := by decide +kernel
theorem dX4_numberAt_29 : decode cX4_numberAt 29 = .ok (.iconst 0, 1) := by decide +kernel
theorem dX4_numberAt_30 : decode cX4_numberAt 30 = .ok (.ireturn, 1) := by decide +kernel
set_option maxRecDepth 20000 in
theorem ggX4_weightedSum_X4_sampleAt : GoodIn wsX4_weightedSum wsX4_sampleAt := goodIn_r _ [10, 1, 11, 12, 13, 14, 15, 16, 17] (by decide +kernel) (by decide +kernel)
set_option maxRecDepth 20000 in
theorem gX4_weightedSum_X4_sampleAt : GoodIn wsX4_weightedSum (wsV RX4 45 RX4 yX4_sampleAt wsX4_sampleAt) := goodIn_app (goodIn_of _ (by decide +kernel)) ggX4_weightedSum_X4_sampleAt
theorem dX4_weightedSum_0 : decode cX4_weightedSum 0 = .ok (.iload_n 2, 1) := by decide +kernel
theorem dX4_weightedSum_1 : decode cX4_weightedSum 1 = .ok (.aload_n 0, 1) := by decide +kernel
theorem dX4_weightedSum_2 : decode cX4_weightedSum 2 = .ok (.getfield 36, 3) := by decide +kernel
theorem dX4_weightedSum_5 : decode cX4_weightedSum 5 = .ok (.invokestatic 39, 3) := by decide +kernel
theorem dX4_weightedSum_8 : decode cX4_weightedSum 8 = .ok (.istore_n 3, 1) := by decide +kernel
theorem dX4_weightedSum_9 : decode cX4_weightedSum 9 = .ok (.iconst 0, 1) := by decide +kernel
theorem dX4_weightedSum_10 : decode cX4_weightedSum 10 = .ok (.istore 4, 2) := by decide +kernel
theorem dX4_weightedSum_12 : decode cX4_weightedSum 12 = .ok (.iload_n 1, 1) := by decide +kernel
theorem dX4_weightedSum_13 : decode cX4_weightedSum 13 = .ok (.istore 5, 2) := by decide +kernel
theorem dX4_weightedSum_15 : decode cX4_weightedSum 15 = .ok (.iload 5, 2) := by decide +kernel
theorem dX4_weightedSum_17 : decode cX4_weightedSum 17 = .ok (.iload_n 3, 1) := by decide +kernel
theorem dX4_weightedSum_18 : decode cX4_weightedSum 18 = .ok (.if_icmp .ge 27, 3) := by decide +kernel
theorem dX4_weightedSum_21 : decode cX4_weightedSum 21 = .ok (.iload 4, 2) := by decide +kernel
theorem dX4_weightedSum_23 : decode cX4_weightedSum 23 = .ok (.aload_n 0, 1) := by decide +kernel
theorem dX4_weightedSum_24 : decode cX4_weightedSum 24 = .ok (.iload 5, 2) := by decide +kernel
theorem dX4_weightedSum_26 : decode cX4_weightedSum 26 = .ok (.invokevirtual 45, 3) := by decide +kernel
theorem dX4_weightedSum_29 : decode cX4_weightedSum 29 = .ok (.iload 5, 2) := by decide +kernel
theorem dX4_weightedSum_31 : decode cX4_weightedSum 31 = .ok (.iload_n 1, 1) := by decide +kernel
theorem dX4_weightedSum_32 : decode cX4_weightedSum 32 = .ok (.isub, 1) := by decide +kernel
theorem dX4_weightedSum_33 : decode cX4_weightedSum 33 = .ok (.iconst 1, 1) := by decide +kernel
theorem dX4_weightedSum_34 : decode cX4_weightedSum 34 = .ok (.iadd, 1) := by decide +kernel
theorem dX4_weightedSum_35 : decode cX4_weightedSum 35 = .ok (.imul, 1) := by decide +kernel
theorem dX4_weightedSum_36 : decode cX4_weightedSum 36 = .ok (.iadd, 1) := by decide +kernel
theorem dX4_weightedSum_37 : decode cX4_weightedSum 37 = .ok (.istore 4, 2) := by decide +kernel
theorem dX4_weightedSum_39 : decode cX4_weightedSum 39 = .ok (.iinc 5 1, 3) := by decide +kernel
theorem dX4_weightedSum_42 : decode cX4_weightedSum 42 = .ok (.goto (-27), 3) := by decide +kernel
theorem dX4_weightedSum_45 : decode cX4_weightedSum 45 = .ok (.iload 4, 2) := by decide +kernel
theorem dX4_weightedSum_47 : decode cX4_weightedSum 47 = .ok (.ireturn, 1) := by decide +kernel
set_option maxRecDepth 20000 in
theorem ggX4_sound_X4_makeRoom : GoodIn wsX4_sound wsX4_makeRoom := goodIn_r _ [7, 8, 9, 10, 11, 12, 13, 14, 15, 16, 17, 18, 19, 20, 21, 22, 23, 24, 25, 26, 27, 28, 29, 30, 31, 76, 77, 78, 79, 80, 81] (by decide +kernel) (by decide +kernel)
set_option maxRecDepth 20000 in
theorem gX4_sound_X4_makeRoom : GoodIn wsX4_sound (wsV RX4 54 RX4 yX4_makeRoom wsX4_makeRoom) := goodIn_app (goodIn_of _ (by decide +kernel)) ggX4_sound_X4_makeRoom
set_option maxRecDepth 20000 in
theorem ggX4_sound_X1_rowIndex : GoodIn wsX4_sound wsX1_rowIndex := goodIn_r _ [35] (by decide +kernel) (by decide +kernel)
set_option maxRecDepth 20000 in
theorem gX4_sound_X1_rowIndex : GoodIn wsX4_sound (va_wsS RX4 59 yX1_rowIndex wsX1_rowIndex) := goodIn_app (goodIn_of _ (by decide +kernel)) ggX4_sound_X1_rowIndex
set_option maxRecDepth 20000 in
theorem ggX4_sound_X4_takeRow : GoodIn wsX4_sound wsX4_takeRow := goodIn_r _ [39, 40, 41, 42, 43, 44, 45, 16, 46, 47, 48, 49, 6, 50, 51, 52, 76, 77, 78, 79, 80, 81, 82, 83] (by decide +kernel) (by decide +kernel)
set_option maxRecDepth 20000 in
theorem gX4_sound_X4_takeRow : GoodIn wsX4_sound (wsV RX4 62 RX4 yX4_takeRow wsX4_takeRow) := goodIn_app (goodIn_of _ (by decide +kernel)) ggX4_sound_X4_takeRow
set_option maxRecDepth 20000 in
theorem ggX4_sound_X4_makeSamples : GoodIn wsX4_sound wsX4_makeSamples := goodIn_r _ [56, 8, 9, 57, 58, 59, 6, 60, 61, 41, 51, 62, 42, 63, 64, 65, 66, 12, 67, 68, 69, 70, 76, 77, 78, 79, 80, 81, 82, 83] (by decide +kernel) (by decide +kernel)
set_option maxRecDepth 20000 in
theorem gX4_sound_X4_makeSamples : GoodIn wsX4_sound (wsV RX4 65 RX4 yX4_makeSamples wsX4_makeSamples) := goodIn_app (goodIn_of _ (by decide +kernel)) ggX4_sound_X4_makeSamples
theorem dX4_sound_0 : decode cX4_sound 0 = .ok (.aload_n 0, 1) := by decide +kernel
theorem dX4_sound_1 : decode cX4_sound 1 = .ok (.aload_n 1, 1) := by decide +kernel
theorem dX4_sound_2 : decode cX4_sound 2 = .ok (.getfield 49, 3) := by decide +kernel
theorem dX4_sound_5 : decode cX4_sound 5 = .ok (.bipush 32, 2) := by decide +kernel
theorem dX4_sound_7 : decode cX4_sound 7 = .ok (.imul, 1) := by decide +kernel
theorem dX4_sound_8 : decode cX4_sound 8 = .ok (.invokevirtual 54, 3) := by decide +kernel
theorem dX4_sound_11 : decode cX4_sound 11 = .ok (.iconst 0, 1) := by decide +kernel
theorem dX4_sound_12 : decode cX4_sound 12 = .ok (.istore_n 3, 1) := by decide +kernel
theorem dX4_sound_13 : decode cX4_sound 13 = .ok (.iload_n 3, 1) := by decide +kernel
theorem dX4_sound_14 : decode cX4_sound 14 = .ok (.aload_n 1, 1) := by decide +kernel
theorem dX4_sound_15 : decode cX4_sound 15 = .ok (.getfield 49, 3) := by decide +kernel
theorem dX4_sound_18 : decode cX4_sound 18 = .ok (.if_icmp .ge 26, 3) := by decide +kernel
theorem dX4_sound_21 : decode cX4_sound 21 = .ok (.aload_n 0, 1) := by decide +kernel
theorem dX4_sound_22 : decode cX4_sound 22 = .ok (.aload_n 1, 1) := by decide +kernel
theorem dX4_sound_23 : decode cX4_sound 23 = .ok (.getfield 58, 3) := by decide +kernel
theorem dX4_sound_26 : decode cX4_sound 26 = .ok (.iload_n 2, 1) := by decide +kernel
theorem dX4_sound_27 : decode cX4_sound 27 = .ok (.iload_n 3, 1) := by decide +kernel
theorem dX4_sound_28 : decode cX4_sound 28 = .ok (.invokestatic 59, 3) := by decide +kernel
theorem dX4_sound_31 : decode cX4_sound 31 = .ok (.invokevirtual 62, 3) := by decide +kernel
theorem dX4_sound_34 : decode cX4_sound 34 = .ok (.aload_n 0, 1) := by decide +kernel
theorem dX4_sound_35 : decode cX4_sound 35 = .ok (.invokevirtual 65, 3) := by decide +kernel
theorem dX4_sound_38 : decode cX4_sound 38 = .ok (.iinc 3 1, 3) := by decide +kernel
theorem dX4_sound_41 : decode cX4_sound 41 = .ok (.goto (-28), 3) := by decide +kernel
theorem dX4_sound_44 : decode cX4_sound 44 = .ok (.return_, 1) := by decide +kernel
set_option maxRecDepth 20000 in
theorem ggX4_makeRoom_J7_copyOf_59c91 : GoodIn wsX4_makeRoom wsJ7_copyOf_59c91 := goodIn_r _ [10, 11, 12, 13, 14, 15, 16, 17, 18, 19, 5, 20, 21, 22, 23, 24] (by decide +kernel) (by decide +kernel)
set_option maxRecDepth 20000 in
theorem gX4_makeRoom_J7_copyOf_59c91 : GoodIn wsX4_makeRoom (va_wsS RX4 71 yJ7_copyOf_59c91 wsJ7_copyOf_59c91) := goodIn_app (goodIn_of _ (by decide +kernel)) ggX4_makeRoom_J7_copyOf_59c91
theorem dX4_makeRoom_0 : decode cX4_makeRoom 0 = .ok (.aload_n 0, 1) := by decide +kernel
theorem dX4_makeRoom_1 : decode cX4_makeRoom 1 = .ok (.getfield 36, 3) := by decide +kernel
theorem dX4_makeRoom_4 : decode cX4_makeRoom 4 = .ok (.iload_n 1, 1) := by decide +kernel
theorem dX4_makeRoom_5 : decode cX4_makeRoom 5 = .ok (.iadd, 1) := by decide +kernel
theorem dX4_makeRoom_6 : decode cX4_makeRoom 6 = .ok (.istore_n 2, 1) := by decide +kernel
theorem dX4_makeRoom_7 : decode cX4_makeRoom 7 = .ok (.iload_n 2, 1) := by decide +kernel
theorem dX4_makeRoom_8 : decode cX4_makeRoom 8 = .ok (.aload_n 0, 1) := by decide +kernel
theorem dX4_makeRoom_9 : decode cX4_makeRoom 9 = .ok (.getfield 19, 3) := by decide +kernel
theorem dX4_makeRoom_12 : decode cX4_makeRoom 12 = .ok (.arraylength, 1) := by decide +kernel
theorem dX4_makeRoom_13 : decode cX4_makeRoom 13 = .ok (.if_icmp .le 25, 3) := by decide +kernel
theorem dX4_makeRoom_16 : decode cX4_makeRoom 16 = .ok (.aload_n 0, 1) := by decide +kernel
theorem dX4_makeRoom_17 : decode cX4_makeRoom 17 = .ok (.aload_n 0, 1) := by decide +kernel
theorem dX4_makeRoom_18 : decode cX4_makeRoom 18 = .ok (.getfield 19, 3) := by decide +kernel
theorem dX4_makeRoom_21 : decode cX4_makeRoom 21 = .ok (.iload_n 2, 1) := by decide +kernel
theorem dX4_makeRoom_22 : decode cX4_makeRoom 22 = .ok (.iconst 2, 1) := by decide +kernel
theorem dX4_makeRoom_23 : decode cX4_makeRoom 23 = .ok (.aload_n 0, 1) := by decide +kernel
theorem dX4_makeRoom_24 : decode cX4_makeRoom 24 = .ok (.getfield 19, 3) := by decide +kernel
theorem dX4_makeRoom_27 : decode cX4_makeRoom 27 = .ok (.arraylength, 1) := by decide +kernel
theorem dX4_makeRoom_28 : decode cX4_makeRoom 28 = .ok (.imul, 1) := by decide +kernel
theorem dX4_makeRoom_29 : decode cX4_makeRoom 29 = .ok (.invokestatic 68, 3) := by decide +kernel
theorem dX4_makeRoom_32 : decode cX4_makeRoom 32 = .ok (.invokestatic 71, 3) := by decide +kernel
theorem dX4_makeRoom_35 : decode cX4_makeRoom 35 = .ok (.putfield 19, 3) := by decide +kernel
theorem dX4_makeRoom_38 : decode cX4_makeRoom 38 = .ok (.return_, 1) := by decide +kernel
set_option maxRecDepth 20000 in
theorem ggX4_takeRow_J7_fill_d0a16 : GoodIn wsX4_takeRow wsJ7_fill_d0a16 := goodIn_r _ [8] (by decide +kernel) (by decide +kernel)
set_option maxRecDepth 20000 in
theorem gX4_takeRow_J7_fill_d0a16 : GoodIn wsX4_takeRow (va_wsS RX4 75 yJ7_fill_d0a16 wsJ7_fill_d0a16) := goodIn_app (goodIn_of _ (by decide +kernel)) ggX4_takeRow_J7_fill_d0a16
set_option maxRecDepth 20000 in
theorem ggX4_takeRow_X4_addBand : GoodIn wsX4_takeRow wsX4_addBand := goodIn_r _ [13, 1, 14, 15, 16, 17, 18, 19, 20, 21, 22, 23] (by decide +kernel) (by decide +kernel)
set_option maxRecDepth 20000 in
theorem gX4_takeRow_X4_addBand : GoodIn wsX4_takeRow (wsV RX4 78 RX4 yX4_addBand wsX4_addBand) := goodIn_app (goodIn_of _ (by decide +kernel)) ggX4_takeRow_X4_addBand
theorem dX4_takeRow_0 : decode cX4_takeRow 0 = .ok (.aload_n 0, 1) := by decide +kernel
theorem dX4_takeRow_1 : decode cX4_takeRow 1 = .ok (.getfield 15, 3) := by decide +kernel
theorem dX4_takeRow_4 : decode cX4_takeRow 4 = .ok (.lconst 0, 1) := by decide +kernel
theorem dX4_takeRow_5 : decode cX4_takeRow 5 = .ok (.invokestatic 75, 3) := by decide +kernel
theorem dX4_takeRow_8 : decode cX4_takeRow 8 = .ok (.iload_n 2, 1) := by decide +kernel
theorem dX4_takeRow_9 : decode cX4_takeRow 9 = .ok (.ifCond .lt 40, 3) := by decide +kernel
theorem dX4_takeRow_12 : decode cX4_takeRow 12 = .ok (.iload_n 2, 1) := by decide +kernel
theorem dX4_takeRow_13 : decode cX4_takeRow 13 = .ok (.bipush 32, 2) := by decide +kernel
theorem dX4_takeRow_15 : decode cX4_takeRow 15 = .ok (.iadd, 1) := by decide +kernel
theorem dX4_takeRow_16 : decode cX4_takeRow 16 = .ok (.aload_n 1, 1) := by decide +kernel
theorem dX4_takeRow_17 : decode cX4_takeRow 17 = .ok (.arraylength, 1) := by decide +kernel
theorem dX4_takeRow_18 : decode cX4_takeRow 18 = .ok (.if_icmp .gt 31, 3) := by decide +kernel
theorem dX4_takeRow_21 : decode cX4_takeRow 21 = .ok (.iconst 0, 1) := by decide +kernel
theorem dX4_takeRow_22 : decode cX4_takeRow 22 = .ok (.istore_n 3, 1) := by decide +kernel
theorem dX4_takeRow_23 : decode cX4_takeRow 23 = .ok (.iload_n 3, 1) := by decide +kernel
theorem dX4_takeRow_24 : decode cX4_takeRow 24 = .ok (.bipush 32, 2) := by decide +kernel
theorem dX4_takeRow_26 : decode cX4_takeRow 26 = .ok (.if_icmp .ge 23, 3) := by decide +kernel
theorem dX4_takeRow_29 : decode cX4_takeRow 29 = .ok (.aload_n 0, 1) := by decide +kernel
theorem dX4_takeRow_30 : decode cX4_takeRow 30 = .ok (.aload_n 1, 1) := by decide +kernel
theorem dX4_takeRow_31 : decode cX4_takeRow 31 = .ok (.iload_n 2, 1) := by decide +kernel
theorem dX4_takeRow_32 : decode cX4_takeRow 32 = .ok (.iload_n 3, 1) := by decide +kernel
theorem dX4_takeRow_33 : decode cX4_takeRow 33 = .ok (.iadd, 1) := by decide +kernel
theorem dX4_takeRow_34 : decode cX4_takeRow 34 = .ok (.iaload, 1) := by decide +kernel
theorem dX4_takeRow_35 : decode cX4_takeRow 35 = .ok (.iconst 2, 1) := by decide +kernel
theorem dX4_takeRow_36 : decode cX4_takeRow 36 = .ok (.iload_n 3, 1) := by decide +kernel
theorem dX4_takeRow_37 : decode cX4_takeRow 37 = .ok (.imul, 1) := by decide +kernel
theorem dX4_takeRow_38 : decode cX4_takeRow 38 = .ok (.iconst 1, 1) := by decide +kernel
theorem dX4_takeRow_39 : decode cX4_takeRow 39 = .ok (.iadd, 1) := by decide +kernel
theorem dX4_takeRow_40 : decode cX4_takeRow 40 = .ok (.invokevirtual 78, 3) := by decide +kernel
theorem dX4_takeRow_43 : decode cX4_takeRow 43 = .ok (.iinc 3 1, 3) := by decide +kernel
theorem dX4_takeRow_46 : decode cX4_takeRow 46 = .ok (.goto (-23), 3) := by decide +kernel
theorem dX4_takeRow_49 : decode cX4_takeRow 49 = .ok (.aload_n 0, 1) := by decide +kernel
theorem dX4_takeRow_50 : decode cX4_takeRow 50 = .ok (.aload_n 0, 1) := by decide +kernel
theorem dX4_takeRow_51 : decode cX4_takeRow 51 = .ok (.getfield 32, 3) := by decide +kernel
theorem dX4_takeRow_54 : decode cX4_takeRow 54 = .ok (.bipush 64, 2) := by decide +kernel
theorem dX4_takeRow_56 : decode cX4_takeRow 56 = .ok (.isub, 1) := by decide +kernel
theorem dX4_takeRow_57 : decode cX4_takeRow 57 = .ok (.sipush 1023, 3) := by decide +kernel
theorem dX4_takeRow_60 : decode cX4_takeRow 60 = .ok (.iand, 1) := by decide +kernel
theorem dX4_takeRow_61 : decode cX4_takeRow 61 = .ok (.putfield 32, 3) := by decide +kernel
theorem dX4_takeRow_64 : decode cX4_takeRow 64 = .ok (.iconst 0, 1) := by decide +kernel
theorem dX4_takeRow_65 : decode cX4_takeRow 65 = .ok (.istore_n 3, 1) := by decide +kernel
theorem dX4_takeRow_66 : decode cX4_takeRow 66 = .ok (.iload_n 3, 1) := by decide +kernel
theorem dX4_takeRow_67 : decode cX4_takeRow 67 = .ok (.bipush 64, 2) := by decide +kernel
theorem dX4_takeRow_69 : decode cX4_takeRow 69 = .ok (.if_icmp .ge 38, 3) := by decide +kernel
theorem dX4_takeRow_72 : decode cX4_takeRow 72 = .ok (.aload_n 0, 1) := by decide +kernel
theorem dX4_takeRow_73 : decode cX4_takeRow 73 = .ok (.getfield 11, 3) := by decide +kernel
theorem dX4_takeRow_76 : decode cX4_takeRow 76 = .ok (.aload_n 0, 1) := by decide +kernel
theorem dX4_takeRow_77 : decode cX4_takeRow 77 = .ok (.getfield 32, 3) := by decide +kernel
theorem dX4_takeRow_80 : decode cX4_takeRow 80 = .ok (.iload_n 3, 1) := by decide +kernel
theorem dX4_takeRow_81 : decode cX4_takeRow 81 = .ok (.iadd, 1) := by decide +kernel
theorem dX4_takeRow_82 : decode cX4_takeRow 82 = .ok (.sipush 1023, 3) := by decide +kernel
theorem dX4_takeRow_85 : decode cX4_takeRow 85 = .ok (.iand, 1) := by decide +kernel
theorem dX4_takeRow_86 : decode cX4_takeRow 86 = .ok (.aload_n 0, 1) := by decide +kernel
theorem dX4_takeRow_87 : decode cX4_takeRow 87 = .ok (.getfield 15, 3) := by decide +kernel
theorem dX4_takeRow_90 : decode cX4_takeRow 90 = .ok (.iload_n 3, 1) := by decide +kernel
theorem dX4_takeRow_91 : decode cX4_takeRow 91 = .ok (.laload, 1) := by decide +kernel
theorem dX4_takeRow_92 : decode cX4_takeRow 92 = .ok (.ldc2_w 82, 3) := by decide +kernel
theorem dX4_takeRow_95 : decode cX4_takeRow 95 = .ok (.ladd, 1) := by decide +kernel
theorem dX4_takeRow_96 : decode cX4_takeRow 96 = .ok (.bipush 14, 2) := by decide +kernel
theorem dX4_takeRow_98 : decode cX4_takeRow 98 = .ok (.lshr, 1) := by decide +kernel
theorem dX4_takeRow_99 : decode cX4_takeRow 99 = .ok (.l2i, 1) := by decide +kernel
theorem dX4_takeRow_100 : decode cX4_takeRow 100 = .ok (.iastore, 1) := by decide +kernel
theorem dX4_takeRow_101 : decode cX4_takeRow 101 = .ok (.iinc 3 1, 3) := by decide +kernel
theorem dX4_takeRow_104 : decode cX4_takeRow 104 = .ok (.goto (-38), 3) := by decide +kernel
theorem dX4_takeRow_107 : decode cX4_takeRow 107 = .ok (.return_, 1) := by decide +kernel
theorem dX4_addBand_0 : decode cX4_addBand 0 = .ok (.iload_n 1, 1) := by decide +kernel
theorem dX4_addBand_1 : decode cX4_addBand 1 = .ok (.ifCond .ne 4, 3) := by decide +kernel
theorem dX4_addBand_4 : decode cX4_addBand 4 = .ok (.return_, 1) := by decide +kernel
theorem dX4_addBand_5 : decode cX4_addBand 5 = .ok (.iconst 0, 1) := by decide +kernel
theorem dX4_addBand_6 : decode cX4_addBand 6 = .ok (.istore_n 3, 1) := by decide +kernel
theorem dX4_addBand_7 : decode cX4_addBand 7 = .ok (.iload_n 3, 1) := by decide +kernel
theorem dX4_addBand_8 : decode cX4_addBand 8 = .ok (.bipush 64, 2) := by decide +kernel
theorem dX4_addBand_10 : decode cX4_addBand 10 = .ok (.if_icmp .ge 39, 3) := by decide +kernel
theorem dX4_addBand_13 : decode cX4_addBand 13 = .ok (.aload_n 0, 1) := by decide +kernel
theorem dX4_addBand_14 : decode cX4_addBand 14 = .ok (.getfield 15, 3) := by decide +kernel
theorem dX4_addBand_17 : decode cX4_addBand 17 = .ok (.iload_n 3, 1) := by decide +kernel
theorem dX4_addBand_18 : decode cX4_addBand 18 = .ok (.dup2, 1) := by decide +kernel
theorem dX4_addBand_19 : decode cX4_addBand 19 = .ok (.laload, 1) := by decide +kernel
theorem dX4_addBand_20 : decode cX4_addBand 20 = .ok (.aload_n 0, 1) := by decide +kernel
theorem dX4_addBand_21 : decode cX4_addBand 21 = .ok (.getfield 22, 3) := by decide +kernel
theorem dX4_addBand_24 : decode cX4_addBand 24 = .ok (.getfield 84, 3) := by decide +kernel
theorem dX4_addBand_27 : decode cX4_addBand 27 = .ok (.bipush 16, 2) := by decide +kernel
theorem dX4_addBand_29 : decode cX4_addBand 29 = .ok (.iload_n 3, 1) := by decide +kernel
theorem dX4_addBand_30 : decode cX4_addBand 30 = .ok (.iadd, 1) := by decide +kernel
theorem dX4_addBand_31 : decode cX4_addBand 31 = .ok (.iload_n 2, 1) := by decide +kernel
theorem dX4_addBand_32 : decode cX4_addBand 32 = .ok (.imul, 1) := by decide +kernel
theorem dX4_addBand_33 : decode cX4_addBand 33 = .ok (.bipush 127, 2) := by decide +kernel
theorem dX4_addBand_35 : decode cX4_addBand 35 = .ok (.iand, 1) := by decide +kernel
theorem dX4_addBand_36 : decode cX4_addBand 36 = .ok (.iaload, 1) := by decide +kernel
theorem dX4_addBand_37 : decode cX4_addBand 37 = .ok (.i2l, 1) := by decide +kernel
theorem dX4_addBand_38 : decode cX4_addBand 38 = .ok (.iload_n 1, 1) := by decide +kernel
theorem dX4_addBand_39 : decode cX4_addBand 39 = .ok (.i2l, 1) := by decide +kernel
theorem dX4_addBand_40 : decode cX4_addBand 40 = .ok (.lmul, 1) := by decide +kernel
theorem dX4_addBand_41 : decode cX4_addBand 41 = .ok (.ladd, 1) := by decide +kernel
theorem dX4_addBand_42 : decode cX4_addBand 42 = .ok (.lastore, 1) := by decide +kernel
theorem dX4_addBand_43 : decode cX4_addBand 43 = .ok (.iinc 3 1, 3) := by decide +kernel
theorem dX4_addBand_46 : decode cX4_addBand 46 = .ok (.goto (-39), 3) := by decide +kernel
theorem dX4_addBand_49 : decode cX4_addBand 49 = .ok (.return_, 1) := by decide +kernel
set_option maxRecDepth 20000 in
theorem ggX4_makeSamples_X4_makeSample : GoodIn wsX4_makeSamples wsX4_makeSample := goodIn_r _ [7, 8, 9, 10, 11, 12, 13, 14, 15, 16, 17, 18, 19, 20, 21, 22, 23, 24, 25, 26, 27, 28, 29] (by decide +kernel) (by decide +kernel)
set_option maxRecDepth 20000 in
theorem gX4_makeSamples_X4_makeSample : GoodIn wsX4_makeSamples (wsV RX4 89 RX4 yX4_makeSample wsX4_makeSample) := goodIn_app (goodIn_of _ (by decide +kernel)) ggX4_makeSamples_X4_makeSample
theorem dX4_makeSamples_0 : decode cX4_makeSamples 0 = .ok (.aload_n 0, 1) := by decide +kernel
theorem dX4_makeSamples_1 : decode cX4_makeSamples 1 = .ok (.getfield 36, 3) := by decide +kernel
theorem dX4_makeSamples_4 : decode cX4_makeSamples 4 = .ok (.bipush 32, 2) := by decide +kernel
theorem dX4_makeSamples_6 : decode cX4_makeSamples 6 = .ok (.iadd, 1) := by decide +kernel
theorem dX4_makeSamples_7 : decode cX4_makeSamples 7 = .ok (.aload_n 0, 1) := by decide +kernel
theorem dX4_makeSamples_8 : decode cX4_makeSamples 8 = .ok (.getfield 19, 3) := by decide +kernel
theorem dX4_makeSamples_11 : decode cX4_makeSamples 11 = .ok (.arraylength, 1) := by decide +kernel
theorem dX4_makeSamples_12 : decode cX4_makeSamples 12 = .ok (.if_icmp .le 4, 3) := by decide +kernel
theorem dX4_makeSamples_15 : decode cX4_makeSamples 15 = .ok (.return_, 1) := by decide +kernel
theorem dX4_makeSamples_16 : decode cX4_makeSamples 16 = .ok (.iconst 0, 1) := by decide +kernel
theorem dX4_makeSamples_17 : decode cX4_makeSamples 17 = .ok (.istore_n 1, 1) := by decide +kernel
theorem dX4_makeSamples_18 : decode cX4_makeSamples 18 = .ok (.iload_n 1, 1) := by decide +kernel
theorem dX4_makeSamples_19 : decode cX4_makeSamples 19 = .ok (.bipush 32, 2) := by decide +kernel
theorem dX4_makeSamples_21 : decode cX4_makeSamples 21 = .ok (.if_icmp .ge 25, 3) := by decide +kernel
theorem dX4_makeSamples_24 : decode cX4_makeSamples 24 = .ok (.aload_n 0, 1) := by decide +kernel
theorem dX4_makeSamples_25 : decode cX4_makeSamples 25 = .ok (.getfield 19, 3) := by decide +kernel
theorem dX4_makeSamples_28 : decode cX4_makeSamples 28 = .ok (.aload_n 0, 1) := by decide +kernel
theorem dX4_makeSamples_29 : decode cX4_makeSamples 29 = .ok (.getfield 36, 3) := by decide +kernel
theorem dX4_makeSamples_32 : decode cX4_makeSamples 32 = .ok (.iload_n 1, 1) := by decide +kernel
theorem dX4_makeSamples_33 : decode cX4_makeSamples 33 = .ok (.iadd, 1) := by decide +kernel
theorem dX4_makeSamples_34 : decode cX4_makeSamples 34 = .ok (.aload_n 0, 1) := by decide +kernel
theorem dX4_makeSamples_35 : decode cX4_makeSamples 35 = .ok (.iload_n 1, 1) := by decide +kernel
theorem dX4_makeSamples_36 : decode cX4_makeSamples 36 = .ok (.invokevirtual 89, 3) := by decide +kernel
theorem dX4_makeSamples_39 : decode cX4_makeSamples 39 = .ok (.iastore, 1) := by decide +kernel
theorem dX4_makeSamples_40 : decode cX4_makeSamples 40 = .ok (.iinc 1 1, 3) := by decide +kernel
theorem dX4_makeSamples_43 : decode cX4_makeSamples 43 = .ok (.goto (-25), 3) := by decide +kernel
theorem dX4_makeSamples_46 : decode cX4_makeSamples 46 = .ok (.aload_n 0, 1) := by decide +kernel
theorem dX4_makeSamples_47 : decode cX4_makeSamples 47 = .ok (.dup, 1) := by decide +kernel
theorem dX4_makeSamples_48 : decode cX4_makeSamples 48 = .ok (.getfield 36, 3) := by decide +kernel
theorem dX4_makeSamples_51 : decode cX4_makeSamples 51 = .ok (.bipush 32, 2) := by decide +kernel
theorem dX4_makeSamples_53 : decode cX4_makeSamples 53 = .ok (.iadd, 1) := by decide +kernel
theorem dX4_makeSamples_54 : decode cX4_makeSamples 54 = .ok (.putfield 36, 3) := by decide +kernel
theorem dX4_makeSamples_57 : decode cX4_makeSamples 57 = .ok (.return_, 1) := by decide +kernel
theorem dX4_makeSample_0 : decode cX4_makeSample 0 = .ok (.ldc2_w 92, 3) := by decide +kernel
theorem dX4_makeSample_3 : decode cX4_makeSample 3 = .ok (.lstore_n 2, 1) := by decide +kernel
theorem dX4_makeSample_4 : decode cX4_makeSample 4 = .ok (.iconst 0, 1) := by decide +kernel
theorem dX4_makeSample_5 : decode cX4_makeSample 5 = .ok (.istore 4, 2) := by decide +kernel
theorem dX4_makeSample_7 : decode cX4_makeSample 7 = .ok (.iload 4, 2) := by decide +kernel
theorem dX4_makeSample_9 : decode cX4_makeSample 9 = .ok (.bipush 8, 2) := by decide +kernel
theorem dX4_makeSample_11 : decode cX4_makeSample 11 = .ok (.if_icmp .ge 101, 3) := by decide +kernel
theorem dX4_makeSample_14 : decode cX4_makeSample 14 = .ok (.aload_n 0, 1) := by decide +kernel
theorem dX4_makeSample_15 : decode cX4_makeSample 15 = .ok (.getfield 32, 3) := by decide +kernel
theorem dX4_makeSample_18 : decode cX4_makeSample 18 = .ok (.sipush 128, 3) := by decide +kernel
theorem dX4_makeSample_21 : decode cX4_makeSample 21 = .ok (.iload 4, 2) := by decide +kernel
theorem dX4_makeSample_23 : decode cX4_makeSample 23 = .ok (.imul, 1) := by decide +kernel
theorem dX4_makeSample_24 : decode cX4_makeSample 24 = .ok (.iadd, 1) := by decide +kernel
theorem dX4_makeSample_25 : decode cX4_makeSample 25 = .ok (.iload_n 1, 1) := by decide +kernel
theorem dX4_makeSample_26 : decode cX4_makeSample 26 = .ok (.iadd, 1) := by decide +kernel
theorem dX4_makeSample_27 : decode cX4_makeSample 27 = .ok (.istore 5, 2) := by decide +kernel
theorem dX4_makeSample_29 : decode cX4_makeSample 29 = .ok (.bipush 64, 2) := by decide +kernel
theorem dX4_makeSample_31 : decode cX4_makeSample 31 = .ok (.iload 4, 2) := by decide +kernel
theorem dX4_makeSample_33 : decode cX4_makeSample 33 = .ok (.imul, 1) := by decide +kernel
theorem dX4_makeSample_34 : decode cX4_makeSample 34 = .ok (.iload_n 1, 1) := by decide +kernel
theorem dX4_makeSample_35 : decode cX4_makeSample 35 = .ok (.iadd, 1) := by decide +kernel
theorem dX4_makeSample_36 : decode cX4_makeSample 36 = .ok (.sipush 511, 3) := by decide +kernel
theorem dX4_makeSample_39 : decode cX4_makeSample 39 = .ok (.iand, 1) := by decide +kernel
theorem dX4_makeSample_40 : decode cX4_makeSample 40 = .ok (.istore 6, 2) := by decide +kernel
theorem dX4_makeSample_42 : decode cX4_makeSample 42 = .ok (.lload_n 2, 1) := by decide +kernel
theorem dX4_makeSample_43 : decode cX4_makeSample 43 = .ok (.aload_n 0, 1) := by decide +kernel
theorem dX4_makeSample_44 : decode cX4_makeSample 44 = .ok (.getfield 22, 3) := by decide +kernel
theorem dX4_makeSample_47 : decode cX4_makeSample 47 = .ok (.getfield 94, 3) := by decide +kernel
theorem dX4_makeSample_50 : decode cX4_makeSample 50 = .ok (.iload 6, 2) := by decide +kernel
theorem dX4_makeSample_52 : decode cX4_makeSample 52 = .ok (.iaload, 1) := by decide +kernel
theorem dX4_makeSample_53 : decode cX4_makeSample 53 = .ok (.i2l, 1) := by decide +kernel
theorem dX4_makeSample_54 : decode cX4_makeSample 54 = .ok (.aload_n 0, 1) := by decide +kernel
theorem dX4_makeSample_55 : decode cX4_makeSample 55 = .ok (.getfield 11, 3) := by decide +kernel
theorem dX4_makeSample_58 : decode cX4_makeSample 58 = .ok (.iload 5, 2) := by decide +kernel
theorem dX4_makeSample_60 : decode cX4_makeSample 60 = .ok (.sipush 1023, 3) := by decide +kernel
theorem dX4_makeSample_63 : decode cX4_makeSample 63 = .ok (.iand, 1) := by decide +kernel
theorem dX4_makeSample_64 : decode cX4_makeSample 64 = .ok (.iaload, 1) := by decide +kernel
theorem dX4_makeSample_65 : decode cX4_makeSample 65 = .ok (.i2l, 1) := by decide +kernel
theorem dX4_makeSample_66 : decode cX4_makeSample 66 = .ok (.lmul, 1) := by decide +kernel
theorem dX4_makeSample_67 : decode cX4_makeSample 67 = .ok (.ladd, 1) := by decide +kernel
theorem dX4_makeSample_68 : decode cX4_makeSample 68 = .ok (.lstore_n 2, 1) := by decide +kernel
theorem dX4_makeSample_69 : decode cX4_makeSample 69 = .ok (.lload_n 2, 1) := by decide +kernel
theorem dX4_makeSample_70 : decode cX4_makeSample 70 = .ok (.aload_n 0, 1) := by decide +kernel
theorem dX4_makeSample_71 : decode cX4_makeSample 71 = .ok (.getfield 22, 3) := by decide +kernel
theorem dX4_makeSample_74 : decode cX4_makeSample 74 = .ok (.getfield 94, 3) := by decide +kernel
theorem dX4_makeSample_77 : decode cX4_makeSample 77 = .ok (.iload 6, 2) := by decide +kernel
theorem dX4_makeSample_79 : decode cX4_makeSample 79 = .ok (.bipush 32, 2) := by decide +kernel
theorem dX4_makeSample_81 : decode cX4_makeSample 81 = .ok (.iadd, 1) := by decide +kernel
theorem dX4_makeSample_82 : decode cX4_makeSample 82 = .ok (.sipush 511, 3) := by decide +kernel
theorem dX4_makeSample_85 : decode cX4_makeSample 85 = .ok (.iand, 1) := by decide +kernel
theorem dX4_makeSample_86 : decode cX4_makeSample 86 = .ok (.iaload, 1) := by decide +kernel
theorem dX4_makeSample_87 : decode cX4_makeSample 87 = .ok (.i2l, 1) := by decide +kernel
theorem dX4_makeSample_88 : decode cX4_makeSample 88 = .ok (.aload_n 0, 1) := by decide +kernel
theorem dX4_makeSample_89 : decode cX4_makeSample 89 = .ok (.getfield 11, 3) := by decide +kernel
theorem dX4_makeSample_92 : decode cX4_makeSample 92 = .ok (.iload 5, 2) := by decide +kernel
theorem dX4_makeSample_94 : decode cX4_makeSample 94 = .ok (.bipush 96, 2) := by decide +kernel
theorem dX4_makeSample_96 : decode cX4_makeSample 96 = .ok (.iadd, 1) := by decide +kernel
theorem dX4_makeSample_97 : decode cX4_makeSample 97 = .ok (.sipush 1023, 3) := by decide +kernel
theorem dX4_makeSample_100 : decode cX4_makeSample 100 = .ok (.iand, 1) := by decide +kernel
theorem dX4_makeSample_101 : decode cX4_makeSample 101 = .ok (.iaload, 1) := by decide +kernel
theorem dX4_makeSample_102 : decode cX4_makeSample 102 = .ok (.i2l, 1) := by decide +kernel
theorem dX4_makeSample_103 : decode cX4_makeSample 103 = .ok (.lmul, 1) := by decide +kernel
theorem dX4_makeSample_104 : decode cX4_makeSample 104 = .ok (.ladd, 1) := by decide +kernel
theorem dX4_makeSample_105 : decode cX4_makeSample 105 = .ok (.lstore_n 2, 1) := by decide +kernel
theorem dX4_makeSample_106 : decode cX4_makeSample 106 = .ok (.iinc 4 1, 3) := by decide +kernel
theorem dX4_makeSample_109 : decode cX4_makeSample 109 = .ok (.goto (-102), 3) := by decide +kernel
theorem dX4_makeSample_112 : decode cX4_makeSample 112 = .ok (.ldc2_w 97, 3) := by decide +kernel
theorem dX4_makeSample_115 : decode cX4_makeSample 115 = .ok (.ldc2_w 99, 3) := by decide +kernel
theorem dX4_makeSample_118 : decode cX4_makeSample 118 = .ok (.lload_n 2, 1) := by decide +kernel
theorem dX4_makeSample_119 : decode cX4_makeSample 119 = .ok (.bipush 21, 2) := by decide +kernel
theorem dX4_makeSample_121 : decode cX4_makeSample 121 = .ok (.lshr, 1) := by decide +kernel
theorem dX4_makeSample_122 : decode cX4_makeSample 122 = .ok (.invokestatic 101, 3) := by decide +kernel
theorem dX4_makeSample_125 : decode cX4_makeSample 125 = .ok (.invokestatic 104, 3) := by decide +kernel
theorem dX4_makeSample_128 : decode cX4_makeSample 128 = .ok (.l2i, 1) := by decide +kernel
theorem dX4_makeSample_129 : decode cX4_makeSample 129 = .ok (.ireturn, 1) := by decide +kernel
