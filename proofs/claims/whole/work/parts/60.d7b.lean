theorem dX7_decode_65 : decode cX7_decode 65 = .ok (.getfield 110, 3) := by decide +kernel
theorem dX7_decode_68 : decode cX7_decode 68 = .ok (.if_icmp .le 8, 3) := by decide +kernel
theorem dX7_decode_71 : decode cX7_decode 71 = .ok (.iload 4, 2) := by decide +kernel
theorem dX7_decode_73 : decode cX7_decode 73 = .ok (.goto 7, 3) := by decide +kernel
theorem dX7_decode_76 : decode cX7_decode 76 = .ok (.aload_n 0, 1) := by decide +kernel
theorem dX7_decode_77 : decode cX7_decode 77 = .ok (.getfield 110, 3) := by decide +kernel
theorem dX7_decode_80 : decode cX7_decode 80 = .ok (.putfield 110, 3) := by decide +kernel
theorem dX7_decode_83 : decode cX7_decode 83 = .ok (.iconst 0, 1) := by decide +kernel
theorem dX7_decode_84 : decode cX7_decode 84 = .ok (.istore_n 2, 1) := by decide +kernel
theorem dX7_decode_85 : decode cX7_decode 85 = .ok (.goto 44, 3) := by decide +kernel
theorem dX7_decode_88 : decode cX7_decode 88 = .ok (.iload_n 3, 1) := by decide +kernel
theorem dX7_decode_89 : decode cX7_decode 89 = .ok (.aload_n 0, 1) := by decide +kernel
theorem dX7_decode_90 : decode cX7_decode 90 = .ok (.getfield 163, 3) := by decide +kernel
theorem dX7_decode_93 : decode cX7_decode 93 = .ok (.iadd, 1) := by decide +kernel
theorem dX7_decode_94 : decode cX7_decode 94 = .ok (.aload_n 0, 1) := by decide +kernel
theorem dX7_decode_95 : decode cX7_decode 95 = .ok (.getfield 103, 3) := by decide +kernel
theorem dX7_decode_98 : decode cX7_decode 98 = .ok (.if_icmp .le 13, 3) := by decide +kernel
theorem dX7_decode_101 : decode cX7_decode 101 = .ok (.aload_n 0, 1) := by decide +kernel
theorem dX7_decode_102 : decode cX7_decode 102 = .ok (.iload_n 3, 1) := by decide +kernel
theorem dX7_decode_103 : decode cX7_decode 103 = .ok (.putfield 110, 3) := by decide +kernel
theorem dX7_decode_106 : decode cX7_decode 106 = .ok (.iconst 0, 1) := by decide +kernel
theorem dX7_decode_107 : decode cX7_decode 107 = .ok (.istore_n 2, 1) := by decide +kernel
theorem dX7_decode_108 : decode cX7_decode 108 = .ok (.goto 21, 3) := by decide +kernel
theorem dX7_decode_111 : decode cX7_decode 111 = .ok (.aload_n 0, 1) := by decide +kernel
theorem dX7_decode_112 : decode cX7_decode 112 = .ok (.iload_n 3, 1) := by decide +kernel
theorem dX7_decode_113 : decode cX7_decode 113 = .ok (.invokevirtual 179, 3) := by decide +kernel
theorem dX7_decode_116 : decode cX7_decode 116 = .ok (.aload_n 0, 1) := by decide +kernel
theorem dX7_decode_117 : decode cX7_decode 117 = .ok (.iload_n 3, 1) := by decide +kernel
theorem dX7_decode_118 : decode cX7_decode 118 = .ok (.aload_n 0, 1) := by decide +kernel
theorem dX7_decode_119 : decode cX7_decode 119 = .ok (.getfield 163, 3) := by decide +kernel
theorem dX7_decode_122 : decode cX7_decode 122 = .ok (.iadd, 1) := by decide +kernel
theorem dX7_decode_123 : decode cX7_decode 123 = .ok (.putfield 110, 3) := by decide +kernel
theorem dX7_decode_126 : decode cX7_decode 126 = .ok (.iinc 1 1, 3) := by decide +kernel
theorem dX7_decode_129 : decode cX7_decode 129 = .ok (.goto (-125), 3) := by decide +kernel
theorem dX7_decode_132 : decode cX7_decode 132 = .ok (.iload_n 1, 1) := by decide +kernel
theorem dX7_decode_133 : decode cX7_decode 133 = .ok (.ireturn, 1) := by decide +kernel
set_option maxRecDepth 20000 in
theorem ggX7_take_X7_read : GoodIn wsX7_take wsX7_read := goodIn_r _ [16, 1, 17, 4, 18, 19, 20, 21, 22, 23, 9, 24, 10, 5, 25, 26, 27, 28, 29, 15, 30, 31, 32, 33, 34, 35, 36, 37, 38, 39, 40, 41, 42, 43, 44, 45, 46, 47, 48, 49, 50, 51, 52, 53, 54, 55, 56, 57, 58, 59, 60, 61, 62, 63, 64, 65, 66, 67, 68, 69, 70, 71, 72, 73, 113, 114, 115, 116, 117, 118, 119, 120, 121, 122, 123, 124, 125, 126, 127, 128, 129, 130, 131, 132, 133, 134, 135, 136, 137, 138, 139, 140, 141, 142, 143, 144, 145, 146, 147, 148, 149, 150, 151, 152] (by decide +kernel) (by decide +kernel)
set_option maxRecDepth 20000 in
theorem gX7_take_X7_read : GoodIn wsX7_take (wsV RX7 185 RX7 yX7_read wsX7_read) := goodIn_app (goodIn_of _ (by decide +kernel)) ggX7_take_X7_read
set_option maxRecDepth 20000 in
theorem ggX7_take_X7_keep : GoodIn wsX7_take wsX7_keep := goodIn_r _ [77, 78, 9, 79, 5, 80, 26, 81, 82, 57, 83, 84, 85, 86, 87, 62, 113, 114, 115, 116, 117, 118, 119, 120, 121, 122, 123, 124, 125, 126, 127, 128, 129, 130, 131, 132, 133, 134, 135, 136, 137, 138, 139, 140, 141, 142, 143, 144, 145, 146, 147, 148, 149, 150, 151, 152] (by decide +kernel) (by decide +kernel)
set_option maxRecDepth 20000 in
theorem gX7_take_X7_keep : GoodIn wsX7_take (wsV RX7 189 RX7 yX7_keep wsX7_keep) := goodIn_app (goodIn_of _ (by decide +kernel)) ggX7_take_X7_keep
set_option maxRecDepth 20000 in
theorem ggX7_take_X7_sound : GoodIn wsX7_take wsX7_sound := goodIn_r _ [91, 80, 79, 92, 86, 93, 94, 95, 96, 97, 15, 98, 99, 100, 101, 102, 103, 104, 105, 106, 107, 108, 109, 110, 111, 112, 113, 114, 115, 116, 117, 118, 119, 120, 121, 122, 123, 124, 125, 126, 127, 128, 129, 130, 131, 132, 133, 134, 135, 136, 137, 138, 139, 140, 141, 142, 143, 144, 145, 146, 147, 148, 149, 150, 151, 152] (by decide +kernel) (by decide +kernel)
set_option maxRecDepth 20000 in
theorem gX7_take_X7_sound : GoodIn wsX7_take (wsV RX7 192 RX7 yX7_sound wsX7_sound) := goodIn_app (goodIn_of _ (by decide +kernel)) ggX7_take_X7_sound
theorem dX7_take_0 : decode cX7_take 0 = .ok (.aload_n 0, 1) := by decide +kernel
theorem dX7_take_1 : decode cX7_take 1 = .ok (.iload_n 1, 1) := by decide +kernel
theorem dX7_take_2 : decode cX7_take 2 = .ok (.putfield 182, 3) := by decide +kernel
theorem dX7_take_5 : decode cX7_take 5 = .ok (.aload_n 0, 1) := by decide +kernel
theorem dX7_take_6 : decode cX7_take 6 = .ok (.getfield 15, 3) := by decide +kernel
theorem dX7_take_9 : decode cX7_take 9 = .ok (.aload_n 0, 1) := by decide +kernel
theorem dX7_take_10 : decode cX7_take 10 = .ok (.getfield 113, 3) := by decide +kernel
theorem dX7_take_13 : decode cX7_take 13 = .ok (.aaload, 1) := by decide +kernel
theorem dX7_take_14 : decode cX7_take 14 = .ok (.astore_n 2, 1) := by decide +kernel
theorem dX7_take_15 : decode cX7_take 15 = .ok (.aload_n 0, 1) := by decide +kernel
theorem dX7_take_16 : decode cX7_take 16 = .ok (.invokevirtual 185, 3) := by decide +kernel
theorem dX7_take_19 : decode cX7_take 19 = .ok (.istore_n 3, 1) := by decide +kernel
theorem dX7_take_20 : decode cX7_take 20 = .ok (.aload_n 2, 1) := by decide +kernel
theorem dX7_take_21 : decode cX7_take 21 = .ok (.iconst 0, 1) := by decide +kernel
theorem dX7_take_22 : decode cX7_take 22 = .ok (.iload_n 3, 1) := by decide +kernel
theorem dX7_take_23 : decode cX7_take 23 = .ok (.iastore, 1) := by decide +kernel
theorem dX7_take_24 : decode cX7_take 24 = .ok (.aload_n 2, 1) := by decide +kernel
theorem dX7_take_25 : decode cX7_take 25 = .ok (.iconst 1, 1) := by decide +kernel
theorem dX7_take_26 : decode cX7_take 26 = .ok (.iload_n 1, 1) := by decide +kernel
theorem dX7_take_27 : decode cX7_take 27 = .ok (.iastore, 1) := by decide +kernel
theorem dX7_take_28 : decode cX7_take 28 = .ok (.aload_n 2, 1) := by decide +kernel
theorem dX7_take_29 : decode cX7_take 29 = .ok (.iconst 2, 1) := by decide +kernel
theorem dX7_take_30 : decode cX7_take 30 = .ok (.aload_n 0, 1) := by decide +kernel
theorem dX7_take_31 : decode cX7_take 31 = .ok (.getfield 163, 3) := by decide +kernel
theorem dX7_take_34 : decode cX7_take 34 = .ok (.iastore, 1) := by decide +kernel
theorem dX7_take_35 : decode cX7_take 35 = .ok (.aload_n 2, 1) := by decide +kernel
theorem dX7_take_36 : decode cX7_take 36 = .ok (.iconst 3, 1) := by decide +kernel
theorem dX7_take_37 : decode cX7_take 37 = .ok (.aload_n 0, 1) := by decide +kernel
theorem dX7_take_38 : decode cX7_take 38 = .ok (.getfield 148, 3) := by decide +kernel
theorem dX7_take_41 : decode cX7_take 41 = .ok (.iastore, 1) := by decide +kernel
theorem dX7_take_42 : decode cX7_take 42 = .ok (.aload_n 2, 1) := by decide +kernel
theorem dX7_take_43 : decode cX7_take 43 = .ok (.iconst 4, 1) := by decide +kernel
theorem dX7_take_44 : decode cX7_take 44 = .ok (.aload_n 0, 1) := by decide +kernel
theorem dX7_take_45 : decode cX7_take 45 = .ok (.getfield 151, 3) := by decide +kernel
theorem dX7_take_48 : decode cX7_take 48 = .ok (.iastore, 1) := by decide +kernel
theorem dX7_take_49 : decode cX7_take 49 = .ok (.aload_n 2, 1) := by decide +kernel
theorem dX7_take_50 : decode cX7_take 50 = .ok (.iconst 5, 1) := by decide +kernel
theorem dX7_take_51 : decode cX7_take 51 = .ok (.aload_n 0, 1) := by decide +kernel
theorem dX7_take_52 : decode cX7_take 52 = .ok (.getfield 156, 3) := by decide +kernel
theorem dX7_take_55 : decode cX7_take 55 = .ok (.iastore, 1) := by decide +kernel
theorem dX7_take_56 : decode cX7_take 56 = .ok (.aload_n 2, 1) := by decide +kernel
theorem dX7_take_57 : decode cX7_take 57 = .ok (.bipush 6, 2) := by decide +kernel
theorem dX7_take_59 : decode cX7_take 59 = .ok (.aload_n 0, 1) := by decide +kernel
theorem dX7_take_60 : decode cX7_take 60 = .ok (.getfield 142, 3) := by decide +kernel
theorem dX7_take_63 : decode cX7_take 63 = .ok (.iastore, 1) := by decide +kernel
theorem dX7_take_64 : decode cX7_take 64 = .ok (.aload_n 2, 1) := by decide +kernel
theorem dX7_take_65 : decode cX7_take 65 = .ok (.bipush 7, 2) := by decide +kernel
theorem dX7_take_67 : decode cX7_take 67 = .ok (.aload_n 0, 1) := by decide +kernel
theorem dX7_take_68 : decode cX7_take 68 = .ok (.getfield 159, 3) := by decide +kernel
theorem dX7_take_71 : decode cX7_take 71 = .ok (.iastore, 1) := by decide +kernel
theorem dX7_take_72 : decode cX7_take 72 = .ok (.aload_n 2, 1) := by decide +kernel
theorem dX7_take_73 : decode cX7_take 73 = .ok (.bipush 8, 2) := by decide +kernel
theorem dX7_take_75 : decode cX7_take 75 = .ok (.aload_n 0, 1) := by decide +kernel
theorem dX7_take_76 : decode cX7_take 76 = .ok (.getfield 172, 3) := by decide +kernel
theorem dX7_take_79 : decode cX7_take 79 = .ok (.iastore, 1) := by decide +kernel
theorem dX7_take_80 : decode cX7_take 80 = .ok (.aload_n 2, 1) := by decide +kernel
theorem dX7_take_81 : decode cX7_take 81 = .ok (.bipush 9, 2) := by decide +kernel
theorem dX7_take_83 : decode cX7_take 83 = .ok (.iload_n 3, 1) := by decide +kernel
theorem dX7_take_84 : decode cX7_take 84 = .ok (.ifCond .ne 23, 3) := by decide +kernel
theorem dX7_take_87 : decode cX7_take 87 = .ok (.aload_n 0, 1) := by decide +kernel
theorem dX7_take_88 : decode cX7_take 88 = .ok (.getfield 148, 3) := by decide +kernel
theorem dX7_take_91 : decode cX7_take 91 = .ok (.iconst 1, 1) := by decide +kernel
theorem dX7_take_92 : decode cX7_take 92 = .ok (.if_icmp .ne 9, 3) := by decide +kernel
theorem dX7_take_95 : decode cX7_take 95 = .ok (.sipush 384, 3) := by decide +kernel
theorem dX7_take_98 : decode cX7_take 98 = .ok (.goto 10, 3) := by decide +kernel
theorem dX7_take_101 : decode cX7_take 101 = .ok (.sipush 1152, 3) := by decide +kernel
theorem dX7_take_104 : decode cX7_take 104 = .ok (.goto 4, 3) := by decide +kernel
theorem dX7_take_107 : decode cX7_take 107 = .ok (.iconst 0, 1) := by decide +kernel
theorem dX7_take_108 : decode cX7_take 108 = .ok (.iastore, 1) := by decide +kernel
theorem dX7_take_109 : decode cX7_take 109 = .ok (.aload_n 0, 1) := by decide +kernel
theorem dX7_take_110 : decode cX7_take 110 = .ok (.dup, 1) := by decide +kernel
theorem dX7_take_111 : decode cX7_take 111 = .ok (.getfield 113, 3) := by decide +kernel
theorem dX7_take_114 : decode cX7_take 114 = .ok (.iconst 1, 1) := by decide +kernel
theorem dX7_take_115 : decode cX7_take 115 = .ok (.iadd, 1) := by decide +kernel
theorem dX7_take_116 : decode cX7_take 116 = .ok (.putfield 113, 3) := by decide +kernel
theorem dX7_take_119 : decode cX7_take 119 = .ok (.iload_n 3, 1) := by decide +kernel
theorem dX7_take_120 : decode cX7_take 120 = .ok (.ifCond .ne 21, 3) := by decide +kernel
theorem dX7_take_123 : decode cX7_take 123 = .ok (.aload_n 0, 1) := by decide +kernel
theorem dX7_take_124 : decode cX7_take 124 = .ok (.dup, 1) := by decide +kernel
theorem dX7_take_125 : decode cX7_take 125 = .ok (.getfield 116, 3) := by decide +kernel
theorem dX7_take_128 : decode cX7_take 128 = .ok (.iconst 1, 1) := by decide +kernel
theorem dX7_take_129 : decode cX7_take 129 = .ok (.iadd, 1) := by decide +kernel
theorem dX7_take_130 : decode cX7_take 130 = .ok (.putfield 116, 3) := by decide +kernel
theorem dX7_take_133 : decode cX7_take 133 = .ok (.aload_n 0, 1) := by decide +kernel
theorem dX7_take_134 : decode cX7_take 134 = .ok (.invokevirtual 189, 3) := by decide +kernel
theorem dX7_take_137 : decode cX7_take 137 = .ok (.aload_n 0, 1) := by decide +kernel
theorem dX7_take_138 : decode cX7_take 138 = .ok (.invokevirtual 192, 3) := by decide +kernel
theorem dX7_take_141 : decode cX7_take 141 = .ok (.return_, 1) := by decide +kernel
set_option maxRecDepth 20000 in
theorem ggX7_checked_X7_bits : GoodIn wsX7_checked wsX7_bits := goodIn_r _ [9, 10, 11, 1, 12, 13, 14, 15, 16, 17, 18, 19, 20, 21, 22, 23, 24, 25, 26, 27, 28, 29, 30, 31, 32, 33, 34, 35, 36, 37, 38, 39, 40, 41, 42, 43, 44, 45, 46, 47, 48, 49, 50, 51, 52] (by decide +kernel) (by decide +kernel)
set_option maxRecDepth 20000 in
theorem gX7_checked_X7_bits : GoodIn wsX7_checked (wsV RX7 132 RX7 yX7_bits wsX7_bits) := goodIn_app (goodIn_of _ (by decide +kernel)) ggX7_checked_X7_bits
theorem dX7_checked_0 : decode cX7_checked 0 = .ok (.aload_n 0, 1) := by decide +kernel
theorem dX7_checked_1 : decode cX7_checked 1 = .ok (.iload_n 1, 1) := by decide +kernel
theorem dX7_checked_2 : decode cX7_checked 2 = .ok (.invokevirtual 132, 3) := by decide +kernel
theorem dX7_checked_5 : decode cX7_checked 5 = .ok (.istore_n 2, 1) := by decide +kernel
theorem dX7_checked_6 : decode cX7_checked 6 = .ok (.iload_n 1, 1) := by decide +kernel
theorem dX7_checked_7 : decode cX7_checked 7 = .ok (.iconst 1, 1) := by decide +kernel
theorem dX7_checked_8 : decode cX7_checked 8 = .ok (.isub, 1) := by decide +kernel
theorem dX7_checked_9 : decode cX7_checked 9 = .ok (.istore_n 3, 1) := by decide +kernel
theorem dX7_checked_10 : decode cX7_checked 10 = .ok (.iload_n 3, 1) := by decide +kernel
theorem dX7_checked_11 : decode cX7_checked 11 = .ok (.ifCond .lt 59, 3) := by decide +kernel
theorem dX7_checked_14 : decode cX7_checked 14 = .ok (.aload_n 0, 1) := by decide +kernel
theorem dX7_checked_15 : decode cX7_checked 15 = .ok (.getfield 129, 3) := by decide +kernel
theorem dX7_checked_18 : decode cX7_checked 18 = .ok (.ifCond .ne 52, 3) := by decide +kernel
theorem dX7_checked_21 : decode cX7_checked 21 = .ok (.aload_n 0, 1) := by decide +kernel
theorem dX7_checked_22 : decode cX7_checked 22 = .ok (.getfield 195, 3) := by decide +kernel
theorem dX7_checked_25 : decode cX7_checked 25 = .ok (.bipush 15, 2) := by decide +kernel
theorem dX7_checked_27 : decode cX7_checked 27 = .ok (.ishr, 1) := by decide +kernel
theorem dX7_checked_28 : decode cX7_checked 28 = .ok (.iconst 1, 1) := by decide +kernel
theorem dX7_checked_29 : decode cX7_checked 29 = .ok (.iand, 1) := by decide +kernel
theorem dX7_checked_30 : decode cX7_checked 30 = .ok (.iload_n 2, 1) := by decide +kernel
theorem dX7_checked_31 : decode cX7_checked 31 = .ok (.iload_n 3, 1) := by decide +kernel
theorem dX7_checked_32 : decode cX7_checked 32 = .ok (.ishr, 1) := by decide +kernel
theorem dX7_checked_33 : decode cX7_checked 33 = .ok (.iconst 1, 1) := by decide +kernel
theorem dX7_checked_34 : decode cX7_checked 34 = .ok (.iand, 1) := by decide +kernel
theorem dX7_checked_35 : decode cX7_checked 35 = .ok (.ixor, 1) := by decide +kernel
theorem dX7_checked_36 : decode cX7_checked 36 = .ok (.istore 4, 2) := by decide +kernel
theorem dX7_checked_38 : decode cX7_checked 38 = .ok (.aload_n 0, 1) := by decide +kernel
theorem dX7_checked_39 : decode cX7_checked 39 = .ok (.aload_n 0, 1) := by decide +kernel
theorem dX7_checked_40 : decode cX7_checked 40 = .ok (.getfield 195, 3) := by decide +kernel
theorem dX7_checked_43 : decode cX7_checked 43 = .ok (.iconst 1, 1) := by decide +kernel
theorem dX7_checked_44 : decode cX7_checked 44 = .ok (.ishl, 1) := by decide +kernel
theorem dX7_checked_45 : decode cX7_checked 45 = .ok (.ldc 198, 2) := by decide +kernel
theorem dX7_checked_47 : decode cX7_checked 47 = .ok (.iand, 1) := by decide +kernel
theorem dX7_checked_48 : decode cX7_checked 48 = .ok (.iload 4, 2) := by decide +kernel
theorem dX7_checked_50 : decode cX7_checked 50 = .ok (.iconst 1, 1) := by decide +kernel
theorem dX7_checked_51 : decode cX7_checked 51 = .ok (.if_icmp .ne 8, 3) := by decide +kernel
theorem dX7_checked_54 : decode cX7_checked 54 = .ok (.ldc 199, 2) := by decide +kernel
theorem dX7_checked_56 : decode cX7_checked 56 = .ok (.goto 4, 3) := by decide +kernel
theorem dX7_checked_59 : decode cX7_checked 59 = .ok (.iconst 0, 1) := by decide +kernel
theorem dX7_checked_60 : decode cX7_checked 60 = .ok (.ixor, 1) := by decide +kernel
theorem dX7_checked_61 : decode cX7_checked 61 = .ok (.putfield 195, 3) := by decide +kernel
theorem dX7_checked_64 : decode cX7_checked 64 = .ok (.iinc 3 (-1), 3) := by decide +kernel
theorem dX7_checked_67 : decode cX7_checked 67 = .ok (.goto (-57), 3) := by decide +kernel
theorem dX7_checked_70 : decode cX7_checked 70 = .ok (.iload_n 2, 1) := by decide +kernel
theorem dX7_checked_71 : decode cX7_checked 71 = .ok (.ireturn, 1) := by decide +kernel
set_option maxRecDepth 20000 in
theorem ggX7_allocationBits_X7_isFirstTable : GoodIn wsX7_allocationBits wsX7_isFirstTable := goodIn_r _ [6, 7, 8, 9, 10, 11, 12, 13, 14, 15, 16, 17, 18, 19, 20, 21, 22, 23, 24, 25, 26, 27, 28, 29, 30, 31, 32, 33, 34, 35, 36, 37, 38, 39, 40, 41, 42, 43, 44, 45, 46, 47] (by decide +kernel) (by decide +kernel)
set_option maxRecDepth 20000 in
theorem gX7_allocationBits_X7_isFirstTable : GoodIn wsX7_allocationBits (wsV RX7 200 RX7 yX7_isFirstTable wsX7_isFirstTable) := goodIn_app (goodIn_of _ (by decide +kernel)) ggX7_allocationBits_X7_isFirstTable
theorem dX7_allocationBits_0 : decode cX7_allocationBits 0 = .ok (.aload_n 0, 1) := by decide +kernel
theorem dX7_allocationBits_1 : decode cX7_allocationBits 1 = .ok (.getfield 148, 3) := by decide +kernel
theorem dX7_allocationBits_4 : decode cX7_allocationBits 4 = .ok (.iconst 1, 1) := by decide +kernel
theorem dX7_allocationBits_5 : decode cX7_allocationBits 5 = .ok (.if_icmp .ne 5, 3) := by decide +kernel
theorem dX7_allocationBits_8 : decode cX7_allocationBits 8 = .ok (.iconst 4, 1) := by decide +kernel
theorem dX7_allocationBits_9 : decode cX7_allocationBits 9 = .ok (.ireturn, 1) := by decide +kernel
theorem dX7_allocationBits_10 : decode cX7_allocationBits 10 = .ok (.aload_n 0, 1) := by decide +kernel
theorem dX7_allocationBits_11 : decode cX7_allocationBits 11 = .ok (.invokevirtual 200, 3) := by decide +kernel
theorem dX7_allocationBits_14 : decode cX7_allocationBits 14 = .ok (.ifCond .eq 25, 3) := by decide +kernel
theorem dX7_allocationBits_17 : decode cX7_allocationBits 17 = .ok (.iload_n 1, 1) := by decide +kernel
theorem dX7_allocationBits_18 : decode cX7_allocationBits 18 = .ok (.bipush 11, 2) := by decide +kernel
theorem dX7_allocationBits_20 : decode cX7_allocationBits 20 = .ok (.if_icmp .ge 7, 3) := by decide +kernel
theorem dX7_allocationBits_23 : decode cX7_allocationBits 23 = .ok (.iconst 4, 1) := by decide +kernel
theorem dX7_allocationBits_24 : decode cX7_allocationBits 24 = .ok (.goto 14, 3) := by decide +kernel
theorem dX7_allocationBits_27 : decode cX7_allocationBits 27 = .ok (.iload_n 1, 1) := by decide +kernel
theorem dX7_allocationBits_28 : decode cX7_allocationBits 28 = .ok (.bipush 23, 2) := by decide +kernel
theorem dX7_allocationBits_30 : decode cX7_allocationBits 30 = .ok (.if_icmp .ge 7, 3) := by decide +kernel
theorem dX7_allocationBits_33 : decode cX7_allocationBits 33 = .ok (.iconst 3, 1) := by decide +kernel
theorem dX7_allocationBits_34 : decode cX7_allocationBits 34 = .ok (.goto 4, 3) := by decide +kernel
theorem dX7_allocationBits_37 : decode cX7_allocationBits 37 = .ok (.iconst 2, 1) := by decide +kernel
theorem dX7_allocationBits_38 : decode cX7_allocationBits 38 = .ok (.ireturn, 1) := by decide +kernel
theorem dX7_allocationBits_39 : decode cX7_allocationBits 39 = .ok (.iload_n 1, 1) := by decide +kernel
theorem dX7_allocationBits_40 : decode cX7_allocationBits 40 = .ok (.iconst 2, 1) := by decide +kernel
theorem dX7_allocationBits_41 : decode cX7_allocationBits 41 = .ok (.if_icmp .ge 7, 3) := by decide +kernel
theorem dX7_allocationBits_44 : decode cX7_allocationBits 44 = .ok (.iconst 4, 1) := by decide +kernel
theorem dX7_allocationBits_45 : decode cX7_allocationBits 45 = .ok (.goto 4, 3) := by decide +kernel
theorem dX7_allocationBits_48 : decode cX7_allocationBits 48 = .ok (.iconst 3, 1) := by decide +kernel
theorem dX7_allocationBits_49 : decode cX7_allocationBits 49 = .ok (.ireturn, 1) := by decide +kernel
set_option maxRecDepth 20000 in
theorem ggX7_classOf_X7_isFirstTable : GoodIn wsX7_classOf wsX7_isFirstTable := goodIn_r _ [5, 6, 7, 8, 9, 10, 11, 12, 13, 14, 15, 16, 17, 18, 19, 20, 21, 22, 23, 24, 25, 26, 27, 28, 29, 30, 31, 32, 33, 34, 35, 36, 37, 38, 39, 40, 41, 42, 43, 44, 45, 46] (by decide +kernel) (by decide +kernel)
set_option maxRecDepth 20000 in
theorem gX7_classOf_X7_isFirstTable : GoodIn wsX7_classOf (wsV RX7 200 RX7 yX7_isFirstTable wsX7_isFirstTable) := goodIn_app (goodIn_of _ (by decide +kernel)) ggX7_classOf_X7_isFirstTable
theorem dX7_classOf_0 : decode cX7_classOf 0 = .ok (.aload_n 0, 1) := by decide +kernel
theorem dX7_classOf_1 : decode cX7_classOf 1 = .ok (.invokevirtual 200, 3) := by decide +kernel
theorem dX7_classOf_4 : decode cX7_classOf 4 = .ok (.ifCond .ne 16, 3) := by decide +kernel
theorem dX7_classOf_7 : decode cX7_classOf 7 = .ok (.iload_n 2, 1) := by decide +kernel
theorem dX7_classOf_8 : decode cX7_classOf 8 = .ok (.iconst 3, 1) := by decide +kernel
theorem dX7_classOf_9 : decode cX7_classOf 9 = .ok (.if_icmp .ge 9, 3) := by decide +kernel
theorem dX7_classOf_12 : decode cX7_classOf 12 = .ok (.iload_n 2, 1) := by decide +kernel
theorem dX7_classOf_13 : decode cX7_classOf 13 = .ok (.iconst 1, 1) := by decide +kernel
theorem dX7_classOf_14 : decode cX7_classOf 14 = .ok (.isub, 1) := by decide +kernel
theorem dX7_classOf_15 : decode cX7_classOf 15 = .ok (.goto 4, 3) := by decide +kernel
theorem dX7_classOf_18 : decode cX7_classOf 18 = .ok (.iload_n 2, 1) := by decide +kernel
theorem dX7_classOf_19 : decode cX7_classOf 19 = .ok (.ireturn, 1) := by decide +kernel
theorem dX7_classOf_20 : decode cX7_classOf 20 = .ok (.iload_n 1, 1) := by decide +kernel
theorem dX7_classOf_21 : decode cX7_classOf 21 = .ok (.iconst 3, 1) := by decide +kernel
theorem dX7_classOf_22 : decode cX7_classOf 22 = .ok (.if_icmp .ge 25, 3) := by decide +kernel
theorem dX7_classOf_25 : decode cX7_classOf 25 = .ok (.iload_n 2, 1) := by decide +kernel
theorem dX7_classOf_26 : decode cX7_classOf 26 = .ok (.iconst 1, 1) := by decide +kernel
theorem dX7_classOf_27 : decode cX7_classOf 27 = .ok (.if_icmp .ne 7, 3) := by decide +kernel
theorem dX7_classOf_30 : decode cX7_classOf 30 = .ok (.iconst 0, 1) := by decide +kernel
theorem dX7_classOf_31 : decode cX7_classOf 31 = .ok (.goto 15, 3) := by decide +kernel
theorem dX7_classOf_34 : decode cX7_classOf 34 = .ok (.iload_n 2, 1) := by decide +kernel
theorem dX7_classOf_35 : decode cX7_classOf 35 = .ok (.iconst 2, 1) := by decide +kernel
theorem dX7_classOf_36 : decode cX7_classOf 36 = .ok (.if_icmp .ne 7, 3) := by decide +kernel
theorem dX7_classOf_39 : decode cX7_classOf 39 = .ok (.iconst 2, 1) := by decide +kernel
theorem dX7_classOf_40 : decode cX7_classOf 40 = .ok (.goto 6, 3) := by decide +kernel
theorem dX7_classOf_43 : decode cX7_classOf 43 = .ok (.iload_n 2, 1) := by decide +kernel
theorem dX7_classOf_44 : decode cX7_classOf 44 = .ok (.iconst 1, 1) := by decide +kernel
theorem dX7_classOf_45 : decode cX7_classOf 45 = .ok (.iadd, 1) := by decide +kernel
theorem dX7_classOf_46 : decode cX7_classOf 46 = .ok (.ireturn, 1) := by decide +kernel
theorem dX7_classOf_47 : decode cX7_classOf 47 = .ok (.iload_n 1, 1) := by decide +kernel
theorem dX7_classOf_48 : decode cX7_classOf 48 = .ok (.bipush 11, 2) := by decide +kernel
theorem dX7_classOf_50 : decode cX7_classOf 50 = .ok (.if_icmp .ge 18, 3) := by decide +kernel
theorem dX7_classOf_53 : decode cX7_classOf 53 = .ok (.iload_n 2, 1) := by decide +kernel
theorem dX7_classOf_54 : decode cX7_classOf 54 = .ok (.bipush 15, 2) := by decide +kernel
theorem dX7_classOf_56 : decode cX7_classOf 56 = .ok (.if_icmp .ne 8, 3) := by decide +kernel
theorem dX7_classOf_59 : decode cX7_classOf 59 = .ok (.bipush 16, 2) := by decide +kernel
theorem dX7_classOf_61 : decode cX7_classOf 61 = .ok (.goto 6, 3) := by decide +kernel
theorem dX7_classOf_64 : decode cX7_classOf 64 = .ok (.iload_n 2, 1) := by decide +kernel
theorem dX7_classOf_65 : decode cX7_classOf 65 = .ok (.iconst 1, 1) := by decide +kernel
theorem dX7_classOf_66 : decode cX7_classOf 66 = .ok (.isub, 1) := by decide +kernel
theorem dX7_classOf_67 : decode cX7_classOf 67 = .ok (.ireturn, 1) := by decide +kernel
theorem dX7_classOf_68 : decode cX7_classOf 68 = .ok (.iload_n 1, 1) := by decide +kernel
theorem dX7_classOf_69 : decode cX7_classOf 69 = .ok (.bipush 23, 2) := by decide +kernel
theorem dX7_classOf_71 : decode cX7_classOf 71 = .ok (.if_icmp .ge 20, 3) := by decide +kernel
theorem dX7_classOf_74 : decode cX7_classOf 74 = .ok (.iload_n 2, 1) := by decide +kernel
theorem dX7_classOf_75 : decode cX7_classOf 75 = .ok (.bipush 7, 2) := by decide +kernel
theorem dX7_classOf_77 : decode cX7_classOf 77 = .ok (.if_icmp .ne 8, 3) := by decide +kernel
theorem dX7_classOf_80 : decode cX7_classOf 80 = .ok (.bipush 16, 2) := by decide +kernel
theorem dX7_classOf_82 : decode cX7_classOf 82 = .ok (.goto 22, 3) := by decide +kernel
theorem dX7_classOf_85 : decode cX7_classOf 85 = .ok (.iload_n 2, 1) := by decide +kernel
theorem dX7_classOf_86 : decode cX7_classOf 86 = .ok (.iconst 1, 1) := by decide +kernel
theorem dX7_classOf_87 : decode cX7_classOf 87 = .ok (.isub, 1) := by decide +kernel
theorem dX7_classOf_88 : decode cX7_classOf 88 = .ok (.goto 16, 3) := by decide +kernel
theorem dX7_classOf_91 : decode cX7_classOf 91 = .ok (.iload_n 2, 1) := by decide +kernel
theorem dX7_classOf_92 : decode cX7_classOf 92 = .ok (.iconst 3, 1) := by decide +kernel
theorem dX7_classOf_93 : decode cX7_classOf 93 = .ok (.if_icmp .ne 8, 3) := by decide +kernel
theorem dX7_classOf_96 : decode cX7_classOf 96 = .ok (.bipush 16, 2) := by decide +kernel
theorem dX7_classOf_98 : decode cX7_classOf 98 = .ok (.goto 6, 3) := by decide +kernel
theorem dX7_classOf_101 : decode cX7_classOf 101 = .ok (.iload_n 2, 1) := by decide +kernel
theorem dX7_classOf_102 : decode cX7_classOf 102 = .ok (.iconst 1, 1) := by decide +kernel
theorem dX7_classOf_103 : decode cX7_classOf 103 = .ok (.isub, 1) := by decide +kernel
theorem dX7_classOf_104 : decode cX7_classOf 104 = .ok (.ireturn, 1) := by decide +kernel
set_option maxRecDepth 20000 in
theorem ggX7_stepsBy_X7_classOf : GoodIn wsX7_stepsBy wsX7_classOf := goodIn_r _ [6, 7, 8, 9, 5, 10, 11, 12, 13, 14, 15, 16, 17, 18, 19, 20, 21, 22, 23, 24, 25, 26, 27, 28, 29, 30, 31, 32, 33, 34, 35, 36, 37, 38, 39, 40, 41, 42, 43, 44, 45, 46, 47, 48, 49, 50, 51] (by decide +kernel) (by decide +kernel)
set_option maxRecDepth 20000 in
theorem gX7_stepsBy_X7_classOf : GoodIn wsX7_stepsBy (wsV RX7 204 RX7 yX7_classOf wsX7_classOf) := goodIn_app (goodIn_of _ (by decide +kernel)) ggX7_stepsBy_X7_classOf
theorem dX7_stepsBy_0 : decode cX7_stepsBy 0 = .ok (.iload_n 2, 1) := by decide +kernel
theorem dX7_stepsBy_1 : decode cX7_stepsBy 1 = .ok (.ifCond .ne 5, 3) := by decide +kernel
theorem dX7_stepsBy_4 : decode cX7_stepsBy 4 = .ok (.iconst 0, 1) := by decide +kernel
theorem dX7_stepsBy_5 : decode cX7_stepsBy 5 = .ok (.ireturn, 1) := by decide +kernel
theorem dX7_stepsBy_6 : decode cX7_stepsBy 6 = .ok (.aload_n 0, 1) := by decide +kernel
theorem dX7_stepsBy_7 : decode cX7_stepsBy 7 = .ok (.getfield 148, 3) := by decide +kernel
theorem dX7_stepsBy_10 : decode cX7_stepsBy 10 = .ok (.iconst 1, 1) := by decide +kernel
theorem dX7_stepsBy_11 : decode cX7_stepsBy 11 = .ok (.if_icmp .ne 11, 3) := by decide +kernel
theorem dX7_stepsBy_14 : decode cX7_stepsBy 14 = .ok (.iconst 1, 1) := by decide +kernel
theorem dX7_stepsBy_15 : decode cX7_stepsBy 15 = .ok (.iload_n 2, 1) := by decide +kernel
theorem dX7_stepsBy_16 : decode cX7_stepsBy 16 = .ok (.iconst 1, 1) := by decide +kernel
theorem dX7_stepsBy_17 : decode cX7_stepsBy 17 = .ok (.iadd, 1) := by decide +kernel
theorem dX7_stepsBy_18 : decode cX7_stepsBy 18 = .ok (.ishl, 1) := by decide +kernel
theorem dX7_stepsBy_19 : decode cX7_stepsBy 19 = .ok (.iconst 1, 1) := by decide +kernel
theorem dX7_stepsBy_20 : decode cX7_stepsBy 20 = .ok (.isub, 1) := by decide +kernel
theorem dX7_stepsBy_21 : decode cX7_stepsBy 21 = .ok (.ireturn, 1) := by decide +kernel
theorem dX7_stepsBy_22 : decode cX7_stepsBy 22 = .ok (.aload_n 0, 1) := by decide +kernel
theorem dX7_stepsBy_23 : decode cX7_stepsBy 23 = .ok (.iload_n 1, 1) := by decide +kernel
theorem dX7_stepsBy_24 : decode cX7_stepsBy 24 = .ok (.iload_n 2, 1) := by decide +kernel
theorem dX7_stepsBy_25 : decode cX7_stepsBy 25 = .ok (.invokevirtual 204, 3) := by decide +kernel
theorem dX7_stepsBy_28 : decode cX7_stepsBy 28 = .ok (.istore_n 3, 1) := by decide +kernel
theorem dX7_stepsBy_29 : decode cX7_stepsBy 29 = .ok (.iload_n 3, 1) := by decide +kernel
theorem dX7_stepsBy_30 : decode cX7_stepsBy 30 = .ok (.iconst 4, 1) := by decide +kernel
theorem dX7_stepsBy_31 : decode cX7_stepsBy 31 = .ok (.if_icmp .ge 11, 3) := by decide +kernel
theorem dX7_stepsBy_34 : decode cX7_stepsBy 34 = .ok (.iconst 2, 1) := by decide +kernel
theorem dX7_stepsBy_35 : decode cX7_stepsBy 35 = .ok (.iload_n 3, 1) := by decide +kernel
theorem dX7_stepsBy_36 : decode cX7_stepsBy 36 = .ok (.imul, 1) := by decide +kernel
theorem dX7_stepsBy_37 : decode cX7_stepsBy 37 = .ok (.iconst 3, 1) := by decide +kernel
theorem dX7_stepsBy_38 : decode cX7_stepsBy 38 = .ok (.iadd, 1) := by decide +kernel
theorem dX7_stepsBy_39 : decode cX7_stepsBy 39 = .ok (.goto 8, 3) := by decide +kernel
theorem dX7_stepsBy_42 : decode cX7_stepsBy 42 = .ok (.iconst 1, 1) := by decide +kernel
theorem dX7_stepsBy_43 : decode cX7_stepsBy 43 = .ok (.iload_n 3, 1) := by decide +kernel
theorem dX7_stepsBy_44 : decode cX7_stepsBy 44 = .ok (.ishl, 1) := by decide +kernel
theorem dX7_stepsBy_45 : decode cX7_stepsBy 45 = .ok (.iconst 1, 1) := by decide +kernel
theorem dX7_stepsBy_46 : decode cX7_stepsBy 46 = .ok (.isub, 1) := by decide +kernel
theorem dX7_stepsBy_47 : decode cX7_stepsBy 47 = .ok (.ireturn, 1) := by decide +kernel
set_option maxRecDepth 20000 in
theorem ggX7_read_X7_bits : GoodIn wsX7_read wsX7_bits := goodIn_r _ [20, 2, 4, 5, 21, 64, 65, 66, 67, 68, 69, 70, 71, 72, 73, 74, 75, 76, 77, 78, 79, 80, 81, 82, 83, 84, 85, 86, 87, 88, 89, 90, 91, 92, 93, 94, 95, 96, 97, 98, 99, 100, 101, 102, 103] (by decide +kernel) (by decide +kernel)
set_option maxRecDepth 20000 in
theorem gX7_read_X7_bits : GoodIn wsX7_read (wsV RX7 132 RX7 yX7_bits wsX7_bits) := goodIn_app (goodIn_of _ (by decide +kernel)) ggX7_read_X7_bits
set_option maxRecDepth 20000 in
theorem ggX7_read_X7_checked : GoodIn wsX7_read wsX7_checked := goodIn_r _ [25, 5, 7, 6, 26, 16, 17, 18, 19, 20, 2, 4, 21, 64, 65, 66, 67, 68, 69, 70, 71, 72, 73, 74, 75, 76, 77, 78, 79, 80, 81, 82, 83, 84, 85, 86, 87, 88, 89, 90, 91, 92, 93, 94, 95, 96, 97, 98, 99, 100, 101, 102, 103] (by decide +kernel) (by decide +kernel)
set_option maxRecDepth 20000 in
theorem gX7_read_X7_checked : GoodIn wsX7_read (wsV RX7 208 RX7 yX7_checked wsX7_checked) := goodIn_app (goodIn_of _ (by decide +kernel)) ggX7_read_X7_checked
set_option maxRecDepth 20000 in
theorem ggX7_read_X7_allocationBits : GoodIn wsX7_read wsX7_allocationBits := goodIn_r _ [30, 13, 31, 32, 33, 19, 34, 9, 64, 65, 66, 67, 68, 69, 70, 71, 72, 73, 74, 75, 76, 77, 78, 79, 80, 81, 82, 83, 84, 85, 86, 87, 88, 89, 90, 91, 92, 93, 94, 95, 96, 97, 98, 99, 100, 101, 102, 103] (by decide +kernel) (by decide +kernel)
set_option maxRecDepth 20000 in
theorem gX7_read_X7_allocationBits : GoodIn wsX7_read (wsV RX7 211 RX7 yX7_allocationBits wsX7_allocationBits) := goodIn_app (goodIn_of _ (by decide +kernel)) ggX7_read_X7_allocationBits
set_option maxRecDepth 20000 in
theorem ggX7_read_X7_stepsBy : GoodIn wsX7_read wsX7_stepsBy := goodIn_r _ [38, 13, 39, 40, 41, 19, 42, 31, 32, 33, 34, 9, 64, 65, 66, 67, 68, 69, 70, 71, 72, 73, 74, 75, 76, 77, 78, 79, 80, 81, 82, 83, 84, 85, 86, 87, 88, 89, 90, 91, 92, 93, 94, 95, 96, 97, 98, 99, 100, 101, 102, 103] (by decide +kernel) (by decide +kernel)
set_option maxRecDepth 20000 in
theorem gX7_read_X7_stepsBy : GoodIn wsX7_read (wsV RX7 214 RX7 yX7_stepsBy wsX7_stepsBy) := goodIn_app (goodIn_of _ (by decide +kernel)) ggX7_read_X7_stepsBy
set_option maxRecDepth 20000 in
theorem ggX7_read_X7_factors : GoodIn wsX7_read wsX7_factors := goodIn_r _ [46, 9, 10, 15, 13, 14, 47, 16, 17, 18, 19, 20, 2, 4, 5, 21, 64, 65, 66, 67, 68, 69, 70, 71, 72, 73, 74, 75, 76, 77, 78, 79, 80, 81, 82, 83, 84, 85, 86, 87, 88, 89, 90, 91, 92, 93, 94, 95, 96, 97, 98, 99, 100, 101, 102, 103] (by decide +kernel) (by decide +kernel)
set_option maxRecDepth 20000 in
theorem gX7_read_X7_factors : GoodIn wsX7_read (wsV RX7 217 RX7 yX7_factors wsX7_factors) := goodIn_app (goodIn_of _ (by decide +kernel)) ggX7_read_X7_factors
set_option maxRecDepth 20000 in
theorem ggX7_read_X7_codesOne : GoodIn wsX7_read wsX7_codesOne := goodIn_r _ [51, 9, 10, 15, 52, 12, 53, 54, 19, 55, 16, 17, 18, 20, 2, 4, 5, 21, 64, 65, 66, 67, 68, 69, 70, 71, 72, 73, 74, 75, 76, 77, 78, 79, 80, 81, 82, 83, 84, 85, 86, 87, 88, 89, 90, 91, 92, 93, 94, 95, 96, 97, 98, 99, 100, 101, 102, 103] (by decide +kernel) (by decide +kernel)
set_option maxRecDepth 20000 in
theorem gX7_read_X7_codesOne : GoodIn wsX7_read (wsV RX7 220 RX7 yX7_codesOne wsX7_codesOne) := goodIn_app (goodIn_of _ (by decide +kernel)) ggX7_read_X7_codesOne
set_option maxRecDepth 20000 in
theorem ggX7_read_X7_codesTwo : GoodIn wsX7_read wsX7_codesTwo := goodIn_r _ [59, 9, 10, 15, 12, 52, 60, 61, 62, 19, 63, 16, 17, 18, 20, 2, 4, 5, 21, 53, 54, 55, 64, 65, 66, 67, 68, 69, 70, 71, 72, 73, 74, 75, 76, 77, 78, 79, 80, 81, 82, 83, 84, 85, 86, 87, 88, 89, 90, 91, 92, 93, 94, 95, 96, 97, 98, 99, 100, 101, 102, 103] (by decide +kernel) (by decide +kernel)
set_option maxRecDepth 20000 in
theorem gX7_read_X7_codesTwo : GoodIn wsX7_read (wsV RX7 223 RX7 yX7_codesTwo wsX7_codesTwo) := goodIn_app (goodIn_of _ (by decide +kernel)) ggX7_read_X7_codesTwo
theorem dX7_read_0 : decode cX7_read 0 = .ok (.aload_n 0, 1) := by decide +kernel
theorem dX7_read_1 : decode cX7_read 1 = .ok (.bipush 8, 2) := by decide +kernel
theorem dX7_read_3 : decode cX7_read 3 = .ok (.aload_n 0, 1) := by decide +kernel
theorem dX7_read_4 : decode cX7_read 4 = .ok (.getfield 182, 3) := by decide +kernel
theorem dX7_read_7 : decode cX7_read 7 = .ok (.imul, 1) := by decide +kernel
theorem dX7_read_8 : decode cX7_read 8 = .ok (.putfield 123, 3) := by decide +kernel
theorem dX7_read_11 : decode cX7_read 11 = .ok (.aload_n 0, 1) := by decide +kernel
theorem dX7_read_12 : decode cX7_read 12 = .ok (.bipush 8, 2) := by decide +kernel
theorem dX7_read_14 : decode cX7_read 14 = .ok (.aload_n 0, 1) := by decide +kernel
theorem dX7_read_15 : decode cX7_read 15 = .ok (.getfield 182, 3) := by decide +kernel
theorem dX7_read_18 : decode cX7_read 18 = .ok (.aload_n 0, 1) := by decide +kernel
theorem dX7_read_19 : decode cX7_read 19 = .ok (.getfield 163, 3) := by decide +kernel
theorem dX7_read_22 : decode cX7_read 22 = .ok (.iadd, 1) := by decide +kernel
theorem dX7_read_23 : decode cX7_read 23 = .ok (.imul, 1) := by decide +kernel
theorem dX7_read_24 : decode cX7_read 24 = .ok (.putfield 126, 3) := by decide +kernel
theorem dX7_read_27 : decode cX7_read 27 = .ok (.aload_n 0, 1) := by decide +kernel
theorem dX7_read_28 : decode cX7_read 28 = .ok (.iconst 0, 1) := by decide +kernel
theorem dX7_read_29 : decode cX7_read 29 = .ok (.putfield 129, 3) := by decide +kernel
theorem dX7_read_32 : decode cX7_read 32 = .ok (.aload_n 0, 1) := by decide +kernel
theorem dX7_read_33 : decode cX7_read 33 = .ok (.ldc 198, 2) := by decide +kernel
theorem dX7_read_35 : decode cX7_read 35 = .ok (.putfield 195, 3) := by decide +kernel
theorem dX7_read_38 : decode cX7_read 38 = .ok (.aload_n 0, 1) := by decide +kernel
theorem dX7_read_39 : decode cX7_read 39 = .ok (.bipush 16, 2) := by decide +kernel
theorem dX7_read_41 : decode cX7_read 41 = .ok (.invokevirtual 132, 3) := by decide +kernel
theorem dX7_read_44 : decode cX7_read 44 = .ok (.pop, 1) := by decide +kernel
theorem dX7_read_45 : decode cX7_read 45 = .ok (.aload_n 0, 1) := by decide +kernel
theorem dX7_read_46 : decode cX7_read 46 = .ok (.bipush 16, 2) := by decide +kernel
theorem dX7_read_48 : decode cX7_read 48 = .ok (.invokevirtual 208, 3) := by decide +kernel
theorem dX7_read_51 : decode cX7_read 51 = .ok (.pop, 1) := by decide +kernel
theorem dX7_read_52 : decode cX7_read 52 = .ok (.aload_n 0, 1) := by decide +kernel
theorem dX7_read_53 : decode cX7_read 53 = .ok (.getfield 136, 3) := by decide +kernel
theorem dX7_read_56 : decode cX7_read 56 = .ok (.ifCond .eq 12, 3) := by decide +kernel
theorem dX7_read_59 : decode cX7_read 59 = .ok (.aload_n 0, 1) := by decide +kernel
theorem dX7_read_60 : decode cX7_read 60 = .ok (.bipush 16, 2) := by decide +kernel
theorem dX7_read_62 : decode cX7_read 62 = .ok (.invokevirtual 132, 3) := by decide +kernel
theorem dX7_read_65 : decode cX7_read 65 = .ok (.goto 4, 3) := by decide +kernel
theorem dX7_read_68 : decode cX7_read 68 = .ok (.iconst 0, 1) := by decide +kernel
theorem dX7_read_69 : decode cX7_read 69 = .ok (.istore_n 1, 1) := by decide +kernel
theorem dX7_read_70 : decode cX7_read 70 = .ok (.iconst 0, 1) := by decide +kernel
theorem dX7_read_71 : decode cX7_read 71 = .ok (.istore_n 2, 1) := by decide +kernel
theorem dX7_read_72 : decode cX7_read 72 = .ok (.iload_n 2, 1) := by decide +kernel
theorem dX7_read_73 : decode cX7_read 73 = .ok (.aload_n 0, 1) := by decide +kernel
theorem dX7_read_74 : decode cX7_read 74 = .ok (.getfield 169, 3) := by decide +kernel
theorem dX7_read_77 : decode cX7_read 77 = .ok (.if_icmp .ge 66, 3) := by decide +kernel
theorem dX7_read_80 : decode cX7_read 80 = .ok (.iconst 0, 1) := by decide +kernel
theorem dX7_read_81 : decode cX7_read 81 = .ok (.istore_n 3, 1) := by decide +kernel
theorem dX7_read_82 : decode cX7_read 82 = .ok (.iload_n 3, 1) := by decide +kernel
theorem dX7_read_83 : decode cX7_read 83 = .ok (.aload_n 0, 1) := by decide +kernel
theorem dX7_read_84 : decode cX7_read 84 = .ok (.getfield 159, 3) := by decide +kernel
theorem dX7_read_87 : decode cX7_read 87 = .ok (.if_icmp .ge 50, 3) := by decide +kernel
theorem dX7_read_90 : decode cX7_read 90 = .ok (.aload_n 0, 1) := by decide +kernel
theorem dX7_read_91 : decode cX7_read 91 = .ok (.getfield 46, 3) := by decide +kernel
theorem dX7_read_94 : decode cX7_read 94 = .ok (.iload_n 3, 1) := by decide +kernel
theorem dX7_read_95 : decode cX7_read 95 = .ok (.aaload, 1) := by decide +kernel
theorem dX7_read_96 : decode cX7_read 96 = .ok (.iload_n 2, 1) := by decide +kernel
theorem dX7_read_97 : decode cX7_read 97 = .ok (.iload_n 3, 1) := by decide +kernel
theorem dX7_read_98 : decode cX7_read 98 = .ok (.iconst 1, 1) := by decide +kernel
theorem dX7_read_99 : decode cX7_read 99 = .ok (.if_icmp .ne 22, 3) := by decide +kernel
theorem dX7_read_102 : decode cX7_read 102 = .ok (.iload_n 2, 1) := by decide +kernel
theorem dX7_read_103 : decode cX7_read 103 = .ok (.aload_n 0, 1) := by decide +kernel
theorem dX7_read_104 : decode cX7_read 104 = .ok (.getfield 172, 3) := by decide +kernel
theorem dX7_read_107 : decode cX7_read 107 = .ok (.if_icmp .lt 14, 3) := by decide +kernel
theorem dX7_read_110 : decode cX7_read 110 = .ok (.aload_n 0, 1) := by decide +kernel
theorem dX7_read_111 : decode cX7_read 111 = .ok (.getfield 46, 3) := by decide +kernel
theorem dX7_read_114 : decode cX7_read 114 = .ok (.iconst 0, 1) := by decide +kernel
theorem dX7_read_115 : decode cX7_read 115 = .ok (.aaload, 1) := by decide +kernel
theorem dX7_read_116 : decode cX7_read 116 = .ok (.iload_n 2, 1) := by decide +kernel
theorem dX7_read_117 : decode cX7_read 117 = .ok (.iaload, 1) := by decide +kernel
theorem dX7_read_118 : decode cX7_read 118 = .ok (.goto 12, 3) := by decide +kernel
theorem dX7_read_121 : decode cX7_read 121 = .ok (.aload_n 0, 1) := by decide +kernel
theorem dX7_read_122 : decode cX7_read 122 = .ok (.aload_n 0, 1) := by decide +kernel
theorem dX7_read_123 : decode cX7_read 123 = .ok (.iload_n 2, 1) := by decide +kernel
theorem dX7_read_124 : decode cX7_read 124 = .ok (.invokevirtual 211, 3) := by decide +kernel
theorem dX7_read_127 : decode cX7_read 127 = .ok (.invokevirtual 208, 3) := by decide +kernel
theorem dX7_read_130 : decode cX7_read 130 = .ok (.iastore, 1) := by decide +kernel
theorem dX7_read_131 : decode cX7_read 131 = .ok (.iinc 3 1, 3) := by decide +kernel
theorem dX7_read_134 : decode cX7_read 134 = .ok (.goto (-52), 3) := by decide +kernel
theorem dX7_read_137 : decode cX7_read 137 = .ok (.iinc 2 1, 3) := by decide +kernel
theorem dX7_read_140 : decode cX7_read 140 = .ok (.goto (-68), 3) := by decide +kernel
theorem dX7_read_143 : decode cX7_read 143 = .ok (.iconst 0, 1) := by decide +kernel
theorem dX7_read_144 : decode cX7_read 144 = .ok (.istore_n 2, 1) := by decide +kernel
theorem dX7_read_145 : decode cX7_read 145 = .ok (.aload_n 0, 1) := by decide +kernel
theorem dX7_read_146 : decode cX7_read 146 = .ok (.getfield 148, 3) := by decide +kernel
theorem dX7_read_149 : decode cX7_read 149 = .ok (.iconst 2, 1) := by decide +kernel
theorem dX7_read_150 : decode cX7_read 150 = .ok (.if_icmp .ne 61, 3) := by decide +kernel
theorem dX7_read_153 : decode cX7_read 153 = .ok (.iload_n 2, 1) := by decide +kernel
theorem dX7_read_154 : decode cX7_read 154 = .ok (.aload_n 0, 1) := by decide +kernel
theorem dX7_read_155 : decode cX7_read 155 = .ok (.getfield 169, 3) := by decide +kernel
theorem dX7_read_158 : decode cX7_read 158 = .ok (.if_icmp .ge 53, 3) := by decide +kernel
theorem dX7_read_161 : decode cX7_read 161 = .ok (.iconst 0, 1) := by decide +kernel
theorem dX7_read_162 : decode cX7_read 162 = .ok (.istore_n 3, 1) := by decide +kernel
theorem dX7_read_163 : decode cX7_read 163 = .ok (.iload_n 3, 1) := by decide +kernel
theorem dX7_read_164 : decode cX7_read 164 = .ok (.aload_n 0, 1) := by decide +kernel
theorem dX7_read_165 : decode cX7_read 165 = .ok (.getfield 159, 3) := by decide +kernel
theorem dX7_read_168 : decode cX7_read 168 = .ok (.if_icmp .ge 37, 3) := by decide +kernel
theorem dX7_read_171 : decode cX7_read 171 = .ok (.aload_n 0, 1) := by decide +kernel
theorem dX7_read_172 : decode cX7_read 172 = .ok (.getfield 43, 3) := by decide +kernel
theorem dX7_read_175 : decode cX7_read 175 = .ok (.iload_n 3, 1) := by decide +kernel
theorem dX7_read_176 : decode cX7_read 176 = .ok (.aaload, 1) := by decide +kernel
theorem dX7_read_177 : decode cX7_read 177 = .ok (.iload_n 2, 1) := by decide +kernel
theorem dX7_read_178 : decode cX7_read 178 = .ok (.aload_n 0, 1) := by decide +kernel
theorem dX7_read_179 : decode cX7_read 179 = .ok (.getfield 46, 3) := by decide +kernel
theorem dX7_read_182 : decode cX7_read 182 = .ok (.iload_n 3, 1) := by decide +kernel
theorem dX7_read_183 : decode cX7_read 183 = .ok (.aaload, 1) := by decide +kernel
theorem dX7_read_184 : decode cX7_read 184 = .ok (.iload_n 2, 1) := by decide +kernel
theorem dX7_read_185 : decode cX7_read 185 = .ok (.iaload, 1) := by decide +kernel
theorem dX7_read_186 : decode cX7_read 186 = .ok (.ifCond .le 11, 3) := by decide +kernel
theorem dX7_read_189 : decode cX7_read 189 = .ok (.aload_n 0, 1) := by decide +kernel
theorem dX7_read_190 : decode cX7_read 190 = .ok (.iconst 2, 1) := by decide +kernel
theorem dX7_read_191 : decode cX7_read 191 = .ok (.invokevirtual 208, 3) := by decide +kernel
theorem dX7_read_194 : decode cX7_read 194 = .ok (.goto 4, 3) := by decide +kernel
theorem dX7_read_197 : decode cX7_read 197 = .ok (.iconst 2, 1) := by decide +kernel
theorem dX7_read_198 : decode cX7_read 198 = .ok (.iastore, 1) := by decide +kernel
theorem dX7_read_199 : decode cX7_read 199 = .ok (.iinc 3 1, 3) := by decide +kernel
theorem dX7_read_202 : decode cX7_read 202 = .ok (.goto (-39), 3) := by decide +kernel
theorem dX7_read_205 : decode cX7_read 205 = .ok (.iinc 2 1, 3) := by decide +kernel
theorem dX7_read_208 : decode cX7_read 208 = .ok (.goto (-63), 3) := by decide +kernel
theorem dX7_read_211 : decode cX7_read 211 = .ok (.aload_n 0, 1) := by decide +kernel
theorem dX7_read_212 : decode cX7_read 212 = .ok (.getfield 129, 3) := by decide +kernel
theorem dX7_read_215 : decode cX7_read 215 = .ok (.ifCond .eq 5, 3) := by decide +kernel
theorem dX7_read_218 : decode cX7_read 218 = .ok (.iconst 2, 1) := by decide +kernel
theorem dX7_read_219 : decode cX7_read 219 = .ok (.ireturn, 1) := by decide +kernel
theorem dX7_read_220 : decode cX7_read 220 = .ok (.aload_n 0, 1) := by decide +kernel
theorem dX7_read_221 : decode cX7_read 221 = .ok (.getfield 136, 3) := by decide +kernel
theorem dX7_read_224 : decode cX7_read 224 = .ok (.ifCond .eq 13, 3) := by decide +kernel
theorem dX7_read_227 : decode cX7_read 227 = .ok (.iload_n 1, 1) := by decide +kernel
theorem dX7_read_228 : decode cX7_read 228 = .ok (.aload_n 0, 1) := by decide +kernel
theorem dX7_read_229 : decode cX7_read 229 = .ok (.getfield 195, 3) := by decide +kernel
theorem dX7_read_232 : decode cX7_read 232 = .ok (.if_icmp .eq 5, 3) := by decide +kernel
theorem dX7_read_235 : decode cX7_read 235 = .ok (.iconst 1, 1) := by decide +kernel
theorem dX7_read_236 : decode cX7_read 236 = .ok (.ireturn, 1) := by decide +kernel
theorem dX7_read_237 : decode cX7_read 237 = .ok (.iconst 0, 1) := by decide +kernel
theorem dX7_read_238 : decode cX7_read 238 = .ok (.istore_n 2, 1) := by decide +kernel
theorem dX7_read_239 : decode cX7_read 239 = .ok (.iload_n 2, 1) := by decide +kernel
theorem dX7_read_240 : decode cX7_read 240 = .ok (.aload_n 0, 1) := by decide +kernel
theorem dX7_read_241 : decode cX7_read 241 = .ok (.getfield 159, 3) := by decide +kernel
theorem dX7_read_244 : decode cX7_read 244 = .ok (.if_icmp .ge 77, 3) := by decide +kernel
theorem dX7_read_247 : decode cX7_read 247 = .ok (.iconst 0, 1) := by decide +kernel
theorem dX7_read_248 : decode cX7_read 248 = .ok (.istore_n 3, 1) := by decide +kernel
theorem dX7_read_249 : decode cX7_read 249 = .ok (.iload_n 3, 1) := by decide +kernel
theorem dX7_read_250 : decode cX7_read 250 = .ok (.bipush 32, 2) := by decide +kernel
theorem dX7_read_252 : decode cX7_read 252 = .ok (.if_icmp .ge 63, 3) := by decide +kernel
theorem dX7_read_255 : decode cX7_read 255 = .ok (.iload_n 3, 1) := by decide +kernel
theorem dX7_read_256 : decode cX7_read 256 = .ok (.aload_n 0, 1) := by decide +kernel
theorem dX7_read_257 : decode cX7_read 257 = .ok (.getfield 169, 3) := by decide +kernel
theorem dX7_read_260 : decode cX7_read 260 = .ok (.if_icmp .ge 14, 3) := by decide +kernel
theorem dX7_read_263 : decode cX7_read 263 = .ok (.aload_n 0, 1) := by decide +kernel
theorem dX7_read_264 : decode cX7_read 264 = .ok (.getfield 46, 3) := by decide +kernel
theorem dX7_read_267 : decode cX7_read 267 = .ok (.iload_n 2, 1) := by decide +kernel
theorem dX7_read_268 : decode cX7_read 268 = .ok (.aaload, 1) := by decide +kernel
theorem dX7_read_269 : decode cX7_read 269 = .ok (.iload_n 3, 1) := by decide +kernel
theorem dX7_read_270 : decode cX7_read 270 = .ok (.iaload, 1) := by decide +kernel
theorem dX7_read_271 : decode cX7_read 271 = .ok (.goto 4, 3) := by decide +kernel
theorem dX7_read_274 : decode cX7_read 274 = .ok (.iconst 0, 1) := by decide +kernel
theorem dX7_read_275 : decode cX7_read 275 = .ok (.istore 4, 2) := by decide +kernel
theorem dX7_read_277 : decode cX7_read 277 = .ok (.aload_n 0, 1) := by decide +kernel
theorem dX7_read_278 : decode cX7_read 278 = .ok (.getfield 148, 3) := by decide +kernel
theorem dX7_read_281 : decode cX7_read 281 = .ok (.iconst 1, 1) := by decide +kernel
theorem dX7_read_282 : decode cX7_read 282 = .ok (.if_icmp .ne 12, 3) := by decide +kernel
theorem dX7_read_285 : decode cX7_read 285 = .ok (.iload 4, 2) := by decide +kernel
theorem dX7_read_287 : decode cX7_read 287 = .ok (.bipush 15, 2) := by decide +kernel
theorem dX7_read_289 : decode cX7_read 289 = .ok (.if_icmp .ne 5, 3) := by decide +kernel
theorem dX7_read_292 : decode cX7_read 292 = .ok (.iconst 2, 1) := by decide +kernel
theorem dX7_read_293 : decode cX7_read 293 = .ok (.ireturn, 1) := by decide +kernel
theorem dX7_read_294 : decode cX7_read 294 = .ok (.aload_n 0, 1) := by decide +kernel
theorem dX7_read_295 : decode cX7_read 295 = .ok (.getfield 40, 3) := by decide +kernel
theorem dX7_read_298 : decode cX7_read 298 = .ok (.iload_n 2, 1) := by decide +kernel
theorem dX7_read_299 : decode cX7_read 299 = .ok (.aaload, 1) := by decide +kernel
theorem dX7_read_300 : decode cX7_read 300 = .ok (.iload_n 3, 1) := by decide +kernel
theorem dX7_read_301 : decode cX7_read 301 = .ok (.aload_n 0, 1) := by decide +kernel
theorem dX7_read_302 : decode cX7_read 302 = .ok (.iload_n 3, 1) := by decide +kernel
theorem dX7_read_303 : decode cX7_read 303 = .ok (.iload 4, 2) := by decide +kernel
theorem dX7_read_305 : decode cX7_read 305 = .ok (.invokevirtual 214, 3) := by decide +kernel
theorem dX7_read_308 : decode cX7_read 308 = .ok (.iastore, 1) := by decide +kernel
theorem dX7_read_309 : decode cX7_read 309 = .ok (.iinc 3 1, 3) := by decide +kernel
theorem dX7_read_312 : decode cX7_read 312 = .ok (.goto (-63), 3) := by decide +kernel
theorem dX7_read_315 : decode cX7_read 315 = .ok (.iinc 2 1, 3) := by decide +kernel
theorem dX7_read_318 : decode cX7_read 318 = .ok (.goto (-79), 3) := by decide +kernel
theorem dX7_read_321 : decode cX7_read 321 = .ok (.aload_n 0, 1) := by decide +kernel
theorem dX7_read_322 : decode cX7_read 322 = .ok (.invokevirtual 217, 3) := by decide +kernel
theorem dX7_read_325 : decode cX7_read 325 = .ok (.ifCond .eq 39, 3) := by decide +kernel
theorem dX7_read_328 : decode cX7_read 328 = .ok (.aload_n 0, 1) := by decide +kernel
theorem dX7_read_329 : decode cX7_read 329 = .ok (.getfield 148, 3) := by decide +kernel
theorem dX7_read_332 : decode cX7_read 332 = .ok (.iconst 1, 1) := by decide +kernel
theorem dX7_read_333 : decode cX7_read 333 = .ok (.if_icmp .ne 13, 3) := by decide +kernel
theorem dX7_read_336 : decode cX7_read 336 = .ok (.aload_n 0, 1) := by decide +kernel
theorem dX7_read_337 : decode cX7_read 337 = .ok (.invokevirtual 220, 3) := by decide +kernel
theorem dX7_read_340 : decode cX7_read 340 = .ok (.ifCond .eq 24, 3) := by decide +kernel
theorem dX7_read_343 : decode cX7_read 343 = .ok (.goto 10, 3) := by decide +kernel
theorem dX7_read_346 : decode cX7_read 346 = .ok (.aload_n 0, 1) := by decide +kernel
theorem dX7_read_347 : decode cX7_read 347 = .ok (.invokevirtual 223, 3) := by decide +kernel
theorem dX7_read_350 : decode cX7_read 350 = .ok (.ifCond .eq 14, 3) := by decide +kernel
theorem dX7_read_353 : decode cX7_read 353 = .ok (.aload_n 0, 1) := by decide +kernel
theorem dX7_read_354 : decode cX7_read 354 = .ok (.getfield 129, 3) := by decide +kernel
theorem dX7_read_357 : decode cX7_read 357 = .ok (.ifCond .ne 7, 3) := by decide +kernel
theorem dX7_read_360 : decode cX7_read 360 = .ok (.iconst 0, 1) := by decide +kernel
theorem dX7_read_361 : decode cX7_read 361 = .ok (.goto 4, 3) := by decide +kernel
