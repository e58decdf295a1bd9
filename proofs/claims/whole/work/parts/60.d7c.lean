theorem dX7_read_364 : decode cX7_read 364 = .ok (.iconst 2, 1) := by decide +kernel
theorem dX7_read_365 : decode cX7_read 365 = .ok (.ireturn, 1) := by decide +kernel
set_option maxRecDepth 20000 in
theorem ggX7_factors_X7_bits : GoodIn wsX7_factors wsX7_bits := goodIn_r _ [11, 12, 13, 14, 15, 16, 17, 18, 19, 20, 21, 22, 23, 24, 25, 26, 27, 28, 29, 30, 31, 32, 33, 34, 35, 36, 37, 38, 39, 40, 41, 42, 43, 44, 45, 46, 47, 48, 49, 50, 51, 52, 53, 54, 55] (by decide +kernel) (by decide +kernel)
set_option maxRecDepth 20000 in
theorem gX7_factors_X7_bits : GoodIn wsX7_factors (wsV RX7 132 RX7 yX7_bits wsX7_bits) := goodIn_app (goodIn_of _ (by decide +kernel)) ggX7_factors_X7_bits
theorem dX7_factors_0 : decode cX7_factors 0 = .ok (.iconst 1, 1) := by decide +kernel
theorem dX7_factors_1 : decode cX7_factors 1 = .ok (.istore_n 1, 1) := by decide +kernel
theorem dX7_factors_2 : decode cX7_factors 2 = .ok (.iconst 0, 1) := by decide +kernel
theorem dX7_factors_3 : decode cX7_factors 3 = .ok (.istore_n 2, 1) := by decide +kernel
theorem dX7_factors_4 : decode cX7_factors 4 = .ok (.iload_n 2, 1) := by decide +kernel
theorem dX7_factors_5 : decode cX7_factors 5 = .ok (.aload_n 0, 1) := by decide +kernel
theorem dX7_factors_6 : decode cX7_factors 6 = .ok (.getfield 169, 3) := by decide +kernel
theorem dX7_factors_9 : decode cX7_factors 9 = .ok (.if_icmp .ge 184, 3) := by decide +kernel
theorem dX7_factors_12 : decode cX7_factors 12 = .ok (.iconst 0, 1) := by decide +kernel
theorem dX7_factors_13 : decode cX7_factors 13 = .ok (.istore_n 3, 1) := by decide +kernel
theorem dX7_factors_14 : decode cX7_factors 14 = .ok (.iload_n 3, 1) := by decide +kernel
theorem dX7_factors_15 : decode cX7_factors 15 = .ok (.aload_n 0, 1) := by decide +kernel
theorem dX7_factors_16 : decode cX7_factors 16 = .ok (.getfield 159, 3) := by decide +kernel
theorem dX7_factors_19 : decode cX7_factors 19 = .ok (.if_icmp .ge 168, 3) := by decide +kernel
theorem dX7_factors_22 : decode cX7_factors 22 = .ok (.aload_n 0, 1) := by decide +kernel
theorem dX7_factors_23 : decode cX7_factors 23 = .ok (.getfield 40, 3) := by decide +kernel
theorem dX7_factors_26 : decode cX7_factors 26 = .ok (.iload_n 3, 1) := by decide +kernel
theorem dX7_factors_27 : decode cX7_factors 27 = .ok (.aaload, 1) := by decide +kernel
theorem dX7_factors_28 : decode cX7_factors 28 = .ok (.iload_n 2, 1) := by decide +kernel
theorem dX7_factors_29 : decode cX7_factors 29 = .ok (.iaload, 1) := by decide +kernel
theorem dX7_factors_30 : decode cX7_factors 30 = .ok (.ifCond .ne 6, 3) := by decide +kernel
theorem dX7_factors_33 : decode cX7_factors 33 = .ok (.goto 148, 3) := by decide +kernel
theorem dX7_factors_36 : decode cX7_factors 36 = .ok (.aload_n 0, 1) := by decide +kernel
theorem dX7_factors_37 : decode cX7_factors 37 = .ok (.getfield 148, 3) := by decide +kernel
theorem dX7_factors_40 : decode cX7_factors 40 = .ok (.iconst 1, 1) := by decide +kernel
theorem dX7_factors_41 : decode cX7_factors 41 = .ok (.if_icmp .ne 7, 3) := by decide +kernel
theorem dX7_factors_44 : decode cX7_factors 44 = .ok (.iconst 2, 1) := by decide +kernel
theorem dX7_factors_45 : decode cX7_factors 45 = .ok (.goto 11, 3) := by decide +kernel
theorem dX7_factors_48 : decode cX7_factors 48 = .ok (.aload_n 0, 1) := by decide +kernel
theorem dX7_factors_49 : decode cX7_factors 49 = .ok (.getfield 43, 3) := by decide +kernel
theorem dX7_factors_52 : decode cX7_factors 52 = .ok (.iload_n 3, 1) := by decide +kernel
theorem dX7_factors_53 : decode cX7_factors 53 = .ok (.aaload, 1) := by decide +kernel
theorem dX7_factors_54 : decode cX7_factors 54 = .ok (.iload_n 2, 1) := by decide +kernel
theorem dX7_factors_55 : decode cX7_factors 55 = .ok (.iaload, 1) := by decide +kernel
theorem dX7_factors_56 : decode cX7_factors 56 = .ok (.istore 4, 2) := by decide +kernel
theorem dX7_factors_58 : decode cX7_factors 58 = .ok (.aload_n 0, 1) := by decide +kernel
theorem dX7_factors_59 : decode cX7_factors 59 = .ok (.bipush 6, 2) := by decide +kernel
theorem dX7_factors_61 : decode cX7_factors 61 = .ok (.invokevirtual 132, 3) := by decide +kernel
theorem dX7_factors_64 : decode cX7_factors 64 = .ok (.istore 5, 2) := by decide +kernel
theorem dX7_factors_66 : decode cX7_factors 66 = .ok (.iload 4, 2) := by decide +kernel
theorem dX7_factors_68 : decode cX7_factors 68 = .ok (.iconst 2, 1) := by decide +kernel
theorem dX7_factors_69 : decode cX7_factors 69 = .ok (.if_icmp .ne 8, 3) := by decide +kernel
theorem dX7_factors_72 : decode cX7_factors 72 = .ok (.iload 5, 2) := by decide +kernel
theorem dX7_factors_74 : decode cX7_factors 74 = .ok (.goto 9, 3) := by decide +kernel
theorem dX7_factors_77 : decode cX7_factors 77 = .ok (.aload_n 0, 1) := by decide +kernel
theorem dX7_factors_78 : decode cX7_factors 78 = .ok (.bipush 6, 2) := by decide +kernel
theorem dX7_factors_80 : decode cX7_factors 80 = .ok (.invokevirtual 132, 3) := by decide +kernel
theorem dX7_factors_83 : decode cX7_factors 83 = .ok (.istore 6, 2) := by decide +kernel
theorem dX7_factors_85 : decode cX7_factors 85 = .ok (.iload 4, 2) := by decide +kernel
theorem dX7_factors_87 : decode cX7_factors 87 = .ok (.ifCond .ne 12, 3) := by decide +kernel
theorem dX7_factors_90 : decode cX7_factors 90 = .ok (.aload_n 0, 1) := by decide +kernel
theorem dX7_factors_91 : decode cX7_factors 91 = .ok (.bipush 6, 2) := by decide +kernel
theorem dX7_factors_93 : decode cX7_factors 93 = .ok (.invokevirtual 132, 3) := by decide +kernel
theorem dX7_factors_96 : decode cX7_factors 96 = .ok (.goto 5, 3) := by decide +kernel
theorem dX7_factors_99 : decode cX7_factors 99 = .ok (.iload 6, 2) := by decide +kernel
theorem dX7_factors_101 : decode cX7_factors 101 = .ok (.istore 7, 2) := by decide +kernel
theorem dX7_factors_103 : decode cX7_factors 103 = .ok (.aload_n 0, 1) := by decide +kernel
theorem dX7_factors_104 : decode cX7_factors 104 = .ok (.getfield 49, 3) := by decide +kernel
theorem dX7_factors_107 : decode cX7_factors 107 = .ok (.iload_n 3, 1) := by decide +kernel
theorem dX7_factors_108 : decode cX7_factors 108 = .ok (.aaload, 1) := by decide +kernel
theorem dX7_factors_109 : decode cX7_factors 109 = .ok (.iload_n 2, 1) := by decide +kernel
theorem dX7_factors_110 : decode cX7_factors 110 = .ok (.aaload, 1) := by decide +kernel
theorem dX7_factors_111 : decode cX7_factors 111 = .ok (.iconst 0, 1) := by decide +kernel
theorem dX7_factors_112 : decode cX7_factors 112 = .ok (.iload 5, 2) := by decide +kernel
theorem dX7_factors_114 : decode cX7_factors 114 = .ok (.iastore, 1) := by decide +kernel
theorem dX7_factors_115 : decode cX7_factors 115 = .ok (.aload_n 0, 1) := by decide +kernel
theorem dX7_factors_116 : decode cX7_factors 116 = .ok (.getfield 49, 3) := by decide +kernel
theorem dX7_factors_119 : decode cX7_factors 119 = .ok (.iload_n 3, 1) := by decide +kernel
theorem dX7_factors_120 : decode cX7_factors 120 = .ok (.aaload, 1) := by decide +kernel
theorem dX7_factors_121 : decode cX7_factors 121 = .ok (.iload_n 2, 1) := by decide +kernel
theorem dX7_factors_122 : decode cX7_factors 122 = .ok (.aaload, 1) := by decide +kernel
theorem dX7_factors_123 : decode cX7_factors 123 = .ok (.iconst 1, 1) := by decide +kernel
theorem dX7_factors_124 : decode cX7_factors 124 = .ok (.iload 4, 2) := by decide +kernel
theorem dX7_factors_126 : decode cX7_factors 126 = .ok (.iconst 1, 1) := by decide +kernel
theorem dX7_factors_127 : decode cX7_factors 127 = .ok (.if_icmp .ne 8, 3) := by decide +kernel
theorem dX7_factors_130 : decode cX7_factors 130 = .ok (.iload 5, 2) := by decide +kernel
theorem dX7_factors_132 : decode cX7_factors 132 = .ok (.goto 5, 3) := by decide +kernel
theorem dX7_factors_135 : decode cX7_factors 135 = .ok (.iload 6, 2) := by decide +kernel
theorem dX7_factors_137 : decode cX7_factors 137 = .ok (.iastore, 1) := by decide +kernel
theorem dX7_factors_138 : decode cX7_factors 138 = .ok (.aload_n 0, 1) := by decide +kernel
theorem dX7_factors_139 : decode cX7_factors 139 = .ok (.getfield 49, 3) := by decide +kernel
theorem dX7_factors_142 : decode cX7_factors 142 = .ok (.iload_n 3, 1) := by decide +kernel
theorem dX7_factors_143 : decode cX7_factors 143 = .ok (.aaload, 1) := by decide +kernel
theorem dX7_factors_144 : decode cX7_factors 144 = .ok (.iload_n 2, 1) := by decide +kernel
theorem dX7_factors_145 : decode cX7_factors 145 = .ok (.aaload, 1) := by decide +kernel
theorem dX7_factors_146 : decode cX7_factors 146 = .ok (.iconst 2, 1) := by decide +kernel
theorem dX7_factors_147 : decode cX7_factors 147 = .ok (.iload 7, 2) := by decide +kernel
theorem dX7_factors_149 : decode cX7_factors 149 = .ok (.iastore, 1) := by decide +kernel
theorem dX7_factors_150 : decode cX7_factors 150 = .ok (.iload_n 1, 1) := by decide +kernel
theorem dX7_factors_151 : decode cX7_factors 151 = .ok (.ifCond .eq 28, 3) := by decide +kernel
theorem dX7_factors_154 : decode cX7_factors 154 = .ok (.iload 5, 2) := by decide +kernel
theorem dX7_factors_156 : decode cX7_factors 156 = .ok (.bipush 63, 2) := by decide +kernel
theorem dX7_factors_158 : decode cX7_factors 158 = .ok (.if_icmp .eq 21, 3) := by decide +kernel
theorem dX7_factors_161 : decode cX7_factors 161 = .ok (.iload 6, 2) := by decide +kernel
theorem dX7_factors_163 : decode cX7_factors 163 = .ok (.bipush 63, 2) := by decide +kernel
theorem dX7_factors_165 : decode cX7_factors 165 = .ok (.if_icmp .eq 14, 3) := by decide +kernel
theorem dX7_factors_168 : decode cX7_factors 168 = .ok (.iload 7, 2) := by decide +kernel
theorem dX7_factors_170 : decode cX7_factors 170 = .ok (.bipush 63, 2) := by decide +kernel
theorem dX7_factors_172 : decode cX7_factors 172 = .ok (.if_icmp .eq 7, 3) := by decide +kernel
theorem dX7_factors_175 : decode cX7_factors 175 = .ok (.iconst 1, 1) := by decide +kernel
theorem dX7_factors_176 : decode cX7_factors 176 = .ok (.goto 4, 3) := by decide +kernel
theorem dX7_factors_179 : decode cX7_factors 179 = .ok (.iconst 0, 1) := by decide +kernel
theorem dX7_factors_180 : decode cX7_factors 180 = .ok (.istore_n 1, 1) := by decide +kernel
theorem dX7_factors_181 : decode cX7_factors 181 = .ok (.iinc 3 1, 3) := by decide +kernel
theorem dX7_factors_184 : decode cX7_factors 184 = .ok (.goto (-170), 3) := by decide +kernel
theorem dX7_factors_187 : decode cX7_factors 187 = .ok (.iinc 2 1, 3) := by decide +kernel
theorem dX7_factors_190 : decode cX7_factors 190 = .ok (.goto (-186), 3) := by decide +kernel
theorem dX7_factors_193 : decode cX7_factors 193 = .ok (.iload_n 1, 1) := by decide +kernel
theorem dX7_factors_194 : decode cX7_factors 194 = .ok (.ireturn, 1) := by decide +kernel
theorem dX7_bitsOf_0 : decode cX7_bitsOf 0 = .ok (.iconst 0, 1) := by decide +kernel
theorem dX7_bitsOf_1 : decode cX7_bitsOf 1 = .ok (.istore_n 1, 1) := by decide +kernel
theorem dX7_bitsOf_2 : decode cX7_bitsOf 2 = .ok (.iconst 1, 1) := by decide +kernel
theorem dX7_bitsOf_3 : decode cX7_bitsOf 3 = .ok (.iload_n 1, 1) := by decide +kernel
theorem dX7_bitsOf_4 : decode cX7_bitsOf 4 = .ok (.ishl, 1) := by decide +kernel
theorem dX7_bitsOf_5 : decode cX7_bitsOf 5 = .ok (.iload_n 0, 1) := by decide +kernel
theorem dX7_bitsOf_6 : decode cX7_bitsOf 6 = .ok (.if_icmp .gt 9, 3) := by decide +kernel
theorem dX7_bitsOf_9 : decode cX7_bitsOf 9 = .ok (.iinc 1 1, 3) := by decide +kernel
theorem dX7_bitsOf_12 : decode cX7_bitsOf 12 = .ok (.goto (-10), 3) := by decide +kernel
theorem dX7_bitsOf_15 : decode cX7_bitsOf 15 = .ok (.iload_n 1, 1) := by decide +kernel
theorem dX7_bitsOf_16 : decode cX7_bitsOf 16 = .ok (.ireturn, 1) := by decide +kernel
set_option maxRecDepth 20000 in
theorem ggX7_codesOne_X7_bitsOf : GoodIn wsX7_codesOne wsX7_bitsOf := goodIn_r _ [9] (by decide +kernel) (by decide +kernel)
set_option maxRecDepth 20000 in
theorem gX7_codesOne_X7_bitsOf : GoodIn wsX7_codesOne (va_wsS RX7 226 yX7_bitsOf wsX7_bitsOf) := goodIn_app (goodIn_of _ (by decide +kernel)) ggX7_codesOne_X7_bitsOf
set_option maxRecDepth 20000 in
theorem ggX7_codesOne_X7_bits : GoodIn wsX7_codesOne wsX7_bits := goodIn_r _ [13, 14, 15, 16, 17, 18, 19, 20, 21, 22, 23, 24, 25, 26, 27, 28, 29, 30, 31, 32, 33, 34, 35, 36, 37, 38, 39, 40, 41, 42, 43, 44, 45, 46, 47, 48, 49, 50, 51, 52, 53, 54, 55, 56, 57] (by decide +kernel) (by decide +kernel)
set_option maxRecDepth 20000 in
theorem gX7_codesOne_X7_bits : GoodIn wsX7_codesOne (wsV RX7 132 RX7 yX7_bits wsX7_bits) := goodIn_app (goodIn_of _ (by decide +kernel)) ggX7_codesOne_X7_bits
theorem dX7_codesOne_0 : decode cX7_codesOne 0 = .ok (.iconst 1, 1) := by decide +kernel
theorem dX7_codesOne_1 : decode cX7_codesOne 1 = .ok (.istore_n 1, 1) := by decide +kernel
theorem dX7_codesOne_2 : decode cX7_codesOne 2 = .ok (.iconst 0, 1) := by decide +kernel
theorem dX7_codesOne_3 : decode cX7_codesOne 3 = .ok (.istore_n 2, 1) := by decide +kernel
theorem dX7_codesOne_4 : decode cX7_codesOne 4 = .ok (.iload_n 2, 1) := by decide +kernel
theorem dX7_codesOne_5 : decode cX7_codesOne 5 = .ok (.bipush 12, 2) := by decide +kernel
theorem dX7_codesOne_7 : decode cX7_codesOne 7 = .ok (.if_icmp .ge 145, 3) := by decide +kernel
theorem dX7_codesOne_10 : decode cX7_codesOne 10 = .ok (.iconst 0, 1) := by decide +kernel
theorem dX7_codesOne_11 : decode cX7_codesOne 11 = .ok (.istore_n 3, 1) := by decide +kernel
theorem dX7_codesOne_12 : decode cX7_codesOne 12 = .ok (.iload_n 3, 1) := by decide +kernel
theorem dX7_codesOne_13 : decode cX7_codesOne 13 = .ok (.aload_n 0, 1) := by decide +kernel
theorem dX7_codesOne_14 : decode cX7_codesOne 14 = .ok (.getfield 169, 3) := by decide +kernel
theorem dX7_codesOne_17 : decode cX7_codesOne 17 = .ok (.if_icmp .ge 129, 3) := by decide +kernel
theorem dX7_codesOne_20 : decode cX7_codesOne 20 = .ok (.iconst 0, 1) := by decide +kernel
theorem dX7_codesOne_21 : decode cX7_codesOne 21 = .ok (.istore 4, 2) := by decide +kernel
theorem dX7_codesOne_23 : decode cX7_codesOne 23 = .ok (.iload 4, 2) := by decide +kernel
theorem dX7_codesOne_25 : decode cX7_codesOne 25 = .ok (.aload_n 0, 1) := by decide +kernel
theorem dX7_codesOne_26 : decode cX7_codesOne 26 = .ok (.getfield 159, 3) := by decide +kernel
theorem dX7_codesOne_29 : decode cX7_codesOne 29 = .ok (.if_icmp .ge 111, 3) := by decide +kernel
theorem dX7_codesOne_32 : decode cX7_codesOne 32 = .ok (.aload_n 0, 1) := by decide +kernel
theorem dX7_codesOne_33 : decode cX7_codesOne 33 = .ok (.getfield 40, 3) := by decide +kernel
theorem dX7_codesOne_36 : decode cX7_codesOne 36 = .ok (.iload 4, 2) := by decide +kernel
theorem dX7_codesOne_38 : decode cX7_codesOne 38 = .ok (.aaload, 1) := by decide +kernel
theorem dX7_codesOne_39 : decode cX7_codesOne 39 = .ok (.iload_n 3, 1) := by decide +kernel
theorem dX7_codesOne_40 : decode cX7_codesOne 40 = .ok (.iaload, 1) := by decide +kernel
theorem dX7_codesOne_41 : decode cX7_codesOne 41 = .ok (.ifCond .ne 6, 3) := by decide +kernel
theorem dX7_codesOne_44 : decode cX7_codesOne 44 = .ok (.goto 90, 3) := by decide +kernel
theorem dX7_codesOne_47 : decode cX7_codesOne 47 = .ok (.aload_n 0, 1) := by decide +kernel
theorem dX7_codesOne_48 : decode cX7_codesOne 48 = .ok (.getfield 52, 3) := by decide +kernel
theorem dX7_codesOne_51 : decode cX7_codesOne 51 = .ok (.iload 4, 2) := by decide +kernel
theorem dX7_codesOne_53 : decode cX7_codesOne 53 = .ok (.aaload, 1) := by decide +kernel
theorem dX7_codesOne_54 : decode cX7_codesOne 54 = .ok (.iload_n 2, 1) := by decide +kernel
theorem dX7_codesOne_55 : decode cX7_codesOne 55 = .ok (.aaload, 1) := by decide +kernel
theorem dX7_codesOne_56 : decode cX7_codesOne 56 = .ok (.iload_n 3, 1) := by decide +kernel
theorem dX7_codesOne_57 : decode cX7_codesOne 57 = .ok (.iload 4, 2) := by decide +kernel
theorem dX7_codesOne_59 : decode cX7_codesOne 59 = .ok (.iconst 1, 1) := by decide +kernel
theorem dX7_codesOne_60 : decode cX7_codesOne 60 = .ok (.if_icmp .ne 24, 3) := by decide +kernel
theorem dX7_codesOne_63 : decode cX7_codesOne 63 = .ok (.iload_n 3, 1) := by decide +kernel
theorem dX7_codesOne_64 : decode cX7_codesOne 64 = .ok (.aload_n 0, 1) := by decide +kernel
theorem dX7_codesOne_65 : decode cX7_codesOne 65 = .ok (.getfield 172, 3) := by decide +kernel
theorem dX7_codesOne_68 : decode cX7_codesOne 68 = .ok (.if_icmp .lt 16, 3) := by decide +kernel
theorem dX7_codesOne_71 : decode cX7_codesOne 71 = .ok (.aload_n 0, 1) := by decide +kernel
theorem dX7_codesOne_72 : decode cX7_codesOne 72 = .ok (.getfield 52, 3) := by decide +kernel
theorem dX7_codesOne_75 : decode cX7_codesOne 75 = .ok (.iconst 0, 1) := by decide +kernel
theorem dX7_codesOne_76 : decode cX7_codesOne 76 = .ok (.aaload, 1) := by decide +kernel
theorem dX7_codesOne_77 : decode cX7_codesOne 77 = .ok (.iload_n 2, 1) := by decide +kernel
theorem dX7_codesOne_78 : decode cX7_codesOne 78 = .ok (.aaload, 1) := by decide +kernel
theorem dX7_codesOne_79 : decode cX7_codesOne 79 = .ok (.iload_n 3, 1) := by decide +kernel
theorem dX7_codesOne_80 : decode cX7_codesOne 80 = .ok (.iaload, 1) := by decide +kernel
theorem dX7_codesOne_81 : decode cX7_codesOne 81 = .ok (.goto 19, 3) := by decide +kernel
theorem dX7_codesOne_84 : decode cX7_codesOne 84 = .ok (.aload_n 0, 1) := by decide +kernel
theorem dX7_codesOne_85 : decode cX7_codesOne 85 = .ok (.aload_n 0, 1) := by decide +kernel
theorem dX7_codesOne_86 : decode cX7_codesOne 86 = .ok (.getfield 40, 3) := by decide +kernel
theorem dX7_codesOne_89 : decode cX7_codesOne 89 = .ok (.iload 4, 2) := by decide +kernel
theorem dX7_codesOne_91 : decode cX7_codesOne 91 = .ok (.aaload, 1) := by decide +kernel
theorem dX7_codesOne_92 : decode cX7_codesOne 92 = .ok (.iload_n 3, 1) := by decide +kernel
theorem dX7_codesOne_93 : decode cX7_codesOne 93 = .ok (.iaload, 1) := by decide +kernel
theorem dX7_codesOne_94 : decode cX7_codesOne 94 = .ok (.invokestatic 226, 3) := by decide +kernel
theorem dX7_codesOne_97 : decode cX7_codesOne 97 = .ok (.invokevirtual 132, 3) := by decide +kernel
theorem dX7_codesOne_100 : decode cX7_codesOne 100 = .ok (.iastore, 1) := by decide +kernel
theorem dX7_codesOne_101 : decode cX7_codesOne 101 = .ok (.iload_n 1, 1) := by decide +kernel
theorem dX7_codesOne_102 : decode cX7_codesOne 102 = .ok (.ifCond .eq 30, 3) := by decide +kernel
theorem dX7_codesOne_105 : decode cX7_codesOne 105 = .ok (.aload_n 0, 1) := by decide +kernel
theorem dX7_codesOne_106 : decode cX7_codesOne 106 = .ok (.getfield 52, 3) := by decide +kernel
theorem dX7_codesOne_109 : decode cX7_codesOne 109 = .ok (.iload 4, 2) := by decide +kernel
theorem dX7_codesOne_111 : decode cX7_codesOne 111 = .ok (.aaload, 1) := by decide +kernel
theorem dX7_codesOne_112 : decode cX7_codesOne 112 = .ok (.iload_n 2, 1) := by decide +kernel
theorem dX7_codesOne_113 : decode cX7_codesOne 113 = .ok (.aaload, 1) := by decide +kernel
theorem dX7_codesOne_114 : decode cX7_codesOne 114 = .ok (.iload_n 3, 1) := by decide +kernel
theorem dX7_codesOne_115 : decode cX7_codesOne 115 = .ok (.iaload, 1) := by decide +kernel
theorem dX7_codesOne_116 : decode cX7_codesOne 116 = .ok (.aload_n 0, 1) := by decide +kernel
theorem dX7_codesOne_117 : decode cX7_codesOne 117 = .ok (.getfield 40, 3) := by decide +kernel
theorem dX7_codesOne_120 : decode cX7_codesOne 120 = .ok (.iload 4, 2) := by decide +kernel
theorem dX7_codesOne_122 : decode cX7_codesOne 122 = .ok (.aaload, 1) := by decide +kernel
theorem dX7_codesOne_123 : decode cX7_codesOne 123 = .ok (.iload_n 3, 1) := by decide +kernel
theorem dX7_codesOne_124 : decode cX7_codesOne 124 = .ok (.iaload, 1) := by decide +kernel
theorem dX7_codesOne_125 : decode cX7_codesOne 125 = .ok (.if_icmp .eq 7, 3) := by decide +kernel
theorem dX7_codesOne_128 : decode cX7_codesOne 128 = .ok (.iconst 1, 1) := by decide +kernel
theorem dX7_codesOne_129 : decode cX7_codesOne 129 = .ok (.goto 4, 3) := by decide +kernel
theorem dX7_codesOne_132 : decode cX7_codesOne 132 = .ok (.iconst 0, 1) := by decide +kernel
theorem dX7_codesOne_133 : decode cX7_codesOne 133 = .ok (.istore_n 1, 1) := by decide +kernel
theorem dX7_codesOne_134 : decode cX7_codesOne 134 = .ok (.iinc 4 1, 3) := by decide +kernel
theorem dX7_codesOne_137 : decode cX7_codesOne 137 = .ok (.goto (-114), 3) := by decide +kernel
theorem dX7_codesOne_140 : decode cX7_codesOne 140 = .ok (.iinc 3 1, 3) := by decide +kernel
theorem dX7_codesOne_143 : decode cX7_codesOne 143 = .ok (.goto (-131), 3) := by decide +kernel
theorem dX7_codesOne_146 : decode cX7_codesOne 146 = .ok (.iinc 2 1, 3) := by decide +kernel
theorem dX7_codesOne_149 : decode cX7_codesOne 149 = .ok (.goto (-145), 3) := by decide +kernel
theorem dX7_codesOne_152 : decode cX7_codesOne 152 = .ok (.iload_n 1, 1) := by decide +kernel
theorem dX7_codesOne_153 : decode cX7_codesOne 153 = .ok (.ireturn, 1) := by decide +kernel
set_option maxRecDepth 20000 in
theorem ggX7_codesTwo_X7_three : GoodIn wsX7_codesTwo wsX7_three := goodIn_r _ [10, 11, 12, 13, 9, 14, 15, 16, 17, 18, 19, 20, 21, 22, 23, 24, 25, 26, 27, 28, 29, 30, 31, 32, 33, 34, 35, 36, 37, 38, 39, 40, 41, 42, 43, 44, 45, 46, 47, 48, 49, 50, 51, 52, 53, 54, 55, 56, 57, 58, 59, 60, 61] (by decide +kernel) (by decide +kernel)
set_option maxRecDepth 20000 in
theorem gX7_codesTwo_X7_three : GoodIn wsX7_codesTwo (wsV RX7 229 RX7 yX7_three wsX7_three) := goodIn_app (goodIn_of _ (by decide +kernel)) ggX7_codesTwo_X7_three
theorem dX7_codesTwo_0 : decode cX7_codesTwo 0 = .ok (.iconst 1, 1) := by decide +kernel
theorem dX7_codesTwo_1 : decode cX7_codesTwo 1 = .ok (.istore_n 1, 1) := by decide +kernel
theorem dX7_codesTwo_2 : decode cX7_codesTwo 2 = .ok (.iconst 0, 1) := by decide +kernel
theorem dX7_codesTwo_3 : decode cX7_codesTwo 3 = .ok (.istore_n 2, 1) := by decide +kernel
theorem dX7_codesTwo_4 : decode cX7_codesTwo 4 = .ok (.iload_n 2, 1) := by decide +kernel
theorem dX7_codesTwo_5 : decode cX7_codesTwo 5 = .ok (.bipush 12, 2) := by decide +kernel
theorem dX7_codesTwo_7 : decode cX7_codesTwo 7 = .ok (.if_icmp .ge 157, 3) := by decide +kernel
theorem dX7_codesTwo_10 : decode cX7_codesTwo 10 = .ok (.iconst 0, 1) := by decide +kernel
theorem dX7_codesTwo_11 : decode cX7_codesTwo 11 = .ok (.istore_n 3, 1) := by decide +kernel
theorem dX7_codesTwo_12 : decode cX7_codesTwo 12 = .ok (.iload_n 3, 1) := by decide +kernel
theorem dX7_codesTwo_13 : decode cX7_codesTwo 13 = .ok (.aload_n 0, 1) := by decide +kernel
theorem dX7_codesTwo_14 : decode cX7_codesTwo 14 = .ok (.getfield 169, 3) := by decide +kernel
theorem dX7_codesTwo_17 : decode cX7_codesTwo 17 = .ok (.if_icmp .ge 141, 3) := by decide +kernel
theorem dX7_codesTwo_20 : decode cX7_codesTwo 20 = .ok (.iconst 0, 1) := by decide +kernel
theorem dX7_codesTwo_21 : decode cX7_codesTwo 21 = .ok (.istore 4, 2) := by decide +kernel
theorem dX7_codesTwo_23 : decode cX7_codesTwo 23 = .ok (.iload 4, 2) := by decide +kernel
theorem dX7_codesTwo_25 : decode cX7_codesTwo 25 = .ok (.aload_n 0, 1) := by decide +kernel
theorem dX7_codesTwo_26 : decode cX7_codesTwo 26 = .ok (.getfield 159, 3) := by decide +kernel
theorem dX7_codesTwo_29 : decode cX7_codesTwo 29 = .ok (.if_icmp .ge 123, 3) := by decide +kernel
theorem dX7_codesTwo_32 : decode cX7_codesTwo 32 = .ok (.aload_n 0, 1) := by decide +kernel
theorem dX7_codesTwo_33 : decode cX7_codesTwo 33 = .ok (.getfield 40, 3) := by decide +kernel
theorem dX7_codesTwo_36 : decode cX7_codesTwo 36 = .ok (.iload 4, 2) := by decide +kernel
theorem dX7_codesTwo_38 : decode cX7_codesTwo 38 = .ok (.aaload, 1) := by decide +kernel
theorem dX7_codesTwo_39 : decode cX7_codesTwo 39 = .ok (.iload_n 3, 1) := by decide +kernel
theorem dX7_codesTwo_40 : decode cX7_codesTwo 40 = .ok (.iaload, 1) := by decide +kernel
theorem dX7_codesTwo_41 : decode cX7_codesTwo 41 = .ok (.ifCond .ne 6, 3) := by decide +kernel
theorem dX7_codesTwo_44 : decode cX7_codesTwo 44 = .ok (.goto 102, 3) := by decide +kernel
theorem dX7_codesTwo_47 : decode cX7_codesTwo 47 = .ok (.iload 4, 2) := by decide +kernel
theorem dX7_codesTwo_49 : decode cX7_codesTwo 49 = .ok (.iconst 1, 1) := by decide +kernel
theorem dX7_codesTwo_50 : decode cX7_codesTwo 50 = .ok (.if_icmp .ne 59, 3) := by decide +kernel
theorem dX7_codesTwo_53 : decode cX7_codesTwo 53 = .ok (.iload_n 3, 1) := by decide +kernel
theorem dX7_codesTwo_54 : decode cX7_codesTwo 54 = .ok (.aload_n 0, 1) := by decide +kernel
theorem dX7_codesTwo_55 : decode cX7_codesTwo 55 = .ok (.getfield 172, 3) := by decide +kernel
theorem dX7_codesTwo_58 : decode cX7_codesTwo 58 = .ok (.if_icmp .lt 51, 3) := by decide +kernel
theorem dX7_codesTwo_61 : decode cX7_codesTwo 61 = .ok (.iconst 0, 1) := by decide +kernel
theorem dX7_codesTwo_62 : decode cX7_codesTwo 62 = .ok (.istore 5, 2) := by decide +kernel
theorem dX7_codesTwo_64 : decode cX7_codesTwo 64 = .ok (.iload 5, 2) := by decide +kernel
theorem dX7_codesTwo_66 : decode cX7_codesTwo 66 = .ok (.iconst 3, 1) := by decide +kernel
theorem dX7_codesTwo_67 : decode cX7_codesTwo 67 = .ok (.if_icmp .ge 39, 3) := by decide +kernel
theorem dX7_codesTwo_70 : decode cX7_codesTwo 70 = .ok (.aload_n 0, 1) := by decide +kernel
theorem dX7_codesTwo_71 : decode cX7_codesTwo 71 = .ok (.getfield 52, 3) := by decide +kernel
theorem dX7_codesTwo_74 : decode cX7_codesTwo 74 = .ok (.iconst 1, 1) := by decide +kernel
theorem dX7_codesTwo_75 : decode cX7_codesTwo 75 = .ok (.aaload, 1) := by decide +kernel
theorem dX7_codesTwo_76 : decode cX7_codesTwo 76 = .ok (.iconst 3, 1) := by decide +kernel
theorem dX7_codesTwo_77 : decode cX7_codesTwo 77 = .ok (.iload_n 2, 1) := by decide +kernel
theorem dX7_codesTwo_78 : decode cX7_codesTwo 78 = .ok (.imul, 1) := by decide +kernel
theorem dX7_codesTwo_79 : decode cX7_codesTwo 79 = .ok (.iload 5, 2) := by decide +kernel
theorem dX7_codesTwo_81 : decode cX7_codesTwo 81 = .ok (.iadd, 1) := by decide +kernel
theorem dX7_codesTwo_82 : decode cX7_codesTwo 82 = .ok (.aaload, 1) := by decide +kernel
theorem dX7_codesTwo_83 : decode cX7_codesTwo 83 = .ok (.iload_n 3, 1) := by decide +kernel
theorem dX7_codesTwo_84 : decode cX7_codesTwo 84 = .ok (.aload_n 0, 1) := by decide +kernel
theorem dX7_codesTwo_85 : decode cX7_codesTwo 85 = .ok (.getfield 52, 3) := by decide +kernel
theorem dX7_codesTwo_88 : decode cX7_codesTwo 88 = .ok (.iconst 0, 1) := by decide +kernel
theorem dX7_codesTwo_89 : decode cX7_codesTwo 89 = .ok (.aaload, 1) := by decide +kernel
theorem dX7_codesTwo_90 : decode cX7_codesTwo 90 = .ok (.iconst 3, 1) := by decide +kernel
theorem dX7_codesTwo_91 : decode cX7_codesTwo 91 = .ok (.iload_n 2, 1) := by decide +kernel
theorem dX7_codesTwo_92 : decode cX7_codesTwo 92 = .ok (.imul, 1) := by decide +kernel
theorem dX7_codesTwo_93 : decode cX7_codesTwo 93 = .ok (.iload 5, 2) := by decide +kernel
theorem dX7_codesTwo_95 : decode cX7_codesTwo 95 = .ok (.iadd, 1) := by decide +kernel
theorem dX7_codesTwo_96 : decode cX7_codesTwo 96 = .ok (.aaload, 1) := by decide +kernel
theorem dX7_codesTwo_97 : decode cX7_codesTwo 97 = .ok (.iload_n 3, 1) := by decide +kernel
theorem dX7_codesTwo_98 : decode cX7_codesTwo 98 = .ok (.iaload, 1) := by decide +kernel
theorem dX7_codesTwo_99 : decode cX7_codesTwo 99 = .ok (.iastore, 1) := by decide +kernel
theorem dX7_codesTwo_100 : decode cX7_codesTwo 100 = .ok (.iinc 5 1, 3) := by decide +kernel
theorem dX7_codesTwo_103 : decode cX7_codesTwo 103 = .ok (.goto (-39), 3) := by decide +kernel
theorem dX7_codesTwo_106 : decode cX7_codesTwo 106 = .ok (.goto 40, 3) := by decide +kernel
theorem dX7_codesTwo_109 : decode cX7_codesTwo 109 = .ok (.aload_n 0, 1) := by decide +kernel
theorem dX7_codesTwo_110 : decode cX7_codesTwo 110 = .ok (.aload_n 0, 1) := by decide +kernel
theorem dX7_codesTwo_111 : decode cX7_codesTwo 111 = .ok (.getfield 52, 3) := by decide +kernel
theorem dX7_codesTwo_114 : decode cX7_codesTwo 114 = .ok (.iload 4, 2) := by decide +kernel
theorem dX7_codesTwo_116 : decode cX7_codesTwo 116 = .ok (.aaload, 1) := by decide +kernel
theorem dX7_codesTwo_117 : decode cX7_codesTwo 117 = .ok (.iconst 3, 1) := by decide +kernel
theorem dX7_codesTwo_118 : decode cX7_codesTwo 118 = .ok (.iload_n 2, 1) := by decide +kernel
theorem dX7_codesTwo_119 : decode cX7_codesTwo 119 = .ok (.imul, 1) := by decide +kernel
theorem dX7_codesTwo_120 : decode cX7_codesTwo 120 = .ok (.iload_n 3, 1) := by decide +kernel
theorem dX7_codesTwo_121 : decode cX7_codesTwo 121 = .ok (.aload_n 0, 1) := by decide +kernel
theorem dX7_codesTwo_122 : decode cX7_codesTwo 122 = .ok (.getfield 40, 3) := by decide +kernel
theorem dX7_codesTwo_125 : decode cX7_codesTwo 125 = .ok (.iload 4, 2) := by decide +kernel
theorem dX7_codesTwo_127 : decode cX7_codesTwo 127 = .ok (.aaload, 1) := by decide +kernel
theorem dX7_codesTwo_128 : decode cX7_codesTwo 128 = .ok (.iload_n 3, 1) := by decide +kernel
theorem dX7_codesTwo_129 : decode cX7_codesTwo 129 = .ok (.iaload, 1) := by decide +kernel
theorem dX7_codesTwo_130 : decode cX7_codesTwo 130 = .ok (.invokevirtual 229, 3) := by decide +kernel
theorem dX7_codesTwo_133 : decode cX7_codesTwo 133 = .ok (.ifCond .eq 11, 3) := by decide +kernel
theorem dX7_codesTwo_136 : decode cX7_codesTwo 136 = .ok (.iload_n 1, 1) := by decide +kernel
theorem dX7_codesTwo_137 : decode cX7_codesTwo 137 = .ok (.ifCond .eq 7, 3) := by decide +kernel
theorem dX7_codesTwo_140 : decode cX7_codesTwo 140 = .ok (.iconst 1, 1) := by decide +kernel
theorem dX7_codesTwo_141 : decode cX7_codesTwo 141 = .ok (.goto 4, 3) := by decide +kernel
theorem dX7_codesTwo_144 : decode cX7_codesTwo 144 = .ok (.iconst 0, 1) := by decide +kernel
theorem dX7_codesTwo_145 : decode cX7_codesTwo 145 = .ok (.istore_n 1, 1) := by decide +kernel
theorem dX7_codesTwo_146 : decode cX7_codesTwo 146 = .ok (.iinc 4 1, 3) := by decide +kernel
theorem dX7_codesTwo_149 : decode cX7_codesTwo 149 = .ok (.goto (-126), 3) := by decide +kernel
theorem dX7_codesTwo_152 : decode cX7_codesTwo 152 = .ok (.iinc 3 1, 3) := by decide +kernel
theorem dX7_codesTwo_155 : decode cX7_codesTwo 155 = .ok (.goto (-143), 3) := by decide +kernel
theorem dX7_codesTwo_158 : decode cX7_codesTwo 158 = .ok (.iinc 2 1, 3) := by decide +kernel
theorem dX7_codesTwo_161 : decode cX7_codesTwo 161 = .ok (.goto (-157), 3) := by decide +kernel
theorem dX7_codesTwo_164 : decode cX7_codesTwo 164 = .ok (.iload_n 1, 1) := by decide +kernel
theorem dX7_codesTwo_165 : decode cX7_codesTwo 165 = .ok (.ireturn, 1) := by decide +kernel
set_option maxRecDepth 20000 in
theorem ggX7_three_X7_bits : GoodIn wsX7_three wsX7_bits := goodIn_r _ [5, 6, 7, 8, 9, 13, 14, 15, 16, 17, 18, 19, 20, 21, 22, 23, 24, 25, 26, 27, 28, 29, 30, 31, 32, 33, 34, 35, 36, 37, 38, 39, 40, 41, 42, 43, 44, 45, 46, 47, 48, 49, 50, 51, 52] (by decide +kernel) (by decide +kernel)
set_option maxRecDepth 20000 in
theorem gX7_three_X7_bits : GoodIn wsX7_three (wsV RX7 132 RX7 yX7_bits wsX7_bits) := goodIn_app (goodIn_of _ (by decide +kernel)) ggX7_three_X7_bits
set_option maxRecDepth 20000 in
theorem ggX7_three_X7_bitsOf : GoodIn wsX7_three wsX7_bitsOf := goodIn_r _ [12] (by decide +kernel) (by decide +kernel)
set_option maxRecDepth 20000 in
theorem gX7_three_X7_bitsOf : GoodIn wsX7_three (va_wsS RX7 226 yX7_bitsOf wsX7_bitsOf) := goodIn_app (goodIn_of _ (by decide +kernel)) ggX7_three_X7_bitsOf
theorem dX7_three_0 : decode cX7_three 0 = .ok (.iload 4, 2) := by decide +kernel
theorem dX7_three_2 : decode cX7_three 2 = .ok (.iconst 3, 1) := by decide +kernel
theorem dX7_three_3 : decode cX7_three 3 = .ok (.if_icmp .eq 16, 3) := by decide +kernel
theorem dX7_three_6 : decode cX7_three 6 = .ok (.iload 4, 2) := by decide +kernel
theorem dX7_three_8 : decode cX7_three 8 = .ok (.iconst 5, 1) := by decide +kernel
theorem dX7_three_9 : decode cX7_three 9 = .ok (.if_icmp .eq 10, 3) := by decide +kernel
theorem dX7_three_12 : decode cX7_three 12 = .ok (.iload 4, 2) := by decide +kernel
theorem dX7_three_14 : decode cX7_three 14 = .ok (.bipush 9, 2) := by decide +kernel
theorem dX7_three_16 : decode cX7_three 16 = .ok (.if_icmp .ne 91, 3) := by decide +kernel
theorem dX7_three_19 : decode cX7_three 19 = .ok (.aload_n 0, 1) := by decide +kernel
theorem dX7_three_20 : decode cX7_three 20 = .ok (.iload 4, 2) := by decide +kernel
theorem dX7_three_22 : decode cX7_three 22 = .ok (.iconst 3, 1) := by decide +kernel
theorem dX7_three_23 : decode cX7_three 23 = .ok (.if_icmp .ne 7, 3) := by decide +kernel
theorem dX7_three_26 : decode cX7_three 26 = .ok (.iconst 5, 1) := by decide +kernel
theorem dX7_three_27 : decode cX7_three 27 = .ok (.goto 16, 3) := by decide +kernel
theorem dX7_three_30 : decode cX7_three 30 = .ok (.iload 4, 2) := by decide +kernel
theorem dX7_three_32 : decode cX7_three 32 = .ok (.iconst 5, 1) := by decide +kernel
theorem dX7_three_33 : decode cX7_three 33 = .ok (.if_icmp .ne 8, 3) := by decide +kernel
theorem dX7_three_36 : decode cX7_three 36 = .ok (.bipush 7, 2) := by decide +kernel
theorem dX7_three_38 : decode cX7_three 38 = .ok (.goto 5, 3) := by decide +kernel
theorem dX7_three_41 : decode cX7_three 41 = .ok (.bipush 10, 2) := by decide +kernel
theorem dX7_three_43 : decode cX7_three 43 = .ok (.invokevirtual 132, 3) := by decide +kernel
theorem dX7_three_46 : decode cX7_three 46 = .ok (.istore 5, 2) := by decide +kernel
theorem dX7_three_48 : decode cX7_three 48 = .ok (.aload_n 1, 1) := by decide +kernel
theorem dX7_three_49 : decode cX7_three 49 = .ok (.iload_n 2, 1) := by decide +kernel
theorem dX7_three_50 : decode cX7_three 50 = .ok (.aaload, 1) := by decide +kernel
theorem dX7_three_51 : decode cX7_three 51 = .ok (.iload_n 3, 1) := by decide +kernel
theorem dX7_three_52 : decode cX7_three 52 = .ok (.iload 5, 2) := by decide +kernel
theorem dX7_three_54 : decode cX7_three 54 = .ok (.iload 4, 2) := by decide +kernel
theorem dX7_three_56 : decode cX7_three 56 = .ok (.irem, 1) := by decide +kernel
theorem dX7_three_57 : decode cX7_three 57 = .ok (.iastore, 1) := by decide +kernel
theorem dX7_three_58 : decode cX7_three 58 = .ok (.aload_n 1, 1) := by decide +kernel
theorem dX7_three_59 : decode cX7_three 59 = .ok (.iload_n 2, 1) := by decide +kernel
theorem dX7_three_60 : decode cX7_three 60 = .ok (.iconst 1, 1) := by decide +kernel
theorem dX7_three_61 : decode cX7_three 61 = .ok (.iadd, 1) := by decide +kernel
theorem dX7_three_62 : decode cX7_three 62 = .ok (.aaload, 1) := by decide +kernel
theorem dX7_three_63 : decode cX7_three 63 = .ok (.iload_n 3, 1) := by decide +kernel
theorem dX7_three_64 : decode cX7_three 64 = .ok (.iload 5, 2) := by decide +kernel
theorem dX7_three_66 : decode cX7_three 66 = .ok (.iload 4, 2) := by decide +kernel
theorem dX7_three_68 : decode cX7_three 68 = .ok (.idiv, 1) := by decide +kernel
theorem dX7_three_69 : decode cX7_three 69 = .ok (.iload 4, 2) := by decide +kernel
theorem dX7_three_71 : decode cX7_three 71 = .ok (.irem, 1) := by decide +kernel
theorem dX7_three_72 : decode cX7_three 72 = .ok (.iastore, 1) := by decide +kernel
theorem dX7_three_73 : decode cX7_three 73 = .ok (.aload_n 1, 1) := by decide +kernel
theorem dX7_three_74 : decode cX7_three 74 = .ok (.iload_n 2, 1) := by decide +kernel
theorem dX7_three_75 : decode cX7_three 75 = .ok (.iconst 2, 1) := by decide +kernel
theorem dX7_three_76 : decode cX7_three 76 = .ok (.iadd, 1) := by decide +kernel
theorem dX7_three_77 : decode cX7_three 77 = .ok (.aaload, 1) := by decide +kernel
theorem dX7_three_78 : decode cX7_three 78 = .ok (.iload_n 3, 1) := by decide +kernel
theorem dX7_three_79 : decode cX7_three 79 = .ok (.iload 5, 2) := by decide +kernel
theorem dX7_three_81 : decode cX7_three 81 = .ok (.iload 4, 2) := by decide +kernel
theorem dX7_three_83 : decode cX7_three 83 = .ok (.idiv, 1) := by decide +kernel
theorem dX7_three_84 : decode cX7_three 84 = .ok (.iload 4, 2) := by decide +kernel
theorem dX7_three_86 : decode cX7_three 86 = .ok (.idiv, 1) := by decide +kernel
theorem dX7_three_87 : decode cX7_three 87 = .ok (.iastore, 1) := by decide +kernel
theorem dX7_three_88 : decode cX7_three 88 = .ok (.iload 5, 2) := by decide +kernel
theorem dX7_three_90 : decode cX7_three 90 = .ok (.iload 4, 2) := by decide +kernel
theorem dX7_three_92 : decode cX7_three 92 = .ok (.iload 4, 2) := by decide +kernel
theorem dX7_three_94 : decode cX7_three 94 = .ok (.imul, 1) := by decide +kernel
theorem dX7_three_95 : decode cX7_three 95 = .ok (.iload 4, 2) := by decide +kernel
theorem dX7_three_97 : decode cX7_three 97 = .ok (.imul, 1) := by decide +kernel
theorem dX7_three_98 : decode cX7_three 98 = .ok (.if_icmp .ge 7, 3) := by decide +kernel
theorem dX7_three_101 : decode cX7_three 101 = .ok (.iconst 1, 1) := by decide +kernel
theorem dX7_three_102 : decode cX7_three 102 = .ok (.goto 4, 3) := by decide +kernel
theorem dX7_three_105 : decode cX7_three 105 = .ok (.iconst 0, 1) := by decide +kernel
theorem dX7_three_106 : decode cX7_three 106 = .ok (.ireturn, 1) := by decide +kernel
theorem dX7_three_107 : decode cX7_three 107 = .ok (.iconst 1, 1) := by decide +kernel
theorem dX7_three_108 : decode cX7_three 108 = .ok (.istore 5, 2) := by decide +kernel
theorem dX7_three_110 : decode cX7_three 110 = .ok (.iconst 0, 1) := by decide +kernel
theorem dX7_three_111 : decode cX7_three 111 = .ok (.istore 6, 2) := by decide +kernel
theorem dX7_three_113 : decode cX7_three 113 = .ok (.iload 6, 2) := by decide +kernel
theorem dX7_three_115 : decode cX7_three 115 = .ok (.iconst 3, 1) := by decide +kernel
theorem dX7_three_116 : decode cX7_three 116 = .ok (.if_icmp .ge 51, 3) := by decide +kernel
theorem dX7_three_119 : decode cX7_three 119 = .ok (.aload_n 1, 1) := by decide +kernel
theorem dX7_three_120 : decode cX7_three 120 = .ok (.iload_n 2, 1) := by decide +kernel
theorem dX7_three_121 : decode cX7_three 121 = .ok (.iload 6, 2) := by decide +kernel
theorem dX7_three_123 : decode cX7_three 123 = .ok (.iadd, 1) := by decide +kernel
theorem dX7_three_124 : decode cX7_three 124 = .ok (.aaload, 1) := by decide +kernel
theorem dX7_three_125 : decode cX7_three 125 = .ok (.iload_n 3, 1) := by decide +kernel
theorem dX7_three_126 : decode cX7_three 126 = .ok (.aload_n 0, 1) := by decide +kernel
theorem dX7_three_127 : decode cX7_three 127 = .ok (.iload 4, 2) := by decide +kernel
theorem dX7_three_129 : decode cX7_three 129 = .ok (.invokestatic 226, 3) := by decide +kernel
theorem dX7_three_132 : decode cX7_three 132 = .ok (.invokevirtual 132, 3) := by decide +kernel
theorem dX7_three_135 : decode cX7_three 135 = .ok (.iastore, 1) := by decide +kernel
theorem dX7_three_136 : decode cX7_three 136 = .ok (.iload 5, 2) := by decide +kernel
theorem dX7_three_138 : decode cX7_three 138 = .ok (.ifCond .eq 20, 3) := by decide +kernel
theorem dX7_three_141 : decode cX7_three 141 = .ok (.aload_n 1, 1) := by decide +kernel
theorem dX7_three_142 : decode cX7_three 142 = .ok (.iload_n 2, 1) := by decide +kernel
theorem dX7_three_143 : decode cX7_three 143 = .ok (.iload 6, 2) := by decide +kernel
theorem dX7_three_145 : decode cX7_three 145 = .ok (.iadd, 1) := by decide +kernel
theorem dX7_three_146 : decode cX7_three 146 = .ok (.aaload, 1) := by decide +kernel
theorem dX7_three_147 : decode cX7_three 147 = .ok (.iload_n 3, 1) := by decide +kernel
theorem dX7_three_148 : decode cX7_three 148 = .ok (.iaload, 1) := by decide +kernel
theorem dX7_three_149 : decode cX7_three 149 = .ok (.iload 4, 2) := by decide +kernel
theorem dX7_three_151 : decode cX7_three 151 = .ok (.if_icmp .eq 7, 3) := by decide +kernel
theorem dX7_three_154 : decode cX7_three 154 = .ok (.iconst 1, 1) := by decide +kernel
theorem dX7_three_155 : decode cX7_three 155 = .ok (.goto 4, 3) := by decide +kernel
theorem dX7_three_158 : decode cX7_three 158 = .ok (.iconst 0, 1) := by decide +kernel
theorem dX7_three_159 : decode cX7_three 159 = .ok (.istore 5, 2) := by decide +kernel
theorem dX7_three_161 : decode cX7_three 161 = .ok (.iinc 6 1, 3) := by decide +kernel
theorem dX7_three_164 : decode cX7_three 164 = .ok (.goto (-51), 3) := by decide +kernel
theorem dX7_three_167 : decode cX7_three 167 = .ok (.iload 5, 2) := by decide +kernel
theorem dX7_three_169 : decode cX7_three 169 = .ok (.ireturn, 1) := by decide +kernel
theorem dX7_keep_0 : decode cX7_keep 0 = .ok (.aload_n 0, 1) := by decide +kernel
theorem dX7_keep_1 : decode cX7_keep 1 = .ok (.iconst 1, 1) := by decide +kernel
theorem dX7_keep_2 : decode cX7_keep 2 = .ok (.putfield 119, 3) := by decide +kernel
theorem dX7_keep_5 : decode cX7_keep 5 = .ok (.aload_n 0, 1) := by decide +kernel
theorem dX7_keep_6 : decode cX7_keep 6 = .ok (.aload_n 0, 1) := by decide +kernel
theorem dX7_keep_7 : decode cX7_keep 7 = .ok (.getfield 159, 3) := by decide +kernel
theorem dX7_keep_10 : decode cX7_keep 10 = .ok (.putfield 233, 3) := by decide +kernel
theorem dX7_keep_13 : decode cX7_keep 13 = .ok (.aload_n 0, 1) := by decide +kernel
theorem dX7_keep_14 : decode cX7_keep 14 = .ok (.aload_n 0, 1) := by decide +kernel
theorem dX7_keep_15 : decode cX7_keep 15 = .ok (.getfield 148, 3) := by decide +kernel
theorem dX7_keep_18 : decode cX7_keep 18 = .ok (.iconst 1, 1) := by decide +kernel
theorem dX7_keep_19 : decode cX7_keep 19 = .ok (.if_icmp .ne 8, 3) := by decide +kernel
theorem dX7_keep_22 : decode cX7_keep 22 = .ok (.bipush 12, 2) := by decide +kernel
theorem dX7_keep_24 : decode cX7_keep 24 = .ok (.goto 5, 3) := by decide +kernel
theorem dX7_keep_27 : decode cX7_keep 27 = .ok (.bipush 36, 2) := by decide +kernel
theorem dX7_keep_29 : decode cX7_keep 29 = .ok (.putfield 236, 3) := by decide +kernel
theorem dX7_keep_32 : decode cX7_keep 32 = .ok (.iconst 0, 1) := by decide +kernel
theorem dX7_keep_33 : decode cX7_keep 33 = .ok (.istore_n 1, 1) := by decide +kernel
theorem dX7_keep_34 : decode cX7_keep 34 = .ok (.iload_n 1, 1) := by decide +kernel
theorem dX7_keep_35 : decode cX7_keep 35 = .ok (.aload_n 0, 1) := by decide +kernel
theorem dX7_keep_36 : decode cX7_keep 36 = .ok (.getfield 159, 3) := by decide +kernel
theorem dX7_keep_39 : decode cX7_keep 39 = .ok (.if_icmp .ge 198, 3) := by decide +kernel
theorem dX7_keep_42 : decode cX7_keep 42 = .ok (.iconst 0, 1) := by decide +kernel
theorem dX7_keep_43 : decode cX7_keep 43 = .ok (.istore_n 2, 1) := by decide +kernel
theorem dX7_keep_44 : decode cX7_keep 44 = .ok (.iload_n 2, 1) := by decide +kernel
theorem dX7_keep_45 : decode cX7_keep 45 = .ok (.bipush 32, 2) := by decide +kernel
theorem dX7_keep_47 : decode cX7_keep 47 = .ok (.if_icmp .ge 184, 3) := by decide +kernel
theorem dX7_keep_50 : decode cX7_keep 50 = .ok (.aload_n 0, 1) := by decide +kernel
theorem dX7_keep_51 : decode cX7_keep 51 = .ok (.getfield 40, 3) := by decide +kernel
theorem dX7_keep_54 : decode cX7_keep 54 = .ok (.iload_n 1, 1) := by decide +kernel
theorem dX7_keep_55 : decode cX7_keep 55 = .ok (.aaload, 1) := by decide +kernel
theorem dX7_keep_56 : decode cX7_keep 56 = .ok (.iload_n 2, 1) := by decide +kernel
theorem dX7_keep_57 : decode cX7_keep 57 = .ok (.iaload, 1) := by decide +kernel
theorem dX7_keep_58 : decode cX7_keep 58 = .ok (.istore_n 3, 1) := by decide +kernel
theorem dX7_keep_59 : decode cX7_keep 59 = .ok (.aload_n 0, 1) := by decide +kernel
theorem dX7_keep_60 : decode cX7_keep 60 = .ok (.getfield 34, 3) := by decide +kernel
theorem dX7_keep_63 : decode cX7_keep 63 = .ok (.iload_n 1, 1) := by decide +kernel
theorem dX7_keep_64 : decode cX7_keep 64 = .ok (.aaload, 1) := by decide +kernel
theorem dX7_keep_65 : decode cX7_keep 65 = .ok (.iload_n 2, 1) := by decide +kernel
theorem dX7_keep_66 : decode cX7_keep 66 = .ok (.iload_n 3, 1) := by decide +kernel
theorem dX7_keep_67 : decode cX7_keep 67 = .ok (.iastore, 1) := by decide +kernel
theorem dX7_keep_68 : decode cX7_keep 68 = .ok (.iconst 0, 1) := by decide +kernel
theorem dX7_keep_69 : decode cX7_keep 69 = .ok (.istore 4, 2) := by decide +kernel
theorem dX7_keep_71 : decode cX7_keep 71 = .ok (.iload 4, 2) := by decide +kernel
theorem dX7_keep_73 : decode cX7_keep 73 = .ok (.iconst 3, 1) := by decide +kernel
theorem dX7_keep_74 : decode cX7_keep 74 = .ok (.if_icmp .ge 31, 3) := by decide +kernel
theorem dX7_keep_77 : decode cX7_keep 77 = .ok (.aload_n 0, 1) := by decide +kernel
theorem dX7_keep_78 : decode cX7_keep 78 = .ok (.getfield 37, 3) := by decide +kernel
theorem dX7_keep_81 : decode cX7_keep 81 = .ok (.iload_n 1, 1) := by decide +kernel
theorem dX7_keep_82 : decode cX7_keep 82 = .ok (.aaload, 1) := by decide +kernel
theorem dX7_keep_83 : decode cX7_keep 83 = .ok (.iload_n 2, 1) := by decide +kernel
theorem dX7_keep_84 : decode cX7_keep 84 = .ok (.aaload, 1) := by decide +kernel
theorem dX7_keep_85 : decode cX7_keep 85 = .ok (.iload 4, 2) := by decide +kernel
theorem dX7_keep_87 : decode cX7_keep 87 = .ok (.aload_n 0, 1) := by decide +kernel
theorem dX7_keep_88 : decode cX7_keep 88 = .ok (.getfield 49, 3) := by decide +kernel
theorem dX7_keep_91 : decode cX7_keep 91 = .ok (.iload_n 1, 1) := by decide +kernel
theorem dX7_keep_92 : decode cX7_keep 92 = .ok (.aaload, 1) := by decide +kernel
theorem dX7_keep_93 : decode cX7_keep 93 = .ok (.iload_n 2, 1) := by decide +kernel
theorem dX7_keep_94 : decode cX7_keep 94 = .ok (.aaload, 1) := by decide +kernel
theorem dX7_keep_95 : decode cX7_keep 95 = .ok (.iload 4, 2) := by decide +kernel
theorem dX7_keep_97 : decode cX7_keep 97 = .ok (.iaload, 1) := by decide +kernel
theorem dX7_keep_98 : decode cX7_keep 98 = .ok (.iastore, 1) := by decide +kernel
theorem dX7_keep_99 : decode cX7_keep 99 = .ok (.iinc 4 1, 3) := by decide +kernel
theorem dX7_keep_102 : decode cX7_keep 102 = .ok (.goto (-31), 3) := by decide +kernel
theorem dX7_keep_105 : decode cX7_keep 105 = .ok (.iconst 0, 1) := by decide +kernel
theorem dX7_keep_106 : decode cX7_keep 106 = .ok (.istore 4, 2) := by decide +kernel
theorem dX7_keep_108 : decode cX7_keep 108 = .ok (.iload 4, 2) := by decide +kernel
theorem dX7_keep_110 : decode cX7_keep 110 = .ok (.aload_n 0, 1) := by decide +kernel
theorem dX7_keep_111 : decode cX7_keep 111 = .ok (.getfield 236, 3) := by decide +kernel
theorem dX7_keep_114 : decode cX7_keep 114 = .ok (.if_icmp .ge 111, 3) := by decide +kernel
theorem dX7_keep_117 : decode cX7_keep 117 = .ok (.aload_n 0, 1) := by decide +kernel
theorem dX7_keep_118 : decode cX7_keep 118 = .ok (.getfield 49, 3) := by decide +kernel
theorem dX7_keep_121 : decode cX7_keep 121 = .ok (.iload_n 1, 1) := by decide +kernel
theorem dX7_keep_122 : decode cX7_keep 122 = .ok (.aaload, 1) := by decide +kernel
theorem dX7_keep_123 : decode cX7_keep 123 = .ok (.iload_n 2, 1) := by decide +kernel
theorem dX7_keep_124 : decode cX7_keep 124 = .ok (.aaload, 1) := by decide +kernel
theorem dX7_keep_125 : decode cX7_keep 125 = .ok (.iload 4, 2) := by decide +kernel
theorem dX7_keep_127 : decode cX7_keep 127 = .ok (.iconst 3, 1) := by decide +kernel
theorem dX7_keep_128 : decode cX7_keep 128 = .ok (.imul, 1) := by decide +kernel
theorem dX7_keep_129 : decode cX7_keep 129 = .ok (.aload_n 0, 1) := by decide +kernel
theorem dX7_keep_130 : decode cX7_keep 130 = .ok (.getfield 236, 3) := by decide +kernel
theorem dX7_keep_133 : decode cX7_keep 133 = .ok (.idiv, 1) := by decide +kernel
theorem dX7_keep_134 : decode cX7_keep 134 = .ok (.iaload, 1) := by decide +kernel
theorem dX7_keep_135 : decode cX7_keep 135 = .ok (.istore 5, 2) := by decide +kernel
theorem dX7_keep_137 : decode cX7_keep 137 = .ok (.iload 5, 2) := by decide +kernel
theorem dX7_keep_139 : decode cX7_keep 139 = .ok (.iconst 3, 1) := by decide +kernel
theorem dX7_keep_140 : decode cX7_keep 140 = .ok (.irem, 1) := by decide +kernel
theorem dX7_keep_141 : decode cX7_keep 141 = .ok (.ifCond .ne 8, 3) := by decide +kernel
theorem dX7_keep_144 : decode cX7_keep 144 = .ok (.ldc 239, 2) := by decide +kernel
theorem dX7_keep_146 : decode cX7_keep 146 = .ok (.goto 18, 3) := by decide +kernel
theorem dX7_keep_149 : decode cX7_keep 149 = .ok (.iload 5, 2) := by decide +kernel
theorem dX7_keep_151 : decode cX7_keep 151 = .ok (.iconst 3, 1) := by decide +kernel
theorem dX7_keep_152 : decode cX7_keep 152 = .ok (.irem, 1) := by decide +kernel
theorem dX7_keep_153 : decode cX7_keep 153 = .ok (.iconst 1, 1) := by decide +kernel
theorem dX7_keep_154 : decode cX7_keep 154 = .ok (.if_icmp .ne 8, 3) := by decide +kernel
theorem dX7_keep_157 : decode cX7_keep 157 = .ok (.ldc 240, 2) := by decide +kernel
theorem dX7_keep_159 : decode cX7_keep 159 = .ok (.goto 5, 3) := by decide +kernel
