theorem dX7_three_57 : decode cX7_three 57 = .ok (.iastore, 1) := by decide +kernel
theorem dX7_three_58 : decode cX7_three 58 = .ok (.aload_n 1, 1) := by decide +kernel
theorem dX7_three_59 : decode cX7_three 59 = .ok (.iload_n 2, 1) := by decide +kernel
theorem dX7_three_60 : decode cX7_three 60 = .ok (.iconst 1, 1) := by decide +kernel
theorem dX7_three_61 : decode cX7_three 61 = .ok (.iadd, 1) := by decide +kernel
theorem dX7_three_62 : decode cX7_three 62 = .ok (.aaload, 1) := by decide +kernel
theorem dX7_three_63 : decode cX7_three 63 = .ok (.iload_n 3, 1) := by decide +kernel
theorem dX7_three_64 : decode cX7_three 64 = .ok (.iload 5, 2) := by decide +kernel
theorem dX7_three_66 : decode cX7_three 66 = .ok (.iload 4, 2) := by decide +kernel
theorem dX7_three_68 : decode cX7_three 68 = .ok (.idiv, 1) := by decide +kernel
theorem dX7_three_69 : decode cX7_three 69 = .ok (.iload 4, 2) := by decide +kernel
theorem dX7_three_71 : decode cX7_three 71 = .ok (.irem, 1) := by decide +kernel
theorem dX7_three_72 : decode cX7_three 72 = .ok (.iastore, 1) := by decide +kernel
theorem dX7_three_73 : decode cX7_three 73 = .ok (.aload_n 1, 1) := by decide +kernel
theorem dX7_three_74 : decode cX7_three 74 = .ok (.iload_n 2, 1) := by decide +kernel
theorem dX7_three_75 : decode cX7_three 75 = .ok (.iconst 2, 1) := by decide +kernel
theorem dX7_three_76 : decode cX7_three 76 = .ok (.iadd, 1) := by decide +kernel
theorem dX7_three_77 : decode cX7_three 77 = .ok (.aaload, 1) := by decide +kernel
theorem dX7_three_78 : decode cX7_three 78 = .ok (.iload_n 3, 1) := by decide +kernel
theorem dX7_three_79 : decode cX7_three 79 = .ok (.iload 5, 2) := by decide +kernel
theorem dX7_three_81 : decode cX7_three 81 = .ok (.iload 4, 2) := by decide +kernel
theorem dX7_three_83 : decode cX7_three 83 = .ok (.idiv, 1) := by decide +kernel
theorem dX7_three_84 : decode cX7_three 84 = .ok (.iload 4, 2) := by decide +kernel
theorem dX7_three_86 : decode cX7_three 86 = .ok (.idiv, 1) := by decide +kernel
theorem dX7_three_87 : decode cX7_three 87 = .ok (.iastore, 1) := by decide +kernel
theorem dX7_three_88 : decode cX7_three 88 = .ok (.iload 5, 2) := by decide +kernel
theorem dX7_three_90 : decode cX7_three 90 = .ok (.iload 4, 2) := by decide +kernel
theorem dX7_three_92 : decode cX7_three 92 = .ok (.iload 4, 2) := by decide +kernel
theorem dX7_three_94 : decode cX7_three 94 = .ok (.imul, 1) := by decide +kernel
theorem dX7_three_95 : decode cX7_three 95 = .ok (.iload 4, 2) := by decide +kernel
theorem dX7_three_97 : decode cX7_three 97 = .ok (.imul, 1) := by decide +kernel
theorem dX7_three_98 : decode cX7_three 98 = .ok (.if_icmp .ge 7, 3) := by decide +kernel
theorem dX7_three_101 : decode cX7_three 101 = .ok (.iconst 1, 1) := by decide +kernel
theorem dX7_three_102 : decode cX7_three 102 = .ok (.goto 4, 3) := by decide +kernel
theorem dX7_three_105 : decode cX7_three 105 = .ok (.iconst 0, 1) := by decide +kernel
theorem dX7_three_106 : decode cX7_three 106 = .ok (.ireturn, 1) := by decide +kernel
theorem dX7_three_107 : decode cX7_three 107 = .ok (.iconst 1, 1) := by decide +kernel
theorem dX7_three_108 : decode cX7_three 108 = .ok (.istore 5, 2) := by decide +kernel
theorem dX7_three_110 : decode cX7_three 110 = .ok (.iconst 0, 1) := by decide +kernel
theorem dX7_three_111 : decode cX7_three 111 = .ok (.istore 6, 2) := by decide +kernel
theorem dX7_three_113 : decode cX7_three 113 = .ok (.iload 6, 2) := by decide +kernel
theorem dX7_three_115 : decode cX7_three 115 = .ok (.iconst 3, 1) := by decide +kernel
theorem dX7_three_116 : decode cX7_three 116 = .ok (.if_icmp .ge 51, 3) := by decide +kernel
theorem dX7_three_119 : decode cX7_three 119 = .ok (.aload_n 1, 1) := by decide +kernel
theorem dX7_three_120 : decode cX7_three 120 = .ok (.iload_n 2, 1) := by decide +kernel
theorem dX7_three_121 : decode cX7_three 121 = .ok (.iload 6, 2) := by decide +kernel
theorem dX7_three_123 : decode cX7_three 123 = .ok (.iadd, 1) := by decide +kernel
theorem dX7_three_124 : decode cX7_three 124 = .ok (.aaload, 1) := by decide +kernel
theorem dX7_three_125 : decode cX7_three 125 = .ok (.iload_n 3, 1) := by decide +kernel
theorem dX7_three_126 : decode cX7_three 126 = .ok (.aload_n 0, 1) := by decide +kernel
theorem dX7_three_127 : decode cX7_three 127 = .ok (.iload 4, 2) := by decide +kernel
theorem dX7_three_129 : decode cX7_three 129 = .ok (.invokestatic 226, 3) := by decide +kernel
theorem dX7_three_132 : decode cX7_three 132 = .ok (.invokevirtual 132, 3) := by decide +kernel
theorem dX7_three_135 : decode cX7_three 135 = .ok (.iastore, 1) := by decide +kernel
theorem dX7_three_136 : decode cX7_three 136 = .ok (.iload 5, 2) := by decide +kernel
theorem dX7_three_138 : decode cX7_three 138 = .ok (.ifCond .eq 20, 3) := by decide +kernel
theorem dX7_three_141 : decode cX7_three 141 = .ok (.aload_n 1, 1) := by decide +kernel
theorem dX7_three_142 : decode cX7_three 142 = .ok (.iload_n 2, 1) := by decide +kernel
theorem dX7_three_143 : decode cX7_three 143 = .ok (.iload 6, 2) := by decide +kernel
theorem dX7_three_145 : decode cX7_three 145 = .ok (.iadd, 1) := by decide +kernel
theorem dX7_three_146 : decode cX7_three 146 = .ok (.aaload, 1) := by decide +kernel
theorem dX7_three_147 : decode cX7_three 147 = .ok (.iload_n 3, 1) := by decide +kernel
theorem dX7_three_148 : decode cX7_three 148 = .ok (.iaload, 1) := by decide +kernel
theorem dX7_three_149 : decode cX7_three 149 = .ok (.iload 4, 2) := by decide +kernel
theorem dX7_three_151 : decode cX7_three 151 = .ok (.if_icmp .eq 7, 3) := by decide +kernel
theorem dX7_three_154 : decode cX7_three 154 = .ok (.iconst 1, 1) := by decide +kernel
theorem dX7_three_155 : decode cX7_three 155 = .ok (.goto 4, 3) := by decide +kernel
theorem dX7_three_158 : decode cX7_three 158 = .ok (.iconst 0, 1) := by decide +kernel
theorem dX7_three_159 : decode cX7_three 159 = .ok (.istore 5, 2) := by decide +kernel
theorem dX7_three_161 : decode cX7_three 161 = .ok (.iinc 6 1, 3) := by decide +kernel
theorem dX7_three_164 : decode cX7_three 164 = .ok (.goto (-51), 3) := by decide +kernel
theorem dX7_three_167 : decode cX7_three 167 = .ok (.iload 5, 2) := by decide +kernel
theorem dX7_three_169 : decode cX7_three 169 = .ok (.ireturn, 1) := by decide +kernel
theorem dX7_keep_0 : decode cX7_keep 0 = .ok (.aload_n 0, 1) := by decide +kernel
theorem dX7_keep_1 : decode cX7_keep 1 = .ok (.iconst 1, 1) := by decide +kernel
theorem dX7_keep_2 : decode cX7_keep 2 = .ok (.putfield 119, 3) := by decide +kernel
theorem dX7_keep_5 : decode cX7_keep 5 = .ok (.aload_n 0, 1) := by decide +kernel
theorem dX7_keep_6 : decode cX7_keep 6 = .ok (.aload_n 0, 1) := by decide +kernel
theorem dX7_keep_7 : decode cX7_keep 7 = .ok (.getfield 159, 3) := by decide +kernel
theorem dX7_keep_10 : decode cX7_keep 10 = .ok (.putfield 233, 3) := by decide +kernel
theorem dX7_keep_13 : decode cX7_keep 13 = .ok (.aload_n 0, 1) := by decide +kernel
theorem dX7_keep_14 : decode cX7_keep 14 = .ok (.aload_n 0, 1) := by decide +kernel
theorem dX7_keep_15 : decode cX7_keep 15 = .ok (.getfield 148, 3) := by decide +kernel
theorem dX7_keep_18 : decode cX7_keep 18 = .ok (.iconst 1, 1) := by decide +kernel
theorem dX7_keep_19 : decode cX7_keep 19 = .ok (.if_icmp .ne 8, 3) := by decide +kernel
theorem dX7_keep_22 : decode cX7_keep 22 = .ok (.bipush 12, 2) := by decide +kernel
theorem dX7_keep_24 : decode cX7_keep 24 = .ok (.goto 5, 3) := by decide +kernel
theorem dX7_keep_27 : decode cX7_keep 27 = .ok (.bipush 36, 2) := by decide +kernel
theorem dX7_keep_29 : decode cX7_keep 29 = .ok (.putfield 236, 3) := by decide +kernel
theorem dX7_keep_32 : decode cX7_keep 32 = .ok (.iconst 0, 1) := by decide +kernel
theorem dX7_keep_33 : decode cX7_keep 33 = .ok (.istore_n 1, 1) := by decide +kernel
theorem dX7_keep_34 : decode cX7_keep 34 = .ok (.iload_n 1, 1) := by decide +kernel
theorem dX7_keep_35 : decode cX7_keep 35 = .ok (.aload_n 0, 1) := by decide +kernel
theorem dX7_keep_36 : decode cX7_keep 36 = .ok (.getfield 159, 3) := by decide +kernel
theorem dX7_keep_39 : decode cX7_keep 39 = .ok (.if_icmp .ge 198, 3) := by decide +kernel
theorem dX7_keep_42 : decode cX7_keep 42 = .ok (.iconst 0, 1) := by decide +kernel
theorem dX7_keep_43 : decode cX7_keep 43 = .ok (.istore_n 2, 1) := by decide +kernel
theorem dX7_keep_44 : decode cX7_keep 44 = .ok (.iload_n 2, 1) := by decide +kernel
theorem dX7_keep_45 : decode cX7_keep 45 = .ok (.bipush 32, 2) := by decide +kernel
theorem dX7_keep_47 : decode cX7_keep 47 = .ok (.if_icmp .ge 184, 3) := by decide +kernel
theorem dX7_keep_50 : decode cX7_keep 50 = .ok (.aload_n 0, 1) := by decide +kernel
theorem dX7_keep_51 : decode cX7_keep 51 = .ok (.getfield 40, 3) := by decide +kernel
theorem dX7_keep_54 : decode cX7_keep 54 = .ok (.iload_n 1, 1) := by decide +kernel
theorem dX7_keep_55 : decode cX7_keep 55 = .ok (.aaload, 1) := by decide +kernel
theorem dX7_keep_56 : decode cX7_keep 56 = .ok (.iload_n 2, 1) := by decide +kernel
theorem dX7_keep_57 : decode cX7_keep 57 = .ok (.iaload, 1) := by decide +kernel
theorem dX7_keep_58 : decode cX7_keep 58 = .ok (.istore_n 3, 1) := by decide +kernel
theorem dX7_keep_59 : decode cX7_keep 59 = .ok (.aload_n 0, 1) := by decide +kernel
theorem dX7_keep_60 : decode cX7_keep 60 = .ok (.getfield 34, 3) := by decide +kernel
theorem dX7_keep_63 : decode cX7_keep 63 = .ok (.iload_n 1, 1) := by decide +kernel
theorem dX7_keep_64 : decode cX7_keep 64 = .ok (.aaload, 1) := by decide +kernel
theorem dX7_keep_65 : decode cX7_keep 65 = .ok (.iload_n 2, 1) := by decide +kernel
theorem dX7_keep_66 : decode cX7_keep 66 = .ok (.iload_n 3, 1) := by decide +kernel
theorem dX7_keep_67 : decode cX7_keep 67 = .ok (.iastore, 1) := by decide +kernel
theorem dX7_keep_68 : decode cX7_keep 68 = .ok (.iconst 0, 1) := by decide +kernel
theorem dX7_keep_69 : decode cX7_keep 69 = .ok (.istore 4, 2) := by decide +kernel
theorem dX7_keep_71 : decode cX7_keep 71 = .ok (.iload 4, 2) := by decide +kernel
theorem dX7_keep_73 : decode cX7_keep 73 = .ok (.iconst 3, 1) := by decide +kernel
theorem dX7_keep_74 : decode cX7_keep 74 = .ok (.if_icmp .ge 31, 3) := by decide +kernel
theorem dX7_keep_77 : decode cX7_keep 77 = .ok (.aload_n 0, 1) := by decide +kernel
theorem dX7_keep_78 : decode cX7_keep 78 = .ok (.getfield 37, 3) := by decide +kernel
theorem dX7_keep_81 : decode cX7_keep 81 = .ok (.iload_n 1, 1) := by decide +kernel
theorem dX7_keep_82 : decode cX7_keep 82 = .ok (.aaload, 1) := by decide +kernel
theorem dX7_keep_83 : decode cX7_keep 83 = .ok (.iload_n 2, 1) := by decide +kernel
theorem dX7_keep_84 : decode cX7_keep 84 = .ok (.aaload, 1) := by decide +kernel
theorem dX7_keep_85 : decode cX7_keep 85 = .ok (.iload 4, 2) := by decide +kernel
theorem dX7_keep_87 : decode cX7_keep 87 = .ok (.aload_n 0, 1) := by decide +kernel
theorem dX7_keep_88 : decode cX7_keep 88 = .ok (.getfield 49, 3) := by decide +kernel
theorem dX7_keep_91 : decode cX7_keep 91 = .ok (.iload_n 1, 1) := by decide +kernel
theorem dX7_keep_92 : decode cX7_keep 92 = .ok (.aaload, 1) := by decide +kernel
theorem dX7_keep_93 : decode cX7_keep 93 = .ok (.iload_n 2, 1) := by decide +kernel
theorem dX7_keep_94 : decode cX7_keep 94 = .ok (.aaload, 1) := by decide +kernel
theorem dX7_keep_95 : decode cX7_keep 95 = .ok (.iload 4, 2) := by decide +kernel
theorem dX7_keep_97 : decode cX7_keep 97 = .ok (.iaload, 1) := by decide +kernel
theorem dX7_keep_98 : decode cX7_keep 98 = .ok (.iastore, 1) := by decide +kernel
theorem dX7_keep_99 : decode cX7_keep 99 = .ok (.iinc 4 1, 3) := by decide +kernel
theorem dX7_keep_102 : decode cX7_keep 102 = .ok (.goto (-31), 3) := by decide +kernel
theorem dX7_keep_105 : decode cX7_keep 105 = .ok (.iconst 0, 1) := by decide +kernel
theorem dX7_keep_106 : decode cX7_keep 106 = .ok (.istore 4, 2) := by decide +kernel
theorem dX7_keep_108 : decode cX7_keep 108 = .ok (.iload 4, 2) := by decide +kernel
theorem dX7_keep_110 : decode cX7_keep 110 = .ok (.aload_n 0, 1) := by decide +kernel
theorem dX7_keep_111 : decode cX7_keep 111 = .ok (.getfield 236, 3) := by decide +kernel
theorem dX7_keep_114 : decode cX7_keep 114 = .ok (.if_icmp .ge 111, 3) := by decide +kernel
theorem dX7_keep_117 : decode cX7_keep 117 = .ok (.aload_n 0, 1) := by decide +kernel
theorem dX7_keep_118 : decode cX7_keep 118 = .ok (.getfield 49, 3) := by decide +kernel
theorem dX7_keep_121 : decode cX7_keep 121 = .ok (.iload_n 1, 1) := by decide +kernel
theorem dX7_keep_122 : decode cX7_keep 122 = .ok (.aaload, 1) := by decide +kernel
theorem dX7_keep_123 : decode cX7_keep 123 = .ok (.iload_n 2, 1) := by decide +kernel
theorem dX7_keep_124 : decode cX7_keep 124 = .ok (.aaload, 1) := by decide +kernel
theorem dX7_keep_125 : decode cX7_keep 125 = .ok (.iload 4, 2) := by decide +kernel
theorem dX7_keep_127 : decode cX7_keep 127 = .ok (.iconst 3, 1) := by decide +kernel
theorem dX7_keep_128 : decode cX7_keep 128 = .ok (.imul, 1) := by decide +kernel
theorem dX7_keep_129 : decode cX7_keep 129 = .ok (.aload_n 0, 1) := by decide +kernel
theorem dX7_keep_130 : decode cX7_keep 130 = .ok (.getfield 236, 3) := by decide +kernel
theorem dX7_keep_133 : decode cX7_keep 133 = .ok (.idiv, 1) := by decide +kernel
theorem dX7_keep_134 : decode cX7_keep 134 = .ok (.iaload, 1) := by decide +kernel
theorem dX7_keep_135 : decode cX7_keep 135 = .ok (.istore 5, 2) := by decide +kernel
theorem dX7_keep_137 : decode cX7_keep 137 = .ok (.iload 5, 2) := by decide +kernel
theorem dX7_keep_139 : decode cX7_keep 139 = .ok (.iconst 3, 1) := by decide +kernel
theorem dX7_keep_140 : decode cX7_keep 140 = .ok (.irem, 1) := by decide +kernel
theorem dX7_keep_141 : decode cX7_keep 141 = .ok (.ifCond .ne 8, 3) := by decide +kernel
theorem dX7_keep_144 : decode cX7_keep 144 = .ok (.ldc 239, 2) := by decide +kernel
theorem dX7_keep_146 : decode cX7_keep 146 = .ok (.goto 18, 3) := by decide +kernel
theorem dX7_keep_149 : decode cX7_keep 149 = .ok (.iload 5, 2) := by decide +kernel
theorem dX7_keep_151 : decode cX7_keep 151 = .ok (.iconst 3, 1) := by decide +kernel
theorem dX7_keep_152 : decode cX7_keep 152 = .ok (.irem, 1) := by decide +kernel
theorem dX7_keep_153 : decode cX7_keep 153 = .ok (.iconst 1, 1) := by decide +kernel
theorem dX7_keep_154 : decode cX7_keep 154 = .ok (.if_icmp .ne 8, 3) := by decide +kernel
theorem dX7_keep_157 : decode cX7_keep 157 = .ok (.ldc 240, 2) := by decide +kernel
theorem dX7_keep_159 : decode cX7_keep 159 = .ok (.goto 5, 3) := by decide +kernel
theorem dX7_keep_162 : decode cX7_keep 162 = .ok (.ldc 241, 2) := by decide +kernel
theorem dX7_keep_164 : decode cX7_keep 164 = .ok (.iload 5, 2) := by decide +kernel
theorem dX7_keep_166 : decode cX7_keep 166 = .ok (.iconst 3, 1) := by decide +kernel
theorem dX7_keep_167 : decode cX7_keep 167 = .ok (.idiv, 1) := by decide +kernel
theorem dX7_keep_168 : decode cX7_keep 168 = .ok (.ishr, 1) := by decide +kernel
theorem dX7_keep_169 : decode cX7_keep 169 = .ok (.i2l, 1) := by decide +kernel
theorem dX7_keep_170 : decode cX7_keep 170 = .ok (.lstore 6, 2) := by decide +kernel
theorem dX7_keep_172 : decode cX7_keep 172 = .ok (.aload_n 0, 1) := by decide +kernel
theorem dX7_keep_173 : decode cX7_keep 173 = .ok (.getfield 31, 3) := by decide +kernel
theorem dX7_keep_176 : decode cX7_keep 176 = .ok (.iload_n 1, 1) := by decide +kernel
theorem dX7_keep_177 : decode cX7_keep 177 = .ok (.aaload, 1) := by decide +kernel
theorem dX7_keep_178 : decode cX7_keep 178 = .ok (.iload 4, 2) := by decide +kernel
theorem dX7_keep_180 : decode cX7_keep 180 = .ok (.aaload, 1) := by decide +kernel
theorem dX7_keep_181 : decode cX7_keep 181 = .ok (.iload_n 2, 1) := by decide +kernel
theorem dX7_keep_182 : decode cX7_keep 182 = .ok (.iload_n 3, 1) := by decide +kernel
theorem dX7_keep_183 : decode cX7_keep 183 = .ok (.ifCond .ne 7, 3) := by decide +kernel
theorem dX7_keep_186 : decode cX7_keep 186 = .ok (.iconst 0, 1) := by decide +kernel
theorem dX7_keep_187 : decode cX7_keep 187 = .ok (.goto 31, 3) := by decide +kernel
theorem dX7_keep_190 : decode cX7_keep 190 = .ok (.ldc2_w 242, 3) := by decide +kernel
theorem dX7_keep_193 : decode cX7_keep 193 = .ok (.aload_n 0, 1) := by decide +kernel
theorem dX7_keep_194 : decode cX7_keep 194 = .ok (.getfield 52, 3) := by decide +kernel
theorem dX7_keep_197 : decode cX7_keep 197 = .ok (.iload_n 1, 1) := by decide +kernel
theorem dX7_keep_198 : decode cX7_keep 198 = .ok (.aaload, 1) := by decide +kernel
theorem dX7_keep_199 : decode cX7_keep 199 = .ok (.iload 4, 2) := by decide +kernel
theorem dX7_keep_201 : decode cX7_keep 201 = .ok (.aaload, 1) := by decide +kernel
theorem dX7_keep_202 : decode cX7_keep 202 = .ok (.iload_n 2, 1) := by decide +kernel
theorem dX7_keep_203 : decode cX7_keep 203 = .ok (.iaload, 1) := by decide +kernel
theorem dX7_keep_204 : decode cX7_keep 204 = .ok (.i2l, 1) := by decide +kernel
theorem dX7_keep_205 : decode cX7_keep 205 = .ok (.lmul, 1) := by decide +kernel
theorem dX7_keep_206 : decode cX7_keep 206 = .ok (.lconst 1, 1) := by decide +kernel
theorem dX7_keep_207 : decode cX7_keep 207 = .ok (.ladd, 1) := by decide +kernel
theorem dX7_keep_208 : decode cX7_keep 208 = .ok (.iload_n 3, 1) := by decide +kernel
theorem dX7_keep_209 : decode cX7_keep 209 = .ok (.i2l, 1) := by decide +kernel
theorem dX7_keep_210 : decode cX7_keep 210 = .ok (.lsub, 1) := by decide +kernel
theorem dX7_keep_211 : decode cX7_keep 211 = .ok (.lload 6, 2) := by decide +kernel
theorem dX7_keep_213 : decode cX7_keep 213 = .ok (.lmul, 1) := by decide +kernel
theorem dX7_keep_214 : decode cX7_keep 214 = .ok (.iload_n 3, 1) := by decide +kernel
theorem dX7_keep_215 : decode cX7_keep 215 = .ok (.i2l, 1) := by decide +kernel
theorem dX7_keep_216 : decode cX7_keep 216 = .ok (.ldiv, 1) := by decide +kernel
theorem dX7_keep_217 : decode cX7_keep 217 = .ok (.l2i, 1) := by decide +kernel
theorem dX7_keep_218 : decode cX7_keep 218 = .ok (.iastore, 1) := by decide +kernel
theorem dX7_keep_219 : decode cX7_keep 219 = .ok (.iinc 4 1, 3) := by decide +kernel
theorem dX7_keep_222 : decode cX7_keep 222 = .ok (.goto (-114), 3) := by decide +kernel
theorem dX7_keep_225 : decode cX7_keep 225 = .ok (.iinc 2 1, 3) := by decide +kernel
theorem dX7_keep_228 : decode cX7_keep 228 = .ok (.goto (-184), 3) := by decide +kernel
theorem dX7_keep_231 : decode cX7_keep 231 = .ok (.iinc 1 1, 3) := by decide +kernel
theorem dX7_keep_234 : decode cX7_keep 234 = .ok (.goto (-200), 3) := by decide +kernel
theorem dX7_keep_237 : decode cX7_keep 237 = .ok (.return_, 1) := by decide +kernel
theorem dX7_cosineOf_0 : decode cX7_cosineOf 0 = .ok (.iload_n 1, 1) := by decide +kernel
theorem dX7_cosineOf_1 : decode cX7_cosineOf 1 = .ok (.sipush 128, 3) := by decide +kernel
theorem dX7_cosineOf_4 : decode cX7_cosineOf 4 = .ok (.irem, 1) := by decide +kernel
theorem dX7_cosineOf_5 : decode cX7_cosineOf 5 = .ok (.istore_n 2, 1) := by decide +kernel
theorem dX7_cosineOf_6 : decode cX7_cosineOf 6 = .ok (.iload_n 2, 1) := by decide +kernel
theorem dX7_cosineOf_7 : decode cX7_cosineOf 7 = .ok (.bipush 64, 2) := by decide +kernel
theorem dX7_cosineOf_9 : decode cX7_cosineOf 9 = .ok (.if_icmp .le 11, 3) := by decide +kernel
theorem dX7_cosineOf_12 : decode cX7_cosineOf 12 = .ok (.sipush 128, 3) := by decide +kernel
theorem dX7_cosineOf_15 : decode cX7_cosineOf 15 = .ok (.iload_n 2, 1) := by decide +kernel
theorem dX7_cosineOf_16 : decode cX7_cosineOf 16 = .ok (.isub, 1) := by decide +kernel
theorem dX7_cosineOf_17 : decode cX7_cosineOf 17 = .ok (.goto 4, 3) := by decide +kernel
theorem dX7_cosineOf_20 : decode cX7_cosineOf 20 = .ok (.iload_n 2, 1) := by decide +kernel
theorem dX7_cosineOf_21 : decode cX7_cosineOf 21 = .ok (.istore_n 2, 1) := by decide +kernel
theorem dX7_cosineOf_22 : decode cX7_cosineOf 22 = .ok (.iload_n 2, 1) := by decide +kernel
theorem dX7_cosineOf_23 : decode cX7_cosineOf 23 = .ok (.bipush 32, 2) := by decide +kernel
theorem dX7_cosineOf_25 : decode cX7_cosineOf 25 = .ok (.if_icmp .le 16, 3) := by decide +kernel
theorem dX7_cosineOf_28 : decode cX7_cosineOf 28 = .ok (.aload_n 0, 1) := by decide +kernel
theorem dX7_cosineOf_29 : decode cX7_cosineOf 29 = .ok (.getfield 58, 3) := by decide +kernel
theorem dX7_cosineOf_32 : decode cX7_cosineOf 32 = .ok (.bipush 64, 2) := by decide +kernel
theorem dX7_cosineOf_34 : decode cX7_cosineOf 34 = .ok (.iload_n 2, 1) := by decide +kernel
theorem dX7_cosineOf_35 : decode cX7_cosineOf 35 = .ok (.isub, 1) := by decide +kernel
theorem dX7_cosineOf_36 : decode cX7_cosineOf 36 = .ok (.iaload, 1) := by decide +kernel
theorem dX7_cosineOf_37 : decode cX7_cosineOf 37 = .ok (.ineg, 1) := by decide +kernel
theorem dX7_cosineOf_38 : decode cX7_cosineOf 38 = .ok (.goto 9, 3) := by decide +kernel
theorem dX7_cosineOf_41 : decode cX7_cosineOf 41 = .ok (.aload_n 0, 1) := by decide +kernel
theorem dX7_cosineOf_42 : decode cX7_cosineOf 42 = .ok (.getfield 58, 3) := by decide +kernel
theorem dX7_cosineOf_45 : decode cX7_cosineOf 45 = .ok (.iload_n 2, 1) := by decide +kernel
theorem dX7_cosineOf_46 : decode cX7_cosineOf 46 = .ok (.iaload, 1) := by decide +kernel
theorem dX7_cosineOf_47 : decode cX7_cosineOf 47 = .ok (.ireturn, 1) := by decide +kernel
theorem dX7_windowOf_0 : decode cX7_windowOf 0 = .ok (.iload_n 1, 1) := by decide +kernel
theorem dX7_windowOf_1 : decode cX7_windowOf 1 = .ok (.sipush 256, 3) := by decide +kernel
theorem dX7_windowOf_4 : decode cX7_windowOf 4 = .ok (.if_icmp .gt 10, 3) := by decide +kernel
theorem dX7_windowOf_7 : decode cX7_windowOf 7 = .ok (.aload_n 0, 1) := by decide +kernel
theorem dX7_windowOf_8 : decode cX7_windowOf 8 = .ok (.getfield 96, 3) := by decide +kernel
theorem dX7_windowOf_11 : decode cX7_windowOf 11 = .ok (.iload_n 1, 1) := by decide +kernel
theorem dX7_windowOf_12 : decode cX7_windowOf 12 = .ok (.iaload, 1) := by decide +kernel
theorem dX7_windowOf_13 : decode cX7_windowOf 13 = .ok (.ireturn, 1) := by decide +kernel
theorem dX7_windowOf_14 : decode cX7_windowOf 14 = .ok (.sipush 512, 3) := by decide +kernel
theorem dX7_windowOf_17 : decode cX7_windowOf 17 = .ok (.iload_n 1, 1) := by decide +kernel
theorem dX7_windowOf_18 : decode cX7_windowOf 18 = .ok (.isub, 1) := by decide +kernel
theorem dX7_windowOf_19 : decode cX7_windowOf 19 = .ok (.istore_n 2, 1) := by decide +kernel
theorem dX7_windowOf_20 : decode cX7_windowOf 20 = .ok (.iload_n 2, 1) := by decide +kernel
theorem dX7_windowOf_21 : decode cX7_windowOf 21 = .ok (.bipush 64, 2) := by decide +kernel
theorem dX7_windowOf_23 : decode cX7_windowOf 23 = .ok (.irem, 1) := by decide +kernel
theorem dX7_windowOf_24 : decode cX7_windowOf 24 = .ok (.ifCond .ne 12, 3) := by decide +kernel
theorem dX7_windowOf_27 : decode cX7_windowOf 27 = .ok (.aload_n 0, 1) := by decide +kernel
theorem dX7_windowOf_28 : decode cX7_windowOf 28 = .ok (.getfield 96, 3) := by decide +kernel
theorem dX7_windowOf_31 : decode cX7_windowOf 31 = .ok (.iload_n 2, 1) := by decide +kernel
theorem dX7_windowOf_32 : decode cX7_windowOf 32 = .ok (.iaload, 1) := by decide +kernel
theorem dX7_windowOf_33 : decode cX7_windowOf 33 = .ok (.goto 10, 3) := by decide +kernel
theorem dX7_windowOf_36 : decode cX7_windowOf 36 = .ok (.aload_n 0, 1) := by decide +kernel
theorem dX7_windowOf_37 : decode cX7_windowOf 37 = .ok (.getfield 96, 3) := by decide +kernel
theorem dX7_windowOf_40 : decode cX7_windowOf 40 = .ok (.iload_n 2, 1) := by decide +kernel
theorem dX7_windowOf_41 : decode cX7_windowOf 41 = .ok (.iaload, 1) := by decide +kernel
theorem dX7_windowOf_42 : decode cX7_windowOf 42 = .ok (.ineg, 1) := by decide +kernel
theorem dX7_windowOf_43 : decode cX7_windowOf 43 = .ok (.ireturn, 1) := by decide +kernel
theorem dX7_sound_0 : decode cX7_sound 0 = .ok (.iconst 0, 1) := by decide +kernel
theorem dX7_sound_1 : decode cX7_sound 1 = .ok (.istore_n 1, 1) := by decide +kernel
theorem dX7_sound_2 : decode cX7_sound 2 = .ok (.iload_n 1, 1) := by decide +kernel
theorem dX7_sound_3 : decode cX7_sound 3 = .ok (.aload_n 0, 1) := by decide +kernel
theorem dX7_sound_4 : decode cX7_sound 4 = .ok (.getfield 236, 3) := by decide +kernel
theorem dX7_sound_7 : decode cX7_sound 7 = .ok (.if_icmp .ge 66, 3) := by decide +kernel
theorem dX7_sound_10 : decode cX7_sound 10 = .ok (.iconst 0, 1) := by decide +kernel
theorem dX7_sound_11 : decode cX7_sound 11 = .ok (.istore_n 2, 1) := by decide +kernel
theorem dX7_sound_12 : decode cX7_sound 12 = .ok (.iload_n 2, 1) := by decide +kernel
theorem dX7_sound_13 : decode cX7_sound 13 = .ok (.aload_n 0, 1) := by decide +kernel
theorem dX7_sound_14 : decode cX7_sound 14 = .ok (.getfield 233, 3) := by decide +kernel
theorem dX7_sound_17 : decode cX7_sound 17 = .ok (.if_icmp .ge 50, 3) := by decide +kernel
theorem dX7_sound_20 : decode cX7_sound 20 = .ok (.aload_n 0, 1) := by decide +kernel
theorem dX7_sound_21 : decode cX7_sound 21 = .ok (.aload_n 0, 1) := by decide +kernel
theorem dX7_sound_22 : decode cX7_sound 22 = .ok (.getfield 26, 3) := by decide +kernel
theorem dX7_sound_25 : decode cX7_sound 25 = .ok (.iload_n 2, 1) := by decide +kernel
theorem dX7_sound_26 : decode cX7_sound 26 = .ok (.aaload, 1) := by decide +kernel
theorem dX7_sound_27 : decode cX7_sound 27 = .ok (.aload_n 0, 1) := by decide +kernel
theorem dX7_sound_28 : decode cX7_sound 28 = .ok (.getfield 31, 3) := by decide +kernel
theorem dX7_sound_31 : decode cX7_sound 31 = .ok (.iload_n 2, 1) := by decide +kernel
theorem dX7_sound_32 : decode cX7_sound 32 = .ok (.aaload, 1) := by decide +kernel
theorem dX7_sound_33 : decode cX7_sound 33 = .ok (.iload_n 1, 1) := by decide +kernel
theorem dX7_sound_34 : decode cX7_sound 34 = .ok (.aaload, 1) := by decide +kernel
theorem dX7_sound_35 : decode cX7_sound 35 = .ok (.aload_n 0, 1) := by decide +kernel
theorem dX7_sound_36 : decode cX7_sound 36 = .ok (.getfield 19, 3) := by decide +kernel
theorem dX7_sound_39 : decode cX7_sound 39 = .ok (.iload_n 2, 1) := by decide +kernel
theorem dX7_sound_40 : decode cX7_sound 40 = .ok (.aaload, 1) := by decide +kernel
theorem dX7_sound_41 : decode cX7_sound 41 = .ok (.aload_n 0, 1) := by decide +kernel
theorem dX7_sound_42 : decode cX7_sound 42 = .ok (.getfield 22, 3) := by decide +kernel
theorem dX7_sound_45 : decode cX7_sound 45 = .ok (.iload_n 2, 1) := by decide +kernel
theorem dX7_sound_46 : decode cX7_sound 46 = .ok (.iaload, 1) := by decide +kernel
theorem dX7_sound_47 : decode cX7_sound 47 = .ok (.invokevirtual 244, 3) := by decide +kernel
theorem dX7_sound_50 : decode cX7_sound 50 = .ok (.aload_n 0, 1) := by decide +kernel
theorem dX7_sound_51 : decode cX7_sound 51 = .ok (.getfield 22, 3) := by decide +kernel
theorem dX7_sound_54 : decode cX7_sound 54 = .ok (.iload_n 2, 1) := by decide +kernel
theorem dX7_sound_55 : decode cX7_sound 55 = .ok (.dup2, 1) := by decide +kernel
theorem dX7_sound_56 : decode cX7_sound 56 = .ok (.iaload, 1) := by decide +kernel
theorem dX7_sound_57 : decode cX7_sound 57 = .ok (.bipush 32, 2) := by decide +kernel
theorem dX7_sound_59 : decode cX7_sound 59 = .ok (.iadd, 1) := by decide +kernel
theorem dX7_sound_60 : decode cX7_sound 60 = .ok (.iastore, 1) := by decide +kernel
theorem dX7_sound_61 : decode cX7_sound 61 = .ok (.iinc 2 1, 3) := by decide +kernel
theorem dX7_sound_64 : decode cX7_sound 64 = .ok (.goto (-52), 3) := by decide +kernel
theorem dX7_sound_67 : decode cX7_sound 67 = .ok (.iinc 1 1, 3) := by decide +kernel
theorem dX7_sound_70 : decode cX7_sound 70 = .ok (.goto (-68), 3) := by decide +kernel
theorem dX7_sound_73 : decode cX7_sound 73 = .ok (.return_, 1) := by decide +kernel
theorem dX7_row_0 : decode cX7_row 0 = .ok (.sipush 1023, 3) := by decide +kernel
theorem dX7_row_3 : decode cX7_row 3 = .ok (.istore 5, 2) := by decide +kernel
theorem dX7_row_5 : decode cX7_row 5 = .ok (.iload 5, 2) := by decide +kernel
theorem dX7_row_7 : decode cX7_row 7 = .ok (.bipush 64, 2) := by decide +kernel
theorem dX7_row_9 : decode cX7_row 9 = .ok (.if_icmp .lt 20, 3) := by decide +kernel
theorem dX7_row_12 : decode cX7_row 12 = .ok (.aload_n 1, 1) := by decide +kernel
theorem dX7_row_13 : decode cX7_row 13 = .ok (.iload 5, 2) := by decide +kernel
theorem dX7_row_15 : decode cX7_row 15 = .ok (.aload_n 1, 1) := by decide +kernel
theorem dX7_row_16 : decode cX7_row 16 = .ok (.iload 5, 2) := by decide +kernel
theorem dX7_row_18 : decode cX7_row 18 = .ok (.bipush 64, 2) := by decide +kernel
theorem dX7_row_20 : decode cX7_row 20 = .ok (.isub, 1) := by decide +kernel
theorem dX7_row_21 : decode cX7_row 21 = .ok (.iaload, 1) := by decide +kernel
theorem dX7_row_22 : decode cX7_row 22 = .ok (.iastore, 1) := by decide +kernel
theorem dX7_row_23 : decode cX7_row 23 = .ok (.iinc 5 (-1), 3) := by decide +kernel
theorem dX7_row_26 : decode cX7_row 26 = .ok (.goto (-21), 3) := by decide +kernel
theorem dX7_row_29 : decode cX7_row 29 = .ok (.iconst 0, 1) := by decide +kernel
theorem dX7_row_30 : decode cX7_row 30 = .ok (.istore 5, 2) := by decide +kernel
theorem dX7_row_32 : decode cX7_row 32 = .ok (.iload 5, 2) := by decide +kernel
theorem dX7_row_34 : decode cX7_row 34 = .ok (.bipush 64, 2) := by decide +kernel
theorem dX7_row_36 : decode cX7_row 36 = .ok (.if_icmp .ge 68, 3) := by decide +kernel
theorem dX7_row_39 : decode cX7_row 39 = .ok (.ldc2_w 248, 3) := by decide +kernel
theorem dX7_row_42 : decode cX7_row 42 = .ok (.lstore 6, 2) := by decide +kernel
theorem dX7_row_44 : decode cX7_row 44 = .ok (.iconst 0, 1) := by decide +kernel
theorem dX7_row_45 : decode cX7_row 45 = .ok (.istore 8, 2) := by decide +kernel
theorem dX7_row_47 : decode cX7_row 47 = .ok (.iload 8, 2) := by decide +kernel
theorem dX7_row_49 : decode cX7_row 49 = .ok (.bipush 32, 2) := by decide +kernel
theorem dX7_row_51 : decode cX7_row 51 = .ok (.if_icmp .ge 37, 3) := by decide +kernel
theorem dX7_row_54 : decode cX7_row 54 = .ok (.lload 6, 2) := by decide +kernel
theorem dX7_row_56 : decode cX7_row 56 = .ok (.aload_n 0, 1) := by decide +kernel
theorem dX7_row_57 : decode cX7_row 57 = .ok (.bipush 16, 2) := by decide +kernel
theorem dX7_row_59 : decode cX7_row 59 = .ok (.iload 5, 2) := by decide +kernel
theorem dX7_row_61 : decode cX7_row 61 = .ok (.iadd, 1) := by decide +kernel
theorem dX7_row_62 : decode cX7_row 62 = .ok (.iconst 2, 1) := by decide +kernel
theorem dX7_row_63 : decode cX7_row 63 = .ok (.iload 8, 2) := by decide +kernel
theorem dX7_row_65 : decode cX7_row 65 = .ok (.imul, 1) := by decide +kernel
theorem dX7_row_66 : decode cX7_row 66 = .ok (.iconst 1, 1) := by decide +kernel
theorem dX7_row_67 : decode cX7_row 67 = .ok (.iadd, 1) := by decide +kernel
theorem dX7_row_68 : decode cX7_row 68 = .ok (.imul, 1) := by decide +kernel
theorem dX7_row_69 : decode cX7_row 69 = .ok (.invokevirtual 250, 3) := by decide +kernel
theorem dX7_row_72 : decode cX7_row 72 = .ok (.i2l, 1) := by decide +kernel
theorem dX7_row_73 : decode cX7_row 73 = .ok (.aload_n 2, 1) := by decide +kernel
theorem dX7_row_74 : decode cX7_row 74 = .ok (.iload 8, 2) := by decide +kernel
theorem dX7_row_76 : decode cX7_row 76 = .ok (.iaload, 1) := by decide +kernel
theorem dX7_row_77 : decode cX7_row 77 = .ok (.i2l, 1) := by decide +kernel
theorem dX7_row_78 : decode cX7_row 78 = .ok (.lmul, 1) := by decide +kernel
theorem dX7_row_79 : decode cX7_row 79 = .ok (.ladd, 1) := by decide +kernel
theorem dX7_row_80 : decode cX7_row 80 = .ok (.lstore 6, 2) := by decide +kernel
theorem dX7_row_82 : decode cX7_row 82 = .ok (.iinc 8 1, 3) := by decide +kernel
theorem dX7_row_85 : decode cX7_row 85 = .ok (.goto (-38), 3) := by decide +kernel
theorem dX7_row_88 : decode cX7_row 88 = .ok (.aload_n 1, 1) := by decide +kernel
theorem dX7_row_89 : decode cX7_row 89 = .ok (.iload 5, 2) := by decide +kernel
theorem dX7_row_91 : decode cX7_row 91 = .ok (.lload 6, 2) := by decide +kernel
theorem dX7_row_93 : decode cX7_row 93 = .ok (.bipush 14, 2) := by decide +kernel
theorem dX7_row_95 : decode cX7_row 95 = .ok (.lshr, 1) := by decide +kernel
theorem dX7_row_96 : decode cX7_row 96 = .ok (.l2i, 1) := by decide +kernel
theorem dX7_row_97 : decode cX7_row 97 = .ok (.iastore, 1) := by decide +kernel
theorem dX7_row_98 : decode cX7_row 98 = .ok (.iinc 5 1, 3) := by decide +kernel
theorem dX7_row_101 : decode cX7_row 101 = .ok (.goto (-69), 3) := by decide +kernel
theorem dX7_row_104 : decode cX7_row 104 = .ok (.iconst 0, 1) := by decide +kernel
theorem dX7_row_105 : decode cX7_row 105 = .ok (.istore 5, 2) := by decide +kernel
theorem dX7_row_107 : decode cX7_row 107 = .ok (.iload 5, 2) := by decide +kernel
theorem dX7_row_109 : decode cX7_row 109 = .ok (.bipush 32, 2) := by decide +kernel
theorem dX7_row_111 : decode cX7_row 111 = .ok (.if_icmp .ge 141, 3) := by decide +kernel
theorem dX7_row_114 : decode cX7_row 114 = .ok (.ldc2_w 253, 3) := by decide +kernel
theorem dX7_row_117 : decode cX7_row 117 = .ok (.lstore 6, 2) := by decide +kernel
theorem dX7_row_119 : decode cX7_row 119 = .ok (.iconst 0, 1) := by decide +kernel
theorem dX7_row_120 : decode cX7_row 120 = .ok (.istore 8, 2) := by decide +kernel
theorem dX7_row_122 : decode cX7_row 122 = .ok (.iload 8, 2) := by decide +kernel
theorem dX7_row_124 : decode cX7_row 124 = .ok (.bipush 8, 2) := by decide +kernel
theorem dX7_row_126 : decode cX7_row 126 = .ok (.if_icmp .ge 73, 3) := by decide +kernel
theorem dX7_row_129 : decode cX7_row 129 = .ok (.lload 6, 2) := by decide +kernel
theorem dX7_row_131 : decode cX7_row 131 = .ok (.aload_n 0, 1) := by decide +kernel
theorem dX7_row_132 : decode cX7_row 132 = .ok (.bipush 64, 2) := by decide +kernel
theorem dX7_row_134 : decode cX7_row 134 = .ok (.iload 8, 2) := by decide +kernel
theorem dX7_row_136 : decode cX7_row 136 = .ok (.imul, 1) := by decide +kernel
theorem dX7_row_137 : decode cX7_row 137 = .ok (.iload 5, 2) := by decide +kernel
theorem dX7_row_139 : decode cX7_row 139 = .ok (.iadd, 1) := by decide +kernel
theorem dX7_row_140 : decode cX7_row 140 = .ok (.invokevirtual 255, 3) := by decide +kernel
theorem dX7_row_143 : decode cX7_row 143 = .ok (.i2l, 1) := by decide +kernel
theorem dX7_row_144 : decode cX7_row 144 = .ok (.aload_n 1, 1) := by decide +kernel
theorem dX7_row_145 : decode cX7_row 145 = .ok (.sipush 128, 3) := by decide +kernel
theorem dX7_row_148 : decode cX7_row 148 = .ok (.iload 8, 2) := by decide +kernel
theorem dX7_row_150 : decode cX7_row 150 = .ok (.imul, 1) := by decide +kernel
theorem dX7_row_151 : decode cX7_row 151 = .ok (.iload 5, 2) := by decide +kernel
theorem dX7_row_153 : decode cX7_row 153 = .ok (.iadd, 1) := by decide +kernel
theorem dX7_row_154 : decode cX7_row 154 = .ok (.iaload, 1) := by decide +kernel
theorem dX7_row_155 : decode cX7_row 155 = .ok (.i2l, 1) := by decide +kernel
theorem dX7_row_156 : decode cX7_row 156 = .ok (.lmul, 1) := by decide +kernel
theorem dX7_row_157 : decode cX7_row 157 = .ok (.aload_n 0, 1) := by decide +kernel
theorem dX7_row_158 : decode cX7_row 158 = .ok (.bipush 64, 2) := by decide +kernel
theorem dX7_row_160 : decode cX7_row 160 = .ok (.iload 8, 2) := by decide +kernel
theorem dX7_row_162 : decode cX7_row 162 = .ok (.imul, 1) := by decide +kernel
theorem dX7_row_163 : decode cX7_row 163 = .ok (.bipush 32, 2) := by decide +kernel
theorem dX7_row_165 : decode cX7_row 165 = .ok (.iadd, 1) := by decide +kernel
theorem dX7_row_166 : decode cX7_row 166 = .ok (.iload 5, 2) := by decide +kernel
theorem dX7_row_168 : decode cX7_row 168 = .ok (.iadd, 1) := by decide +kernel
theorem dX7_row_169 : decode cX7_row 169 = .ok (.invokevirtual 255, 3) := by decide +kernel
theorem dX7_row_172 : decode cX7_row 172 = .ok (.i2l, 1) := by decide +kernel
theorem dX7_row_173 : decode cX7_row 173 = .ok (.aload_n 1, 1) := by decide +kernel
theorem dX7_row_174 : decode cX7_row 174 = .ok (.sipush 128, 3) := by decide +kernel
theorem dX7_row_177 : decode cX7_row 177 = .ok (.iload 8, 2) := by decide +kernel
theorem dX7_row_179 : decode cX7_row 179 = .ok (.imul, 1) := by decide +kernel
theorem dX7_row_180 : decode cX7_row 180 = .ok (.bipush 96, 2) := by decide +kernel
theorem dX7_row_182 : decode cX7_row 182 = .ok (.iadd, 1) := by decide +kernel
theorem dX7_row_183 : decode cX7_row 183 = .ok (.iload 5, 2) := by decide +kernel
theorem dX7_row_185 : decode cX7_row 185 = .ok (.iadd, 1) := by decide +kernel
theorem dX7_row_186 : decode cX7_row 186 = .ok (.iaload, 1) := by decide +kernel
theorem dX7_row_187 : decode cX7_row 187 = .ok (.i2l, 1) := by decide +kernel
theorem dX7_row_188 : decode cX7_row 188 = .ok (.lmul, 1) := by decide +kernel
theorem dX7_row_189 : decode cX7_row 189 = .ok (.ladd, 1) := by decide +kernel
theorem dX7_row_190 : decode cX7_row 190 = .ok (.ladd, 1) := by decide +kernel
theorem dX7_row_191 : decode cX7_row 191 = .ok (.lstore 6, 2) := by decide +kernel
theorem dX7_row_193 : decode cX7_row 193 = .ok (.iinc 8 1, 3) := by decide +kernel
theorem dX7_row_196 : decode cX7_row 196 = .ok (.goto (-74), 3) := by decide +kernel
theorem dX7_row_199 : decode cX7_row 199 = .ok (.lload 6, 2) := by decide +kernel
theorem dX7_row_201 : decode cX7_row 201 = .ok (.bipush 21, 2) := by decide +kernel
theorem dX7_row_203 : decode cX7_row 203 = .ok (.lshr, 1) := by decide +kernel
theorem dX7_row_204 : decode cX7_row 204 = .ok (.lstore 8, 2) := by decide +kernel
theorem dX7_row_206 : decode cX7_row 206 = .ok (.aload_n 3, 1) := by decide +kernel
theorem dX7_row_207 : decode cX7_row 207 = .ok (.iload 4, 2) := by decide +kernel
theorem dX7_row_209 : decode cX7_row 209 = .ok (.iload 5, 2) := by decide +kernel
theorem dX7_row_211 : decode cX7_row 211 = .ok (.iadd, 1) := by decide +kernel
theorem dX7_row_212 : decode cX7_row 212 = .ok (.lload 8, 2) := by decide +kernel
theorem dX7_row_214 : decode cX7_row 214 = .ok (.ldc2_w 258, 3) := by decide +kernel
theorem dX7_row_217 : decode cX7_row 217 = .ok (.lcmp, 1) := by decide +kernel
theorem dX7_row_218 : decode cX7_row 218 = .ok (.ifCond .ge 9, 3) := by decide +kernel
theorem dX7_row_221 : decode cX7_row 221 = .ok (.sipush (-32768), 3) := by decide +kernel
theorem dX7_row_224 : decode cX7_row 224 = .ok (.goto 21, 3) := by decide +kernel
theorem dX7_row_227 : decode cX7_row 227 = .ok (.lload 8, 2) := by decide +kernel
theorem dX7_row_229 : decode cX7_row 229 = .ok (.ldc2_w 260, 3) := by decide +kernel
theorem dX7_row_232 : decode cX7_row 232 = .ok (.lcmp, 1) := by decide +kernel
theorem dX7_row_233 : decode cX7_row 233 = .ok (.ifCond .le 9, 3) := by decide +kernel
theorem dX7_row_236 : decode cX7_row 236 = .ok (.sipush 32767, 3) := by decide +kernel
theorem dX7_row_239 : decode cX7_row 239 = .ok (.goto 6, 3) := by decide +kernel
theorem dX7_row_242 : decode cX7_row 242 = .ok (.lload 8, 2) := by decide +kernel
theorem dX7_row_244 : decode cX7_row 244 = .ok (.l2i, 1) := by decide +kernel
theorem dX7_row_245 : decode cX7_row 245 = .ok (.iastore, 1) := by decide +kernel
theorem dX7_row_246 : decode cX7_row 246 = .ok (.iinc 5 1, 3) := by decide +kernel
theorem dX7_row_249 : decode cX7_row 249 = .ok (.goto (-142), 3) := by decide +kernel
theorem dX7_row_252 : decode cX7_row 252 = .ok (.return_, 1) := by decide +kernel
theorem dX7_frame_0 : decode cX7_frame 0 = .ok (.iload_n 1, 1) := by decide +kernel
theorem dX7_frame_1 : decode cX7_frame 1 = .ok (.ifCond .lt 21, 3) := by decide +kernel
theorem dX7_frame_4 : decode cX7_frame 4 = .ok (.iload_n 1, 1) := by decide +kernel
theorem dX7_frame_5 : decode cX7_frame 5 = .ok (.aload_n 0, 1) := by decide +kernel
theorem dX7_frame_6 : decode cX7_frame 6 = .ok (.getfield 113, 3) := by decide +kernel
theorem dX7_frame_9 : decode cX7_frame 9 = .ok (.if_icmp .ge 13, 3) := by decide +kernel
theorem dX7_frame_12 : decode cX7_frame 12 = .ok (.iload_n 2, 1) := by decide +kernel
theorem dX7_frame_13 : decode cX7_frame 13 = .ok (.ifCond .lt 9, 3) := by decide +kernel
theorem dX7_frame_16 : decode cX7_frame 16 = .ok (.iload_n 2, 1) := by decide +kernel
theorem dX7_frame_17 : decode cX7_frame 17 = .ok (.bipush 9, 2) := by decide +kernel
theorem dX7_frame_19 : decode cX7_frame 19 = .ok (.if_icmp .le 7, 3) := by decide +kernel
theorem dX7_frame_22 : decode cX7_frame 22 = .ok (.iconst (-1), 1) := by decide +kernel
theorem dX7_frame_23 : decode cX7_frame 23 = .ok (.goto 11, 3) := by decide +kernel
theorem dX7_frame_26 : decode cX7_frame 26 = .ok (.aload_n 0, 1) := by decide +kernel
theorem dX7_frame_27 : decode cX7_frame 27 = .ok (.getfield 15, 3) := by decide +kernel
theorem dX7_frame_30 : decode cX7_frame 30 = .ok (.iload_n 1, 1) := by decide +kernel
theorem dX7_frame_31 : decode cX7_frame 31 = .ok (.aaload, 1) := by decide +kernel
theorem dX7_frame_32 : decode cX7_frame 32 = .ok (.iload_n 2, 1) := by decide +kernel
theorem dX7_frame_33 : decode cX7_frame 33 = .ok (.iaload, 1) := by decide +kernel
theorem dX7_frame_34 : decode cX7_frame 34 = .ok (.ireturn, 1) := by decide +kernel
theorem dX7_isBand_0 : decode cX7_isBand 0 = .ok (.aload_n 0, 1) := by decide +kernel
theorem dX7_isBand_1 : decode cX7_isBand 1 = .ok (.getfield 119, 3) := by decide +kernel
theorem dX7_isBand_4 : decode cX7_isBand 4 = .ok (.ifCond .eq 29, 3) := by decide +kernel
theorem dX7_isBand_7 : decode cX7_isBand 7 = .ok (.iload_n 1, 1) := by decide +kernel
theorem dX7_isBand_8 : decode cX7_isBand 8 = .ok (.ifCond .lt 25, 3) := by decide +kernel
theorem dX7_isBand_11 : decode cX7_isBand 11 = .ok (.iload_n 1, 1) := by decide +kernel
theorem dX7_isBand_12 : decode cX7_isBand 12 = .ok (.aload_n 0, 1) := by decide +kernel
theorem dX7_isBand_13 : decode cX7_isBand 13 = .ok (.getfield 233, 3) := by decide +kernel
theorem dX7_isBand_16 : decode cX7_isBand 16 = .ok (.if_icmp .ge 17, 3) := by decide +kernel
theorem dX7_isBand_19 : decode cX7_isBand 19 = .ok (.iload_n 2, 1) := by decide +kernel
theorem dX7_isBand_20 : decode cX7_isBand 20 = .ok (.ifCond .lt 13, 3) := by decide +kernel
theorem dX7_isBand_23 : decode cX7_isBand 23 = .ok (.iload_n 2, 1) := by decide +kernel
theorem dX7_isBand_24 : decode cX7_isBand 24 = .ok (.bipush 32, 2) := by decide +kernel
theorem dX7_isBand_26 : decode cX7_isBand 26 = .ok (.if_icmp .ge 7, 3) := by decide +kernel
theorem dX7_isBand_29 : decode cX7_isBand 29 = .ok (.iconst 1, 1) := by decide +kernel
theorem dX7_isBand_30 : decode cX7_isBand 30 = .ok (.goto 4, 3) := by decide +kernel
theorem dX7_isBand_33 : decode cX7_isBand 33 = .ok (.iconst 0, 1) := by decide +kernel
theorem dX7_isBand_34 : decode cX7_isBand 34 = .ok (.ireturn, 1) := by decide +kernel
theorem dX7_band_0 : decode cX7_band 0 = .ok (.aload_n 0, 1) := by decide +kernel
theorem dX7_band_1 : decode cX7_band 1 = .ok (.iload_n 1, 1) := by decide +kernel
theorem dX7_band_2 : decode cX7_band 2 = .ok (.iload_n 2, 1) := by decide +kernel
theorem dX7_band_3 : decode cX7_band 3 = .ok (.invokevirtual 262, 3) := by decide +kernel
theorem dX7_band_6 : decode cX7_band 6 = .ok (.ifCond .eq 28, 3) := by decide +kernel
theorem dX7_band_9 : decode cX7_band 9 = .ok (.iload_n 3, 1) := by decide +kernel
theorem dX7_band_10 : decode cX7_band 10 = .ok (.ifCond .lt 24, 3) := by decide +kernel
theorem dX7_band_13 : decode cX7_band 13 = .ok (.iload_n 3, 1) := by decide +kernel
theorem dX7_band_14 : decode cX7_band 14 = .ok (.aload_n 0, 1) := by decide +kernel
theorem dX7_band_15 : decode cX7_band 15 = .ok (.getfield 236, 3) := by decide +kernel
theorem dX7_band_18 : decode cX7_band 18 = .ok (.if_icmp .ge 16, 3) := by decide +kernel
theorem dX7_band_21 : decode cX7_band 21 = .ok (.aload_n 0, 1) := by decide +kernel
theorem dX7_band_22 : decode cX7_band 22 = .ok (.getfield 31, 3) := by decide +kernel
theorem dX7_band_25 : decode cX7_band 25 = .ok (.iload_n 1, 1) := by decide +kernel
theorem dX7_band_26 : decode cX7_band 26 = .ok (.aaload, 1) := by decide +kernel
theorem dX7_band_27 : decode cX7_band 27 = .ok (.iload_n 3, 1) := by decide +kernel
theorem dX7_band_28 : decode cX7_band 28 = .ok (.aaload, 1) := by decide +kernel
theorem dX7_band_29 : decode cX7_band 29 = .ok (.iload_n 2, 1) := by decide +kernel
theorem dX7_band_30 : decode cX7_band 30 = .ok (.iaload, 1) := by decide +kernel
theorem dX7_band_31 : decode cX7_band 31 = .ok (.goto 4, 3) := by decide +kernel
theorem dX7_band_34 : decode cX7_band 34 = .ok (.iconst 0, 1) := by decide +kernel
theorem dX7_band_35 : decode cX7_band 35 = .ok (.ireturn, 1) := by decide +kernel
theorem dX7_steps_0 : decode cX7_steps 0 = .ok (.aload_n 0, 1) := by decide +kernel
theorem dX7_steps_1 : decode cX7_steps 1 = .ok (.iload_n 1, 1) := by decide +kernel
theorem dX7_steps_2 : decode cX7_steps 2 = .ok (.iload_n 2, 1) := by decide +kernel
theorem dX7_steps_3 : decode cX7_steps 3 = .ok (.invokevirtual 262, 3) := by decide +kernel
theorem dX7_steps_6 : decode cX7_steps 6 = .ok (.ifCond .eq 14, 3) := by decide +kernel
theorem dX7_steps_9 : decode cX7_steps 9 = .ok (.aload_n 0, 1) := by decide +kernel
theorem dX7_steps_10 : decode cX7_steps 10 = .ok (.getfield 34, 3) := by decide +kernel
theorem dX7_steps_13 : decode cX7_steps 13 = .ok (.iload_n 1, 1) := by decide +kernel
theorem dX7_steps_14 : decode cX7_steps 14 = .ok (.aaload, 1) := by decide +kernel
theorem dX7_steps_15 : decode cX7_steps 15 = .ok (.iload_n 2, 1) := by decide +kernel
theorem dX7_steps_16 : decode cX7_steps 16 = .ok (.iaload, 1) := by decide +kernel
theorem dX7_steps_17 : decode cX7_steps 17 = .ok (.goto 4, 3) := by decide +kernel
theorem dX7_steps_20 : decode cX7_steps 20 = .ok (.iconst (-1), 1) := by decide +kernel
theorem dX7_steps_21 : decode cX7_steps 21 = .ok (.ireturn, 1) := by decide +kernel
theorem dX7_factor_0 : decode cX7_factor 0 = .ok (.aload_n 0, 1) := by decide +kernel
theorem dX7_factor_1 : decode cX7_factor 1 = .ok (.iload_n 1, 1) := by decide +kernel
theorem dX7_factor_2 : decode cX7_factor 2 = .ok (.iload_n 2, 1) := by decide +kernel
theorem dX7_factor_3 : decode cX7_factor 3 = .ok (.invokevirtual 262, 3) := by decide +kernel
theorem dX7_factor_6 : decode cX7_factor 6 = .ok (.ifCond .eq 36, 3) := by decide +kernel
theorem dX7_factor_9 : decode cX7_factor 9 = .ok (.aload_n 0, 1) := by decide +kernel
theorem dX7_factor_10 : decode cX7_factor 10 = .ok (.getfield 34, 3) := by decide +kernel
theorem dX7_factor_13 : decode cX7_factor 13 = .ok (.iload_n 1, 1) := by decide +kernel
theorem dX7_factor_14 : decode cX7_factor 14 = .ok (.aaload, 1) := by decide +kernel
theorem dX7_factor_15 : decode cX7_factor 15 = .ok (.iload_n 2, 1) := by decide +kernel
theorem dX7_factor_16 : decode cX7_factor 16 = .ok (.iaload, 1) := by decide +kernel
theorem dX7_factor_17 : decode cX7_factor 17 = .ok (.ifCond .le 25, 3) := by decide +kernel
theorem dX7_factor_20 : decode cX7_factor 20 = .ok (.iload_n 3, 1) := by decide +kernel
theorem dX7_factor_21 : decode cX7_factor 21 = .ok (.ifCond .lt 21, 3) := by decide +kernel
theorem dX7_factor_24 : decode cX7_factor 24 = .ok (.iload_n 3, 1) := by decide +kernel
theorem dX7_factor_25 : decode cX7_factor 25 = .ok (.iconst 3, 1) := by decide +kernel
theorem dX7_factor_26 : decode cX7_factor 26 = .ok (.if_icmp .ge 16, 3) := by decide +kernel
theorem dX7_factor_29 : decode cX7_factor 29 = .ok (.aload_n 0, 1) := by decide +kernel
theorem dX7_factor_30 : decode cX7_factor 30 = .ok (.getfield 37, 3) := by decide +kernel
theorem dX7_factor_33 : decode cX7_factor 33 = .ok (.iload_n 1, 1) := by decide +kernel
theorem dX7_factor_34 : decode cX7_factor 34 = .ok (.aaload, 1) := by decide +kernel
theorem dX7_factor_35 : decode cX7_factor 35 = .ok (.iload_n 2, 1) := by decide +kernel
theorem dX7_factor_36 : decode cX7_factor 36 = .ok (.aaload, 1) := by decide +kernel
theorem dX7_factor_37 : decode cX7_factor 37 = .ok (.iload_n 3, 1) := by decide +kernel
theorem dX7_factor_38 : decode cX7_factor 38 = .ok (.iaload, 1) := by decide +kernel
theorem dX7_factor_39 : decode cX7_factor 39 = .ok (.goto 4, 3) := by decide +kernel
theorem dX7_factor_42 : decode cX7_factor 42 = .ok (.iconst (-1), 1) := by decide +kernel
theorem dX7_factor_43 : decode cX7_factor 43 = .ok (.ireturn, 1) := by decide +kernel
theorem dX7_pcm_0 : decode cX7_pcm 0 = .ok (.iload_n 1, 1) := by decide +kernel
theorem dX7_pcm_1 : decode cX7_pcm 1 = .ok (.ifCond .lt 22, 3) := by decide +kernel
theorem dX7_pcm_4 : decode cX7_pcm 4 = .ok (.iload_n 1, 1) := by decide +kernel
theorem dX7_pcm_5 : decode cX7_pcm 5 = .ok (.iconst 1, 1) := by decide +kernel
theorem dX7_pcm_6 : decode cX7_pcm 6 = .ok (.if_icmp .gt 17, 3) := by decide +kernel
theorem dX7_pcm_9 : decode cX7_pcm 9 = .ok (.iload_n 2, 1) := by decide +kernel
theorem dX7_pcm_10 : decode cX7_pcm 10 = .ok (.ifCond .lt 13, 3) := by decide +kernel
theorem dX7_pcm_13 : decode cX7_pcm 13 = .ok (.iload_n 2, 1) := by decide +kernel
theorem dX7_pcm_14 : decode cX7_pcm 14 = .ok (.aload_n 0, 1) := by decide +kernel
theorem dX7_pcm_15 : decode cX7_pcm 15 = .ok (.getfield 22, 3) := by decide +kernel
theorem dX7_pcm_18 : decode cX7_pcm 18 = .ok (.iload_n 1, 1) := by decide +kernel
theorem dX7_pcm_19 : decode cX7_pcm 19 = .ok (.iaload, 1) := by decide +kernel
theorem dX7_pcm_20 : decode cX7_pcm 20 = .ok (.if_icmp .lt 7, 3) := by decide +kernel
theorem dX7_pcm_23 : decode cX7_pcm 23 = .ok (.iconst 0, 1) := by decide +kernel
theorem dX7_pcm_24 : decode cX7_pcm 24 = .ok (.goto 11, 3) := by decide +kernel
theorem dX7_pcm_27 : decode cX7_pcm 27 = .ok (.aload_n 0, 1) := by decide +kernel
theorem dX7_pcm_28 : decode cX7_pcm 28 = .ok (.getfield 19, 3) := by decide +kernel
theorem dX7_pcm_31 : decode cX7_pcm 31 = .ok (.iload_n 1, 1) := by decide +kernel
theorem dX7_pcm_32 : decode cX7_pcm 32 = .ok (.aaload, 1) := by decide +kernel
theorem dX7_pcm_33 : decode cX7_pcm 33 = .ok (.iload_n 2, 1) := by decide +kernel
theorem dX7_pcm_34 : decode cX7_pcm 34 = .ok (.iaload, 1) := by decide +kernel
theorem dX7_pcm_35 : decode cX7_pcm 35 = .ok (.ireturn, 1) := by decide +kernel
theorem dX7_sum_0 : decode cX7_sum 0 = .ok (.iload_n 2, 1) := by decide +kernel
theorem dX7_sum_1 : decode cX7_sum 1 = .ok (.ifCond .lt 17, 3) := by decide +kernel
theorem dX7_sum_4 : decode cX7_sum 4 = .ok (.iload_n 3, 1) := by decide +kernel
theorem dX7_sum_5 : decode cX7_sum 5 = .ok (.iload_n 2, 1) := by decide +kernel
theorem dX7_sum_6 : decode cX7_sum 6 = .ok (.if_icmp .lt 12, 3) := by decide +kernel
theorem dX7_sum_9 : decode cX7_sum 9 = .ok (.iload_n 3, 1) := by decide +kernel
theorem dX7_sum_10 : decode cX7_sum 10 = .ok (.iload_n 2, 1) := by decide +kernel
theorem dX7_sum_11 : decode cX7_sum 11 = .ok (.isub, 1) := by decide +kernel
theorem dX7_sum_12 : decode cX7_sum 12 = .ok (.sipush 2000, 3) := by decide +kernel
theorem dX7_sum_15 : decode cX7_sum 15 = .ok (.if_icmp .le 5, 3) := by decide +kernel
theorem dX7_sum_18 : decode cX7_sum 18 = .ok (.iconst 0, 1) := by decide +kernel
theorem dX7_sum_19 : decode cX7_sum 19 = .ok (.ireturn, 1) := by decide +kernel
theorem dX7_sum_20 : decode cX7_sum 20 = .ok (.iconst 0, 1) := by decide +kernel
theorem dX7_sum_21 : decode cX7_sum 21 = .ok (.istore 4, 2) := by decide +kernel
theorem dX7_sum_23 : decode cX7_sum 23 = .ok (.iconst 0, 1) := by decide +kernel
theorem dX7_sum_24 : decode cX7_sum 24 = .ok (.istore 5, 2) := by decide +kernel
theorem dX7_sum_26 : decode cX7_sum 26 = .ok (.iload 5, 2) := by decide +kernel
theorem dX7_sum_28 : decode cX7_sum 28 = .ok (.iload_n 3, 1) := by decide +kernel
theorem dX7_sum_29 : decode cX7_sum 29 = .ok (.iload_n 2, 1) := by decide +kernel
theorem dX7_sum_30 : decode cX7_sum 30 = .ok (.isub, 1) := by decide +kernel
theorem dX7_sum_31 : decode cX7_sum 31 = .ok (.if_icmp .ge 28, 3) := by decide +kernel
theorem dX7_sum_34 : decode cX7_sum 34 = .ok (.iload 4, 2) := by decide +kernel
theorem dX7_sum_36 : decode cX7_sum 36 = .ok (.aload_n 0, 1) := by decide +kernel
theorem dX7_sum_37 : decode cX7_sum 37 = .ok (.iload_n 1, 1) := by decide +kernel
theorem dX7_sum_38 : decode cX7_sum 38 = .ok (.iload_n 2, 1) := by decide +kernel
theorem dX7_sum_39 : decode cX7_sum 39 = .ok (.iload 5, 2) := by decide +kernel
theorem dX7_sum_41 : decode cX7_sum 41 = .ok (.iadd, 1) := by decide +kernel
theorem dX7_sum_42 : decode cX7_sum 42 = .ok (.invokevirtual 266, 3) := by decide +kernel
theorem dX7_sum_45 : decode cX7_sum 45 = .ok (.iload 5, 2) := by decide +kernel
theorem dX7_sum_47 : decode cX7_sum 47 = .ok (.iconst 1, 1) := by decide +kernel
theorem dX7_sum_48 : decode cX7_sum 48 = .ok (.iadd, 1) := by decide +kernel
theorem dX7_sum_49 : decode cX7_sum 49 = .ok (.imul, 1) := by decide +kernel
theorem dX7_sum_50 : decode cX7_sum 50 = .ok (.iadd, 1) := by decide +kernel
theorem dX7_sum_51 : decode cX7_sum 51 = .ok (.istore 4, 2) := by decide +kernel
theorem dX7_sum_53 : decode cX7_sum 53 = .ok (.iinc 5 1, 3) := by decide +kernel
theorem dX7_sum_56 : decode cX7_sum 56 = .ok (.goto (-30), 3) := by decide +kernel
theorem dX7_sum_59 : decode cX7_sum 59 = .ok (.iload 4, 2) := by decide +kernel
theorem dX7_sum_61 : decode cX7_sum 61 = .ok (.ireturn, 1) := by decide +kernel
theorem dX7_memory_0 : decode cX7_memory 0 = .ok (.iload_n 1, 1) := by decide +kernel
theorem dX7_memory_1 : decode cX7_memory 1 = .ok (.ifCond .lt 19, 3) := by decide +kernel
theorem dX7_memory_4 : decode cX7_memory 4 = .ok (.iload_n 1, 1) := by decide +kernel
theorem dX7_memory_5 : decode cX7_memory 5 = .ok (.iconst 1, 1) := by decide +kernel
theorem dX7_memory_6 : decode cX7_memory 6 = .ok (.if_icmp .gt 14, 3) := by decide +kernel
theorem dX7_memory_9 : decode cX7_memory 9 = .ok (.iload_n 2, 1) := by decide +kernel
theorem dX7_memory_10 : decode cX7_memory 10 = .ok (.ifCond .lt 10, 3) := by decide +kernel
theorem dX7_memory_13 : decode cX7_memory 13 = .ok (.iload_n 2, 1) := by decide +kernel
theorem dX7_memory_14 : decode cX7_memory 14 = .ok (.sipush 1023, 3) := by decide +kernel
theorem dX7_memory_17 : decode cX7_memory 17 = .ok (.if_icmp .le 7, 3) := by decide +kernel
theorem dX7_memory_20 : decode cX7_memory 20 = .ok (.iconst 0, 1) := by decide +kernel
theorem dX7_memory_21 : decode cX7_memory 21 = .ok (.goto 11, 3) := by decide +kernel
theorem dX7_memory_24 : decode cX7_memory 24 = .ok (.aload_n 0, 1) := by decide +kernel
theorem dX7_memory_25 : decode cX7_memory 25 = .ok (.getfield 26, 3) := by decide +kernel
theorem dX7_memory_28 : decode cX7_memory 28 = .ok (.iload_n 1, 1) := by decide +kernel
theorem dX7_memory_29 : decode cX7_memory 29 = .ok (.aaload, 1) := by decide +kernel
theorem dX7_memory_30 : decode cX7_memory 30 = .ok (.iload_n 2, 1) := by decide +kernel
theorem dX7_memory_31 : decode cX7_memory 31 = .ok (.iaload, 1) := by decide +kernel
theorem dX7_memory_32 : decode cX7_memory 32 = .ok (.ireturn, 1) := by decide +kernel
theorem dX7_count_0 : decode cX7_count 0 = .ok (.iload_n 1, 1) := by decide +kernel
theorem dX7_count_1 : decode cX7_count 1 = .ok (.tableswitch 73 0 5 #[39, 44, 49, 54, 59, 66], 39) := by decide +kernel
theorem dX7_count_40 : decode cX7_count 40 = .ok (.aload_n 0, 1) := by decide +kernel
theorem dX7_count_41 : decode cX7_count 41 = .ok (.getfield 103, 3) := by decide +kernel
theorem dX7_count_44 : decode cX7_count 44 = .ok (.ireturn, 1) := by decide +kernel
theorem dX7_count_45 : decode cX7_count 45 = .ok (.aload_n 0, 1) := by decide +kernel
theorem dX7_count_46 : decode cX7_count 46 = .ok (.getfield 110, 3) := by decide +kernel
theorem dX7_count_49 : decode cX7_count 49 = .ok (.ireturn, 1) := by decide +kernel
theorem dX7_count_50 : decode cX7_count 50 = .ok (.aload_n 0, 1) := by decide +kernel
theorem dX7_count_51 : decode cX7_count 51 = .ok (.getfield 113, 3) := by decide +kernel
theorem dX7_count_54 : decode cX7_count 54 = .ok (.ireturn, 1) := by decide +kernel
theorem dX7_count_55 : decode cX7_count 55 = .ok (.aload_n 0, 1) := by decide +kernel
theorem dX7_count_56 : decode cX7_count 56 = .ok (.getfield 116, 3) := by decide +kernel
theorem dX7_count_59 : decode cX7_count 59 = .ok (.ireturn, 1) := by decide +kernel
theorem dX7_count_60 : decode cX7_count 60 = .ok (.aload_n 0, 1) := by decide +kernel
theorem dX7_count_61 : decode cX7_count 61 = .ok (.getfield 22, 3) := by decide +kernel
theorem dX7_count_64 : decode cX7_count 64 = .ok (.iconst 0, 1) := by decide +kernel
theorem dX7_count_65 : decode cX7_count 65 = .ok (.iaload, 1) := by decide +kernel
theorem dX7_count_66 : decode cX7_count 66 = .ok (.ireturn, 1) := by decide +kernel
theorem dX7_count_67 : decode cX7_count 67 = .ok (.aload_n 0, 1) := by decide +kernel
theorem dX7_count_68 : decode cX7_count 68 = .ok (.getfield 22, 3) := by decide +kernel
theorem dX7_count_71 : decode cX7_count 71 = .ok (.iconst 1, 1) := by decide +kernel
theorem dX7_count_72 : decode cX7_count 72 = .ok (.iaload, 1) := by decide +kernel
theorem dX7_count_73 : decode cX7_count 73 = .ok (.ireturn, 1) := by decide +kernel
theorem dX7_count_74 : decode cX7_count 74 = .ok (.iconst (-1), 1) := by decide +kernel
theorem dX7_count_75 : decode cX7_count 75 = .ok (.ireturn, 1) := by decide +kernel
