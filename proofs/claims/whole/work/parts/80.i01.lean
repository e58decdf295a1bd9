theorem dX7_init_0 : decode cX7_init 0 = .ok (.aload_n 0, 1) := by decide +kernel
theorem dX7_init_1 : decode cX7_init 1 = .ok (.invokespecial 1, 3) := by decide +kernel
theorem dX7_init_4 : decode cX7_init 4 = .ok (.aload_n 0, 1) := by decide +kernel
theorem dX7_init_5 : decode cX7_init 5 = .ok (.sipush 4000, 3) := by decide +kernel
theorem dX7_init_8 : decode cX7_init 8 = .ok (.newarray .byte, 2) := by decide +kernel
theorem dX7_init_10 : decode cX7_init 10 = .ok (.putfield 9, 3) := by decide +kernel
theorem dX7_init_13 : decode cX7_init 13 = .ok (.aload_n 0, 1) := by decide +kernel
theorem dX7_init_14 : decode cX7_init 14 = .ok (.sipush 130, 3) := by decide +kernel
theorem dX7_init_17 : decode cX7_init 17 = .ok (.bipush 10, 2) := by decide +kernel
theorem dX7_init_19 : decode cX7_init 19 = .ok (.multianewarray 13 2, 4) := by decide +kernel
theorem dX7_init_23 : decode cX7_init 23 = .ok (.putfield 15, 3) := by decide +kernel
theorem dX7_init_26 : decode cX7_init 26 = .ok (.aload_n 0, 1) := by decide +kernel
theorem dX7_init_27 : decode cX7_init 27 = .ok (.iconst 2, 1) := by decide +kernel
theorem dX7_init_28 : decode cX7_init 28 = .ok (.ldc 18, 2) := by decide +kernel
theorem dX7_init_30 : decode cX7_init 30 = .ok (.multianewarray 13 2, 4) := by decide +kernel
theorem dX7_init_34 : decode cX7_init 34 = .ok (.putfield 19, 3) := by decide +kernel
theorem dX7_init_37 : decode cX7_init 37 = .ok (.aload_n 0, 1) := by decide +kernel
theorem dX7_init_38 : decode cX7_init 38 = .ok (.iconst 2, 1) := by decide +kernel
theorem dX7_init_39 : decode cX7_init 39 = .ok (.newarray .int, 2) := by decide +kernel
theorem dX7_init_41 : decode cX7_init 41 = .ok (.putfield 22, 3) := by decide +kernel
theorem dX7_init_44 : decode cX7_init 44 = .ok (.aload_n 0, 1) := by decide +kernel
theorem dX7_init_45 : decode cX7_init 45 = .ok (.iconst 2, 1) := by decide +kernel
theorem dX7_init_46 : decode cX7_init 46 = .ok (.sipush 1024, 3) := by decide +kernel
theorem dX7_init_49 : decode cX7_init 49 = .ok (.multianewarray 13 2, 4) := by decide +kernel
theorem dX7_init_53 : decode cX7_init 53 = .ok (.putfield 26, 3) := by decide +kernel
theorem dX7_init_56 : decode cX7_init 56 = .ok (.aload_n 0, 1) := by decide +kernel
theorem dX7_init_57 : decode cX7_init 57 = .ok (.iconst 2, 1) := by decide +kernel
theorem dX7_init_58 : decode cX7_init 58 = .ok (.bipush 36, 2) := by decide +kernel
theorem dX7_init_60 : decode cX7_init 60 = .ok (.bipush 32, 2) := by decide +kernel
theorem dX7_init_62 : decode cX7_init 62 = .ok (.multianewarray 29 3, 4) := by decide +kernel
theorem dX7_init_66 : decode cX7_init 66 = .ok (.putfield 31, 3) := by decide +kernel
theorem dX7_init_69 : decode cX7_init 69 = .ok (.aload_n 0, 1) := by decide +kernel
theorem dX7_init_70 : decode cX7_init 70 = .ok (.iconst 2, 1) := by decide +kernel
theorem dX7_init_71 : decode cX7_init 71 = .ok (.bipush 32, 2) := by decide +kernel
theorem dX7_init_73 : decode cX7_init 73 = .ok (.multianewarray 13 2, 4) := by decide +kernel
theorem dX7_init_77 : decode cX7_init 77 = .ok (.putfield 34, 3) := by decide +kernel
theorem dX7_init_80 : decode cX7_init 80 = .ok (.aload_n 0, 1) := by decide +kernel
theorem dX7_init_81 : decode cX7_init 81 = .ok (.iconst 2, 1) := by decide +kernel
theorem dX7_init_82 : decode cX7_init 82 = .ok (.bipush 32, 2) := by decide +kernel
theorem dX7_init_84 : decode cX7_init 84 = .ok (.iconst 3, 1) := by decide +kernel
theorem dX7_init_85 : decode cX7_init 85 = .ok (.multianewarray 29 3, 4) := by decide +kernel
theorem dX7_init_89 : decode cX7_init 89 = .ok (.putfield 37, 3) := by decide +kernel
theorem dX7_init_92 : decode cX7_init 92 = .ok (.aload_n 0, 1) := by decide +kernel
theorem dX7_init_93 : decode cX7_init 93 = .ok (.iconst 2, 1) := by decide +kernel
theorem dX7_init_94 : decode cX7_init 94 = .ok (.bipush 32, 2) := by decide +kernel
theorem dX7_init_96 : decode cX7_init 96 = .ok (.multianewarray 13 2, 4) := by decide +kernel
theorem dX7_init_100 : decode cX7_init 100 = .ok (.putfield 40, 3) := by decide +kernel
theorem dX7_init_103 : decode cX7_init 103 = .ok (.aload_n 0, 1) := by decide +kernel
theorem dX7_init_104 : decode cX7_init 104 = .ok (.iconst 2, 1) := by decide +kernel
theorem dX7_init_105 : decode cX7_init 105 = .ok (.bipush 32, 2) := by decide +kernel
theorem dX7_init_107 : decode cX7_init 107 = .ok (.multianewarray 13 2, 4) := by decide +kernel
theorem dX7_init_111 : decode cX7_init 111 = .ok (.putfield 43, 3) := by decide +kernel
theorem dX7_init_114 : decode cX7_init 114 = .ok (.aload_n 0, 1) := by decide +kernel
theorem dX7_init_115 : decode cX7_init 115 = .ok (.iconst 2, 1) := by decide +kernel
theorem dX7_init_116 : decode cX7_init 116 = .ok (.bipush 32, 2) := by decide +kernel
theorem dX7_init_118 : decode cX7_init 118 = .ok (.multianewarray 13 2, 4) := by decide +kernel
theorem dX7_init_122 : decode cX7_init 122 = .ok (.putfield 46, 3) := by decide +kernel
theorem dX7_init_125 : decode cX7_init 125 = .ok (.aload_n 0, 1) := by decide +kernel
theorem dX7_init_126 : decode cX7_init 126 = .ok (.iconst 2, 1) := by decide +kernel
theorem dX7_init_127 : decode cX7_init 127 = .ok (.bipush 32, 2) := by decide +kernel
theorem dX7_init_129 : decode cX7_init 129 = .ok (.iconst 3, 1) := by decide +kernel
theorem dX7_init_130 : decode cX7_init 130 = .ok (.multianewarray 29 3, 4) := by decide +kernel
theorem dX7_init_134 : decode cX7_init 134 = .ok (.putfield 49, 3) := by decide +kernel
theorem dX7_init_137 : decode cX7_init 137 = .ok (.aload_n 0, 1) := by decide +kernel
theorem dX7_init_138 : decode cX7_init 138 = .ok (.iconst 2, 1) := by decide +kernel
theorem dX7_init_139 : decode cX7_init 139 = .ok (.bipush 36, 2) := by decide +kernel
theorem dX7_init_141 : decode cX7_init 141 = .ok (.bipush 32, 2) := by decide +kernel
theorem dX7_init_143 : decode cX7_init 143 = .ok (.multianewarray 29 3, 4) := by decide +kernel
theorem dX7_init_147 : decode cX7_init 147 = .ok (.putfield 52, 3) := by decide +kernel
theorem dX7_init_150 : decode cX7_init 150 = .ok (.aload_n 0, 1) := by decide +kernel
theorem dX7_init_151 : decode cX7_init 151 = .ok (.bipush 14, 2) := by decide +kernel
theorem dX7_init_153 : decode cX7_init 153 = .ok (.newarray .int, 2) := by decide +kernel
theorem dX7_init_155 : decode cX7_init 155 = .ok (.dup, 1) := by decide +kernel
theorem dX7_init_156 : decode cX7_init 156 = .ok (.iconst 0, 1) := by decide +kernel
theorem dX7_init_157 : decode cX7_init 157 = .ok (.bipush 32, 2) := by decide +kernel
theorem dX7_init_159 : decode cX7_init 159 = .ok (.iastore, 1) := by decide +kernel
theorem dX7_init_160 : decode cX7_init 160 = .ok (.dup, 1) := by decide +kernel
theorem dX7_init_161 : decode cX7_init 161 = .ok (.iconst 1, 1) := by decide +kernel
theorem dX7_init_162 : decode cX7_init 162 = .ok (.bipush 48, 2) := by decide +kernel
theorem dX7_init_164 : decode cX7_init 164 = .ok (.iastore, 1) := by decide +kernel
theorem dX7_init_165 : decode cX7_init 165 = .ok (.dup, 1) := by decide +kernel
theorem dX7_init_166 : decode cX7_init 166 = .ok (.iconst 2, 1) := by decide +kernel
theorem dX7_init_167 : decode cX7_init 167 = .ok (.bipush 56, 2) := by decide +kernel
theorem dX7_init_169 : decode cX7_init 169 = .ok (.iastore, 1) := by decide +kernel
theorem dX7_init_170 : decode cX7_init 170 = .ok (.dup, 1) := by decide +kernel
theorem dX7_init_171 : decode cX7_init 171 = .ok (.iconst 3, 1) := by decide +kernel
theorem dX7_init_172 : decode cX7_init 172 = .ok (.bipush 64, 2) := by decide +kernel
theorem dX7_init_174 : decode cX7_init 174 = .ok (.iastore, 1) := by decide +kernel
theorem dX7_init_175 : decode cX7_init 175 = .ok (.dup, 1) := by decide +kernel
theorem dX7_init_176 : decode cX7_init 176 = .ok (.iconst 4, 1) := by decide +kernel
theorem dX7_init_177 : decode cX7_init 177 = .ok (.bipush 80, 2) := by decide +kernel
theorem dX7_init_179 : decode cX7_init 179 = .ok (.iastore, 1) := by decide +kernel
theorem dX7_init_180 : decode cX7_init 180 = .ok (.dup, 1) := by decide +kernel
theorem dX7_init_181 : decode cX7_init 181 = .ok (.iconst 5, 1) := by decide +kernel
theorem dX7_init_182 : decode cX7_init 182 = .ok (.bipush 96, 2) := by decide +kernel
theorem dX7_init_184 : decode cX7_init 184 = .ok (.iastore, 1) := by decide +kernel
theorem dX7_init_185 : decode cX7_init 185 = .ok (.dup, 1) := by decide +kernel
theorem dX7_init_186 : decode cX7_init 186 = .ok (.bipush 6, 2) := by decide +kernel
theorem dX7_init_188 : decode cX7_init 188 = .ok (.bipush 112, 2) := by decide +kernel
theorem dX7_init_190 : decode cX7_init 190 = .ok (.iastore, 1) := by decide +kernel
theorem dX7_init_191 : decode cX7_init 191 = .ok (.dup, 1) := by decide +kernel
theorem dX7_init_192 : decode cX7_init 192 = .ok (.bipush 7, 2) := by decide +kernel
theorem dX7_init_194 : decode cX7_init 194 = .ok (.sipush 128, 3) := by decide +kernel
theorem dX7_init_197 : decode cX7_init 197 = .ok (.iastore, 1) := by decide +kernel
theorem dX7_init_198 : decode cX7_init 198 = .ok (.dup, 1) := by decide +kernel
theorem dX7_init_199 : decode cX7_init 199 = .ok (.bipush 8, 2) := by decide +kernel
theorem dX7_init_201 : decode cX7_init 201 = .ok (.sipush 160, 3) := by decide +kernel
theorem dX7_init_204 : decode cX7_init 204 = .ok (.iastore, 1) := by decide +kernel
theorem dX7_init_205 : decode cX7_init 205 = .ok (.dup, 1) := by decide +kernel
theorem dX7_init_206 : decode cX7_init 206 = .ok (.bipush 9, 2) := by decide +kernel
theorem dX7_init_208 : decode cX7_init 208 = .ok (.sipush 192, 3) := by decide +kernel
theorem dX7_init_211 : decode cX7_init 211 = .ok (.iastore, 1) := by decide +kernel
theorem dX7_init_212 : decode cX7_init 212 = .ok (.dup, 1) := by decide +kernel
theorem dX7_init_213 : decode cX7_init 213 = .ok (.bipush 10, 2) := by decide +kernel
theorem dX7_init_215 : decode cX7_init 215 = .ok (.sipush 224, 3) := by decide +kernel
theorem dX7_init_218 : decode cX7_init 218 = .ok (.iastore, 1) := by decide +kernel
theorem dX7_init_219 : decode cX7_init 219 = .ok (.dup, 1) := by decide +kernel
theorem dX7_init_220 : decode cX7_init 220 = .ok (.bipush 11, 2) := by decide +kernel
theorem dX7_init_222 : decode cX7_init 222 = .ok (.sipush 256, 3) := by decide +kernel
theorem dX7_init_225 : decode cX7_init 225 = .ok (.iastore, 1) := by decide +kernel
theorem dX7_init_226 : decode cX7_init 226 = .ok (.dup, 1) := by decide +kernel
theorem dX7_init_227 : decode cX7_init 227 = .ok (.bipush 12, 2) := by decide +kernel
theorem dX7_init_229 : decode cX7_init 229 = .ok (.sipush 320, 3) := by decide +kernel
theorem dX7_init_232 : decode cX7_init 232 = .ok (.iastore, 1) := by decide +kernel
theorem dX7_init_233 : decode cX7_init 233 = .ok (.dup, 1) := by decide +kernel
theorem dX7_init_234 : decode cX7_init 234 = .ok (.bipush 13, 2) := by decide +kernel
theorem dX7_init_236 : decode cX7_init 236 = .ok (.sipush 384, 3) := by decide +kernel
theorem dX7_init_239 : decode cX7_init 239 = .ok (.iastore, 1) := by decide +kernel
theorem dX7_init_240 : decode cX7_init 240 = .ok (.putfield 55, 3) := by decide +kernel
theorem dX7_init_243 : decode cX7_init 243 = .ok (.aload_n 0, 1) := by decide +kernel
