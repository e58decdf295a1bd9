set_option maxRecDepth 20000 in
theorem ggX6_init_Jx4a65c_init_da8c8 : GoodIn wsX6_init wsJx4a65c_init_da8c8 := goodIn_r _ [32, 33, 34, 35, 36, 37, 38, 39, 40, 41, 42, 43, 44, 2, 3, 103, 104, 105] (by decide +kernel) (by decide +kernel)
set_option maxRecDepth 20000 in
theorem gX6_init_Jx4a65c_init_da8c8 : GoodIn wsX6_init (wsJx4a65c_init_da8c8) := ggX6_init_Jx4a65c_init_da8c8
set_option maxRecDepth 20000 in
theorem ggX6_init_X3_init : GoodIn wsX6_init wsX3_init := goodIn_r _ [46, 47, 2, 3, 48, 49, 50, 51, 4, 52, 53, 54, 55, 56, 57, 123, 124, 125, 126, 127, 106, 107, 108, 109] (by decide +kernel) (by decide +kernel)
set_option maxRecDepth 20000 in
theorem gX6_init_X3_init_n32 : GoodIn wsX6_init (wsX3_init) := ggX6_init_X3_init
set_option maxRecDepth 20000 in
theorem ggX6_init_X1_init : GoodIn wsX6_init wsX1_init := goodIn_r _ [59, 60, 2, 3, 4, 61, 62, 63, 110, 111, 112, 113, 114] (by decide +kernel) (by decide +kernel)
set_option maxRecDepth 20000 in
theorem gX6_init_X1_init_n39 : GoodIn wsX6_init (wsX1_init) := ggX6_init_X1_init
set_option maxRecDepth 20000 in
theorem ggX6_init_X5_init : GoodIn wsX6_init wsX5_init := goodIn_r _ [66, 67, 2, 3, 4, 68, 69, 70, 71, 24, 72, 73, 74, 75, 76, 77, 78, 79, 80, 81, 82, 83, 115, 116] (by decide +kernel) (by decide +kernel)
set_option maxRecDepth 20000 in
theorem gX6_init_X5_init : GoodIn wsX6_init (wsX5_init) := ggX6_init_X5_init
set_option maxRecDepth 20000 in
theorem ggX6_init_X4_init : GoodIn wsX6_init wsX4_init := goodIn_r _ [86, 87, 2, 3, 4, 88, 89, 90, 91, 92, 117, 118, 119, 120, 121, 122] (by decide +kernel) (by decide +kernel)
set_option maxRecDepth 20000 in
theorem gX6_init_X4_init : GoodIn wsX6_init (wsX4_init) := ggX6_init_X4_init
theorem dX6_init_0 : decode cX6_init 0 = .ok (.aload_n 0, 1) := by decide +kernel
theorem dX6_init_1 : decode cX6_init 1 = .ok (.invokespecial 1, 3) := by decide +kernel
theorem dX6_init_4 : decode cX6_init 4 = .ok (.aload_n 0, 1) := by decide +kernel
theorem dX6_init_5 : decode cX6_init 5 = .ok (.sipush 4000, 3) := by decide +kernel
theorem dX6_init_8 : decode cX6_init 8 = .ok (.newarray .int, 2) := by decide +kernel
theorem dX6_init_10 : decode cX6_init 10 = .ok (.putfield 9, 3) := by decide +kernel
theorem dX6_init_13 : decode cX6_init 13 = .ok (.aload_n 0, 1) := by decide +kernel
theorem dX6_init_14 : decode cX6_init 14 = .ok (.iconst 0, 1) := by decide +kernel
theorem dX6_init_15 : decode cX6_init 15 = .ok (.putfield 13, 3) := by decide +kernel
theorem dX6_init_18 : decode cX6_init 18 = .ok (.aload_n 0, 1) := by decide +kernel
theorem dX6_init_19 : decode cX6_init 19 = .ok (.iconst 0, 1) := by decide +kernel
theorem dX6_init_20 : decode cX6_init 20 = .ok (.putfield 17, 3) := by decide +kernel
theorem dX6_init_23 : decode cX6_init 23 = .ok (.aload_n 0, 1) := by decide +kernel
theorem dX6_init_24 : decode cX6_init 24 = .ok (.new 20, 3) := by decide +kernel
theorem dX6_init_27 : decode cX6_init 27 = .ok (.dup, 1) := by decide +kernel
theorem dX6_init_28 : decode cX6_init 28 = .ok (.invokespecial 22, 3) := by decide +kernel
theorem dX6_init_31 : decode cX6_init 31 = .ok (.putfield 23, 3) := by decide +kernel
theorem dX6_init_34 : decode cX6_init 34 = .ok (.aload_n 0, 1) := by decide +kernel
theorem dX6_init_35 : decode cX6_init 35 = .ok (.iconst 0, 1) := by decide +kernel
theorem dX6_init_36 : decode cX6_init 36 = .ok (.putfield 27, 3) := by decide +kernel
theorem dX6_init_39 : decode cX6_init 39 = .ok (.aload_n 0, 1) := by decide +kernel
theorem dX6_init_40 : decode cX6_init 40 = .ok (.new 30, 3) := by decide +kernel
theorem dX6_init_43 : decode cX6_init 43 = .ok (.dup, 1) := by decide +kernel
theorem dX6_init_44 : decode cX6_init 44 = .ok (.invokespecial 32, 3) := by decide +kernel
theorem dX6_init_47 : decode cX6_init 47 = .ok (.putfield 33, 3) := by decide +kernel
theorem dX6_init_50 : decode cX6_init 50 = .ok (.aload_n 0, 1) := by decide +kernel
theorem dX6_init_51 : decode cX6_init 51 = .ok (.new 37, 3) := by decide +kernel
theorem dX6_init_54 : decode cX6_init 54 = .ok (.dup, 1) := by decide +kernel
theorem dX6_init_55 : decode cX6_init 55 = .ok (.invokespecial 39, 3) := by decide +kernel
theorem dX6_init_58 : decode cX6_init 58 = .ok (.putfield 40, 3) := by decide +kernel
theorem dX6_init_61 : decode cX6_init 61 = .ok (.aload_n 0, 1) := by decide +kernel
theorem dX6_init_62 : decode cX6_init 62 = .ok (.new 37, 3) := by decide +kernel
theorem dX6_init_65 : decode cX6_init 65 = .ok (.dup, 1) := by decide +kernel
theorem dX6_init_66 : decode cX6_init 66 = .ok (.invokespecial 39, 3) := by decide +kernel
theorem dX6_init_69 : decode cX6_init 69 = .ok (.putfield 44, 3) := by decide +kernel
theorem dX6_init_72 : decode cX6_init 72 = .ok (.new 47, 3) := by decide +kernel
theorem dX6_init_75 : decode cX6_init 75 = .ok (.dup, 1) := by decide +kernel
theorem dX6_init_76 : decode cX6_init 76 = .ok (.invokespecial 49, 3) := by decide +kernel
theorem dX6_init_79 : decode cX6_init 79 = .ok (.astore_n 1, 1) := by decide +kernel
theorem dX6_init_80 : decode cX6_init 80 = .ok (.aload_n 0, 1) := by decide +kernel
theorem dX6_init_81 : decode cX6_init 81 = .ok (.new 50, 3) := by decide +kernel
theorem dX6_init_84 : decode cX6_init 84 = .ok (.dup, 1) := by decide +kernel
theorem dX6_init_85 : decode cX6_init 85 = .ok (.aload_n 1, 1) := by decide +kernel
theorem dX6_init_86 : decode cX6_init 86 = .ok (.invokespecial 52, 3) := by decide +kernel
theorem dX6_init_89 : decode cX6_init 89 = .ok (.putfield 55, 3) := by decide +kernel
theorem dX6_init_92 : decode cX6_init 92 = .ok (.aload_n 0, 1) := by decide +kernel
theorem dX6_init_93 : decode cX6_init 93 = .ok (.new 50, 3) := by decide +kernel
theorem dX6_init_96 : decode cX6_init 96 = .ok (.dup, 1) := by decide +kernel
theorem dX6_init_97 : decode cX6_init 97 = .ok (.aload_n 1, 1) := by decide +kernel
theorem dX6_init_98 : decode cX6_init 98 = .ok (.invokespecial 52, 3) := by decide +kernel
theorem dX6_init_101 : decode cX6_init 101 = .ok (.putfield 59, 3) := by decide +kernel
theorem dX6_init_104 : decode cX6_init 104 = .ok (.return_, 1) := by decide +kernel
set_option maxRecDepth 20000 in
theorem ggX6_feed_X6_appendWord : GoodIn wsX6_feed wsX6_appendWord := goodIn_r _ [6, 1, 7, 8, 9, 10, 11, 12, 13, 14, 15, 16, 17] (by decide +kernel) (by decide +kernel)
set_option maxRecDepth 20000 in
theorem gX6_feed_X6_appendWord : GoodIn wsX6_feed (wsV RX6 62 RX6 yX6_appendWord wsX6_appendWord) := goodIn_app (goodIn_of _ (by decide +kernel)) ggX6_feed_X6_appendWord
theorem dX6_feed_0 : decode cX6_feed 0 = .ok (.aload_n 0, 1) := by decide +kernel
theorem dX6_feed_1 : decode cX6_feed 1 = .ok (.getfield 13, 3) := by decide +kernel
theorem dX6_feed_4 : decode cX6_feed 4 = .ok (.bipush 20, 2) := by decide +kernel
theorem dX6_feed_6 : decode cX6_feed 6 = .ok (.iadd, 1) := by decide +kernel
theorem dX6_feed_7 : decode cX6_feed 7 = .ok (.sipush 4000, 3) := by decide +kernel
theorem dX6_feed_10 : decode cX6_feed 10 = .ok (.if_icmp .le 5, 3) := by decide +kernel
theorem dX6_feed_13 : decode cX6_feed 13 = .ok (.iconst (-1), 1) := by decide +kernel
theorem dX6_feed_14 : decode cX6_feed 14 = .ok (.ireturn, 1) := by decide +kernel
theorem dX6_feed_15 : decode cX6_feed 15 = .ok (.aload_n 0, 1) := by decide +kernel
theorem dX6_feed_16 : decode cX6_feed 16 = .ok (.iload_n 1, 1) := by decide +kernel
theorem dX6_feed_17 : decode cX6_feed 17 = .ok (.invokevirtual 62, 3) := by decide +kernel
theorem dX6_feed_20 : decode cX6_feed 20 = .ok (.aload_n 0, 1) := by decide +kernel
theorem dX6_feed_21 : decode cX6_feed 21 = .ok (.iload_n 2, 1) := by decide +kernel
theorem dX6_feed_22 : decode cX6_feed 22 = .ok (.invokevirtual 62, 3) := by decide +kernel
theorem dX6_feed_25 : decode cX6_feed 25 = .ok (.aload_n 0, 1) := by decide +kernel
theorem dX6_feed_26 : decode cX6_feed 26 = .ok (.iload_n 3, 1) := by decide +kernel
theorem dX6_feed_27 : decode cX6_feed 27 = .ok (.invokevirtual 62, 3) := by decide +kernel
theorem dX6_feed_30 : decode cX6_feed 30 = .ok (.aload_n 0, 1) := by decide +kernel
theorem dX6_feed_31 : decode cX6_feed 31 = .ok (.iload 4, 2) := by decide +kernel
theorem dX6_feed_33 : decode cX6_feed 33 = .ok (.invokevirtual 62, 3) := by decide +kernel
theorem dX6_feed_36 : decode cX6_feed 36 = .ok (.aload_n 0, 1) := by decide +kernel
theorem dX6_feed_37 : decode cX6_feed 37 = .ok (.iload 5, 2) := by decide +kernel
theorem dX6_feed_39 : decode cX6_feed 39 = .ok (.invokevirtual 62, 3) := by decide +kernel
theorem dX6_feed_42 : decode cX6_feed 42 = .ok (.aload_n 0, 1) := by decide +kernel
theorem dX6_feed_43 : decode cX6_feed 43 = .ok (.getfield 13, 3) := by decide +kernel
theorem dX6_feed_46 : decode cX6_feed 46 = .ok (.ireturn, 1) := by decide +kernel
theorem dX6_end_0 : decode cX6_end 0 = .ok (.iload_n 1, 1) := by decide +kernel
theorem dX6_end_1 : decode cX6_end 1 = .ok (.aload_n 0, 1) := by decide +kernel
theorem dX6_end_2 : decode cX6_end 2 = .ok (.getfield 13, 3) := by decide +kernel
theorem dX6_end_5 : decode cX6_end 5 = .ok (.if_icmp .gt 11, 3) := by decide +kernel
theorem dX6_end_8 : decode cX6_end 8 = .ok (.iload_n 1, 1) := by decide +kernel
theorem dX6_end_9 : decode cX6_end 9 = .ok (.aload_n 0, 1) := by decide +kernel
theorem dX6_end_10 : decode cX6_end 10 = .ok (.getfield 17, 3) := by decide +kernel
theorem dX6_end_13 : decode cX6_end 13 = .ok (.if_icmp .ge 5, 3) := by decide +kernel
theorem dX6_end_16 : decode cX6_end 16 = .ok (.iconst (-1), 1) := by decide +kernel
theorem dX6_end_17 : decode cX6_end 17 = .ok (.ireturn, 1) := by decide +kernel
theorem dX6_end_18 : decode cX6_end 18 = .ok (.aload_n 0, 1) := by decide +kernel
theorem dX6_end_19 : decode cX6_end 19 = .ok (.iload_n 1, 1) := by decide +kernel
theorem dX6_end_20 : decode cX6_end 20 = .ok (.putfield 13, 3) := by decide +kernel
theorem dX6_end_23 : decode cX6_end 23 = .ok (.iload_n 1, 1) := by decide +kernel
theorem dX6_end_24 : decode cX6_end 24 = .ok (.ireturn, 1) := by decide +kernel
theorem dX6_set_0 : decode cX6_set 0 = .ok (.iload_n 1, 1) := by decide +kernel
theorem dX6_set_1 : decode cX6_set 1 = .ok (.aload_n 0, 1) := by decide +kernel
theorem dX6_set_2 : decode cX6_set 2 = .ok (.getfield 17, 3) := by decide +kernel
theorem dX6_set_5 : decode cX6_set 5 = .ok (.if_icmp .lt 11, 3) := by decide +kernel
theorem dX6_set_8 : decode cX6_set 8 = .ok (.iload_n 1, 1) := by decide +kernel
theorem dX6_set_9 : decode cX6_set 9 = .ok (.aload_n 0, 1) := by decide +kernel
theorem dX6_set_10 : decode cX6_set 10 = .ok (.getfield 13, 3) := by decide +kernel
theorem dX6_set_13 : decode cX6_set 13 = .ok (.if_icmp .lt 5, 3) := by decide +kernel
theorem dX6_set_16 : decode cX6_set 16 = .ok (.iconst (-1), 1) := by decide +kernel
theorem dX6_set_17 : decode cX6_set 17 = .ok (.ireturn, 1) := by decide +kernel
theorem dX6_set_18 : decode cX6_set 18 = .ok (.aload_n 0, 1) := by decide +kernel
theorem dX6_set_19 : decode cX6_set 19 = .ok (.getfield 9, 3) := by decide +kernel
theorem dX6_set_22 : decode cX6_set 22 = .ok (.iload_n 1, 1) := by decide +kernel
theorem dX6_set_23 : decode cX6_set 23 = .ok (.iaload, 1) := by decide +kernel
theorem dX6_set_24 : decode cX6_set 24 = .ok (.istore_n 3, 1) := by decide +kernel
theorem dX6_set_25 : decode cX6_set 25 = .ok (.aload_n 0, 1) := by decide +kernel
theorem dX6_set_26 : decode cX6_set 26 = .ok (.getfield 9, 3) := by decide +kernel
theorem dX6_set_29 : decode cX6_set 29 = .ok (.iload_n 1, 1) := by decide +kernel
theorem dX6_set_30 : decode cX6_set 30 = .ok (.iload_n 2, 1) := by decide +kernel
theorem dX6_set_31 : decode cX6_set 31 = .ok (.sipush 255, 3) := by decide +kernel
theorem dX6_set_34 : decode cX6_set 34 = .ok (.iand, 1) := by decide +kernel
theorem dX6_set_35 : decode cX6_set 35 = .ok (.iastore, 1) := by decide +kernel
theorem dX6_set_36 : decode cX6_set 36 = .ok (.iload_n 3, 1) := by decide +kernel
theorem dX6_set_37 : decode cX6_set 37 = .ok (.ireturn, 1) := by decide +kernel
set_option maxRecDepth 20000 in
theorem ggX6_clear_Jx4a65c_size_8abf5 : GoodIn wsX6_clear wsJx4a65c_size_8abf5 := goodIn_r _ [11, 12, 42, 43, 44] (by decide +kernel) (by decide +kernel)
set_option maxRecDepth 20000 in
theorem gX6_clear_Jx4a65c_size_8abf5 : GoodIn wsX6_clear (wsV RX6 66 RJx4a65c yJx4a65c_size_8abf5 wsJx4a65c_size_8abf5) := goodIn_app (goodIn_of _ (by decide +kernel)) ggX6_clear_Jx4a65c_size_8abf5
set_option maxRecDepth 20000 in
theorem ggX6_clear_Jx4a65c_clear_da8c8 : GoodIn wsX6_clear wsJx4a65c_clear_da8c8 := goodIn_r _ [16, 17, 18, 19, 12, 42, 43, 44] (by decide +kernel) (by decide +kernel)
set_option maxRecDepth 20000 in
theorem gX6_clear_Jx4a65c_clear_da8c8 : GoodIn wsX6_clear (wsV RX6 70 RJx4a65c yJx4a65c_clear_da8c8 wsJx4a65c_clear_da8c8) := goodIn_app (goodIn_of _ (by decide +kernel)) ggX6_clear_Jx4a65c_clear_da8c8
set_option maxRecDepth 20000 in
theorem ggX6_clear_X4_silence : GoodIn wsX6_clear wsX4_silence := goodIn_r _ [24, 25, 26, 27, 28, 29, 30, 31, 45, 46, 47, 48, 49, 50] (by decide +kernel) (by decide +kernel)
set_option maxRecDepth 20000 in
theorem gX6_clear_X4_silence : GoodIn wsX6_clear (wsV RX6 73 RX4 yX4_silence wsX4_silence) := goodIn_app (goodIn_of _ (by decide +kernel)) ggX6_clear_X4_silence
theorem dX6_clear_0 : decode cX6_clear 0 = .ok (.aload_n 0, 1) := by decide +kernel
theorem dX6_clear_1 : decode cX6_clear 1 = .ok (.getfield 23, 3) := by decide +kernel
theorem dX6_clear_4 : decode cX6_clear 4 = .ok (.invokevirtual 66, 3) := by decide +kernel
theorem dX6_clear_7 : decode cX6_clear 7 = .ok (.istore_n 1, 1) := by decide +kernel
theorem dX6_clear_8 : decode cX6_clear 8 = .ok (.aload_n 0, 1) := by decide +kernel
theorem dX6_clear_9 : decode cX6_clear 9 = .ok (.iconst 0, 1) := by decide +kernel
theorem dX6_clear_10 : decode cX6_clear 10 = .ok (.putfield 13, 3) := by decide +kernel
theorem dX6_clear_13 : decode cX6_clear 13 = .ok (.aload_n 0, 1) := by decide +kernel
theorem dX6_clear_14 : decode cX6_clear 14 = .ok (.iconst 0, 1) := by decide +kernel
theorem dX6_clear_15 : decode cX6_clear 15 = .ok (.putfield 17, 3) := by decide +kernel
theorem dX6_clear_18 : decode cX6_clear 18 = .ok (.aload_n 0, 1) := by decide +kernel
theorem dX6_clear_19 : decode cX6_clear 19 = .ok (.getfield 23, 3) := by decide +kernel
theorem dX6_clear_22 : decode cX6_clear 22 = .ok (.invokevirtual 70, 3) := by decide +kernel
theorem dX6_clear_25 : decode cX6_clear 25 = .ok (.aload_n 0, 1) := by decide +kernel
theorem dX6_clear_26 : decode cX6_clear 26 = .ok (.iconst 0, 1) := by decide +kernel
theorem dX6_clear_27 : decode cX6_clear 27 = .ok (.putfield 27, 3) := by decide +kernel
theorem dX6_clear_30 : decode cX6_clear 30 = .ok (.aload_n 0, 1) := by decide +kernel
theorem dX6_clear_31 : decode cX6_clear 31 = .ok (.getfield 55, 3) := by decide +kernel
theorem dX6_clear_34 : decode cX6_clear 34 = .ok (.invokevirtual 73, 3) := by decide +kernel
theorem dX6_clear_37 : decode cX6_clear 37 = .ok (.aload_n 0, 1) := by decide +kernel
theorem dX6_clear_38 : decode cX6_clear 38 = .ok (.getfield 59, 3) := by decide +kernel
theorem dX6_clear_41 : decode cX6_clear 41 = .ok (.invokevirtual 73, 3) := by decide +kernel
theorem dX6_clear_44 : decode cX6_clear 44 = .ok (.iload_n 1, 1) := by decide +kernel
theorem dX6_clear_45 : decode cX6_clear 45 = .ok (.ireturn, 1) := by decide +kernel
set_option maxRecDepth 20000 in
theorem ggX6_decode_X6_passFrame : GoodIn wsX6_decode wsX6_passFrame := goodIn_r _ [5, 6, 7, 8, 9, 10, 11, 12, 13, 14, 15, 16, 17, 18, 19, 20, 21, 22, 23, 4, 24, 25, 26, 27, 28, 29, 30, 31, 32, 33, 34, 35, 36, 37, 38, 39, 40, 41, 42, 43, 44, 45, 46, 47, 48, 49, 50, 51, 52, 53, 54, 55, 56, 57, 58, 59, 60, 61, 62, 63, 64, 65, 66, 67, 68, 69, 70, 71, 72, 73, 74, 75, 76, 77, 78, 79, 80, 81, 82, 83, 84, 85, 86, 87, 88, 89, 90, 91, 92, 93, 94, 95, 96, 97, 98, 99, 100, 101, 102, 103, 104, 105, 106, 107, 108, 109, 110, 111, 112, 113, 114, 115, 116, 117, 118, 119, 120, 121, 122, 123, 124, 125, 126, 127, 128, 129, 130, 131, 132, 133, 134, 135, 136, 137, 138, 139, 140, 141, 142, 143, 144, 145, 146, 147, 148, 149, 150, 151, 152, 153, 154, 155, 156, 157, 158, 159, 160, 161, 162, 163, 164, 165, 166, 167, 168, 169, 170, 171, 172, 173, 174, 175, 176, 177, 178, 179, 180, 181, 182, 183, 184, 185, 186, 187, 188, 189, 190, 191, 192, 193, 194, 195, 196, 197, 198, 199, 200, 201, 202, 203, 204, 205, 206, 207, 208, 209, 210, 211, 212, 213, 214, 215, 216, 217, 218, 219, 220, 221, 222, 223, 224, 225, 226, 227, 228, 229, 230, 231, 232, 233, 234, 235, 236, 237, 238, 239, 240, 241, 242, 243, 244, 245, 246, 247, 248, 249, 250, 251, 252, 253, 254, 255, 256, 257, 258, 259, 260, 261, 262, 263, 264, 265, 266, 267, 268, 269, 270, 271, 272, 273, 274, 275, 276, 277, 278, 279, 280, 281, 282, 283, 284, 285, 286, 287, 288, 289, 290, 291, 292, 293, 294, 295, 296, 297, 298, 299, 300, 301, 302, 303, 304, 305, 306, 307, 308, 309, 310, 311, 312, 313, 314, 315, 316, 317, 318, 319, 320, 321, 322, 323, 324, 325, 326, 327, 328, 329, 330, 331, 332, 333, 334, 335, 336, 337, 338, 339, 340, 341, 342, 343, 344, 345, 346, 347, 348, 349, 350, 351, 352, 353, 354, 355, 356, 357, 358, 359, 360, 361, 362, 363, 364, 365, 366, 367, 368, 369, 370, 371, 372, 373, 374, 375, 376, 377, 378, 379, 380, 381, 382, 383, 384, 385, 386, 387, 388, 389, 390, 391, 392, 393, 394, 395, 396, 397, 398, 399] (by decide +kernel) (by decide +kernel)
set_option maxRecDepth 20000 in
theorem gX6_decode_X6_passFrame : GoodIn wsX6_decode (wsV RX6 76 RX6 yX6_passFrame wsX6_passFrame) := goodIn_app (goodIn_of _ (by decide +kernel)) ggX6_decode_X6_passFrame
theorem dX6_decode_0 : decode cX6_decode 0 = .ok (.iconst 0, 1) := by decide +kernel
theorem dX6_decode_1 : decode cX6_decode 1 = .ok (.istore_n 1, 1) := by decide +kernel
theorem dX6_decode_2 : decode cX6_decode 2 = .ok (.iload_n 1, 1) := by decide +kernel
theorem dX6_decode_3 : decode cX6_decode 3 = .ok (.bipush 40, 2) := by decide +kernel
theorem dX6_decode_5 : decode cX6_decode 5 = .ok (.if_icmp .ge 18, 3) := by decide +kernel
theorem dX6_decode_8 : decode cX6_decode 8 = .ok (.aload_n 0, 1) := by decide +kernel
theorem dX6_decode_9 : decode cX6_decode 9 = .ok (.invokevirtual 76, 3) := by decide +kernel
theorem dX6_decode_12 : decode cX6_decode 12 = .ok (.ifCond .ne 5, 3) := by decide +kernel
theorem dX6_decode_15 : decode cX6_decode 15 = .ok (.iload_n 1, 1) := by decide +kernel
theorem dX6_decode_16 : decode cX6_decode 16 = .ok (.ireturn, 1) := by decide +kernel
theorem dX6_decode_17 : decode cX6_decode 17 = .ok (.iinc 1 1, 3) := by decide +kernel
theorem dX6_decode_20 : decode cX6_decode 20 = .ok (.goto (-18), 3) := by decide +kernel
theorem dX6_decode_23 : decode cX6_decode 23 = .ok (.bipush 40, 2) := by decide +kernel
theorem dX6_decode_25 : decode cX6_decode 25 = .ok (.ireturn, 1) := by decide +kernel
set_option maxRecDepth 20000 in
theorem ggX6_frame_Jx4a65c_size_8abf5 : GoodIn wsX6_frame wsJx4a65c_size_8abf5 := goodIn_r _ [7, 8, 54, 55, 56] (by decide +kernel) (by decide +kernel)
set_option maxRecDepth 20000 in
theorem gX6_frame_Jx4a65c_size_8abf5 : GoodIn wsX6_frame (wsV RX6 66 RJx4a65c yJx4a65c_size_8abf5 wsJx4a65c_size_8abf5) := goodIn_app (goodIn_of _ (by decide +kernel)) ggX6_frame_Jx4a65c_size_8abf5
set_option maxRecDepth 20000 in
theorem ggX6_frame_Jx4a65c_get_915e3 : GoodIn wsX6_frame wsJx4a65c_get_915e3 := goodIn_r _ [12, 8, 13, 14, 15, 16, 17, 18, 19, 20, 21, 22, 23, 6, 24, 25, 54, 55, 56] (by decide +kernel) (by decide +kernel)
set_option maxRecDepth 20000 in
theorem gX6_frame_Jx4a65c_get_915e3 : GoodIn wsX6_frame (wsV RX6 80 RJx4a65c yJx4a65c_get_915e3 wsJx4a65c_get_915e3) := goodIn_app (goodIn_of _ (by decide +kernel)) ggX6_frame_Jx4a65c_get_915e3
set_option maxRecDepth 20000 in
theorem ggX6_frame_X2_tell : GoodIn wsX6_frame wsX2_tell := goodIn_r _ [30, 31, 32, 33, 34, 35, 36, 37, 38, 39, 40, 41, 42, 29, 43, 57, 58, 59, 60, 61, 62, 63, 64, 65, 66, 67, 68] (by decide +kernel) (by decide +kernel)
set_option maxRecDepth 20000 in
theorem gX6_frame_X2_tell : GoodIn wsX6_frame (wsV RX6 86 RX2 yX2_tell wsX2_tell) := goodIn_app (goodIn_of _ (by decide +kernel)) ggX6_frame_X2_tell
theorem dX6_frame_0 : decode cX6_frame 0 = .ok (.iload_n 1, 1) := by decide +kernel
theorem dX6_frame_1 : decode cX6_frame 1 = .ok (.ifCond .lt 14, 3) := by decide +kernel
theorem dX6_frame_4 : decode cX6_frame 4 = .ok (.iload_n 1, 1) := by decide +kernel
theorem dX6_frame_5 : decode cX6_frame 5 = .ok (.aload_n 0, 1) := by decide +kernel
theorem dX6_frame_6 : decode cX6_frame 6 = .ok (.getfield 23, 3) := by decide +kernel
theorem dX6_frame_9 : decode cX6_frame 9 = .ok (.invokevirtual 66, 3) := by decide +kernel
theorem dX6_frame_12 : decode cX6_frame 12 = .ok (.if_icmp .lt 5, 3) := by decide +kernel
theorem dX6_frame_15 : decode cX6_frame 15 = .ok (.iconst (-1), 1) := by decide +kernel
theorem dX6_frame_16 : decode cX6_frame 16 = .ok (.ireturn, 1) := by decide +kernel
theorem dX6_frame_17 : decode cX6_frame 17 = .ok (.aload_n 0, 1) := by decide +kernel
theorem dX6_frame_18 : decode cX6_frame 18 = .ok (.getfield 23, 3) := by decide +kernel
theorem dX6_frame_21 : decode cX6_frame 21 = .ok (.iload_n 1, 1) := by decide +kernel
theorem dX6_frame_22 : decode cX6_frame 22 = .ok (.invokevirtual 80, 3) := by decide +kernel
theorem dX6_frame_25 : decode cX6_frame 25 = .ok (.checkcast 84, 3) := by decide +kernel
theorem dX6_frame_28 : decode cX6_frame 28 = .ok (.iload_n 2, 1) := by decide +kernel
theorem dX6_frame_29 : decode cX6_frame 29 = .ok (.invokevirtual 86, 3) := by decide +kernel
theorem dX6_frame_32 : decode cX6_frame 32 = .ok (.ireturn, 1) := by decide +kernel
set_option maxRecDepth 20000 in
theorem ggX6_band_X6_hasBand : GoodIn wsX6_band wsX6_hasBand := goodIn_r _ [8, 9, 1, 10, 15, 16, 17, 18, 19, 20, 21, 22, 23, 24, 25, 26, 27, 28, 29] (by decide +kernel) (by decide +kernel)
set_option maxRecDepth 20000 in
theorem gX6_band_X6_hasBand : GoodIn wsX6_band (wsV RX6 90 RX6 yX6_hasBand wsX6_hasBand) := goodIn_app (goodIn_of _ (by decide +kernel)) ggX6_band_X6_hasBand
set_option maxRecDepth 20000 in
theorem ggX6_band_X1_rowIndex : GoodIn wsX6_band wsX1_rowIndex := goodIn_r _ [14] (by decide +kernel) (by decide +kernel)
set_option maxRecDepth 20000 in
theorem gX6_band_X1_rowIndex : GoodIn wsX6_band (va_wsS RX6 100 yX1_rowIndex wsX1_rowIndex) := goodIn_app (goodIn_of _ (by decide +kernel)) ggX6_band_X1_rowIndex
theorem dX6_band_0 : decode cX6_band 0 = .ok (.aload_n 0, 1) := by decide +kernel
theorem dX6_band_1 : decode cX6_band 1 = .ok (.iload_n 1, 1) := by decide +kernel
theorem dX6_band_2 : decode cX6_band 2 = .ok (.iload_n 2, 1) := by decide +kernel
theorem dX6_band_3 : decode cX6_band 3 = .ok (.invokevirtual 90, 3) := by decide +kernel
theorem dX6_band_6 : decode cX6_band 6 = .ok (.ifCond .eq 18, 3) := by decide +kernel
theorem dX6_band_9 : decode cX6_band 9 = .ok (.iload_n 3, 1) := by decide +kernel
theorem dX6_band_10 : decode cX6_band 10 = .ok (.ifCond .lt 14, 3) := by decide +kernel
theorem dX6_band_13 : decode cX6_band 13 = .ok (.iload_n 3, 1) := by decide +kernel
theorem dX6_band_14 : decode cX6_band 14 = .ok (.aload_n 0, 1) := by decide +kernel
theorem dX6_band_15 : decode cX6_band 15 = .ok (.getfield 40, 3) := by decide +kernel
theorem dX6_band_18 : decode cX6_band 18 = .ok (.getfield 94, 3) := by decide +kernel
theorem dX6_band_21 : decode cX6_band 21 = .ok (.if_icmp .lt 5, 3) := by decide +kernel
theorem dX6_band_24 : decode cX6_band 24 = .ok (.iconst 0, 1) := by decide +kernel
theorem dX6_band_25 : decode cX6_band 25 = .ok (.ireturn, 1) := by decide +kernel
theorem dX6_band_26 : decode cX6_band 26 = .ok (.aload_n 0, 1) := by decide +kernel
theorem dX6_band_27 : decode cX6_band 27 = .ok (.getfield 40, 3) := by decide +kernel
theorem dX6_band_30 : decode cX6_band 30 = .ok (.getfield 97, 3) := by decide +kernel
theorem dX6_band_33 : decode cX6_band 33 = .ok (.iload_n 1, 1) := by decide +kernel
theorem dX6_band_34 : decode cX6_band 34 = .ok (.iload_n 3, 1) := by decide +kernel
theorem dX6_band_35 : decode cX6_band 35 = .ok (.invokestatic 100, 3) := by decide +kernel
theorem dX6_band_38 : decode cX6_band 38 = .ok (.iload_n 2, 1) := by decide +kernel
theorem dX6_band_39 : decode cX6_band 39 = .ok (.iadd, 1) := by decide +kernel
theorem dX6_band_40 : decode cX6_band 40 = .ok (.iaload, 1) := by decide +kernel
theorem dX6_band_41 : decode cX6_band 41 = .ok (.ireturn, 1) := by decide +kernel
set_option maxRecDepth 20000 in
theorem ggX6_steps_X6_hasBand : GoodIn wsX6_steps wsX6_hasBand := goodIn_r _ [7, 8, 1, 9, 14, 15, 16, 17, 18, 19, 20, 21, 22, 23, 24, 25, 26, 27, 28] (by decide +kernel) (by decide +kernel)
set_option maxRecDepth 20000 in
theorem gX6_steps_X6_hasBand : GoodIn wsX6_steps (wsV RX6 90 RX6 yX6_hasBand wsX6_hasBand) := goodIn_app (goodIn_of _ (by decide +kernel)) ggX6_steps_X6_hasBand
set_option maxRecDepth 20000 in
theorem ggX6_steps_X1_bandIndex : GoodIn wsX6_steps wsX1_bandIndex := goodIn_r _ [13] (by decide +kernel) (by decide +kernel)
set_option maxRecDepth 20000 in
theorem gX6_steps_X1_bandIndex : GoodIn wsX6_steps (va_wsS RX6 107 yX1_bandIndex wsX1_bandIndex) := goodIn_app (goodIn_of _ (by decide +kernel)) ggX6_steps_X1_bandIndex
theorem dX6_steps_0 : decode cX6_steps 0 = .ok (.aload_n 0, 1) := by decide +kernel
theorem dX6_steps_1 : decode cX6_steps 1 = .ok (.iload_n 1, 1) := by decide +kernel
theorem dX6_steps_2 : decode cX6_steps 2 = .ok (.iload_n 2, 1) := by decide +kernel
theorem dX6_steps_3 : decode cX6_steps 3 = .ok (.invokevirtual 90, 3) := by decide +kernel
theorem dX6_steps_6 : decode cX6_steps 6 = .ok (.ifCond .ne 5, 3) := by decide +kernel
theorem dX6_steps_9 : decode cX6_steps 9 = .ok (.iconst (-1), 1) := by decide +kernel
theorem dX6_steps_10 : decode cX6_steps 10 = .ok (.ireturn, 1) := by decide +kernel
theorem dX6_steps_11 : decode cX6_steps 11 = .ok (.aload_n 0, 1) := by decide +kernel
theorem dX6_steps_12 : decode cX6_steps 12 = .ok (.getfield 40, 3) := by decide +kernel
theorem dX6_steps_15 : decode cX6_steps 15 = .ok (.getfield 104, 3) := by decide +kernel
theorem dX6_steps_18 : decode cX6_steps 18 = .ok (.iload_n 1, 1) := by decide +kernel
theorem dX6_steps_19 : decode cX6_steps 19 = .ok (.iload_n 2, 1) := by decide +kernel
theorem dX6_steps_20 : decode cX6_steps 20 = .ok (.invokestatic 107, 3) := by decide +kernel
theorem dX6_steps_23 : decode cX6_steps 23 = .ok (.iaload, 1) := by decide +kernel
theorem dX6_steps_24 : decode cX6_steps 24 = .ok (.ireturn, 1) := by decide +kernel
set_option maxRecDepth 20000 in
theorem ggX6_factor_X6_hasBand : GoodIn wsX6_factor wsX6_hasBand := goodIn_r _ [8, 9, 1, 10, 15, 16, 17, 18, 19, 20, 21, 22, 23, 24, 25, 26, 27, 28, 29] (by decide +kernel) (by decide +kernel)
set_option maxRecDepth 20000 in
theorem gX6_factor_X6_hasBand : GoodIn wsX6_factor (wsV RX6 90 RX6 yX6_hasBand wsX6_hasBand) := goodIn_app (goodIn_of _ (by decide +kernel)) ggX6_factor_X6_hasBand
set_option maxRecDepth 20000 in
theorem ggX6_factor_X1_bandIndex : GoodIn wsX6_factor wsX1_bandIndex := goodIn_r _ [14] (by decide +kernel) (by decide +kernel)
set_option maxRecDepth 20000 in
theorem gX6_factor_X1_bandIndex : GoodIn wsX6_factor (va_wsS RX6 107 yX1_bandIndex wsX1_bandIndex) := goodIn_app (goodIn_of _ (by decide +kernel)) ggX6_factor_X1_bandIndex
theorem dX6_factor_0 : decode cX6_factor 0 = .ok (.aload_n 0, 1) := by decide +kernel
theorem dX6_factor_1 : decode cX6_factor 1 = .ok (.iload_n 1, 1) := by decide +kernel
theorem dX6_factor_2 : decode cX6_factor 2 = .ok (.iload_n 2, 1) := by decide +kernel
theorem dX6_factor_3 : decode cX6_factor 3 = .ok (.invokevirtual 90, 3) := by decide +kernel
theorem dX6_factor_6 : decode cX6_factor 6 = .ok (.ifCond .eq 12, 3) := by decide +kernel
theorem dX6_factor_9 : decode cX6_factor 9 = .ok (.iload_n 3, 1) := by decide +kernel
theorem dX6_factor_10 : decode cX6_factor 10 = .ok (.ifCond .lt 8, 3) := by decide +kernel
theorem dX6_factor_13 : decode cX6_factor 13 = .ok (.iload_n 3, 1) := by decide +kernel
theorem dX6_factor_14 : decode cX6_factor 14 = .ok (.iconst 3, 1) := by decide +kernel
theorem dX6_factor_15 : decode cX6_factor 15 = .ok (.if_icmp .lt 5, 3) := by decide +kernel
theorem dX6_factor_18 : decode cX6_factor 18 = .ok (.iconst (-1), 1) := by decide +kernel
theorem dX6_factor_19 : decode cX6_factor 19 = .ok (.ireturn, 1) := by decide +kernel
theorem dX6_factor_20 : decode cX6_factor 20 = .ok (.iload_n 1, 1) := by decide +kernel
theorem dX6_factor_21 : decode cX6_factor 21 = .ok (.iload_n 2, 1) := by decide +kernel
theorem dX6_factor_22 : decode cX6_factor 22 = .ok (.invokestatic 107, 3) := by decide +kernel
theorem dX6_factor_25 : decode cX6_factor 25 = .ok (.istore 4, 2) := by decide +kernel
theorem dX6_factor_27 : decode cX6_factor 27 = .ok (.aload_n 0, 1) := by decide +kernel
theorem dX6_factor_28 : decode cX6_factor 28 = .ok (.getfield 40, 3) := by decide +kernel
theorem dX6_factor_31 : decode cX6_factor 31 = .ok (.getfield 104, 3) := by decide +kernel
theorem dX6_factor_34 : decode cX6_factor 34 = .ok (.iload 4, 2) := by decide +kernel
theorem dX6_factor_36 : decode cX6_factor 36 = .ok (.iaload, 1) := by decide +kernel
theorem dX6_factor_37 : decode cX6_factor 37 = .ok (.ifCond .ne 5, 3) := by decide +kernel
theorem dX6_factor_40 : decode cX6_factor 40 = .ok (.iconst (-1), 1) := by decide +kernel
theorem dX6_factor_41 : decode cX6_factor 41 = .ok (.ireturn, 1) := by decide +kernel
theorem dX6_factor_42 : decode cX6_factor 42 = .ok (.aload_n 0, 1) := by decide +kernel
theorem dX6_factor_43 : decode cX6_factor 43 = .ok (.getfield 40, 3) := by decide +kernel
theorem dX6_factor_46 : decode cX6_factor 46 = .ok (.getfield 110, 3) := by decide +kernel
theorem dX6_factor_49 : decode cX6_factor 49 = .ok (.iload 4, 2) := by decide +kernel
theorem dX6_factor_51 : decode cX6_factor 51 = .ok (.iconst 3, 1) := by decide +kernel
theorem dX6_factor_52 : decode cX6_factor 52 = .ok (.imul, 1) := by decide +kernel
theorem dX6_factor_53 : decode cX6_factor 53 = .ok (.iload_n 3, 1) := by decide +kernel
theorem dX6_factor_54 : decode cX6_factor 54 = .ok (.iadd, 1) := by decide +kernel
theorem dX6_factor_55 : decode cX6_factor 55 = .ok (.iaload, 1) := by decide +kernel
theorem dX6_factor_56 : decode cX6_factor 56 = .ok (.ireturn, 1) := by decide +kernel
set_option maxRecDepth 20000 in
theorem ggX6_pcm_X4_sampleAt : GoodIn wsX6_pcm wsX4_sampleAt := goodIn_r _ [7, 8, 9, 20, 21, 22, 23, 24, 25] (by decide +kernel) (by decide +kernel)
set_option maxRecDepth 20000 in
theorem gX6_pcm_X4_sampleAt : GoodIn wsX6_pcm (wsV RX6 113 RX4 yX4_sampleAt wsX4_sampleAt) := goodIn_app (goodIn_of _ (by decide +kernel)) ggX6_pcm_X4_sampleAt
theorem dX6_pcm_0 : decode cX6_pcm 0 = .ok (.iload_n 1, 1) := by decide +kernel
theorem dX6_pcm_1 : decode cX6_pcm 1 = .ok (.ifCond .ne 12, 3) := by decide +kernel
theorem dX6_pcm_4 : decode cX6_pcm 4 = .ok (.aload_n 0, 1) := by decide +kernel
theorem dX6_pcm_5 : decode cX6_pcm 5 = .ok (.getfield 55, 3) := by decide +kernel
theorem dX6_pcm_8 : decode cX6_pcm 8 = .ok (.iload_n 2, 1) := by decide +kernel
theorem dX6_pcm_9 : decode cX6_pcm 9 = .ok (.invokevirtual 113, 3) := by decide +kernel
theorem dX6_pcm_12 : decode cX6_pcm 12 = .ok (.ireturn, 1) := by decide +kernel
theorem dX6_pcm_13 : decode cX6_pcm 13 = .ok (.iload_n 1, 1) := by decide +kernel
theorem dX6_pcm_14 : decode cX6_pcm 14 = .ok (.iconst 1, 1) := by decide +kernel
theorem dX6_pcm_15 : decode cX6_pcm 15 = .ok (.if_icmp .ne 14, 3) := by decide +kernel
theorem dX6_pcm_18 : decode cX6_pcm 18 = .ok (.aload_n 0, 1) := by decide +kernel
theorem dX6_pcm_19 : decode cX6_pcm 19 = .ok (.getfield 59, 3) := by decide +kernel
theorem dX6_pcm_22 : decode cX6_pcm 22 = .ok (.iload_n 2, 1) := by decide +kernel
theorem dX6_pcm_23 : decode cX6_pcm 23 = .ok (.invokevirtual 113, 3) := by decide +kernel
theorem dX6_pcm_26 : decode cX6_pcm 26 = .ok (.goto 4, 3) := by decide +kernel
theorem dX6_pcm_29 : decode cX6_pcm 29 = .ok (.iconst 0, 1) := by decide +kernel
theorem dX6_pcm_30 : decode cX6_pcm 30 = .ok (.ireturn, 1) := by decide +kernel
set_option maxRecDepth 20000 in
theorem ggX6_sum_X4_weightedSum : GoodIn wsX6_sum wsX4_weightedSum := goodIn_r _ [8, 9, 10, 11, 12, 13, 14, 15, 16, 7, 17, 18, 29, 30, 31, 32, 33, 34] (by decide +kernel) (by decide +kernel)
set_option maxRecDepth 20000 in
theorem gX6_sum_X4_weightedSum : GoodIn wsX6_sum (wsV RX6 118 RX4 yX4_weightedSum wsX4_weightedSum) := goodIn_app (goodIn_of _ (by decide +kernel)) ggX6_sum_X4_weightedSum
theorem dX6_sum_0 : decode cX6_sum 0 = .ok (.iload_n 2, 1) := by decide +kernel
theorem dX6_sum_1 : decode cX6_sum 1 = .ok (.ifCond .lt 15, 3) := by decide +kernel
theorem dX6_sum_4 : decode cX6_sum 4 = .ok (.iload_n 3, 1) := by decide +kernel
theorem dX6_sum_5 : decode cX6_sum 5 = .ok (.i2l, 1) := by decide +kernel
theorem dX6_sum_6 : decode cX6_sum 6 = .ok (.iload_n 2, 1) := by decide +kernel
theorem dX6_sum_7 : decode cX6_sum 7 = .ok (.i2l, 1) := by decide +kernel
theorem dX6_sum_8 : decode cX6_sum 8 = .ok (.ldc2_w 116, 3) := by decide +kernel
theorem dX6_sum_11 : decode cX6_sum 11 = .ok (.ladd, 1) := by decide +kernel
theorem dX6_sum_12 : decode cX6_sum 12 = .ok (.lcmp, 1) := by decide +kernel
theorem dX6_sum_13 : decode cX6_sum 13 = .ok (.ifCond .le 5, 3) := by decide +kernel
theorem dX6_sum_16 : decode cX6_sum 16 = .ok (.iconst 0, 1) := by decide +kernel
theorem dX6_sum_17 : decode cX6_sum 17 = .ok (.ireturn, 1) := by decide +kernel
theorem dX6_sum_18 : decode cX6_sum 18 = .ok (.iload_n 1, 1) := by decide +kernel
theorem dX6_sum_19 : decode cX6_sum 19 = .ok (.ifCond .ne 13, 3) := by decide +kernel
theorem dX6_sum_22 : decode cX6_sum 22 = .ok (.aload_n 0, 1) := by decide +kernel
theorem dX6_sum_23 : decode cX6_sum 23 = .ok (.getfield 55, 3) := by decide +kernel
theorem dX6_sum_26 : decode cX6_sum 26 = .ok (.iload_n 2, 1) := by decide +kernel
theorem dX6_sum_27 : decode cX6_sum 27 = .ok (.iload_n 3, 1) := by decide +kernel
theorem dX6_sum_28 : decode cX6_sum 28 = .ok (.invokevirtual 118, 3) := by decide +kernel
theorem dX6_sum_31 : decode cX6_sum 31 = .ok (.ireturn, 1) := by decide +kernel
theorem dX6_sum_32 : decode cX6_sum 32 = .ok (.iload_n 1, 1) := by decide +kernel
theorem dX6_sum_33 : decode cX6_sum 33 = .ok (.iconst 1, 1) := by decide +kernel
theorem dX6_sum_34 : decode cX6_sum 34 = .ok (.if_icmp .ne 15, 3) := by decide +kernel
theorem dX6_sum_37 : decode cX6_sum 37 = .ok (.aload_n 0, 1) := by decide +kernel
theorem dX6_sum_38 : decode cX6_sum 38 = .ok (.getfield 59, 3) := by decide +kernel
theorem dX6_sum_41 : decode cX6_sum 41 = .ok (.iload_n 2, 1) := by decide +kernel
theorem dX6_sum_42 : decode cX6_sum 42 = .ok (.iload_n 3, 1) := by decide +kernel
theorem dX6_sum_43 : decode cX6_sum 43 = .ok (.invokevirtual 118, 3) := by decide +kernel
theorem dX6_sum_46 : decode cX6_sum 46 = .ok (.goto 4, 3) := by decide +kernel
theorem dX6_sum_49 : decode cX6_sum 49 = .ok (.iconst 0, 1) := by decide +kernel
theorem dX6_sum_50 : decode cX6_sum 50 = .ok (.ireturn, 1) := by decide +kernel
set_option maxRecDepth 20000 in
theorem ggX6_memory_X4_numberAt : GoodIn wsX6_memory wsX4_numberAt := goodIn_r _ [7, 8, 9, 20, 21, 22, 23, 24, 25] (by decide +kernel) (by decide +kernel)
set_option maxRecDepth 20000 in
theorem gX6_memory_X4_numberAt : GoodIn wsX6_memory (wsV RX6 121 RX4 yX4_numberAt wsX4_numberAt) := goodIn_app (goodIn_of _ (by decide +kernel)) ggX6_memory_X4_numberAt
theorem dX6_memory_0 : decode cX6_memory 0 = .ok (.iload_n 1, 1) := by decide +kernel
theorem dX6_memory_1 : decode cX6_memory 1 = .ok (.ifCond .ne 12, 3) := by decide +kernel
theorem dX6_memory_4 : decode cX6_memory 4 = .ok (.aload_n 0, 1) := by decide +kernel
theorem dX6_memory_5 : decode cX6_memory 5 = .ok (.getfield 55, 3) := by decide +kernel
theorem dX6_memory_8 : decode cX6_memory 8 = .ok (.iload_n 2, 1) := by decide +kernel
theorem dX6_memory_9 : decode cX6_memory 9 = .ok (.invokevirtual 121, 3) := by decide +kernel
theorem dX6_memory_12 : decode cX6_memory 12 = .ok (.ireturn, 1) := by decide +kernel
theorem dX6_memory_13 : decode cX6_memory 13 = .ok (.iload_n 1, 1) := by decide +kernel
theorem dX6_memory_14 : decode cX6_memory 14 = .ok (.iconst 1, 1) := by decide +kernel
theorem dX6_memory_15 : decode cX6_memory 15 = .ok (.if_icmp .ne 14, 3) := by decide +kernel
theorem dX6_memory_18 : decode cX6_memory 18 = .ok (.aload_n 0, 1) := by decide +kernel
theorem dX6_memory_19 : decode cX6_memory 19 = .ok (.getfield 59, 3) := by decide +kernel
theorem dX6_memory_22 : decode cX6_memory 22 = .ok (.iload_n 2, 1) := by decide +kernel
theorem dX6_memory_23 : decode cX6_memory 23 = .ok (.invokevirtual 121, 3) := by decide +kernel
theorem dX6_memory_26 : decode cX6_memory 26 = .ok (.goto 4, 3) := by decide +kernel
theorem dX6_memory_29 : decode cX6_memory 29 = .ok (.iconst 0, 1) := by decide +kernel
theorem dX6_memory_30 : decode cX6_memory 30 = .ok (.ireturn, 1) := by decide +kernel
set_option maxRecDepth 20000 in
theorem ggX6_count_Jx4a65c_size_8abf5 : GoodIn wsX6_count wsJx4a65c_size_8abf5 := goodIn_r _ [12, 13, 30, 31, 32] (by decide +kernel) (by decide +kernel)
set_option maxRecDepth 20000 in
theorem gX6_count_Jx4a65c_size_8abf5 : GoodIn wsX6_count (wsV RX6 66 RJx4a65c yJx4a65c_size_8abf5 wsJx4a65c_size_8abf5) := goodIn_app (goodIn_of _ (by decide +kernel)) ggX6_count_Jx4a65c_size_8abf5
theorem dX6_count_0 : decode cX6_count 0 = .ok (.iload_n 1, 1) := by decide +kernel
theorem dX6_count_1 : decode cX6_count 1 = .ok (.tableswitch 78 0 5 #[39, 44, 49, 57, 62, 70], 39) := by decide +kernel
theorem dX6_count_40 : decode cX6_count 40 = .ok (.aload_n 0, 1) := by decide +kernel
theorem dX6_count_41 : decode cX6_count 41 = .ok (.getfield 13, 3) := by decide +kernel
theorem dX6_count_44 : decode cX6_count 44 = .ok (.ireturn, 1) := by decide +kernel
theorem dX6_count_45 : decode cX6_count 45 = .ok (.aload_n 0, 1) := by decide +kernel
theorem dX6_count_46 : decode cX6_count 46 = .ok (.getfield 17, 3) := by decide +kernel
theorem dX6_count_49 : decode cX6_count 49 = .ok (.ireturn, 1) := by decide +kernel
theorem dX6_count_50 : decode cX6_count 50 = .ok (.aload_n 0, 1) := by decide +kernel
theorem dX6_count_51 : decode cX6_count 51 = .ok (.getfield 23, 3) := by decide +kernel
theorem dX6_count_54 : decode cX6_count 54 = .ok (.invokevirtual 66, 3) := by decide +kernel
theorem dX6_count_57 : decode cX6_count 57 = .ok (.ireturn, 1) := by decide +kernel
theorem dX6_count_58 : decode cX6_count 58 = .ok (.aload_n 0, 1) := by decide +kernel
theorem dX6_count_59 : decode cX6_count 59 = .ok (.getfield 27, 3) := by decide +kernel
theorem dX6_count_62 : decode cX6_count 62 = .ok (.ireturn, 1) := by decide +kernel
theorem dX6_count_63 : decode cX6_count 63 = .ok (.aload_n 0, 1) := by decide +kernel
theorem dX6_count_64 : decode cX6_count 64 = .ok (.getfield 55, 3) := by decide +kernel
theorem dX6_count_67 : decode cX6_count 67 = .ok (.getfield 124, 3) := by decide +kernel
theorem dX6_count_70 : decode cX6_count 70 = .ok (.ireturn, 1) := by decide +kernel
theorem dX6_count_71 : decode cX6_count 71 = .ok (.aload_n 0, 1) := by decide +kernel
theorem dX6_count_72 : decode cX6_count 72 = .ok (.getfield 59, 3) := by decide +kernel
theorem dX6_count_75 : decode cX6_count 75 = .ok (.getfield 124, 3) := by decide +kernel
theorem dX6_count_78 : decode cX6_count 78 = .ok (.ireturn, 1) := by decide +kernel
theorem dX6_count_79 : decode cX6_count 79 = .ok (.iconst (-1), 1) := by decide +kernel
theorem dX6_count_80 : decode cX6_count 80 = .ok (.ireturn, 1) := by decide +kernel
theorem dX6_appendWord_0 : decode cX6_appendWord 0 = .ok (.aload_n 0, 1) := by decide +kernel
theorem dX6_appendWord_1 : decode cX6_appendWord 1 = .ok (.getfield 13, 3) := by decide +kernel
theorem dX6_appendWord_4 : decode cX6_appendWord 4 = .ok (.iconst 4, 1) := by decide +kernel
theorem dX6_appendWord_5 : decode cX6_appendWord 5 = .ok (.iadd, 1) := by decide +kernel
theorem dX6_appendWord_6 : decode cX6_appendWord 6 = .ok (.sipush 4000, 3) := by decide +kernel
theorem dX6_appendWord_9 : decode cX6_appendWord 9 = .ok (.if_icmp .le 4, 3) := by decide +kernel
theorem dX6_appendWord_12 : decode cX6_appendWord 12 = .ok (.return_, 1) := by decide +kernel
theorem dX6_appendWord_13 : decode cX6_appendWord 13 = .ok (.aload_n 0, 1) := by decide +kernel
theorem dX6_appendWord_14 : decode cX6_appendWord 14 = .ok (.getfield 9, 3) := by decide +kernel
theorem dX6_appendWord_17 : decode cX6_appendWord 17 = .ok (.aload_n 0, 1) := by decide +kernel
theorem dX6_appendWord_18 : decode cX6_appendWord 18 = .ok (.getfield 13, 3) := by decide +kernel
theorem dX6_appendWord_21 : decode cX6_appendWord 21 = .ok (.iload_n 1, 1) := by decide +kernel
theorem dX6_appendWord_22 : decode cX6_appendWord 22 = .ok (.bipush 24, 2) := by decide +kernel
theorem dX6_appendWord_24 : decode cX6_appendWord 24 = .ok (.iushr, 1) := by decide +kernel
theorem dX6_appendWord_25 : decode cX6_appendWord 25 = .ok (.iastore, 1) := by decide +kernel
theorem dX6_appendWord_26 : decode cX6_appendWord 26 = .ok (.aload_n 0, 1) := by decide +kernel
theorem dX6_appendWord_27 : decode cX6_appendWord 27 = .ok (.getfield 9, 3) := by decide +kernel
theorem dX6_appendWord_30 : decode cX6_appendWord 30 = .ok (.aload_n 0, 1) := by decide +kernel
theorem dX6_appendWord_31 : decode cX6_appendWord 31 = .ok (.getfield 13, 3) := by decide +kernel
theorem dX6_appendWord_34 : decode cX6_appendWord 34 = .ok (.iconst 1, 1) := by decide +kernel
theorem dX6_appendWord_35 : decode cX6_appendWord 35 = .ok (.iadd, 1) := by decide +kernel
theorem dX6_appendWord_36 : decode cX6_appendWord 36 = .ok (.iload_n 1, 1) := by decide +kernel
theorem dX6_appendWord_37 : decode cX6_appendWord 37 = .ok (.bipush 16, 2) := by decide +kernel
theorem dX6_appendWord_39 : decode cX6_appendWord 39 = .ok (.iushr, 1) := by decide +kernel
theorem dX6_appendWord_40 : decode cX6_appendWord 40 = .ok (.sipush 255, 3) := by decide +kernel
theorem dX6_appendWord_43 : decode cX6_appendWord 43 = .ok (.iand, 1) := by decide +kernel
theorem dX6_appendWord_44 : decode cX6_appendWord 44 = .ok (.iastore, 1) := by decide +kernel
theorem dX6_appendWord_45 : decode cX6_appendWord 45 = .ok (.aload_n 0, 1) := by decide +kernel
theorem dX6_appendWord_46 : decode cX6_appendWord 46 = .ok (.getfield 9, 3) := by decide +kernel
theorem dX6_appendWord_49 : decode cX6_appendWord 49 = .ok (.aload_n 0, 1) := by decide +kernel
theorem dX6_appendWord_50 : decode cX6_appendWord 50 = .ok (.getfield 13, 3) := by decide +kernel
theorem dX6_appendWord_53 : decode cX6_appendWord 53 = .ok (.iconst 2, 1) := by decide +kernel
theorem dX6_appendWord_54 : decode cX6_appendWord 54 = .ok (.iadd, 1) := by decide +kernel
theorem dX6_appendWord_55 : decode cX6_appendWord 55 = .ok (.iload_n 1, 1) := by decide +kernel
theorem dX6_appendWord_56 : decode cX6_appendWord 56 = .ok (.bipush 8, 2) := by decide +kernel
theorem dX6_appendWord_58 : decode cX6_appendWord 58 = .ok (.iushr, 1) := by decide +kernel
theorem dX6_appendWord_59 : decode cX6_appendWord 59 = .ok (.sipush 255, 3) := by decide +kernel
theorem dX6_appendWord_62 : decode cX6_appendWord 62 = .ok (.iand, 1) := by decide +kernel
theorem dX6_appendWord_63 : decode cX6_appendWord 63 = .ok (.iastore, 1) := by decide +kernel
theorem dX6_appendWord_64 : decode cX6_appendWord 64 = .ok (.aload_n 0, 1) := by decide +kernel
theorem dX6_appendWord_65 : decode cX6_appendWord 65 = .ok (.getfield 9, 3) := by decide +kernel
theorem dX6_appendWord_68 : decode cX6_appendWord 68 = .ok (.aload_n 0, 1) := by decide +kernel
theorem dX6_appendWord_69 : decode cX6_appendWord 69 = .ok (.getfield 13, 3) := by decide +kernel
theorem dX6_appendWord_72 : decode cX6_appendWord 72 = .ok (.iconst 3, 1) := by decide +kernel
theorem dX6_appendWord_73 : decode cX6_appendWord 73 = .ok (.iadd, 1) := by decide +kernel
theorem dX6_appendWord_74 : decode cX6_appendWord 74 = .ok (.iload_n 1, 1) := by decide +kernel
theorem dX6_appendWord_75 : decode cX6_appendWord 75 = .ok (.sipush 255, 3) := by decide +kernel
theorem dX6_appendWord_78 : decode cX6_appendWord 78 = .ok (.iand, 1) := by decide +kernel
theorem dX6_appendWord_79 : decode cX6_appendWord 79 = .ok (.iastore, 1) := by decide +kernel
theorem dX6_appendWord_80 : decode cX6_appendWord 80 = .ok (.aload_n 0, 1) := by decide +kernel
theorem dX6_appendWord_81 : decode cX6_appendWord 81 = .ok (.dup, 1) := by decide +kernel
theorem dX6_appendWord_82 : decode cX6_appendWord 82 = .ok (.getfield 13, 3) := by decide +kernel
theorem dX6_appendWord_85 : decode cX6_appendWord 85 = .ok (.iconst 4, 1) := by decide +kernel
theorem dX6_appendWord_86 : decode cX6_appendWord 86 = .ok (.iadd, 1) := by decide +kernel
theorem dX6_appendWord_87 : decode cX6_appendWord 87 = .ok (.putfield 13, 3) := by decide +kernel
theorem dX6_appendWord_90 : decode cX6_appendWord 90 = .ok (.return_, 1) := by decide +kernel
theorem dX6_wordAt_0 : decode cX6_wordAt 0 = .ok (.iload_n 1, 1) := by decide +kernel
theorem dX6_wordAt_1 : decode cX6_wordAt 1 = .ok (.ifCond .lt 13, 3) := by decide +kernel
theorem dX6_wordAt_4 : decode cX6_wordAt 4 = .ok (.iload_n 1, 1) := by decide +kernel
theorem dX6_wordAt_5 : decode cX6_wordAt 5 = .ok (.iconst 4, 1) := by decide +kernel
theorem dX6_wordAt_6 : decode cX6_wordAt 6 = .ok (.iadd, 1) := by decide +kernel
theorem dX6_wordAt_7 : decode cX6_wordAt 7 = .ok (.aload_n 0, 1) := by decide +kernel
theorem dX6_wordAt_8 : decode cX6_wordAt 8 = .ok (.getfield 13, 3) := by decide +kernel
theorem dX6_wordAt_11 : decode cX6_wordAt 11 = .ok (.if_icmp .le 5, 3) := by decide +kernel
theorem dX6_wordAt_14 : decode cX6_wordAt 14 = .ok (.iconst 0, 1) := by decide +kernel
theorem dX6_wordAt_15 : decode cX6_wordAt 15 = .ok (.ireturn, 1) := by decide +kernel
theorem dX6_wordAt_16 : decode cX6_wordAt 16 = .ok (.aload_n 0, 1) := by decide +kernel
theorem dX6_wordAt_17 : decode cX6_wordAt 17 = .ok (.getfield 9, 3) := by decide +kernel
theorem dX6_wordAt_20 : decode cX6_wordAt 20 = .ok (.iload_n 1, 1) := by decide +kernel
theorem dX6_wordAt_21 : decode cX6_wordAt 21 = .ok (.iaload, 1) := by decide +kernel
theorem dX6_wordAt_22 : decode cX6_wordAt 22 = .ok (.bipush 24, 2) := by decide +kernel
theorem dX6_wordAt_24 : decode cX6_wordAt 24 = .ok (.ishl, 1) := by decide +kernel
theorem dX6_wordAt_25 : decode cX6_wordAt 25 = .ok (.aload_n 0, 1) := by decide +kernel
theorem dX6_wordAt_26 : decode cX6_wordAt 26 = .ok (.getfield 9, 3) := by decide +kernel
theorem dX6_wordAt_29 : decode cX6_wordAt 29 = .ok (.iload_n 1, 1) := by decide +kernel
theorem dX6_wordAt_30 : decode cX6_wordAt 30 = .ok (.iconst 1, 1) := by decide +kernel
theorem dX6_wordAt_31 : decode cX6_wordAt 31 = .ok (.iadd, 1) := by decide +kernel
theorem dX6_wordAt_32 : decode cX6_wordAt 32 = .ok (.iaload, 1) := by decide +kernel
theorem dX6_wordAt_33 : decode cX6_wordAt 33 = .ok (.bipush 16, 2) := by decide +kernel
theorem dX6_wordAt_35 : decode cX6_wordAt 35 = .ok (.ishl, 1) := by decide +kernel
theorem dX6_wordAt_36 : decode cX6_wordAt 36 = .ok (.ior, 1) := by decide +kernel
theorem dX6_wordAt_37 : decode cX6_wordAt 37 = .ok (.aload_n 0, 1) := by decide +kernel
theorem dX6_wordAt_38 : decode cX6_wordAt 38 = .ok (.getfield 9, 3) := by decide +kernel
theorem dX6_wordAt_41 : decode cX6_wordAt 41 = .ok (.iload_n 1, 1) := by decide +kernel
theorem dX6_wordAt_42 : decode cX6_wordAt 42 = .ok (.iconst 2, 1) := by decide +kernel
theorem dX6_wordAt_43 : decode cX6_wordAt 43 = .ok (.iadd, 1) := by decide +kernel
theorem dX6_wordAt_44 : decode cX6_wordAt 44 = .ok (.iaload, 1) := by decide +kernel
theorem dX6_wordAt_45 : decode cX6_wordAt 45 = .ok (.bipush 8, 2) := by decide +kernel
theorem dX6_wordAt_47 : decode cX6_wordAt 47 = .ok (.ishl, 1) := by decide +kernel
theorem dX6_wordAt_48 : decode cX6_wordAt 48 = .ok (.ior, 1) := by decide +kernel
theorem dX6_wordAt_49 : decode cX6_wordAt 49 = .ok (.aload_n 0, 1) := by decide +kernel
theorem dX6_wordAt_50 : decode cX6_wordAt 50 = .ok (.getfield 9, 3) := by decide +kernel
theorem dX6_wordAt_53 : decode cX6_wordAt 53 = .ok (.iload_n 1, 1) := by decide +kernel
theorem dX6_wordAt_54 : decode cX6_wordAt 54 = .ok (.iconst 3, 1) := by decide +kernel
theorem dX6_wordAt_55 : decode cX6_wordAt 55 = .ok (.iadd, 1) := by decide +kernel
theorem dX6_wordAt_56 : decode cX6_wordAt 56 = .ok (.iaload, 1) := by decide +kernel
theorem dX6_wordAt_57 : decode cX6_wordAt 57 = .ok (.ior, 1) := by decide +kernel
theorem dX6_wordAt_58 : decode cX6_wordAt 58 = .ok (.ireturn, 1) := by decide +kernel
set_option maxRecDepth 20000 in
theorem ggX6_findHeader_X6_wordAt : GoodIn wsX6_findHeader wsX6_wordAt := goodIn_r _ [7, 2, 8, 30, 31, 32, 33, 34, 35, 36, 37, 38, 39] (by decide +kernel) (by decide +kernel)
set_option maxRecDepth 20000 in
theorem gX6_findHeader_X6_wordAt : GoodIn wsX6_findHeader (wsV RX6 127 RX6 yX6_wordAt wsX6_wordAt) := goodIn_app (goodIn_of _ (by decide +kernel)) ggX6_findHeader_X6_wordAt
set_option maxRecDepth 20000 in
theorem ggX6_findHeader_X2_isGood : GoodIn wsX6_findHeader wsX2_isGood := goodIn_r _ [12, 13, 14, 11, 15, 16, 17, 18, 19, 20, 21, 22, 23, 24, 25, 26, 27, 28, 29] (by decide +kernel) (by decide +kernel)
set_option maxRecDepth 20000 in
theorem gX6_findHeader_X2_isGood : GoodIn wsX6_findHeader (va_wsS RX6 130 yX2_isGood wsX2_isGood) := goodIn_app (goodIn_of _ (by decide +kernel)) ggX6_findHeader_X2_isGood
theorem dX6_findHeader_0 : decode cX6_findHeader 0 = .ok (.aload_n 0, 1) := by decide +kernel
theorem dX6_findHeader_1 : decode cX6_findHeader 1 = .ok (.getfield 17, 3) := by decide +kernel
theorem dX6_findHeader_4 : decode cX6_findHeader 4 = .ok (.istore_n 1, 1) := by decide +kernel
theorem dX6_findHeader_5 : decode cX6_findHeader 5 = .ok (.iload_n 1, 1) := by decide +kernel
theorem dX6_findHeader_6 : decode cX6_findHeader 6 = .ok (.iconst 4, 1) := by decide +kernel
theorem dX6_findHeader_7 : decode cX6_findHeader 7 = .ok (.iadd, 1) := by decide +kernel
theorem dX6_findHeader_8 : decode cX6_findHeader 8 = .ok (.aload_n 0, 1) := by decide +kernel
theorem dX6_findHeader_9 : decode cX6_findHeader 9 = .ok (.getfield 13, 3) := by decide +kernel
theorem dX6_findHeader_12 : decode cX6_findHeader 12 = .ok (.if_icmp .gt 22, 3) := by decide +kernel
theorem dX6_findHeader_15 : decode cX6_findHeader 15 = .ok (.aload_n 0, 1) := by decide +kernel
theorem dX6_findHeader_16 : decode cX6_findHeader 16 = .ok (.iload_n 1, 1) := by decide +kernel
theorem dX6_findHeader_17 : decode cX6_findHeader 17 = .ok (.invokevirtual 127, 3) := by decide +kernel
theorem dX6_findHeader_20 : decode cX6_findHeader 20 = .ok (.invokestatic 130, 3) := by decide +kernel
theorem dX6_findHeader_23 : decode cX6_findHeader 23 = .ok (.ifCond .eq 5, 3) := by decide +kernel
theorem dX6_findHeader_26 : decode cX6_findHeader 26 = .ok (.iload_n 1, 1) := by decide +kernel
theorem dX6_findHeader_27 : decode cX6_findHeader 27 = .ok (.ireturn, 1) := by decide +kernel
theorem dX6_findHeader_28 : decode cX6_findHeader 28 = .ok (.iinc 1 1, 3) := by decide +kernel
theorem dX6_findHeader_31 : decode cX6_findHeader 31 = .ok (.goto (-26), 3) := by decide +kernel
theorem dX6_findHeader_34 : decode cX6_findHeader 34 = .ok (.iconst (-1), 1) := by decide +kernel
theorem dX6_findHeader_35 : decode cX6_findHeader 35 = .ok (.ireturn, 1) := by decide +kernel
set_option maxRecDepth 20000 in
theorem ggX6_passFrame_X6_findHeader : GoodIn wsX6_passFrame wsX6_findHeader := goodIn_r _ [20, 1, 2, 21, 22, 23, 19, 24, 12, 25, 26, 9, 27, 28, 29, 30, 31, 32, 33, 34, 35, 36, 37, 38, 39, 40, 41, 42, 43, 44, 349, 350, 351, 352, 353, 354, 355, 356, 357, 358] (by decide +kernel) (by decide +kernel)
set_option maxRecDepth 20000 in
theorem gX6_passFrame_X6_findHeader : GoodIn wsX6_passFrame (wsV RX6 134 RX6 yX6_findHeader wsX6_findHeader) := goodIn_app (goodIn_of _ (by decide +kernel)) ggX6_passFrame_X6_findHeader
set_option maxRecDepth 20000 in
theorem ggX6_passFrame_X6_wordAt : GoodIn wsX6_passFrame wsX6_wordAt := goodIn_r _ [24, 2, 12, 349, 350, 351, 352, 353, 354, 355, 356, 357, 358] (by decide +kernel) (by decide +kernel)
set_option maxRecDepth 20000 in
theorem gX6_passFrame_X6_wordAt : GoodIn wsX6_passFrame (wsV RX6 127 RX6 yX6_wordAt wsX6_wordAt) := goodIn_app (goodIn_of _ (by decide +kernel)) ggX6_passFrame_X6_wordAt
set_option maxRecDepth 20000 in
theorem ggX6_passFrame_X2_init : GoodIn wsX6_passFrame wsX2_init := goodIn_r _ [47, 48, 49, 50, 51, 52, 53, 54, 55, 56, 57, 58, 59, 60, 61, 62, 5, 63, 64, 65, 28, 29, 9, 30, 35, 36, 37, 38, 31, 32, 33, 34, 66, 67, 68, 69, 39, 40, 41, 70, 71, 72, 73, 359, 360, 361, 362, 363, 364, 365, 366, 367, 368, 369, 370] (by decide +kernel) (by decide +kernel)
set_option maxRecDepth 20000 in
theorem gX6_passFrame_X2_init : GoodIn wsX6_passFrame (wsX2_init) := ggX6_passFrame_X2_init
set_option maxRecDepth 20000 in
theorem ggX6_passFrame_X3_read : GoodIn wsX6_passFrame wsX3_read := goodIn_r _ [78, 79, 80, 81, 82, 83, 84, 85, 86, 87, 88, 89, 90, 91, 92, 4, 5, 6, 93, 94, 62, 63, 95, 96, 97, 98, 99, 100, 9, 101, 52, 102, 103, 104, 105, 106, 107, 108, 109, 110, 111, 112, 113, 114, 115, 116, 117, 118, 119, 120, 121, 122, 77, 123, 124, 125, 126, 127, 128, 129, 64, 58, 130, 131, 132, 133, 134, 135, 136, 137, 138, 139, 140, 141, 60, 142, 143, 144, 145, 146, 147, 148, 149, 150, 151, 152, 153, 154, 155, 156, 157, 158, 159, 160, 161, 162, 163, 164, 165, 166, 167, 168, 169, 170, 171, 172, 173, 174, 175, 176, 177, 178, 179, 180, 181, 182, 183, 184, 185, 186, 187, 188, 189, 190, 191, 192, 193, 194, 195, 196, 197, 198, 199, 200, 201, 202, 203, 204, 205, 206, 207, 208, 209, 210, 211, 212, 213, 214, 215, 216, 217, 218, 219, 220, 221, 222, 223, 224, 225, 226, 227, 228, 229, 371, 372, 373, 374, 359, 360, 361, 362, 363, 364, 365, 366, 367, 368, 369, 370, 375, 376, 377, 378, 379, 380, 381, 382, 383, 384] (by decide +kernel) (by decide +kernel)
set_option maxRecDepth 20000 in
theorem gX6_passFrame_X3_read : GoodIn wsX6_passFrame (wsV RX6 148 RX3 yX3_read wsX3_read) := goodIn_app (goodIn_of _ (by decide +kernel)) ggX6_passFrame_X3_read
set_option maxRecDepth 20000 in
theorem ggX6_passFrame_Jx4a65c_add_9ea2d : GoodIn wsX6_passFrame wsJx4a65c_add_9ea2d := goodIn_r _ [234, 235, 236, 237, 238, 239, 240, 241, 233, 242, 243, 244, 245, 246, 247, 248, 249, 250, 251, 252, 4, 5, 6, 253, 254, 255, 256, 257, 258, 259, 260, 261, 262, 263, 264, 114, 265, 266, 267, 268, 269, 270, 271, 272, 273, 274, 275, 62, 63, 276, 277, 278, 279, 385, 386, 387] (by decide +kernel) (by decide +kernel)
set_option maxRecDepth 20000 in
theorem gX6_passFrame_Jx4a65c_add_9ea2d : GoodIn wsX6_passFrame (wsV RX6 155 RJx4a65c yJx4a65c_add_9ea2d wsJx4a65c_add_9ea2d) := goodIn_app (goodIn_of _ (by decide +kernel)) ggX6_passFrame_Jx4a65c_add_9ea2d
set_option maxRecDepth 20000 in
theorem ggX6_passFrame_X6_acceptSpare : GoodIn wsX6_passFrame wsX6_acceptSpare := goodIn_r _ [283, 13, 284, 285, 286, 287, 288, 289, 290, 291, 292, 293, 294, 295, 296, 297, 298, 299, 300, 301, 302, 4, 5, 6, 303, 304, 114, 305, 306, 307, 308, 309, 310, 311, 312, 275, 62, 63, 276, 277, 278, 279, 313, 224, 105, 225, 314, 315, 316, 317, 318, 319, 320, 321, 322, 323, 324, 325, 326, 327, 328, 329, 330, 331, 332, 333, 334, 335, 336, 337, 338, 339, 340, 341, 342, 343, 344, 345, 346, 347, 348, 349, 350, 351, 352, 353, 354, 355, 356, 357, 358, 380, 381, 382, 383, 384, 388, 389, 390, 391, 392, 393, 394, 395] (by decide +kernel) (by decide +kernel)
set_option maxRecDepth 20000 in
theorem gX6_passFrame_X6_acceptSpare : GoodIn wsX6_passFrame (wsV RX6 159 RX6 yX6_acceptSpare wsX6_acceptSpare) := goodIn_app (goodIn_of _ (by decide +kernel)) ggX6_passFrame_X6_acceptSpare
theorem dX6_passFrame_0 : decode cX6_passFrame 0 = .ok (.aload_n 0, 1) := by decide +kernel
theorem dX6_passFrame_1 : decode cX6_passFrame 1 = .ok (.invokevirtual 134, 3) := by decide +kernel
theorem dX6_passFrame_4 : decode cX6_passFrame 4 = .ok (.istore_n 1, 1) := by decide +kernel
theorem dX6_passFrame_5 : decode cX6_passFrame 5 = .ok (.iload_n 1, 1) := by decide +kernel
theorem dX6_passFrame_6 : decode cX6_passFrame 6 = .ok (.iconst (-1), 1) := by decide +kernel
theorem dX6_passFrame_7 : decode cX6_passFrame 7 = .ok (.if_icmp .ne 22, 3) := by decide +kernel
theorem dX6_passFrame_10 : decode cX6_passFrame 10 = .ok (.aload_n 0, 1) := by decide +kernel
theorem dX6_passFrame_11 : decode cX6_passFrame 11 = .ok (.aload_n 0, 1) := by decide +kernel
theorem dX6_passFrame_12 : decode cX6_passFrame 12 = .ok (.getfield 17, 3) := by decide +kernel
theorem dX6_passFrame_15 : decode cX6_passFrame 15 = .ok (.aload_n 0, 1) := by decide +kernel
theorem dX6_passFrame_16 : decode cX6_passFrame 16 = .ok (.getfield 13, 3) := by decide +kernel
theorem dX6_passFrame_19 : decode cX6_passFrame 19 = .ok (.iconst 3, 1) := by decide +kernel
theorem dX6_passFrame_20 : decode cX6_passFrame 20 = .ok (.isub, 1) := by decide +kernel
theorem dX6_passFrame_21 : decode cX6_passFrame 21 = .ok (.invokestatic 137, 3) := by decide +kernel
theorem dX6_passFrame_24 : decode cX6_passFrame 24 = .ok (.putfield 17, 3) := by decide +kernel
theorem dX6_passFrame_27 : decode cX6_passFrame 27 = .ok (.iconst 0, 1) := by decide +kernel
theorem dX6_passFrame_28 : decode cX6_passFrame 28 = .ok (.ireturn, 1) := by decide +kernel
theorem dX6_passFrame_29 : decode cX6_passFrame 29 = .ok (.aload_n 0, 1) := by decide +kernel
theorem dX6_passFrame_30 : decode cX6_passFrame 30 = .ok (.iload_n 1, 1) := by decide +kernel
theorem dX6_passFrame_31 : decode cX6_passFrame 31 = .ok (.putfield 17, 3) := by decide +kernel
theorem dX6_passFrame_34 : decode cX6_passFrame 34 = .ok (.new 84, 3) := by decide +kernel
theorem dX6_passFrame_37 : decode cX6_passFrame 37 = .ok (.dup, 1) := by decide +kernel
theorem dX6_passFrame_38 : decode cX6_passFrame 38 = .ok (.aload_n 0, 1) := by decide +kernel
theorem dX6_passFrame_39 : decode cX6_passFrame 39 = .ok (.iload_n 1, 1) := by decide +kernel
theorem dX6_passFrame_40 : decode cX6_passFrame 40 = .ok (.invokevirtual 127, 3) := by decide +kernel
theorem dX6_passFrame_43 : decode cX6_passFrame 43 = .ok (.iload_n 1, 1) := by decide +kernel
theorem dX6_passFrame_44 : decode cX6_passFrame 44 = .ok (.invokespecial 142, 3) := by decide +kernel
theorem dX6_passFrame_47 : decode cX6_passFrame 47 = .ok (.astore_n 2, 1) := by decide +kernel
theorem dX6_passFrame_48 : decode cX6_passFrame 48 = .ok (.aload_n 2, 1) := by decide +kernel
theorem dX6_passFrame_49 : decode cX6_passFrame 49 = .ok (.getfield 145, 3) := by decide +kernel
theorem dX6_passFrame_52 : decode cX6_passFrame 52 = .ok (.aload_n 0, 1) := by decide +kernel
theorem dX6_passFrame_53 : decode cX6_passFrame 53 = .ok (.getfield 13, 3) := by decide +kernel
theorem dX6_passFrame_56 : decode cX6_passFrame 56 = .ok (.iload_n 1, 1) := by decide +kernel
theorem dX6_passFrame_57 : decode cX6_passFrame 57 = .ok (.isub, 1) := by decide +kernel
theorem dX6_passFrame_58 : decode cX6_passFrame 58 = .ok (.if_icmp .le 5, 3) := by decide +kernel
theorem dX6_passFrame_61 : decode cX6_passFrame 61 = .ok (.iconst 0, 1) := by decide +kernel
theorem dX6_passFrame_62 : decode cX6_passFrame 62 = .ok (.ireturn, 1) := by decide +kernel
theorem dX6_passFrame_63 : decode cX6_passFrame 63 = .ok (.aload_n 0, 1) := by decide +kernel
theorem dX6_passFrame_64 : decode cX6_passFrame 64 = .ok (.iload_n 1, 1) := by decide +kernel
theorem dX6_passFrame_65 : decode cX6_passFrame 65 = .ok (.aload_n 2, 1) := by decide +kernel
theorem dX6_passFrame_66 : decode cX6_passFrame 66 = .ok (.getfield 145, 3) := by decide +kernel
theorem dX6_passFrame_69 : decode cX6_passFrame 69 = .ok (.iadd, 1) := by decide +kernel
theorem dX6_passFrame_70 : decode cX6_passFrame 70 = .ok (.putfield 17, 3) := by decide +kernel
theorem dX6_passFrame_73 : decode cX6_passFrame 73 = .ok (.aload_n 2, 1) := by decide +kernel
theorem dX6_passFrame_74 : decode cX6_passFrame 74 = .ok (.aload_n 0, 1) := by decide +kernel
theorem dX6_passFrame_75 : decode cX6_passFrame 75 = .ok (.getfield 33, 3) := by decide +kernel
theorem dX6_passFrame_78 : decode cX6_passFrame 78 = .ok (.aload_n 0, 1) := by decide +kernel
theorem dX6_passFrame_79 : decode cX6_passFrame 79 = .ok (.getfield 9, 3) := by decide +kernel
theorem dX6_passFrame_82 : decode cX6_passFrame 82 = .ok (.aload_n 2, 1) := by decide +kernel
theorem dX6_passFrame_83 : decode cX6_passFrame 83 = .ok (.aload_n 0, 1) := by decide +kernel
theorem dX6_passFrame_84 : decode cX6_passFrame 84 = .ok (.getfield 44, 3) := by decide +kernel
theorem dX6_passFrame_87 : decode cX6_passFrame 87 = .ok (.invokevirtual 148, 3) := by decide +kernel
theorem dX6_passFrame_90 : decode cX6_passFrame 90 = .ok (.putfield 152, 3) := by decide +kernel
theorem dX6_passFrame_93 : decode cX6_passFrame 93 = .ok (.aload_n 0, 1) := by decide +kernel
theorem dX6_passFrame_94 : decode cX6_passFrame 94 = .ok (.getfield 23, 3) := by decide +kernel
theorem dX6_passFrame_97 : decode cX6_passFrame 97 = .ok (.aload_n 2, 1) := by decide +kernel
theorem dX6_passFrame_98 : decode cX6_passFrame 98 = .ok (.invokevirtual 155, 3) := by decide +kernel
theorem dX6_passFrame_101 : decode cX6_passFrame 101 = .ok (.pop, 1) := by decide +kernel
theorem dX6_passFrame_102 : decode cX6_passFrame 102 = .ok (.aload_n 2, 1) := by decide +kernel
theorem dX6_passFrame_103 : decode cX6_passFrame 103 = .ok (.getfield 152, 3) := by decide +kernel
theorem dX6_passFrame_106 : decode cX6_passFrame 106 = .ok (.ifCond .ne 7, 3) := by decide +kernel
theorem dX6_passFrame_109 : decode cX6_passFrame 109 = .ok (.aload_n 0, 1) := by decide +kernel
theorem dX6_passFrame_110 : decode cX6_passFrame 110 = .ok (.invokevirtual 159, 3) := by decide +kernel
theorem dX6_passFrame_113 : decode cX6_passFrame 113 = .ok (.iconst 1, 1) := by decide +kernel
theorem dX6_passFrame_114 : decode cX6_passFrame 114 = .ok (.ireturn, 1) := by decide +kernel
set_option maxRecDepth 20000 in
theorem ggX6_acceptSpare_X4_sound : GoodIn wsX6_acceptSpare wsX4_sound := goodIn_r _ [11, 12, 13, 14, 15, 16, 10, 17, 18, 19, 20, 21, 22, 23, 24, 25, 26, 27, 28, 29, 30, 31, 32, 33, 34, 35, 36, 37, 38, 39, 40, 41, 42, 43, 44, 45, 46, 47, 48, 49, 50, 51, 52, 53, 54, 55, 56, 57, 58, 59, 60, 61, 62, 63, 64, 65, 66, 67, 68, 69, 70, 71, 72, 73, 74, 75, 76, 77, 78, 79, 80, 91, 92, 93, 94, 95, 96, 97, 98, 99, 100, 101, 102, 103] (by decide +kernel) (by decide +kernel)
set_option maxRecDepth 20000 in
theorem gX6_acceptSpare_X4_sound : GoodIn wsX6_acceptSpare (wsV RX6 162 RX4 yX4_sound wsX4_sound) := goodIn_app (goodIn_of _ (by decide +kernel)) ggX6_acceptSpare_X4_sound
theorem dX6_acceptSpare_0 : decode cX6_acceptSpare 0 = .ok (.aload_n 0, 1) := by decide +kernel
theorem dX6_acceptSpare_1 : decode cX6_acceptSpare 1 = .ok (.getfield 44, 3) := by decide +kernel
theorem dX6_acceptSpare_4 : decode cX6_acceptSpare 4 = .ok (.astore_n 1, 1) := by decide +kernel
theorem dX6_acceptSpare_5 : decode cX6_acceptSpare 5 = .ok (.aload_n 0, 1) := by decide +kernel
theorem dX6_acceptSpare_6 : decode cX6_acceptSpare 6 = .ok (.aload_n 0, 1) := by decide +kernel
theorem dX6_acceptSpare_7 : decode cX6_acceptSpare 7 = .ok (.getfield 40, 3) := by decide +kernel
theorem dX6_acceptSpare_10 : decode cX6_acceptSpare 10 = .ok (.putfield 44, 3) := by decide +kernel
theorem dX6_acceptSpare_13 : decode cX6_acceptSpare 13 = .ok (.aload_n 0, 1) := by decide +kernel
theorem dX6_acceptSpare_14 : decode cX6_acceptSpare 14 = .ok (.aload_n 1, 1) := by decide +kernel
theorem dX6_acceptSpare_15 : decode cX6_acceptSpare 15 = .ok (.putfield 40, 3) := by decide +kernel
theorem dX6_acceptSpare_18 : decode cX6_acceptSpare 18 = .ok (.aload_n 0, 1) := by decide +kernel
theorem dX6_acceptSpare_19 : decode cX6_acceptSpare 19 = .ok (.dup, 1) := by decide +kernel
theorem dX6_acceptSpare_20 : decode cX6_acceptSpare 20 = .ok (.getfield 27, 3) := by decide +kernel
theorem dX6_acceptSpare_23 : decode cX6_acceptSpare 23 = .ok (.iconst 1, 1) := by decide +kernel
theorem dX6_acceptSpare_24 : decode cX6_acceptSpare 24 = .ok (.iadd, 1) := by decide +kernel
theorem dX6_acceptSpare_25 : decode cX6_acceptSpare 25 = .ok (.putfield 27, 3) := by decide +kernel
theorem dX6_acceptSpare_28 : decode cX6_acceptSpare 28 = .ok (.aload_n 0, 1) := by decide +kernel
theorem dX6_acceptSpare_29 : decode cX6_acceptSpare 29 = .ok (.getfield 55, 3) := by decide +kernel
theorem dX6_acceptSpare_32 : decode cX6_acceptSpare 32 = .ok (.aload_n 1, 1) := by decide +kernel
theorem dX6_acceptSpare_33 : decode cX6_acceptSpare 33 = .ok (.iconst 0, 1) := by decide +kernel
theorem dX6_acceptSpare_34 : decode cX6_acceptSpare 34 = .ok (.invokevirtual 162, 3) := by decide +kernel
theorem dX6_acceptSpare_37 : decode cX6_acceptSpare 37 = .ok (.aload_n 1, 1) := by decide +kernel
theorem dX6_acceptSpare_38 : decode cX6_acceptSpare 38 = .ok (.getfield 166, 3) := by decide +kernel
theorem dX6_acceptSpare_41 : decode cX6_acceptSpare 41 = .ok (.iconst 2, 1) := by decide +kernel
theorem dX6_acceptSpare_42 : decode cX6_acceptSpare 42 = .ok (.if_icmp .ne 12, 3) := by decide +kernel
theorem dX6_acceptSpare_45 : decode cX6_acceptSpare 45 = .ok (.aload_n 0, 1) := by decide +kernel
theorem dX6_acceptSpare_46 : decode cX6_acceptSpare 46 = .ok (.getfield 59, 3) := by decide +kernel
theorem dX6_acceptSpare_49 : decode cX6_acceptSpare 49 = .ok (.aload_n 1, 1) := by decide +kernel
theorem dX6_acceptSpare_50 : decode cX6_acceptSpare 50 = .ok (.iconst 1, 1) := by decide +kernel
theorem dX6_acceptSpare_51 : decode cX6_acceptSpare 51 = .ok (.invokevirtual 162, 3) := by decide +kernel
theorem dX6_acceptSpare_54 : decode cX6_acceptSpare 54 = .ok (.return_, 1) := by decide +kernel
theorem dX6_hasBand_0 : decode cX6_hasBand 0 = .ok (.aload_n 0, 1) := by decide +kernel
theorem dX6_hasBand_1 : decode cX6_hasBand 1 = .ok (.getfield 27, 3) := by decide +kernel
theorem dX6_hasBand_4 : decode cX6_hasBand 4 = .ok (.ifCond .le 32, 3) := by decide +kernel
theorem dX6_hasBand_7 : decode cX6_hasBand 7 = .ok (.iload_n 1, 1) := by decide +kernel
theorem dX6_hasBand_8 : decode cX6_hasBand 8 = .ok (.ifCond .lt 28, 3) := by decide +kernel
theorem dX6_hasBand_11 : decode cX6_hasBand 11 = .ok (.iload_n 1, 1) := by decide +kernel
theorem dX6_hasBand_12 : decode cX6_hasBand 12 = .ok (.aload_n 0, 1) := by decide +kernel
theorem dX6_hasBand_13 : decode cX6_hasBand 13 = .ok (.getfield 40, 3) := by decide +kernel
theorem dX6_hasBand_16 : decode cX6_hasBand 16 = .ok (.getfield 166, 3) := by decide +kernel
theorem dX6_hasBand_19 : decode cX6_hasBand 19 = .ok (.if_icmp .ge 17, 3) := by decide +kernel
theorem dX6_hasBand_22 : decode cX6_hasBand 22 = .ok (.iload_n 2, 1) := by decide +kernel
theorem dX6_hasBand_23 : decode cX6_hasBand 23 = .ok (.ifCond .lt 13, 3) := by decide +kernel
theorem dX6_hasBand_26 : decode cX6_hasBand 26 = .ok (.iload_n 2, 1) := by decide +kernel
theorem dX6_hasBand_27 : decode cX6_hasBand 27 = .ok (.bipush 32, 2) := by decide +kernel
theorem dX6_hasBand_29 : decode cX6_hasBand 29 = .ok (.if_icmp .ge 7, 3) := by decide +kernel
theorem dX6_hasBand_32 : decode cX6_hasBand 32 = .ok (.iconst 1, 1) := by decide +kernel
theorem dX6_hasBand_33 : decode cX6_hasBand 33 = .ok (.goto 4, 3) := by decide +kernel
theorem dX6_hasBand_36 : decode cX6_hasBand 36 = .ok (.iconst 0, 1) := by decide +kernel
theorem dX6_hasBand_37 : decode cX6_hasBand 37 = .ok (.ireturn, 1) := by decide +kernel
