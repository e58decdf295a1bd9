theorem dX7_feed_0 : decode cX7_feed 0 = .ok (.aload_n 0, 1) := by decide +kernel
theorem dX7_feed_1 : decode cX7_feed 1 = .ok (.getfield 103, 3) := by decide +kernel
theorem dX7_feed_4 : decode cX7_feed 4 = .ok (.bipush 20, 2) := by decide +kernel
theorem dX7_feed_6 : decode cX7_feed 6 = .ok (.iadd, 1) := by decide +kernel
theorem dX7_feed_7 : decode cX7_feed 7 = .ok (.sipush 4000, 3) := by decide +kernel
theorem dX7_feed_10 : decode cX7_feed 10 = .ok (.if_icmp .le 5, 3) := by decide +kernel
theorem dX7_feed_13 : decode cX7_feed 13 = .ok (.iconst (-1), 1) := by decide +kernel
theorem dX7_feed_14 : decode cX7_feed 14 = .ok (.ireturn, 1) := by decide +kernel
theorem dX7_feed_15 : decode cX7_feed 15 = .ok (.aload_n 0, 1) := by decide +kernel
theorem dX7_feed_16 : decode cX7_feed 16 = .ok (.iload_n 1, 1) := by decide +kernel
theorem dX7_feed_17 : decode cX7_feed 17 = .ok (.invokevirtual 106, 3) := by decide +kernel
theorem dX7_feed_20 : decode cX7_feed 20 = .ok (.aload_n 0, 1) := by decide +kernel
theorem dX7_feed_21 : decode cX7_feed 21 = .ok (.iload_n 2, 1) := by decide +kernel
theorem dX7_feed_22 : decode cX7_feed 22 = .ok (.invokevirtual 106, 3) := by decide +kernel
theorem dX7_feed_25 : decode cX7_feed 25 = .ok (.aload_n 0, 1) := by decide +kernel
theorem dX7_feed_26 : decode cX7_feed 26 = .ok (.iload_n 3, 1) := by decide +kernel
theorem dX7_feed_27 : decode cX7_feed 27 = .ok (.invokevirtual 106, 3) := by decide +kernel
theorem dX7_feed_30 : decode cX7_feed 30 = .ok (.aload_n 0, 1) := by decide +kernel
theorem dX7_feed_31 : decode cX7_feed 31 = .ok (.iload 4, 2) := by decide +kernel
theorem dX7_feed_33 : decode cX7_feed 33 = .ok (.invokevirtual 106, 3) := by decide +kernel
theorem dX7_feed_36 : decode cX7_feed 36 = .ok (.aload_n 0, 1) := by decide +kernel
theorem dX7_feed_37 : decode cX7_feed 37 = .ok (.iload 5, 2) := by decide +kernel
theorem dX7_feed_39 : decode cX7_feed 39 = .ok (.invokevirtual 106, 3) := by decide +kernel
theorem dX7_feed_42 : decode cX7_feed 42 = .ok (.aload_n 0, 1) := by decide +kernel
theorem dX7_feed_43 : decode cX7_feed 43 = .ok (.getfield 103, 3) := by decide +kernel
theorem dX7_feed_46 : decode cX7_feed 46 = .ok (.ireturn, 1) := by decide +kernel
theorem dX7_put_0 : decode cX7_put 0 = .ok (.bipush 24, 2) := by decide +kernel
theorem dX7_put_2 : decode cX7_put 2 = .ok (.istore_n 2, 1) := by decide +kernel
theorem dX7_put_3 : decode cX7_put 3 = .ok (.iload_n 2, 1) := by decide +kernel
theorem dX7_put_4 : decode cX7_put 4 = .ok (.ifCond .lt 32, 3) := by decide +kernel
theorem dX7_put_7 : decode cX7_put 7 = .ok (.aload_n 0, 1) := by decide +kernel
theorem dX7_put_8 : decode cX7_put 8 = .ok (.getfield 9, 3) := by decide +kernel
theorem dX7_put_11 : decode cX7_put 11 = .ok (.aload_n 0, 1) := by decide +kernel
theorem dX7_put_12 : decode cX7_put 12 = .ok (.getfield 103, 3) := by decide +kernel
theorem dX7_put_15 : decode cX7_put 15 = .ok (.iload_n 1, 1) := by decide +kernel
theorem dX7_put_16 : decode cX7_put 16 = .ok (.iload_n 2, 1) := by decide +kernel
theorem dX7_put_17 : decode cX7_put 17 = .ok (.ishr, 1) := by decide +kernel
theorem dX7_put_18 : decode cX7_put 18 = .ok (.i2b, 1) := by decide +kernel
theorem dX7_put_19 : decode cX7_put 19 = .ok (.bastore, 1) := by decide +kernel
theorem dX7_put_20 : decode cX7_put 20 = .ok (.aload_n 0, 1) := by decide +kernel
theorem dX7_put_21 : decode cX7_put 21 = .ok (.dup, 1) := by decide +kernel
theorem dX7_put_22 : decode cX7_put 22 = .ok (.getfield 103, 3) := by decide +kernel
theorem dX7_put_25 : decode cX7_put 25 = .ok (.iconst 1, 1) := by decide +kernel
theorem dX7_put_26 : decode cX7_put 26 = .ok (.iadd, 1) := by decide +kernel
theorem dX7_put_27 : decode cX7_put 27 = .ok (.putfield 103, 3) := by decide +kernel
theorem dX7_put_30 : decode cX7_put 30 = .ok (.iinc 2 (-8), 3) := by decide +kernel
theorem dX7_put_33 : decode cX7_put 33 = .ok (.goto (-30), 3) := by decide +kernel
theorem dX7_put_36 : decode cX7_put 36 = .ok (.return_, 1) := by decide +kernel
theorem dX7_end_0 : decode cX7_end 0 = .ok (.iload_n 1, 1) := by decide +kernel
theorem dX7_end_1 : decode cX7_end 1 = .ok (.aload_n 0, 1) := by decide +kernel
theorem dX7_end_2 : decode cX7_end 2 = .ok (.getfield 110, 3) := by decide +kernel
theorem dX7_end_5 : decode cX7_end 5 = .ok (.if_icmp .lt 11, 3) := by decide +kernel
theorem dX7_end_8 : decode cX7_end 8 = .ok (.iload_n 1, 1) := by decide +kernel
theorem dX7_end_9 : decode cX7_end 9 = .ok (.aload_n 0, 1) := by decide +kernel
theorem dX7_end_10 : decode cX7_end 10 = .ok (.getfield 103, 3) := by decide +kernel
theorem dX7_end_13 : decode cX7_end 13 = .ok (.if_icmp .le 5, 3) := by decide +kernel
theorem dX7_end_16 : decode cX7_end 16 = .ok (.iconst (-1), 1) := by decide +kernel
theorem dX7_end_17 : decode cX7_end 17 = .ok (.ireturn, 1) := by decide +kernel
theorem dX7_end_18 : decode cX7_end 18 = .ok (.aload_n 0, 1) := by decide +kernel
theorem dX7_end_19 : decode cX7_end 19 = .ok (.iload_n 1, 1) := by decide +kernel
theorem dX7_end_20 : decode cX7_end 20 = .ok (.putfield 103, 3) := by decide +kernel
theorem dX7_end_23 : decode cX7_end 23 = .ok (.iload_n 1, 1) := by decide +kernel
theorem dX7_end_24 : decode cX7_end 24 = .ok (.ireturn, 1) := by decide +kernel
theorem dX7_set_0 : decode cX7_set 0 = .ok (.iload_n 1, 1) := by decide +kernel
theorem dX7_set_1 : decode cX7_set 1 = .ok (.aload_n 0, 1) := by decide +kernel
theorem dX7_set_2 : decode cX7_set 2 = .ok (.getfield 110, 3) := by decide +kernel
theorem dX7_set_5 : decode cX7_set 5 = .ok (.if_icmp .lt 11, 3) := by decide +kernel
theorem dX7_set_8 : decode cX7_set 8 = .ok (.iload_n 1, 1) := by decide +kernel
theorem dX7_set_9 : decode cX7_set 9 = .ok (.aload_n 0, 1) := by decide +kernel
theorem dX7_set_10 : decode cX7_set 10 = .ok (.getfield 103, 3) := by decide +kernel
theorem dX7_set_13 : decode cX7_set 13 = .ok (.if_icmp .lt 5, 3) := by decide +kernel
theorem dX7_set_16 : decode cX7_set 16 = .ok (.iconst (-1), 1) := by decide +kernel
theorem dX7_set_17 : decode cX7_set 17 = .ok (.ireturn, 1) := by decide +kernel
theorem dX7_set_18 : decode cX7_set 18 = .ok (.aload_n 0, 1) := by decide +kernel
theorem dX7_set_19 : decode cX7_set 19 = .ok (.getfield 9, 3) := by decide +kernel
theorem dX7_set_22 : decode cX7_set 22 = .ok (.iload_n 1, 1) := by decide +kernel
theorem dX7_set_23 : decode cX7_set 23 = .ok (.baload, 1) := by decide +kernel
theorem dX7_set_24 : decode cX7_set 24 = .ok (.sipush 255, 3) := by decide +kernel
theorem dX7_set_27 : decode cX7_set 27 = .ok (.iand, 1) := by decide +kernel
theorem dX7_set_28 : decode cX7_set 28 = .ok (.istore_n 3, 1) := by decide +kernel
theorem dX7_set_29 : decode cX7_set 29 = .ok (.aload_n 0, 1) := by decide +kernel
theorem dX7_set_30 : decode cX7_set 30 = .ok (.getfield 9, 3) := by decide +kernel
theorem dX7_set_33 : decode cX7_set 33 = .ok (.iload_n 1, 1) := by decide +kernel
theorem dX7_set_34 : decode cX7_set 34 = .ok (.iload_n 2, 1) := by decide +kernel
theorem dX7_set_35 : decode cX7_set 35 = .ok (.i2b, 1) := by decide +kernel
theorem dX7_set_36 : decode cX7_set 36 = .ok (.bastore, 1) := by decide +kernel
theorem dX7_set_37 : decode cX7_set 37 = .ok (.iload_n 3, 1) := by decide +kernel
theorem dX7_set_38 : decode cX7_set 38 = .ok (.ireturn, 1) := by decide +kernel
theorem dX7_clear_0 : decode cX7_clear 0 = .ok (.aload_n 0, 1) := by decide +kernel
theorem dX7_clear_1 : decode cX7_clear 1 = .ok (.getfield 113, 3) := by decide +kernel
theorem dX7_clear_4 : decode cX7_clear 4 = .ok (.istore_n 1, 1) := by decide +kernel
theorem dX7_clear_5 : decode cX7_clear 5 = .ok (.aload_n 0, 1) := by decide +kernel
theorem dX7_clear_6 : decode cX7_clear 6 = .ok (.iconst 0, 1) := by decide +kernel
theorem dX7_clear_7 : decode cX7_clear 7 = .ok (.putfield 103, 3) := by decide +kernel
theorem dX7_clear_10 : decode cX7_clear 10 = .ok (.aload_n 0, 1) := by decide +kernel
theorem dX7_clear_11 : decode cX7_clear 11 = .ok (.iconst 0, 1) := by decide +kernel
theorem dX7_clear_12 : decode cX7_clear 12 = .ok (.putfield 110, 3) := by decide +kernel
theorem dX7_clear_15 : decode cX7_clear 15 = .ok (.aload_n 0, 1) := by decide +kernel
theorem dX7_clear_16 : decode cX7_clear 16 = .ok (.iconst 0, 1) := by decide +kernel
theorem dX7_clear_17 : decode cX7_clear 17 = .ok (.putfield 113, 3) := by decide +kernel
theorem dX7_clear_20 : decode cX7_clear 20 = .ok (.aload_n 0, 1) := by decide +kernel
theorem dX7_clear_21 : decode cX7_clear 21 = .ok (.iconst 0, 1) := by decide +kernel
theorem dX7_clear_22 : decode cX7_clear 22 = .ok (.putfield 116, 3) := by decide +kernel
theorem dX7_clear_25 : decode cX7_clear 25 = .ok (.aload_n 0, 1) := by decide +kernel
theorem dX7_clear_26 : decode cX7_clear 26 = .ok (.iconst 0, 1) := by decide +kernel
theorem dX7_clear_27 : decode cX7_clear 27 = .ok (.putfield 119, 3) := by decide +kernel
theorem dX7_clear_30 : decode cX7_clear 30 = .ok (.iconst 0, 1) := by decide +kernel
theorem dX7_clear_31 : decode cX7_clear 31 = .ok (.istore_n 2, 1) := by decide +kernel
theorem dX7_clear_32 : decode cX7_clear 32 = .ok (.iload_n 2, 1) := by decide +kernel
theorem dX7_clear_33 : decode cX7_clear 33 = .ok (.iconst 2, 1) := by decide +kernel
theorem dX7_clear_34 : decode cX7_clear 34 = .ok (.if_icmp .ge 40, 3) := by decide +kernel
theorem dX7_clear_37 : decode cX7_clear 37 = .ok (.aload_n 0, 1) := by decide +kernel
theorem dX7_clear_38 : decode cX7_clear 38 = .ok (.getfield 22, 3) := by decide +kernel
theorem dX7_clear_41 : decode cX7_clear 41 = .ok (.iload_n 2, 1) := by decide +kernel
theorem dX7_clear_42 : decode cX7_clear 42 = .ok (.iconst 0, 1) := by decide +kernel
theorem dX7_clear_43 : decode cX7_clear 43 = .ok (.iastore, 1) := by decide +kernel
theorem dX7_clear_44 : decode cX7_clear 44 = .ok (.iconst 0, 1) := by decide +kernel
theorem dX7_clear_45 : decode cX7_clear 45 = .ok (.istore_n 3, 1) := by decide +kernel
theorem dX7_clear_46 : decode cX7_clear 46 = .ok (.iload_n 3, 1) := by decide +kernel
theorem dX7_clear_47 : decode cX7_clear 47 = .ok (.sipush 1024, 3) := by decide +kernel
theorem dX7_clear_50 : decode cX7_clear 50 = .ok (.if_icmp .ge 18, 3) := by decide +kernel
theorem dX7_clear_53 : decode cX7_clear 53 = .ok (.aload_n 0, 1) := by decide +kernel
theorem dX7_clear_54 : decode cX7_clear 54 = .ok (.getfield 26, 3) := by decide +kernel
theorem dX7_clear_57 : decode cX7_clear 57 = .ok (.iload_n 2, 1) := by decide +kernel
theorem dX7_clear_58 : decode cX7_clear 58 = .ok (.aaload, 1) := by decide +kernel
theorem dX7_clear_59 : decode cX7_clear 59 = .ok (.iload_n 3, 1) := by decide +kernel
theorem dX7_clear_60 : decode cX7_clear 60 = .ok (.iconst 0, 1) := by decide +kernel
theorem dX7_clear_61 : decode cX7_clear 61 = .ok (.iastore, 1) := by decide +kernel
theorem dX7_clear_62 : decode cX7_clear 62 = .ok (.iinc 3 1, 3) := by decide +kernel
theorem dX7_clear_65 : decode cX7_clear 65 = .ok (.goto (-19), 3) := by decide +kernel
theorem dX7_clear_68 : decode cX7_clear 68 = .ok (.iinc 2 1, 3) := by decide +kernel
theorem dX7_clear_71 : decode cX7_clear 71 = .ok (.goto (-39), 3) := by decide +kernel
theorem dX7_clear_74 : decode cX7_clear 74 = .ok (.iload_n 1, 1) := by decide +kernel
theorem dX7_clear_75 : decode cX7_clear 75 = .ok (.ireturn, 1) := by decide +kernel
theorem dX7_bits_0 : decode cX7_bits 0 = .ok (.iconst 0, 1) := by decide +kernel
theorem dX7_bits_1 : decode cX7_bits 1 = .ok (.istore_n 2, 1) := by decide +kernel
theorem dX7_bits_2 : decode cX7_bits 2 = .ok (.iconst 0, 1) := by decide +kernel
theorem dX7_bits_3 : decode cX7_bits 3 = .ok (.istore_n 3, 1) := by decide +kernel
theorem dX7_bits_4 : decode cX7_bits 4 = .ok (.iload_n 3, 1) := by decide +kernel
theorem dX7_bits_5 : decode cX7_bits 5 = .ok (.iload_n 1, 1) := by decide +kernel
theorem dX7_bits_6 : decode cX7_bits 6 = .ok (.if_icmp .ge 67, 3) := by decide +kernel
theorem dX7_bits_9 : decode cX7_bits 9 = .ok (.aload_n 0, 1) := by decide +kernel
theorem dX7_bits_10 : decode cX7_bits 10 = .ok (.getfield 123, 3) := by decide +kernel
theorem dX7_bits_13 : decode cX7_bits 13 = .ok (.aload_n 0, 1) := by decide +kernel
theorem dX7_bits_14 : decode cX7_bits 14 = .ok (.getfield 126, 3) := by decide +kernel
theorem dX7_bits_17 : decode cX7_bits 17 = .ok (.if_icmp .lt 10, 3) := by decide +kernel
theorem dX7_bits_20 : decode cX7_bits 20 = .ok (.aload_n 0, 1) := by decide +kernel
theorem dX7_bits_21 : decode cX7_bits 21 = .ok (.iconst 1, 1) := by decide +kernel
theorem dX7_bits_22 : decode cX7_bits 22 = .ok (.putfield 129, 3) := by decide +kernel
theorem dX7_bits_25 : decode cX7_bits 25 = .ok (.iconst 0, 1) := by decide +kernel
theorem dX7_bits_26 : decode cX7_bits 26 = .ok (.ireturn, 1) := by decide +kernel
theorem dX7_bits_27 : decode cX7_bits 27 = .ok (.iconst 2, 1) := by decide +kernel
theorem dX7_bits_28 : decode cX7_bits 28 = .ok (.iload_n 2, 1) := by decide +kernel
theorem dX7_bits_29 : decode cX7_bits 29 = .ok (.imul, 1) := by decide +kernel
theorem dX7_bits_30 : decode cX7_bits 30 = .ok (.aload_n 0, 1) := by decide +kernel
theorem dX7_bits_31 : decode cX7_bits 31 = .ok (.getfield 9, 3) := by decide +kernel
theorem dX7_bits_34 : decode cX7_bits 34 = .ok (.aload_n 0, 1) := by decide +kernel
theorem dX7_bits_35 : decode cX7_bits 35 = .ok (.getfield 123, 3) := by decide +kernel
theorem dX7_bits_38 : decode cX7_bits 38 = .ok (.bipush 8, 2) := by decide +kernel
theorem dX7_bits_40 : decode cX7_bits 40 = .ok (.idiv, 1) := by decide +kernel
theorem dX7_bits_41 : decode cX7_bits 41 = .ok (.baload, 1) := by decide +kernel
theorem dX7_bits_42 : decode cX7_bits 42 = .ok (.bipush 7, 2) := by decide +kernel
theorem dX7_bits_44 : decode cX7_bits 44 = .ok (.aload_n 0, 1) := by decide +kernel
theorem dX7_bits_45 : decode cX7_bits 45 = .ok (.getfield 123, 3) := by decide +kernel
theorem dX7_bits_48 : decode cX7_bits 48 = .ok (.bipush 8, 2) := by decide +kernel
theorem dX7_bits_50 : decode cX7_bits 50 = .ok (.irem, 1) := by decide +kernel
theorem dX7_bits_51 : decode cX7_bits 51 = .ok (.isub, 1) := by decide +kernel
theorem dX7_bits_52 : decode cX7_bits 52 = .ok (.ishr, 1) := by decide +kernel
theorem dX7_bits_53 : decode cX7_bits 53 = .ok (.iconst 1, 1) := by decide +kernel
theorem dX7_bits_54 : decode cX7_bits 54 = .ok (.iand, 1) := by decide +kernel
theorem dX7_bits_55 : decode cX7_bits 55 = .ok (.iadd, 1) := by decide +kernel
theorem dX7_bits_56 : decode cX7_bits 56 = .ok (.istore_n 2, 1) := by decide +kernel
theorem dX7_bits_57 : decode cX7_bits 57 = .ok (.aload_n 0, 1) := by decide +kernel
theorem dX7_bits_58 : decode cX7_bits 58 = .ok (.dup, 1) := by decide +kernel
theorem dX7_bits_59 : decode cX7_bits 59 = .ok (.getfield 123, 3) := by decide +kernel
theorem dX7_bits_62 : decode cX7_bits 62 = .ok (.iconst 1, 1) := by decide +kernel
theorem dX7_bits_63 : decode cX7_bits 63 = .ok (.iadd, 1) := by decide +kernel
theorem dX7_bits_64 : decode cX7_bits 64 = .ok (.putfield 123, 3) := by decide +kernel
theorem dX7_bits_67 : decode cX7_bits 67 = .ok (.iinc 3 1, 3) := by decide +kernel
theorem dX7_bits_70 : decode cX7_bits 70 = .ok (.goto (-66), 3) := by decide +kernel
theorem dX7_bits_73 : decode cX7_bits 73 = .ok (.iload_n 2, 1) := by decide +kernel
theorem dX7_bits_74 : decode cX7_bits 74 = .ok (.ireturn, 1) := by decide +kernel
theorem dX7_header_0 : decode cX7_header 0 = .ok (.iload_n 1, 1) := by decide +kernel
theorem dX7_header_1 : decode cX7_header 1 = .ok (.iconst 4, 1) := by decide +kernel
theorem dX7_header_2 : decode cX7_header 2 = .ok (.iadd, 1) := by decide +kernel
theorem dX7_header_3 : decode cX7_header 3 = .ok (.aload_n 0, 1) := by decide +kernel
theorem dX7_header_4 : decode cX7_header 4 = .ok (.getfield 103, 3) := by decide +kernel
theorem dX7_header_7 : decode cX7_header 7 = .ok (.if_icmp .le 5, 3) := by decide +kernel
theorem dX7_header_10 : decode cX7_header 10 = .ok (.iconst 0, 1) := by decide +kernel
theorem dX7_header_11 : decode cX7_header 11 = .ok (.ireturn, 1) := by decide +kernel
theorem dX7_header_12 : decode cX7_header 12 = .ok (.aload_n 0, 1) := by decide +kernel
theorem dX7_header_13 : decode cX7_header 13 = .ok (.bipush 8, 2) := by decide +kernel
theorem dX7_header_15 : decode cX7_header 15 = .ok (.iload_n 1, 1) := by decide +kernel
theorem dX7_header_16 : decode cX7_header 16 = .ok (.imul, 1) := by decide +kernel
theorem dX7_header_17 : decode cX7_header 17 = .ok (.putfield 123, 3) := by decide +kernel
theorem dX7_header_20 : decode cX7_header 20 = .ok (.aload_n 0, 1) := by decide +kernel
theorem dX7_header_21 : decode cX7_header 21 = .ok (.bipush 8, 2) := by decide +kernel
theorem dX7_header_23 : decode cX7_header 23 = .ok (.iload_n 1, 1) := by decide +kernel
theorem dX7_header_24 : decode cX7_header 24 = .ok (.imul, 1) := by decide +kernel
theorem dX7_header_25 : decode cX7_header 25 = .ok (.bipush 32, 2) := by decide +kernel
theorem dX7_header_27 : decode cX7_header 27 = .ok (.iadd, 1) := by decide +kernel
theorem dX7_header_28 : decode cX7_header 28 = .ok (.putfield 126, 3) := by decide +kernel
theorem dX7_header_31 : decode cX7_header 31 = .ok (.aload_n 0, 1) := by decide +kernel
theorem dX7_header_32 : decode cX7_header 32 = .ok (.iconst 0, 1) := by decide +kernel
theorem dX7_header_33 : decode cX7_header 33 = .ok (.putfield 129, 3) := by decide +kernel
theorem dX7_header_36 : decode cX7_header 36 = .ok (.aload_n 0, 1) := by decide +kernel
theorem dX7_header_37 : decode cX7_header 37 = .ok (.bipush 12, 2) := by decide +kernel
theorem dX7_header_39 : decode cX7_header 39 = .ok (.invokevirtual 132, 3) := by decide +kernel
theorem dX7_header_42 : decode cX7_header 42 = .ok (.istore_n 2, 1) := by decide +kernel
theorem dX7_header_43 : decode cX7_header 43 = .ok (.aload_n 0, 1) := by decide +kernel
theorem dX7_header_44 : decode cX7_header 44 = .ok (.iconst 1, 1) := by decide +kernel
theorem dX7_header_45 : decode cX7_header 45 = .ok (.invokevirtual 132, 3) := by decide +kernel
theorem dX7_header_48 : decode cX7_header 48 = .ok (.istore_n 3, 1) := by decide +kernel
theorem dX7_header_49 : decode cX7_header 49 = .ok (.aload_n 0, 1) := by decide +kernel
theorem dX7_header_50 : decode cX7_header 50 = .ok (.iconst 2, 1) := by decide +kernel
theorem dX7_header_51 : decode cX7_header 51 = .ok (.invokevirtual 132, 3) := by decide +kernel
theorem dX7_header_54 : decode cX7_header 54 = .ok (.istore 4, 2) := by decide +kernel
theorem dX7_header_56 : decode cX7_header 56 = .ok (.aload_n 0, 1) := by decide +kernel
theorem dX7_header_57 : decode cX7_header 57 = .ok (.aload_n 0, 1) := by decide +kernel
theorem dX7_header_58 : decode cX7_header 58 = .ok (.iconst 1, 1) := by decide +kernel
theorem dX7_header_59 : decode cX7_header 59 = .ok (.invokevirtual 132, 3) := by decide +kernel
theorem dX7_header_62 : decode cX7_header 62 = .ok (.ifCond .ne 7, 3) := by decide +kernel
theorem dX7_header_65 : decode cX7_header 65 = .ok (.iconst 1, 1) := by decide +kernel
theorem dX7_header_66 : decode cX7_header 66 = .ok (.goto 4, 3) := by decide +kernel
theorem dX7_header_69 : decode cX7_header 69 = .ok (.iconst 0, 1) := by decide +kernel
theorem dX7_header_70 : decode cX7_header 70 = .ok (.putfield 136, 3) := by decide +kernel
theorem dX7_header_73 : decode cX7_header 73 = .ok (.aload_n 0, 1) := by decide +kernel
theorem dX7_header_74 : decode cX7_header 74 = .ok (.iconst 4, 1) := by decide +kernel
theorem dX7_header_75 : decode cX7_header 75 = .ok (.invokevirtual 132, 3) := by decide +kernel
theorem dX7_header_78 : decode cX7_header 78 = .ok (.istore 5, 2) := by decide +kernel
theorem dX7_header_80 : decode cX7_header 80 = .ok (.aload_n 0, 1) := by decide +kernel
theorem dX7_header_81 : decode cX7_header 81 = .ok (.iconst 2, 1) := by decide +kernel
theorem dX7_header_82 : decode cX7_header 82 = .ok (.invokevirtual 132, 3) := by decide +kernel
theorem dX7_header_85 : decode cX7_header 85 = .ok (.istore 6, 2) := by decide +kernel
theorem dX7_header_87 : decode cX7_header 87 = .ok (.aload_n 0, 1) := by decide +kernel
theorem dX7_header_88 : decode cX7_header 88 = .ok (.aload_n 0, 1) := by decide +kernel
theorem dX7_header_89 : decode cX7_header 89 = .ok (.iconst 1, 1) := by decide +kernel
theorem dX7_header_90 : decode cX7_header 90 = .ok (.invokevirtual 132, 3) := by decide +kernel
theorem dX7_header_93 : decode cX7_header 93 = .ok (.putfield 139, 3) := by decide +kernel
theorem dX7_header_96 : decode cX7_header 96 = .ok (.aload_n 0, 1) := by decide +kernel
theorem dX7_header_97 : decode cX7_header 97 = .ok (.iconst 1, 1) := by decide +kernel
theorem dX7_header_98 : decode cX7_header 98 = .ok (.invokevirtual 132, 3) := by decide +kernel
theorem dX7_header_101 : decode cX7_header 101 = .ok (.pop, 1) := by decide +kernel
theorem dX7_header_102 : decode cX7_header 102 = .ok (.aload_n 0, 1) := by decide +kernel
theorem dX7_header_103 : decode cX7_header 103 = .ok (.aload_n 0, 1) := by decide +kernel
theorem dX7_header_104 : decode cX7_header 104 = .ok (.iconst 2, 1) := by decide +kernel
theorem dX7_header_105 : decode cX7_header 105 = .ok (.invokevirtual 132, 3) := by decide +kernel
theorem dX7_header_108 : decode cX7_header 108 = .ok (.putfield 142, 3) := by decide +kernel
theorem dX7_header_111 : decode cX7_header 111 = .ok (.aload_n 0, 1) := by decide +kernel
theorem dX7_header_112 : decode cX7_header 112 = .ok (.aload_n 0, 1) := by decide +kernel
theorem dX7_header_113 : decode cX7_header 113 = .ok (.iconst 2, 1) := by decide +kernel
theorem dX7_header_114 : decode cX7_header 114 = .ok (.invokevirtual 132, 3) := by decide +kernel
theorem dX7_header_117 : decode cX7_header 117 = .ok (.putfield 145, 3) := by decide +kernel
theorem dX7_header_120 : decode cX7_header 120 = .ok (.aload_n 0, 1) := by decide +kernel
theorem dX7_header_121 : decode cX7_header 121 = .ok (.iconst 2, 1) := by decide +kernel
theorem dX7_header_122 : decode cX7_header 122 = .ok (.invokevirtual 132, 3) := by decide +kernel
theorem dX7_header_125 : decode cX7_header 125 = .ok (.pop, 1) := by decide +kernel
theorem dX7_header_126 : decode cX7_header 126 = .ok (.aload_n 0, 1) := by decide +kernel
theorem dX7_header_127 : decode cX7_header 127 = .ok (.iconst 2, 1) := by decide +kernel
theorem dX7_header_128 : decode cX7_header 128 = .ok (.invokevirtual 132, 3) := by decide +kernel
theorem dX7_header_131 : decode cX7_header 131 = .ok (.istore 7, 2) := by decide +kernel
theorem dX7_header_133 : decode cX7_header 133 = .ok (.iload_n 2, 1) := by decide +kernel
theorem dX7_header_134 : decode cX7_header 134 = .ok (.sipush 4095, 3) := by decide +kernel
theorem dX7_header_137 : decode cX7_header 137 = .ok (.if_icmp .ne 39, 3) := by decide +kernel
theorem dX7_header_140 : decode cX7_header 140 = .ok (.iload_n 3, 1) := by decide +kernel
theorem dX7_header_141 : decode cX7_header 141 = .ok (.iconst 1, 1) := by decide +kernel
theorem dX7_header_142 : decode cX7_header 142 = .ok (.if_icmp .ne 34, 3) := by decide +kernel
theorem dX7_header_145 : decode cX7_header 145 = .ok (.iload 4, 2) := by decide +kernel
theorem dX7_header_147 : decode cX7_header 147 = .ok (.iconst 2, 1) := by decide +kernel
theorem dX7_header_148 : decode cX7_header 148 = .ok (.if_icmp .lt 28, 3) := by decide +kernel
theorem dX7_header_151 : decode cX7_header 151 = .ok (.iload 5, 2) := by decide +kernel
theorem dX7_header_153 : decode cX7_header 153 = .ok (.iconst 1, 1) := by decide +kernel
theorem dX7_header_154 : decode cX7_header 154 = .ok (.if_icmp .lt 22, 3) := by decide +kernel
theorem dX7_header_157 : decode cX7_header 157 = .ok (.iload 5, 2) := by decide +kernel
theorem dX7_header_159 : decode cX7_header 159 = .ok (.bipush 14, 2) := by decide +kernel
theorem dX7_header_161 : decode cX7_header 161 = .ok (.if_icmp .gt 15, 3) := by decide +kernel
theorem dX7_header_164 : decode cX7_header 164 = .ok (.iload 6, 2) := by decide +kernel
theorem dX7_header_166 : decode cX7_header 166 = .ok (.iconst 3, 1) := by decide +kernel
theorem dX7_header_167 : decode cX7_header 167 = .ok (.if_icmp .eq 9, 3) := by decide +kernel
theorem dX7_header_170 : decode cX7_header 170 = .ok (.iload 7, 2) := by decide +kernel
theorem dX7_header_172 : decode cX7_header 172 = .ok (.iconst 2, 1) := by decide +kernel
theorem dX7_header_173 : decode cX7_header 173 = .ok (.if_icmp .ne 5, 3) := by decide +kernel
theorem dX7_header_176 : decode cX7_header 176 = .ok (.iconst 0, 1) := by decide +kernel
theorem dX7_header_177 : decode cX7_header 177 = .ok (.ireturn, 1) := by decide +kernel
theorem dX7_header_178 : decode cX7_header 178 = .ok (.aload_n 0, 1) := by decide +kernel
theorem dX7_header_179 : decode cX7_header 179 = .ok (.iload 4, 2) := by decide +kernel
theorem dX7_header_181 : decode cX7_header 181 = .ok (.iconst 3, 1) := by decide +kernel
theorem dX7_header_182 : decode cX7_header 182 = .ok (.if_icmp .ne 7, 3) := by decide +kernel
theorem dX7_header_185 : decode cX7_header 185 = .ok (.iconst 1, 1) := by decide +kernel
theorem dX7_header_186 : decode cX7_header 186 = .ok (.goto 4, 3) := by decide +kernel
theorem dX7_header_189 : decode cX7_header 189 = .ok (.iconst 2, 1) := by decide +kernel
theorem dX7_header_190 : decode cX7_header 190 = .ok (.putfield 148, 3) := by decide +kernel
theorem dX7_header_193 : decode cX7_header 193 = .ok (.aload_n 0, 1) := by decide +kernel
theorem dX7_header_194 : decode cX7_header 194 = .ok (.aload_n 0, 1) := by decide +kernel
theorem dX7_header_195 : decode cX7_header 195 = .ok (.getfield 148, 3) := by decide +kernel
theorem dX7_header_198 : decode cX7_header 198 = .ok (.iconst 1, 1) := by decide +kernel
theorem dX7_header_199 : decode cX7_header 199 = .ok (.if_icmp .ne 11, 3) := by decide +kernel
theorem dX7_header_202 : decode cX7_header 202 = .ok (.bipush 32, 2) := by decide +kernel
theorem dX7_header_204 : decode cX7_header 204 = .ok (.iload 5, 2) := by decide +kernel
theorem dX7_header_206 : decode cX7_header 206 = .ok (.imul, 1) := by decide +kernel
theorem dX7_header_207 : decode cX7_header 207 = .ok (.goto 12, 3) := by decide +kernel
theorem dX7_header_210 : decode cX7_header 210 = .ok (.aload_n 0, 1) := by decide +kernel
theorem dX7_header_211 : decode cX7_header 211 = .ok (.getfield 55, 3) := by decide +kernel
theorem dX7_header_214 : decode cX7_header 214 = .ok (.iload 5, 2) := by decide +kernel
theorem dX7_header_216 : decode cX7_header 216 = .ok (.iconst 1, 1) := by decide +kernel
theorem dX7_header_217 : decode cX7_header 217 = .ok (.isub, 1) := by decide +kernel
theorem dX7_header_218 : decode cX7_header 218 = .ok (.iaload, 1) := by decide +kernel
theorem dX7_header_219 : decode cX7_header 219 = .ok (.putfield 151, 3) := by decide +kernel
theorem dX7_header_222 : decode cX7_header 222 = .ok (.aload_n 0, 1) := by decide +kernel
theorem dX7_header_223 : decode cX7_header 223 = .ok (.iload 6, 2) := by decide +kernel
theorem dX7_header_225 : decode cX7_header 225 = .ok (.ifCond .ne 8, 3) := by decide +kernel
theorem dX7_header_228 : decode cX7_header 228 = .ok (.ldc 154, 2) := by decide +kernel
theorem dX7_header_230 : decode cX7_header 230 = .ok (.goto 17, 3) := by decide +kernel
theorem dX7_header_233 : decode cX7_header 233 = .ok (.iload 6, 2) := by decide +kernel
theorem dX7_header_235 : decode cX7_header 235 = .ok (.iconst 1, 1) := by decide +kernel
theorem dX7_header_236 : decode cX7_header 236 = .ok (.if_icmp .ne 8, 3) := by decide +kernel
theorem dX7_header_239 : decode cX7_header 239 = .ok (.ldc 155, 2) := by decide +kernel
theorem dX7_header_241 : decode cX7_header 241 = .ok (.goto 6, 3) := by decide +kernel
theorem dX7_header_244 : decode cX7_header 244 = .ok (.sipush 32000, 3) := by decide +kernel
theorem dX7_header_247 : decode cX7_header 247 = .ok (.putfield 156, 3) := by decide +kernel
theorem dX7_header_250 : decode cX7_header 250 = .ok (.aload_n 0, 1) := by decide +kernel
theorem dX7_header_251 : decode cX7_header 251 = .ok (.aload_n 0, 1) := by decide +kernel
theorem dX7_header_252 : decode cX7_header 252 = .ok (.getfield 142, 3) := by decide +kernel
theorem dX7_header_255 : decode cX7_header 255 = .ok (.iconst 3, 1) := by decide +kernel
theorem dX7_header_256 : decode cX7_header 256 = .ok (.if_icmp .ne 7, 3) := by decide +kernel
theorem dX7_header_259 : decode cX7_header 259 = .ok (.iconst 1, 1) := by decide +kernel
theorem dX7_header_260 : decode cX7_header 260 = .ok (.goto 4, 3) := by decide +kernel
theorem dX7_header_263 : decode cX7_header 263 = .ok (.iconst 2, 1) := by decide +kernel
theorem dX7_header_264 : decode cX7_header 264 = .ok (.putfield 159, 3) := by decide +kernel
theorem dX7_header_267 : decode cX7_header 267 = .ok (.aload_n 0, 1) := by decide +kernel
theorem dX7_header_268 : decode cX7_header 268 = .ok (.getfield 151, 3) := by decide +kernel
theorem dX7_header_271 : decode cX7_header 271 = .ok (.bipush 32, 2) := by decide +kernel
theorem dX7_header_273 : decode cX7_header 273 = .ok (.if_icmp .eq 30, 3) := by decide +kernel
theorem dX7_header_276 : decode cX7_header 276 = .ok (.aload_n 0, 1) := by decide +kernel
theorem dX7_header_277 : decode cX7_header 277 = .ok (.getfield 151, 3) := by decide +kernel
theorem dX7_header_280 : decode cX7_header 280 = .ok (.bipush 48, 2) := by decide +kernel
theorem dX7_header_282 : decode cX7_header 282 = .ok (.if_icmp .eq 21, 3) := by decide +kernel
theorem dX7_header_285 : decode cX7_header 285 = .ok (.aload_n 0, 1) := by decide +kernel
theorem dX7_header_286 : decode cX7_header 286 = .ok (.getfield 151, 3) := by decide +kernel
theorem dX7_header_289 : decode cX7_header 289 = .ok (.bipush 56, 2) := by decide +kernel
theorem dX7_header_291 : decode cX7_header 291 = .ok (.if_icmp .eq 12, 3) := by decide +kernel
theorem dX7_header_294 : decode cX7_header 294 = .ok (.aload_n 0, 1) := by decide +kernel
theorem dX7_header_295 : decode cX7_header 295 = .ok (.getfield 151, 3) := by decide +kernel
theorem dX7_header_298 : decode cX7_header 298 = .ok (.bipush 80, 2) := by decide +kernel
theorem dX7_header_300 : decode cX7_header 300 = .ok (.if_icmp .ne 7, 3) := by decide +kernel
theorem dX7_header_303 : decode cX7_header 303 = .ok (.iconst 1, 1) := by decide +kernel
theorem dX7_header_304 : decode cX7_header 304 = .ok (.goto 4, 3) := by decide +kernel
theorem dX7_header_307 : decode cX7_header 307 = .ok (.iconst 0, 1) := by decide +kernel
theorem dX7_header_308 : decode cX7_header 308 = .ok (.istore 8, 2) := by decide +kernel
theorem dX7_header_310 : decode cX7_header 310 = .ok (.aload_n 0, 1) := by decide +kernel
theorem dX7_header_311 : decode cX7_header 311 = .ok (.getfield 148, 3) := by decide +kernel
theorem dX7_header_314 : decode cX7_header 314 = .ok (.iconst 2, 1) := by decide +kernel
theorem dX7_header_315 : decode cX7_header 315 = .ok (.if_icmp .ne 36, 3) := by decide +kernel
theorem dX7_header_318 : decode cX7_header 318 = .ok (.iload 8, 2) := by decide +kernel
theorem dX7_header_320 : decode cX7_header 320 = .ok (.ifCond .eq 11, 3) := by decide +kernel
theorem dX7_header_323 : decode cX7_header 323 = .ok (.aload_n 0, 1) := by decide +kernel
theorem dX7_header_324 : decode cX7_header 324 = .ok (.getfield 142, 3) := by decide +kernel
theorem dX7_header_327 : decode cX7_header 327 = .ok (.iconst 3, 1) := by decide +kernel
theorem dX7_header_328 : decode cX7_header 328 = .ok (.if_icmp .ne 21, 3) := by decide +kernel
theorem dX7_header_331 : decode cX7_header 331 = .ok (.aload_n 0, 1) := by decide +kernel
theorem dX7_header_332 : decode cX7_header 332 = .ok (.getfield 151, 3) := by decide +kernel
theorem dX7_header_335 : decode cX7_header 335 = .ok (.sipush 224, 3) := by decide +kernel
theorem dX7_header_338 : decode cX7_header 338 = .ok (.if_icmp .lt 13, 3) := by decide +kernel
theorem dX7_header_341 : decode cX7_header 341 = .ok (.aload_n 0, 1) := by decide +kernel
theorem dX7_header_342 : decode cX7_header 342 = .ok (.getfield 142, 3) := by decide +kernel
theorem dX7_header_345 : decode cX7_header 345 = .ok (.iconst 3, 1) := by decide +kernel
theorem dX7_header_346 : decode cX7_header 346 = .ok (.if_icmp .ne 5, 3) := by decide +kernel
theorem dX7_header_349 : decode cX7_header 349 = .ok (.iconst 0, 1) := by decide +kernel
theorem dX7_header_350 : decode cX7_header 350 = .ok (.ireturn, 1) := by decide +kernel
theorem dX7_header_351 : decode cX7_header 351 = .ok (.aload_n 0, 1) := by decide +kernel
theorem dX7_header_352 : decode cX7_header 352 = .ok (.aload_n 0, 1) := by decide +kernel
theorem dX7_header_353 : decode cX7_header 353 = .ok (.getfield 148, 3) := by decide +kernel
theorem dX7_header_356 : decode cX7_header 356 = .ok (.iconst 1, 1) := by decide +kernel
theorem dX7_header_357 : decode cX7_header 357 = .ok (.if_icmp .ne 26, 3) := by decide +kernel
theorem dX7_header_360 : decode cX7_header 360 = .ok (.iconst 4, 1) := by decide +kernel
theorem dX7_header_361 : decode cX7_header 361 = .ok (.sipush 12000, 3) := by decide +kernel
theorem dX7_header_364 : decode cX7_header 364 = .ok (.aload_n 0, 1) := by decide +kernel
theorem dX7_header_365 : decode cX7_header 365 = .ok (.getfield 151, 3) := by decide +kernel
theorem dX7_header_368 : decode cX7_header 368 = .ok (.imul, 1) := by decide +kernel
theorem dX7_header_369 : decode cX7_header 369 = .ok (.aload_n 0, 1) := by decide +kernel
theorem dX7_header_370 : decode cX7_header 370 = .ok (.getfield 156, 3) := by decide +kernel
theorem dX7_header_373 : decode cX7_header 373 = .ok (.idiv, 1) := by decide +kernel
theorem dX7_header_374 : decode cX7_header 374 = .ok (.aload_n 0, 1) := by decide +kernel
theorem dX7_header_375 : decode cX7_header 375 = .ok (.getfield 139, 3) := by decide +kernel
theorem dX7_header_378 : decode cX7_header 378 = .ok (.iadd, 1) := by decide +kernel
theorem dX7_header_379 : decode cX7_header 379 = .ok (.imul, 1) := by decide +kernel
theorem dX7_header_380 : decode cX7_header 380 = .ok (.goto 20, 3) := by decide +kernel
theorem dX7_header_383 : decode cX7_header 383 = .ok (.ldc 162, 2) := by decide +kernel
theorem dX7_header_385 : decode cX7_header 385 = .ok (.aload_n 0, 1) := by decide +kernel
theorem dX7_header_386 : decode cX7_header 386 = .ok (.getfield 151, 3) := by decide +kernel
theorem dX7_header_389 : decode cX7_header 389 = .ok (.imul, 1) := by decide +kernel
theorem dX7_header_390 : decode cX7_header 390 = .ok (.aload_n 0, 1) := by decide +kernel
theorem dX7_header_391 : decode cX7_header 391 = .ok (.getfield 156, 3) := by decide +kernel
theorem dX7_header_394 : decode cX7_header 394 = .ok (.idiv, 1) := by decide +kernel
theorem dX7_header_395 : decode cX7_header 395 = .ok (.aload_n 0, 1) := by decide +kernel
theorem dX7_header_396 : decode cX7_header 396 = .ok (.getfield 139, 3) := by decide +kernel
theorem dX7_header_399 : decode cX7_header 399 = .ok (.iadd, 1) := by decide +kernel
theorem dX7_header_400 : decode cX7_header 400 = .ok (.putfield 163, 3) := by decide +kernel
theorem dX7_header_403 : decode cX7_header 403 = .ok (.aload_n 0, 1) := by decide +kernel
theorem dX7_header_404 : decode cX7_header 404 = .ok (.aload_n 0, 1) := by decide +kernel
theorem dX7_header_405 : decode cX7_header 405 = .ok (.getfield 148, 3) := by decide +kernel
theorem dX7_header_408 : decode cX7_header 408 = .ok (.iconst 1, 1) := by decide +kernel
theorem dX7_header_409 : decode cX7_header 409 = .ok (.if_icmp .ne 8, 3) := by decide +kernel
theorem dX7_header_412 : decode cX7_header 412 = .ok (.bipush 32, 2) := by decide +kernel
theorem dX7_header_414 : decode cX7_header 414 = .ok (.goto 16, 3) := by decide +kernel
theorem dX7_header_417 : decode cX7_header 417 = .ok (.aload_n 0, 1) := by decide +kernel
theorem dX7_header_418 : decode cX7_header 418 = .ok (.aload_n 0, 1) := by decide +kernel
theorem dX7_header_419 : decode cX7_header 419 = .ok (.getfield 151, 3) := by decide +kernel
theorem dX7_header_422 : decode cX7_header 422 = .ok (.aload_n 0, 1) := by decide +kernel
theorem dX7_header_423 : decode cX7_header 423 = .ok (.getfield 159, 3) := by decide +kernel
theorem dX7_header_426 : decode cX7_header 426 = .ok (.idiv, 1) := by decide +kernel
theorem dX7_header_427 : decode cX7_header 427 = .ok (.invokevirtual 166, 3) := by decide +kernel
theorem dX7_header_430 : decode cX7_header 430 = .ok (.putfield 169, 3) := by decide +kernel
theorem dX7_header_433 : decode cX7_header 433 = .ok (.aload_n 0, 1) := by decide +kernel
theorem dX7_header_434 : decode cX7_header 434 = .ok (.aload_n 0, 1) := by decide +kernel
theorem dX7_header_435 : decode cX7_header 435 = .ok (.getfield 142, 3) := by decide +kernel
theorem dX7_header_438 : decode cX7_header 438 = .ok (.iconst 1, 1) := by decide +kernel
theorem dX7_header_439 : decode cX7_header 439 = .ok (.if_icmp .ne 29, 3) := by decide +kernel
theorem dX7_header_442 : decode cX7_header 442 = .ok (.iconst 4, 1) := by decide +kernel
theorem dX7_header_443 : decode cX7_header 443 = .ok (.aload_n 0, 1) := by decide +kernel
theorem dX7_header_444 : decode cX7_header 444 = .ok (.getfield 145, 3) := by decide +kernel
theorem dX7_header_447 : decode cX7_header 447 = .ok (.iconst 1, 1) := by decide +kernel
theorem dX7_header_448 : decode cX7_header 448 = .ok (.iadd, 1) := by decide +kernel
theorem dX7_header_449 : decode cX7_header 449 = .ok (.imul, 1) := by decide +kernel
theorem dX7_header_450 : decode cX7_header 450 = .ok (.aload_n 0, 1) := by decide +kernel
theorem dX7_header_451 : decode cX7_header 451 = .ok (.getfield 169, 3) := by decide +kernel
theorem dX7_header_454 : decode cX7_header 454 = .ok (.if_icmp .ge 14, 3) := by decide +kernel
theorem dX7_header_457 : decode cX7_header 457 = .ok (.iconst 4, 1) := by decide +kernel
theorem dX7_header_458 : decode cX7_header 458 = .ok (.aload_n 0, 1) := by decide +kernel
theorem dX7_header_459 : decode cX7_header 459 = .ok (.getfield 145, 3) := by decide +kernel
theorem dX7_header_462 : decode cX7_header 462 = .ok (.iconst 1, 1) := by decide +kernel
theorem dX7_header_463 : decode cX7_header 463 = .ok (.iadd, 1) := by decide +kernel
theorem dX7_header_464 : decode cX7_header 464 = .ok (.imul, 1) := by decide +kernel
theorem dX7_header_465 : decode cX7_header 465 = .ok (.goto 7, 3) := by decide +kernel
theorem dX7_header_468 : decode cX7_header 468 = .ok (.aload_n 0, 1) := by decide +kernel
theorem dX7_header_469 : decode cX7_header 469 = .ok (.getfield 169, 3) := by decide +kernel
theorem dX7_header_472 : decode cX7_header 472 = .ok (.putfield 172, 3) := by decide +kernel
theorem dX7_header_475 : decode cX7_header 475 = .ok (.iconst 1, 1) := by decide +kernel
theorem dX7_header_476 : decode cX7_header 476 = .ok (.ireturn, 1) := by decide +kernel
theorem dX7_bandsOf_0 : decode cX7_bandsOf 0 = .ok (.iload_n 1, 1) := by decide +kernel
theorem dX7_bandsOf_1 : decode cX7_bandsOf 1 = .ok (.bipush 56, 2) := by decide +kernel
theorem dX7_bandsOf_3 : decode cX7_bandsOf 3 = .ok (.if_icmp .lt 21, 3) := by decide +kernel
theorem dX7_bandsOf_6 : decode cX7_bandsOf 6 = .ok (.iload_n 1, 1) := by decide +kernel
theorem dX7_bandsOf_7 : decode cX7_bandsOf 7 = .ok (.bipush 80, 2) := by decide +kernel
theorem dX7_bandsOf_9 : decode cX7_bandsOf 9 = .ok (.if_icmp .le 12, 3) := by decide +kernel
theorem dX7_bandsOf_12 : decode cX7_bandsOf 12 = .ok (.aload_n 0, 1) := by decide +kernel
theorem dX7_bandsOf_13 : decode cX7_bandsOf 13 = .ok (.getfield 156, 3) := by decide +kernel
theorem dX7_bandsOf_16 : decode cX7_bandsOf 16 = .ok (.ldc 155, 2) := by decide +kernel
theorem dX7_bandsOf_18 : decode cX7_bandsOf 18 = .ok (.if_icmp .ne 6, 3) := by decide +kernel
theorem dX7_bandsOf_21 : decode cX7_bandsOf 21 = .ok (.bipush 27, 2) := by decide +kernel
theorem dX7_bandsOf_23 : decode cX7_bandsOf 23 = .ok (.ireturn, 1) := by decide +kernel
theorem dX7_bandsOf_24 : decode cX7_bandsOf 24 = .ok (.iload_n 1, 1) := by decide +kernel
theorem dX7_bandsOf_25 : decode cX7_bandsOf 25 = .ok (.bipush 96, 2) := by decide +kernel
theorem dX7_bandsOf_27 : decode cX7_bandsOf 27 = .ok (.if_icmp .lt 8, 3) := by decide +kernel
theorem dX7_bandsOf_30 : decode cX7_bandsOf 30 = .ok (.bipush 30, 2) := by decide +kernel
theorem dX7_bandsOf_32 : decode cX7_bandsOf 32 = .ok (.goto 20, 3) := by decide +kernel
theorem dX7_bandsOf_35 : decode cX7_bandsOf 35 = .ok (.aload_n 0, 1) := by decide +kernel
theorem dX7_bandsOf_36 : decode cX7_bandsOf 36 = .ok (.getfield 156, 3) := by decide +kernel
theorem dX7_bandsOf_39 : decode cX7_bandsOf 39 = .ok (.sipush 32000, 3) := by decide +kernel
theorem dX7_bandsOf_42 : decode cX7_bandsOf 42 = .ok (.if_icmp .eq 8, 3) := by decide +kernel
theorem dX7_bandsOf_45 : decode cX7_bandsOf 45 = .ok (.bipush 8, 2) := by decide +kernel
theorem dX7_bandsOf_47 : decode cX7_bandsOf 47 = .ok (.goto 5, 3) := by decide +kernel
theorem dX7_bandsOf_50 : decode cX7_bandsOf 50 = .ok (.bipush 12, 2) := by decide +kernel
theorem dX7_bandsOf_52 : decode cX7_bandsOf 52 = .ok (.ireturn, 1) := by decide +kernel
theorem dX7_isFirstTable_0 : decode cX7_isFirstTable 0 = .ok (.aload_n 0, 1) := by decide +kernel
theorem dX7_isFirstTable_1 : decode cX7_isFirstTable 1 = .ok (.getfield 169, 3) := by decide +kernel
theorem dX7_isFirstTable_4 : decode cX7_isFirstTable 4 = .ok (.bipush 12, 2) := by decide +kernel
theorem dX7_isFirstTable_6 : decode cX7_isFirstTable 6 = .ok (.if_icmp .le 7, 3) := by decide +kernel
theorem dX7_isFirstTable_9 : decode cX7_isFirstTable 9 = .ok (.iconst 1, 1) := by decide +kernel
theorem dX7_isFirstTable_10 : decode cX7_isFirstTable 10 = .ok (.goto 4, 3) := by decide +kernel
theorem dX7_isFirstTable_13 : decode cX7_isFirstTable 13 = .ok (.iconst 0, 1) := by decide +kernel
theorem dX7_isFirstTable_14 : decode cX7_isFirstTable 14 = .ok (.ireturn, 1) := by decide +kernel
theorem dX7_decode_0 : decode cX7_decode 0 = .ok (.iconst 0, 1) := by decide +kernel
theorem dX7_decode_1 : decode cX7_decode 1 = .ok (.istore_n 1, 1) := by decide +kernel
theorem dX7_decode_2 : decode cX7_decode 2 = .ok (.iconst 1, 1) := by decide +kernel
theorem dX7_decode_3 : decode cX7_decode 3 = .ok (.istore_n 2, 1) := by decide +kernel
theorem dX7_decode_4 : decode cX7_decode 4 = .ok (.iload_n 2, 1) := by decide +kernel
theorem dX7_decode_5 : decode cX7_decode 5 = .ok (.ifCond .eq 127, 3) := by decide +kernel
theorem dX7_decode_8 : decode cX7_decode 8 = .ok (.iload_n 1, 1) := by decide +kernel
theorem dX7_decode_9 : decode cX7_decode 9 = .ok (.bipush 40, 2) := by decide +kernel
theorem dX7_decode_11 : decode cX7_decode 11 = .ok (.if_icmp .ge 121, 3) := by decide +kernel
theorem dX7_decode_14 : decode cX7_decode 14 = .ok (.aload_n 0, 1) := by decide +kernel
theorem dX7_decode_15 : decode cX7_decode 15 = .ok (.getfield 110, 3) := by decide +kernel
theorem dX7_decode_18 : decode cX7_decode 18 = .ok (.istore_n 3, 1) := by decide +kernel
theorem dX7_decode_19 : decode cX7_decode 19 = .ok (.iload_n 3, 1) := by decide +kernel
theorem dX7_decode_20 : decode cX7_decode 20 = .ok (.iconst 4, 1) := by decide +kernel
theorem dX7_decode_21 : decode cX7_decode 21 = .ok (.iadd, 1) := by decide +kernel
theorem dX7_decode_22 : decode cX7_decode 22 = .ok (.aload_n 0, 1) := by decide +kernel
theorem dX7_decode_23 : decode cX7_decode 23 = .ok (.getfield 103, 3) := by decide +kernel
theorem dX7_decode_26 : decode cX7_decode 26 = .ok (.if_icmp .gt 17, 3) := by decide +kernel
theorem dX7_decode_29 : decode cX7_decode 29 = .ok (.aload_n 0, 1) := by decide +kernel
theorem dX7_decode_30 : decode cX7_decode 30 = .ok (.iload_n 3, 1) := by decide +kernel
theorem dX7_decode_31 : decode cX7_decode 31 = .ok (.invokevirtual 175, 3) := by decide +kernel
theorem dX7_decode_34 : decode cX7_decode 34 = .ok (.ifCond .ne 9, 3) := by decide +kernel
theorem dX7_decode_37 : decode cX7_decode 37 = .ok (.iinc 3 1, 3) := by decide +kernel
theorem dX7_decode_40 : decode cX7_decode 40 = .ok (.goto (-21), 3) := by decide +kernel
theorem dX7_decode_43 : decode cX7_decode 43 = .ok (.iload_n 3, 1) := by decide +kernel
theorem dX7_decode_44 : decode cX7_decode 44 = .ok (.iconst 4, 1) := by decide +kernel
theorem dX7_decode_45 : decode cX7_decode 45 = .ok (.iadd, 1) := by decide +kernel
theorem dX7_decode_46 : decode cX7_decode 46 = .ok (.aload_n 0, 1) := by decide +kernel
theorem dX7_decode_47 : decode cX7_decode 47 = .ok (.getfield 103, 3) := by decide +kernel
theorem dX7_decode_50 : decode cX7_decode 50 = .ok (.if_icmp .le 38, 3) := by decide +kernel
theorem dX7_decode_53 : decode cX7_decode 53 = .ok (.aload_n 0, 1) := by decide +kernel
theorem dX7_decode_54 : decode cX7_decode 54 = .ok (.getfield 103, 3) := by decide +kernel
theorem dX7_decode_57 : decode cX7_decode 57 = .ok (.iconst 3, 1) := by decide +kernel
theorem dX7_decode_58 : decode cX7_decode 58 = .ok (.isub, 1) := by decide +kernel
theorem dX7_decode_59 : decode cX7_decode 59 = .ok (.istore 4, 2) := by decide +kernel
theorem dX7_decode_61 : decode cX7_decode 61 = .ok (.aload_n 0, 1) := by decide +kernel
theorem dX7_decode_62 : decode cX7_decode 62 = .ok (.iload 4, 2) := by decide +kernel
theorem dX7_decode_64 : decode cX7_decode 64 = .ok (.aload_n 0, 1) := by decide +kernel
theorem dX7_decode_65 : decode cX7_decode 65 = .ok (.getfield 110, 3) := by decide +kernel
theorem dX7_decode_68 : decode cX7_decode 68 = .ok (.if_icmp .le 8, 3) := by decide +kernel
theorem dX7_decode_71 : decode cX7_decode 71 = .ok (.iload 4, 2) := by decide +kernel
theorem dX7_decode_73 : decode cX7_decode 73 = .ok (.goto 7, 3) := by decide +kernel
theorem dX7_decode_76 : decode cX7_decode 76 = .ok (.aload_n 0, 1) := by decide +kernel
theorem dX7_decode_77 : decode cX7_decode 77 = .ok (.getfield 110, 3) := by decide +kernel
theorem dX7_decode_80 : decode cX7_decode 80 = .ok (.putfield 110, 3) := by decide +kernel
theorem dX7_decode_83 : decode cX7_decode 83 = .ok (.iconst 0, 1) := by decide +kernel
theorem dX7_decode_84 : decode cX7_decode 84 = .ok (.istore_n 2, 1) := by decide +kernel
theorem dX7_decode_85 : decode cX7_decode 85 = .ok (.goto 44, 3) := by decide +kernel
theorem dX7_decode_88 : decode cX7_decode 88 = .ok (.iload_n 3, 1) := by decide +kernel
theorem dX7_decode_89 : decode cX7_decode 89 = .ok (.aload_n 0, 1) := by decide +kernel
theorem dX7_decode_90 : decode cX7_decode 90 = .ok (.getfield 163, 3) := by decide +kernel
theorem dX7_decode_93 : decode cX7_decode 93 = .ok (.iadd, 1) := by decide +kernel
theorem dX7_decode_94 : decode cX7_decode 94 = .ok (.aload_n 0, 1) := by decide +kernel
theorem dX7_decode_95 : decode cX7_decode 95 = .ok (.getfield 103, 3) := by decide +kernel
theorem dX7_decode_98 : decode cX7_decode 98 = .ok (.if_icmp .le 13, 3) := by decide +kernel
theorem dX7_decode_101 : decode cX7_decode 101 = .ok (.aload_n 0, 1) := by decide +kernel
theorem dX7_decode_102 : decode cX7_decode 102 = .ok (.iload_n 3, 1) := by decide +kernel
theorem dX7_decode_103 : decode cX7_decode 103 = .ok (.putfield 110, 3) := by decide +kernel
theorem dX7_decode_106 : decode cX7_decode 106 = .ok (.iconst 0, 1) := by decide +kernel
theorem dX7_decode_107 : decode cX7_decode 107 = .ok (.istore_n 2, 1) := by decide +kernel
theorem dX7_decode_108 : decode cX7_decode 108 = .ok (.goto 21, 3) := by decide +kernel
theorem dX7_decode_111 : decode cX7_decode 111 = .ok (.aload_n 0, 1) := by decide +kernel
theorem dX7_decode_112 : decode cX7_decode 112 = .ok (.iload_n 3, 1) := by decide +kernel
theorem dX7_decode_113 : decode cX7_decode 113 = .ok (.invokevirtual 179, 3) := by decide +kernel
theorem dX7_decode_116 : decode cX7_decode 116 = .ok (.aload_n 0, 1) := by decide +kernel
theorem dX7_decode_117 : decode cX7_decode 117 = .ok (.iload_n 3, 1) := by decide +kernel
theorem dX7_decode_118 : decode cX7_decode 118 = .ok (.aload_n 0, 1) := by decide +kernel
theorem dX7_decode_119 : decode cX7_decode 119 = .ok (.getfield 163, 3) := by decide +kernel
theorem dX7_decode_122 : decode cX7_decode 122 = .ok (.iadd, 1) := by decide +kernel
theorem dX7_decode_123 : decode cX7_decode 123 = .ok (.putfield 110, 3) := by decide +kernel
theorem dX7_decode_126 : decode cX7_decode 126 = .ok (.iinc 1 1, 3) := by decide +kernel
theorem dX7_decode_129 : decode cX7_decode 129 = .ok (.goto (-125), 3) := by decide +kernel
theorem dX7_decode_132 : decode cX7_decode 132 = .ok (.iload_n 1, 1) := by decide +kernel
theorem dX7_decode_133 : decode cX7_decode 133 = .ok (.ireturn, 1) := by decide +kernel
theorem dX7_take_0 : decode cX7_take 0 = .ok (.aload_n 0, 1) := by decide +kernel
theorem dX7_take_1 : decode cX7_take 1 = .ok (.iload_n 1, 1) := by decide +kernel
theorem dX7_take_2 : decode cX7_take 2 = .ok (.putfield 182, 3) := by decide +kernel
theorem dX7_take_5 : decode cX7_take 5 = .ok (.aload_n 0, 1) := by decide +kernel
theorem dX7_take_6 : decode cX7_take 6 = .ok (.getfield 15, 3) := by decide +kernel
theorem dX7_take_9 : decode cX7_take 9 = .ok (.aload_n 0, 1) := by decide +kernel
theorem dX7_take_10 : decode cX7_take 10 = .ok (.getfield 113, 3) := by decide +kernel
theorem dX7_take_13 : decode cX7_take 13 = .ok (.aaload, 1) := by decide +kernel
theorem dX7_take_14 : decode cX7_take 14 = .ok (.astore_n 2, 1) := by decide +kernel
theorem dX7_take_15 : decode cX7_take 15 = .ok (.aload_n 0, 1) := by decide +kernel
theorem dX7_take_16 : decode cX7_take 16 = .ok (.invokevirtual 185, 3) := by decide +kernel
theorem dX7_take_19 : decode cX7_take 19 = .ok (.istore_n 3, 1) := by decide +kernel
theorem dX7_take_20 : decode cX7_take 20 = .ok (.aload_n 2, 1) := by decide +kernel
theorem dX7_take_21 : decode cX7_take 21 = .ok (.iconst 0, 1) := by decide +kernel
theorem dX7_take_22 : decode cX7_take 22 = .ok (.iload_n 3, 1) := by decide +kernel
theorem dX7_take_23 : decode cX7_take 23 = .ok (.iastore, 1) := by decide +kernel
theorem dX7_take_24 : decode cX7_take 24 = .ok (.aload_n 2, 1) := by decide +kernel
theorem dX7_take_25 : decode cX7_take 25 = .ok (.iconst 1, 1) := by decide +kernel
theorem dX7_take_26 : decode cX7_take 26 = .ok (.iload_n 1, 1) := by decide +kernel
theorem dX7_take_27 : decode cX7_take 27 = .ok (.iastore, 1) := by decide +kernel
theorem dX7_take_28 : decode cX7_take 28 = .ok (.aload_n 2, 1) := by decide +kernel
theorem dX7_take_29 : decode cX7_take 29 = .ok (.iconst 2, 1) := by decide +kernel
theorem dX7_take_30 : decode cX7_take 30 = .ok (.aload_n 0, 1) := by decide +kernel
theorem dX7_take_31 : decode cX7_take 31 = .ok (.getfield 163, 3) := by decide +kernel
theorem dX7_take_34 : decode cX7_take 34 = .ok (.iastore, 1) := by decide +kernel
theorem dX7_take_35 : decode cX7_take 35 = .ok (.aload_n 2, 1) := by decide +kernel
theorem dX7_take_36 : decode cX7_take 36 = .ok (.iconst 3, 1) := by decide +kernel
theorem dX7_take_37 : decode cX7_take 37 = .ok (.aload_n 0, 1) := by decide +kernel
theorem dX7_take_38 : decode cX7_take 38 = .ok (.getfield 148, 3) := by decide +kernel
theorem dX7_take_41 : decode cX7_take 41 = .ok (.iastore, 1) := by decide +kernel
theorem dX7_take_42 : decode cX7_take 42 = .ok (.aload_n 2, 1) := by decide +kernel
theorem dX7_take_43 : decode cX7_take 43 = .ok (.iconst 4, 1) := by decide +kernel
theorem dX7_take_44 : decode cX7_take 44 = .ok (.aload_n 0, 1) := by decide +kernel
theorem dX7_take_45 : decode cX7_take 45 = .ok (.getfield 151, 3) := by decide +kernel
theorem dX7_take_48 : decode cX7_take 48 = .ok (.iastore, 1) := by decide +kernel
theorem dX7_take_49 : decode cX7_take 49 = .ok (.aload_n 2, 1) := by decide +kernel
theorem dX7_take_50 : decode cX7_take 50 = .ok (.iconst 5, 1) := by decide +kernel
theorem dX7_take_51 : decode cX7_take 51 = .ok (.aload_n 0, 1) := by decide +kernel
theorem dX7_take_52 : decode cX7_take 52 = .ok (.getfield 156, 3) := by decide +kernel
theorem dX7_take_55 : decode cX7_take 55 = .ok (.iastore, 1) := by decide +kernel
theorem dX7_take_56 : decode cX7_take 56 = .ok (.aload_n 2, 1) := by decide +kernel
theorem dX7_take_57 : decode cX7_take 57 = .ok (.bipush 6, 2) := by decide +kernel
theorem dX7_take_59 : decode cX7_take 59 = .ok (.aload_n 0, 1) := by decide +kernel
theorem dX7_take_60 : decode cX7_take 60 = .ok (.getfield 142, 3) := by decide +kernel
theorem dX7_take_63 : decode cX7_take 63 = .ok (.iastore, 1) := by decide +kernel
theorem dX7_take_64 : decode cX7_take 64 = .ok (.aload_n 2, 1) := by decide +kernel
theorem dX7_take_65 : decode cX7_take 65 = .ok (.bipush 7, 2) := by decide +kernel
theorem dX7_take_67 : decode cX7_take 67 = .ok (.aload_n 0, 1) := by decide +kernel
theorem dX7_take_68 : decode cX7_take 68 = .ok (.getfield 159, 3) := by decide +kernel
theorem dX7_take_71 : decode cX7_take 71 = .ok (.iastore, 1) := by decide +kernel
theorem dX7_take_72 : decode cX7_take 72 = .ok (.aload_n 2, 1) := by decide +kernel
theorem dX7_take_73 : decode cX7_take 73 = .ok (.bipush 8, 2) := by decide +kernel
theorem dX7_take_75 : decode cX7_take 75 = .ok (.aload_n 0, 1) := by decide +kernel
theorem dX7_take_76 : decode cX7_take 76 = .ok (.getfield 172, 3) := by decide +kernel
theorem dX7_take_79 : decode cX7_take 79 = .ok (.iastore, 1) := by decide +kernel
theorem dX7_take_80 : decode cX7_take 80 = .ok (.aload_n 2, 1) := by decide +kernel
theorem dX7_take_81 : decode cX7_take 81 = .ok (.bipush 9, 2) := by decide +kernel
theorem dX7_take_83 : decode cX7_take 83 = .ok (.iload_n 3, 1) := by decide +kernel
theorem dX7_take_84 : decode cX7_take 84 = .ok (.ifCond .ne 23, 3) := by decide +kernel
theorem dX7_take_87 : decode cX7_take 87 = .ok (.aload_n 0, 1) := by decide +kernel
theorem dX7_take_88 : decode cX7_take 88 = .ok (.getfield 148, 3) := by decide +kernel
theorem dX7_take_91 : decode cX7_take 91 = .ok (.iconst 1, 1) := by decide +kernel
theorem dX7_take_92 : decode cX7_take 92 = .ok (.if_icmp .ne 9, 3) := by decide +kernel
theorem dX7_take_95 : decode cX7_take 95 = .ok (.sipush 384, 3) := by decide +kernel
theorem dX7_take_98 : decode cX7_take 98 = .ok (.goto 10, 3) := by decide +kernel
theorem dX7_take_101 : decode cX7_take 101 = .ok (.sipush 1152, 3) := by decide +kernel
theorem dX7_take_104 : decode cX7_take 104 = .ok (.goto 4, 3) := by decide +kernel
theorem dX7_take_107 : decode cX7_take 107 = .ok (.iconst 0, 1) := by decide +kernel
theorem dX7_take_108 : decode cX7_take 108 = .ok (.iastore, 1) := by decide +kernel
theorem dX7_take_109 : decode cX7_take 109 = .ok (.aload_n 0, 1) := by decide +kernel
theorem dX7_take_110 : decode cX7_take 110 = .ok (.dup, 1) := by decide +kernel
theorem dX7_take_111 : decode cX7_take 111 = .ok (.getfield 113, 3) := by decide +kernel
theorem dX7_take_114 : decode cX7_take 114 = .ok (.iconst 1, 1) := by decide +kernel
theorem dX7_take_115 : decode cX7_take 115 = .ok (.iadd, 1) := by decide +kernel
theorem dX7_take_116 : decode cX7_take 116 = .ok (.putfield 113, 3) := by decide +kernel
theorem dX7_take_119 : decode cX7_take 119 = .ok (.iload_n 3, 1) := by decide +kernel
theorem dX7_take_120 : decode cX7_take 120 = .ok (.ifCond .ne 21, 3) := by decide +kernel
theorem dX7_take_123 : decode cX7_take 123 = .ok (.aload_n 0, 1) := by decide +kernel
theorem dX7_take_124 : decode cX7_take 124 = .ok (.dup, 1) := by decide +kernel
theorem dX7_take_125 : decode cX7_take 125 = .ok (.getfield 116, 3) := by decide +kernel
theorem dX7_take_128 : decode cX7_take 128 = .ok (.iconst 1, 1) := by decide +kernel
theorem dX7_take_129 : decode cX7_take 129 = .ok (.iadd, 1) := by decide +kernel
theorem dX7_take_130 : decode cX7_take 130 = .ok (.putfield 116, 3) := by decide +kernel
theorem dX7_take_133 : decode cX7_take 133 = .ok (.aload_n 0, 1) := by decide +kernel
theorem dX7_take_134 : decode cX7_take 134 = .ok (.invokevirtual 189, 3) := by decide +kernel
theorem dX7_take_137 : decode cX7_take 137 = .ok (.aload_n 0, 1) := by decide +kernel
theorem dX7_take_138 : decode cX7_take 138 = .ok (.invokevirtual 192, 3) := by decide +kernel
theorem dX7_take_141 : decode cX7_take 141 = .ok (.return_, 1) := by decide +kernel
theorem dX7_checked_0 : decode cX7_checked 0 = .ok (.aload_n 0, 1) := by decide +kernel
theorem dX7_checked_1 : decode cX7_checked 1 = .ok (.iload_n 1, 1) := by decide +kernel
theorem dX7_checked_2 : decode cX7_checked 2 = .ok (.invokevirtual 132, 3) := by decide +kernel
theorem dX7_checked_5 : decode cX7_checked 5 = .ok (.istore_n 2, 1) := by decide +kernel
theorem dX7_checked_6 : decode cX7_checked 6 = .ok (.iload_n 1, 1) := by decide +kernel
theorem dX7_checked_7 : decode cX7_checked 7 = .ok (.iconst 1, 1) := by decide +kernel
theorem dX7_checked_8 : decode cX7_checked 8 = .ok (.isub, 1) := by decide +kernel
theorem dX7_checked_9 : decode cX7_checked 9 = .ok (.istore_n 3, 1) := by decide +kernel
theorem dX7_checked_10 : decode cX7_checked 10 = .ok (.iload_n 3, 1) := by decide +kernel
theorem dX7_checked_11 : decode cX7_checked 11 = .ok (.ifCond .lt 59, 3) := by decide +kernel
theorem dX7_checked_14 : decode cX7_checked 14 = .ok (.aload_n 0, 1) := by decide +kernel
theorem dX7_checked_15 : decode cX7_checked 15 = .ok (.getfield 129, 3) := by decide +kernel
theorem dX7_checked_18 : decode cX7_checked 18 = .ok (.ifCond .ne 52, 3) := by decide +kernel
theorem dX7_checked_21 : decode cX7_checked 21 = .ok (.aload_n 0, 1) := by decide +kernel
theorem dX7_checked_22 : decode cX7_checked 22 = .ok (.getfield 195, 3) := by decide +kernel
theorem dX7_checked_25 : decode cX7_checked 25 = .ok (.bipush 15, 2) := by decide +kernel
theorem dX7_checked_27 : decode cX7_checked 27 = .ok (.ishr, 1) := by decide +kernel
theorem dX7_checked_28 : decode cX7_checked 28 = .ok (.iconst 1, 1) := by decide +kernel
theorem dX7_checked_29 : decode cX7_checked 29 = .ok (.iand, 1) := by decide +kernel
theorem dX7_checked_30 : decode cX7_checked 30 = .ok (.iload_n 2, 1) := by decide +kernel
theorem dX7_checked_31 : decode cX7_checked 31 = .ok (.iload_n 3, 1) := by decide +kernel
theorem dX7_checked_32 : decode cX7_checked 32 = .ok (.ishr, 1) := by decide +kernel
theorem dX7_checked_33 : decode cX7_checked 33 = .ok (.iconst 1, 1) := by decide +kernel
theorem dX7_checked_34 : decode cX7_checked 34 = .ok (.iand, 1) := by decide +kernel
theorem dX7_checked_35 : decode cX7_checked 35 = .ok (.ixor, 1) := by decide +kernel
theorem dX7_checked_36 : decode cX7_checked 36 = .ok (.istore 4, 2) := by decide +kernel
theorem dX7_checked_38 : decode cX7_checked 38 = .ok (.aload_n 0, 1) := by decide +kernel
theorem dX7_checked_39 : decode cX7_checked 39 = .ok (.aload_n 0, 1) := by decide +kernel
theorem dX7_checked_40 : decode cX7_checked 40 = .ok (.getfield 195, 3) := by decide +kernel
theorem dX7_checked_43 : decode cX7_checked 43 = .ok (.iconst 1, 1) := by decide +kernel
theorem dX7_checked_44 : decode cX7_checked 44 = .ok (.ishl, 1) := by decide +kernel
theorem dX7_checked_45 : decode cX7_checked 45 = .ok (.ldc 198, 2) := by decide +kernel
theorem dX7_checked_47 : decode cX7_checked 47 = .ok (.iand, 1) := by decide +kernel
theorem dX7_checked_48 : decode cX7_checked 48 = .ok (.iload 4, 2) := by decide +kernel
theorem dX7_checked_50 : decode cX7_checked 50 = .ok (.iconst 1, 1) := by decide +kernel
theorem dX7_checked_51 : decode cX7_checked 51 = .ok (.if_icmp .ne 8, 3) := by decide +kernel
