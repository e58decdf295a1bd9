theorem dX7_checked_54 : decode cX7_checked 54 = .ok (.ldc 199, 2) := by decide +kernel
theorem dX7_checked_56 : decode cX7_checked 56 = .ok (.goto 4, 3) := by decide +kernel
theorem dX7_checked_59 : decode cX7_checked 59 = .ok (.iconst 0, 1) := by decide +kernel
theorem dX7_checked_60 : decode cX7_checked 60 = .ok (.ixor, 1) := by decide +kernel
theorem dX7_checked_61 : decode cX7_checked 61 = .ok (.putfield 195, 3) := by decide +kernel
theorem dX7_checked_64 : decode cX7_checked 64 = .ok (.iinc 3 (-1), 3) := by decide +kernel
theorem dX7_checked_67 : decode cX7_checked 67 = .ok (.goto (-57), 3) := by decide +kernel
theorem dX7_checked_70 : decode cX7_checked 70 = .ok (.iload_n 2, 1) := by decide +kernel
theorem dX7_checked_71 : decode cX7_checked 71 = .ok (.ireturn, 1) := by decide +kernel
theorem dX7_allocationBits_0 : decode cX7_allocationBits 0 = .ok (.aload_n 0, 1) := by decide +kernel
theorem dX7_allocationBits_1 : decode cX7_allocationBits 1 = .ok (.getfield 148, 3) := by decide +kernel
theorem dX7_allocationBits_4 : decode cX7_allocationBits 4 = .ok (.iconst 1, 1) := by decide +kernel
theorem dX7_allocationBits_5 : decode cX7_allocationBits 5 = .ok (.if_icmp .ne 5, 3) := by decide +kernel
theorem dX7_allocationBits_8 : decode cX7_allocationBits 8 = .ok (.iconst 4, 1) := by decide +kernel
theorem dX7_allocationBits_9 : decode cX7_allocationBits 9 = .ok (.ireturn, 1) := by decide +kernel
theorem dX7_allocationBits_10 : decode cX7_allocationBits 10 = .ok (.aload_n 0, 1) := by decide +kernel
theorem dX7_allocationBits_11 : decode cX7_allocationBits 11 = .ok (.invokevirtual 200, 3) := by decide +kernel
theorem dX7_allocationBits_14 : decode cX7_allocationBits 14 = .ok (.ifCond .eq 25, 3) := by decide +kernel
theorem dX7_allocationBits_17 : decode cX7_allocationBits 17 = .ok (.iload_n 1, 1) := by decide +kernel
theorem dX7_allocationBits_18 : decode cX7_allocationBits 18 = .ok (.bipush 11, 2) := by decide +kernel
theorem dX7_allocationBits_20 : decode cX7_allocationBits 20 = .ok (.if_icmp .ge 7, 3) := by decide +kernel
theorem dX7_allocationBits_23 : decode cX7_allocationBits 23 = .ok (.iconst 4, 1) := by decide +kernel
theorem dX7_allocationBits_24 : decode cX7_allocationBits 24 = .ok (.goto 14, 3) := by decide +kernel
theorem dX7_allocationBits_27 : decode cX7_allocationBits 27 = .ok (.iload_n 1, 1) := by decide +kernel
theorem dX7_allocationBits_28 : decode cX7_allocationBits 28 = .ok (.bipush 23, 2) := by decide +kernel
theorem dX7_allocationBits_30 : decode cX7_allocationBits 30 = .ok (.if_icmp .ge 7, 3) := by decide +kernel
theorem dX7_allocationBits_33 : decode cX7_allocationBits 33 = .ok (.iconst 3, 1) := by decide +kernel
theorem dX7_allocationBits_34 : decode cX7_allocationBits 34 = .ok (.goto 4, 3) := by decide +kernel
theorem dX7_allocationBits_37 : decode cX7_allocationBits 37 = .ok (.iconst 2, 1) := by decide +kernel
theorem dX7_allocationBits_38 : decode cX7_allocationBits 38 = .ok (.ireturn, 1) := by decide +kernel
theorem dX7_allocationBits_39 : decode cX7_allocationBits 39 = .ok (.iload_n 1, 1) := by decide +kernel
theorem dX7_allocationBits_40 : decode cX7_allocationBits 40 = .ok (.iconst 2, 1) := by decide +kernel
theorem dX7_allocationBits_41 : decode cX7_allocationBits 41 = .ok (.if_icmp .ge 7, 3) := by decide +kernel
theorem dX7_allocationBits_44 : decode cX7_allocationBits 44 = .ok (.iconst 4, 1) := by decide +kernel
theorem dX7_allocationBits_45 : decode cX7_allocationBits 45 = .ok (.goto 4, 3) := by decide +kernel
theorem dX7_allocationBits_48 : decode cX7_allocationBits 48 = .ok (.iconst 3, 1) := by decide +kernel
theorem dX7_allocationBits_49 : decode cX7_allocationBits 49 = .ok (.ireturn, 1) := by decide +kernel
theorem dX7_classOf_0 : decode cX7_classOf 0 = .ok (.aload_n 0, 1) := by decide +kernel
theorem dX7_classOf_1 : decode cX7_classOf 1 = .ok (.invokevirtual 200, 3) := by decide +kernel
theorem dX7_classOf_4 : decode cX7_classOf 4 = .ok (.ifCond .ne 16, 3) := by decide +kernel
theorem dX7_classOf_7 : decode cX7_classOf 7 = .ok (.iload_n 2, 1) := by decide +kernel
theorem dX7_classOf_8 : decode cX7_classOf 8 = .ok (.iconst 3, 1) := by decide +kernel
theorem dX7_classOf_9 : decode cX7_classOf 9 = .ok (.if_icmp .ge 9, 3) := by decide +kernel
theorem dX7_classOf_12 : decode cX7_classOf 12 = .ok (.iload_n 2, 1) := by decide +kernel
theorem dX7_classOf_13 : decode cX7_classOf 13 = .ok (.iconst 1, 1) := by decide +kernel
theorem dX7_classOf_14 : decode cX7_classOf 14 = .ok (.isub, 1) := by decide +kernel
theorem dX7_classOf_15 : decode cX7_classOf 15 = .ok (.goto 4, 3) := by decide +kernel
theorem dX7_classOf_18 : decode cX7_classOf 18 = .ok (.iload_n 2, 1) := by decide +kernel
theorem dX7_classOf_19 : decode cX7_classOf 19 = .ok (.ireturn, 1) := by decide +kernel
theorem dX7_classOf_20 : decode cX7_classOf 20 = .ok (.iload_n 1, 1) := by decide +kernel
theorem dX7_classOf_21 : decode cX7_classOf 21 = .ok (.iconst 3, 1) := by decide +kernel
theorem dX7_classOf_22 : decode cX7_classOf 22 = .ok (.if_icmp .ge 25, 3) := by decide +kernel
theorem dX7_classOf_25 : decode cX7_classOf 25 = .ok (.iload_n 2, 1) := by decide +kernel
theorem dX7_classOf_26 : decode cX7_classOf 26 = .ok (.iconst 1, 1) := by decide +kernel
theorem dX7_classOf_27 : decode cX7_classOf 27 = .ok (.if_icmp .ne 7, 3) := by decide +kernel
theorem dX7_classOf_30 : decode cX7_classOf 30 = .ok (.iconst 0, 1) := by decide +kernel
theorem dX7_classOf_31 : decode cX7_classOf 31 = .ok (.goto 15, 3) := by decide +kernel
theorem dX7_classOf_34 : decode cX7_classOf 34 = .ok (.iload_n 2, 1) := by decide +kernel
theorem dX7_classOf_35 : decode cX7_classOf 35 = .ok (.iconst 2, 1) := by decide +kernel
theorem dX7_classOf_36 : decode cX7_classOf 36 = .ok (.if_icmp .ne 7, 3) := by decide +kernel
theorem dX7_classOf_39 : decode cX7_classOf 39 = .ok (.iconst 2, 1) := by decide +kernel
theorem dX7_classOf_40 : decode cX7_classOf 40 = .ok (.goto 6, 3) := by decide +kernel
theorem dX7_classOf_43 : decode cX7_classOf 43 = .ok (.iload_n 2, 1) := by decide +kernel
theorem dX7_classOf_44 : decode cX7_classOf 44 = .ok (.iconst 1, 1) := by decide +kernel
theorem dX7_classOf_45 : decode cX7_classOf 45 = .ok (.iadd, 1) := by decide +kernel
theorem dX7_classOf_46 : decode cX7_classOf 46 = .ok (.ireturn, 1) := by decide +kernel
theorem dX7_classOf_47 : decode cX7_classOf 47 = .ok (.iload_n 1, 1) := by decide +kernel
theorem dX7_classOf_48 : decode cX7_classOf 48 = .ok (.bipush 11, 2) := by decide +kernel
theorem dX7_classOf_50 : decode cX7_classOf 50 = .ok (.if_icmp .ge 18, 3) := by decide +kernel
theorem dX7_classOf_53 : decode cX7_classOf 53 = .ok (.iload_n 2, 1) := by decide +kernel
theorem dX7_classOf_54 : decode cX7_classOf 54 = .ok (.bipush 15, 2) := by decide +kernel
theorem dX7_classOf_56 : decode cX7_classOf 56 = .ok (.if_icmp .ne 8, 3) := by decide +kernel
theorem dX7_classOf_59 : decode cX7_classOf 59 = .ok (.bipush 16, 2) := by decide +kernel
theorem dX7_classOf_61 : decode cX7_classOf 61 = .ok (.goto 6, 3) := by decide +kernel
theorem dX7_classOf_64 : decode cX7_classOf 64 = .ok (.iload_n 2, 1) := by decide +kernel
theorem dX7_classOf_65 : decode cX7_classOf 65 = .ok (.iconst 1, 1) := by decide +kernel
theorem dX7_classOf_66 : decode cX7_classOf 66 = .ok (.isub, 1) := by decide +kernel
theorem dX7_classOf_67 : decode cX7_classOf 67 = .ok (.ireturn, 1) := by decide +kernel
theorem dX7_classOf_68 : decode cX7_classOf 68 = .ok (.iload_n 1, 1) := by decide +kernel
theorem dX7_classOf_69 : decode cX7_classOf 69 = .ok (.bipush 23, 2) := by decide +kernel
theorem dX7_classOf_71 : decode cX7_classOf 71 = .ok (.if_icmp .ge 20, 3) := by decide +kernel
theorem dX7_classOf_74 : decode cX7_classOf 74 = .ok (.iload_n 2, 1) := by decide +kernel
theorem dX7_classOf_75 : decode cX7_classOf 75 = .ok (.bipush 7, 2) := by decide +kernel
theorem dX7_classOf_77 : decode cX7_classOf 77 = .ok (.if_icmp .ne 8, 3) := by decide +kernel
theorem dX7_classOf_80 : decode cX7_classOf 80 = .ok (.bipush 16, 2) := by decide +kernel
theorem dX7_classOf_82 : decode cX7_classOf 82 = .ok (.goto 22, 3) := by decide +kernel
theorem dX7_classOf_85 : decode cX7_classOf 85 = .ok (.iload_n 2, 1) := by decide +kernel
theorem dX7_classOf_86 : decode cX7_classOf 86 = .ok (.iconst 1, 1) := by decide +kernel
theorem dX7_classOf_87 : decode cX7_classOf 87 = .ok (.isub, 1) := by decide +kernel
theorem dX7_classOf_88 : decode cX7_classOf 88 = .ok (.goto 16, 3) := by decide +kernel
theorem dX7_classOf_91 : decode cX7_classOf 91 = .ok (.iload_n 2, 1) := by decide +kernel
theorem dX7_classOf_92 : decode cX7_classOf 92 = .ok (.iconst 3, 1) := by decide +kernel
theorem dX7_classOf_93 : decode cX7_classOf 93 = .ok (.if_icmp .ne 8, 3) := by decide +kernel
theorem dX7_classOf_96 : decode cX7_classOf 96 = .ok (.bipush 16, 2) := by decide +kernel
theorem dX7_classOf_98 : decode cX7_classOf 98 = .ok (.goto 6, 3) := by decide +kernel
theorem dX7_classOf_101 : decode cX7_classOf 101 = .ok (.iload_n 2, 1) := by decide +kernel
theorem dX7_classOf_102 : decode cX7_classOf 102 = .ok (.iconst 1, 1) := by decide +kernel
theorem dX7_classOf_103 : decode cX7_classOf 103 = .ok (.isub, 1) := by decide +kernel
theorem dX7_classOf_104 : decode cX7_classOf 104 = .ok (.ireturn, 1) := by decide +kernel
theorem dX7_stepsBy_0 : decode cX7_stepsBy 0 = .ok (.iload_n 2, 1) := by decide +kernel
theorem dX7_stepsBy_1 : decode cX7_stepsBy 1 = .ok (.ifCond .ne 5, 3) := by decide +kernel
theorem dX7_stepsBy_4 : decode cX7_stepsBy 4 = .ok (.iconst 0, 1) := by decide +kernel
theorem dX7_stepsBy_5 : decode cX7_stepsBy 5 = .ok (.ireturn, 1) := by decide +kernel
theorem dX7_stepsBy_6 : decode cX7_stepsBy 6 = .ok (.aload_n 0, 1) := by decide +kernel
theorem dX7_stepsBy_7 : decode cX7_stepsBy 7 = .ok (.getfield 148, 3) := by decide +kernel
theorem dX7_stepsBy_10 : decode cX7_stepsBy 10 = .ok (.iconst 1, 1) := by decide +kernel
theorem dX7_stepsBy_11 : decode cX7_stepsBy 11 = .ok (.if_icmp .ne 11, 3) := by decide +kernel
theorem dX7_stepsBy_14 : decode cX7_stepsBy 14 = .ok (.iconst 1, 1) := by decide +kernel
theorem dX7_stepsBy_15 : decode cX7_stepsBy 15 = .ok (.iload_n 2, 1) := by decide +kernel
theorem dX7_stepsBy_16 : decode cX7_stepsBy 16 = .ok (.iconst 1, 1) := by decide +kernel
theorem dX7_stepsBy_17 : decode cX7_stepsBy 17 = .ok (.iadd, 1) := by decide +kernel
theorem dX7_stepsBy_18 : decode cX7_stepsBy 18 = .ok (.ishl, 1) := by decide +kernel
theorem dX7_stepsBy_19 : decode cX7_stepsBy 19 = .ok (.iconst 1, 1) := by decide +kernel
theorem dX7_stepsBy_20 : decode cX7_stepsBy 20 = .ok (.isub, 1) := by decide +kernel
theorem dX7_stepsBy_21 : decode cX7_stepsBy 21 = .ok (.ireturn, 1) := by decide +kernel
theorem dX7_stepsBy_22 : decode cX7_stepsBy 22 = .ok (.aload_n 0, 1) := by decide +kernel
theorem dX7_stepsBy_23 : decode cX7_stepsBy 23 = .ok (.iload_n 1, 1) := by decide +kernel
theorem dX7_stepsBy_24 : decode cX7_stepsBy 24 = .ok (.iload_n 2, 1) := by decide +kernel
theorem dX7_stepsBy_25 : decode cX7_stepsBy 25 = .ok (.invokevirtual 204, 3) := by decide +kernel
theorem dX7_stepsBy_28 : decode cX7_stepsBy 28 = .ok (.istore_n 3, 1) := by decide +kernel
theorem dX7_stepsBy_29 : decode cX7_stepsBy 29 = .ok (.iload_n 3, 1) := by decide +kernel
theorem dX7_stepsBy_30 : decode cX7_stepsBy 30 = .ok (.iconst 4, 1) := by decide +kernel
theorem dX7_stepsBy_31 : decode cX7_stepsBy 31 = .ok (.if_icmp .ge 11, 3) := by decide +kernel
theorem dX7_stepsBy_34 : decode cX7_stepsBy 34 = .ok (.iconst 2, 1) := by decide +kernel
theorem dX7_stepsBy_35 : decode cX7_stepsBy 35 = .ok (.iload_n 3, 1) := by decide +kernel
theorem dX7_stepsBy_36 : decode cX7_stepsBy 36 = .ok (.imul, 1) := by decide +kernel
theorem dX7_stepsBy_37 : decode cX7_stepsBy 37 = .ok (.iconst 3, 1) := by decide +kernel
theorem dX7_stepsBy_38 : decode cX7_stepsBy 38 = .ok (.iadd, 1) := by decide +kernel
theorem dX7_stepsBy_39 : decode cX7_stepsBy 39 = .ok (.goto 8, 3) := by decide +kernel
theorem dX7_stepsBy_42 : decode cX7_stepsBy 42 = .ok (.iconst 1, 1) := by decide +kernel
theorem dX7_stepsBy_43 : decode cX7_stepsBy 43 = .ok (.iload_n 3, 1) := by decide +kernel
theorem dX7_stepsBy_44 : decode cX7_stepsBy 44 = .ok (.ishl, 1) := by decide +kernel
theorem dX7_stepsBy_45 : decode cX7_stepsBy 45 = .ok (.iconst 1, 1) := by decide +kernel
theorem dX7_stepsBy_46 : decode cX7_stepsBy 46 = .ok (.isub, 1) := by decide +kernel
theorem dX7_stepsBy_47 : decode cX7_stepsBy 47 = .ok (.ireturn, 1) := by decide +kernel
theorem dX7_read_0 : decode cX7_read 0 = .ok (.aload_n 0, 1) := by decide +kernel
theorem dX7_read_1 : decode cX7_read 1 = .ok (.bipush 8, 2) := by decide +kernel
theorem dX7_read_3 : decode cX7_read 3 = .ok (.aload_n 0, 1) := by decide +kernel
theorem dX7_read_4 : decode cX7_read 4 = .ok (.getfield 182, 3) := by decide +kernel
theorem dX7_read_7 : decode cX7_read 7 = .ok (.imul, 1) := by decide +kernel
theorem dX7_read_8 : decode cX7_read 8 = .ok (.putfield 123, 3) := by decide +kernel
theorem dX7_read_11 : decode cX7_read 11 = .ok (.aload_n 0, 1) := by decide +kernel
theorem dX7_read_12 : decode cX7_read 12 = .ok (.bipush 8, 2) := by decide +kernel
theorem dX7_read_14 : decode cX7_read 14 = .ok (.aload_n 0, 1) := by decide +kernel
theorem dX7_read_15 : decode cX7_read 15 = .ok (.getfield 182, 3) := by decide +kernel
theorem dX7_read_18 : decode cX7_read 18 = .ok (.aload_n 0, 1) := by decide +kernel
theorem dX7_read_19 : decode cX7_read 19 = .ok (.getfield 163, 3) := by decide +kernel
theorem dX7_read_22 : decode cX7_read 22 = .ok (.iadd, 1) := by decide +kernel
theorem dX7_read_23 : decode cX7_read 23 = .ok (.imul, 1) := by decide +kernel
theorem dX7_read_24 : decode cX7_read 24 = .ok (.putfield 126, 3) := by decide +kernel
theorem dX7_read_27 : decode cX7_read 27 = .ok (.aload_n 0, 1) := by decide +kernel
theorem dX7_read_28 : decode cX7_read 28 = .ok (.iconst 0, 1) := by decide +kernel
theorem dX7_read_29 : decode cX7_read 29 = .ok (.putfield 129, 3) := by decide +kernel
theorem dX7_read_32 : decode cX7_read 32 = .ok (.aload_n 0, 1) := by decide +kernel
theorem dX7_read_33 : decode cX7_read 33 = .ok (.ldc 198, 2) := by decide +kernel
theorem dX7_read_35 : decode cX7_read 35 = .ok (.putfield 195, 3) := by decide +kernel
theorem dX7_read_38 : decode cX7_read 38 = .ok (.aload_n 0, 1) := by decide +kernel
theorem dX7_read_39 : decode cX7_read 39 = .ok (.bipush 16, 2) := by decide +kernel
theorem dX7_read_41 : decode cX7_read 41 = .ok (.invokevirtual 132, 3) := by decide +kernel
theorem dX7_read_44 : decode cX7_read 44 = .ok (.pop, 1) := by decide +kernel
theorem dX7_read_45 : decode cX7_read 45 = .ok (.aload_n 0, 1) := by decide +kernel
theorem dX7_read_46 : decode cX7_read 46 = .ok (.bipush 16, 2) := by decide +kernel
theorem dX7_read_48 : decode cX7_read 48 = .ok (.invokevirtual 208, 3) := by decide +kernel
theorem dX7_read_51 : decode cX7_read 51 = .ok (.pop, 1) := by decide +kernel
theorem dX7_read_52 : decode cX7_read 52 = .ok (.aload_n 0, 1) := by decide +kernel
theorem dX7_read_53 : decode cX7_read 53 = .ok (.getfield 136, 3) := by decide +kernel
theorem dX7_read_56 : decode cX7_read 56 = .ok (.ifCond .eq 12, 3) := by decide +kernel
theorem dX7_read_59 : decode cX7_read 59 = .ok (.aload_n 0, 1) := by decide +kernel
theorem dX7_read_60 : decode cX7_read 60 = .ok (.bipush 16, 2) := by decide +kernel
theorem dX7_read_62 : decode cX7_read 62 = .ok (.invokevirtual 132, 3) := by decide +kernel
theorem dX7_read_65 : decode cX7_read 65 = .ok (.goto 4, 3) := by decide +kernel
theorem dX7_read_68 : decode cX7_read 68 = .ok (.iconst 0, 1) := by decide +kernel
theorem dX7_read_69 : decode cX7_read 69 = .ok (.istore_n 1, 1) := by decide +kernel
theorem dX7_read_70 : decode cX7_read 70 = .ok (.iconst 0, 1) := by decide +kernel
theorem dX7_read_71 : decode cX7_read 71 = .ok (.istore_n 2, 1) := by decide +kernel
theorem dX7_read_72 : decode cX7_read 72 = .ok (.iload_n 2, 1) := by decide +kernel
theorem dX7_read_73 : decode cX7_read 73 = .ok (.aload_n 0, 1) := by decide +kernel
theorem dX7_read_74 : decode cX7_read 74 = .ok (.getfield 169, 3) := by decide +kernel
theorem dX7_read_77 : decode cX7_read 77 = .ok (.if_icmp .ge 66, 3) := by decide +kernel
theorem dX7_read_80 : decode cX7_read 80 = .ok (.iconst 0, 1) := by decide +kernel
theorem dX7_read_81 : decode cX7_read 81 = .ok (.istore_n 3, 1) := by decide +kernel
theorem dX7_read_82 : decode cX7_read 82 = .ok (.iload_n 3, 1) := by decide +kernel
theorem dX7_read_83 : decode cX7_read 83 = .ok (.aload_n 0, 1) := by decide +kernel
theorem dX7_read_84 : decode cX7_read 84 = .ok (.getfield 159, 3) := by decide +kernel
theorem dX7_read_87 : decode cX7_read 87 = .ok (.if_icmp .ge 50, 3) := by decide +kernel
theorem dX7_read_90 : decode cX7_read 90 = .ok (.aload_n 0, 1) := by decide +kernel
theorem dX7_read_91 : decode cX7_read 91 = .ok (.getfield 46, 3) := by decide +kernel
theorem dX7_read_94 : decode cX7_read 94 = .ok (.iload_n 3, 1) := by decide +kernel
theorem dX7_read_95 : decode cX7_read 95 = .ok (.aaload, 1) := by decide +kernel
theorem dX7_read_96 : decode cX7_read 96 = .ok (.iload_n 2, 1) := by decide +kernel
theorem dX7_read_97 : decode cX7_read 97 = .ok (.iload_n 3, 1) := by decide +kernel
theorem dX7_read_98 : decode cX7_read 98 = .ok (.iconst 1, 1) := by decide +kernel
theorem dX7_read_99 : decode cX7_read 99 = .ok (.if_icmp .ne 22, 3) := by decide +kernel
theorem dX7_read_102 : decode cX7_read 102 = .ok (.iload_n 2, 1) := by decide +kernel
theorem dX7_read_103 : decode cX7_read 103 = .ok (.aload_n 0, 1) := by decide +kernel
theorem dX7_read_104 : decode cX7_read 104 = .ok (.getfield 172, 3) := by decide +kernel
theorem dX7_read_107 : decode cX7_read 107 = .ok (.if_icmp .lt 14, 3) := by decide +kernel
theorem dX7_read_110 : decode cX7_read 110 = .ok (.aload_n 0, 1) := by decide +kernel
theorem dX7_read_111 : decode cX7_read 111 = .ok (.getfield 46, 3) := by decide +kernel
theorem dX7_read_114 : decode cX7_read 114 = .ok (.iconst 0, 1) := by decide +kernel
theorem dX7_read_115 : decode cX7_read 115 = .ok (.aaload, 1) := by decide +kernel
theorem dX7_read_116 : decode cX7_read 116 = .ok (.iload_n 2, 1) := by decide +kernel
theorem dX7_read_117 : decode cX7_read 117 = .ok (.iaload, 1) := by decide +kernel
theorem dX7_read_118 : decode cX7_read 118 = .ok (.goto 12, 3) := by decide +kernel
theorem dX7_read_121 : decode cX7_read 121 = .ok (.aload_n 0, 1) := by decide +kernel
theorem dX7_read_122 : decode cX7_read 122 = .ok (.aload_n 0, 1) := by decide +kernel
theorem dX7_read_123 : decode cX7_read 123 = .ok (.iload_n 2, 1) := by decide +kernel
theorem dX7_read_124 : decode cX7_read 124 = .ok (.invokevirtual 211, 3) := by decide +kernel
theorem dX7_read_127 : decode cX7_read 127 = .ok (.invokevirtual 208, 3) := by decide +kernel
theorem dX7_read_130 : decode cX7_read 130 = .ok (.iastore, 1) := by decide +kernel
theorem dX7_read_131 : decode cX7_read 131 = .ok (.iinc 3 1, 3) := by decide +kernel
theorem dX7_read_134 : decode cX7_read 134 = .ok (.goto (-52), 3) := by decide +kernel
theorem dX7_read_137 : decode cX7_read 137 = .ok (.iinc 2 1, 3) := by decide +kernel
theorem dX7_read_140 : decode cX7_read 140 = .ok (.goto (-68), 3) := by decide +kernel
theorem dX7_read_143 : decode cX7_read 143 = .ok (.iconst 0, 1) := by decide +kernel
theorem dX7_read_144 : decode cX7_read 144 = .ok (.istore_n 2, 1) := by decide +kernel
theorem dX7_read_145 : decode cX7_read 145 = .ok (.aload_n 0, 1) := by decide +kernel
theorem dX7_read_146 : decode cX7_read 146 = .ok (.getfield 148, 3) := by decide +kernel
theorem dX7_read_149 : decode cX7_read 149 = .ok (.iconst 2, 1) := by decide +kernel
theorem dX7_read_150 : decode cX7_read 150 = .ok (.if_icmp .ne 61, 3) := by decide +kernel
theorem dX7_read_153 : decode cX7_read 153 = .ok (.iload_n 2, 1) := by decide +kernel
theorem dX7_read_154 : decode cX7_read 154 = .ok (.aload_n 0, 1) := by decide +kernel
theorem dX7_read_155 : decode cX7_read 155 = .ok (.getfield 169, 3) := by decide +kernel
theorem dX7_read_158 : decode cX7_read 158 = .ok (.if_icmp .ge 53, 3) := by decide +kernel
theorem dX7_read_161 : decode cX7_read 161 = .ok (.iconst 0, 1) := by decide +kernel
theorem dX7_read_162 : decode cX7_read 162 = .ok (.istore_n 3, 1) := by decide +kernel
theorem dX7_read_163 : decode cX7_read 163 = .ok (.iload_n 3, 1) := by decide +kernel
theorem dX7_read_164 : decode cX7_read 164 = .ok (.aload_n 0, 1) := by decide +kernel
theorem dX7_read_165 : decode cX7_read 165 = .ok (.getfield 159, 3) := by decide +kernel
theorem dX7_read_168 : decode cX7_read 168 = .ok (.if_icmp .ge 37, 3) := by decide +kernel
theorem dX7_read_171 : decode cX7_read 171 = .ok (.aload_n 0, 1) := by decide +kernel
theorem dX7_read_172 : decode cX7_read 172 = .ok (.getfield 43, 3) := by decide +kernel
theorem dX7_read_175 : decode cX7_read 175 = .ok (.iload_n 3, 1) := by decide +kernel
theorem dX7_read_176 : decode cX7_read 176 = .ok (.aaload, 1) := by decide +kernel
theorem dX7_read_177 : decode cX7_read 177 = .ok (.iload_n 2, 1) := by decide +kernel
theorem dX7_read_178 : decode cX7_read 178 = .ok (.aload_n 0, 1) := by decide +kernel
theorem dX7_read_179 : decode cX7_read 179 = .ok (.getfield 46, 3) := by decide +kernel
theorem dX7_read_182 : decode cX7_read 182 = .ok (.iload_n 3, 1) := by decide +kernel
theorem dX7_read_183 : decode cX7_read 183 = .ok (.aaload, 1) := by decide +kernel
theorem dX7_read_184 : decode cX7_read 184 = .ok (.iload_n 2, 1) := by decide +kernel
theorem dX7_read_185 : decode cX7_read 185 = .ok (.iaload, 1) := by decide +kernel
theorem dX7_read_186 : decode cX7_read 186 = .ok (.ifCond .le 11, 3) := by decide +kernel
theorem dX7_read_189 : decode cX7_read 189 = .ok (.aload_n 0, 1) := by decide +kernel
theorem dX7_read_190 : decode cX7_read 190 = .ok (.iconst 2, 1) := by decide +kernel
theorem dX7_read_191 : decode cX7_read 191 = .ok (.invokevirtual 208, 3) := by decide +kernel
theorem dX7_read_194 : decode cX7_read 194 = .ok (.goto 4, 3) := by decide +kernel
theorem dX7_read_197 : decode cX7_read 197 = .ok (.iconst 2, 1) := by decide +kernel
theorem dX7_read_198 : decode cX7_read 198 = .ok (.iastore, 1) := by decide +kernel
theorem dX7_read_199 : decode cX7_read 199 = .ok (.iinc 3 1, 3) := by decide +kernel
theorem dX7_read_202 : decode cX7_read 202 = .ok (.goto (-39), 3) := by decide +kernel
theorem dX7_read_205 : decode cX7_read 205 = .ok (.iinc 2 1, 3) := by decide +kernel
theorem dX7_read_208 : decode cX7_read 208 = .ok (.goto (-63), 3) := by decide +kernel
theorem dX7_read_211 : decode cX7_read 211 = .ok (.aload_n 0, 1) := by decide +kernel
theorem dX7_read_212 : decode cX7_read 212 = .ok (.getfield 129, 3) := by decide +kernel
theorem dX7_read_215 : decode cX7_read 215 = .ok (.ifCond .eq 5, 3) := by decide +kernel
theorem dX7_read_218 : decode cX7_read 218 = .ok (.iconst 2, 1) := by decide +kernel
theorem dX7_read_219 : decode cX7_read 219 = .ok (.ireturn, 1) := by decide +kernel
theorem dX7_read_220 : decode cX7_read 220 = .ok (.aload_n 0, 1) := by decide +kernel
theorem dX7_read_221 : decode cX7_read 221 = .ok (.getfield 136, 3) := by decide +kernel
theorem dX7_read_224 : decode cX7_read 224 = .ok (.ifCond .eq 13, 3) := by decide +kernel
theorem dX7_read_227 : decode cX7_read 227 = .ok (.iload_n 1, 1) := by decide +kernel
theorem dX7_read_228 : decode cX7_read 228 = .ok (.aload_n 0, 1) := by decide +kernel
theorem dX7_read_229 : decode cX7_read 229 = .ok (.getfield 195, 3) := by decide +kernel
theorem dX7_read_232 : decode cX7_read 232 = .ok (.if_icmp .eq 5, 3) := by decide +kernel
theorem dX7_read_235 : decode cX7_read 235 = .ok (.iconst 1, 1) := by decide +kernel
theorem dX7_read_236 : decode cX7_read 236 = .ok (.ireturn, 1) := by decide +kernel
theorem dX7_read_237 : decode cX7_read 237 = .ok (.iconst 0, 1) := by decide +kernel
theorem dX7_read_238 : decode cX7_read 238 = .ok (.istore_n 2, 1) := by decide +kernel
theorem dX7_read_239 : decode cX7_read 239 = .ok (.iload_n 2, 1) := by decide +kernel
theorem dX7_read_240 : decode cX7_read 240 = .ok (.aload_n 0, 1) := by decide +kernel
theorem dX7_read_241 : decode cX7_read 241 = .ok (.getfield 159, 3) := by decide +kernel
theorem dX7_read_244 : decode cX7_read 244 = .ok (.if_icmp .ge 77, 3) := by decide +kernel
theorem dX7_read_247 : decode cX7_read 247 = .ok (.iconst 0, 1) := by decide +kernel
theorem dX7_read_248 : decode cX7_read 248 = .ok (.istore_n 3, 1) := by decide +kernel
theorem dX7_read_249 : decode cX7_read 249 = .ok (.iload_n 3, 1) := by decide +kernel
theorem dX7_read_250 : decode cX7_read 250 = .ok (.bipush 32, 2) := by decide +kernel
theorem dX7_read_252 : decode cX7_read 252 = .ok (.if_icmp .ge 63, 3) := by decide +kernel
theorem dX7_read_255 : decode cX7_read 255 = .ok (.iload_n 3, 1) := by decide +kernel
theorem dX7_read_256 : decode cX7_read 256 = .ok (.aload_n 0, 1) := by decide +kernel
theorem dX7_read_257 : decode cX7_read 257 = .ok (.getfield 169, 3) := by decide +kernel
theorem dX7_read_260 : decode cX7_read 260 = .ok (.if_icmp .ge 14, 3) := by decide +kernel
theorem dX7_read_263 : decode cX7_read 263 = .ok (.aload_n 0, 1) := by decide +kernel
theorem dX7_read_264 : decode cX7_read 264 = .ok (.getfield 46, 3) := by decide +kernel
theorem dX7_read_267 : decode cX7_read 267 = .ok (.iload_n 2, 1) := by decide +kernel
theorem dX7_read_268 : decode cX7_read 268 = .ok (.aaload, 1) := by decide +kernel
theorem dX7_read_269 : decode cX7_read 269 = .ok (.iload_n 3, 1) := by decide +kernel
theorem dX7_read_270 : decode cX7_read 270 = .ok (.iaload, 1) := by decide +kernel
theorem dX7_read_271 : decode cX7_read 271 = .ok (.goto 4, 3) := by decide +kernel
theorem dX7_read_274 : decode cX7_read 274 = .ok (.iconst 0, 1) := by decide +kernel
theorem dX7_read_275 : decode cX7_read 275 = .ok (.istore 4, 2) := by decide +kernel
theorem dX7_read_277 : decode cX7_read 277 = .ok (.aload_n 0, 1) := by decide +kernel
theorem dX7_read_278 : decode cX7_read 278 = .ok (.getfield 148, 3) := by decide +kernel
theorem dX7_read_281 : decode cX7_read 281 = .ok (.iconst 1, 1) := by decide +kernel
theorem dX7_read_282 : decode cX7_read 282 = .ok (.if_icmp .ne 12, 3) := by decide +kernel
theorem dX7_read_285 : decode cX7_read 285 = .ok (.iload 4, 2) := by decide +kernel
theorem dX7_read_287 : decode cX7_read 287 = .ok (.bipush 15, 2) := by decide +kernel
theorem dX7_read_289 : decode cX7_read 289 = .ok (.if_icmp .ne 5, 3) := by decide +kernel
theorem dX7_read_292 : decode cX7_read 292 = .ok (.iconst 2, 1) := by decide +kernel
theorem dX7_read_293 : decode cX7_read 293 = .ok (.ireturn, 1) := by decide +kernel
theorem dX7_read_294 : decode cX7_read 294 = .ok (.aload_n 0, 1) := by decide +kernel
theorem dX7_read_295 : decode cX7_read 295 = .ok (.getfield 40, 3) := by decide +kernel
theorem dX7_read_298 : decode cX7_read 298 = .ok (.iload_n 2, 1) := by decide +kernel
theorem dX7_read_299 : decode cX7_read 299 = .ok (.aaload, 1) := by decide +kernel
theorem dX7_read_300 : decode cX7_read 300 = .ok (.iload_n 3, 1) := by decide +kernel
theorem dX7_read_301 : decode cX7_read 301 = .ok (.aload_n 0, 1) := by decide +kernel
theorem dX7_read_302 : decode cX7_read 302 = .ok (.iload_n 3, 1) := by decide +kernel
theorem dX7_read_303 : decode cX7_read 303 = .ok (.iload 4, 2) := by decide +kernel
theorem dX7_read_305 : decode cX7_read 305 = .ok (.invokevirtual 214, 3) := by decide +kernel
theorem dX7_read_308 : decode cX7_read 308 = .ok (.iastore, 1) := by decide +kernel
theorem dX7_read_309 : decode cX7_read 309 = .ok (.iinc 3 1, 3) := by decide +kernel
theorem dX7_read_312 : decode cX7_read 312 = .ok (.goto (-63), 3) := by decide +kernel
theorem dX7_read_315 : decode cX7_read 315 = .ok (.iinc 2 1, 3) := by decide +kernel
theorem dX7_read_318 : decode cX7_read 318 = .ok (.goto (-79), 3) := by decide +kernel
theorem dX7_read_321 : decode cX7_read 321 = .ok (.aload_n 0, 1) := by decide +kernel
theorem dX7_read_322 : decode cX7_read 322 = .ok (.invokevirtual 217, 3) := by decide +kernel
theorem dX7_read_325 : decode cX7_read 325 = .ok (.ifCond .eq 39, 3) := by decide +kernel
theorem dX7_read_328 : decode cX7_read 328 = .ok (.aload_n 0, 1) := by decide +kernel
theorem dX7_read_329 : decode cX7_read 329 = .ok (.getfield 148, 3) := by decide +kernel
theorem dX7_read_332 : decode cX7_read 332 = .ok (.iconst 1, 1) := by decide +kernel
theorem dX7_read_333 : decode cX7_read 333 = .ok (.if_icmp .ne 13, 3) := by decide +kernel
theorem dX7_read_336 : decode cX7_read 336 = .ok (.aload_n 0, 1) := by decide +kernel
theorem dX7_read_337 : decode cX7_read 337 = .ok (.invokevirtual 220, 3) := by decide +kernel
theorem dX7_read_340 : decode cX7_read 340 = .ok (.ifCond .eq 24, 3) := by decide +kernel
theorem dX7_read_343 : decode cX7_read 343 = .ok (.goto 10, 3) := by decide +kernel
theorem dX7_read_346 : decode cX7_read 346 = .ok (.aload_n 0, 1) := by decide +kernel
theorem dX7_read_347 : decode cX7_read 347 = .ok (.invokevirtual 223, 3) := by decide +kernel
theorem dX7_read_350 : decode cX7_read 350 = .ok (.ifCond .eq 14, 3) := by decide +kernel
theorem dX7_read_353 : decode cX7_read 353 = .ok (.aload_n 0, 1) := by decide +kernel
theorem dX7_read_354 : decode cX7_read 354 = .ok (.getfield 129, 3) := by decide +kernel
theorem dX7_read_357 : decode cX7_read 357 = .ok (.ifCond .ne 7, 3) := by decide +kernel
theorem dX7_read_360 : decode cX7_read 360 = .ok (.iconst 0, 1) := by decide +kernel
theorem dX7_read_361 : decode cX7_read 361 = .ok (.goto 4, 3) := by decide +kernel
theorem dX7_read_364 : decode cX7_read 364 = .ok (.iconst 2, 1) := by decide +kernel
theorem dX7_read_365 : decode cX7_read 365 = .ok (.ireturn, 1) := by decide +kernel
theorem dX7_factors_0 : decode cX7_factors 0 = .ok (.iconst 1, 1) := by decide +kernel
theorem dX7_factors_1 : decode cX7_factors 1 = .ok (.istore_n 1, 1) := by decide +kernel
theorem dX7_factors_2 : decode cX7_factors 2 = .ok (.iconst 0, 1) := by decide +kernel
theorem dX7_factors_3 : decode cX7_factors 3 = .ok (.istore_n 2, 1) := by decide +kernel
theorem dX7_factors_4 : decode cX7_factors 4 = .ok (.iload_n 2, 1) := by decide +kernel
theorem dX7_factors_5 : decode cX7_factors 5 = .ok (.aload_n 0, 1) := by decide +kernel
theorem dX7_factors_6 : decode cX7_factors 6 = .ok (.getfield 169, 3) := by decide +kernel
theorem dX7_factors_9 : decode cX7_factors 9 = .ok (.if_icmp .ge 184, 3) := by decide +kernel
theorem dX7_factors_12 : decode cX7_factors 12 = .ok (.iconst 0, 1) := by decide +kernel
theorem dX7_factors_13 : decode cX7_factors 13 = .ok (.istore_n 3, 1) := by decide +kernel
theorem dX7_factors_14 : decode cX7_factors 14 = .ok (.iload_n 3, 1) := by decide +kernel
theorem dX7_factors_15 : decode cX7_factors 15 = .ok (.aload_n 0, 1) := by decide +kernel
theorem dX7_factors_16 : decode cX7_factors 16 = .ok (.getfield 159, 3) := by decide +kernel
theorem dX7_factors_19 : decode cX7_factors 19 = .ok (.if_icmp .ge 168, 3) := by decide +kernel
theorem dX7_factors_22 : decode cX7_factors 22 = .ok (.aload_n 0, 1) := by decide +kernel
theorem dX7_factors_23 : decode cX7_factors 23 = .ok (.getfield 40, 3) := by decide +kernel
theorem dX7_factors_26 : decode cX7_factors 26 = .ok (.iload_n 3, 1) := by decide +kernel
theorem dX7_factors_27 : decode cX7_factors 27 = .ok (.aaload, 1) := by decide +kernel
theorem dX7_factors_28 : decode cX7_factors 28 = .ok (.iload_n 2, 1) := by decide +kernel
theorem dX7_factors_29 : decode cX7_factors 29 = .ok (.iaload, 1) := by decide +kernel
theorem dX7_factors_30 : decode cX7_factors 30 = .ok (.ifCond .ne 6, 3) := by decide +kernel
theorem dX7_factors_33 : decode cX7_factors 33 = .ok (.goto 148, 3) := by decide +kernel
theorem dX7_factors_36 : decode cX7_factors 36 = .ok (.aload_n 0, 1) := by decide +kernel
theorem dX7_factors_37 : decode cX7_factors 37 = .ok (.getfield 148, 3) := by decide +kernel
theorem dX7_factors_40 : decode cX7_factors 40 = .ok (.iconst 1, 1) := by decide +kernel
theorem dX7_factors_41 : decode cX7_factors 41 = .ok (.if_icmp .ne 7, 3) := by decide +kernel
theorem dX7_factors_44 : decode cX7_factors 44 = .ok (.iconst 2, 1) := by decide +kernel
theorem dX7_factors_45 : decode cX7_factors 45 = .ok (.goto 11, 3) := by decide +kernel
theorem dX7_factors_48 : decode cX7_factors 48 = .ok (.aload_n 0, 1) := by decide +kernel
theorem dX7_factors_49 : decode cX7_factors 49 = .ok (.getfield 43, 3) := by decide +kernel
theorem dX7_factors_52 : decode cX7_factors 52 = .ok (.iload_n 3, 1) := by decide +kernel
theorem dX7_factors_53 : decode cX7_factors 53 = .ok (.aaload, 1) := by decide +kernel
theorem dX7_factors_54 : decode cX7_factors 54 = .ok (.iload_n 2, 1) := by decide +kernel
theorem dX7_factors_55 : decode cX7_factors 55 = .ok (.iaload, 1) := by decide +kernel
theorem dX7_factors_56 : decode cX7_factors 56 = .ok (.istore 4, 2) := by decide +kernel
theorem dX7_factors_58 : decode cX7_factors 58 = .ok (.aload_n 0, 1) := by decide +kernel
theorem dX7_factors_59 : decode cX7_factors 59 = .ok (.bipush 6, 2) := by decide +kernel
theorem dX7_factors_61 : decode cX7_factors 61 = .ok (.invokevirtual 132, 3) := by decide +kernel
theorem dX7_factors_64 : decode cX7_factors 64 = .ok (.istore 5, 2) := by decide +kernel
theorem dX7_factors_66 : decode cX7_factors 66 = .ok (.iload 4, 2) := by decide +kernel
theorem dX7_factors_68 : decode cX7_factors 68 = .ok (.iconst 2, 1) := by decide +kernel
theorem dX7_factors_69 : decode cX7_factors 69 = .ok (.if_icmp .ne 8, 3) := by decide +kernel
theorem dX7_factors_72 : decode cX7_factors 72 = .ok (.iload 5, 2) := by decide +kernel
theorem dX7_factors_74 : decode cX7_factors 74 = .ok (.goto 9, 3) := by decide +kernel
theorem dX7_factors_77 : decode cX7_factors 77 = .ok (.aload_n 0, 1) := by decide +kernel
theorem dX7_factors_78 : decode cX7_factors 78 = .ok (.bipush 6, 2) := by decide +kernel
theorem dX7_factors_80 : decode cX7_factors 80 = .ok (.invokevirtual 132, 3) := by decide +kernel
theorem dX7_factors_83 : decode cX7_factors 83 = .ok (.istore 6, 2) := by decide +kernel
theorem dX7_factors_85 : decode cX7_factors 85 = .ok (.iload 4, 2) := by decide +kernel
theorem dX7_factors_87 : decode cX7_factors 87 = .ok (.ifCond .ne 12, 3) := by decide +kernel
theorem dX7_factors_90 : decode cX7_factors 90 = .ok (.aload_n 0, 1) := by decide +kernel
theorem dX7_factors_91 : decode cX7_factors 91 = .ok (.bipush 6, 2) := by decide +kernel
theorem dX7_factors_93 : decode cX7_factors 93 = .ok (.invokevirtual 132, 3) := by decide +kernel
theorem dX7_factors_96 : decode cX7_factors 96 = .ok (.goto 5, 3) := by decide +kernel
theorem dX7_factors_99 : decode cX7_factors 99 = .ok (.iload 6, 2) := by decide +kernel
theorem dX7_factors_101 : decode cX7_factors 101 = .ok (.istore 7, 2) := by decide +kernel
theorem dX7_factors_103 : decode cX7_factors 103 = .ok (.aload_n 0, 1) := by decide +kernel
theorem dX7_factors_104 : decode cX7_factors 104 = .ok (.getfield 49, 3) := by decide +kernel
theorem dX7_factors_107 : decode cX7_factors 107 = .ok (.iload_n 3, 1) := by decide +kernel
theorem dX7_factors_108 : decode cX7_factors 108 = .ok (.aaload, 1) := by decide +kernel
theorem dX7_factors_109 : decode cX7_factors 109 = .ok (.iload_n 2, 1) := by decide +kernel
theorem dX7_factors_110 : decode cX7_factors 110 = .ok (.aaload, 1) := by decide +kernel
theorem dX7_factors_111 : decode cX7_factors 111 = .ok (.iconst 0, 1) := by decide +kernel
theorem dX7_factors_112 : decode cX7_factors 112 = .ok (.iload 5, 2) := by decide +kernel
theorem dX7_factors_114 : decode cX7_factors 114 = .ok (.iastore, 1) := by decide +kernel
theorem dX7_factors_115 : decode cX7_factors 115 = .ok (.aload_n 0, 1) := by decide +kernel
theorem dX7_factors_116 : decode cX7_factors 116 = .ok (.getfield 49, 3) := by decide +kernel
theorem dX7_factors_119 : decode cX7_factors 119 = .ok (.iload_n 3, 1) := by decide +kernel
theorem dX7_factors_120 : decode cX7_factors 120 = .ok (.aaload, 1) := by decide +kernel
theorem dX7_factors_121 : decode cX7_factors 121 = .ok (.iload_n 2, 1) := by decide +kernel
theorem dX7_factors_122 : decode cX7_factors 122 = .ok (.aaload, 1) := by decide +kernel
theorem dX7_factors_123 : decode cX7_factors 123 = .ok (.iconst 1, 1) := by decide +kernel
theorem dX7_factors_124 : decode cX7_factors 124 = .ok (.iload 4, 2) := by decide +kernel
theorem dX7_factors_126 : decode cX7_factors 126 = .ok (.iconst 1, 1) := by decide +kernel
theorem dX7_factors_127 : decode cX7_factors 127 = .ok (.if_icmp .ne 8, 3) := by decide +kernel
theorem dX7_factors_130 : decode cX7_factors 130 = .ok (.iload 5, 2) := by decide +kernel
theorem dX7_factors_132 : decode cX7_factors 132 = .ok (.goto 5, 3) := by decide +kernel
theorem dX7_factors_135 : decode cX7_factors 135 = .ok (.iload 6, 2) := by decide +kernel
theorem dX7_factors_137 : decode cX7_factors 137 = .ok (.iastore, 1) := by decide +kernel
theorem dX7_factors_138 : decode cX7_factors 138 = .ok (.aload_n 0, 1) := by decide +kernel
theorem dX7_factors_139 : decode cX7_factors 139 = .ok (.getfield 49, 3) := by decide +kernel
theorem dX7_factors_142 : decode cX7_factors 142 = .ok (.iload_n 3, 1) := by decide +kernel
theorem dX7_factors_143 : decode cX7_factors 143 = .ok (.aaload, 1) := by decide +kernel
theorem dX7_factors_144 : decode cX7_factors 144 = .ok (.iload_n 2, 1) := by decide +kernel
theorem dX7_factors_145 : decode cX7_factors 145 = .ok (.aaload, 1) := by decide +kernel
theorem dX7_factors_146 : decode cX7_factors 146 = .ok (.iconst 2, 1) := by decide +kernel
theorem dX7_factors_147 : decode cX7_factors 147 = .ok (.iload 7, 2) := by decide +kernel
theorem dX7_factors_149 : decode cX7_factors 149 = .ok (.iastore, 1) := by decide +kernel
theorem dX7_factors_150 : decode cX7_factors 150 = .ok (.iload_n 1, 1) := by decide +kernel
theorem dX7_factors_151 : decode cX7_factors 151 = .ok (.ifCond .eq 28, 3) := by decide +kernel
theorem dX7_factors_154 : decode cX7_factors 154 = .ok (.iload 5, 2) := by decide +kernel
theorem dX7_factors_156 : decode cX7_factors 156 = .ok (.bipush 63, 2) := by decide +kernel
theorem dX7_factors_158 : decode cX7_factors 158 = .ok (.if_icmp .eq 21, 3) := by decide +kernel
theorem dX7_factors_161 : decode cX7_factors 161 = .ok (.iload 6, 2) := by decide +kernel
theorem dX7_factors_163 : decode cX7_factors 163 = .ok (.bipush 63, 2) := by decide +kernel
theorem dX7_factors_165 : decode cX7_factors 165 = .ok (.if_icmp .eq 14, 3) := by decide +kernel
theorem dX7_factors_168 : decode cX7_factors 168 = .ok (.iload 7, 2) := by decide +kernel
theorem dX7_factors_170 : decode cX7_factors 170 = .ok (.bipush 63, 2) := by decide +kernel
theorem dX7_factors_172 : decode cX7_factors 172 = .ok (.if_icmp .eq 7, 3) := by decide +kernel
theorem dX7_factors_175 : decode cX7_factors 175 = .ok (.iconst 1, 1) := by decide +kernel
theorem dX7_factors_176 : decode cX7_factors 176 = .ok (.goto 4, 3) := by decide +kernel
theorem dX7_factors_179 : decode cX7_factors 179 = .ok (.iconst 0, 1) := by decide +kernel
theorem dX7_factors_180 : decode cX7_factors 180 = .ok (.istore_n 1, 1) := by decide +kernel
theorem dX7_factors_181 : decode cX7_factors 181 = .ok (.iinc 3 1, 3) := by decide +kernel
theorem dX7_factors_184 : decode cX7_factors 184 = .ok (.goto (-170), 3) := by decide +kernel
theorem dX7_factors_187 : decode cX7_factors 187 = .ok (.iinc 2 1, 3) := by decide +kernel
theorem dX7_factors_190 : decode cX7_factors 190 = .ok (.goto (-186), 3) := by decide +kernel
theorem dX7_factors_193 : decode cX7_factors 193 = .ok (.iload_n 1, 1) := by decide +kernel
theorem dX7_factors_194 : decode cX7_factors 194 = .ok (.ireturn, 1) := by decide +kernel
theorem dX7_bitsOf_0 : decode cX7_bitsOf 0 = .ok (.iconst 0, 1) := by decide +kernel
theorem dX7_bitsOf_1 : decode cX7_bitsOf 1 = .ok (.istore_n 1, 1) := by decide +kernel
theorem dX7_bitsOf_2 : decode cX7_bitsOf 2 = .ok (.iconst 1, 1) := by decide +kernel
theorem dX7_bitsOf_3 : decode cX7_bitsOf 3 = .ok (.iload_n 1, 1) := by decide +kernel
theorem dX7_bitsOf_4 : decode cX7_bitsOf 4 = .ok (.ishl, 1) := by decide +kernel
theorem dX7_bitsOf_5 : decode cX7_bitsOf 5 = .ok (.iload_n 0, 1) := by decide +kernel
theorem dX7_bitsOf_6 : decode cX7_bitsOf 6 = .ok (.if_icmp .gt 9, 3) := by decide +kernel
theorem dX7_bitsOf_9 : decode cX7_bitsOf 9 = .ok (.iinc 1 1, 3) := by decide +kernel
theorem dX7_bitsOf_12 : decode cX7_bitsOf 12 = .ok (.goto (-10), 3) := by decide +kernel
theorem dX7_bitsOf_15 : decode cX7_bitsOf 15 = .ok (.iload_n 1, 1) := by decide +kernel
theorem dX7_bitsOf_16 : decode cX7_bitsOf 16 = .ok (.ireturn, 1) := by decide +kernel
theorem dX7_codesOne_0 : decode cX7_codesOne 0 = .ok (.iconst 1, 1) := by decide +kernel
theorem dX7_codesOne_1 : decode cX7_codesOne 1 = .ok (.istore_n 1, 1) := by decide +kernel
theorem dX7_codesOne_2 : decode cX7_codesOne 2 = .ok (.iconst 0, 1) := by decide +kernel
theorem dX7_codesOne_3 : decode cX7_codesOne 3 = .ok (.istore_n 2, 1) := by decide +kernel
theorem dX7_codesOne_4 : decode cX7_codesOne 4 = .ok (.iload_n 2, 1) := by decide +kernel
theorem dX7_codesOne_5 : decode cX7_codesOne 5 = .ok (.bipush 12, 2) := by decide +kernel
theorem dX7_codesOne_7 : decode cX7_codesOne 7 = .ok (.if_icmp .ge 145, 3) := by decide +kernel
theorem dX7_codesOne_10 : decode cX7_codesOne 10 = .ok (.iconst 0, 1) := by decide +kernel
theorem dX7_codesOne_11 : decode cX7_codesOne 11 = .ok (.istore_n 3, 1) := by decide +kernel
theorem dX7_codesOne_12 : decode cX7_codesOne 12 = .ok (.iload_n 3, 1) := by decide +kernel
theorem dX7_codesOne_13 : decode cX7_codesOne 13 = .ok (.aload_n 0, 1) := by decide +kernel
theorem dX7_codesOne_14 : decode cX7_codesOne 14 = .ok (.getfield 169, 3) := by decide +kernel
theorem dX7_codesOne_17 : decode cX7_codesOne 17 = .ok (.if_icmp .ge 129, 3) := by decide +kernel
theorem dX7_codesOne_20 : decode cX7_codesOne 20 = .ok (.iconst 0, 1) := by decide +kernel
theorem dX7_codesOne_21 : decode cX7_codesOne 21 = .ok (.istore 4, 2) := by decide +kernel
theorem dX7_codesOne_23 : decode cX7_codesOne 23 = .ok (.iload 4, 2) := by decide +kernel
theorem dX7_codesOne_25 : decode cX7_codesOne 25 = .ok (.aload_n 0, 1) := by decide +kernel
theorem dX7_codesOne_26 : decode cX7_codesOne 26 = .ok (.getfield 159, 3) := by decide +kernel
theorem dX7_codesOne_29 : decode cX7_codesOne 29 = .ok (.if_icmp .ge 111, 3) := by decide +kernel
theorem dX7_codesOne_32 : decode cX7_codesOne 32 = .ok (.aload_n 0, 1) := by decide +kernel
theorem dX7_codesOne_33 : decode cX7_codesOne 33 = .ok (.getfield 40, 3) := by decide +kernel
theorem dX7_codesOne_36 : decode cX7_codesOne 36 = .ok (.iload 4, 2) := by decide +kernel
theorem dX7_codesOne_38 : decode cX7_codesOne 38 = .ok (.aaload, 1) := by decide +kernel
theorem dX7_codesOne_39 : decode cX7_codesOne 39 = .ok (.iload_n 3, 1) := by decide +kernel
theorem dX7_codesOne_40 : decode cX7_codesOne 40 = .ok (.iaload, 1) := by decide +kernel
theorem dX7_codesOne_41 : decode cX7_codesOne 41 = .ok (.ifCond .ne 6, 3) := by decide +kernel
theorem dX7_codesOne_44 : decode cX7_codesOne 44 = .ok (.goto 90, 3) := by decide +kernel
theorem dX7_codesOne_47 : decode cX7_codesOne 47 = .ok (.aload_n 0, 1) := by decide +kernel
theorem dX7_codesOne_48 : decode cX7_codesOne 48 = .ok (.getfield 52, 3) := by decide +kernel
theorem dX7_codesOne_51 : decode cX7_codesOne 51 = .ok (.iload 4, 2) := by decide +kernel
theorem dX7_codesOne_53 : decode cX7_codesOne 53 = .ok (.aaload, 1) := by decide +kernel
theorem dX7_codesOne_54 : decode cX7_codesOne 54 = .ok (.iload_n 2, 1) := by decide +kernel
theorem dX7_codesOne_55 : decode cX7_codesOne 55 = .ok (.aaload, 1) := by decide +kernel
theorem dX7_codesOne_56 : decode cX7_codesOne 56 = .ok (.iload_n 3, 1) := by decide +kernel
theorem dX7_codesOne_57 : decode cX7_codesOne 57 = .ok (.iload 4, 2) := by decide +kernel
theorem dX7_codesOne_59 : decode cX7_codesOne 59 = .ok (.iconst 1, 1) := by decide +kernel
theorem dX7_codesOne_60 : decode cX7_codesOne 60 = .ok (.if_icmp .ne 24, 3) := by decide +kernel
theorem dX7_codesOne_63 : decode cX7_codesOne 63 = .ok (.iload_n 3, 1) := by decide +kernel
theorem dX7_codesOne_64 : decode cX7_codesOne 64 = .ok (.aload_n 0, 1) := by decide +kernel
theorem dX7_codesOne_65 : decode cX7_codesOne 65 = .ok (.getfield 172, 3) := by decide +kernel
theorem dX7_codesOne_68 : decode cX7_codesOne 68 = .ok (.if_icmp .lt 16, 3) := by decide +kernel
theorem dX7_codesOne_71 : decode cX7_codesOne 71 = .ok (.aload_n 0, 1) := by decide +kernel
theorem dX7_codesOne_72 : decode cX7_codesOne 72 = .ok (.getfield 52, 3) := by decide +kernel
theorem dX7_codesOne_75 : decode cX7_codesOne 75 = .ok (.iconst 0, 1) := by decide +kernel
theorem dX7_codesOne_76 : decode cX7_codesOne 76 = .ok (.aaload, 1) := by decide +kernel
theorem dX7_codesOne_77 : decode cX7_codesOne 77 = .ok (.iload_n 2, 1) := by decide +kernel
theorem dX7_codesOne_78 : decode cX7_codesOne 78 = .ok (.aaload, 1) := by decide +kernel
theorem dX7_codesOne_79 : decode cX7_codesOne 79 = .ok (.iload_n 3, 1) := by decide +kernel
theorem dX7_codesOne_80 : decode cX7_codesOne 80 = .ok (.iaload, 1) := by decide +kernel
theorem dX7_codesOne_81 : decode cX7_codesOne 81 = .ok (.goto 19, 3) := by decide +kernel
theorem dX7_codesOne_84 : decode cX7_codesOne 84 = .ok (.aload_n 0, 1) := by decide +kernel
theorem dX7_codesOne_85 : decode cX7_codesOne 85 = .ok (.aload_n 0, 1) := by decide +kernel
theorem dX7_codesOne_86 : decode cX7_codesOne 86 = .ok (.getfield 40, 3) := by decide +kernel
theorem dX7_codesOne_89 : decode cX7_codesOne 89 = .ok (.iload 4, 2) := by decide +kernel
theorem dX7_codesOne_91 : decode cX7_codesOne 91 = .ok (.aaload, 1) := by decide +kernel
theorem dX7_codesOne_92 : decode cX7_codesOne 92 = .ok (.iload_n 3, 1) := by decide +kernel
theorem dX7_codesOne_93 : decode cX7_codesOne 93 = .ok (.iaload, 1) := by decide +kernel
theorem dX7_codesOne_94 : decode cX7_codesOne 94 = .ok (.invokestatic 226, 3) := by decide +kernel
theorem dX7_codesOne_97 : decode cX7_codesOne 97 = .ok (.invokevirtual 132, 3) := by decide +kernel
theorem dX7_codesOne_100 : decode cX7_codesOne 100 = .ok (.iastore, 1) := by decide +kernel
theorem dX7_codesOne_101 : decode cX7_codesOne 101 = .ok (.iload_n 1, 1) := by decide +kernel
theorem dX7_codesOne_102 : decode cX7_codesOne 102 = .ok (.ifCond .eq 30, 3) := by decide +kernel
theorem dX7_codesOne_105 : decode cX7_codesOne 105 = .ok (.aload_n 0, 1) := by decide +kernel
theorem dX7_codesOne_106 : decode cX7_codesOne 106 = .ok (.getfield 52, 3) := by decide +kernel
theorem dX7_codesOne_109 : decode cX7_codesOne 109 = .ok (.iload 4, 2) := by decide +kernel
theorem dX7_codesOne_111 : decode cX7_codesOne 111 = .ok (.aaload, 1) := by decide +kernel
theorem dX7_codesOne_112 : decode cX7_codesOne 112 = .ok (.iload_n 2, 1) := by decide +kernel
theorem dX7_codesOne_113 : decode cX7_codesOne 113 = .ok (.aaload, 1) := by decide +kernel
theorem dX7_codesOne_114 : decode cX7_codesOne 114 = .ok (.iload_n 3, 1) := by decide +kernel
theorem dX7_codesOne_115 : decode cX7_codesOne 115 = .ok (.iaload, 1) := by decide +kernel
theorem dX7_codesOne_116 : decode cX7_codesOne 116 = .ok (.aload_n 0, 1) := by decide +kernel
theorem dX7_codesOne_117 : decode cX7_codesOne 117 = .ok (.getfield 40, 3) := by decide +kernel
theorem dX7_codesOne_120 : decode cX7_codesOne 120 = .ok (.iload 4, 2) := by decide +kernel
theorem dX7_codesOne_122 : decode cX7_codesOne 122 = .ok (.aaload, 1) := by decide +kernel
theorem dX7_codesOne_123 : decode cX7_codesOne 123 = .ok (.iload_n 3, 1) := by decide +kernel
theorem dX7_codesOne_124 : decode cX7_codesOne 124 = .ok (.iaload, 1) := by decide +kernel
theorem dX7_codesOne_125 : decode cX7_codesOne 125 = .ok (.if_icmp .eq 7, 3) := by decide +kernel
theorem dX7_codesOne_128 : decode cX7_codesOne 128 = .ok (.iconst 1, 1) := by decide +kernel
theorem dX7_codesOne_129 : decode cX7_codesOne 129 = .ok (.goto 4, 3) := by decide +kernel
theorem dX7_codesOne_132 : decode cX7_codesOne 132 = .ok (.iconst 0, 1) := by decide +kernel
theorem dX7_codesOne_133 : decode cX7_codesOne 133 = .ok (.istore_n 1, 1) := by decide +kernel
theorem dX7_codesOne_134 : decode cX7_codesOne 134 = .ok (.iinc 4 1, 3) := by decide +kernel
theorem dX7_codesOne_137 : decode cX7_codesOne 137 = .ok (.goto (-114), 3) := by decide +kernel
theorem dX7_codesOne_140 : decode cX7_codesOne 140 = .ok (.iinc 3 1, 3) := by decide +kernel
theorem dX7_codesOne_143 : decode cX7_codesOne 143 = .ok (.goto (-131), 3) := by decide +kernel
theorem dX7_codesOne_146 : decode cX7_codesOne 146 = .ok (.iinc 2 1, 3) := by decide +kernel
theorem dX7_codesOne_149 : decode cX7_codesOne 149 = .ok (.goto (-145), 3) := by decide +kernel
theorem dX7_codesOne_152 : decode cX7_codesOne 152 = .ok (.iload_n 1, 1) := by decide +kernel
theorem dX7_codesOne_153 : decode cX7_codesOne 153 = .ok (.ireturn, 1) := by decide +kernel
theorem dX7_codesTwo_0 : decode cX7_codesTwo 0 = .ok (.iconst 1, 1) := by decide +kernel
theorem dX7_codesTwo_1 : decode cX7_codesTwo 1 = .ok (.istore_n 1, 1) := by decide +kernel
theorem dX7_codesTwo_2 : decode cX7_codesTwo 2 = .ok (.iconst 0, 1) := by decide +kernel
theorem dX7_codesTwo_3 : decode cX7_codesTwo 3 = .ok (.istore_n 2, 1) := by decide +kernel
theorem dX7_codesTwo_4 : decode cX7_codesTwo 4 = .ok (.iload_n 2, 1) := by decide +kernel
theorem dX7_codesTwo_5 : decode cX7_codesTwo 5 = .ok (.bipush 12, 2) := by decide +kernel
theorem dX7_codesTwo_7 : decode cX7_codesTwo 7 = .ok (.if_icmp .ge 157, 3) := by decide +kernel
theorem dX7_codesTwo_10 : decode cX7_codesTwo 10 = .ok (.iconst 0, 1) := by decide +kernel
theorem dX7_codesTwo_11 : decode cX7_codesTwo 11 = .ok (.istore_n 3, 1) := by decide +kernel
theorem dX7_codesTwo_12 : decode cX7_codesTwo 12 = .ok (.iload_n 3, 1) := by decide +kernel
theorem dX7_codesTwo_13 : decode cX7_codesTwo 13 = .ok (.aload_n 0, 1) := by decide +kernel
theorem dX7_codesTwo_14 : decode cX7_codesTwo 14 = .ok (.getfield 169, 3) := by decide +kernel
theorem dX7_codesTwo_17 : decode cX7_codesTwo 17 = .ok (.if_icmp .ge 141, 3) := by decide +kernel
theorem dX7_codesTwo_20 : decode cX7_codesTwo 20 = .ok (.iconst 0, 1) := by decide +kernel
theorem dX7_codesTwo_21 : decode cX7_codesTwo 21 = .ok (.istore 4, 2) := by decide +kernel
theorem dX7_codesTwo_23 : decode cX7_codesTwo 23 = .ok (.iload 4, 2) := by decide +kernel
theorem dX7_codesTwo_25 : decode cX7_codesTwo 25 = .ok (.aload_n 0, 1) := by decide +kernel
theorem dX7_codesTwo_26 : decode cX7_codesTwo 26 = .ok (.getfield 159, 3) := by decide +kernel
theorem dX7_codesTwo_29 : decode cX7_codesTwo 29 = .ok (.if_icmp .ge 123, 3) := by decide +kernel
theorem dX7_codesTwo_32 : decode cX7_codesTwo 32 = .ok (.aload_n 0, 1) := by decide +kernel
theorem dX7_codesTwo_33 : decode cX7_codesTwo 33 = .ok (.getfield 40, 3) := by decide +kernel
theorem dX7_codesTwo_36 : decode cX7_codesTwo 36 = .ok (.iload 4, 2) := by decide +kernel
theorem dX7_codesTwo_38 : decode cX7_codesTwo 38 = .ok (.aaload, 1) := by decide +kernel
theorem dX7_codesTwo_39 : decode cX7_codesTwo 39 = .ok (.iload_n 3, 1) := by decide +kernel
theorem dX7_codesTwo_40 : decode cX7_codesTwo 40 = .ok (.iaload, 1) := by decide +kernel
theorem dX7_codesTwo_41 : decode cX7_codesTwo 41 = .ok (.ifCond .ne 6, 3) := by decide +kernel
theorem dX7_codesTwo_44 : decode cX7_codesTwo 44 = .ok (.goto 102, 3) := by decide +kernel
theorem dX7_codesTwo_47 : decode cX7_codesTwo 47 = .ok (.iload 4, 2) := by decide +kernel
theorem dX7_codesTwo_49 : decode cX7_codesTwo 49 = .ok (.iconst 1, 1) := by decide +kernel
theorem dX7_codesTwo_50 : decode cX7_codesTwo 50 = .ok (.if_icmp .ne 59, 3) := by decide +kernel
theorem dX7_codesTwo_53 : decode cX7_codesTwo 53 = .ok (.iload_n 3, 1) := by decide +kernel
theorem dX7_codesTwo_54 : decode cX7_codesTwo 54 = .ok (.aload_n 0, 1) := by decide +kernel
theorem dX7_codesTwo_55 : decode cX7_codesTwo 55 = .ok (.getfield 172, 3) := by decide +kernel
theorem dX7_codesTwo_58 : decode cX7_codesTwo 58 = .ok (.if_icmp .lt 51, 3) := by decide +kernel
theorem dX7_codesTwo_61 : decode cX7_codesTwo 61 = .ok (.iconst 0, 1) := by decide +kernel
theorem dX7_codesTwo_62 : decode cX7_codesTwo 62 = .ok (.istore 5, 2) := by decide +kernel
theorem dX7_codesTwo_64 : decode cX7_codesTwo 64 = .ok (.iload 5, 2) := by decide +kernel
theorem dX7_codesTwo_66 : decode cX7_codesTwo 66 = .ok (.iconst 3, 1) := by decide +kernel
theorem dX7_codesTwo_67 : decode cX7_codesTwo 67 = .ok (.if_icmp .ge 39, 3) := by decide +kernel
theorem dX7_codesTwo_70 : decode cX7_codesTwo 70 = .ok (.aload_n 0, 1) := by decide +kernel
theorem dX7_codesTwo_71 : decode cX7_codesTwo 71 = .ok (.getfield 52, 3) := by decide +kernel
theorem dX7_codesTwo_74 : decode cX7_codesTwo 74 = .ok (.iconst 1, 1) := by decide +kernel
theorem dX7_codesTwo_75 : decode cX7_codesTwo 75 = .ok (.aaload, 1) := by decide +kernel
theorem dX7_codesTwo_76 : decode cX7_codesTwo 76 = .ok (.iconst 3, 1) := by decide +kernel
theorem dX7_codesTwo_77 : decode cX7_codesTwo 77 = .ok (.iload_n 2, 1) := by decide +kernel
theorem dX7_codesTwo_78 : decode cX7_codesTwo 78 = .ok (.imul, 1) := by decide +kernel
theorem dX7_codesTwo_79 : decode cX7_codesTwo 79 = .ok (.iload 5, 2) := by decide +kernel
theorem dX7_codesTwo_81 : decode cX7_codesTwo 81 = .ok (.iadd, 1) := by decide +kernel
theorem dX7_codesTwo_82 : decode cX7_codesTwo 82 = .ok (.aaload, 1) := by decide +kernel
theorem dX7_codesTwo_83 : decode cX7_codesTwo 83 = .ok (.iload_n 3, 1) := by decide +kernel
theorem dX7_codesTwo_84 : decode cX7_codesTwo 84 = .ok (.aload_n 0, 1) := by decide +kernel
theorem dX7_codesTwo_85 : decode cX7_codesTwo 85 = .ok (.getfield 52, 3) := by decide +kernel
theorem dX7_codesTwo_88 : decode cX7_codesTwo 88 = .ok (.iconst 0, 1) := by decide +kernel
theorem dX7_codesTwo_89 : decode cX7_codesTwo 89 = .ok (.aaload, 1) := by decide +kernel
theorem dX7_codesTwo_90 : decode cX7_codesTwo 90 = .ok (.iconst 3, 1) := by decide +kernel
theorem dX7_codesTwo_91 : decode cX7_codesTwo 91 = .ok (.iload_n 2, 1) := by decide +kernel
theorem dX7_codesTwo_92 : decode cX7_codesTwo 92 = .ok (.imul, 1) := by decide +kernel
theorem dX7_codesTwo_93 : decode cX7_codesTwo 93 = .ok (.iload 5, 2) := by decide +kernel
theorem dX7_codesTwo_95 : decode cX7_codesTwo 95 = .ok (.iadd, 1) := by decide +kernel
theorem dX7_codesTwo_96 : decode cX7_codesTwo 96 = .ok (.aaload, 1) := by decide +kernel
theorem dX7_codesTwo_97 : decode cX7_codesTwo 97 = .ok (.iload_n 3, 1) := by decide +kernel
theorem dX7_codesTwo_98 : decode cX7_codesTwo 98 = .ok (.iaload, 1) := by decide +kernel
theorem dX7_codesTwo_99 : decode cX7_codesTwo 99 = .ok (.iastore, 1) := by decide +kernel
theorem dX7_codesTwo_100 : decode cX7_codesTwo 100 = .ok (.iinc 5 1, 3) := by decide +kernel
theorem dX7_codesTwo_103 : decode cX7_codesTwo 103 = .ok (.goto (-39), 3) := by decide +kernel
theorem dX7_codesTwo_106 : decode cX7_codesTwo 106 = .ok (.goto 40, 3) := by decide +kernel
theorem dX7_codesTwo_109 : decode cX7_codesTwo 109 = .ok (.aload_n 0, 1) := by decide +kernel
theorem dX7_codesTwo_110 : decode cX7_codesTwo 110 = .ok (.aload_n 0, 1) := by decide +kernel
theorem dX7_codesTwo_111 : decode cX7_codesTwo 111 = .ok (.getfield 52, 3) := by decide +kernel
theorem dX7_codesTwo_114 : decode cX7_codesTwo 114 = .ok (.iload 4, 2) := by decide +kernel
theorem dX7_codesTwo_116 : decode cX7_codesTwo 116 = .ok (.aaload, 1) := by decide +kernel
theorem dX7_codesTwo_117 : decode cX7_codesTwo 117 = .ok (.iconst 3, 1) := by decide +kernel
theorem dX7_codesTwo_118 : decode cX7_codesTwo 118 = .ok (.iload_n 2, 1) := by decide +kernel
theorem dX7_codesTwo_119 : decode cX7_codesTwo 119 = .ok (.imul, 1) := by decide +kernel
theorem dX7_codesTwo_120 : decode cX7_codesTwo 120 = .ok (.iload_n 3, 1) := by decide +kernel
theorem dX7_codesTwo_121 : decode cX7_codesTwo 121 = .ok (.aload_n 0, 1) := by decide +kernel
theorem dX7_codesTwo_122 : decode cX7_codesTwo 122 = .ok (.getfield 40, 3) := by decide +kernel
theorem dX7_codesTwo_125 : decode cX7_codesTwo 125 = .ok (.iload 4, 2) := by decide +kernel
theorem dX7_codesTwo_127 : decode cX7_codesTwo 127 = .ok (.aaload, 1) := by decide +kernel
theorem dX7_codesTwo_128 : decode cX7_codesTwo 128 = .ok (.iload_n 3, 1) := by decide +kernel
theorem dX7_codesTwo_129 : decode cX7_codesTwo 129 = .ok (.iaload, 1) := by decide +kernel
theorem dX7_codesTwo_130 : decode cX7_codesTwo 130 = .ok (.invokevirtual 229, 3) := by decide +kernel
theorem dX7_codesTwo_133 : decode cX7_codesTwo 133 = .ok (.ifCond .eq 11, 3) := by decide +kernel
theorem dX7_codesTwo_136 : decode cX7_codesTwo 136 = .ok (.iload_n 1, 1) := by decide +kernel
theorem dX7_codesTwo_137 : decode cX7_codesTwo 137 = .ok (.ifCond .eq 7, 3) := by decide +kernel
theorem dX7_codesTwo_140 : decode cX7_codesTwo 140 = .ok (.iconst 1, 1) := by decide +kernel
theorem dX7_codesTwo_141 : decode cX7_codesTwo 141 = .ok (.goto 4, 3) := by decide +kernel
theorem dX7_codesTwo_144 : decode cX7_codesTwo 144 = .ok (.iconst 0, 1) := by decide +kernel
theorem dX7_codesTwo_145 : decode cX7_codesTwo 145 = .ok (.istore_n 1, 1) := by decide +kernel
theorem dX7_codesTwo_146 : decode cX7_codesTwo 146 = .ok (.iinc 4 1, 3) := by decide +kernel
theorem dX7_codesTwo_149 : decode cX7_codesTwo 149 = .ok (.goto (-126), 3) := by decide +kernel
theorem dX7_codesTwo_152 : decode cX7_codesTwo 152 = .ok (.iinc 3 1, 3) := by decide +kernel
theorem dX7_codesTwo_155 : decode cX7_codesTwo 155 = .ok (.goto (-143), 3) := by decide +kernel
theorem dX7_codesTwo_158 : decode cX7_codesTwo 158 = .ok (.iinc 2 1, 3) := by decide +kernel
theorem dX7_codesTwo_161 : decode cX7_codesTwo 161 = .ok (.goto (-157), 3) := by decide +kernel
theorem dX7_codesTwo_164 : decode cX7_codesTwo 164 = .ok (.iload_n 1, 1) := by decide +kernel
theorem dX7_codesTwo_165 : decode cX7_codesTwo 165 = .ok (.ireturn, 1) := by decide +kernel
theorem dX7_three_0 : decode cX7_three 0 = .ok (.iload 4, 2) := by decide +kernel
theorem dX7_three_2 : decode cX7_three 2 = .ok (.iconst 3, 1) := by decide +kernel
theorem dX7_three_3 : decode cX7_three 3 = .ok (.if_icmp .eq 16, 3) := by decide +kernel
theorem dX7_three_6 : decode cX7_three 6 = .ok (.iload 4, 2) := by decide +kernel
theorem dX7_three_8 : decode cX7_three 8 = .ok (.iconst 5, 1) := by decide +kernel
theorem dX7_three_9 : decode cX7_three 9 = .ok (.if_icmp .eq 10, 3) := by decide +kernel
theorem dX7_three_12 : decode cX7_three 12 = .ok (.iload 4, 2) := by decide +kernel
theorem dX7_three_14 : decode cX7_three 14 = .ok (.bipush 9, 2) := by decide +kernel
theorem dX7_three_16 : decode cX7_three 16 = .ok (.if_icmp .ne 91, 3) := by decide +kernel
theorem dX7_three_19 : decode cX7_three 19 = .ok (.aload_n 0, 1) := by decide +kernel
theorem dX7_three_20 : decode cX7_three 20 = .ok (.iload 4, 2) := by decide +kernel
theorem dX7_three_22 : decode cX7_three 22 = .ok (.iconst 3, 1) := by decide +kernel
theorem dX7_three_23 : decode cX7_three 23 = .ok (.if_icmp .ne 7, 3) := by decide +kernel
theorem dX7_three_26 : decode cX7_three 26 = .ok (.iconst 5, 1) := by decide +kernel
theorem dX7_three_27 : decode cX7_three 27 = .ok (.goto 16, 3) := by decide +kernel
theorem dX7_three_30 : decode cX7_three 30 = .ok (.iload 4, 2) := by decide +kernel
theorem dX7_three_32 : decode cX7_three 32 = .ok (.iconst 5, 1) := by decide +kernel
theorem dX7_three_33 : decode cX7_three 33 = .ok (.if_icmp .ne 8, 3) := by decide +kernel
theorem dX7_three_36 : decode cX7_three 36 = .ok (.bipush 7, 2) := by decide +kernel
theorem dX7_three_38 : decode cX7_three 38 = .ok (.goto 5, 3) := by decide +kernel
theorem dX7_three_41 : decode cX7_three 41 = .ok (.bipush 10, 2) := by decide +kernel
theorem dX7_three_43 : decode cX7_three 43 = .ok (.invokevirtual 132, 3) := by decide +kernel
theorem dX7_three_46 : decode cX7_three 46 = .ok (.istore 5, 2) := by decide +kernel
theorem dX7_three_48 : decode cX7_three 48 = .ok (.aload_n 1, 1) := by decide +kernel
theorem dX7_three_49 : decode cX7_three 49 = .ok (.iload_n 2, 1) := by decide +kernel
theorem dX7_three_50 : decode cX7_three 50 = .ok (.aaload, 1) := by decide +kernel
theorem dX7_three_51 : decode cX7_three 51 = .ok (.iload_n 3, 1) := by decide +kernel
theorem dX7_three_52 : decode cX7_three 52 = .ok (.iload 5, 2) := by decide +kernel
theorem dX7_three_54 : decode cX7_three 54 = .ok (.iload 4, 2) := by decide +kernel
theorem dX7_three_56 : decode cX7_three 56 = .ok (.irem, 1) := by decide +kernel
