theorem dX6_init_0 : decode cX6_init 0 = .ok (.aload_n 0, 1) := by decide +kernel
theorem dX6_init_1 : decode cX6_init 1 = .ok (.invokespecial 3, 3) := by decide +kernel
theorem dX6_init_4 : decode cX6_init 4 = .ok (.aload_n 0, 1) := by decide +kernel
theorem dX6_init_5 : decode cX6_init 5 = .ok (.bipush 40, 2) := by decide +kernel
theorem dX6_init_7 : decode cX6_init 7 = .ok (.newarray .int, 2) := by decide +kernel
theorem dX6_init_9 : decode cX6_init 9 = .ok (.putfield 9, 3) := by decide +kernel
theorem dX6_init_12 : decode cX6_init 12 = .ok (.aload_n 0, 1) := by decide +kernel
theorem dX6_init_13 : decode cX6_init 13 = .ok (.bipush 40, 2) := by decide +kernel
theorem dX6_init_15 : decode cX6_init 15 = .ok (.newarray .int, 2) := by decide +kernel
theorem dX6_init_17 : decode cX6_init 17 = .ok (.putfield 15, 3) := by decide +kernel
theorem dX6_init_20 : decode cX6_init 20 = .ok (.return_, 1) := by decide +kernel
theorem dX6_add_0 : decode cX6_add 0 = .ok (.aload_n 0, 1) := by decide +kernel
theorem dX6_add_1 : decode cX6_add 1 = .ok (.getfield 9, 3) := by decide +kernel
theorem dX6_add_4 : decode cX6_add 4 = .ok (.aload_n 0, 1) := by decide +kernel
theorem dX6_add_5 : decode cX6_add 5 = .ok (.getfield 18, 3) := by decide +kernel
theorem dX6_add_8 : decode cX6_add 8 = .ok (.iload_n 1, 1) := by decide +kernel
theorem dX6_add_9 : decode cX6_add 9 = .ok (.iastore, 1) := by decide +kernel
theorem dX6_add_10 : decode cX6_add 10 = .ok (.aload_n 0, 1) := by decide +kernel
theorem dX6_add_11 : decode cX6_add 11 = .ok (.getfield 15, 3) := by decide +kernel
theorem dX6_add_14 : decode cX6_add 14 = .ok (.aload_n 0, 1) := by decide +kernel
theorem dX6_add_15 : decode cX6_add 15 = .ok (.getfield 18, 3) := by decide +kernel
theorem dX6_add_18 : decode cX6_add 18 = .ok (.iload_n 2, 1) := by decide +kernel
theorem dX6_add_19 : decode cX6_add 19 = .ok (.iastore, 1) := by decide +kernel
theorem dX6_add_20 : decode cX6_add 20 = .ok (.aload_n 0, 1) := by decide +kernel
theorem dX6_add_21 : decode cX6_add 21 = .ok (.dup, 1) := by decide +kernel
theorem dX6_add_22 : decode cX6_add 22 = .ok (.getfield 18, 3) := by decide +kernel
theorem dX6_add_25 : decode cX6_add 25 = .ok (.iconst 1, 1) := by decide +kernel
theorem dX6_add_26 : decode cX6_add 26 = .ok (.iadd, 1) := by decide +kernel
theorem dX6_add_27 : decode cX6_add 27 = .ok (.putfield 18, 3) := by decide +kernel
theorem dX6_add_30 : decode cX6_add 30 = .ok (.return_, 1) := by decide +kernel
theorem dX6_countOf_0 : decode cX6_countOf 0 = .ok (.iconst 0, 1) := by decide +kernel
theorem dX6_countOf_1 : decode cX6_countOf 1 = .ok (.istore_n 2, 1) := by decide +kernel
theorem dX6_countOf_2 : decode cX6_countOf 2 = .ok (.iconst 0, 1) := by decide +kernel
theorem dX6_countOf_3 : decode cX6_countOf 3 = .ok (.istore_n 3, 1) := by decide +kernel
theorem dX6_countOf_4 : decode cX6_countOf 4 = .ok (.iload_n 3, 1) := by decide +kernel
theorem dX6_countOf_5 : decode cX6_countOf 5 = .ok (.aload_n 0, 1) := by decide +kernel
theorem dX6_countOf_6 : decode cX6_countOf 6 = .ok (.getfield 18, 3) := by decide +kernel
theorem dX6_countOf_9 : decode cX6_countOf 9 = .ok (.if_icmp .ge 22, 3) := by decide +kernel
theorem dX6_countOf_12 : decode cX6_countOf 12 = .ok (.aload_n 0, 1) := by decide +kernel
theorem dX6_countOf_13 : decode cX6_countOf 13 = .ok (.getfield 15, 3) := by decide +kernel
theorem dX6_countOf_16 : decode cX6_countOf 16 = .ok (.iload_n 3, 1) := by decide +kernel
theorem dX6_countOf_17 : decode cX6_countOf 17 = .ok (.iaload, 1) := by decide +kernel
theorem dX6_countOf_18 : decode cX6_countOf 18 = .ok (.iload_n 1, 1) := by decide +kernel
theorem dX6_countOf_19 : decode cX6_countOf 19 = .ok (.if_icmp .ne 6, 3) := by decide +kernel
theorem dX6_countOf_22 : decode cX6_countOf 22 = .ok (.iinc 2 1, 3) := by decide +kernel
theorem dX6_countOf_25 : decode cX6_countOf 25 = .ok (.iinc 3 1, 3) := by decide +kernel
theorem dX6_countOf_28 : decode cX6_countOf 28 = .ok (.goto (-24), 3) := by decide +kernel
theorem dX6_countOf_31 : decode cX6_countOf 31 = .ok (.iload_n 2, 1) := by decide +kernel
theorem dX6_countOf_32 : decode cX6_countOf 32 = .ok (.ireturn, 1) := by decide +kernel
theorem dX6_sum_0 : decode cX6_sum 0 = .ok (.iconst 0, 1) := by decide +kernel
theorem dX6_sum_1 : decode cX6_sum 1 = .ok (.istore_n 2, 1) := by decide +kernel
theorem dX6_sum_2 : decode cX6_sum 2 = .ok (.iconst 0, 1) := by decide +kernel
theorem dX6_sum_3 : decode cX6_sum 3 = .ok (.istore_n 3, 1) := by decide +kernel
theorem dX6_sum_4 : decode cX6_sum 4 = .ok (.iload_n 3, 1) := by decide +kernel
theorem dX6_sum_5 : decode cX6_sum 5 = .ok (.aload_n 0, 1) := by decide +kernel
theorem dX6_sum_6 : decode cX6_sum 6 = .ok (.getfield 18, 3) := by decide +kernel
theorem dX6_sum_9 : decode cX6_sum 9 = .ok (.if_icmp .ge 28, 3) := by decide +kernel
theorem dX6_sum_12 : decode cX6_sum 12 = .ok (.aload_n 0, 1) := by decide +kernel
theorem dX6_sum_13 : decode cX6_sum 13 = .ok (.getfield 15, 3) := by decide +kernel
theorem dX6_sum_16 : decode cX6_sum 16 = .ok (.iload_n 3, 1) := by decide +kernel
theorem dX6_sum_17 : decode cX6_sum 17 = .ok (.iaload, 1) := by decide +kernel
theorem dX6_sum_18 : decode cX6_sum 18 = .ok (.iload_n 1, 1) := by decide +kernel
theorem dX6_sum_19 : decode cX6_sum 19 = .ok (.if_icmp .ne 12, 3) := by decide +kernel
theorem dX6_sum_22 : decode cX6_sum 22 = .ok (.iload_n 2, 1) := by decide +kernel
theorem dX6_sum_23 : decode cX6_sum 23 = .ok (.aload_n 0, 1) := by decide +kernel
theorem dX6_sum_24 : decode cX6_sum 24 = .ok (.getfield 9, 3) := by decide +kernel
theorem dX6_sum_27 : decode cX6_sum 27 = .ok (.iload_n 3, 1) := by decide +kernel
theorem dX6_sum_28 : decode cX6_sum 28 = .ok (.iaload, 1) := by decide +kernel
theorem dX6_sum_29 : decode cX6_sum 29 = .ok (.iadd, 1) := by decide +kernel
theorem dX6_sum_30 : decode cX6_sum 30 = .ok (.istore_n 2, 1) := by decide +kernel
theorem dX6_sum_31 : decode cX6_sum 31 = .ok (.iinc 3 1, 3) := by decide +kernel
theorem dX6_sum_34 : decode cX6_sum 34 = .ok (.goto (-30), 3) := by decide +kernel
theorem dX6_sum_37 : decode cX6_sum 37 = .ok (.iload_n 2, 1) := by decide +kernel
theorem dX6_sum_38 : decode cX6_sum 38 = .ok (.ireturn, 1) := by decide +kernel
theorem dX6_least_0 : decode cX6_least 0 = .ok (.bipush 115, 2) := by decide +kernel
theorem dX6_least_2 : decode cX6_least 2 = .ok (.istore_n 2, 1) := by decide +kernel
theorem dX6_least_3 : decode cX6_least 3 = .ok (.iconst 0, 1) := by decide +kernel
theorem dX6_least_4 : decode cX6_least 4 = .ok (.istore_n 3, 1) := by decide +kernel
theorem dX6_least_5 : decode cX6_least 5 = .ok (.iload_n 3, 1) := by decide +kernel
theorem dX6_least_6 : decode cX6_least 6 = .ok (.aload_n 0, 1) := by decide +kernel
theorem dX6_least_7 : decode cX6_least 7 = .ok (.getfield 18, 3) := by decide +kernel
theorem dX6_least_10 : decode cX6_least 10 = .ok (.if_icmp .ge 30, 3) := by decide +kernel
theorem dX6_least_13 : decode cX6_least 13 = .ok (.aload_n 0, 1) := by decide +kernel
theorem dX6_least_14 : decode cX6_least 14 = .ok (.getfield 15, 3) := by decide +kernel
theorem dX6_least_17 : decode cX6_least 17 = .ok (.iload_n 3, 1) := by decide +kernel
theorem dX6_least_18 : decode cX6_least 18 = .ok (.iaload, 1) := by decide +kernel
theorem dX6_least_19 : decode cX6_least 19 = .ok (.iload_n 1, 1) := by decide +kernel
theorem dX6_least_20 : decode cX6_least 20 = .ok (.if_icmp .ne 14, 3) := by decide +kernel
theorem dX6_least_23 : decode cX6_least 23 = .ok (.iload_n 2, 1) := by decide +kernel
theorem dX6_least_24 : decode cX6_least 24 = .ok (.aload_n 0, 1) := by decide +kernel
theorem dX6_least_25 : decode cX6_least 25 = .ok (.getfield 9, 3) := by decide +kernel
theorem dX6_least_28 : decode cX6_least 28 = .ok (.iload_n 3, 1) := by decide +kernel
theorem dX6_least_29 : decode cX6_least 29 = .ok (.iaload, 1) := by decide +kernel
theorem dX6_least_30 : decode cX6_least 30 = .ok (.invokestatic 22, 3) := by decide +kernel
theorem dX6_least_33 : decode cX6_least 33 = .ok (.istore_n 2, 1) := by decide +kernel
theorem dX6_least_34 : decode cX6_least 34 = .ok (.iinc 3 1, 3) := by decide +kernel
theorem dX6_least_37 : decode cX6_least 37 = .ok (.goto (-32), 3) := by decide +kernel
theorem dX6_least_40 : decode cX6_least 40 = .ok (.iload_n 2, 1) := by decide +kernel
theorem dX6_least_41 : decode cX6_least 41 = .ok (.ireturn, 1) := by decide +kernel
theorem dX6_greatest_0 : decode cX6_greatest 0 = .ok (.bipush (-69), 2) := by decide +kernel
theorem dX6_greatest_2 : decode cX6_greatest 2 = .ok (.istore_n 2, 1) := by decide +kernel
theorem dX6_greatest_3 : decode cX6_greatest 3 = .ok (.iconst 0, 1) := by decide +kernel
theorem dX6_greatest_4 : decode cX6_greatest 4 = .ok (.istore_n 3, 1) := by decide +kernel
theorem dX6_greatest_5 : decode cX6_greatest 5 = .ok (.iload_n 3, 1) := by decide +kernel
theorem dX6_greatest_6 : decode cX6_greatest 6 = .ok (.aload_n 0, 1) := by decide +kernel
theorem dX6_greatest_7 : decode cX6_greatest 7 = .ok (.getfield 18, 3) := by decide +kernel
theorem dX6_greatest_10 : decode cX6_greatest 10 = .ok (.if_icmp .ge 30, 3) := by decide +kernel
theorem dX6_greatest_13 : decode cX6_greatest 13 = .ok (.aload_n 0, 1) := by decide +kernel
theorem dX6_greatest_14 : decode cX6_greatest 14 = .ok (.getfield 15, 3) := by decide +kernel
theorem dX6_greatest_17 : decode cX6_greatest 17 = .ok (.iload_n 3, 1) := by decide +kernel
theorem dX6_greatest_18 : decode cX6_greatest 18 = .ok (.iaload, 1) := by decide +kernel
theorem dX6_greatest_19 : decode cX6_greatest 19 = .ok (.iload_n 1, 1) := by decide +kernel
theorem dX6_greatest_20 : decode cX6_greatest 20 = .ok (.if_icmp .ne 14, 3) := by decide +kernel
theorem dX6_greatest_23 : decode cX6_greatest 23 = .ok (.iload_n 2, 1) := by decide +kernel
theorem dX6_greatest_24 : decode cX6_greatest 24 = .ok (.aload_n 0, 1) := by decide +kernel
theorem dX6_greatest_25 : decode cX6_greatest 25 = .ok (.getfield 9, 3) := by decide +kernel
theorem dX6_greatest_28 : decode cX6_greatest 28 = .ok (.iload_n 3, 1) := by decide +kernel
theorem dX6_greatest_29 : decode cX6_greatest 29 = .ok (.iaload, 1) := by decide +kernel
theorem dX6_greatest_30 : decode cX6_greatest 30 = .ok (.invokestatic 28, 3) := by decide +kernel
theorem dX6_greatest_33 : decode cX6_greatest 33 = .ok (.istore_n 2, 1) := by decide +kernel
theorem dX6_greatest_34 : decode cX6_greatest 34 = .ok (.iinc 3 1, 3) := by decide +kernel
theorem dX6_greatest_37 : decode cX6_greatest 37 = .ok (.goto (-32), 3) := by decide +kernel
theorem dX6_greatest_40 : decode cX6_greatest 40 = .ok (.iload_n 2, 1) := by decide +kernel
theorem dX6_greatest_41 : decode cX6_greatest 41 = .ok (.ireturn, 1) := by decide +kernel
theorem dX7_init_0 : decode cX7_init 0 = .ok (.aload_n 0, 1) := by decide +kernel
theorem dX7_init_1 : decode cX7_init 1 = .ok (.invokespecial 1, 3) := by decide +kernel
theorem dX7_init_4 : decode cX7_init 4 = .ok (.aload_n 0, 1) := by decide +kernel
theorem dX7_init_5 : decode cX7_init 5 = .ok (.new 7, 3) := by decide +kernel
theorem dX7_init_8 : decode cX7_init 8 = .ok (.dup, 1) := by decide +kernel
theorem dX7_init_9 : decode cX7_init 9 = .ok (.invokespecial 9, 3) := by decide +kernel
theorem dX7_init_12 : decode cX7_init 12 = .ok (.putfield 10, 3) := by decide +kernel
theorem dX7_init_15 : decode cX7_init 15 = .ok (.aload_n 0, 1) := by decide +kernel
theorem dX7_init_16 : decode cX7_init 16 = .ok (.new 16, 3) := by decide +kernel
theorem dX7_init_19 : decode cX7_init 19 = .ok (.dup, 1) := by decide +kernel
theorem dX7_init_20 : decode cX7_init 20 = .ok (.invokespecial 18, 3) := by decide +kernel
theorem dX7_init_23 : decode cX7_init 23 = .ok (.putfield 19, 3) := by decide +kernel
theorem dX7_init_26 : decode cX7_init 26 = .ok (.aload_n 0, 1) := by decide +kernel
theorem dX7_init_27 : decode cX7_init 27 = .ok (.iconst 2, 1) := by decide +kernel
theorem dX7_init_28 : decode cX7_init 28 = .ok (.anewarray 16, 3) := by decide +kernel
theorem dX7_init_31 : decode cX7_init 31 = .ok (.putfield 23, 3) := by decide +kernel
theorem dX7_init_34 : decode cX7_init 34 = .ok (.aload_n 0, 1) := by decide +kernel
theorem dX7_init_35 : decode cX7_init 35 = .ok (.iconst 2, 1) := by decide +kernel
theorem dX7_init_36 : decode cX7_init 36 = .ok (.newarray .boolean, 2) := by decide +kernel
theorem dX7_init_38 : decode cX7_init 38 = .ok (.putfield 27, 3) := by decide +kernel
theorem dX7_init_41 : decode cX7_init 41 = .ok (.aload_n 0, 1) := by decide +kernel
theorem dX7_init_42 : decode cX7_init 42 = .ok (.new 31, 3) := by decide +kernel
theorem dX7_init_45 : decode cX7_init 45 = .ok (.dup, 1) := by decide +kernel
theorem dX7_init_46 : decode cX7_init 46 = .ok (.invokespecial 33, 3) := by decide +kernel
theorem dX7_init_49 : decode cX7_init 49 = .ok (.putfield 34, 3) := by decide +kernel
theorem dX7_init_52 : decode cX7_init 52 = .ok (.aload_n 0, 1) := by decide +kernel
theorem dX7_init_53 : decode cX7_init 53 = .ok (.new 38, 3) := by decide +kernel
theorem dX7_init_56 : decode cX7_init 56 = .ok (.dup, 1) := by decide +kernel
theorem dX7_init_57 : decode cX7_init 57 = .ok (.invokespecial 40, 3) := by decide +kernel
theorem dX7_init_60 : decode cX7_init 60 = .ok (.putfield 41, 3) := by decide +kernel
theorem dX7_init_63 : decode cX7_init 63 = .ok (.aload_n 0, 1) := by decide +kernel
theorem dX7_init_64 : decode cX7_init 64 = .ok (.new 45, 3) := by decide +kernel
theorem dX7_init_67 : decode cX7_init 67 = .ok (.dup, 1) := by decide +kernel
theorem dX7_init_68 : decode cX7_init 68 = .ok (.invokespecial 47, 3) := by decide +kernel
theorem dX7_init_71 : decode cX7_init 71 = .ok (.putfield 48, 3) := by decide +kernel
theorem dX7_init_74 : decode cX7_init 74 = .ok (.aload_n 0, 1) := by decide +kernel
theorem dX7_init_75 : decode cX7_init 75 = .ok (.new 52, 3) := by decide +kernel
theorem dX7_init_78 : decode cX7_init 78 = .ok (.dup, 1) := by decide +kernel
theorem dX7_init_79 : decode cX7_init 79 = .ok (.invokespecial 54, 3) := by decide +kernel
theorem dX7_init_82 : decode cX7_init 82 = .ok (.putfield 55, 3) := by decide +kernel
theorem dX7_init_85 : decode cX7_init 85 = .ok (.aload_n 0, 1) := by decide +kernel
theorem dX7_init_86 : decode cX7_init 86 = .ok (.new 59, 3) := by decide +kernel
theorem dX7_init_89 : decode cX7_init 89 = .ok (.dup, 1) := by decide +kernel
theorem dX7_init_90 : decode cX7_init 90 = .ok (.invokespecial 61, 3) := by decide +kernel
theorem dX7_init_93 : decode cX7_init 93 = .ok (.putfield 62, 3) := by decide +kernel
theorem dX7_init_96 : decode cX7_init 96 = .ok (.aload_n 0, 1) := by decide +kernel
theorem dX7_init_97 : decode cX7_init 97 = .ok (.new 59, 3) := by decide +kernel
theorem dX7_init_100 : decode cX7_init 100 = .ok (.dup, 1) := by decide +kernel
theorem dX7_init_101 : decode cX7_init 101 = .ok (.invokespecial 61, 3) := by decide +kernel
theorem dX7_init_104 : decode cX7_init 104 = .ok (.putfield 66, 3) := by decide +kernel
theorem dX7_init_107 : decode cX7_init 107 = .ok (.aload_n 0, 1) := by decide +kernel
theorem dX7_init_108 : decode cX7_init 108 = .ok (.iconst 2, 1) := by decide +kernel
theorem dX7_init_109 : decode cX7_init 109 = .ok (.putfield 69, 3) := by decide +kernel
theorem dX7_init_112 : decode cX7_init 112 = .ok (.aload_n 0, 1) := by decide +kernel
theorem dX7_init_113 : decode cX7_init 113 = .ok (.lconst 0, 1) := by decide +kernel
theorem dX7_init_114 : decode cX7_init 114 = .ok (.putfield 73, 3) := by decide +kernel
theorem dX7_init_117 : decode cX7_init 117 = .ok (.iconst 0, 1) := by decide +kernel
theorem dX7_init_118 : decode cX7_init 118 = .ok (.istore_n 1, 1) := by decide +kernel
theorem dX7_init_119 : decode cX7_init 119 = .ok (.iload_n 1, 1) := by decide +kernel
theorem dX7_init_120 : decode cX7_init 120 = .ok (.iconst 2, 1) := by decide +kernel
theorem dX7_init_121 : decode cX7_init 121 = .ok (.if_icmp .ge 22, 3) := by decide +kernel
theorem dX7_init_124 : decode cX7_init 124 = .ok (.aload_n 0, 1) := by decide +kernel
theorem dX7_init_125 : decode cX7_init 125 = .ok (.getfield 23, 3) := by decide +kernel
theorem dX7_init_128 : decode cX7_init 128 = .ok (.iload_n 1, 1) := by decide +kernel
theorem dX7_init_129 : decode cX7_init 129 = .ok (.new 16, 3) := by decide +kernel
theorem dX7_init_132 : decode cX7_init 132 = .ok (.dup, 1) := by decide +kernel
theorem dX7_init_133 : decode cX7_init 133 = .ok (.invokespecial 18, 3) := by decide +kernel
theorem dX7_init_136 : decode cX7_init 136 = .ok (.aastore, 1) := by decide +kernel
theorem dX7_init_137 : decode cX7_init 137 = .ok (.iinc 1 1, 3) := by decide +kernel
theorem dX7_init_140 : decode cX7_init 140 = .ok (.goto (-21), 3) := by decide +kernel
theorem dX7_init_143 : decode cX7_init 143 = .ok (.aload_n 0, 1) := by decide +kernel
theorem dX7_init_144 : decode cX7_init 144 = .ok (.getfield 19, 3) := by decide +kernel
theorem dX7_init_147 : decode cX7_init 147 = .ok (.iconst 1, 1) := by decide +kernel
theorem dX7_init_148 : decode cX7_init 148 = .ok (.putfield 77, 3) := by decide +kernel
theorem dX7_init_151 : decode cX7_init 151 = .ok (.return_, 1) := by decide +kernel
theorem dX7_type_0 : decode cX7_type 0 = .ok (.iload_n 3, 1) := by decide +kernel
theorem dX7_type_1 : decode cX7_type 1 = .ok (.iconst 1, 1) := by decide +kernel
theorem dX7_type_2 : decode cX7_type 2 = .ok (.bipush 8, 2) := by decide +kernel
theorem dX7_type_4 : decode cX7_type 4 = .ok (.invokestatic 80, 3) := by decide +kernel
theorem dX7_type_7 : decode cX7_type 7 = .ok (.ifCond .ne 5, 3) := by decide +kernel
theorem dX7_type_10 : decode cX7_type 10 = .ok (.iconst (-1), 1) := by decide +kernel
theorem dX7_type_11 : decode cX7_type 11 = .ok (.ireturn, 1) := by decide +kernel
theorem dX7_type_12 : decode cX7_type 12 = .ok (.aload_n 0, 1) := by decide +kernel
theorem dX7_type_13 : decode cX7_type 13 = .ok (.getfield 10, 3) := by decide +kernel
theorem dX7_type_16 : decode cX7_type 16 = .ok (.lload_n 1, 1) := by decide +kernel
theorem dX7_type_17 : decode cX7_type 17 = .ok (.iload_n 3, 1) := by decide +kernel
theorem dX7_type_18 : decode cX7_type 18 = .ok (.invokevirtual 84, 3) := by decide +kernel
theorem dX7_type_21 : decode cX7_type 21 = .ok (.ifCond .eq 13, 3) := by decide +kernel
theorem dX7_type_24 : decode cX7_type 24 = .ok (.aload_n 0, 1) := by decide +kernel
theorem dX7_type_25 : decode cX7_type 25 = .ok (.getfield 10, 3) := by decide +kernel
theorem dX7_type_28 : decode cX7_type 28 = .ok (.getfield 88, 3) := by decide +kernel
theorem dX7_type_31 : decode cX7_type 31 = .ok (.goto 5, 3) := by decide +kernel
theorem dX7_type_34 : decode cX7_type 34 = .ok (.bipush (-3), 2) := by decide +kernel
theorem dX7_type_36 : decode cX7_type 36 = .ok (.ireturn, 1) := by decide +kernel
theorem dX7_clear_0 : decode cX7_clear 0 = .ok (.aload_n 0, 1) := by decide +kernel
theorem dX7_clear_1 : decode cX7_clear 1 = .ok (.getfield 10, 3) := by decide +kernel
theorem dX7_clear_4 : decode cX7_clear 4 = .ok (.getfield 88, 3) := by decide +kernel
theorem dX7_clear_7 : decode cX7_clear 7 = .ok (.istore_n 1, 1) := by decide +kernel
theorem dX7_clear_8 : decode cX7_clear 8 = .ok (.aload_n 0, 1) := by decide +kernel
theorem dX7_clear_9 : decode cX7_clear 9 = .ok (.getfield 10, 3) := by decide +kernel
theorem dX7_clear_12 : decode cX7_clear 12 = .ok (.iconst 0, 1) := by decide +kernel
theorem dX7_clear_13 : decode cX7_clear 13 = .ok (.putfield 88, 3) := by decide +kernel
theorem dX7_clear_16 : decode cX7_clear 16 = .ok (.iload_n 1, 1) := by decide +kernel
theorem dX7_clear_17 : decode cX7_clear 17 = .ok (.ireturn, 1) := by decide +kernel
theorem dX7_land_0 : decode cX7_land 0 = .ok (.aload_n 0, 1) := by decide +kernel
theorem dX7_land_1 : decode cX7_land 1 = .ok (.getfield 10, 3) := by decide +kernel
theorem dX7_land_4 : decode cX7_land 4 = .ok (.aload_n 0, 1) := by decide +kernel
theorem dX7_land_5 : decode cX7_land 5 = .ok (.getfield 66, 3) := by decide +kernel
theorem dX7_land_8 : decode cX7_land 8 = .ok (.invokevirtual 91, 3) := by decide +kernel
theorem dX7_land_11 : decode cX7_land 11 = .ok (.istore_n 1, 1) := by decide +kernel
theorem dX7_land_12 : decode cX7_land 12 = .ok (.iload_n 1, 1) := by decide +kernel
theorem dX7_land_13 : decode cX7_land 13 = .ok (.ifCond .ge 5, 3) := by decide +kernel
theorem dX7_land_16 : decode cX7_land 16 = .ok (.iload_n 1, 1) := by decide +kernel
theorem dX7_land_17 : decode cX7_land 17 = .ok (.ireturn, 1) := by decide +kernel
theorem dX7_land_18 : decode cX7_land 18 = .ok (.aload_n 0, 1) := by decide +kernel
theorem dX7_land_19 : decode cX7_land 19 = .ok (.getfield 62, 3) := by decide +kernel
theorem dX7_land_22 : decode cX7_land 22 = .ok (.astore_n 2, 1) := by decide +kernel
theorem dX7_land_23 : decode cX7_land 23 = .ok (.aload_n 0, 1) := by decide +kernel
theorem dX7_land_24 : decode cX7_land 24 = .ok (.aload_n 0, 1) := by decide +kernel
theorem dX7_land_25 : decode cX7_land 25 = .ok (.getfield 66, 3) := by decide +kernel
theorem dX7_land_28 : decode cX7_land 28 = .ok (.putfield 62, 3) := by decide +kernel
theorem dX7_land_31 : decode cX7_land 31 = .ok (.aload_n 0, 1) := by decide +kernel
theorem dX7_land_32 : decode cX7_land 32 = .ok (.aload_n 2, 1) := by decide +kernel
theorem dX7_land_33 : decode cX7_land 33 = .ok (.putfield 66, 3) := by decide +kernel
theorem dX7_land_36 : decode cX7_land 36 = .ok (.aload_n 0, 1) := by decide +kernel
theorem dX7_land_37 : decode cX7_land 37 = .ok (.getfield 10, 3) := by decide +kernel
theorem dX7_land_40 : decode cX7_land 40 = .ok (.iconst 0, 1) := by decide +kernel
theorem dX7_land_41 : decode cX7_land 41 = .ok (.putfield 88, 3) := by decide +kernel
theorem dX7_land_44 : decode cX7_land 44 = .ok (.aload_n 0, 1) := by decide +kernel
theorem dX7_land_45 : decode cX7_land 45 = .ok (.getfield 41, 3) := by decide +kernel
theorem dX7_land_48 : decode cX7_land 48 = .ok (.iconst 0, 1) := by decide +kernel
theorem dX7_land_49 : decode cX7_land 49 = .ok (.putfield 95, 3) := by decide +kernel
theorem dX7_land_52 : decode cX7_land 52 = .ok (.aload_n 0, 1) := by decide +kernel
theorem dX7_land_53 : decode cX7_land 53 = .ok (.getfield 34, 3) := by decide +kernel
theorem dX7_land_56 : decode cX7_land 56 = .ok (.iconst 0, 1) := by decide +kernel
theorem dX7_land_57 : decode cX7_land 57 = .ok (.putfield 98, 3) := by decide +kernel
theorem dX7_land_60 : decode cX7_land 60 = .ok (.iconst 0, 1) := by decide +kernel
theorem dX7_land_61 : decode cX7_land 61 = .ok (.istore_n 3, 1) := by decide +kernel
theorem dX7_land_62 : decode cX7_land 62 = .ok (.iload_n 3, 1) := by decide +kernel
theorem dX7_land_63 : decode cX7_land 63 = .ok (.iconst 2, 1) := by decide +kernel
theorem dX7_land_64 : decode cX7_land 64 = .ok (.if_icmp .ge 16, 3) := by decide +kernel
theorem dX7_land_67 : decode cX7_land 67 = .ok (.aload_n 0, 1) := by decide +kernel
theorem dX7_land_68 : decode cX7_land 68 = .ok (.getfield 27, 3) := by decide +kernel
theorem dX7_land_71 : decode cX7_land 71 = .ok (.iload_n 3, 1) := by decide +kernel
theorem dX7_land_72 : decode cX7_land 72 = .ok (.iconst 0, 1) := by decide +kernel
theorem dX7_land_73 : decode cX7_land 73 = .ok (.bastore, 1) := by decide +kernel
theorem dX7_land_74 : decode cX7_land 74 = .ok (.iinc 3 1, 3) := by decide +kernel
theorem dX7_land_77 : decode cX7_land 77 = .ok (.goto (-15), 3) := by decide +kernel
theorem dX7_land_80 : decode cX7_land 80 = .ok (.aload_n 0, 1) := by decide +kernel
theorem dX7_land_81 : decode cX7_land 81 = .ok (.getfield 19, 3) := by decide +kernel
theorem dX7_land_84 : decode cX7_land 84 = .ok (.aload_n 0, 1) := by decide +kernel
theorem dX7_land_85 : decode cX7_land 85 = .ok (.getfield 62, 3) := by decide +kernel
theorem dX7_land_88 : decode cX7_land 88 = .ok (.invokevirtual 102, 3) := by decide +kernel
theorem dX7_land_91 : decode cX7_land 91 = .ok (.iload_n 1, 1) := by decide +kernel
theorem dX7_land_92 : decode cX7_land 92 = .ok (.ireturn, 1) := by decide +kernel
theorem dX7_law_0 : decode cX7_law 0 = .ok (.iload_n 1, 1) := by decide +kernel
theorem dX7_law_1 : decode cX7_law 1 = .ok (.tableswitch 72 0 4 #[35, 43, 51, 59, 67], 35) := by decide +kernel
theorem dX7_law_36 : decode cX7_law 36 = .ok (.aload_n 0, 1) := by decide +kernel
theorem dX7_law_37 : decode cX7_law 37 = .ok (.getfield 62, 3) := by decide +kernel
theorem dX7_law_40 : decode cX7_law 40 = .ok (.getfield 106, 3) := by decide +kernel
theorem dX7_law_43 : decode cX7_law 43 = .ok (.ireturn, 1) := by decide +kernel
theorem dX7_law_44 : decode cX7_law 44 = .ok (.aload_n 0, 1) := by decide +kernel
theorem dX7_law_45 : decode cX7_law 45 = .ok (.getfield 62, 3) := by decide +kernel
theorem dX7_law_48 : decode cX7_law 48 = .ok (.getfield 109, 3) := by decide +kernel
theorem dX7_law_51 : decode cX7_law 51 = .ok (.ireturn, 1) := by decide +kernel
theorem dX7_law_52 : decode cX7_law 52 = .ok (.aload_n 0, 1) := by decide +kernel
theorem dX7_law_53 : decode cX7_law 53 = .ok (.getfield 62, 3) := by decide +kernel
theorem dX7_law_56 : decode cX7_law 56 = .ok (.getfield 112, 3) := by decide +kernel
theorem dX7_law_59 : decode cX7_law 59 = .ok (.ireturn, 1) := by decide +kernel
theorem dX7_law_60 : decode cX7_law 60 = .ok (.aload_n 0, 1) := by decide +kernel
theorem dX7_law_61 : decode cX7_law 61 = .ok (.getfield 62, 3) := by decide +kernel
theorem dX7_law_64 : decode cX7_law 64 = .ok (.getfield 115, 3) := by decide +kernel
theorem dX7_law_67 : decode cX7_law 67 = .ok (.ireturn, 1) := by decide +kernel
theorem dX7_law_68 : decode cX7_law 68 = .ok (.aload_n 0, 1) := by decide +kernel
theorem dX7_law_69 : decode cX7_law 69 = .ok (.getfield 69, 3) := by decide +kernel
theorem dX7_law_72 : decode cX7_law 72 = .ok (.ireturn, 1) := by decide +kernel
theorem dX7_law_73 : decode cX7_law 73 = .ok (.iconst (-1), 1) := by decide +kernel
theorem dX7_law_74 : decode cX7_law 74 = .ok (.ireturn, 1) := by decide +kernel
theorem dX7_late_0 : decode cX7_late 0 = .ok (.iload_n 1, 1) := by decide +kernel
theorem dX7_late_1 : decode cX7_late 1 = .ok (.iconst 0, 1) := by decide +kernel
theorem dX7_late_2 : decode cX7_late 2 = .ok (.bipush 30, 2) := by decide +kernel
theorem dX7_late_4 : decode cX7_late 4 = .ok (.invokestatic 80, 3) := by decide +kernel
theorem dX7_late_7 : decode cX7_late 7 = .ok (.ifCond .ne 5, 3) := by decide +kernel
theorem dX7_late_10 : decode cX7_late 10 = .ok (.iconst (-1), 1) := by decide +kernel
theorem dX7_late_11 : decode cX7_late 11 = .ok (.ireturn, 1) := by decide +kernel
theorem dX7_late_12 : decode cX7_late 12 = .ok (.aload_n 0, 1) := by decide +kernel
theorem dX7_late_13 : decode cX7_late 13 = .ok (.getfield 69, 3) := by decide +kernel
theorem dX7_late_16 : decode cX7_late 16 = .ok (.istore_n 2, 1) := by decide +kernel
theorem dX7_late_17 : decode cX7_late 17 = .ok (.aload_n 0, 1) := by decide +kernel
theorem dX7_late_18 : decode cX7_late 18 = .ok (.iload_n 1, 1) := by decide +kernel
theorem dX7_late_19 : decode cX7_late 19 = .ok (.putfield 69, 3) := by decide +kernel
theorem dX7_late_22 : decode cX7_late 22 = .ok (.iload_n 2, 1) := by decide +kernel
theorem dX7_late_23 : decode cX7_late 23 = .ok (.ireturn, 1) := by decide +kernel
theorem dX7_near_0 : decode cX7_near 0 = .ok (.aload_n 0, 1) := by decide +kernel
theorem dX7_near_1 : decode cX7_near 1 = .ok (.iload_n 1, 1) := by decide +kernel
theorem dX7_near_2 : decode cX7_near 2 = .ok (.invokevirtual 118, 3) := by decide +kernel
theorem dX7_near_5 : decode cX7_near 5 = .ok (.ifCond .eq 16, 3) := by decide +kernel
theorem dX7_near_8 : decode cX7_near 8 = .ok (.aload_n 0, 1) := by decide +kernel
theorem dX7_near_9 : decode cX7_near 9 = .ok (.iload_n 2, 1) := by decide +kernel
theorem dX7_near_10 : decode cX7_near 10 = .ok (.invokevirtual 118, 3) := by decide +kernel
theorem dX7_near_13 : decode cX7_near 13 = .ok (.ifCond .eq 8, 3) := by decide +kernel
theorem dX7_near_16 : decode cX7_near 16 = .ok (.iload_n 1, 1) := by decide +kernel
theorem dX7_near_17 : decode cX7_near 17 = .ok (.iload_n 2, 1) := by decide +kernel
theorem dX7_near_18 : decode cX7_near 18 = .ok (.if_icmp .ne 5, 3) := by decide +kernel
theorem dX7_near_21 : decode cX7_near 21 = .ok (.iconst (-1), 1) := by decide +kernel
theorem dX7_near_22 : decode cX7_near 22 = .ok (.ireturn, 1) := by decide +kernel
theorem dX7_near_23 : decode cX7_near 23 = .ok (.aload_n 0, 1) := by decide +kernel
theorem dX7_near_24 : decode cX7_near 24 = .ok (.getfield 62, 3) := by decide +kernel
theorem dX7_near_27 : decode cX7_near 27 = .ok (.iload_n 1, 1) := by decide +kernel
theorem dX7_near_28 : decode cX7_near 28 = .ok (.iload_n 2, 1) := by decide +kernel
theorem dX7_near_29 : decode cX7_near 29 = .ok (.invokevirtual 122, 3) := by decide +kernel
theorem dX7_near_32 : decode cX7_near 32 = .ok (.ireturn, 1) := by decide +kernel
theorem dX7_word_0 : decode cX7_word 0 = .ok (.aload_n 0, 1) := by decide +kernel
theorem dX7_word_1 : decode cX7_word 1 = .ok (.iload_n 1, 1) := by decide +kernel
theorem dX7_word_2 : decode cX7_word 2 = .ok (.invokevirtual 126, 3) := by decide +kernel
theorem dX7_word_5 : decode cX7_word 5 = .ok (.ifCond .ne 5, 3) := by decide +kernel
theorem dX7_word_8 : decode cX7_word 8 = .ok (.iconst (-1), 1) := by decide +kernel
theorem dX7_word_9 : decode cX7_word 9 = .ok (.ireturn, 1) := by decide +kernel
theorem dX7_word_10 : decode cX7_word 10 = .ok (.iload_n 2, 1) := by decide +kernel
theorem dX7_word_11 : decode cX7_word 11 = .ok (.tableswitch 95 0 4 #[33, 43, 53, 63, 81], 33) := by decide +kernel
theorem dX7_word_44 : decode cX7_word 44 = .ok (.aload_n 0, 1) := by decide +kernel
theorem dX7_word_45 : decode cX7_word 45 = .ok (.getfield 62, 3) := by decide +kernel
theorem dX7_word_48 : decode cX7_word 48 = .ok (.getfield 129, 3) := by decide +kernel
theorem dX7_word_51 : decode cX7_word 51 = .ok (.iload_n 1, 1) := by decide +kernel
theorem dX7_word_52 : decode cX7_word 52 = .ok (.iaload, 1) := by decide +kernel
theorem dX7_word_53 : decode cX7_word 53 = .ok (.ireturn, 1) := by decide +kernel
theorem dX7_word_54 : decode cX7_word 54 = .ok (.aload_n 0, 1) := by decide +kernel
theorem dX7_word_55 : decode cX7_word 55 = .ok (.getfield 62, 3) := by decide +kernel
theorem dX7_word_58 : decode cX7_word 58 = .ok (.getfield 133, 3) := by decide +kernel
theorem dX7_word_61 : decode cX7_word 61 = .ok (.iload_n 1, 1) := by decide +kernel
theorem dX7_word_62 : decode cX7_word 62 = .ok (.iaload, 1) := by decide +kernel
theorem dX7_word_63 : decode cX7_word 63 = .ok (.ireturn, 1) := by decide +kernel
theorem dX7_word_64 : decode cX7_word 64 = .ok (.aload_n 0, 1) := by decide +kernel
theorem dX7_word_65 : decode cX7_word 65 = .ok (.getfield 62, 3) := by decide +kernel
theorem dX7_word_68 : decode cX7_word 68 = .ok (.getfield 136, 3) := by decide +kernel
theorem dX7_word_71 : decode cX7_word 71 = .ok (.iload_n 1, 1) := by decide +kernel
theorem dX7_word_72 : decode cX7_word 72 = .ok (.iaload, 1) := by decide +kernel
theorem dX7_word_73 : decode cX7_word 73 = .ok (.ireturn, 1) := by decide +kernel
theorem dX7_word_74 : decode cX7_word 74 = .ok (.aload_n 0, 1) := by decide +kernel
theorem dX7_word_75 : decode cX7_word 75 = .ok (.getfield 62, 3) := by decide +kernel
theorem dX7_word_78 : decode cX7_word 78 = .ok (.getfield 139, 3) := by decide +kernel
theorem dX7_word_81 : decode cX7_word 81 = .ok (.iload_n 1, 1) := by decide +kernel
theorem dX7_word_82 : decode cX7_word 82 = .ok (.baload, 1) := by decide +kernel
theorem dX7_word_83 : decode cX7_word 83 = .ok (.ifCond .eq 7, 3) := by decide +kernel
theorem dX7_word_86 : decode cX7_word 86 = .ok (.iconst 1, 1) := by decide +kernel
theorem dX7_word_87 : decode cX7_word 87 = .ok (.goto 4, 3) := by decide +kernel
theorem dX7_word_90 : decode cX7_word 90 = .ok (.iconst 0, 1) := by decide +kernel
theorem dX7_word_91 : decode cX7_word 91 = .ok (.ireturn, 1) := by decide +kernel
theorem dX7_word_92 : decode cX7_word 92 = .ok (.aload_n 0, 1) := by decide +kernel
theorem dX7_word_93 : decode cX7_word 93 = .ok (.iload_n 1, 1) := by decide +kernel
theorem dX7_word_94 : decode cX7_word 94 = .ok (.invokevirtual 142, 3) := by decide +kernel
theorem dX7_word_97 : decode cX7_word 97 = .ok (.ifCond .eq 7, 3) := by decide +kernel
theorem dX7_word_100 : decode cX7_word 100 = .ok (.iconst 1, 1) := by decide +kernel
theorem dX7_word_101 : decode cX7_word 101 = .ok (.goto 4, 3) := by decide +kernel
theorem dX7_word_104 : decode cX7_word 104 = .ok (.iconst 0, 1) := by decide +kernel
theorem dX7_word_105 : decode cX7_word 105 = .ok (.ireturn, 1) := by decide +kernel
theorem dX7_word_106 : decode cX7_word 106 = .ok (.iconst (-1), 1) := by decide +kernel
theorem dX7_word_107 : decode cX7_word 107 = .ok (.ireturn, 1) := by decide +kernel
theorem dX7_go_0 : decode cX7_go 0 = .ok (.iload_n 1, 1) := by decide +kernel
theorem dX7_go_1 : decode cX7_go 1 = .ok (.iconst 1, 1) := by decide +kernel
theorem dX7_go_2 : decode cX7_go 2 = .ok (.bipush 99, 2) := by decide +kernel
theorem dX7_go_4 : decode cX7_go 4 = .ok (.invokestatic 80, 3) := by decide +kernel
theorem dX7_go_7 : decode cX7_go 7 = .ok (.ifCond .ne 5, 3) := by decide +kernel
theorem dX7_go_10 : decode cX7_go 10 = .ok (.iconst (-1), 1) := by decide +kernel
theorem dX7_go_11 : decode cX7_go 11 = .ok (.ireturn, 1) := by decide +kernel
theorem dX7_go_12 : decode cX7_go 12 = .ok (.aload_n 0, 1) := by decide +kernel
theorem dX7_go_13 : decode cX7_go 13 = .ok (.getfield 19, 3) := by decide +kernel
theorem dX7_go_16 : decode cX7_go 16 = .ok (.getfield 145, 3) := by decide +kernel
theorem dX7_go_19 : decode cX7_go 19 = .ok (.bipush 99, 2) := by decide +kernel
theorem dX7_go_21 : decode cX7_go 21 = .ok (.if_icmp .lt 6, 3) := by decide +kernel
theorem dX7_go_24 : decode cX7_go 24 = .ok (.bipush (-2), 2) := by decide +kernel
theorem dX7_go_26 : decode cX7_go 26 = .ok (.ireturn, 1) := by decide +kernel
theorem dX7_go_27 : decode cX7_go 27 = .ok (.iload_n 1, 1) := by decide +kernel
theorem dX7_go_28 : decode cX7_go 28 = .ok (.bipush 99, 2) := by decide +kernel
theorem dX7_go_30 : decode cX7_go 30 = .ok (.aload_n 0, 1) := by decide +kernel
theorem dX7_go_31 : decode cX7_go 31 = .ok (.getfield 19, 3) := by decide +kernel
theorem dX7_go_34 : decode cX7_go 34 = .ok (.getfield 145, 3) := by decide +kernel
theorem dX7_go_37 : decode cX7_go 37 = .ok (.isub, 1) := by decide +kernel
theorem dX7_go_38 : decode cX7_go 38 = .ok (.invokestatic 148, 3) := by decide +kernel
theorem dX7_go_41 : decode cX7_go 41 = .ok (.istore_n 2, 1) := by decide +kernel
theorem dX7_go_42 : decode cX7_go 42 = .ok (.iconst 0, 1) := by decide +kernel
theorem dX7_go_43 : decode cX7_go 43 = .ok (.istore_n 3, 1) := by decide +kernel
theorem dX7_go_44 : decode cX7_go 44 = .ok (.iload_n 3, 1) := by decide +kernel
theorem dX7_go_45 : decode cX7_go 45 = .ok (.iload_n 2, 1) := by decide +kernel
theorem dX7_go_46 : decode cX7_go 46 = .ok (.if_icmp .ge 20, 3) := by decide +kernel
theorem dX7_go_49 : decode cX7_go 49 = .ok (.aload_n 0, 1) := by decide +kernel
theorem dX7_go_50 : decode cX7_go 50 = .ok (.getfield 19, 3) := by decide +kernel
theorem dX7_go_53 : decode cX7_go 53 = .ok (.aload_n 0, 1) := by decide +kernel
theorem dX7_go_54 : decode cX7_go 54 = .ok (.getfield 62, 3) := by decide +kernel
theorem dX7_go_57 : decode cX7_go 57 = .ok (.invokevirtual 153, 3) := by decide +kernel
theorem dX7_go_60 : decode cX7_go 60 = .ok (.iinc 3 1, 3) := by decide +kernel
theorem dX7_go_63 : decode cX7_go 63 = .ok (.goto (-19), 3) := by decide +kernel
theorem dX7_go_66 : decode cX7_go 66 = .ok (.iload_n 2, 1) := by decide +kernel
theorem dX7_go_67 : decode cX7_go 67 = .ok (.ireturn, 1) := by decide +kernel
theorem dX7_anew_0 : decode cX7_anew 0 = .ok (.aload_n 0, 1) := by decide +kernel
theorem dX7_anew_1 : decode cX7_anew 1 = .ok (.getfield 19, 3) := by decide +kernel
theorem dX7_anew_4 : decode cX7_anew 4 = .ok (.getfield 145, 3) := by decide +kernel
theorem dX7_anew_7 : decode cX7_anew 7 = .ok (.istore_n 1, 1) := by decide +kernel
theorem dX7_anew_8 : decode cX7_anew 8 = .ok (.aload_n 0, 1) := by decide +kernel
theorem dX7_anew_9 : decode cX7_anew 9 = .ok (.getfield 19, 3) := by decide +kernel
theorem dX7_anew_12 : decode cX7_anew 12 = .ok (.aload_n 0, 1) := by decide +kernel
theorem dX7_anew_13 : decode cX7_anew 13 = .ok (.getfield 62, 3) := by decide +kernel
theorem dX7_anew_16 : decode cX7_anew 16 = .ok (.invokevirtual 102, 3) := by decide +kernel
theorem dX7_anew_19 : decode cX7_anew 19 = .ok (.iload_n 1, 1) := by decide +kernel
theorem dX7_anew_20 : decode cX7_anew 20 = .ok (.ireturn, 1) := by decide +kernel
theorem dX7_share_0 : decode cX7_share 0 = .ok (.aload_n 0, 1) := by decide +kernel
theorem dX7_share_1 : decode cX7_share 1 = .ok (.iload_n 1, 1) := by decide +kernel
theorem dX7_share_2 : decode cX7_share 2 = .ok (.invokevirtual 126, 3) := by decide +kernel
theorem dX7_share_5 : decode cX7_share 5 = .ok (.ifCond .eq 18, 3) := by decide +kernel
theorem dX7_share_8 : decode cX7_share 8 = .ok (.aload_n 0, 1) := by decide +kernel
theorem dX7_share_9 : decode cX7_share 9 = .ok (.iload_n 2, 1) := by decide +kernel
theorem dX7_share_10 : decode cX7_share 10 = .ok (.invokevirtual 118, 3) := by decide +kernel
theorem dX7_share_13 : decode cX7_share 13 = .ok (.ifCond .eq 10, 3) := by decide +kernel
theorem dX7_share_16 : decode cX7_share 16 = .ok (.iload_n 3, 1) := by decide +kernel
theorem dX7_share_17 : decode cX7_share 17 = .ok (.invokestatic 156, 3) := by decide +kernel
theorem dX7_share_20 : decode cX7_share 20 = .ok (.ifCond .ne 5, 3) := by decide +kernel
theorem dX7_share_23 : decode cX7_share 23 = .ok (.iconst (-1), 1) := by decide +kernel
theorem dX7_share_24 : decode cX7_share 24 = .ok (.ireturn, 1) := by decide +kernel
theorem dX7_share_25 : decode cX7_share 25 = .ok (.aload_n 0, 1) := by decide +kernel
theorem dX7_share_26 : decode cX7_share 26 = .ok (.getfield 19, 3) := by decide +kernel
theorem dX7_share_29 : decode cX7_share 29 = .ok (.getfield 159, 3) := by decide +kernel
theorem dX7_share_32 : decode cX7_share 32 = .ok (.iload_n 1, 1) := by decide +kernel
theorem dX7_share_33 : decode cX7_share 33 = .ok (.aaload, 1) := by decide +kernel
theorem dX7_share_34 : decode cX7_share 34 = .ok (.getfield 163, 3) := by decide +kernel
theorem dX7_share_37 : decode cX7_share 37 = .ok (.iload_n 2, 1) := by decide +kernel
theorem dX7_share_38 : decode cX7_share 38 = .ok (.aaload, 1) := by decide +kernel
theorem dX7_share_39 : decode cX7_share 39 = .ok (.iload_n 3, 1) := by decide +kernel
theorem dX7_share_40 : decode cX7_share 40 = .ok (.iaload, 1) := by decide +kernel
theorem dX7_share_41 : decode cX7_share 41 = .ok (.ireturn, 1) := by decide +kernel
theorem dX7_has_0 : decode cX7_has 0 = .ok (.aload_n 0, 1) := by decide +kernel
theorem dX7_has_1 : decode cX7_has 1 = .ok (.iload_n 1, 1) := by decide +kernel
theorem dX7_has_2 : decode cX7_has 2 = .ok (.invokevirtual 126, 3) := by decide +kernel
theorem dX7_has_5 : decode cX7_has 5 = .ok (.ifCond .eq 12, 3) := by decide +kernel
theorem dX7_has_8 : decode cX7_has 8 = .ok (.iload_n 3, 1) := by decide +kernel
theorem dX7_has_9 : decode cX7_has 9 = .ok (.iconst 0, 1) := by decide +kernel
theorem dX7_has_10 : decode cX7_has 10 = .ok (.iconst 2, 1) := by decide +kernel
theorem dX7_has_11 : decode cX7_has 11 = .ok (.invokestatic 80, 3) := by decide +kernel
theorem dX7_has_14 : decode cX7_has 14 = .ok (.ifCond .ne 5, 3) := by decide +kernel
theorem dX7_has_17 : decode cX7_has 17 = .ok (.iconst (-1), 1) := by decide +kernel
theorem dX7_has_18 : decode cX7_has 18 = .ok (.ireturn, 1) := by decide +kernel
theorem dX7_has_19 : decode cX7_has 19 = .ok (.iload_n 2, 1) := by decide +kernel
theorem dX7_has_20 : decode cX7_has 20 = .ok (.iconst (-1), 1) := by decide +kernel
theorem dX7_has_21 : decode cX7_has 21 = .ok (.if_icmp .ne 10, 3) := by decide +kernel
theorem dX7_has_24 : decode cX7_has 24 = .ok (.aload_n 0, 1) := by decide +kernel
theorem dX7_has_25 : decode cX7_has 25 = .ok (.iload_n 1, 1) := by decide +kernel
theorem dX7_has_26 : decode cX7_has 26 = .ok (.iload_n 3, 1) := by decide +kernel
theorem dX7_has_27 : decode cX7_has 27 = .ok (.invokevirtual 167, 3) := by decide +kernel
theorem dX7_has_30 : decode cX7_has 30 = .ok (.ireturn, 1) := by decide +kernel
theorem dX7_has_31 : decode cX7_has 31 = .ok (.aload_n 0, 1) := by decide +kernel
theorem dX7_has_32 : decode cX7_has 32 = .ok (.iload_n 2, 1) := by decide +kernel
theorem dX7_has_33 : decode cX7_has 33 = .ok (.invokevirtual 118, 3) := by decide +kernel
theorem dX7_has_36 : decode cX7_has 36 = .ok (.ifCond .eq 20, 3) := by decide +kernel
theorem dX7_has_39 : decode cX7_has 39 = .ok (.aload_n 0, 1) := by decide +kernel
theorem dX7_has_40 : decode cX7_has 40 = .ok (.getfield 19, 3) := by decide +kernel
theorem dX7_has_43 : decode cX7_has 43 = .ok (.getfield 159, 3) := by decide +kernel
theorem dX7_has_46 : decode cX7_has 46 = .ok (.iload_n 1, 1) := by decide +kernel
theorem dX7_has_47 : decode cX7_has 47 = .ok (.aaload, 1) := by decide +kernel
theorem dX7_has_48 : decode cX7_has 48 = .ok (.iload_n 2, 1) := by decide +kernel
theorem dX7_has_49 : decode cX7_has 49 = .ok (.iload_n 3, 1) := by decide +kernel
theorem dX7_has_50 : decode cX7_has 50 = .ok (.invokevirtual 170, 3) := by decide +kernel
theorem dX7_has_53 : decode cX7_has 53 = .ok (.goto 4, 3) := by decide +kernel
theorem dX7_has_56 : decode cX7_has 56 = .ok (.iconst (-1), 1) := by decide +kernel
theorem dX7_has_57 : decode cX7_has 57 = .ok (.ireturn, 1) := by decide +kernel
theorem dX7_song_0 : decode cX7_song 0 = .ok (.aload_n 0, 1) := by decide +kernel
theorem dX7_song_1 : decode cX7_song 1 = .ok (.iload_n 1, 1) := by decide +kernel
theorem dX7_song_2 : decode cX7_song 2 = .ok (.invokevirtual 126, 3) := by decide +kernel
theorem dX7_song_5 : decode cX7_song 5 = .ok (.ifCond .eq 21, 3) := by decide +kernel
theorem dX7_song_8 : decode cX7_song 8 = .ok (.aload_n 0, 1) := by decide +kernel
theorem dX7_song_9 : decode cX7_song 9 = .ok (.iload_n 2, 1) := by decide +kernel
theorem dX7_song_10 : decode cX7_song 10 = .ok (.invokevirtual 118, 3) := by decide +kernel
theorem dX7_song_13 : decode cX7_song 13 = .ok (.ifCond .eq 13, 3) := by decide +kernel
theorem dX7_song_16 : decode cX7_song 16 = .ok (.iload_n 3, 1) := by decide +kernel
theorem dX7_song_17 : decode cX7_song 17 = .ok (.iconst 1, 1) := by decide +kernel
theorem dX7_song_18 : decode cX7_song 18 = .ok (.bipush 99, 2) := by decide +kernel
theorem dX7_song_20 : decode cX7_song 20 = .ok (.invokestatic 80, 3) := by decide +kernel
theorem dX7_song_23 : decode cX7_song 23 = .ok (.ifCond .ne 5, 3) := by decide +kernel
theorem dX7_song_26 : decode cX7_song 26 = .ok (.iconst (-1), 1) := by decide +kernel
theorem dX7_song_27 : decode cX7_song 27 = .ok (.ireturn, 1) := by decide +kernel
theorem dX7_song_28 : decode cX7_song 28 = .ok (.aload_n 0, 1) := by decide +kernel
theorem dX7_song_29 : decode cX7_song 29 = .ok (.iload_n 1, 1) := by decide +kernel
theorem dX7_song_30 : decode cX7_song 30 = .ok (.invokevirtual 142, 3) := by decide +kernel
theorem dX7_song_33 : decode cX7_song 33 = .ok (.ifCond .ne 6, 3) := by decide +kernel
theorem dX7_song_36 : decode cX7_song 36 = .ok (.bipush (-2), 2) := by decide +kernel
theorem dX7_song_38 : decode cX7_song 38 = .ok (.ireturn, 1) := by decide +kernel
theorem dX7_song_39 : decode cX7_song 39 = .ok (.aload_n 0, 1) := by decide +kernel
theorem dX7_song_40 : decode cX7_song 40 = .ok (.getfield 19, 3) := by decide +kernel
theorem dX7_song_43 : decode cX7_song 43 = .ok (.getfield 173, 3) := by decide +kernel
theorem dX7_song_46 : decode cX7_song 46 = .ok (.getfield 176, 3) := by decide +kernel
theorem dX7_song_49 : decode cX7_song 49 = .ok (.bipush 10, 2) := by decide +kernel
theorem dX7_song_51 : decode cX7_song 51 = .ok (.if_icmp .lt 6, 3) := by decide +kernel
theorem dX7_song_54 : decode cX7_song 54 = .ok (.bipush (-3), 2) := by decide +kernel
theorem dX7_song_56 : decode cX7_song 56 = .ok (.ireturn, 1) := by decide +kernel
theorem dX7_song_57 : decode cX7_song 57 = .ok (.aload_n 0, 1) := by decide +kernel
theorem dX7_song_58 : decode cX7_song 58 = .ok (.getfield 19, 3) := by decide +kernel
theorem dX7_song_61 : decode cX7_song 61 = .ok (.getfield 173, 3) := by decide +kernel
theorem dX7_song_64 : decode cX7_song 64 = .ok (.aload_n 0, 1) := by decide +kernel
theorem dX7_song_65 : decode cX7_song 65 = .ok (.getfield 19, 3) := by decide +kernel
theorem dX7_song_68 : decode cX7_song 68 = .ok (.getfield 145, 3) := by decide +kernel
theorem dX7_song_71 : decode cX7_song 71 = .ok (.iload_n 1, 1) := by decide +kernel
theorem dX7_song_72 : decode cX7_song 72 = .ok (.iload_n 2, 1) := by decide +kernel
theorem dX7_song_73 : decode cX7_song 73 = .ok (.iload_n 3, 1) := by decide +kernel
theorem dX7_song_74 : decode cX7_song 74 = .ok (.invokevirtual 177, 3) := by decide +kernel
theorem dX7_song_77 : decode cX7_song 77 = .ok (.aload_n 0, 1) := by decide +kernel
theorem dX7_song_78 : decode cX7_song 78 = .ok (.getfield 19, 3) := by decide +kernel
theorem dX7_song_81 : decode cX7_song 81 = .ok (.getfield 159, 3) := by decide +kernel
theorem dX7_song_84 : decode cX7_song 84 = .ok (.iload_n 1, 1) := by decide +kernel
theorem dX7_song_85 : decode cX7_song 85 = .ok (.aaload, 1) := by decide +kernel
theorem dX7_song_86 : decode cX7_song 86 = .ok (.iload_n 2, 1) := by decide +kernel
theorem dX7_song_87 : decode cX7_song 87 = .ok (.bipush 13, 2) := by decide +kernel
theorem dX7_song_89 : decode cX7_song 89 = .ok (.bipush 19, 2) := by decide +kernel
theorem dX7_song_91 : decode cX7_song 91 = .ok (.bipush 10, 2) := by decide +kernel
theorem dX7_song_93 : decode cX7_song 93 = .ok (.iload_n 3, 1) := by decide +kernel
theorem dX7_song_94 : decode cX7_song 94 = .ok (.imul, 1) := by decide +kernel
theorem dX7_song_95 : decode cX7_song 95 = .ok (.invokevirtual 181, 3) := by decide +kernel
theorem dX7_song_98 : decode cX7_song 98 = .ok (.aload_n 0, 1) := by decide +kernel
theorem dX7_song_99 : decode cX7_song 99 = .ok (.getfield 19, 3) := by decide +kernel
theorem dX7_song_102 : decode cX7_song 102 = .ok (.getfield 159, 3) := by decide +kernel
theorem dX7_song_105 : decode cX7_song 105 = .ok (.iload_n 1, 1) := by decide +kernel
theorem dX7_song_106 : decode cX7_song 106 = .ok (.aaload, 1) := by decide +kernel
theorem dX7_song_107 : decode cX7_song 107 = .ok (.aload_n 0, 1) := by decide +kernel
theorem dX7_song_108 : decode cX7_song 108 = .ok (.getfield 62, 3) := by decide +kernel
theorem dX7_song_111 : decode cX7_song 111 = .ok (.getfield 184, 3) := by decide +kernel
theorem dX7_song_114 : decode cX7_song 114 = .ok (.aload_n 0, 1) := by decide +kernel
theorem dX7_song_115 : decode cX7_song 115 = .ok (.getfield 19, 3) := by decide +kernel
theorem dX7_song_118 : decode cX7_song 118 = .ok (.getfield 145, 3) := by decide +kernel
theorem dX7_song_121 : decode cX7_song 121 = .ok (.invokevirtual 187, 3) := by decide +kernel
theorem dX7_song_124 : decode cX7_song 124 = .ok (.aload_n 0, 1) := by decide +kernel
theorem dX7_song_125 : decode cX7_song 125 = .ok (.getfield 19, 3) := by decide +kernel
theorem dX7_song_128 : decode cX7_song 128 = .ok (.getfield 173, 3) := by decide +kernel
theorem dX7_song_131 : decode cX7_song 131 = .ok (.getfield 176, 3) := by decide +kernel
theorem dX7_song_134 : decode cX7_song 134 = .ok (.ireturn, 1) := by decide +kernel
theorem dX7_life_0 : decode cX7_life 0 = .ok (.aload_n 0, 1) := by decide +kernel
theorem dX7_life_1 : decode cX7_life 1 = .ok (.iload_n 1, 1) := by decide +kernel
theorem dX7_life_2 : decode cX7_life 2 = .ok (.invokevirtual 126, 3) := by decide +kernel
theorem dX7_life_5 : decode cX7_life 5 = .ok (.ifCond .eq 12, 3) := by decide +kernel
theorem dX7_life_8 : decode cX7_life 8 = .ok (.iload_n 2, 1) := by decide +kernel
theorem dX7_life_9 : decode cX7_life 9 = .ok (.iconst 0, 1) := by decide +kernel
theorem dX7_life_10 : decode cX7_life 10 = .ok (.iconst 3, 1) := by decide +kernel
theorem dX7_life_11 : decode cX7_life 11 = .ok (.invokestatic 80, 3) := by decide +kernel
theorem dX7_life_14 : decode cX7_life 14 = .ok (.ifCond .ne 5, 3) := by decide +kernel
theorem dX7_life_17 : decode cX7_life 17 = .ok (.iconst (-1), 1) := by decide +kernel
theorem dX7_life_18 : decode cX7_life 18 = .ok (.ireturn, 1) := by decide +kernel
theorem dX7_life_19 : decode cX7_life 19 = .ok (.aload_n 0, 1) := by decide +kernel
theorem dX7_life_20 : decode cX7_life 20 = .ok (.iload_n 1, 1) := by decide +kernel
theorem dX7_life_21 : decode cX7_life 21 = .ok (.invokevirtual 142, 3) := by decide +kernel
theorem dX7_life_24 : decode cX7_life 24 = .ok (.ifCond .ne 6, 3) := by decide +kernel
theorem dX7_life_27 : decode cX7_life 27 = .ok (.bipush (-2), 2) := by decide +kernel
theorem dX7_life_29 : decode cX7_life 29 = .ok (.ireturn, 1) := by decide +kernel
theorem dX7_life_30 : decode cX7_life 30 = .ok (.aload_n 0, 1) := by decide +kernel
theorem dX7_life_31 : decode cX7_life 31 = .ok (.getfield 19, 3) := by decide +kernel
theorem dX7_life_34 : decode cX7_life 34 = .ok (.getfield 159, 3) := by decide +kernel
theorem dX7_life_37 : decode cX7_life 37 = .ok (.iload_n 1, 1) := by decide +kernel
theorem dX7_life_38 : decode cX7_life 38 = .ok (.aaload, 1) := by decide +kernel
theorem dX7_life_39 : decode cX7_life 39 = .ok (.astore_n 3, 1) := by decide +kernel
theorem dX7_life_40 : decode cX7_life 40 = .ok (.iload_n 2, 1) := by decide +kernel
theorem dX7_life_41 : decode cX7_life 41 = .ok (.tableswitch 63 0 2 #[27, 39, 51], 27) := by decide +kernel
theorem dX7_life_68 : decode cX7_life 68 = .ok (.aload_n 3, 1) := by decide +kernel
theorem dX7_life_69 : decode cX7_life 69 = .ok (.aload_n 0, 1) := by decide +kernel
theorem dX7_life_70 : decode cX7_life 70 = .ok (.getfield 19, 3) := by decide +kernel
theorem dX7_life_73 : decode cX7_life 73 = .ok (.getfield 145, 3) := by decide +kernel
theorem dX7_life_76 : decode cX7_life 76 = .ok (.invokevirtual 191, 3) := by decide +kernel
theorem dX7_life_79 : decode cX7_life 79 = .ok (.ireturn, 1) := by decide +kernel
theorem dX7_life_80 : decode cX7_life 80 = .ok (.aload_n 3, 1) := by decide +kernel
theorem dX7_life_81 : decode cX7_life 81 = .ok (.aload_n 0, 1) := by decide +kernel
theorem dX7_life_82 : decode cX7_life 82 = .ok (.getfield 19, 3) := by decide +kernel
theorem dX7_life_85 : decode cX7_life 85 = .ok (.getfield 145, 3) := by decide +kernel
theorem dX7_life_88 : decode cX7_life 88 = .ok (.invokevirtual 195, 3) := by decide +kernel
theorem dX7_life_91 : decode cX7_life 91 = .ok (.ireturn, 1) := by decide +kernel
theorem dX7_life_92 : decode cX7_life 92 = .ok (.aload_n 3, 1) := by decide +kernel
theorem dX7_life_93 : decode cX7_life 93 = .ok (.aload_n 0, 1) := by decide +kernel
theorem dX7_life_94 : decode cX7_life 94 = .ok (.getfield 19, 3) := by decide +kernel
theorem dX7_life_97 : decode cX7_life 97 = .ok (.getfield 145, 3) := by decide +kernel
theorem dX7_life_100 : decode cX7_life 100 = .ok (.invokevirtual 198, 3) := by decide +kernel
theorem dX7_life_103 : decode cX7_life 103 = .ok (.ireturn, 1) := by decide +kernel
theorem dX7_life_104 : decode cX7_life 104 = .ok (.aload_n 3, 1) := by decide +kernel
theorem dX7_life_105 : decode cX7_life 105 = .ok (.aload_n 0, 1) := by decide +kernel
theorem dX7_life_106 : decode cX7_life 106 = .ok (.getfield 62, 3) := by decide +kernel
theorem dX7_life_109 : decode cX7_life 109 = .ok (.getfield 184, 3) := by decide +kernel
theorem dX7_life_112 : decode cX7_life 112 = .ok (.invokevirtual 201, 3) := by decide +kernel
theorem dX7_life_115 : decode cX7_life 115 = .ok (.ireturn, 1) := by decide +kernel
theorem dX7_printed_0 : decode cX7_printed 0 = .ok (.aload_n 0, 1) := by decide +kernel
theorem dX7_printed_1 : decode cX7_printed 1 = .ok (.iload_n 1, 1) := by decide +kernel
theorem dX7_printed_2 : decode cX7_printed 2 = .ok (.invokevirtual 126, 3) := by decide +kernel
theorem dX7_printed_5 : decode cX7_printed 5 = .ok (.ifCond .eq 12, 3) := by decide +kernel
theorem dX7_printed_8 : decode cX7_printed 8 = .ok (.iload_n 2, 1) := by decide +kernel
theorem dX7_printed_9 : decode cX7_printed 9 = .ok (.iconst 0, 1) := by decide +kernel
theorem dX7_printed_10 : decode cX7_printed 10 = .ok (.iconst 1, 1) := by decide +kernel
theorem dX7_printed_11 : decode cX7_printed 11 = .ok (.invokestatic 80, 3) := by decide +kernel
theorem dX7_printed_14 : decode cX7_printed 14 = .ok (.ifCond .ne 5, 3) := by decide +kernel
theorem dX7_printed_17 : decode cX7_printed 17 = .ok (.iconst (-1), 1) := by decide +kernel
theorem dX7_printed_18 : decode cX7_printed 18 = .ok (.ireturn, 1) := by decide +kernel
theorem dX7_printed_19 : decode cX7_printed 19 = .ok (.aload_n 0, 1) := by decide +kernel
theorem dX7_printed_20 : decode cX7_printed 20 = .ok (.getfield 19, 3) := by decide +kernel
theorem dX7_printed_23 : decode cX7_printed 23 = .ok (.getfield 159, 3) := by decide +kernel
theorem dX7_printed_26 : decode cX7_printed 26 = .ok (.iload_n 1, 1) := by decide +kernel
theorem dX7_printed_27 : decode cX7_printed 27 = .ok (.aaload, 1) := by decide +kernel
theorem dX7_printed_28 : decode cX7_printed 28 = .ok (.aload_n 0, 1) := by decide +kernel
theorem dX7_printed_29 : decode cX7_printed 29 = .ok (.getfield 19, 3) := by decide +kernel
theorem dX7_printed_32 : decode cX7_printed 32 = .ok (.getfield 145, 3) := by decide +kernel
theorem dX7_printed_35 : decode cX7_printed 35 = .ok (.invokevirtual 204, 3) := by decide +kernel
theorem dX7_printed_38 : decode cX7_printed 38 = .ok (.istore_n 3, 1) := by decide +kernel
theorem dX7_printed_39 : decode cX7_printed 39 = .ok (.iload_n 3, 1) := by decide +kernel
theorem dX7_printed_40 : decode cX7_printed 40 = .ok (.bipush (-9), 2) := by decide +kernel
theorem dX7_printed_42 : decode cX7_printed 42 = .ok (.if_icmp .ne 6, 3) := by decide +kernel
theorem dX7_printed_45 : decode cX7_printed 45 = .ok (.bipush (-9), 2) := by decide +kernel
theorem dX7_printed_47 : decode cX7_printed 47 = .ok (.ireturn, 1) := by decide +kernel
theorem dX7_printed_48 : decode cX7_printed 48 = .ok (.iload_n 2, 1) := by decide +kernel
theorem dX7_printed_49 : decode cX7_printed 49 = .ok (.ifCond .ne 12, 3) := by decide +kernel
theorem dX7_printed_52 : decode cX7_printed 52 = .ok (.iload_n 3, 1) := by decide +kernel
theorem dX7_printed_53 : decode cX7_printed 53 = .ok (.aload_n 0, 1) := by decide +kernel
theorem dX7_printed_54 : decode cX7_printed 54 = .ok (.getfield 69, 3) := by decide +kernel
theorem dX7_printed_57 : decode cX7_printed 57 = .ok (.iadd, 1) := by decide +kernel
theorem dX7_printed_58 : decode cX7_printed 58 = .ok (.goto 19, 3) := by decide +kernel
theorem dX7_printed_61 : decode cX7_printed 61 = .ok (.iload_n 3, 1) := by decide +kernel
theorem dX7_printed_62 : decode cX7_printed 62 = .ok (.aload_n 0, 1) := by decide +kernel
theorem dX7_printed_63 : decode cX7_printed 63 = .ok (.getfield 69, 3) := by decide +kernel
theorem dX7_printed_66 : decode cX7_printed 66 = .ok (.iadd, 1) := by decide +kernel
theorem dX7_printed_67 : decode cX7_printed 67 = .ok (.aload_n 0, 1) := by decide +kernel
theorem dX7_printed_68 : decode cX7_printed 68 = .ok (.getfield 62, 3) := by decide +kernel
theorem dX7_printed_71 : decode cX7_printed 71 = .ok (.getfield 133, 3) := by decide +kernel
theorem dX7_printed_74 : decode cX7_printed 74 = .ok (.iload_n 1, 1) := by decide +kernel
theorem dX7_printed_75 : decode cX7_printed 75 = .ok (.iaload, 1) := by decide +kernel
theorem dX7_printed_76 : decode cX7_printed 76 = .ok (.isub, 1) := by decide +kernel
theorem dX7_printed_77 : decode cX7_printed 77 = .ok (.ireturn, 1) := by decide +kernel
theorem dX7_old_0 : decode cX7_old 0 = .ok (.iload_n 3, 1) := by decide +kernel
theorem dX7_old_1 : decode cX7_old 1 = .ok (.invokestatic 156, 3) := by decide +kernel
theorem dX7_old_4 : decode cX7_old 4 = .ok (.ifCond .eq 27, 3) := by decide +kernel
theorem dX7_old_7 : decode cX7_old 7 = .ok (.iload 4, 2) := by decide +kernel
theorem dX7_old_9 : decode cX7_old 9 = .ok (.invokestatic 156, 3) := by decide +kernel
theorem dX7_old_12 : decode cX7_old 12 = .ok (.ifCond .eq 19, 3) := by decide +kernel
theorem dX7_old_15 : decode cX7_old 15 = .ok (.iload_n 3, 1) := by decide +kernel
theorem dX7_old_16 : decode cX7_old 16 = .ok (.iload 4, 2) := by decide +kernel
theorem dX7_old_18 : decode cX7_old 18 = .ok (.if_icmp .gt 13, 3) := by decide +kernel
theorem dX7_old_21 : decode cX7_old 21 = .ok (.iload 5, 2) := by decide +kernel
theorem dX7_old_23 : decode cX7_old 23 = .ok (.iconst 0, 1) := by decide +kernel
theorem dX7_old_24 : decode cX7_old 24 = .ok (.iconst 1, 1) := by decide +kernel
theorem dX7_old_25 : decode cX7_old 25 = .ok (.invokestatic 80, 3) := by decide +kernel
theorem dX7_old_28 : decode cX7_old 28 = .ok (.ifCond .ne 7, 3) := by decide +kernel
theorem dX7_old_31 : decode cX7_old 31 = .ok (.ldc2_w 207, 3) := by decide +kernel
theorem dX7_old_34 : decode cX7_old 34 = .ok (.lreturn, 1) := by decide +kernel
theorem dX7_old_35 : decode cX7_old 35 = .ok (.aload_n 0, 1) := by decide +kernel
theorem dX7_old_36 : decode cX7_old 36 = .ok (.iload_n 1, 1) := by decide +kernel
theorem dX7_old_37 : decode cX7_old 37 = .ok (.iload_n 2, 1) := by decide +kernel
theorem dX7_old_38 : decode cX7_old 38 = .ok (.bipush 10, 2) := by decide +kernel
theorem dX7_old_40 : decode cX7_old 40 = .ok (.bipush 69, 2) := by decide +kernel
theorem dX7_old_42 : decode cX7_old 42 = .ok (.invokevirtual 209, 3) := by decide +kernel
theorem dX7_old_45 : decode cX7_old 45 = .ok (.lstore 6, 2) := by decide +kernel
theorem dX7_old_47 : decode cX7_old 47 = .ok (.lload 6, 2) := by decide +kernel
theorem dX7_old_49 : decode cX7_old 49 = .ok (.lconst 0, 1) := by decide +kernel
theorem dX7_old_50 : decode cX7_old 50 = .ok (.lcmp, 1) := by decide +kernel
theorem dX7_old_51 : decode cX7_old 51 = .ok (.ifCond .ne 7, 3) := by decide +kernel
theorem dX7_old_54 : decode cX7_old 54 = .ok (.ldc2_w 213, 3) := by decide +kernel
theorem dX7_old_57 : decode cX7_old 57 = .ok (.lreturn, 1) := by decide +kernel
theorem dX7_old_58 : decode cX7_old 58 = .ok (.aload_n 0, 1) := by decide +kernel
theorem dX7_old_59 : decode cX7_old 59 = .ok (.iload_n 1, 1) := by decide +kernel
theorem dX7_old_60 : decode cX7_old 60 = .ok (.iload_n 2, 1) := by decide +kernel
theorem dX7_old_61 : decode cX7_old 61 = .ok (.iload_n 3, 1) := by decide +kernel
theorem dX7_old_62 : decode cX7_old 62 = .ok (.iload 4, 2) := by decide +kernel
theorem dX7_old_64 : decode cX7_old 64 = .ok (.invokevirtual 209, 3) := by decide +kernel
theorem dX7_old_67 : decode cX7_old 67 = .ok (.lload 6, 2) := by decide +kernel
theorem dX7_old_69 : decode cX7_old 69 = .ok (.iload 5, 2) := by decide +kernel
theorem dX7_old_71 : decode cX7_old 71 = .ok (.invokestatic 215, 3) := by decide +kernel
theorem dX7_old_74 : decode cX7_old 74 = .ok (.lreturn, 1) := by decide +kernel
theorem dX7_likeliest_0 : decode cX7_likeliest 0 = .ok (.iload_n 3, 1) := by decide +kernel
theorem dX7_likeliest_1 : decode cX7_likeliest 1 = .ok (.iconst 0, 1) := by decide +kernel
theorem dX7_likeliest_2 : decode cX7_likeliest 2 = .ok (.iconst 1, 1) := by decide +kernel
theorem dX7_likeliest_3 : decode cX7_likeliest 3 = .ok (.invokestatic 80, 3) := by decide +kernel
theorem dX7_likeliest_6 : decode cX7_likeliest 6 = .ok (.ifCond .ne 5, 3) := by decide +kernel
theorem dX7_likeliest_9 : decode cX7_likeliest 9 = .ok (.iconst (-1), 1) := by decide +kernel
theorem dX7_likeliest_10 : decode cX7_likeliest 10 = .ok (.ireturn, 1) := by decide +kernel
theorem dX7_likeliest_11 : decode cX7_likeliest 11 = .ok (.lconst 0, 1) := by decide +kernel
theorem dX7_likeliest_12 : decode cX7_likeliest 12 = .ok (.lstore 4, 2) := by decide +kernel
theorem dX7_likeliest_14 : decode cX7_likeliest 14 = .ok (.bipush (-2), 2) := by decide +kernel
theorem dX7_likeliest_16 : decode cX7_likeliest 16 = .ok (.istore 6, 2) := by decide +kernel
theorem dX7_likeliest_18 : decode cX7_likeliest 18 = .ok (.bipush (-2), 2) := by decide +kernel
theorem dX7_likeliest_20 : decode cX7_likeliest 20 = .ok (.istore 7, 2) := by decide +kernel
theorem dX7_likeliest_22 : decode cX7_likeliest 22 = .ok (.bipush 10, 2) := by decide +kernel
theorem dX7_likeliest_24 : decode cX7_likeliest 24 = .ok (.istore 8, 2) := by decide +kernel
theorem dX7_likeliest_26 : decode cX7_likeliest 26 = .ok (.iload 8, 2) := by decide +kernel
theorem dX7_likeliest_28 : decode cX7_likeliest 28 = .ok (.bipush 69, 2) := by decide +kernel
theorem dX7_likeliest_30 : decode cX7_likeliest 30 = .ok (.if_icmp .gt 62, 3) := by decide +kernel
theorem dX7_likeliest_33 : decode cX7_likeliest 33 = .ok (.iconst 0, 1) := by decide +kernel
theorem dX7_likeliest_34 : decode cX7_likeliest 34 = .ok (.istore 9, 2) := by decide +kernel
theorem dX7_likeliest_36 : decode cX7_likeliest 36 = .ok (.iload 9, 2) := by decide +kernel
theorem dX7_likeliest_38 : decode cX7_likeliest 38 = .ok (.aload_n 0, 1) := by decide +kernel
theorem dX7_likeliest_39 : decode cX7_likeliest 39 = .ok (.getfield 62, 3) := by decide +kernel
theorem dX7_likeliest_42 : decode cX7_likeliest 42 = .ok (.getfield 184, 3) := by decide +kernel
theorem dX7_likeliest_45 : decode cX7_likeliest 45 = .ok (.if_icmp .ge 41, 3) := by decide +kernel
theorem dX7_likeliest_48 : decode cX7_likeliest 48 = .ok (.aload_n 0, 1) := by decide +kernel
theorem dX7_likeliest_49 : decode cX7_likeliest 49 = .ok (.iload_n 1, 1) := by decide +kernel
theorem dX7_likeliest_50 : decode cX7_likeliest 50 = .ok (.iload_n 2, 1) := by decide +kernel
theorem dX7_likeliest_51 : decode cX7_likeliest 51 = .ok (.iload 8, 2) := by decide +kernel
theorem dX7_likeliest_53 : decode cX7_likeliest 53 = .ok (.iload 9, 2) := by decide +kernel
theorem dX7_likeliest_55 : decode cX7_likeliest 55 = .ok (.invokevirtual 219, 3) := by decide +kernel
theorem dX7_likeliest_58 : decode cX7_likeliest 58 = .ok (.lstore 10, 2) := by decide +kernel
theorem dX7_likeliest_60 : decode cX7_likeliest 60 = .ok (.lload 10, 2) := by decide +kernel
theorem dX7_likeliest_62 : decode cX7_likeliest 62 = .ok (.lload 4, 2) := by decide +kernel
theorem dX7_likeliest_64 : decode cX7_likeliest 64 = .ok (.lcmp, 1) := by decide +kernel
theorem dX7_likeliest_65 : decode cX7_likeliest 65 = .ok (.ifCond .le 15, 3) := by decide +kernel
theorem dX7_likeliest_68 : decode cX7_likeliest 68 = .ok (.lload 10, 2) := by decide +kernel
theorem dX7_likeliest_70 : decode cX7_likeliest 70 = .ok (.lstore 4, 2) := by decide +kernel
theorem dX7_likeliest_72 : decode cX7_likeliest 72 = .ok (.iload 8, 2) := by decide +kernel
theorem dX7_likeliest_74 : decode cX7_likeliest 74 = .ok (.istore 6, 2) := by decide +kernel
theorem dX7_likeliest_76 : decode cX7_likeliest 76 = .ok (.iload 9, 2) := by decide +kernel
theorem dX7_likeliest_78 : decode cX7_likeliest 78 = .ok (.istore 7, 2) := by decide +kernel
theorem dX7_likeliest_80 : decode cX7_likeliest 80 = .ok (.iinc 9 1, 3) := by decide +kernel
theorem dX7_likeliest_83 : decode cX7_likeliest 83 = .ok (.goto (-47), 3) := by decide +kernel
theorem dX7_likeliest_86 : decode cX7_likeliest 86 = .ok (.iinc 8 1, 3) := by decide +kernel
theorem dX7_likeliest_89 : decode cX7_likeliest 89 = .ok (.goto (-63), 3) := by decide +kernel
theorem dX7_likeliest_92 : decode cX7_likeliest 92 = .ok (.iload_n 3, 1) := by decide +kernel
theorem dX7_likeliest_93 : decode cX7_likeliest 93 = .ok (.ifCond .ne 8, 3) := by decide +kernel
theorem dX7_likeliest_96 : decode cX7_likeliest 96 = .ok (.iload 6, 2) := by decide +kernel
theorem dX7_likeliest_98 : decode cX7_likeliest 98 = .ok (.goto 5, 3) := by decide +kernel
theorem dX7_likeliest_101 : decode cX7_likeliest 101 = .ok (.iload 7, 2) := by decide +kernel
theorem dX7_likeliest_103 : decode cX7_likeliest 103 = .ok (.ireturn, 1) := by decide +kernel
theorem dX7_letter_0 : decode cX7_letter 0 = .ok (.iload_n 2, 1) := by decide +kernel
theorem dX7_letter_1 : decode cX7_letter 1 = .ok (.iconst 0, 1) := by decide +kernel
theorem dX7_letter_2 : decode cX7_letter 2 = .ok (.aload_n 0, 1) := by decide +kernel
theorem dX7_letter_3 : decode cX7_letter 3 = .ok (.getfield 19, 3) := by decide +kernel
theorem dX7_letter_6 : decode cX7_letter 6 = .ok (.getfield 145, 3) := by decide +kernel
theorem dX7_letter_9 : decode cX7_letter 9 = .ok (.invokestatic 80, 3) := by decide +kernel
theorem dX7_letter_12 : decode cX7_letter 12 = .ok (.ifCond .eq 19, 3) := by decide +kernel
theorem dX7_letter_15 : decode cX7_letter 15 = .ok (.iload_n 3, 1) := by decide +kernel
theorem dX7_letter_16 : decode cX7_letter 16 = .ok (.invokestatic 156, 3) := by decide +kernel
theorem dX7_letter_19 : decode cX7_letter 19 = .ok (.ifCond .eq 12, 3) := by decide +kernel
theorem dX7_letter_22 : decode cX7_letter 22 = .ok (.aload_n 0, 1) := by decide +kernel
theorem dX7_letter_23 : decode cX7_letter 23 = .ok (.iload 4, 2) := by decide +kernel
theorem dX7_letter_25 : decode cX7_letter 25 = .ok (.invokevirtual 118, 3) := by decide +kernel
theorem dX7_letter_28 : decode cX7_letter 28 = .ok (.ifCond .ne 5, 3) := by decide +kernel
theorem dX7_letter_31 : decode cX7_letter 31 = .ok (.iconst (-1), 1) := by decide +kernel
theorem dX7_letter_32 : decode cX7_letter 32 = .ok (.ireturn, 1) := by decide +kernel
theorem dX7_letter_33 : decode cX7_letter 33 = .ok (.aload_n 0, 1) := by decide +kernel
theorem dX7_letter_34 : decode cX7_letter 34 = .ok (.getfield 34, 3) := by decide +kernel
theorem dX7_letter_37 : decode cX7_letter 37 = .ok (.iconst 1, 1) := by decide +kernel
theorem dX7_letter_38 : decode cX7_letter 38 = .ok (.putfield 98, 3) := by decide +kernel
theorem dX7_letter_41 : decode cX7_letter 41 = .ok (.aload_n 0, 1) := by decide +kernel
theorem dX7_letter_42 : decode cX7_letter 42 = .ok (.getfield 34, 3) := by decide +kernel
theorem dX7_letter_45 : decode cX7_letter 45 = .ok (.iload_n 1, 1) := by decide +kernel
theorem dX7_letter_46 : decode cX7_letter 46 = .ok (.iconst 1, 1) := by decide +kernel
theorem dX7_letter_47 : decode cX7_letter 47 = .ok (.aload_n 0, 1) := by decide +kernel
theorem dX7_letter_48 : decode cX7_letter 48 = .ok (.getfield 62, 3) := by decide +kernel
theorem dX7_letter_51 : decode cX7_letter 51 = .ok (.getfield 222, 3) := by decide +kernel
theorem dX7_letter_54 : decode cX7_letter 54 = .ok (.ishl, 1) := by decide +kernel
theorem dX7_letter_55 : decode cX7_letter 55 = .ok (.iconst 1, 1) := by decide +kernel
theorem dX7_letter_56 : decode cX7_letter 56 = .ok (.isub, 1) := by decide +kernel
theorem dX7_letter_57 : decode cX7_letter 57 = .ok (.iand, 1) := by decide +kernel
theorem dX7_letter_58 : decode cX7_letter 58 = .ok (.putfield 225, 3) := by decide +kernel
theorem dX7_letter_61 : decode cX7_letter 61 = .ok (.aload_n 0, 1) := by decide +kernel
theorem dX7_letter_62 : decode cX7_letter 62 = .ok (.getfield 34, 3) := by decide +kernel
theorem dX7_letter_65 : decode cX7_letter 65 = .ok (.iload_n 2, 1) := by decide +kernel
theorem dX7_letter_66 : decode cX7_letter 66 = .ok (.putfield 226, 3) := by decide +kernel
theorem dX7_letter_69 : decode cX7_letter 69 = .ok (.aload_n 0, 1) := by decide +kernel
theorem dX7_letter_70 : decode cX7_letter 70 = .ok (.getfield 34, 3) := by decide +kernel
theorem dX7_letter_73 : decode cX7_letter 73 = .ok (.iload_n 3, 1) := by decide +kernel
theorem dX7_letter_74 : decode cX7_letter 74 = .ok (.putfield 227, 3) := by decide +kernel
theorem dX7_letter_77 : decode cX7_letter 77 = .ok (.aload_n 0, 1) := by decide +kernel
theorem dX7_letter_78 : decode cX7_letter 78 = .ok (.getfield 34, 3) := by decide +kernel
theorem dX7_letter_81 : decode cX7_letter 81 = .ok (.iload 4, 2) := by decide +kernel
theorem dX7_letter_83 : decode cX7_letter 83 = .ok (.putfield 230, 3) := by decide +kernel
theorem dX7_letter_86 : decode cX7_letter 86 = .ok (.aload_n 0, 1) := by decide +kernel
theorem dX7_letter_87 : decode cX7_letter 87 = .ok (.getfield 34, 3) := by decide +kernel
theorem dX7_letter_90 : decode cX7_letter 90 = .ok (.getfield 225, 3) := by decide +kernel
theorem dX7_letter_93 : decode cX7_letter 93 = .ok (.invokestatic 233, 3) := by decide +kernel
theorem dX7_letter_96 : decode cX7_letter 96 = .ok (.ireturn, 1) := by decide +kernel
theorem dX7_could_0 : decode cX7_could 0 = .ok (.aload_n 0, 1) := by decide +kernel
theorem dX7_could_1 : decode cX7_could 1 = .ok (.invokevirtual 238, 3) := by decide +kernel
theorem dX7_could_4 : decode cX7_could 4 = .ok (.ifCond .ne 6, 3) := by decide +kernel
theorem dX7_could_7 : decode cX7_could 7 = .ok (.bipush (-2), 2) := by decide +kernel
theorem dX7_could_9 : decode cX7_could 9 = .ok (.ireturn, 1) := by decide +kernel
theorem dX7_could_10 : decode cX7_could 10 = .ok (.aload_n 0, 1) := by decide +kernel
theorem dX7_could_11 : decode cX7_could 11 = .ok (.invokevirtual 242, 3) := by decide +kernel
theorem dX7_could_14 : decode cX7_could 14 = .ok (.iconst 0, 1) := by decide +kernel
theorem dX7_could_15 : decode cX7_could 15 = .ok (.istore_n 1, 1) := by decide +kernel
theorem dX7_could_16 : decode cX7_could 16 = .ok (.iconst 0, 1) := by decide +kernel
theorem dX7_could_17 : decode cX7_could 17 = .ok (.istore_n 2, 1) := by decide +kernel
theorem dX7_could_18 : decode cX7_could 18 = .ok (.iload_n 2, 1) := by decide +kernel
theorem dX7_could_19 : decode cX7_could 19 = .ok (.aload_n 0, 1) := by decide +kernel
theorem dX7_could_20 : decode cX7_could 20 = .ok (.getfield 62, 3) := by decide +kernel
theorem dX7_could_23 : decode cX7_could 23 = .ok (.getfield 222, 3) := by decide +kernel
theorem dX7_could_26 : decode cX7_could 26 = .ok (.if_icmp .ge 41, 3) := by decide +kernel
theorem dX7_could_29 : decode cX7_could 29 = .ok (.aload_n 0, 1) := by decide +kernel
theorem dX7_could_30 : decode cX7_could 30 = .ok (.getfield 34, 3) := by decide +kernel
theorem dX7_could_33 : decode cX7_could 33 = .ok (.getfield 225, 3) := by decide +kernel
theorem dX7_could_36 : decode cX7_could 36 = .ok (.iload_n 2, 1) := by decide +kernel
theorem dX7_could_37 : decode cX7_could 37 = .ok (.invokestatic 245, 3) := by decide +kernel
theorem dX7_could_40 : decode cX7_could 40 = .ok (.ifCond .eq 21, 3) := by decide +kernel
theorem dX7_could_43 : decode cX7_could 43 = .ok (.aload_n 0, 1) := by decide +kernel
theorem dX7_could_44 : decode cX7_could 44 = .ok (.getfield 34, 3) := by decide +kernel
theorem dX7_could_47 : decode cX7_could 47 = .ok (.getfield 249, 3) := by decide +kernel
theorem dX7_could_50 : decode cX7_could 50 = .ok (.iload_n 2, 1) := by decide +kernel
theorem dX7_could_51 : decode cX7_could 51 = .ok (.iaload, 1) := by decide +kernel
theorem dX7_could_52 : decode cX7_could 52 = .ok (.ifCond .ne 9, 3) := by decide +kernel
theorem dX7_could_55 : decode cX7_could 55 = .ok (.iload_n 1, 1) := by decide +kernel
theorem dX7_could_56 : decode cX7_could 56 = .ok (.iconst 1, 1) := by decide +kernel
theorem dX7_could_57 : decode cX7_could 57 = .ok (.iload_n 2, 1) := by decide +kernel
theorem dX7_could_58 : decode cX7_could 58 = .ok (.ishl, 1) := by decide +kernel
theorem dX7_could_59 : decode cX7_could 59 = .ok (.ior, 1) := by decide +kernel
theorem dX7_could_60 : decode cX7_could 60 = .ok (.istore_n 1, 1) := by decide +kernel
theorem dX7_could_61 : decode cX7_could 61 = .ok (.iinc 2 1, 3) := by decide +kernel
theorem dX7_could_64 : decode cX7_could 64 = .ok (.goto (-46), 3) := by decide +kernel
theorem dX7_could_67 : decode cX7_could 67 = .ok (.iload_n 1, 1) := by decide +kernel
theorem dX7_could_68 : decode cX7_could 68 = .ok (.ireturn, 1) := by decide +kernel
theorem dX7_forged_0 : decode cX7_forged 0 = .ok (.iload_n 1, 1) := by decide +kernel
theorem dX7_forged_1 : decode cX7_forged 1 = .ok (.invokestatic 156, 3) := by decide +kernel
theorem dX7_forged_4 : decode cX7_forged 4 = .ok (.ifCond .eq 31, 3) := by decide +kernel
theorem dX7_forged_7 : decode cX7_forged 7 = .ok (.aload_n 0, 1) := by decide +kernel
theorem dX7_forged_8 : decode cX7_forged 8 = .ok (.iload_n 2, 1) := by decide +kernel
theorem dX7_forged_9 : decode cX7_forged 9 = .ok (.invokevirtual 118, 3) := by decide +kernel
theorem dX7_forged_12 : decode cX7_forged 12 = .ok (.ifCond .eq 23, 3) := by decide +kernel
theorem dX7_forged_15 : decode cX7_forged 15 = .ok (.iload_n 3, 1) := by decide +kernel
theorem dX7_forged_16 : decode cX7_forged 16 = .ok (.iconst 0, 1) := by decide +kernel
theorem dX7_forged_17 : decode cX7_forged 17 = .ok (.bipush 10, 2) := by decide +kernel
theorem dX7_forged_19 : decode cX7_forged 19 = .ok (.invokestatic 80, 3) := by decide +kernel
theorem dX7_forged_22 : decode cX7_forged 22 = .ok (.ifCond .eq 13, 3) := by decide +kernel
theorem dX7_forged_25 : decode cX7_forged 25 = .ok (.iload 4, 2) := by decide +kernel
theorem dX7_forged_27 : decode cX7_forged 27 = .ok (.iconst 0, 1) := by decide +kernel
theorem dX7_forged_28 : decode cX7_forged 28 = .ok (.iconst 1, 1) := by decide +kernel
theorem dX7_forged_29 : decode cX7_forged 29 = .ok (.invokestatic 80, 3) := by decide +kernel
theorem dX7_forged_32 : decode cX7_forged 32 = .ok (.ifCond .ne 7, 3) := by decide +kernel
theorem dX7_forged_35 : decode cX7_forged 35 = .ok (.ldc2_w 207, 3) := by decide +kernel
theorem dX7_forged_38 : decode cX7_forged 38 = .ok (.lreturn, 1) := by decide +kernel
theorem dX7_forged_39 : decode cX7_forged 39 = .ok (.aload_n 0, 1) := by decide +kernel
theorem dX7_forged_40 : decode cX7_forged 40 = .ok (.invokevirtual 238, 3) := by decide +kernel
theorem dX7_forged_43 : decode cX7_forged 43 = .ok (.ifCond .ne 7, 3) := by decide +kernel
theorem dX7_forged_46 : decode cX7_forged 46 = .ok (.ldc2_w 213, 3) := by decide +kernel
theorem dX7_forged_49 : decode cX7_forged 49 = .ok (.lreturn, 1) := by decide +kernel
theorem dX7_forged_50 : decode cX7_forged 50 = .ok (.aload_n 0, 1) := by decide +kernel
theorem dX7_forged_51 : decode cX7_forged 51 = .ok (.invokevirtual 242, 3) := by decide +kernel
theorem dX7_forged_54 : decode cX7_forged 54 = .ok (.aload_n 0, 1) := by decide +kernel
theorem dX7_forged_55 : decode cX7_forged 55 = .ok (.aload_n 0, 1) := by decide +kernel
theorem dX7_forged_56 : decode cX7_forged 56 = .ok (.getfield 34, 3) := by decide +kernel
theorem dX7_forged_59 : decode cX7_forged 59 = .ok (.getfield 225, 3) := by decide +kernel
theorem dX7_forged_62 : decode cX7_forged 62 = .ok (.iconst 0, 1) := by decide +kernel
theorem dX7_forged_63 : decode cX7_forged 63 = .ok (.iload_n 1, 1) := by decide +kernel
theorem dX7_forged_64 : decode cX7_forged 64 = .ok (.iload_n 2, 1) := by decide +kernel
theorem dX7_forged_65 : decode cX7_forged 65 = .ok (.invokevirtual 219, 3) := by decide +kernel
theorem dX7_forged_68 : decode cX7_forged 68 = .ok (.iload_n 3, 1) := by decide +kernel
theorem dX7_forged_69 : decode cX7_forged 69 = .ok (.i2l, 1) := by decide +kernel
theorem dX7_forged_70 : decode cX7_forged 70 = .ok (.lmul, 1) := by decide +kernel
theorem dX7_forged_71 : decode cX7_forged 71 = .ok (.lstore 5, 2) := by decide +kernel
theorem dX7_forged_73 : decode cX7_forged 73 = .ok (.lload 5, 2) := by decide +kernel
theorem dX7_forged_75 : decode cX7_forged 75 = .ok (.aload_n 0, 1) := by decide +kernel
theorem dX7_forged_76 : decode cX7_forged 76 = .ok (.invokevirtual 251, 3) := by decide +kernel
theorem dX7_forged_79 : decode cX7_forged 79 = .ok (.bipush 10, 2) := by decide +kernel
theorem dX7_forged_81 : decode cX7_forged 81 = .ok (.iload_n 3, 1) := by decide +kernel
theorem dX7_forged_82 : decode cX7_forged 82 = .ok (.isub, 1) := by decide +kernel
theorem dX7_forged_83 : decode cX7_forged 83 = .ok (.i2l, 1) := by decide +kernel
theorem dX7_forged_84 : decode cX7_forged 84 = .ok (.lmul, 1) := by decide +kernel
theorem dX7_forged_85 : decode cX7_forged 85 = .ok (.ladd, 1) := by decide +kernel
theorem dX7_forged_86 : decode cX7_forged 86 = .ok (.lstore 7, 2) := by decide +kernel
theorem dX7_forged_88 : decode cX7_forged 88 = .ok (.lload 7, 2) := by decide +kernel
theorem dX7_forged_90 : decode cX7_forged 90 = .ok (.lconst 0, 1) := by decide +kernel
theorem dX7_forged_91 : decode cX7_forged 91 = .ok (.lcmp, 1) := by decide +kernel
theorem dX7_forged_92 : decode cX7_forged 92 = .ok (.ifCond .ne 9, 3) := by decide +kernel
theorem dX7_forged_95 : decode cX7_forged 95 = .ok (.ldc2_w 213, 3) := by decide +kernel
theorem dX7_forged_98 : decode cX7_forged 98 = .ok (.goto 12, 3) := by decide +kernel
theorem dX7_forged_101 : decode cX7_forged 101 = .ok (.lload 5, 2) := by decide +kernel
theorem dX7_forged_103 : decode cX7_forged 103 = .ok (.lload 7, 2) := by decide +kernel
theorem dX7_forged_105 : decode cX7_forged 105 = .ok (.iload 4, 2) := by decide +kernel
theorem dX7_forged_107 : decode cX7_forged 107 = .ok (.invokestatic 215, 3) := by decide +kernel
theorem dX7_forged_110 : decode cX7_forged 110 = .ok (.lreturn, 1) := by decide +kernel
theorem dX7_kills_0 : decode cX7_kills 0 = .ok (.aload_n 0, 1) := by decide +kernel
theorem dX7_kills_1 : decode cX7_kills 1 = .ok (.iload_n 1, 1) := by decide +kernel
theorem dX7_kills_2 : decode cX7_kills 2 = .ok (.invokevirtual 126, 3) := by decide +kernel
theorem dX7_kills_5 : decode cX7_kills 5 = .ok (.ifCond .eq 11, 3) := by decide +kernel
theorem dX7_kills_8 : decode cX7_kills 8 = .ok (.aload_n 0, 1) := by decide +kernel
theorem dX7_kills_9 : decode cX7_kills 9 = .ok (.iload_n 1, 1) := by decide +kernel
theorem dX7_kills_10 : decode cX7_kills 10 = .ok (.invokevirtual 142, 3) := by decide +kernel
theorem dX7_kills_13 : decode cX7_kills 13 = .ok (.ifCond .ne 6, 3) := by decide +kernel
theorem dX7_kills_16 : decode cX7_kills 16 = .ok (.ldc 255, 2) := by decide +kernel
theorem dX7_kills_18 : decode cX7_kills 18 = .ok (.ireturn, 1) := by decide +kernel
theorem dX7_kills_19 : decode cX7_kills 19 = .ok (.aload_n 0, 1) := by decide +kernel
theorem dX7_kills_20 : decode cX7_kills 20 = .ok (.iload_n 1, 1) := by decide +kernel
theorem dX7_kills_21 : decode cX7_kills 21 = .ok (.iconst 0, 1) := by decide +kernel
theorem dX7_kills_22 : decode cX7_kills 22 = .ok (.invokevirtual 256, 3) := by decide +kernel
theorem dX7_kills_25 : decode cX7_kills 25 = .ok (.aload_n 0, 1) := by decide +kernel
theorem dX7_kills_26 : decode cX7_kills 26 = .ok (.iload_n 1, 1) := by decide +kernel
theorem dX7_kills_27 : decode cX7_kills 27 = .ok (.aload_n 0, 1) := by decide +kernel
theorem dX7_kills_28 : decode cX7_kills 28 = .ok (.getfield 62, 3) := by decide +kernel
theorem dX7_kills_31 : decode cX7_kills 31 = .ok (.getfield 109, 3) := by decide +kernel
theorem dX7_kills_34 : decode cX7_kills 34 = .ok (.invokevirtual 256, 3) := by decide +kernel
theorem dX7_kills_37 : decode cX7_kills 37 = .ok (.isub, 1) := by decide +kernel
theorem dX7_kills_38 : decode cX7_kills 38 = .ok (.ireturn, 1) := by decide +kernel
theorem dX7_part_0 : decode cX7_part 0 = .ok (.aload_n 0, 1) := by decide +kernel
theorem dX7_part_1 : decode cX7_part 1 = .ok (.iload_n 1, 1) := by decide +kernel
theorem dX7_part_2 : decode cX7_part 2 = .ok (.invokevirtual 126, 3) := by decide +kernel
theorem dX7_part_5 : decode cX7_part 5 = .ok (.ifCond .ne 6, 3) := by decide +kernel
theorem dX7_part_8 : decode cX7_part 8 = .ok (.ldc 255, 2) := by decide +kernel
theorem dX7_part_10 : decode cX7_part 10 = .ok (.ireturn, 1) := by decide +kernel
theorem dX7_part_11 : decode cX7_part 11 = .ok (.aload_n 0, 1) := by decide +kernel
theorem dX7_part_12 : decode cX7_part 12 = .ok (.getfield 55, 3) := by decide +kernel
theorem dX7_part_15 : decode cX7_part 15 = .ok (.aload_n 0, 1) := by decide +kernel
theorem dX7_part_16 : decode cX7_part 16 = .ok (.getfield 62, 3) := by decide +kernel
theorem dX7_part_19 : decode cX7_part 19 = .ok (.aload_n 0, 1) := by decide +kernel
theorem dX7_part_20 : decode cX7_part 20 = .ok (.getfield 48, 3) := by decide +kernel
theorem dX7_part_23 : decode cX7_part 23 = .ok (.iload_n 1, 1) := by decide +kernel
theorem dX7_part_24 : decode cX7_part 24 = .ok (.aload_n 0, 1) := by decide +kernel
theorem dX7_part_25 : decode cX7_part 25 = .ok (.getfield 62, 3) := by decide +kernel
theorem dX7_part_28 : decode cX7_part 28 = .ok (.getfield 109, 3) := by decide +kernel
theorem dX7_part_31 : decode cX7_part 31 = .ok (.aload_n 0, 1) := by decide +kernel
theorem dX7_part_32 : decode cX7_part 32 = .ok (.getfield 19, 3) := by decide +kernel
theorem dX7_part_35 : decode cX7_part 35 = .ok (.getfield 145, 3) := by decide +kernel
theorem dX7_part_38 : decode cX7_part 38 = .ok (.invokevirtual 259, 3) := by decide +kernel
theorem dX7_part_41 : decode cX7_part 41 = .ok (.aload_n 0, 1) := by decide +kernel
theorem dX7_part_42 : decode cX7_part 42 = .ok (.getfield 19, 3) := by decide +kernel
theorem dX7_part_45 : decode cX7_part 45 = .ok (.getfield 159, 3) := by decide +kernel
theorem dX7_part_48 : decode cX7_part 48 = .ok (.iload_n 1, 1) := by decide +kernel
theorem dX7_part_49 : decode cX7_part 49 = .ok (.aaload, 1) := by decide +kernel
theorem dX7_part_50 : decode cX7_part 50 = .ok (.aload_n 0, 1) := by decide +kernel
theorem dX7_part_51 : decode cX7_part 51 = .ok (.getfield 19, 3) := by decide +kernel
theorem dX7_part_54 : decode cX7_part 54 = .ok (.getfield 145, 3) := by decide +kernel
theorem dX7_part_57 : decode cX7_part 57 = .ok (.invokevirtual 191, 3) := by decide +kernel
theorem dX7_part_60 : decode cX7_part 60 = .ok (.aload_n 0, 1) := by decide +kernel
theorem dX7_part_61 : decode cX7_part 61 = .ok (.getfield 55, 3) := by decide +kernel
theorem dX7_part_64 : decode cX7_part 64 = .ok (.aload_n 0, 1) := by decide +kernel
theorem dX7_part_65 : decode cX7_part 65 = .ok (.getfield 19, 3) := by decide +kernel
theorem dX7_part_68 : decode cX7_part 68 = .ok (.getfield 145, 3) := by decide +kernel
theorem dX7_part_71 : decode cX7_part 71 = .ok (.invokevirtual 191, 3) := by decide +kernel
theorem dX7_part_74 : decode cX7_part 74 = .ok (.isub, 1) := by decide +kernel
theorem dX7_part_75 : decode cX7_part 75 = .ok (.ireturn, 1) := by decide +kernel
theorem dX7_writing_0 : decode cX7_writing 0 = .ok (.iload_n 1, 1) := by decide +kernel
theorem dX7_writing_1 : decode cX7_writing 1 = .ok (.iconst 0, 1) := by decide +kernel
theorem dX7_writing_2 : decode cX7_writing 2 = .ok (.bipush 99, 2) := by decide +kernel
theorem dX7_writing_4 : decode cX7_writing 4 = .ok (.invokestatic 80, 3) := by decide +kernel
theorem dX7_writing_7 : decode cX7_writing 7 = .ok (.ifCond .eq 18, 3) := by decide +kernel
theorem dX7_writing_10 : decode cX7_writing 10 = .ok (.iload_n 2, 1) := by decide +kernel
theorem dX7_writing_11 : decode cX7_writing 11 = .ok (.invokestatic 156, 3) := by decide +kernel
theorem dX7_writing_14 : decode cX7_writing 14 = .ok (.ifCond .eq 11, 3) := by decide +kernel
theorem dX7_writing_17 : decode cX7_writing 17 = .ok (.aload_n 0, 1) := by decide +kernel
theorem dX7_writing_18 : decode cX7_writing 18 = .ok (.iload_n 3, 1) := by decide +kernel
theorem dX7_writing_19 : decode cX7_writing 19 = .ok (.invokevirtual 126, 3) := by decide +kernel
theorem dX7_writing_22 : decode cX7_writing 22 = .ok (.ifCond .ne 5, 3) := by decide +kernel
theorem dX7_writing_25 : decode cX7_writing 25 = .ok (.iconst (-1), 1) := by decide +kernel
theorem dX7_writing_26 : decode cX7_writing 26 = .ok (.ireturn, 1) := by decide +kernel
theorem dX7_writing_27 : decode cX7_writing 27 = .ok (.aload_n 0, 1) := by decide +kernel
theorem dX7_writing_28 : decode cX7_writing 28 = .ok (.getfield 41, 3) := by decide +kernel
theorem dX7_writing_31 : decode cX7_writing 31 = .ok (.getfield 95, 3) := by decide +kernel
theorem dX7_writing_34 : decode cX7_writing 34 = .ok (.bipush 40, 2) := by decide +kernel
theorem dX7_writing_36 : decode cX7_writing 36 = .ok (.if_icmp .lt 6, 3) := by decide +kernel
theorem dX7_writing_39 : decode cX7_writing 39 = .ok (.bipush (-3), 2) := by decide +kernel
theorem dX7_writing_41 : decode cX7_writing 41 = .ok (.ireturn, 1) := by decide +kernel
theorem dX7_writing_42 : decode cX7_writing 42 = .ok (.aload_n 0, 1) := by decide +kernel
theorem dX7_writing_43 : decode cX7_writing 43 = .ok (.getfield 41, 3) := by decide +kernel
theorem dX7_writing_46 : decode cX7_writing 46 = .ok (.iload_n 1, 1) := by decide +kernel
theorem dX7_writing_47 : decode cX7_writing 47 = .ok (.iload_n 2, 1) := by decide +kernel
theorem dX7_writing_48 : decode cX7_writing 48 = .ok (.isub, 1) := by decide +kernel
theorem dX7_writing_49 : decode cX7_writing 49 = .ok (.bipush 16, 2) := by decide +kernel
theorem dX7_writing_51 : decode cX7_writing 51 = .ok (.iadd, 1) := by decide +kernel
theorem dX7_writing_52 : decode cX7_writing 52 = .ok (.iload_n 3, 1) := by decide +kernel
theorem dX7_writing_53 : decode cX7_writing 53 = .ok (.invokevirtual 263, 3) := by decide +kernel
theorem dX7_writing_56 : decode cX7_writing 56 = .ok (.aload_n 0, 1) := by decide +kernel
theorem dX7_writing_57 : decode cX7_writing 57 = .ok (.getfield 41, 3) := by decide +kernel
theorem dX7_writing_60 : decode cX7_writing 60 = .ok (.getfield 95, 3) := by decide +kernel
theorem dX7_writing_63 : decode cX7_writing 63 = .ok (.ireturn, 1) := by decide +kernel
theorem dX7_span_0 : decode cX7_span 0 = .ok (.aload_n 0, 1) := by decide +kernel
theorem dX7_span_1 : decode cX7_span 1 = .ok (.iload_n 1, 1) := by decide +kernel
theorem dX7_span_2 : decode cX7_span 2 = .ok (.invokevirtual 126, 3) := by decide +kernel
theorem dX7_span_5 : decode cX7_span 5 = .ok (.ifCond .eq 12, 3) := by decide +kernel
theorem dX7_span_8 : decode cX7_span 8 = .ok (.iload_n 2, 1) := by decide +kernel
theorem dX7_span_9 : decode cX7_span 9 = .ok (.iconst 0, 1) := by decide +kernel
theorem dX7_span_10 : decode cX7_span 10 = .ok (.iconst 3, 1) := by decide +kernel
theorem dX7_span_11 : decode cX7_span 11 = .ok (.invokestatic 80, 3) := by decide +kernel
theorem dX7_span_14 : decode cX7_span 14 = .ok (.ifCond .ne 6, 3) := by decide +kernel
theorem dX7_span_17 : decode cX7_span 17 = .ok (.ldc 255, 2) := by decide +kernel
theorem dX7_span_19 : decode cX7_span 19 = .ok (.ireturn, 1) := by decide +kernel
theorem dX7_span_20 : decode cX7_span 20 = .ok (.aload_n 0, 1) := by decide +kernel
theorem dX7_span_21 : decode cX7_span 21 = .ok (.getfield 41, 3) := by decide +kernel
theorem dX7_span_24 : decode cX7_span 24 = .ok (.iload_n 1, 1) := by decide +kernel
theorem dX7_span_25 : decode cX7_span 25 = .ok (.invokevirtual 265, 3) := by decide +kernel
theorem dX7_span_28 : decode cX7_span 28 = .ok (.istore_n 3, 1) := by decide +kernel
theorem dX7_span_29 : decode cX7_span 29 = .ok (.iload_n 3, 1) := by decide +kernel
theorem dX7_span_30 : decode cX7_span 30 = .ok (.ifCond .ne 6, 3) := by decide +kernel
theorem dX7_span_33 : decode cX7_span 33 = .ok (.ldc 255, 2) := by decide +kernel
theorem dX7_span_35 : decode cX7_span 35 = .ok (.ireturn, 1) := by decide +kernel
theorem dX7_span_36 : decode cX7_span 36 = .ok (.iload_n 2, 1) := by decide +kernel
theorem dX7_span_37 : decode cX7_span 37 = .ok (.lookupswitch 45 #[(0, 27), (1, 36)], 27) := by decide +kernel
theorem dX7_span_64 : decode cX7_span 64 = .ok (.aload_n 0, 1) := by decide +kernel
theorem dX7_span_65 : decode cX7_span 65 = .ok (.getfield 41, 3) := by decide +kernel
theorem dX7_span_68 : decode cX7_span 68 = .ok (.iload_n 1, 1) := by decide +kernel
theorem dX7_span_69 : decode cX7_span 69 = .ok (.invokevirtual 268, 3) := by decide +kernel
theorem dX7_span_72 : decode cX7_span 72 = .ok (.ireturn, 1) := by decide +kernel
theorem dX7_span_73 : decode cX7_span 73 = .ok (.aload_n 0, 1) := by decide +kernel
theorem dX7_span_74 : decode cX7_span 74 = .ok (.getfield 41, 3) := by decide +kernel
theorem dX7_span_77 : decode cX7_span 77 = .ok (.iload_n 1, 1) := by decide +kernel
theorem dX7_span_78 : decode cX7_span 78 = .ok (.invokevirtual 271, 3) := by decide +kernel
theorem dX7_span_81 : decode cX7_span 81 = .ok (.ireturn, 1) := by decide +kernel
theorem dX7_span_82 : decode cX7_span 82 = .ok (.aload_n 0, 1) := by decide +kernel
theorem dX7_span_83 : decode cX7_span 83 = .ok (.getfield 41, 3) := by decide +kernel
theorem dX7_span_86 : decode cX7_span 86 = .ok (.iload_n 1, 1) := by decide +kernel
theorem dX7_span_87 : decode cX7_span 87 = .ok (.invokevirtual 274, 3) := by decide +kernel
theorem dX7_span_90 : decode cX7_span 90 = .ok (.i2l, 1) := by decide +kernel
theorem dX7_span_91 : decode cX7_span 91 = .ok (.iload_n 3, 1) := by decide +kernel
theorem dX7_span_92 : decode cX7_span 92 = .ok (.i2l, 1) := by decide +kernel
theorem dX7_span_93 : decode cX7_span 93 = .ok (.iload_n 2, 1) := by decide +kernel
theorem dX7_span_94 : decode cX7_span 94 = .ok (.iconst 2, 1) := by decide +kernel
theorem dX7_span_95 : decode cX7_span 95 = .ok (.isub, 1) := by decide +kernel
theorem dX7_span_96 : decode cX7_span 96 = .ok (.invokestatic 215, 3) := by decide +kernel
theorem dX7_span_99 : decode cX7_span 99 = .ok (.l2i, 1) := by decide +kernel
theorem dX7_span_100 : decode cX7_span 100 = .ok (.ireturn, 1) := by decide +kernel
theorem dX7_wants_0 : decode cX7_wants 0 = .ok (.iload_n 1, 1) := by decide +kernel
theorem dX7_wants_1 : decode cX7_wants 1 = .ok (.iconst 0, 1) := by decide +kernel
theorem dX7_wants_2 : decode cX7_wants 2 = .ok (.iconst 3, 1) := by decide +kernel
theorem dX7_wants_3 : decode cX7_wants 3 = .ok (.invokestatic 80, 3) := by decide +kernel
theorem dX7_wants_6 : decode cX7_wants 6 = .ok (.ifCond .ne 5, 3) := by decide +kernel
theorem dX7_wants_9 : decode cX7_wants 9 = .ok (.iconst (-1), 1) := by decide +kernel
theorem dX7_wants_10 : decode cX7_wants 10 = .ok (.ireturn, 1) := by decide +kernel
theorem dX7_wants_11 : decode cX7_wants 11 = .ok (.iconst 0, 1) := by decide +kernel
theorem dX7_wants_12 : decode cX7_wants 12 = .ok (.istore_n 2, 1) := by decide +kernel
theorem dX7_wants_13 : decode cX7_wants 13 = .ok (.iload_n 2, 1) := by decide +kernel
theorem dX7_wants_14 : decode cX7_wants 14 = .ok (.aload_n 0, 1) := by decide +kernel
theorem dX7_wants_15 : decode cX7_wants 15 = .ok (.getfield 62, 3) := by decide +kernel
theorem dX7_wants_18 : decode cX7_wants 18 = .ok (.getfield 222, 3) := by decide +kernel
theorem dX7_wants_21 : decode cX7_wants 21 = .ok (.if_icmp .ge 36, 3) := by decide +kernel
theorem dX7_wants_24 : decode cX7_wants 24 = .ok (.aload_n 0, 1) := by decide +kernel
theorem dX7_wants_25 : decode cX7_wants 25 = .ok (.getfield 62, 3) := by decide +kernel
theorem dX7_wants_28 : decode cX7_wants 28 = .ok (.getfield 129, 3) := by decide +kernel
theorem dX7_wants_31 : decode cX7_wants 31 = .ok (.iload_n 2, 1) := by decide +kernel
theorem dX7_wants_32 : decode cX7_wants 32 = .ok (.iaload, 1) := by decide +kernel
theorem dX7_wants_33 : decode cX7_wants 33 = .ok (.iload_n 1, 1) := by decide +kernel
theorem dX7_wants_34 : decode cX7_wants 34 = .ok (.if_icmp .ne 17, 3) := by decide +kernel
theorem dX7_wants_37 : decode cX7_wants 37 = .ok (.aload_n 0, 1) := by decide +kernel
theorem dX7_wants_38 : decode cX7_wants 38 = .ok (.iload_n 2, 1) := by decide +kernel
theorem dX7_wants_39 : decode cX7_wants 39 = .ok (.iconst 0, 1) := by decide +kernel
theorem dX7_wants_40 : decode cX7_wants 40 = .ok (.invokevirtual 167, 3) := by decide +kernel
theorem dX7_wants_43 : decode cX7_wants 43 = .ok (.sipush 200, 3) := by decide +kernel
theorem dX7_wants_46 : decode cX7_wants 46 = .ok (.if_icmp .lt 5, 3) := by decide +kernel
theorem dX7_wants_49 : decode cX7_wants 49 = .ok (.iconst 0, 1) := by decide +kernel
theorem dX7_wants_50 : decode cX7_wants 50 = .ok (.ireturn, 1) := by decide +kernel
theorem dX7_wants_51 : decode cX7_wants 51 = .ok (.iinc 2 1, 3) := by decide +kernel
theorem dX7_wants_54 : decode cX7_wants 54 = .ok (.goto (-41), 3) := by decide +kernel
theorem dX7_wants_57 : decode cX7_wants 57 = .ok (.iconst 1, 1) := by decide +kernel
theorem dX7_wants_58 : decode cX7_wants 58 = .ok (.ireturn, 1) := by decide +kernel
theorem dX7_drawn_0 : decode cX7_drawn 0 = .ok (.iload_n 1, 1) := by decide +kernel
theorem dX7_drawn_1 : decode cX7_drawn 1 = .ok (.invokestatic 156, 3) := by decide +kernel
theorem dX7_drawn_4 : decode cX7_drawn 4 = .ok (.ifCond .eq 11, 3) := by decide +kernel
theorem dX7_drawn_7 : decode cX7_drawn 7 = .ok (.aload_n 0, 1) := by decide +kernel
theorem dX7_drawn_8 : decode cX7_drawn 8 = .ok (.iload_n 2, 1) := by decide +kernel
theorem dX7_drawn_9 : decode cX7_drawn 9 = .ok (.invokevirtual 118, 3) := by decide +kernel
theorem dX7_drawn_12 : decode cX7_drawn 12 = .ok (.ifCond .ne 5, 3) := by decide +kernel
theorem dX7_drawn_15 : decode cX7_drawn 15 = .ok (.iconst (-1), 1) := by decide +kernel
theorem dX7_drawn_16 : decode cX7_drawn 16 = .ok (.ireturn, 1) := by decide +kernel
theorem dX7_drawn_17 : decode cX7_drawn 17 = .ok (.iconst 0, 1) := by decide +kernel
theorem dX7_drawn_18 : decode cX7_drawn 18 = .ok (.istore_n 3, 1) := by decide +kernel
theorem dX7_drawn_19 : decode cX7_drawn 19 = .ok (.iconst 0, 1) := by decide +kernel
theorem dX7_drawn_20 : decode cX7_drawn 20 = .ok (.istore 4, 2) := by decide +kernel
theorem dX7_drawn_22 : decode cX7_drawn 22 = .ok (.iload 4, 2) := by decide +kernel
theorem dX7_drawn_24 : decode cX7_drawn 24 = .ok (.aload_n 0, 1) := by decide +kernel
theorem dX7_drawn_25 : decode cX7_drawn 25 = .ok (.getfield 62, 3) := by decide +kernel
theorem dX7_drawn_28 : decode cX7_drawn 28 = .ok (.getfield 222, 3) := by decide +kernel
theorem dX7_drawn_31 : decode cX7_drawn 31 = .ok (.if_icmp .ge 76, 3) := by decide +kernel
theorem dX7_drawn_34 : decode cX7_drawn 34 = .ok (.aload_n 0, 1) := by decide +kernel
theorem dX7_drawn_35 : decode cX7_drawn 35 = .ok (.getfield 19, 3) := by decide +kernel
theorem dX7_drawn_38 : decode cX7_drawn 38 = .ok (.aload_n 0, 1) := by decide +kernel
theorem dX7_drawn_39 : decode cX7_drawn 39 = .ok (.getfield 19, 3) := by decide +kernel
theorem dX7_drawn_42 : decode cX7_drawn 42 = .ok (.getfield 77, 3) := by decide +kernel
theorem dX7_drawn_45 : decode cX7_drawn 45 = .ok (.ldc_w 277, 3) := by decide +kernel
theorem dX7_drawn_48 : decode cX7_drawn 48 = .ok (.imul, 1) := by decide +kernel
theorem dX7_drawn_49 : decode cX7_drawn 49 = .ok (.sipush 12345, 3) := by decide +kernel
theorem dX7_drawn_52 : decode cX7_drawn 52 = .ok (.iadd, 1) := by decide +kernel
theorem dX7_drawn_53 : decode cX7_drawn 53 = .ok (.putfield 77, 3) := by decide +kernel
theorem dX7_drawn_56 : decode cX7_drawn 56 = .ok (.aload_n 0, 1) := by decide +kernel
theorem dX7_drawn_57 : decode cX7_drawn 57 = .ok (.getfield 19, 3) := by decide +kernel
theorem dX7_drawn_60 : decode cX7_drawn 60 = .ok (.getfield 77, 3) := by decide +kernel
theorem dX7_drawn_63 : decode cX7_drawn 63 = .ok (.bipush 16, 2) := by decide +kernel
theorem dX7_drawn_65 : decode cX7_drawn 65 = .ok (.iushr, 1) := by decide +kernel
theorem dX7_drawn_66 : decode cX7_drawn 66 = .ok (.sipush 1000, 3) := by decide +kernel
theorem dX7_drawn_69 : decode cX7_drawn 69 = .ok (.irem, 1) := by decide +kernel
theorem dX7_drawn_70 : decode cX7_drawn 70 = .ok (.istore 5, 2) := by decide +kernel
theorem dX7_drawn_72 : decode cX7_drawn 72 = .ok (.iload 5, 2) := by decide +kernel
theorem dX7_drawn_74 : decode cX7_drawn 74 = .ok (.aload_n 0, 1) := by decide +kernel
theorem dX7_drawn_75 : decode cX7_drawn 75 = .ok (.getfield 19, 3) := by decide +kernel
theorem dX7_drawn_78 : decode cX7_drawn 78 = .ok (.getfield 159, 3) := by decide +kernel
theorem dX7_drawn_81 : decode cX7_drawn 81 = .ok (.iload 4, 2) := by decide +kernel
theorem dX7_drawn_83 : decode cX7_drawn 83 = .ok (.aaload, 1) := by decide +kernel
theorem dX7_drawn_84 : decode cX7_drawn 84 = .ok (.getfield 163, 3) := by decide +kernel
theorem dX7_drawn_87 : decode cX7_drawn 87 = .ok (.iload_n 2, 1) := by decide +kernel
theorem dX7_drawn_88 : decode cX7_drawn 88 = .ok (.aaload, 1) := by decide +kernel
theorem dX7_drawn_89 : decode cX7_drawn 89 = .ok (.iload_n 1, 1) := by decide +kernel
theorem dX7_drawn_90 : decode cX7_drawn 90 = .ok (.iaload, 1) := by decide +kernel
theorem dX7_drawn_91 : decode cX7_drawn 91 = .ok (.if_icmp .ge 10, 3) := by decide +kernel
theorem dX7_drawn_94 : decode cX7_drawn 94 = .ok (.iload_n 3, 1) := by decide +kernel
theorem dX7_drawn_95 : decode cX7_drawn 95 = .ok (.iconst 1, 1) := by decide +kernel
theorem dX7_drawn_96 : decode cX7_drawn 96 = .ok (.iload 4, 2) := by decide +kernel
theorem dX7_drawn_98 : decode cX7_drawn 98 = .ok (.ishl, 1) := by decide +kernel
theorem dX7_drawn_99 : decode cX7_drawn 99 = .ok (.ior, 1) := by decide +kernel
theorem dX7_drawn_100 : decode cX7_drawn 100 = .ok (.istore_n 3, 1) := by decide +kernel
theorem dX7_drawn_101 : decode cX7_drawn 101 = .ok (.iinc 4 1, 3) := by decide +kernel
theorem dX7_drawn_104 : decode cX7_drawn 104 = .ok (.goto (-82), 3) := by decide +kernel
theorem dX7_drawn_107 : decode cX7_drawn 107 = .ok (.iload_n 3, 1) := by decide +kernel
theorem dX7_drawn_108 : decode cX7_drawn 108 = .ok (.ireturn, 1) := by decide +kernel
theorem dX7_lot_0 : decode cX7_lot 0 = .ok (.aload_n 0, 1) := by decide +kernel
theorem dX7_lot_1 : decode cX7_lot 1 = .ok (.getfield 19, 3) := by decide +kernel
theorem dX7_lot_4 : decode cX7_lot 4 = .ok (.getfield 77, 3) := by decide +kernel
theorem dX7_lot_7 : decode cX7_lot 7 = .ok (.istore_n 2, 1) := by decide +kernel
theorem dX7_lot_8 : decode cX7_lot 8 = .ok (.aload_n 0, 1) := by decide +kernel
theorem dX7_lot_9 : decode cX7_lot 9 = .ok (.getfield 19, 3) := by decide +kernel
theorem dX7_lot_12 : decode cX7_lot 12 = .ok (.iload_n 1, 1) := by decide +kernel
theorem dX7_lot_13 : decode cX7_lot 13 = .ok (.putfield 77, 3) := by decide +kernel
theorem dX7_lot_16 : decode cX7_lot 16 = .ok (.iload_n 2, 1) := by decide +kernel
theorem dX7_lot_17 : decode cX7_lot 17 = .ok (.ireturn, 1) := by decide +kernel
theorem dX7_rate_0 : decode cX7_rate 0 = .ok (.aload_n 0, 1) := by decide +kernel
theorem dX7_rate_1 : decode cX7_rate 1 = .ok (.iload_n 2, 1) := by decide +kernel
theorem dX7_rate_2 : decode cX7_rate 2 = .ok (.invokevirtual 126, 3) := by decide +kernel
theorem dX7_rate_5 : decode cX7_rate 5 = .ok (.ifCond .ne 6, 3) := by decide +kernel
theorem dX7_rate_8 : decode cX7_rate 8 = .ok (.ldc 255, 2) := by decide +kernel
theorem dX7_rate_10 : decode cX7_rate 10 = .ok (.ireturn, 1) := by decide +kernel
theorem dX7_rate_11 : decode cX7_rate 11 = .ok (.iload_n 1, 1) := by decide +kernel
theorem dX7_rate_12 : decode cX7_rate 12 = .ok (.tableswitch 76 0 5 #[40, 46, 52, 58, 64, 70], 40) := by decide +kernel
theorem dX7_rate_52 : decode cX7_rate 52 = .ok (.aload_n 0, 1) := by decide +kernel
theorem dX7_rate_53 : decode cX7_rate 53 = .ok (.iload_n 2, 1) := by decide +kernel
theorem dX7_rate_54 : decode cX7_rate 54 = .ok (.invokevirtual 278, 3) := by decide +kernel
theorem dX7_rate_57 : decode cX7_rate 57 = .ok (.ireturn, 1) := by decide +kernel
theorem dX7_rate_58 : decode cX7_rate 58 = .ok (.aload_n 0, 1) := by decide +kernel
theorem dX7_rate_59 : decode cX7_rate 59 = .ok (.iload_n 2, 1) := by decide +kernel
theorem dX7_rate_60 : decode cX7_rate 60 = .ok (.invokevirtual 281, 3) := by decide +kernel
theorem dX7_rate_63 : decode cX7_rate 63 = .ok (.ireturn, 1) := by decide +kernel
theorem dX7_rate_64 : decode cX7_rate 64 = .ok (.aload_n 0, 1) := by decide +kernel
theorem dX7_rate_65 : decode cX7_rate 65 = .ok (.iload_n 2, 1) := by decide +kernel
theorem dX7_rate_66 : decode cX7_rate 66 = .ok (.invokevirtual 284, 3) := by decide +kernel
theorem dX7_rate_69 : decode cX7_rate 69 = .ok (.ireturn, 1) := by decide +kernel
theorem dX7_rate_70 : decode cX7_rate 70 = .ok (.aload_n 0, 1) := by decide +kernel
theorem dX7_rate_71 : decode cX7_rate 71 = .ok (.iload_n 2, 1) := by decide +kernel
theorem dX7_rate_72 : decode cX7_rate 72 = .ok (.invokevirtual 287, 3) := by decide +kernel
theorem dX7_rate_75 : decode cX7_rate 75 = .ok (.ireturn, 1) := by decide +kernel
theorem dX7_rate_76 : decode cX7_rate 76 = .ok (.aload_n 0, 1) := by decide +kernel
theorem dX7_rate_77 : decode cX7_rate 77 = .ok (.iload_n 2, 1) := by decide +kernel
theorem dX7_rate_78 : decode cX7_rate 78 = .ok (.invokevirtual 290, 3) := by decide +kernel
theorem dX7_rate_81 : decode cX7_rate 81 = .ok (.ireturn, 1) := by decide +kernel
theorem dX7_rate_82 : decode cX7_rate 82 = .ok (.aload_n 0, 1) := by decide +kernel
theorem dX7_rate_83 : decode cX7_rate 83 = .ok (.iload_n 2, 1) := by decide +kernel
theorem dX7_rate_84 : decode cX7_rate 84 = .ok (.invokevirtual 293, 3) := by decide +kernel
theorem dX7_rate_87 : decode cX7_rate 87 = .ok (.ireturn, 1) := by decide +kernel
theorem dX7_rate_88 : decode cX7_rate 88 = .ok (.ldc 255, 2) := by decide +kernel
theorem dX7_rate_90 : decode cX7_rate 90 = .ok (.ireturn, 1) := by decide +kernel
theorem dX7_keep_0 : decode cX7_keep 0 = .ok (.iload_n 1, 1) := by decide +kernel
theorem dX7_keep_1 : decode cX7_keep 1 = .ok (.iconst 0, 1) := by decide +kernel
theorem dX7_keep_2 : decode cX7_keep 2 = .ok (.iconst 1, 1) := by decide +kernel
theorem dX7_keep_3 : decode cX7_keep 3 = .ok (.invokestatic 80, 3) := by decide +kernel
theorem dX7_keep_6 : decode cX7_keep 6 = .ok (.ifCond .ne 5, 3) := by decide +kernel
theorem dX7_keep_9 : decode cX7_keep 9 = .ok (.iconst (-1), 1) := by decide +kernel
theorem dX7_keep_10 : decode cX7_keep 10 = .ok (.ireturn, 1) := by decide +kernel
theorem dX7_keep_11 : decode cX7_keep 11 = .ok (.aload_n 0, 1) := by decide +kernel
theorem dX7_keep_12 : decode cX7_keep 12 = .ok (.getfield 23, 3) := by decide +kernel
theorem dX7_keep_15 : decode cX7_keep 15 = .ok (.iload_n 1, 1) := by decide +kernel
theorem dX7_keep_16 : decode cX7_keep 16 = .ok (.aaload, 1) := by decide +kernel
theorem dX7_keep_17 : decode cX7_keep 17 = .ok (.aload_n 0, 1) := by decide +kernel
theorem dX7_keep_18 : decode cX7_keep 18 = .ok (.getfield 19, 3) := by decide +kernel
theorem dX7_keep_21 : decode cX7_keep 21 = .ok (.invokevirtual 296, 3) := by decide +kernel
theorem dX7_keep_24 : decode cX7_keep 24 = .ok (.aload_n 0, 1) := by decide +kernel
theorem dX7_keep_25 : decode cX7_keep 25 = .ok (.getfield 27, 3) := by decide +kernel
theorem dX7_keep_28 : decode cX7_keep 28 = .ok (.iload_n 1, 1) := by decide +kernel
theorem dX7_keep_29 : decode cX7_keep 29 = .ok (.iconst 1, 1) := by decide +kernel
theorem dX7_keep_30 : decode cX7_keep 30 = .ok (.bastore, 1) := by decide +kernel
theorem dX7_keep_31 : decode cX7_keep 31 = .ok (.aload_n 0, 1) := by decide +kernel
theorem dX7_keep_32 : decode cX7_keep 32 = .ok (.getfield 19, 3) := by decide +kernel
theorem dX7_keep_35 : decode cX7_keep 35 = .ok (.getfield 145, 3) := by decide +kernel
theorem dX7_keep_38 : decode cX7_keep 38 = .ok (.ireturn, 1) := by decide +kernel
theorem dX7_back_0 : decode cX7_back 0 = .ok (.iload_n 1, 1) := by decide +kernel
theorem dX7_back_1 : decode cX7_back 1 = .ok (.iconst 0, 1) := by decide +kernel
theorem dX7_back_2 : decode cX7_back 2 = .ok (.iconst 1, 1) := by decide +kernel
theorem dX7_back_3 : decode cX7_back 3 = .ok (.invokestatic 80, 3) := by decide +kernel
theorem dX7_back_6 : decode cX7_back 6 = .ok (.ifCond .ne 5, 3) := by decide +kernel
theorem dX7_back_9 : decode cX7_back 9 = .ok (.iconst (-1), 1) := by decide +kernel
theorem dX7_back_10 : decode cX7_back 10 = .ok (.ireturn, 1) := by decide +kernel
theorem dX7_back_11 : decode cX7_back 11 = .ok (.aload_n 0, 1) := by decide +kernel
theorem dX7_back_12 : decode cX7_back 12 = .ok (.getfield 27, 3) := by decide +kernel
theorem dX7_back_15 : decode cX7_back 15 = .ok (.iload_n 1, 1) := by decide +kernel
theorem dX7_back_16 : decode cX7_back 16 = .ok (.baload, 1) := by decide +kernel
theorem dX7_back_17 : decode cX7_back 17 = .ok (.ifCond .ne 6, 3) := by decide +kernel
theorem dX7_back_20 : decode cX7_back 20 = .ok (.bipush (-2), 2) := by decide +kernel
theorem dX7_back_22 : decode cX7_back 22 = .ok (.ireturn, 1) := by decide +kernel
theorem dX7_back_23 : decode cX7_back 23 = .ok (.aload_n 0, 1) := by decide +kernel
theorem dX7_back_24 : decode cX7_back 24 = .ok (.getfield 19, 3) := by decide +kernel
theorem dX7_back_27 : decode cX7_back 27 = .ok (.aload_n 0, 1) := by decide +kernel
theorem dX7_back_28 : decode cX7_back 28 = .ok (.getfield 23, 3) := by decide +kernel
theorem dX7_back_31 : decode cX7_back 31 = .ok (.iload_n 1, 1) := by decide +kernel
theorem dX7_back_32 : decode cX7_back 32 = .ok (.aaload, 1) := by decide +kernel
theorem dX7_back_33 : decode cX7_back 33 = .ok (.invokevirtual 296, 3) := by decide +kernel
theorem dX7_back_36 : decode cX7_back 36 = .ok (.aload_n 0, 1) := by decide +kernel
theorem dX7_back_37 : decode cX7_back 37 = .ok (.getfield 19, 3) := by decide +kernel
theorem dX7_back_40 : decode cX7_back 40 = .ok (.getfield 145, 3) := by decide +kernel
theorem dX7_back_43 : decode cX7_back 43 = .ok (.ireturn, 1) := by decide +kernel
theorem dX7_count_0 : decode cX7_count 0 = .ok (.iload_n 1, 1) := by decide +kernel
theorem dX7_count_1 : decode cX7_count 1 = .ok (.tableswitch 90 0 5 #[39, 47, 55, 63, 74, 82], 39) := by decide +kernel
theorem dX7_count_40 : decode cX7_count 40 = .ok (.aload_n 0, 1) := by decide +kernel
theorem dX7_count_41 : decode cX7_count 41 = .ok (.getfield 62, 3) := by decide +kernel
theorem dX7_count_44 : decode cX7_count 44 = .ok (.getfield 184, 3) := by decide +kernel
theorem dX7_count_47 : decode cX7_count 47 = .ok (.ireturn, 1) := by decide +kernel
theorem dX7_count_48 : decode cX7_count 48 = .ok (.aload_n 0, 1) := by decide +kernel
theorem dX7_count_49 : decode cX7_count 49 = .ok (.getfield 62, 3) := by decide +kernel
theorem dX7_count_52 : decode cX7_count 52 = .ok (.getfield 222, 3) := by decide +kernel
theorem dX7_count_55 : decode cX7_count 55 = .ok (.ireturn, 1) := by decide +kernel
theorem dX7_count_56 : decode cX7_count 56 = .ok (.aload_n 0, 1) := by decide +kernel
theorem dX7_count_57 : decode cX7_count 57 = .ok (.getfield 19, 3) := by decide +kernel
theorem dX7_count_60 : decode cX7_count 60 = .ok (.getfield 145, 3) := by decide +kernel
theorem dX7_count_63 : decode cX7_count 63 = .ok (.ireturn, 1) := by decide +kernel
theorem dX7_count_64 : decode cX7_count 64 = .ok (.aload_n 0, 1) := by decide +kernel
theorem dX7_count_65 : decode cX7_count 65 = .ok (.getfield 19, 3) := by decide +kernel
theorem dX7_count_68 : decode cX7_count 68 = .ok (.getfield 173, 3) := by decide +kernel
theorem dX7_count_71 : decode cX7_count 71 = .ok (.getfield 176, 3) := by decide +kernel
theorem dX7_count_74 : decode cX7_count 74 = .ok (.ireturn, 1) := by decide +kernel
theorem dX7_count_75 : decode cX7_count 75 = .ok (.aload_n 0, 1) := by decide +kernel
theorem dX7_count_76 : decode cX7_count 76 = .ok (.getfield 41, 3) := by decide +kernel
theorem dX7_count_79 : decode cX7_count 79 = .ok (.getfield 95, 3) := by decide +kernel
theorem dX7_count_82 : decode cX7_count 82 = .ok (.ireturn, 1) := by decide +kernel
theorem dX7_count_83 : decode cX7_count 83 = .ok (.aload_n 0, 1) := by decide +kernel
theorem dX7_count_84 : decode cX7_count 84 = .ok (.getfield 10, 3) := by decide +kernel
theorem dX7_count_87 : decode cX7_count 87 = .ok (.getfield 88, 3) := by decide +kernel
theorem dX7_count_90 : decode cX7_count 90 = .ok (.ireturn, 1) := by decide +kernel
theorem dX7_count_91 : decode cX7_count 91 = .ok (.iconst (-1), 1) := by decide +kernel
theorem dX7_count_92 : decode cX7_count 92 = .ok (.ireturn, 1) := by decide +kernel
theorem dX7_trace_0 : decode cX7_trace 0 = .ok (.aload_n 0, 1) := by decide +kernel
theorem dX7_trace_1 : decode cX7_trace 1 = .ok (.getfield 73, 3) := by decide +kernel
theorem dX7_trace_4 : decode cX7_trace 4 = .ok (.lreturn, 1) := by decide +kernel
theorem dX7_between_0 : decode cX7_between 0 = .ok (.iload_n 0, 1) := by decide +kernel
theorem dX7_between_1 : decode cX7_between 1 = .ok (.iload_n 1, 1) := by decide +kernel
theorem dX7_between_2 : decode cX7_between 2 = .ok (.if_icmp .lt 12, 3) := by decide +kernel
theorem dX7_between_5 : decode cX7_between 5 = .ok (.iload_n 0, 1) := by decide +kernel
theorem dX7_between_6 : decode cX7_between 6 = .ok (.iload_n 2, 1) := by decide +kernel
theorem dX7_between_7 : decode cX7_between 7 = .ok (.if_icmp .gt 7, 3) := by decide +kernel
theorem dX7_between_10 : decode cX7_between 10 = .ok (.iconst 1, 1) := by decide +kernel
theorem dX7_between_11 : decode cX7_between 11 = .ok (.goto 4, 3) := by decide +kernel
theorem dX7_between_14 : decode cX7_between 14 = .ok (.iconst 0, 1) := by decide +kernel
theorem dX7_between_15 : decode cX7_between 15 = .ok (.ireturn, 1) := by decide +kernel
theorem dX7_isAge_0 : decode cX7_isAge 0 = .ok (.iload_n 0, 1) := by decide +kernel
theorem dX7_isAge_1 : decode cX7_isAge 1 = .ok (.bipush 10, 2) := by decide +kernel
theorem dX7_isAge_3 : decode cX7_isAge 3 = .ok (.bipush 69, 2) := by decide +kernel
theorem dX7_isAge_5 : decode cX7_isAge 5 = .ok (.invokestatic 80, 3) := by decide +kernel
theorem dX7_isAge_8 : decode cX7_isAge 8 = .ok (.ireturn, 1) := by decide +kernel
theorem dX7_isPlace_0 : decode cX7_isPlace 0 = .ok (.iload_n 1, 1) := by decide +kernel
theorem dX7_isPlace_1 : decode cX7_isPlace 1 = .ok (.iconst 0, 1) := by decide +kernel
theorem dX7_isPlace_2 : decode cX7_isPlace 2 = .ok (.aload_n 0, 1) := by decide +kernel
theorem dX7_isPlace_3 : decode cX7_isPlace 3 = .ok (.getfield 62, 3) := by decide +kernel
theorem dX7_isPlace_6 : decode cX7_isPlace 6 = .ok (.getfield 184, 3) := by decide +kernel
theorem dX7_isPlace_9 : decode cX7_isPlace 9 = .ok (.iconst 1, 1) := by decide +kernel
theorem dX7_isPlace_10 : decode cX7_isPlace 10 = .ok (.isub, 1) := by decide +kernel
theorem dX7_isPlace_11 : decode cX7_isPlace 11 = .ok (.invokestatic 80, 3) := by decide +kernel
theorem dX7_isPlace_14 : decode cX7_isPlace 14 = .ok (.ireturn, 1) := by decide +kernel
theorem dX7_isWord_0 : decode cX7_isWord 0 = .ok (.iload_n 1, 1) := by decide +kernel
theorem dX7_isWord_1 : decode cX7_isWord 1 = .ok (.iconst 0, 1) := by decide +kernel
theorem dX7_isWord_2 : decode cX7_isWord 2 = .ok (.aload_n 0, 1) := by decide +kernel
theorem dX7_isWord_3 : decode cX7_isWord 3 = .ok (.getfield 62, 3) := by decide +kernel
theorem dX7_isWord_6 : decode cX7_isWord 6 = .ok (.getfield 222, 3) := by decide +kernel
theorem dX7_isWord_9 : decode cX7_isWord 9 = .ok (.iconst 1, 1) := by decide +kernel
theorem dX7_isWord_10 : decode cX7_isWord 10 = .ok (.isub, 1) := by decide +kernel
theorem dX7_isWord_11 : decode cX7_isWord 11 = .ok (.invokestatic 80, 3) := by decide +kernel
theorem dX7_isWord_14 : decode cX7_isWord 14 = .ok (.ireturn, 1) := by decide +kernel
theorem dX7_isCoined_0 : decode cX7_isCoined 0 = .ok (.aload_n 0, 1) := by decide +kernel
theorem dX7_isCoined_1 : decode cX7_isCoined 1 = .ok (.getfield 62, 3) := by decide +kernel
theorem dX7_isCoined_4 : decode cX7_isCoined 4 = .ok (.getfield 133, 3) := by decide +kernel
theorem dX7_isCoined_7 : decode cX7_isCoined 7 = .ok (.iload_n 1, 1) := by decide +kernel
theorem dX7_isCoined_8 : decode cX7_isCoined 8 = .ok (.iaload, 1) := by decide +kernel
theorem dX7_isCoined_9 : decode cX7_isCoined 9 = .ok (.aload_n 0, 1) := by decide +kernel
theorem dX7_isCoined_10 : decode cX7_isCoined 10 = .ok (.getfield 19, 3) := by decide +kernel
theorem dX7_isCoined_13 : decode cX7_isCoined 13 = .ok (.getfield 145, 3) := by decide +kernel
theorem dX7_isCoined_16 : decode cX7_isCoined 16 = .ok (.if_icmp .gt 7, 3) := by decide +kernel
theorem dX7_isCoined_19 : decode cX7_isCoined 19 = .ok (.iconst 1, 1) := by decide +kernel
theorem dX7_isCoined_20 : decode cX7_isCoined 20 = .ok (.goto 4, 3) := by decide +kernel
theorem dX7_isCoined_23 : decode cX7_isCoined 23 = .ok (.iconst 0, 1) := by decide +kernel
theorem dX7_isCoined_24 : decode cX7_isCoined 24 = .ok (.ireturn, 1) := by decide +kernel
theorem dX7_isIn_0 : decode cX7_isIn 0 = .ok (.iload_n 0, 1) := by decide +kernel
theorem dX7_isIn_1 : decode cX7_isIn 1 = .ok (.iload_n 1, 1) := by decide +kernel
theorem dX7_isIn_2 : decode cX7_isIn 2 = .ok (.ishr, 1) := by decide +kernel
theorem dX7_isIn_3 : decode cX7_isIn 3 = .ok (.iconst 1, 1) := by decide +kernel
theorem dX7_isIn_4 : decode cX7_isIn 4 = .ok (.iand, 1) := by decide +kernel
theorem dX7_isIn_5 : decode cX7_isIn 5 = .ok (.iconst 1, 1) := by decide +kernel
theorem dX7_isIn_6 : decode cX7_isIn 6 = .ok (.if_icmp .ne 7, 3) := by decide +kernel
theorem dX7_isIn_9 : decode cX7_isIn 9 = .ok (.iconst 1, 1) := by decide +kernel
theorem dX7_isIn_10 : decode cX7_isIn 10 = .ok (.goto 4, 3) := by decide +kernel
theorem dX7_isIn_13 : decode cX7_isIn 13 = .ok (.iconst 0, 1) := by decide +kernel
theorem dX7_isIn_14 : decode cX7_isIn 14 = .ok (.ireturn, 1) := by decide +kernel
theorem dX7_meanNow_0 : decode cX7_meanNow 0 = .ok (.iconst 0, 1) := by decide +kernel
theorem dX7_meanNow_1 : decode cX7_meanNow 1 = .ok (.istore_n 3, 1) := by decide +kernel
theorem dX7_meanNow_2 : decode cX7_meanNow 2 = .ok (.iconst 0, 1) := by decide +kernel
theorem dX7_meanNow_3 : decode cX7_meanNow 3 = .ok (.istore 4, 2) := by decide +kernel
theorem dX7_meanNow_5 : decode cX7_meanNow 5 = .ok (.iload 4, 2) := by decide +kernel
theorem dX7_meanNow_7 : decode cX7_meanNow 7 = .ok (.aload_n 0, 1) := by decide +kernel
theorem dX7_meanNow_8 : decode cX7_meanNow 8 = .ok (.getfield 62, 3) := by decide +kernel
theorem dX7_meanNow_11 : decode cX7_meanNow 11 = .ok (.getfield 184, 3) := by decide +kernel
theorem dX7_meanNow_14 : decode cX7_meanNow 14 = .ok (.if_icmp .ge 27, 3) := by decide +kernel
theorem dX7_meanNow_17 : decode cX7_meanNow 17 = .ok (.iload_n 3, 1) := by decide +kernel
theorem dX7_meanNow_18 : decode cX7_meanNow 18 = .ok (.aload_n 0, 1) := by decide +kernel
theorem dX7_meanNow_19 : decode cX7_meanNow 19 = .ok (.getfield 19, 3) := by decide +kernel
theorem dX7_meanNow_22 : decode cX7_meanNow 22 = .ok (.getfield 159, 3) := by decide +kernel
theorem dX7_meanNow_25 : decode cX7_meanNow 25 = .ok (.iload_n 1, 1) := by decide +kernel
theorem dX7_meanNow_26 : decode cX7_meanNow 26 = .ok (.aaload, 1) := by decide +kernel
theorem dX7_meanNow_27 : decode cX7_meanNow 27 = .ok (.iload 4, 2) := by decide +kernel
theorem dX7_meanNow_29 : decode cX7_meanNow 29 = .ok (.iload_n 2, 1) := by decide +kernel
theorem dX7_meanNow_30 : decode cX7_meanNow 30 = .ok (.invokevirtual 170, 3) := by decide +kernel
theorem dX7_meanNow_33 : decode cX7_meanNow 33 = .ok (.iadd, 1) := by decide +kernel
theorem dX7_meanNow_34 : decode cX7_meanNow 34 = .ok (.istore_n 3, 1) := by decide +kernel
theorem dX7_meanNow_35 : decode cX7_meanNow 35 = .ok (.iinc 4 1, 3) := by decide +kernel
theorem dX7_meanNow_38 : decode cX7_meanNow 38 = .ok (.goto (-33), 3) := by decide +kernel
theorem dX7_meanNow_41 : decode cX7_meanNow 41 = .ok (.iload_n 3, 1) := by decide +kernel
theorem dX7_meanNow_42 : decode cX7_meanNow 42 = .ok (.aload_n 0, 1) := by decide +kernel
theorem dX7_meanNow_43 : decode cX7_meanNow 43 = .ok (.getfield 62, 3) := by decide +kernel
theorem dX7_meanNow_46 : decode cX7_meanNow 46 = .ok (.getfield 184, 3) := by decide +kernel
theorem dX7_meanNow_49 : decode cX7_meanNow 49 = .ok (.invokestatic 300, 3) := by decide +kernel
theorem dX7_meanNow_52 : decode cX7_meanNow 52 = .ok (.ireturn, 1) := by decide +kernel
theorem dX7_mean_0 : decode cX7_mean 0 = .ok (.iload_n 1, 1) := by decide +kernel
theorem dX7_mean_1 : decode cX7_mean 1 = .ok (.ifCond .le 9, 3) := by decide +kernel
theorem dX7_mean_4 : decode cX7_mean 4 = .ok (.iload_n 0, 1) := by decide +kernel
theorem dX7_mean_5 : decode cX7_mean 5 = .ok (.iload_n 1, 1) := by decide +kernel
theorem dX7_mean_6 : decode cX7_mean 6 = .ok (.idiv, 1) := by decide +kernel
theorem dX7_mean_7 : decode cX7_mean 7 = .ok (.goto 4, 3) := by decide +kernel
theorem dX7_mean_10 : decode cX7_mean 10 = .ok (.iconst 0, 1) := by decide +kernel
theorem dX7_mean_11 : decode cX7_mean 11 = .ok (.ireturn, 1) := by decide +kernel
theorem dX7_weight_0 : decode cX7_weight 0 = .ok (.lconst 1, 1) := by decide +kernel
theorem dX7_weight_1 : decode cX7_weight 1 = .ok (.lstore 5, 2) := by decide +kernel
theorem dX7_weight_3 : decode cX7_weight 3 = .ok (.iconst 0, 1) := by decide +kernel
theorem dX7_weight_4 : decode cX7_weight 4 = .ok (.istore 7, 2) := by decide +kernel
theorem dX7_weight_6 : decode cX7_weight 6 = .ok (.iload 7, 2) := by decide +kernel
theorem dX7_weight_8 : decode cX7_weight 8 = .ok (.aload_n 0, 1) := by decide +kernel
theorem dX7_weight_9 : decode cX7_weight 9 = .ok (.getfield 62, 3) := by decide +kernel
theorem dX7_weight_12 : decode cX7_weight 12 = .ok (.getfield 222, 3) := by decide +kernel
theorem dX7_weight_15 : decode cX7_weight 15 = .ok (.if_icmp .ge 70, 3) := by decide +kernel
theorem dX7_weight_18 : decode cX7_weight 18 = .ok (.aload_n 0, 1) := by decide +kernel
theorem dX7_weight_19 : decode cX7_weight 19 = .ok (.getfield 19, 3) := by decide +kernel
theorem dX7_weight_22 : decode cX7_weight 22 = .ok (.getfield 159, 3) := by decide +kernel
theorem dX7_weight_25 : decode cX7_weight 25 = .ok (.iload 7, 2) := by decide +kernel
theorem dX7_weight_27 : decode cX7_weight 27 = .ok (.aaload, 1) := by decide +kernel
theorem dX7_weight_28 : decode cX7_weight 28 = .ok (.getfield 163, 3) := by decide +kernel
theorem dX7_weight_31 : decode cX7_weight 31 = .ok (.iload 4, 2) := by decide +kernel
theorem dX7_weight_33 : decode cX7_weight 33 = .ok (.aaload, 1) := by decide +kernel
theorem dX7_weight_34 : decode cX7_weight 34 = .ok (.iload_n 3, 1) := by decide +kernel
theorem dX7_weight_35 : decode cX7_weight 35 = .ok (.iaload, 1) := by decide +kernel
theorem dX7_weight_36 : decode cX7_weight 36 = .ok (.istore 8, 2) := by decide +kernel
theorem dX7_weight_38 : decode cX7_weight 38 = .ok (.iload_n 1, 1) := by decide +kernel
theorem dX7_weight_39 : decode cX7_weight 39 = .ok (.iload 7, 2) := by decide +kernel
theorem dX7_weight_41 : decode cX7_weight 41 = .ok (.invokestatic 245, 3) := by decide +kernel
theorem dX7_weight_44 : decode cX7_weight 44 = .ok (.ifCond .eq 14, 3) := by decide +kernel
theorem dX7_weight_47 : decode cX7_weight 47 = .ok (.lload 5, 2) := by decide +kernel
theorem dX7_weight_49 : decode cX7_weight 49 = .ok (.iload 8, 2) := by decide +kernel
theorem dX7_weight_51 : decode cX7_weight 51 = .ok (.i2l, 1) := by decide +kernel
theorem dX7_weight_52 : decode cX7_weight 52 = .ok (.lmul, 1) := by decide +kernel
theorem dX7_weight_53 : decode cX7_weight 53 = .ok (.lstore 5, 2) := by decide +kernel
theorem dX7_weight_55 : decode cX7_weight 55 = .ok (.goto 24, 3) := by decide +kernel
theorem dX7_weight_58 : decode cX7_weight 58 = .ok (.iload_n 2, 1) := by decide +kernel
theorem dX7_weight_59 : decode cX7_weight 59 = .ok (.iload 7, 2) := by decide +kernel
theorem dX7_weight_61 : decode cX7_weight 61 = .ok (.invokestatic 245, 3) := by decide +kernel
theorem dX7_weight_64 : decode cX7_weight 64 = .ok (.ifCond .eq 15, 3) := by decide +kernel
theorem dX7_weight_67 : decode cX7_weight 67 = .ok (.lload 5, 2) := by decide +kernel
theorem dX7_weight_69 : decode cX7_weight 69 = .ok (.sipush 1000, 3) := by decide +kernel
theorem dX7_weight_72 : decode cX7_weight 72 = .ok (.iload 8, 2) := by decide +kernel
theorem dX7_weight_74 : decode cX7_weight 74 = .ok (.isub, 1) := by decide +kernel
theorem dX7_weight_75 : decode cX7_weight 75 = .ok (.i2l, 1) := by decide +kernel
theorem dX7_weight_76 : decode cX7_weight 76 = .ok (.lmul, 1) := by decide +kernel
theorem dX7_weight_77 : decode cX7_weight 77 = .ok (.lstore 5, 2) := by decide +kernel
theorem dX7_weight_79 : decode cX7_weight 79 = .ok (.iinc 7 1, 3) := by decide +kernel
theorem dX7_weight_82 : decode cX7_weight 82 = .ok (.goto (-76), 3) := by decide +kernel
theorem dX7_weight_85 : decode cX7_weight 85 = .ok (.lload 5, 2) := by decide +kernel
theorem dX7_weight_87 : decode cX7_weight 87 = .ok (.lreturn, 1) := by decide +kernel
theorem dX7_weights_0 : decode cX7_weights 0 = .ok (.lconst 0, 1) := by decide +kernel
theorem dX7_weights_1 : decode cX7_weights 1 = .ok (.lstore 5, 2) := by decide +kernel
theorem dX7_weights_3 : decode cX7_weights 3 = .ok (.iload_n 3, 1) := by decide +kernel
theorem dX7_weights_4 : decode cX7_weights 4 = .ok (.istore 7, 2) := by decide +kernel
theorem dX7_weights_6 : decode cX7_weights 6 = .ok (.iload 7, 2) := by decide +kernel
theorem dX7_weights_8 : decode cX7_weights 8 = .ok (.iload 4, 2) := by decide +kernel
theorem dX7_weights_10 : decode cX7_weights 10 = .ok (.if_icmp .gt 45, 3) := by decide +kernel
theorem dX7_weights_13 : decode cX7_weights 13 = .ok (.iconst 0, 1) := by decide +kernel
theorem dX7_weights_14 : decode cX7_weights 14 = .ok (.istore 8, 2) := by decide +kernel
theorem dX7_weights_16 : decode cX7_weights 16 = .ok (.iload 8, 2) := by decide +kernel
theorem dX7_weights_18 : decode cX7_weights 18 = .ok (.aload_n 0, 1) := by decide +kernel
theorem dX7_weights_19 : decode cX7_weights 19 = .ok (.getfield 62, 3) := by decide +kernel
theorem dX7_weights_22 : decode cX7_weights 22 = .ok (.getfield 184, 3) := by decide +kernel
theorem dX7_weights_25 : decode cX7_weights 25 = .ok (.if_icmp .ge 24, 3) := by decide +kernel
theorem dX7_weights_28 : decode cX7_weights 28 = .ok (.lload 5, 2) := by decide +kernel
theorem dX7_weights_30 : decode cX7_weights 30 = .ok (.aload_n 0, 1) := by decide +kernel
theorem dX7_weights_31 : decode cX7_weights 31 = .ok (.iload_n 1, 1) := by decide +kernel
theorem dX7_weights_32 : decode cX7_weights 32 = .ok (.iload_n 2, 1) := by decide +kernel
theorem dX7_weights_33 : decode cX7_weights 33 = .ok (.iload 7, 2) := by decide +kernel
theorem dX7_weights_35 : decode cX7_weights 35 = .ok (.iload 8, 2) := by decide +kernel
theorem dX7_weights_37 : decode cX7_weights 37 = .ok (.invokevirtual 219, 3) := by decide +kernel
theorem dX7_weights_40 : decode cX7_weights 40 = .ok (.ladd, 1) := by decide +kernel
theorem dX7_weights_41 : decode cX7_weights 41 = .ok (.lstore 5, 2) := by decide +kernel
theorem dX7_weights_43 : decode cX7_weights 43 = .ok (.iinc 8 1, 3) := by decide +kernel
theorem dX7_weights_46 : decode cX7_weights 46 = .ok (.goto (-30), 3) := by decide +kernel
theorem dX7_weights_49 : decode cX7_weights 49 = .ok (.iinc 7 1, 3) := by decide +kernel
theorem dX7_weights_52 : decode cX7_weights 52 = .ok (.goto (-46), 3) := by decide +kernel
theorem dX7_weights_55 : decode cX7_weights 55 = .ok (.lload 5, 2) := by decide +kernel
theorem dX7_weights_57 : decode cX7_weights 57 = .ok (.lreturn, 1) := by decide +kernel
theorem dX7_letterStands_0 : decode cX7_letterStands 0 = .ok (.aload_n 0, 1) := by decide +kernel
theorem dX7_letterStands_1 : decode cX7_letterStands 1 = .ok (.getfield 34, 3) := by decide +kernel
theorem dX7_letterStands_4 : decode cX7_letterStands 4 = .ok (.getfield 98, 3) := by decide +kernel
theorem dX7_letterStands_7 : decode cX7_letterStands 7 = .ok (.ifCond .eq 24, 3) := by decide +kernel
theorem dX7_letterStands_10 : decode cX7_letterStands 10 = .ok (.aload_n 0, 1) := by decide +kernel
theorem dX7_letterStands_11 : decode cX7_letterStands 11 = .ok (.getfield 34, 3) := by decide +kernel
theorem dX7_letterStands_14 : decode cX7_letterStands 14 = .ok (.getfield 226, 3) := by decide +kernel
theorem dX7_letterStands_17 : decode cX7_letterStands 17 = .ok (.aload_n 0, 1) := by decide +kernel
theorem dX7_letterStands_18 : decode cX7_letterStands 18 = .ok (.getfield 19, 3) := by decide +kernel
theorem dX7_letterStands_21 : decode cX7_letterStands 21 = .ok (.getfield 145, 3) := by decide +kernel
theorem dX7_letterStands_24 : decode cX7_letterStands 24 = .ok (.if_icmp .gt 7, 3) := by decide +kernel
theorem dX7_letterStands_27 : decode cX7_letterStands 27 = .ok (.iconst 1, 1) := by decide +kernel
theorem dX7_letterStands_28 : decode cX7_letterStands 28 = .ok (.goto 4, 3) := by decide +kernel
theorem dX7_letterStands_31 : decode cX7_letterStands 31 = .ok (.iconst 0, 1) := by decide +kernel
theorem dX7_letterStands_32 : decode cX7_letterStands 32 = .ok (.ireturn, 1) := by decide +kernel
theorem dX7_recallLetter_0 : decode cX7_recallLetter 0 = .ok (.iconst 0, 1) := by decide +kernel
theorem dX7_recallLetter_1 : decode cX7_recallLetter 1 = .ok (.istore_n 1, 1) := by decide +kernel
theorem dX7_recallLetter_2 : decode cX7_recallLetter 2 = .ok (.iload_n 1, 1) := by decide +kernel
theorem dX7_recallLetter_3 : decode cX7_recallLetter 3 = .ok (.aload_n 0, 1) := by decide +kernel
theorem dX7_recallLetter_4 : decode cX7_recallLetter 4 = .ok (.getfield 62, 3) := by decide +kernel
theorem dX7_recallLetter_7 : decode cX7_recallLetter 7 = .ok (.getfield 222, 3) := by decide +kernel
theorem dX7_recallLetter_10 : decode cX7_recallLetter 10 = .ok (.if_icmp .ge 88, 3) := by decide +kernel
theorem dX7_recallLetter_13 : decode cX7_recallLetter 13 = .ok (.aload_n 0, 1) := by decide +kernel
theorem dX7_recallLetter_14 : decode cX7_recallLetter 14 = .ok (.getfield 34, 3) := by decide +kernel
theorem dX7_recallLetter_17 : decode cX7_recallLetter 17 = .ok (.getfield 225, 3) := by decide +kernel
theorem dX7_recallLetter_20 : decode cX7_recallLetter 20 = .ok (.iload_n 1, 1) := by decide +kernel
theorem dX7_recallLetter_21 : decode cX7_recallLetter 21 = .ok (.invokestatic 245, 3) := by decide +kernel
theorem dX7_recallLetter_24 : decode cX7_recallLetter 24 = .ok (.ifCond .eq 68, 3) := by decide +kernel
theorem dX7_recallLetter_27 : decode cX7_recallLetter 27 = .ok (.aload_n 0, 1) := by decide +kernel
theorem dX7_recallLetter_28 : decode cX7_recallLetter 28 = .ok (.getfield 55, 3) := by decide +kernel
theorem dX7_recallLetter_31 : decode cX7_recallLetter 31 = .ok (.aload_n 0, 1) := by decide +kernel
theorem dX7_recallLetter_32 : decode cX7_recallLetter 32 = .ok (.getfield 62, 3) := by decide +kernel
theorem dX7_recallLetter_35 : decode cX7_recallLetter 35 = .ok (.aload_n 0, 1) := by decide +kernel
theorem dX7_recallLetter_36 : decode cX7_recallLetter 36 = .ok (.getfield 19, 3) := by decide +kernel
theorem dX7_recallLetter_39 : decode cX7_recallLetter 39 = .ok (.getfield 173, 3) := by decide +kernel
theorem dX7_recallLetter_42 : decode cX7_recallLetter 42 = .ok (.iload_n 1, 1) := by decide +kernel
theorem dX7_recallLetter_43 : decode cX7_recallLetter 43 = .ok (.aload_n 0, 1) := by decide +kernel
theorem dX7_recallLetter_44 : decode cX7_recallLetter 44 = .ok (.getfield 62, 3) := by decide +kernel
theorem dX7_recallLetter_47 : decode cX7_recallLetter 47 = .ok (.getfield 109, 3) := by decide +kernel
theorem dX7_recallLetter_50 : decode cX7_recallLetter 50 = .ok (.aload_n 0, 1) := by decide +kernel
theorem dX7_recallLetter_51 : decode cX7_recallLetter 51 = .ok (.getfield 34, 3) := by decide +kernel
theorem dX7_recallLetter_54 : decode cX7_recallLetter 54 = .ok (.getfield 226, 3) := by decide +kernel
theorem dX7_recallLetter_57 : decode cX7_recallLetter 57 = .ok (.invokevirtual 259, 3) := by decide +kernel
theorem dX7_recallLetter_60 : decode cX7_recallLetter 60 = .ok (.aload_n 0, 1) := by decide +kernel
theorem dX7_recallLetter_61 : decode cX7_recallLetter 61 = .ok (.getfield 34, 3) := by decide +kernel
theorem dX7_recallLetter_64 : decode cX7_recallLetter 64 = .ok (.getfield 249, 3) := by decide +kernel
theorem dX7_recallLetter_67 : decode cX7_recallLetter 67 = .ok (.iload_n 1, 1) := by decide +kernel
theorem dX7_recallLetter_68 : decode cX7_recallLetter 68 = .ok (.aload_n 0, 1) := by decide +kernel
theorem dX7_recallLetter_69 : decode cX7_recallLetter 69 = .ok (.getfield 55, 3) := by decide +kernel
theorem dX7_recallLetter_72 : decode cX7_recallLetter 72 = .ok (.getfield 163, 3) := by decide +kernel
theorem dX7_recallLetter_75 : decode cX7_recallLetter 75 = .ok (.aload_n 0, 1) := by decide +kernel
theorem dX7_recallLetter_76 : decode cX7_recallLetter 76 = .ok (.getfield 34, 3) := by decide +kernel
theorem dX7_recallLetter_79 : decode cX7_recallLetter 79 = .ok (.getfield 230, 3) := by decide +kernel
theorem dX7_recallLetter_82 : decode cX7_recallLetter 82 = .ok (.aaload, 1) := by decide +kernel
theorem dX7_recallLetter_83 : decode cX7_recallLetter 83 = .ok (.aload_n 0, 1) := by decide +kernel
theorem dX7_recallLetter_84 : decode cX7_recallLetter 84 = .ok (.getfield 34, 3) := by decide +kernel
theorem dX7_recallLetter_87 : decode cX7_recallLetter 87 = .ok (.getfield 227, 3) := by decide +kernel
theorem dX7_recallLetter_90 : decode cX7_recallLetter 90 = .ok (.iaload, 1) := by decide +kernel
theorem dX7_recallLetter_91 : decode cX7_recallLetter 91 = .ok (.iastore, 1) := by decide +kernel
theorem dX7_recallLetter_92 : decode cX7_recallLetter 92 = .ok (.iinc 1 1, 3) := by decide +kernel
theorem dX7_recallLetter_95 : decode cX7_recallLetter 95 = .ok (.goto (-93), 3) := by decide +kernel
theorem dX7_recallLetter_98 : decode cX7_recallLetter 98 = .ok (.return_, 1) := by decide +kernel
theorem dX7_letterWeight_0 : decode cX7_letterWeight 0 = .ok (.lconst 1, 1) := by decide +kernel
theorem dX7_letterWeight_1 : decode cX7_letterWeight 1 = .ok (.lstore_n 1, 1) := by decide +kernel
theorem dX7_letterWeight_2 : decode cX7_letterWeight 2 = .ok (.iconst 0, 1) := by decide +kernel
theorem dX7_letterWeight_3 : decode cX7_letterWeight 3 = .ok (.istore_n 3, 1) := by decide +kernel
theorem dX7_letterWeight_4 : decode cX7_letterWeight 4 = .ok (.iload_n 3, 1) := by decide +kernel
theorem dX7_letterWeight_5 : decode cX7_letterWeight 5 = .ok (.aload_n 0, 1) := by decide +kernel
theorem dX7_letterWeight_6 : decode cX7_letterWeight 6 = .ok (.getfield 62, 3) := by decide +kernel
theorem dX7_letterWeight_9 : decode cX7_letterWeight 9 = .ok (.getfield 222, 3) := by decide +kernel
theorem dX7_letterWeight_12 : decode cX7_letterWeight 12 = .ok (.if_icmp .ge 36, 3) := by decide +kernel
theorem dX7_letterWeight_15 : decode cX7_letterWeight 15 = .ok (.aload_n 0, 1) := by decide +kernel
theorem dX7_letterWeight_16 : decode cX7_letterWeight 16 = .ok (.getfield 34, 3) := by decide +kernel
theorem dX7_letterWeight_19 : decode cX7_letterWeight 19 = .ok (.getfield 225, 3) := by decide +kernel
theorem dX7_letterWeight_22 : decode cX7_letterWeight 22 = .ok (.iload_n 3, 1) := by decide +kernel
theorem dX7_letterWeight_23 : decode cX7_letterWeight 23 = .ok (.invokestatic 245, 3) := by decide +kernel
theorem dX7_letterWeight_26 : decode cX7_letterWeight 26 = .ok (.ifCond .eq 16, 3) := by decide +kernel
theorem dX7_letterWeight_29 : decode cX7_letterWeight 29 = .ok (.lload_n 1, 1) := by decide +kernel
theorem dX7_letterWeight_30 : decode cX7_letterWeight 30 = .ok (.aload_n 0, 1) := by decide +kernel
theorem dX7_letterWeight_31 : decode cX7_letterWeight 31 = .ok (.getfield 34, 3) := by decide +kernel
theorem dX7_letterWeight_34 : decode cX7_letterWeight 34 = .ok (.getfield 249, 3) := by decide +kernel
theorem dX7_letterWeight_37 : decode cX7_letterWeight 37 = .ok (.iload_n 3, 1) := by decide +kernel
theorem dX7_letterWeight_38 : decode cX7_letterWeight 38 = .ok (.iaload, 1) := by decide +kernel
theorem dX7_letterWeight_39 : decode cX7_letterWeight 39 = .ok (.i2l, 1) := by decide +kernel
theorem dX7_letterWeight_40 : decode cX7_letterWeight 40 = .ok (.lmul, 1) := by decide +kernel
theorem dX7_letterWeight_41 : decode cX7_letterWeight 41 = .ok (.lstore_n 1, 1) := by decide +kernel
theorem dX7_letterWeight_42 : decode cX7_letterWeight 42 = .ok (.iinc 3 1, 3) := by decide +kernel
theorem dX7_letterWeight_45 : decode cX7_letterWeight 45 = .ok (.goto (-41), 3) := by decide +kernel
theorem dX7_letterWeight_48 : decode cX7_letterWeight 48 = .ok (.lload_n 1, 1) := by decide +kernel
theorem dX7_letterWeight_49 : decode cX7_letterWeight 49 = .ok (.lreturn, 1) := by decide +kernel
