theorem dX7_leastTerms_0 : decode cX7_leastTerms 0 = .ok (.lload_n 0, 1) := by decide +kernel
theorem dX7_leastTerms_1 : decode cX7_leastTerms 1 = .ok (.invokestatic 303, 3) := by decide +kernel
theorem dX7_leastTerms_4 : decode cX7_leastTerms 4 = .ok (.lload_n 2, 1) := by decide +kernel
theorem dX7_leastTerms_5 : decode cX7_leastTerms 5 = .ok (.invokestatic 307, 3) := by decide +kernel
theorem dX7_leastTerms_8 : decode cX7_leastTerms 8 = .ok (.lstore 5, 2) := by decide +kernel
theorem dX7_leastTerms_10 : decode cX7_leastTerms 10 = .ok (.lload 5, 2) := by decide +kernel
theorem dX7_leastTerms_12 : decode cX7_leastTerms 12 = .ok (.lconst 0, 1) := by decide +kernel
theorem dX7_leastTerms_13 : decode cX7_leastTerms 13 = .ok (.lcmp, 1) := by decide +kernel
theorem dX7_leastTerms_14 : decode cX7_leastTerms 14 = .ok (.ifCond .gt 7, 3) := by decide +kernel
theorem dX7_leastTerms_17 : decode cX7_leastTerms 17 = .ok (.ldc2_w 213, 3) := by decide +kernel
theorem dX7_leastTerms_20 : decode cX7_leastTerms 20 = .ok (.lreturn, 1) := by decide +kernel
theorem dX7_leastTerms_21 : decode cX7_leastTerms 21 = .ok (.iload 4, 2) := by decide +kernel
theorem dX7_leastTerms_23 : decode cX7_leastTerms 23 = .ok (.ifCond .ne 7, 3) := by decide +kernel
theorem dX7_leastTerms_26 : decode cX7_leastTerms 26 = .ok (.lload_n 0, 1) := by decide +kernel
theorem dX7_leastTerms_27 : decode cX7_leastTerms 27 = .ok (.goto 4, 3) := by decide +kernel
theorem dX7_leastTerms_30 : decode cX7_leastTerms 30 = .ok (.lload_n 2, 1) := by decide +kernel
theorem dX7_leastTerms_31 : decode cX7_leastTerms 31 = .ok (.lload 5, 2) := by decide +kernel
theorem dX7_leastTerms_33 : decode cX7_leastTerms 33 = .ok (.ldiv, 1) := by decide +kernel
theorem dX7_leastTerms_34 : decode cX7_leastTerms 34 = .ok (.lreturn, 1) := by decide +kernel
theorem dX7_commonDivisor_0 : decode cX7_commonDivisor 0 = .ok (.lload_n 0, 1) := by decide +kernel
theorem dX7_commonDivisor_1 : decode cX7_commonDivisor 1 = .ok (.lstore 4, 2) := by decide +kernel
theorem dX7_commonDivisor_3 : decode cX7_commonDivisor 3 = .ok (.lload_n 2, 1) := by decide +kernel
theorem dX7_commonDivisor_4 : decode cX7_commonDivisor 4 = .ok (.lstore 6, 2) := by decide +kernel
theorem dX7_commonDivisor_6 : decode cX7_commonDivisor 6 = .ok (.iconst 0, 1) := by decide +kernel
theorem dX7_commonDivisor_7 : decode cX7_commonDivisor 7 = .ok (.istore 8, 2) := by decide +kernel
theorem dX7_commonDivisor_9 : decode cX7_commonDivisor 9 = .ok (.iload 8, 2) := by decide +kernel
theorem dX7_commonDivisor_11 : decode cX7_commonDivisor 11 = .ok (.sipush 1000, 3) := by decide +kernel
theorem dX7_commonDivisor_14 : decode cX7_commonDivisor 14 = .ok (.if_icmp .ge 31, 3) := by decide +kernel
theorem dX7_commonDivisor_17 : decode cX7_commonDivisor 17 = .ok (.lload 6, 2) := by decide +kernel
theorem dX7_commonDivisor_19 : decode cX7_commonDivisor 19 = .ok (.lconst 0, 1) := by decide +kernel
theorem dX7_commonDivisor_20 : decode cX7_commonDivisor 20 = .ok (.lcmp, 1) := by decide +kernel
theorem dX7_commonDivisor_21 : decode cX7_commonDivisor 21 = .ok (.ifCond .eq 24, 3) := by decide +kernel
theorem dX7_commonDivisor_24 : decode cX7_commonDivisor 24 = .ok (.lload 4, 2) := by decide +kernel
theorem dX7_commonDivisor_26 : decode cX7_commonDivisor 26 = .ok (.lload 6, 2) := by decide +kernel
theorem dX7_commonDivisor_28 : decode cX7_commonDivisor 28 = .ok (.lrem, 1) := by decide +kernel
theorem dX7_commonDivisor_29 : decode cX7_commonDivisor 29 = .ok (.lstore 9, 2) := by decide +kernel
theorem dX7_commonDivisor_31 : decode cX7_commonDivisor 31 = .ok (.lload 6, 2) := by decide +kernel
theorem dX7_commonDivisor_33 : decode cX7_commonDivisor 33 = .ok (.lstore 4, 2) := by decide +kernel
theorem dX7_commonDivisor_35 : decode cX7_commonDivisor 35 = .ok (.lload 9, 2) := by decide +kernel
theorem dX7_commonDivisor_37 : decode cX7_commonDivisor 37 = .ok (.lstore 6, 2) := by decide +kernel
theorem dX7_commonDivisor_39 : decode cX7_commonDivisor 39 = .ok (.iinc 8 1, 3) := by decide +kernel
theorem dX7_commonDivisor_42 : decode cX7_commonDivisor 42 = .ok (.goto (-33), 3) := by decide +kernel
theorem dX7_commonDivisor_45 : decode cX7_commonDivisor 45 = .ok (.lload 4, 2) := by decide +kernel
theorem dX7_commonDivisor_47 : decode cX7_commonDivisor 47 = .ok (.lreturn, 1) := by decide +kernel
theorem dX7_lastOver_0 : decode cX7_lastOver 0 = .ok (.aload_n 0, 1) := by decide +kernel
theorem dX7_lastOver_1 : decode cX7_lastOver 1 = .ok (.getfield 55, 3) := by decide +kernel
theorem dX7_lastOver_4 : decode cX7_lastOver 4 = .ok (.aload_n 0, 1) := by decide +kernel
theorem dX7_lastOver_5 : decode cX7_lastOver 5 = .ok (.getfield 62, 3) := by decide +kernel
theorem dX7_lastOver_8 : decode cX7_lastOver 8 = .ok (.aload_n 0, 1) := by decide +kernel
theorem dX7_lastOver_9 : decode cX7_lastOver 9 = .ok (.getfield 19, 3) := by decide +kernel
theorem dX7_lastOver_12 : decode cX7_lastOver 12 = .ok (.getfield 173, 3) := by decide +kernel
theorem dX7_lastOver_15 : decode cX7_lastOver 15 = .ok (.iload_n 1, 1) := by decide +kernel
theorem dX7_lastOver_16 : decode cX7_lastOver 16 = .ok (.iload_n 2, 1) := by decide +kernel
theorem dX7_lastOver_17 : decode cX7_lastOver 17 = .ok (.bipush 99, 2) := by decide +kernel
theorem dX7_lastOver_19 : decode cX7_lastOver 19 = .ok (.invokevirtual 259, 3) := by decide +kernel
theorem dX7_lastOver_22 : decode cX7_lastOver 22 = .ok (.aload_n 0, 1) := by decide +kernel
theorem dX7_lastOver_23 : decode cX7_lastOver 23 = .ok (.getfield 55, 3) := by decide +kernel
theorem dX7_lastOver_26 : decode cX7_lastOver 26 = .ok (.bipush 99, 2) := by decide +kernel
theorem dX7_lastOver_28 : decode cX7_lastOver 28 = .ok (.invokevirtual 198, 3) := by decide +kernel
theorem dX7_lastOver_31 : decode cX7_lastOver 31 = .ok (.istore_n 3, 1) := by decide +kernel
theorem dX7_lastOver_32 : decode cX7_lastOver 32 = .ok (.iload_n 3, 1) := by decide +kernel
theorem dX7_lastOver_33 : decode cX7_lastOver 33 = .ok (.bipush (-9), 2) := by decide +kernel
theorem dX7_lastOver_35 : decode cX7_lastOver 35 = .ok (.if_icmp .ne 8, 3) := by decide +kernel
theorem dX7_lastOver_38 : decode cX7_lastOver 38 = .ok (.bipush 99, 2) := by decide +kernel
theorem dX7_lastOver_40 : decode cX7_lastOver 40 = .ok (.goto 4, 3) := by decide +kernel
theorem dX7_lastOver_43 : decode cX7_lastOver 43 = .ok (.iload_n 3, 1) := by decide +kernel
theorem dX7_lastOver_44 : decode cX7_lastOver 44 = .ok (.ireturn, 1) := by decide +kernel
theorem dX7_rateWord_0 : decode cX7_rateWord 0 = .ok (.aload_n 0, 1) := by decide +kernel
theorem dX7_rateWord_1 : decode cX7_rateWord 1 = .ok (.dup, 1) := by decide +kernel
theorem dX7_rateWord_2 : decode cX7_rateWord 2 = .ok (.getfield 73, 3) := by decide +kernel
theorem dX7_rateWord_5 : decode cX7_rateWord 5 = .ok (.lconst 1, 1) := by decide +kernel
theorem dX7_rateWord_6 : decode cX7_rateWord 6 = .ok (.ladd, 1) := by decide +kernel
theorem dX7_rateWord_7 : decode cX7_rateWord 7 = .ok (.putfield 73, 3) := by decide +kernel
theorem dX7_rateWord_10 : decode cX7_rateWord 10 = .ok (.aload_n 0, 1) := by decide +kernel
theorem dX7_rateWord_11 : decode cX7_rateWord 11 = .ok (.getfield 62, 3) := by decide +kernel
theorem dX7_rateWord_14 : decode cX7_rateWord 14 = .ok (.getfield 133, 3) := by decide +kernel
theorem dX7_rateWord_17 : decode cX7_rateWord 17 = .ok (.iload_n 1, 1) := by decide +kernel
theorem dX7_rateWord_18 : decode cX7_rateWord 18 = .ok (.iaload, 1) := by decide +kernel
theorem dX7_rateWord_19 : decode cX7_rateWord 19 = .ok (.ireturn, 1) := by decide +kernel
theorem dX7_rateNew_0 : decode cX7_rateNew 0 = .ok (.aload_n 0, 1) := by decide +kernel
theorem dX7_rateNew_1 : decode cX7_rateNew 1 = .ok (.dup, 1) := by decide +kernel
theorem dX7_rateNew_2 : decode cX7_rateNew 2 = .ok (.getfield 73, 3) := by decide +kernel
theorem dX7_rateNew_5 : decode cX7_rateNew 5 = .ok (.ldc2_w 311, 3) := by decide +kernel
theorem dX7_rateNew_8 : decode cX7_rateNew 8 = .ok (.ladd, 1) := by decide +kernel
theorem dX7_rateNew_9 : decode cX7_rateNew 9 = .ok (.putfield 73, 3) := by decide +kernel
theorem dX7_rateNew_12 : decode cX7_rateNew 12 = .ok (.aload_n 0, 1) := by decide +kernel
theorem dX7_rateNew_13 : decode cX7_rateNew 13 = .ok (.iload_n 1, 1) := by decide +kernel
theorem dX7_rateNew_14 : decode cX7_rateNew 14 = .ok (.invokevirtual 278, 3) := by decide +kernel
theorem dX7_rateNew_17 : decode cX7_rateNew 17 = .ok (.aload_n 0, 1) := by decide +kernel
theorem dX7_rateNew_18 : decode cX7_rateNew 18 = .ok (.iload_n 1, 1) := by decide +kernel
theorem dX7_rateNew_19 : decode cX7_rateNew 19 = .ok (.iconst 0, 1) := by decide +kernel
theorem dX7_rateNew_20 : decode cX7_rateNew 20 = .ok (.invokevirtual 167, 3) := by decide +kernel
theorem dX7_rateNew_23 : decode cX7_rateNew 23 = .ok (.iadd, 1) := by decide +kernel
theorem dX7_rateNew_24 : decode cX7_rateNew 24 = .ok (.ireturn, 1) := by decide +kernel
theorem dX7_rateHad_0 : decode cX7_rateHad 0 = .ok (.aload_n 0, 1) := by decide +kernel
theorem dX7_rateHad_1 : decode cX7_rateHad 1 = .ok (.dup, 1) := by decide +kernel
theorem dX7_rateHad_2 : decode cX7_rateHad 2 = .ok (.getfield 73, 3) := by decide +kernel
theorem dX7_rateHad_5 : decode cX7_rateHad 5 = .ok (.ldc2_w 313, 3) := by decide +kernel
theorem dX7_rateHad_8 : decode cX7_rateHad 8 = .ok (.ladd, 1) := by decide +kernel
theorem dX7_rateHad_9 : decode cX7_rateHad 9 = .ok (.putfield 73, 3) := by decide +kernel
theorem dX7_rateHad_12 : decode cX7_rateHad 12 = .ok (.aload_n 0, 1) := by decide +kernel
theorem dX7_rateHad_13 : decode cX7_rateHad 13 = .ok (.iload_n 1, 1) := by decide +kernel
theorem dX7_rateHad_14 : decode cX7_rateHad 14 = .ok (.invokevirtual 278, 3) := by decide +kernel
theorem dX7_rateHad_17 : decode cX7_rateHad 17 = .ok (.aload_n 0, 1) := by decide +kernel
theorem dX7_rateHad_18 : decode cX7_rateHad 18 = .ok (.iload_n 1, 1) := by decide +kernel
theorem dX7_rateHad_19 : decode cX7_rateHad 19 = .ok (.iconst 2, 1) := by decide +kernel
theorem dX7_rateHad_20 : decode cX7_rateHad 20 = .ok (.invokevirtual 167, 3) := by decide +kernel
theorem dX7_rateHad_23 : decode cX7_rateHad 23 = .ok (.iadd, 1) := by decide +kernel
theorem dX7_rateHad_24 : decode cX7_rateHad 24 = .ok (.ireturn, 1) := by decide +kernel
theorem dX7_rateOver_0 : decode cX7_rateOver 0 = .ok (.aload_n 0, 1) := by decide +kernel
theorem dX7_rateOver_1 : decode cX7_rateOver 1 = .ok (.dup, 1) := by decide +kernel
theorem dX7_rateOver_2 : decode cX7_rateOver 2 = .ok (.getfield 73, 3) := by decide +kernel
theorem dX7_rateOver_5 : decode cX7_rateOver 5 = .ok (.ldc2_w 315, 3) := by decide +kernel
theorem dX7_rateOver_8 : decode cX7_rateOver 8 = .ok (.ladd, 1) := by decide +kernel
theorem dX7_rateOver_9 : decode cX7_rateOver 9 = .ok (.putfield 73, 3) := by decide +kernel
theorem dX7_rateOver_12 : decode cX7_rateOver 12 = .ok (.aload_n 0, 1) := by decide +kernel
theorem dX7_rateOver_13 : decode cX7_rateOver 13 = .ok (.iload_n 1, 1) := by decide +kernel
theorem dX7_rateOver_14 : decode cX7_rateOver 14 = .ok (.invokevirtual 284, 3) := by decide +kernel
theorem dX7_rateOver_17 : decode cX7_rateOver 17 = .ok (.aload_n 0, 1) := by decide +kernel
theorem dX7_rateOver_18 : decode cX7_rateOver 18 = .ok (.iload_n 1, 1) := by decide +kernel
theorem dX7_rateOver_19 : decode cX7_rateOver 19 = .ok (.iconst 1, 1) := by decide +kernel
theorem dX7_rateOver_20 : decode cX7_rateOver 20 = .ok (.invokevirtual 167, 3) := by decide +kernel
theorem dX7_rateOver_23 : decode cX7_rateOver 23 = .ok (.isub, 1) := by decide +kernel
theorem dX7_rateOver_24 : decode cX7_rateOver 24 = .ok (.ireturn, 1) := by decide +kernel
theorem dX7_rateKept_0 : decode cX7_rateKept 0 = .ok (.aload_n 0, 1) := by decide +kernel
theorem dX7_rateKept_1 : decode cX7_rateKept 1 = .ok (.dup, 1) := by decide +kernel
theorem dX7_rateKept_2 : decode cX7_rateKept 2 = .ok (.getfield 73, 3) := by decide +kernel
theorem dX7_rateKept_5 : decode cX7_rateKept 5 = .ok (.ldc2_w 317, 3) := by decide +kernel
theorem dX7_rateKept_8 : decode cX7_rateKept 8 = .ok (.ladd, 1) := by decide +kernel
theorem dX7_rateKept_9 : decode cX7_rateKept 9 = .ok (.putfield 73, 3) := by decide +kernel
theorem dX7_rateKept_12 : decode cX7_rateKept 12 = .ok (.iconst 2, 1) := by decide +kernel
theorem dX7_rateKept_13 : decode cX7_rateKept 13 = .ok (.aload_n 0, 1) := by decide +kernel
theorem dX7_rateKept_14 : decode cX7_rateKept 14 = .ok (.iload_n 1, 1) := by decide +kernel
theorem dX7_rateKept_15 : decode cX7_rateKept 15 = .ok (.invokevirtual 287, 3) := by decide +kernel
theorem dX7_rateKept_18 : decode cX7_rateKept 18 = .ok (.imul, 1) := by decide +kernel
theorem dX7_rateKept_19 : decode cX7_rateKept 19 = .ok (.ireturn, 1) := by decide +kernel
theorem dX7_rateStayed_0 : decode cX7_rateStayed 0 = .ok (.aload_n 0, 1) := by decide +kernel
theorem dX7_rateStayed_1 : decode cX7_rateStayed 1 = .ok (.dup, 1) := by decide +kernel
theorem dX7_rateStayed_2 : decode cX7_rateStayed 2 = .ok (.getfield 73, 3) := by decide +kernel
theorem dX7_rateStayed_5 : decode cX7_rateStayed 5 = .ok (.ldc2_w 319, 3) := by decide +kernel
theorem dX7_rateStayed_8 : decode cX7_rateStayed 8 = .ok (.ladd, 1) := by decide +kernel
theorem dX7_rateStayed_9 : decode cX7_rateStayed 9 = .ok (.putfield 73, 3) := by decide +kernel
theorem dX7_rateStayed_12 : decode cX7_rateStayed 12 = .ok (.aload_n 0, 1) := by decide +kernel
theorem dX7_rateStayed_13 : decode cX7_rateStayed 13 = .ok (.iload_n 1, 1) := by decide +kernel
theorem dX7_rateStayed_14 : decode cX7_rateStayed 14 = .ok (.invokevirtual 278, 3) := by decide +kernel
theorem dX7_rateStayed_17 : decode cX7_rateStayed 17 = .ok (.aload_n 0, 1) := by decide +kernel
theorem dX7_rateStayed_18 : decode cX7_rateStayed 18 = .ok (.getfield 62, 3) := by decide +kernel
theorem dX7_rateStayed_21 : decode cX7_rateStayed 21 = .ok (.getfield 129, 3) := by decide +kernel
theorem dX7_rateStayed_24 : decode cX7_rateStayed 24 = .ok (.iload_n 1, 1) := by decide +kernel
theorem dX7_rateStayed_25 : decode cX7_rateStayed 25 = .ok (.iaload, 1) := by decide +kernel
theorem dX7_rateStayed_26 : decode cX7_rateStayed 26 = .ok (.iadd, 1) := by decide +kernel
theorem dX7_rateStayed_27 : decode cX7_rateStayed 27 = .ok (.ireturn, 1) := by decide +kernel
theorem dX8_init_0 : decode cX8_init 0 = .ok (.aload_n 0, 1) := by decide +kernel
theorem dX8_init_1 : decode cX8_init 1 = .ok (.invokespecial 1, 3) := by decide +kernel
theorem dX8_init_4 : decode cX8_init 4 = .ok (.aload_n 0, 1) := by decide +kernel
theorem dX8_init_5 : decode cX8_init 5 = .ok (.sipush 2950, 3) := by decide +kernel
theorem dX8_init_8 : decode cX8_init 8 = .ok (.newarray .int, 2) := by decide +kernel
theorem dX8_init_10 : decode cX8_init 10 = .ok (.putfield 7, 3) := by decide +kernel
theorem dX8_init_13 : decode cX8_init 13 = .ok (.aload_n 0, 1) := by decide +kernel
theorem dX8_init_14 : decode cX8_init 14 = .ok (.sipush 2950, 3) := by decide +kernel
theorem dX8_init_17 : decode cX8_init 17 = .ok (.newarray .int, 2) := by decide +kernel
theorem dX8_init_19 : decode cX8_init 19 = .ok (.putfield 13, 3) := by decide +kernel
theorem dX8_init_22 : decode cX8_init 22 = .ok (.aload_n 0, 1) := by decide +kernel
theorem dX8_init_23 : decode cX8_init 23 = .ok (.sipush 5900, 3) := by decide +kernel
theorem dX8_init_26 : decode cX8_init 26 = .ok (.newarray .int, 2) := by decide +kernel
theorem dX8_init_28 : decode cX8_init 28 = .ok (.putfield 16, 3) := by decide +kernel
theorem dX8_init_31 : decode cX8_init 31 = .ok (.aload_n 0, 1) := by decide +kernel
theorem dX8_init_32 : decode cX8_init 32 = .ok (.iconst 2, 1) := by decide +kernel
theorem dX8_init_33 : decode cX8_init 33 = .ok (.newarray .boolean, 2) := by decide +kernel
theorem dX8_init_35 : decode cX8_init 35 = .ok (.putfield 19, 3) := by decide +kernel
theorem dX8_init_38 : decode cX8_init 38 = .ok (.aload_n 0, 1) := by decide +kernel
theorem dX8_init_39 : decode cX8_init 39 = .ok (.sipush 300, 3) := by decide +kernel
theorem dX8_init_42 : decode cX8_init 42 = .ok (.newarray .int, 2) := by decide +kernel
theorem dX8_init_44 : decode cX8_init 44 = .ok (.putfield 23, 3) := by decide +kernel
theorem dX8_init_47 : decode cX8_init 47 = .ok (.aload_n 0, 1) := by decide +kernel
theorem dX8_init_48 : decode cX8_init 48 = .ok (.bipush 10, 2) := by decide +kernel
theorem dX8_init_50 : decode cX8_init 50 = .ok (.newarray .int, 2) := by decide +kernel
theorem dX8_init_52 : decode cX8_init 52 = .ok (.putfield 26, 3) := by decide +kernel
theorem dX8_init_55 : decode cX8_init 55 = .ok (.aload_n 0, 1) := by decide +kernel
theorem dX8_init_56 : decode cX8_init 56 = .ok (.bipush 18, 2) := by decide +kernel
theorem dX8_init_58 : decode cX8_init 58 = .ok (.newarray .int, 2) := by decide +kernel
theorem dX8_init_60 : decode cX8_init 60 = .ok (.putfield 29, 3) := by decide +kernel
theorem dX8_init_63 : decode cX8_init 63 = .ok (.aload_n 0, 1) := by decide +kernel
theorem dX8_init_64 : decode cX8_init 64 = .ok (.bipush 40, 2) := by decide +kernel
theorem dX8_init_66 : decode cX8_init 66 = .ok (.newarray .int, 2) := by decide +kernel
theorem dX8_init_68 : decode cX8_init 68 = .ok (.putfield 32, 3) := by decide +kernel
theorem dX8_init_71 : decode cX8_init 71 = .ok (.aload_n 0, 1) := by decide +kernel
theorem dX8_init_72 : decode cX8_init 72 = .ok (.iconst 4, 1) := by decide +kernel
theorem dX8_init_73 : decode cX8_init 73 = .ok (.newarray .int, 2) := by decide +kernel
theorem dX8_init_75 : decode cX8_init 75 = .ok (.putfield 35, 3) := by decide +kernel
theorem dX8_init_78 : decode cX8_init 78 = .ok (.aload_n 0, 1) := by decide +kernel
theorem dX8_init_79 : decode cX8_init 79 = .ok (.bipush 120, 2) := by decide +kernel
theorem dX8_init_81 : decode cX8_init 81 = .ok (.newarray .int, 2) := by decide +kernel
theorem dX8_init_83 : decode cX8_init 83 = .ok (.putfield 38, 3) := by decide +kernel
theorem dX8_init_86 : decode cX8_init 86 = .ok (.aload_n 0, 1) := by decide +kernel
theorem dX8_init_87 : decode cX8_init 87 = .ok (.iconst 3, 1) := by decide +kernel
theorem dX8_init_88 : decode cX8_init 88 = .ok (.newarray .int, 2) := by decide +kernel
theorem dX8_init_90 : decode cX8_init 90 = .ok (.putfield 41, 3) := by decide +kernel
theorem dX8_init_93 : decode cX8_init 93 = .ok (.aload_n 0, 1) := by decide +kernel
theorem dX8_init_94 : decode cX8_init 94 = .ok (.iconst 3, 1) := by decide +kernel
theorem dX8_init_95 : decode cX8_init 95 = .ok (.newarray .int, 2) := by decide +kernel
theorem dX8_init_97 : decode cX8_init 97 = .ok (.putfield 44, 3) := by decide +kernel
theorem dX8_init_100 : decode cX8_init 100 = .ok (.aload_n 0, 1) := by decide +kernel
theorem dX8_init_101 : decode cX8_init 101 = .ok (.iconst 3, 1) := by decide +kernel
theorem dX8_init_102 : decode cX8_init 102 = .ok (.newarray .int, 2) := by decide +kernel
theorem dX8_init_104 : decode cX8_init 104 = .ok (.putfield 47, 3) := by decide +kernel
theorem dX8_init_107 : decode cX8_init 107 = .ok (.aload_n 0, 1) := by decide +kernel
theorem dX8_init_108 : decode cX8_init 108 = .ok (.getfield 26, 3) := by decide +kernel
theorem dX8_init_111 : decode cX8_init 111 = .ok (.iconst 4, 1) := by decide +kernel
theorem dX8_init_112 : decode cX8_init 112 = .ok (.iconst 2, 1) := by decide +kernel
theorem dX8_init_113 : decode cX8_init 113 = .ok (.iastore, 1) := by decide +kernel
theorem dX8_init_114 : decode cX8_init 114 = .ok (.aload_n 0, 1) := by decide +kernel
theorem dX8_init_115 : decode cX8_init 115 = .ok (.getfield 7, 3) := by decide +kernel
theorem dX8_init_118 : decode cX8_init 118 = .ok (.iconst 1, 1) := by decide +kernel
theorem dX8_init_119 : decode cX8_init 119 = .ok (.iconst 1, 1) := by decide +kernel
theorem dX8_init_120 : decode cX8_init 120 = .ok (.iastore, 1) := by decide +kernel
theorem dX8_init_121 : decode cX8_init 121 = .ok (.aload_n 0, 1) := by decide +kernel
theorem dX8_init_122 : decode cX8_init 122 = .ok (.invokevirtual 50, 3) := by decide +kernel
theorem dX8_init_125 : decode cX8_init 125 = .ok (.aload_n 0, 1) := by decide +kernel
theorem dX8_init_126 : decode cX8_init 126 = .ok (.invokevirtual 53, 3) := by decide +kernel
theorem dX8_init_129 : decode cX8_init 129 = .ok (.return_, 1) := by decide +kernel
theorem dX8_in_0 : decode cX8_in 0 = .ok (.iload_n 0, 1) := by decide +kernel
theorem dX8_in_1 : decode cX8_in 1 = .ok (.iload_n 1, 1) := by decide +kernel
theorem dX8_in_2 : decode cX8_in 2 = .ok (.if_icmp .lt 12, 3) := by decide +kernel
theorem dX8_in_5 : decode cX8_in 5 = .ok (.iload_n 0, 1) := by decide +kernel
theorem dX8_in_6 : decode cX8_in 6 = .ok (.iload_n 2, 1) := by decide +kernel
theorem dX8_in_7 : decode cX8_in 7 = .ok (.if_icmp .gt 7, 3) := by decide +kernel
theorem dX8_in_10 : decode cX8_in 10 = .ok (.iconst 1, 1) := by decide +kernel
theorem dX8_in_11 : decode cX8_in 11 = .ok (.goto 4, 3) := by decide +kernel
theorem dX8_in_14 : decode cX8_in 14 = .ok (.iconst 0, 1) := by decide +kernel
theorem dX8_in_15 : decode cX8_in 15 = .ok (.ireturn, 1) := by decide +kernel
theorem dX8_type_0 : decode cX8_type 0 = .ok (.aload_n 0, 1) := by decide +kernel
theorem dX8_type_1 : decode cX8_type 1 = .ok (.iconst 0, 1) := by decide +kernel
theorem dX8_type_2 : decode cX8_type 2 = .ok (.putfield 56, 3) := by decide +kernel
theorem dX8_type_5 : decode cX8_type 5 = .ok (.iload_n 3, 1) := by decide +kernel
theorem dX8_type_6 : decode cX8_type 6 = .ok (.iconst 1, 1) := by decide +kernel
theorem dX8_type_7 : decode cX8_type 7 = .ok (.bipush 8, 2) := by decide +kernel
theorem dX8_type_9 : decode cX8_type 9 = .ok (.invokestatic 60, 3) := by decide +kernel
theorem dX8_type_12 : decode cX8_type 12 = .ok (.ifCond .ne 5, 3) := by decide +kernel
theorem dX8_type_15 : decode cX8_type 15 = .ok (.iconst (-1), 1) := by decide +kernel
theorem dX8_type_16 : decode cX8_type 16 = .ok (.ireturn, 1) := by decide +kernel
theorem dX8_type_17 : decode cX8_type 17 = .ok (.aload_n 0, 1) := by decide +kernel
theorem dX8_type_18 : decode cX8_type 18 = .ok (.getfield 64, 3) := by decide +kernel
theorem dX8_type_21 : decode cX8_type 21 = .ok (.iload_n 3, 1) := by decide +kernel
theorem dX8_type_22 : decode cX8_type 22 = .ok (.iadd, 1) := by decide +kernel
theorem dX8_type_23 : decode cX8_type 23 = .ok (.sipush 300, 3) := by decide +kernel
theorem dX8_type_26 : decode cX8_type 26 = .ok (.if_icmp .le 6, 3) := by decide +kernel
theorem dX8_type_29 : decode cX8_type 29 = .ok (.bipush (-3), 2) := by decide +kernel
theorem dX8_type_31 : decode cX8_type 31 = .ok (.ireturn, 1) := by decide +kernel
theorem dX8_type_32 : decode cX8_type 32 = .ok (.iload_n 3, 1) := by decide +kernel
theorem dX8_type_33 : decode cX8_type 33 = .ok (.iconst 1, 1) := by decide +kernel
theorem dX8_type_34 : decode cX8_type 34 = .ok (.isub, 1) := by decide +kernel
theorem dX8_type_35 : decode cX8_type 35 = .ok (.istore 4, 2) := by decide +kernel
theorem dX8_type_37 : decode cX8_type 37 = .ok (.iload 4, 2) := by decide +kernel
theorem dX8_type_39 : decode cX8_type 39 = .ok (.ifCond .lt 40, 3) := by decide +kernel
theorem dX8_type_42 : decode cX8_type 42 = .ok (.aload_n 0, 1) := by decide +kernel
theorem dX8_type_43 : decode cX8_type 43 = .ok (.getfield 23, 3) := by decide +kernel
theorem dX8_type_46 : decode cX8_type 46 = .ok (.aload_n 0, 1) := by decide +kernel
theorem dX8_type_47 : decode cX8_type 47 = .ok (.getfield 64, 3) := by decide +kernel
theorem dX8_type_50 : decode cX8_type 50 = .ok (.lload_n 1, 1) := by decide +kernel
theorem dX8_type_51 : decode cX8_type 51 = .ok (.bipush 8, 2) := by decide +kernel
theorem dX8_type_53 : decode cX8_type 53 = .ok (.iload 4, 2) := by decide +kernel
theorem dX8_type_55 : decode cX8_type 55 = .ok (.imul, 1) := by decide +kernel
theorem dX8_type_56 : decode cX8_type 56 = .ok (.lshr, 1) := by decide +kernel
theorem dX8_type_57 : decode cX8_type 57 = .ok (.ldc2_w 67, 3) := by decide +kernel
theorem dX8_type_60 : decode cX8_type 60 = .ok (.land, 1) := by decide +kernel
theorem dX8_type_61 : decode cX8_type 61 = .ok (.l2i, 1) := by decide +kernel
theorem dX8_type_62 : decode cX8_type 62 = .ok (.iastore, 1) := by decide +kernel
theorem dX8_type_63 : decode cX8_type 63 = .ok (.aload_n 0, 1) := by decide +kernel
theorem dX8_type_64 : decode cX8_type 64 = .ok (.dup, 1) := by decide +kernel
theorem dX8_type_65 : decode cX8_type 65 = .ok (.getfield 64, 3) := by decide +kernel
theorem dX8_type_68 : decode cX8_type 68 = .ok (.iconst 1, 1) := by decide +kernel
theorem dX8_type_69 : decode cX8_type 69 = .ok (.iadd, 1) := by decide +kernel
theorem dX8_type_70 : decode cX8_type 70 = .ok (.putfield 64, 3) := by decide +kernel
theorem dX8_type_73 : decode cX8_type 73 = .ok (.iinc 4 (-1), 3) := by decide +kernel
theorem dX8_type_76 : decode cX8_type 76 = .ok (.goto (-39), 3) := by decide +kernel
theorem dX8_type_79 : decode cX8_type 79 = .ok (.aload_n 0, 1) := by decide +kernel
theorem dX8_type_80 : decode cX8_type 80 = .ok (.getfield 64, 3) := by decide +kernel
theorem dX8_type_83 : decode cX8_type 83 = .ok (.ireturn, 1) := by decide +kernel
theorem dX8_clear_0 : decode cX8_clear 0 = .ok (.aload_n 0, 1) := by decide +kernel
theorem dX8_clear_1 : decode cX8_clear 1 = .ok (.iconst 0, 1) := by decide +kernel
theorem dX8_clear_2 : decode cX8_clear 2 = .ok (.putfield 56, 3) := by decide +kernel
theorem dX8_clear_5 : decode cX8_clear 5 = .ok (.aload_n 0, 1) := by decide +kernel
theorem dX8_clear_6 : decode cX8_clear 6 = .ok (.getfield 64, 3) := by decide +kernel
theorem dX8_clear_9 : decode cX8_clear 9 = .ok (.istore_n 1, 1) := by decide +kernel
theorem dX8_clear_10 : decode cX8_clear 10 = .ok (.aload_n 0, 1) := by decide +kernel
theorem dX8_clear_11 : decode cX8_clear 11 = .ok (.iconst 0, 1) := by decide +kernel
theorem dX8_clear_12 : decode cX8_clear 12 = .ok (.putfield 64, 3) := by decide +kernel
theorem dX8_clear_15 : decode cX8_clear 15 = .ok (.iload_n 1, 1) := by decide +kernel
theorem dX8_clear_16 : decode cX8_clear 16 = .ok (.ireturn, 1) := by decide +kernel
theorem dX8_byteAt_0 : decode cX8_byteAt 0 = .ok (.iload_n 1, 1) := by decide +kernel
theorem dX8_byteAt_1 : decode cX8_byteAt 1 = .ok (.aload_n 0, 1) := by decide +kernel
theorem dX8_byteAt_2 : decode cX8_byteAt 2 = .ok (.getfield 64, 3) := by decide +kernel
theorem dX8_byteAt_5 : decode cX8_byteAt 5 = .ok (.if_icmp .ge 12, 3) := by decide +kernel
theorem dX8_byteAt_8 : decode cX8_byteAt 8 = .ok (.aload_n 0, 1) := by decide +kernel
theorem dX8_byteAt_9 : decode cX8_byteAt 9 = .ok (.getfield 23, 3) := by decide +kernel
theorem dX8_byteAt_12 : decode cX8_byteAt 12 = .ok (.iload_n 1, 1) := by decide +kernel
theorem dX8_byteAt_13 : decode cX8_byteAt 13 = .ok (.iaload, 1) := by decide +kernel
theorem dX8_byteAt_14 : decode cX8_byteAt 14 = .ok (.goto 4, 3) := by decide +kernel
theorem dX8_byteAt_17 : decode cX8_byteAt 17 = .ok (.iconst (-1), 1) := by decide +kernel
theorem dX8_byteAt_18 : decode cX8_byteAt 18 = .ok (.ireturn, 1) := by decide +kernel
theorem dX8_add_0 : decode cX8_add 0 = .ok (.iload_n 2, 1) := by decide +kernel
theorem dX8_add_1 : decode cX8_add 1 = .ok (.ifCond .ne 7, 3) := by decide +kernel
theorem dX8_add_4 : decode cX8_add 4 = .ok (.lload_n 0, 1) := by decide +kernel
theorem dX8_add_5 : decode cX8_add 5 = .ok (.goto 11, 3) := by decide +kernel
theorem dX8_add_8 : decode cX8_add 8 = .ok (.ldc2_w 69, 3) := by decide +kernel
theorem dX8_add_11 : decode cX8_add 11 = .ok (.lload_n 0, 1) := by decide +kernel
theorem dX8_add_12 : decode cX8_add 12 = .ok (.lmul, 1) := by decide +kernel
theorem dX8_add_13 : decode cX8_add 13 = .ok (.iload_n 2, 1) := by decide +kernel
theorem dX8_add_14 : decode cX8_add 14 = .ok (.i2l, 1) := by decide +kernel
theorem dX8_add_15 : decode cX8_add 15 = .ok (.ladd, 1) := by decide +kernel
theorem dX8_add_16 : decode cX8_add 16 = .ok (.lreturn, 1) := by decide +kernel
theorem dX8_named_0 : decode cX8_named 0 = .ok (.lconst 0, 1) := by decide +kernel
theorem dX8_named_1 : decode cX8_named 1 = .ok (.iload_n 0, 1) := by decide +kernel
theorem dX8_named_2 : decode cX8_named 2 = .ok (.invokestatic 71, 3) := by decide +kernel
theorem dX8_named_5 : decode cX8_named 5 = .ok (.iload_n 1, 1) := by decide +kernel
theorem dX8_named_6 : decode cX8_named 6 = .ok (.invokestatic 71, 3) := by decide +kernel
theorem dX8_named_9 : decode cX8_named 9 = .ok (.iload_n 2, 1) := by decide +kernel
theorem dX8_named_10 : decode cX8_named 10 = .ok (.invokestatic 71, 3) := by decide +kernel
theorem dX8_named_13 : decode cX8_named 13 = .ok (.iload_n 3, 1) := by decide +kernel
theorem dX8_named_14 : decode cX8_named 14 = .ok (.invokestatic 71, 3) := by decide +kernel
theorem dX8_named_17 : decode cX8_named 17 = .ok (.iload 4, 2) := by decide +kernel
theorem dX8_named_19 : decode cX8_named 19 = .ok (.invokestatic 71, 3) := by decide +kernel
theorem dX8_named_22 : decode cX8_named 22 = .ok (.lreturn, 1) := by decide +kernel
theorem dX8_wordOf_0 : decode cX8_wordOf 0 = .ok (.lload_n 0, 1) := by decide +kernel
theorem dX8_wordOf_1 : decode cX8_wordOf 1 = .ok (.bipush 112, 2) := by decide +kernel
theorem dX8_wordOf_3 : decode cX8_wordOf 3 = .ok (.bipush 108, 2) := by decide +kernel
theorem dX8_wordOf_5 : decode cX8_wordOf 5 = .ok (.bipush 97, 2) := by decide +kernel
theorem dX8_wordOf_7 : decode cX8_wordOf 7 = .ok (.bipush 99, 2) := by decide +kernel
theorem dX8_wordOf_9 : decode cX8_wordOf 9 = .ok (.bipush 101, 2) := by decide +kernel
theorem dX8_wordOf_11 : decode cX8_wordOf 11 = .ok (.invokestatic 75, 3) := by decide +kernel
theorem dX8_wordOf_14 : decode cX8_wordOf 14 = .ok (.lcmp, 1) := by decide +kernel
theorem dX8_wordOf_15 : decode cX8_wordOf 15 = .ok (.ifCond .ne 7, 3) := by decide +kernel
theorem dX8_wordOf_18 : decode cX8_wordOf 18 = .ok (.iconst 0, 1) := by decide +kernel
theorem dX8_wordOf_19 : decode cX8_wordOf 19 = .ok (.goto 46, 3) := by decide +kernel
theorem dX8_wordOf_22 : decode cX8_wordOf 22 = .ok (.lload_n 0, 1) := by decide +kernel
theorem dX8_wordOf_23 : decode cX8_wordOf 23 = .ok (.bipush 110, 2) := by decide +kernel
theorem dX8_wordOf_25 : decode cX8_wordOf 25 = .ok (.bipush 101, 2) := by decide +kernel
theorem dX8_wordOf_27 : decode cX8_wordOf 27 = .ok (.bipush 97, 2) := by decide +kernel
theorem dX8_wordOf_29 : decode cX8_wordOf 29 = .ok (.bipush 114, 2) := by decide +kernel
theorem dX8_wordOf_31 : decode cX8_wordOf 31 = .ok (.iconst 0, 1) := by decide +kernel
theorem dX8_wordOf_32 : decode cX8_wordOf 32 = .ok (.invokestatic 75, 3) := by decide +kernel
theorem dX8_wordOf_35 : decode cX8_wordOf 35 = .ok (.lcmp, 1) := by decide +kernel
theorem dX8_wordOf_36 : decode cX8_wordOf 36 = .ok (.ifCond .ne 7, 3) := by decide +kernel
theorem dX8_wordOf_39 : decode cX8_wordOf 39 = .ok (.iconst 1, 1) := by decide +kernel
theorem dX8_wordOf_40 : decode cX8_wordOf 40 = .ok (.goto 25, 3) := by decide +kernel
theorem dX8_wordOf_43 : decode cX8_wordOf 43 = .ok (.lload_n 0, 1) := by decide +kernel
theorem dX8_wordOf_44 : decode cX8_wordOf 44 = .ok (.bipush 108, 2) := by decide +kernel
theorem dX8_wordOf_46 : decode cX8_wordOf 46 = .ok (.bipush 97, 2) := by decide +kernel
theorem dX8_wordOf_48 : decode cX8_wordOf 48 = .ok (.bipush 119, 2) := by decide +kernel
theorem dX8_wordOf_50 : decode cX8_wordOf 50 = .ok (.iconst 0, 1) := by decide +kernel
theorem dX8_wordOf_51 : decode cX8_wordOf 51 = .ok (.iconst 0, 1) := by decide +kernel
theorem dX8_wordOf_52 : decode cX8_wordOf 52 = .ok (.invokestatic 75, 3) := by decide +kernel
theorem dX8_wordOf_55 : decode cX8_wordOf 55 = .ok (.lcmp, 1) := by decide +kernel
theorem dX8_wordOf_56 : decode cX8_wordOf 56 = .ok (.ifCond .ne 7, 3) := by decide +kernel
theorem dX8_wordOf_59 : decode cX8_wordOf 59 = .ok (.iconst 2, 1) := by decide +kernel
theorem dX8_wordOf_60 : decode cX8_wordOf 60 = .ok (.goto 5, 3) := by decide +kernel
theorem dX8_wordOf_63 : decode cX8_wordOf 63 = .ok (.bipush (-9), 2) := by decide +kernel
theorem dX8_wordOf_65 : decode cX8_wordOf 65 = .ok (.istore_n 2, 1) := by decide +kernel
theorem dX8_wordOf_66 : decode cX8_wordOf 66 = .ok (.iload_n 2, 1) := by decide +kernel
theorem dX8_wordOf_67 : decode cX8_wordOf 67 = .ok (.bipush (-9), 2) := by decide +kernel
theorem dX8_wordOf_69 : decode cX8_wordOf 69 = .ok (.if_icmp .eq 7, 3) := by decide +kernel
theorem dX8_wordOf_72 : decode cX8_wordOf 72 = .ok (.iload_n 2, 1) := by decide +kernel
theorem dX8_wordOf_73 : decode cX8_wordOf 73 = .ok (.goto 70, 3) := by decide +kernel
theorem dX8_wordOf_76 : decode cX8_wordOf 76 = .ok (.lload_n 0, 1) := by decide +kernel
theorem dX8_wordOf_77 : decode cX8_wordOf 77 = .ok (.bipush 115, 2) := by decide +kernel
theorem dX8_wordOf_79 : decode cX8_wordOf 79 = .ok (.bipush 116, 2) := by decide +kernel
theorem dX8_wordOf_81 : decode cX8_wordOf 81 = .ok (.bipush 97, 2) := by decide +kernel
theorem dX8_wordOf_83 : decode cX8_wordOf 83 = .ok (.bipush 114, 2) := by decide +kernel
theorem dX8_wordOf_85 : decode cX8_wordOf 85 = .ok (.bipush 116, 2) := by decide +kernel
theorem dX8_wordOf_87 : decode cX8_wordOf 87 = .ok (.invokestatic 75, 3) := by decide +kernel
theorem dX8_wordOf_90 : decode cX8_wordOf 90 = .ok (.lcmp, 1) := by decide +kernel
theorem dX8_wordOf_91 : decode cX8_wordOf 91 = .ok (.ifCond .ne 7, 3) := by decide +kernel
theorem dX8_wordOf_94 : decode cX8_wordOf 94 = .ok (.iconst 3, 1) := by decide +kernel
theorem dX8_wordOf_95 : decode cX8_wordOf 95 = .ok (.goto 48, 3) := by decide +kernel
theorem dX8_wordOf_98 : decode cX8_wordOf 98 = .ok (.lload_n 0, 1) := by decide +kernel
theorem dX8_wordOf_99 : decode cX8_wordOf 99 = .ok (.bipush 119, 2) := by decide +kernel
theorem dX8_wordOf_101 : decode cX8_wordOf 101 = .ok (.bipush 111, 2) := by decide +kernel
theorem dX8_wordOf_103 : decode cX8_wordOf 103 = .ok (.bipush 114, 2) := by decide +kernel
theorem dX8_wordOf_105 : decode cX8_wordOf 105 = .ok (.bipush 100, 2) := by decide +kernel
theorem dX8_wordOf_107 : decode cX8_wordOf 107 = .ok (.iconst 0, 1) := by decide +kernel
theorem dX8_wordOf_108 : decode cX8_wordOf 108 = .ok (.invokestatic 75, 3) := by decide +kernel
theorem dX8_wordOf_111 : decode cX8_wordOf 111 = .ok (.lcmp, 1) := by decide +kernel
theorem dX8_wordOf_112 : decode cX8_wordOf 112 = .ok (.ifCond .ne 7, 3) := by decide +kernel
theorem dX8_wordOf_115 : decode cX8_wordOf 115 = .ok (.iconst 4, 1) := by decide +kernel
theorem dX8_wordOf_116 : decode cX8_wordOf 116 = .ok (.goto 27, 3) := by decide +kernel
theorem dX8_wordOf_119 : decode cX8_wordOf 119 = .ok (.lload_n 0, 1) := by decide +kernel
theorem dX8_wordOf_120 : decode cX8_wordOf 120 = .ok (.bipush 112, 2) := by decide +kernel
theorem dX8_wordOf_122 : decode cX8_wordOf 122 = .ok (.bipush 108, 2) := by decide +kernel
theorem dX8_wordOf_124 : decode cX8_wordOf 124 = .ok (.bipush 97, 2) := by decide +kernel
theorem dX8_wordOf_126 : decode cX8_wordOf 126 = .ok (.bipush 105, 2) := by decide +kernel
theorem dX8_wordOf_128 : decode cX8_wordOf 128 = .ok (.bipush 110, 2) := by decide +kernel
theorem dX8_wordOf_130 : decode cX8_wordOf 130 = .ok (.invokestatic 75, 3) := by decide +kernel
theorem dX8_wordOf_133 : decode cX8_wordOf 133 = .ok (.lcmp, 1) := by decide +kernel
theorem dX8_wordOf_134 : decode cX8_wordOf 134 = .ok (.ifCond .ne 7, 3) := by decide +kernel
theorem dX8_wordOf_137 : decode cX8_wordOf 137 = .ok (.iconst 5, 1) := by decide +kernel
theorem dX8_wordOf_138 : decode cX8_wordOf 138 = .ok (.goto 5, 3) := by decide +kernel
theorem dX8_wordOf_141 : decode cX8_wordOf 141 = .ok (.bipush (-9), 2) := by decide +kernel
theorem dX8_wordOf_143 : decode cX8_wordOf 143 = .ok (.ireturn, 1) := by decide +kernel
theorem dX8_advances_0 : decode cX8_advances 0 = .ok (.aload_n 0, 1) := by decide +kernel
theorem dX8_advances_1 : decode cX8_advances 1 = .ok (.aload_n 0, 1) := by decide +kernel
theorem dX8_advances_2 : decode cX8_advances 2 = .ok (.getfield 79, 3) := by decide +kernel
theorem dX8_advances_5 : decode cX8_advances 5 = .ok (.invokevirtual 82, 3) := by decide +kernel
theorem dX8_advances_8 : decode cX8_advances 8 = .ok (.bipush 32, 2) := by decide +kernel
theorem dX8_advances_10 : decode cX8_advances 10 = .ok (.if_icmp .ne 16, 3) := by decide +kernel
theorem dX8_advances_13 : decode cX8_advances 13 = .ok (.aload_n 0, 1) := by decide +kernel
theorem dX8_advances_14 : decode cX8_advances 14 = .ok (.dup, 1) := by decide +kernel
theorem dX8_advances_15 : decode cX8_advances 15 = .ok (.getfield 79, 3) := by decide +kernel
theorem dX8_advances_18 : decode cX8_advances 18 = .ok (.iconst 1, 1) := by decide +kernel
theorem dX8_advances_19 : decode cX8_advances 19 = .ok (.iadd, 1) := by decide +kernel
theorem dX8_advances_20 : decode cX8_advances 20 = .ok (.putfield 79, 3) := by decide +kernel
theorem dX8_advances_23 : decode cX8_advances 23 = .ok (.goto (-23), 3) := by decide +kernel
theorem dX8_advances_26 : decode cX8_advances 26 = .ok (.aload_n 0, 1) := by decide +kernel
theorem dX8_advances_27 : decode cX8_advances 27 = .ok (.aload_n 0, 1) := by decide +kernel
theorem dX8_advances_28 : decode cX8_advances 28 = .ok (.getfield 79, 3) := by decide +kernel
theorem dX8_advances_31 : decode cX8_advances 31 = .ok (.putfield 86, 3) := by decide +kernel
theorem dX8_advances_34 : decode cX8_advances 34 = .ok (.aload_n 0, 1) := by decide +kernel
theorem dX8_advances_35 : decode cX8_advances 35 = .ok (.aload_n 0, 1) := by decide +kernel
theorem dX8_advances_36 : decode cX8_advances 36 = .ok (.getfield 79, 3) := by decide +kernel
theorem dX8_advances_39 : decode cX8_advances 39 = .ok (.invokevirtual 82, 3) := by decide +kernel
theorem dX8_advances_42 : decode cX8_advances 42 = .ok (.istore_n 1, 1) := by decide +kernel
theorem dX8_advances_43 : decode cX8_advances 43 = .ok (.iload_n 1, 1) := by decide +kernel
theorem dX8_advances_44 : decode cX8_advances 44 = .ok (.ifCond .ge 11, 3) := by decide +kernel
theorem dX8_advances_47 : decode cX8_advances 47 = .ok (.aload_n 0, 1) := by decide +kernel
theorem dX8_advances_48 : decode cX8_advances 48 = .ok (.iconst 0, 1) := by decide +kernel
theorem dX8_advances_49 : decode cX8_advances 49 = .ok (.putfield 89, 3) := by decide +kernel
theorem dX8_advances_52 : decode cX8_advances 52 = .ok (.goto 258, 3) := by decide +kernel
theorem dX8_advances_55 : decode cX8_advances 55 = .ok (.iload_n 1, 1) := by decide +kernel
theorem dX8_advances_56 : decode cX8_advances 56 = .ok (.bipush 97, 2) := by decide +kernel
theorem dX8_advances_58 : decode cX8_advances 58 = .ok (.bipush 122, 2) := by decide +kernel
theorem dX8_advances_60 : decode cX8_advances 60 = .ok (.invokestatic 60, 3) := by decide +kernel
theorem dX8_advances_63 : decode cX8_advances 63 = .ok (.ifCond .eq 96, 3) := by decide +kernel
theorem dX8_advances_66 : decode cX8_advances 66 = .ok (.lconst 0, 1) := by decide +kernel
theorem dX8_advances_67 : decode cX8_advances 67 = .ok (.lstore_n 2, 1) := by decide +kernel
theorem dX8_advances_68 : decode cX8_advances 68 = .ok (.aload_n 0, 1) := by decide +kernel
theorem dX8_advances_69 : decode cX8_advances 69 = .ok (.aload_n 0, 1) := by decide +kernel
theorem dX8_advances_70 : decode cX8_advances 70 = .ok (.getfield 79, 3) := by decide +kernel
theorem dX8_advances_73 : decode cX8_advances 73 = .ok (.invokevirtual 82, 3) := by decide +kernel
theorem dX8_advances_76 : decode cX8_advances 76 = .ok (.bipush 97, 2) := by decide +kernel
theorem dX8_advances_78 : decode cX8_advances 78 = .ok (.bipush 122, 2) := by decide +kernel
theorem dX8_advances_80 : decode cX8_advances 80 = .ok (.invokestatic 60, 3) := by decide +kernel
theorem dX8_advances_83 : decode cX8_advances 83 = .ok (.ifCond .eq 47, 3) := by decide +kernel
theorem dX8_advances_86 : decode cX8_advances 86 = .ok (.aload_n 0, 1) := by decide +kernel
theorem dX8_advances_87 : decode cX8_advances 87 = .ok (.getfield 79, 3) := by decide +kernel
theorem dX8_advances_90 : decode cX8_advances 90 = .ok (.aload_n 0, 1) := by decide +kernel
theorem dX8_advances_91 : decode cX8_advances 91 = .ok (.getfield 86, 3) := by decide +kernel
theorem dX8_advances_94 : decode cX8_advances 94 = .ok (.isub, 1) := by decide +kernel
theorem dX8_advances_95 : decode cX8_advances 95 = .ok (.bipush 6, 2) := by decide +kernel
theorem dX8_advances_97 : decode cX8_advances 97 = .ok (.if_icmp .ge 18, 3) := by decide +kernel
theorem dX8_advances_100 : decode cX8_advances 100 = .ok (.lload_n 2, 1) := by decide +kernel
theorem dX8_advances_101 : decode cX8_advances 101 = .ok (.aload_n 0, 1) := by decide +kernel
theorem dX8_advances_102 : decode cX8_advances 102 = .ok (.aload_n 0, 1) := by decide +kernel
theorem dX8_advances_103 : decode cX8_advances 103 = .ok (.getfield 79, 3) := by decide +kernel
theorem dX8_advances_106 : decode cX8_advances 106 = .ok (.invokevirtual 82, 3) := by decide +kernel
theorem dX8_advances_109 : decode cX8_advances 109 = .ok (.invokestatic 71, 3) := by decide +kernel
theorem dX8_advances_112 : decode cX8_advances 112 = .ok (.goto 4, 3) := by decide +kernel
theorem dX8_advances_115 : decode cX8_advances 115 = .ok (.lload_n 2, 1) := by decide +kernel
theorem dX8_advances_116 : decode cX8_advances 116 = .ok (.lstore_n 2, 1) := by decide +kernel
theorem dX8_advances_117 : decode cX8_advances 117 = .ok (.aload_n 0, 1) := by decide +kernel
theorem dX8_advances_118 : decode cX8_advances 118 = .ok (.dup, 1) := by decide +kernel
theorem dX8_advances_119 : decode cX8_advances 119 = .ok (.getfield 79, 3) := by decide +kernel
theorem dX8_advances_122 : decode cX8_advances 122 = .ok (.iconst 1, 1) := by decide +kernel
theorem dX8_advances_123 : decode cX8_advances 123 = .ok (.iadd, 1) := by decide +kernel
theorem dX8_advances_124 : decode cX8_advances 124 = .ok (.putfield 79, 3) := by decide +kernel
theorem dX8_advances_127 : decode cX8_advances 127 = .ok (.goto (-59), 3) := by decide +kernel
theorem dX8_advances_130 : decode cX8_advances 130 = .ok (.aload_n 0, 1) := by decide +kernel
theorem dX8_advances_131 : decode cX8_advances 131 = .ok (.lload_n 2, 1) := by decide +kernel
theorem dX8_advances_132 : decode cX8_advances 132 = .ok (.invokestatic 92, 3) := by decide +kernel
theorem dX8_advances_135 : decode cX8_advances 135 = .ok (.putfield 96, 3) := by decide +kernel
theorem dX8_advances_138 : decode cX8_advances 138 = .ok (.aload_n 0, 1) := by decide +kernel
theorem dX8_advances_139 : decode cX8_advances 139 = .ok (.aload_n 0, 1) := by decide +kernel
theorem dX8_advances_140 : decode cX8_advances 140 = .ok (.getfield 96, 3) := by decide +kernel
theorem dX8_advances_143 : decode cX8_advances 143 = .ok (.bipush (-9), 2) := by decide +kernel
theorem dX8_advances_145 : decode cX8_advances 145 = .ok (.if_icmp .ne 7, 3) := by decide +kernel
theorem dX8_advances_148 : decode cX8_advances 148 = .ok (.iconst 4, 1) := by decide +kernel
theorem dX8_advances_149 : decode cX8_advances 149 = .ok (.goto 4, 3) := by decide +kernel
theorem dX8_advances_152 : decode cX8_advances 152 = .ok (.iconst 1, 1) := by decide +kernel
theorem dX8_advances_153 : decode cX8_advances 153 = .ok (.putfield 89, 3) := by decide +kernel
theorem dX8_advances_156 : decode cX8_advances 156 = .ok (.goto 154, 3) := by decide +kernel
theorem dX8_advances_159 : decode cX8_advances 159 = .ok (.iload_n 1, 1) := by decide +kernel
theorem dX8_advances_160 : decode cX8_advances 160 = .ok (.bipush 48, 2) := by decide +kernel
theorem dX8_advances_162 : decode cX8_advances 162 = .ok (.bipush 57, 2) := by decide +kernel
theorem dX8_advances_164 : decode cX8_advances 164 = .ok (.invokestatic 60, 3) := by decide +kernel
theorem dX8_advances_167 : decode cX8_advances 167 = .ok (.ifCond .eq 118, 3) := by decide +kernel
theorem dX8_advances_170 : decode cX8_advances 170 = .ok (.aload_n 0, 1) := by decide +kernel
theorem dX8_advances_171 : decode cX8_advances 171 = .ok (.iconst 0, 1) := by decide +kernel
theorem dX8_advances_172 : decode cX8_advances 172 = .ok (.putfield 96, 3) := by decide +kernel
theorem dX8_advances_175 : decode cX8_advances 175 = .ok (.aload_n 0, 1) := by decide +kernel
theorem dX8_advances_176 : decode cX8_advances 176 = .ok (.aload_n 0, 1) := by decide +kernel
theorem dX8_advances_177 : decode cX8_advances 177 = .ok (.getfield 79, 3) := by decide +kernel
theorem dX8_advances_180 : decode cX8_advances 180 = .ok (.invokevirtual 82, 3) := by decide +kernel
theorem dX8_advances_183 : decode cX8_advances 183 = .ok (.bipush 48, 2) := by decide +kernel
theorem dX8_advances_185 : decode cX8_advances 185 = .ok (.bipush 57, 2) := by decide +kernel
theorem dX8_advances_187 : decode cX8_advances 187 = .ok (.invokestatic 60, 3) := by decide +kernel
theorem dX8_advances_190 : decode cX8_advances 190 = .ok (.ifCond .eq 55, 3) := by decide +kernel
theorem dX8_advances_193 : decode cX8_advances 193 = .ok (.aload_n 0, 1) := by decide +kernel
theorem dX8_advances_194 : decode cX8_advances 194 = .ok (.aload_n 0, 1) := by decide +kernel
theorem dX8_advances_195 : decode cX8_advances 195 = .ok (.getfield 96, 3) := by decide +kernel
theorem dX8_advances_198 : decode cX8_advances 198 = .ok (.bipush 99, 2) := by decide +kernel
theorem dX8_advances_200 : decode cX8_advances 200 = .ok (.if_icmp .le 10, 3) := by decide +kernel
theorem dX8_advances_203 : decode cX8_advances 203 = .ok (.aload_n 0, 1) := by decide +kernel
theorem dX8_advances_204 : decode cX8_advances 204 = .ok (.getfield 96, 3) := by decide +kernel
theorem dX8_advances_207 : decode cX8_advances 207 = .ok (.goto 22, 3) := by decide +kernel
theorem dX8_advances_210 : decode cX8_advances 210 = .ok (.bipush 10, 2) := by decide +kernel
theorem dX8_advances_212 : decode cX8_advances 212 = .ok (.aload_n 0, 1) := by decide +kernel
theorem dX8_advances_213 : decode cX8_advances 213 = .ok (.getfield 96, 3) := by decide +kernel
theorem dX8_advances_216 : decode cX8_advances 216 = .ok (.imul, 1) := by decide +kernel
theorem dX8_advances_217 : decode cX8_advances 217 = .ok (.aload_n 0, 1) := by decide +kernel
theorem dX8_advances_218 : decode cX8_advances 218 = .ok (.aload_n 0, 1) := by decide +kernel
theorem dX8_advances_219 : decode cX8_advances 219 = .ok (.getfield 79, 3) := by decide +kernel
theorem dX8_advances_222 : decode cX8_advances 222 = .ok (.invokevirtual 82, 3) := by decide +kernel
theorem dX8_advances_225 : decode cX8_advances 225 = .ok (.iadd, 1) := by decide +kernel
theorem dX8_advances_226 : decode cX8_advances 226 = .ok (.bipush 48, 2) := by decide +kernel
theorem dX8_advances_228 : decode cX8_advances 228 = .ok (.isub, 1) := by decide +kernel
theorem dX8_advances_229 : decode cX8_advances 229 = .ok (.putfield 96, 3) := by decide +kernel
theorem dX8_advances_232 : decode cX8_advances 232 = .ok (.aload_n 0, 1) := by decide +kernel
theorem dX8_advances_233 : decode cX8_advances 233 = .ok (.dup, 1) := by decide +kernel
theorem dX8_advances_234 : decode cX8_advances 234 = .ok (.getfield 79, 3) := by decide +kernel
theorem dX8_advances_237 : decode cX8_advances 237 = .ok (.iconst 1, 1) := by decide +kernel
theorem dX8_advances_238 : decode cX8_advances 238 = .ok (.iadd, 1) := by decide +kernel
theorem dX8_advances_239 : decode cX8_advances 239 = .ok (.putfield 79, 3) := by decide +kernel
theorem dX8_advances_242 : decode cX8_advances 242 = .ok (.goto (-67), 3) := by decide +kernel
theorem dX8_advances_245 : decode cX8_advances 245 = .ok (.aload_n 0, 1) := by decide +kernel
theorem dX8_advances_246 : decode cX8_advances 246 = .ok (.aload_n 0, 1) := by decide +kernel
theorem dX8_advances_247 : decode cX8_advances 247 = .ok (.getfield 96, 3) := by decide +kernel
theorem dX8_advances_250 : decode cX8_advances 250 = .ok (.bipush 99, 2) := by decide +kernel
theorem dX8_advances_252 : decode cX8_advances 252 = .ok (.if_icmp .gt 22, 3) := by decide +kernel
theorem dX8_advances_255 : decode cX8_advances 255 = .ok (.iload_n 1, 1) := by decide +kernel
theorem dX8_advances_256 : decode cX8_advances 256 = .ok (.bipush 48, 2) := by decide +kernel
theorem dX8_advances_258 : decode cX8_advances 258 = .ok (.if_icmp .ne 20, 3) := by decide +kernel
theorem dX8_advances_261 : decode cX8_advances 261 = .ok (.aload_n 0, 1) := by decide +kernel
theorem dX8_advances_262 : decode cX8_advances 262 = .ok (.getfield 79, 3) := by decide +kernel
theorem dX8_advances_265 : decode cX8_advances 265 = .ok (.aload_n 0, 1) := by decide +kernel
theorem dX8_advances_266 : decode cX8_advances 266 = .ok (.getfield 86, 3) := by decide +kernel
theorem dX8_advances_269 : decode cX8_advances 269 = .ok (.isub, 1) := by decide +kernel
theorem dX8_advances_270 : decode cX8_advances 270 = .ok (.iconst 1, 1) := by decide +kernel
theorem dX8_advances_271 : decode cX8_advances 271 = .ok (.if_icmp .le 7, 3) := by decide +kernel
theorem dX8_advances_274 : decode cX8_advances 274 = .ok (.iconst 4, 1) := by decide +kernel
theorem dX8_advances_275 : decode cX8_advances 275 = .ok (.goto 4, 3) := by decide +kernel
theorem dX8_advances_278 : decode cX8_advances 278 = .ok (.iconst 2, 1) := by decide +kernel
theorem dX8_advances_279 : decode cX8_advances 279 = .ok (.putfield 89, 3) := by decide +kernel
theorem dX8_advances_282 : decode cX8_advances 282 = .ok (.goto 28, 3) := by decide +kernel
theorem dX8_advances_285 : decode cX8_advances 285 = .ok (.aload_n 0, 1) := by decide +kernel
theorem dX8_advances_286 : decode cX8_advances 286 = .ok (.dup, 1) := by decide +kernel
theorem dX8_advances_287 : decode cX8_advances 287 = .ok (.getfield 79, 3) := by decide +kernel
theorem dX8_advances_290 : decode cX8_advances 290 = .ok (.iconst 1, 1) := by decide +kernel
theorem dX8_advances_291 : decode cX8_advances 291 = .ok (.iadd, 1) := by decide +kernel
theorem dX8_advances_292 : decode cX8_advances 292 = .ok (.putfield 79, 3) := by decide +kernel
theorem dX8_advances_295 : decode cX8_advances 295 = .ok (.aload_n 0, 1) := by decide +kernel
theorem dX8_advances_296 : decode cX8_advances 296 = .ok (.iload_n 1, 1) := by decide +kernel
theorem dX8_advances_297 : decode cX8_advances 297 = .ok (.bipush 59, 2) := by decide +kernel
theorem dX8_advances_299 : decode cX8_advances 299 = .ok (.if_icmp .ne 7, 3) := by decide +kernel
theorem dX8_advances_302 : decode cX8_advances 302 = .ok (.iconst 3, 1) := by decide +kernel
theorem dX8_advances_303 : decode cX8_advances 303 = .ok (.goto 4, 3) := by decide +kernel
theorem dX8_advances_306 : decode cX8_advances 306 = .ok (.iconst 4, 1) := by decide +kernel
theorem dX8_advances_307 : decode cX8_advances 307 = .ok (.putfield 89, 3) := by decide +kernel
theorem dX8_advances_310 : decode cX8_advances 310 = .ok (.return_, 1) := by decide +kernel
theorem dX8_isWell_0 : decode cX8_isWell 0 = .ok (.aload_n 0, 1) := by decide +kernel
theorem dX8_isWell_1 : decode cX8_isWell 1 = .ok (.getfield 99, 3) := by decide +kernel
theorem dX8_isWell_4 : decode cX8_isWell 4 = .ok (.ifCond .ge 7, 3) := by decide +kernel
theorem dX8_isWell_7 : decode cX8_isWell 7 = .ok (.iconst 1, 1) := by decide +kernel
theorem dX8_isWell_8 : decode cX8_isWell 8 = .ok (.goto 4, 3) := by decide +kernel
theorem dX8_isWell_11 : decode cX8_isWell 11 = .ok (.iconst 0, 1) := by decide +kernel
theorem dX8_isWell_12 : decode cX8_isWell 12 = .ok (.ireturn, 1) := by decide +kernel
theorem dX8_takes_0 : decode cX8_takes 0 = .ok (.aload_n 0, 1) := by decide +kernel
theorem dX8_takes_1 : decode cX8_takes 1 = .ok (.invokevirtual 102, 3) := by decide +kernel
theorem dX8_takes_4 : decode cX8_takes 4 = .ok (.ifCond .ne 5, 3) := by decide +kernel
theorem dX8_takes_7 : decode cX8_takes 7 = .ok (.iconst 0, 1) := by decide +kernel
theorem dX8_takes_8 : decode cX8_takes 8 = .ok (.ireturn, 1) := by decide +kernel
theorem dX8_takes_9 : decode cX8_takes 9 = .ok (.iload_n 1, 1) := by decide +kernel
theorem dX8_takes_10 : decode cX8_takes 10 = .ok (.ifCond .ne 13, 3) := by decide +kernel
theorem dX8_takes_13 : decode cX8_takes 13 = .ok (.aload_n 0, 1) := by decide +kernel
theorem dX8_takes_14 : decode cX8_takes 14 = .ok (.aload_n 0, 1) := by decide +kernel
theorem dX8_takes_15 : decode cX8_takes 15 = .ok (.getfield 86, 3) := by decide +kernel
theorem dX8_takes_18 : decode cX8_takes 18 = .ok (.putfield 99, 3) := by decide +kernel
theorem dX8_takes_21 : decode cX8_takes 21 = .ok (.iconst 0, 1) := by decide +kernel
theorem dX8_takes_22 : decode cX8_takes 22 = .ok (.ireturn, 1) := by decide +kernel
theorem dX8_takes_23 : decode cX8_takes 23 = .ok (.aload_n 0, 1) := by decide +kernel
theorem dX8_takes_24 : decode cX8_takes 24 = .ok (.getfield 96, 3) := by decide +kernel
theorem dX8_takes_27 : decode cX8_takes 27 = .ok (.istore_n 2, 1) := by decide +kernel
theorem dX8_takes_28 : decode cX8_takes 28 = .ok (.aload_n 0, 1) := by decide +kernel
theorem dX8_takes_29 : decode cX8_takes 29 = .ok (.invokevirtual 106, 3) := by decide +kernel
theorem dX8_takes_32 : decode cX8_takes 32 = .ok (.iload_n 2, 1) := by decide +kernel
theorem dX8_takes_33 : decode cX8_takes 33 = .ok (.ireturn, 1) := by decide +kernel
theorem dX8_number_0 : decode cX8_number 0 = .ok (.aload_n 0, 1) := by decide +kernel
theorem dX8_number_1 : decode cX8_number 1 = .ok (.aload_n 0, 1) := by decide +kernel
theorem dX8_number_2 : decode cX8_number 2 = .ok (.getfield 89, 3) := by decide +kernel
theorem dX8_number_5 : decode cX8_number 5 = .ok (.iconst 2, 1) := by decide +kernel
theorem dX8_number_6 : decode cX8_number 6 = .ok (.if_icmp .ne 19, 3) := by decide +kernel
theorem dX8_number_9 : decode cX8_number 9 = .ok (.aload_n 0, 1) := by decide +kernel
theorem dX8_number_10 : decode cX8_number 10 = .ok (.getfield 96, 3) := by decide +kernel
theorem dX8_number_13 : decode cX8_number 13 = .ok (.iload_n 1, 1) := by decide +kernel
theorem dX8_number_14 : decode cX8_number 14 = .ok (.iload_n 2, 1) := by decide +kernel
theorem dX8_number_15 : decode cX8_number 15 = .ok (.invokestatic 60, 3) := by decide +kernel
theorem dX8_number_18 : decode cX8_number 18 = .ok (.ifCond .eq 7, 3) := by decide +kernel
theorem dX8_number_21 : decode cX8_number 21 = .ok (.iconst 1, 1) := by decide +kernel
theorem dX8_number_22 : decode cX8_number 22 = .ok (.goto 4, 3) := by decide +kernel
theorem dX8_number_25 : decode cX8_number 25 = .ok (.iconst 0, 1) := by decide +kernel
theorem dX8_number_26 : decode cX8_number 26 = .ok (.invokevirtual 109, 3) := by decide +kernel
theorem dX8_number_29 : decode cX8_number 29 = .ok (.ireturn, 1) := by decide +kernel
theorem dX8_drafts_0 : decode cX8_drafts 0 = .ok (.aload_n 0, 1) := by decide +kernel
theorem dX8_drafts_1 : decode cX8_drafts 1 = .ok (.getfield 26, 3) := by decide +kernel
theorem dX8_drafts_4 : decode cX8_drafts 4 = .ok (.iconst 5, 1) := by decide +kernel
theorem dX8_drafts_5 : decode cX8_drafts 5 = .ok (.bipush 6, 2) := by decide +kernel
theorem dX8_drafts_7 : decode cX8_drafts 7 = .ok (.iastore, 1) := by decide +kernel
theorem dX8_drafts_8 : decode cX8_drafts 8 = .ok (.aload_n 0, 1) := by decide +kernel
theorem dX8_drafts_9 : decode cX8_drafts 9 = .ok (.getfield 26, 3) := by decide +kernel
theorem dX8_drafts_12 : decode cX8_drafts 12 = .ok (.bipush 6, 2) := by decide +kernel
theorem dX8_drafts_14 : decode cX8_drafts 14 = .ok (.iconst 3, 1) := by decide +kernel
theorem dX8_drafts_15 : decode cX8_drafts 15 = .ok (.iastore, 1) := by decide +kernel
theorem dX8_drafts_16 : decode cX8_drafts 16 = .ok (.aload_n 0, 1) := by decide +kernel
theorem dX8_drafts_17 : decode cX8_drafts 17 = .ok (.getfield 26, 3) := by decide +kernel
theorem dX8_drafts_20 : decode cX8_drafts 20 = .ok (.bipush 7, 2) := by decide +kernel
theorem dX8_drafts_22 : decode cX8_drafts 22 = .ok (.iconst 5, 1) := by decide +kernel
theorem dX8_drafts_23 : decode cX8_drafts 23 = .ok (.iastore, 1) := by decide +kernel
theorem dX8_drafts_24 : decode cX8_drafts 24 = .ok (.aload_n 0, 1) := by decide +kernel
theorem dX8_drafts_25 : decode cX8_drafts 25 = .ok (.getfield 26, 3) := by decide +kernel
theorem dX8_drafts_28 : decode cX8_drafts 28 = .ok (.bipush 8, 2) := by decide +kernel
theorem dX8_drafts_30 : decode cX8_drafts 30 = .ok (.bipush 20, 2) := by decide +kernel
theorem dX8_drafts_32 : decode cX8_drafts 32 = .ok (.iastore, 1) := by decide +kernel
theorem dX8_drafts_33 : decode cX8_drafts 33 = .ok (.iconst 0, 1) := by decide +kernel
theorem dX8_drafts_34 : decode cX8_drafts 34 = .ok (.istore_n 1, 1) := by decide +kernel
theorem dX8_drafts_35 : decode cX8_drafts 35 = .ok (.iload_n 1, 1) := by decide +kernel
theorem dX8_drafts_36 : decode cX8_drafts 36 = .ok (.bipush 9, 2) := by decide +kernel
theorem dX8_drafts_38 : decode cX8_drafts 38 = .ok (.if_icmp .ge 19, 3) := by decide +kernel
theorem dX8_drafts_41 : decode cX8_drafts 41 = .ok (.aload_n 0, 1) := by decide +kernel
theorem dX8_drafts_42 : decode cX8_drafts 42 = .ok (.getfield 29, 3) := by decide +kernel
theorem dX8_drafts_45 : decode cX8_drafts 45 = .ok (.bipush 9, 2) := by decide +kernel
theorem dX8_drafts_47 : decode cX8_drafts 47 = .ok (.iload_n 1, 1) := by decide +kernel
theorem dX8_drafts_48 : decode cX8_drafts 48 = .ok (.iadd, 1) := by decide +kernel
theorem dX8_drafts_49 : decode cX8_drafts 49 = .ok (.iconst 0, 1) := by decide +kernel
theorem dX8_drafts_50 : decode cX8_drafts 50 = .ok (.iastore, 1) := by decide +kernel
theorem dX8_drafts_51 : decode cX8_drafts 51 = .ok (.iinc 1 1, 3) := by decide +kernel
theorem dX8_drafts_54 : decode cX8_drafts 54 = .ok (.goto (-19), 3) := by decide +kernel
theorem dX8_drafts_57 : decode cX8_drafts 57 = .ok (.aload_n 0, 1) := by decide +kernel
theorem dX8_drafts_58 : decode cX8_drafts 58 = .ok (.iconst 0, 1) := by decide +kernel
theorem dX8_drafts_59 : decode cX8_drafts 59 = .ok (.putfield 113, 3) := by decide +kernel
theorem dX8_drafts_62 : decode cX8_drafts 62 = .ok (.aload_n 0, 1) := by decide +kernel
theorem dX8_drafts_63 : decode cX8_drafts 63 = .ok (.iconst 0, 1) := by decide +kernel
theorem dX8_drafts_64 : decode cX8_drafts 64 = .ok (.putfield 116, 3) := by decide +kernel
theorem dX8_drafts_67 : decode cX8_drafts 67 = .ok (.aload_n 0, 1) := by decide +kernel
theorem dX8_drafts_68 : decode cX8_drafts 68 = .ok (.iconst 0, 1) := by decide +kernel
theorem dX8_drafts_69 : decode cX8_drafts 69 = .ok (.putfield 119, 3) := by decide +kernel
theorem dX8_drafts_72 : decode cX8_drafts 72 = .ok (.aload_n 0, 1) := by decide +kernel
theorem dX8_drafts_73 : decode cX8_drafts 73 = .ok (.iconst 0, 1) := by decide +kernel
theorem dX8_drafts_74 : decode cX8_drafts 74 = .ok (.putfield 123, 3) := by decide +kernel
theorem dX8_drafts_77 : decode cX8_drafts 77 = .ok (.return_, 1) := by decide +kernel
theorem dX8_mayBegin_0 : decode cX8_mayBegin 0 = .ok (.iload_n 1, 1) := by decide +kernel
theorem dX8_mayBegin_1 : decode cX8_mayBegin 1 = .ok (.ifCond .ne 19, 3) := by decide +kernel
theorem dX8_mayBegin_4 : decode cX8_mayBegin 4 = .ok (.aload_n 0, 1) := by decide +kernel
theorem dX8_mayBegin_5 : decode cX8_mayBegin 5 = .ok (.getfield 113, 3) := by decide +kernel
theorem dX8_mayBegin_8 : decode cX8_mayBegin 8 = .ok (.iconst 3, 1) := by decide +kernel
theorem dX8_mayBegin_9 : decode cX8_mayBegin 9 = .ok (.if_icmp .ge 7, 3) := by decide +kernel
theorem dX8_mayBegin_12 : decode cX8_mayBegin 12 = .ok (.iconst 1, 1) := by decide +kernel
theorem dX8_mayBegin_13 : decode cX8_mayBegin 13 = .ok (.goto 78, 3) := by decide +kernel
theorem dX8_mayBegin_16 : decode cX8_mayBegin 16 = .ok (.iconst 0, 1) := by decide +kernel
theorem dX8_mayBegin_17 : decode cX8_mayBegin 17 = .ok (.goto 74, 3) := by decide +kernel
theorem dX8_mayBegin_20 : decode cX8_mayBegin 20 = .ok (.iload_n 1, 1) := by decide +kernel
theorem dX8_mayBegin_21 : decode cX8_mayBegin 21 = .ok (.iconst 2, 1) := by decide +kernel
theorem dX8_mayBegin_22 : decode cX8_mayBegin 22 = .ok (.if_icmp .ne 18, 3) := by decide +kernel
theorem dX8_mayBegin_25 : decode cX8_mayBegin 25 = .ok (.aload_n 0, 1) := by decide +kernel
theorem dX8_mayBegin_26 : decode cX8_mayBegin 26 = .ok (.getfield 119, 3) := by decide +kernel
theorem dX8_mayBegin_29 : decode cX8_mayBegin 29 = .ok (.ifCond .ne 7, 3) := by decide +kernel
theorem dX8_mayBegin_32 : decode cX8_mayBegin 32 = .ok (.iconst 1, 1) := by decide +kernel
theorem dX8_mayBegin_33 : decode cX8_mayBegin 33 = .ok (.goto 58, 3) := by decide +kernel
theorem dX8_mayBegin_36 : decode cX8_mayBegin 36 = .ok (.iconst 0, 1) := by decide +kernel
theorem dX8_mayBegin_37 : decode cX8_mayBegin 37 = .ok (.goto 54, 3) := by decide +kernel
theorem dX8_mayBegin_40 : decode cX8_mayBegin 40 = .ok (.iload_n 1, 1) := by decide +kernel
theorem dX8_mayBegin_41 : decode cX8_mayBegin 41 = .ok (.iconst 3, 1) := by decide +kernel
theorem dX8_mayBegin_42 : decode cX8_mayBegin 42 = .ok (.if_icmp .ne 18, 3) := by decide +kernel
theorem dX8_mayBegin_45 : decode cX8_mayBegin 45 = .ok (.aload_n 0, 1) := by decide +kernel
theorem dX8_mayBegin_46 : decode cX8_mayBegin 46 = .ok (.getfield 123, 3) := by decide +kernel
theorem dX8_mayBegin_49 : decode cX8_mayBegin 49 = .ok (.ifCond .ne 7, 3) := by decide +kernel
theorem dX8_mayBegin_52 : decode cX8_mayBegin 52 = .ok (.iconst 1, 1) := by decide +kernel
theorem dX8_mayBegin_53 : decode cX8_mayBegin 53 = .ok (.goto 38, 3) := by decide +kernel
theorem dX8_mayBegin_56 : decode cX8_mayBegin 56 = .ok (.iconst 0, 1) := by decide +kernel
theorem dX8_mayBegin_57 : decode cX8_mayBegin 57 = .ok (.goto 34, 3) := by decide +kernel
theorem dX8_mayBegin_60 : decode cX8_mayBegin 60 = .ok (.iload_n 1, 1) := by decide +kernel
theorem dX8_mayBegin_61 : decode cX8_mayBegin 61 = .ok (.iconst 4, 1) := by decide +kernel
theorem dX8_mayBegin_62 : decode cX8_mayBegin 62 = .ok (.if_icmp .ne 19, 3) := by decide +kernel
theorem dX8_mayBegin_65 : decode cX8_mayBegin 65 = .ok (.aload_n 0, 1) := by decide +kernel
theorem dX8_mayBegin_66 : decode cX8_mayBegin 66 = .ok (.getfield 116, 3) := by decide +kernel
theorem dX8_mayBegin_69 : decode cX8_mayBegin 69 = .ok (.iconst 5, 1) := by decide +kernel
theorem dX8_mayBegin_70 : decode cX8_mayBegin 70 = .ok (.if_icmp .ge 7, 3) := by decide +kernel
theorem dX8_mayBegin_73 : decode cX8_mayBegin 73 = .ok (.iconst 1, 1) := by decide +kernel
theorem dX8_mayBegin_74 : decode cX8_mayBegin 74 = .ok (.goto 17, 3) := by decide +kernel
theorem dX8_mayBegin_77 : decode cX8_mayBegin 77 = .ok (.iconst 0, 1) := by decide +kernel
theorem dX8_mayBegin_78 : decode cX8_mayBegin 78 = .ok (.goto 13, 3) := by decide +kernel
theorem dX8_mayBegin_81 : decode cX8_mayBegin 81 = .ok (.iload_n 1, 1) := by decide +kernel
theorem dX8_mayBegin_82 : decode cX8_mayBegin 82 = .ok (.iconst 1, 1) := by decide +kernel
theorem dX8_mayBegin_83 : decode cX8_mayBegin 83 = .ok (.if_icmp .ne 7, 3) := by decide +kernel
theorem dX8_mayBegin_86 : decode cX8_mayBegin 86 = .ok (.iconst 1, 1) := by decide +kernel
theorem dX8_mayBegin_87 : decode cX8_mayBegin 87 = .ok (.goto 4, 3) := by decide +kernel
theorem dX8_mayBegin_90 : decode cX8_mayBegin 90 = .ok (.iconst 0, 1) := by decide +kernel
theorem dX8_mayBegin_91 : decode cX8_mayBegin 91 = .ok (.ireturn, 1) := by decide +kernel
theorem dX8_readsItem_0 : decode cX8_readsItem 0 = .ok (.iload_n 1, 1) := by decide +kernel
theorem dX8_readsItem_1 : decode cX8_readsItem 1 = .ok (.ifCond .ne 16, 3) := by decide +kernel
theorem dX8_readsItem_4 : decode cX8_readsItem 4 = .ok (.aload_n 0, 1) := by decide +kernel
theorem dX8_readsItem_5 : decode cX8_readsItem 5 = .ok (.dup, 1) := by decide +kernel
theorem dX8_readsItem_6 : decode cX8_readsItem 6 = .ok (.getfield 113, 3) := by decide +kernel
theorem dX8_readsItem_9 : decode cX8_readsItem 9 = .ok (.iconst 1, 1) := by decide +kernel
theorem dX8_readsItem_10 : decode cX8_readsItem 10 = .ok (.iadd, 1) := by decide +kernel
theorem dX8_readsItem_11 : decode cX8_readsItem 11 = .ok (.putfield 113, 3) := by decide +kernel
theorem dX8_readsItem_14 : decode cX8_readsItem 14 = .ok (.goto 304, 3) := by decide +kernel
theorem dX8_readsItem_17 : decode cX8_readsItem 17 = .ok (.iload_n 1, 1) := by decide +kernel
theorem dX8_readsItem_18 : decode cX8_readsItem 18 = .ok (.iconst 1, 1) := by decide +kernel
theorem dX8_readsItem_19 : decode cX8_readsItem 19 = .ok (.if_icmp .ne 107, 3) := by decide +kernel
theorem dX8_readsItem_22 : decode cX8_readsItem 22 = .ok (.aload_n 0, 1) := by decide +kernel
theorem dX8_readsItem_23 : decode cX8_readsItem 23 = .ok (.iconst 0, 1) := by decide +kernel
theorem dX8_readsItem_24 : decode cX8_readsItem 24 = .ok (.aload_n 0, 1) := by decide +kernel
theorem dX8_readsItem_25 : decode cX8_readsItem 25 = .ok (.getfield 113, 3) := by decide +kernel
theorem dX8_readsItem_28 : decode cX8_readsItem 28 = .ok (.iconst 1, 1) := by decide +kernel
theorem dX8_readsItem_29 : decode cX8_readsItem 29 = .ok (.isub, 1) := by decide +kernel
theorem dX8_readsItem_30 : decode cX8_readsItem 30 = .ok (.invokevirtual 126, 3) := by decide +kernel
theorem dX8_readsItem_33 : decode cX8_readsItem 33 = .ok (.istore_n 2, 1) := by decide +kernel
theorem dX8_readsItem_34 : decode cX8_readsItem 34 = .ok (.aload_n 0, 1) := by decide +kernel
theorem dX8_readsItem_35 : decode cX8_readsItem 35 = .ok (.aload_n 0, 1) := by decide +kernel
theorem dX8_readsItem_36 : decode cX8_readsItem 36 = .ok (.getfield 89, 3) := by decide +kernel
theorem dX8_readsItem_39 : decode cX8_readsItem 39 = .ok (.iconst 2, 1) := by decide +kernel
theorem dX8_readsItem_40 : decode cX8_readsItem 40 = .ok (.if_icmp .ne 32, 3) := by decide +kernel
theorem dX8_readsItem_43 : decode cX8_readsItem 43 = .ok (.aload_n 0, 1) := by decide +kernel
theorem dX8_readsItem_44 : decode cX8_readsItem 44 = .ok (.getfield 96, 3) := by decide +kernel
theorem dX8_readsItem_47 : decode cX8_readsItem 47 = .ok (.iconst 0, 1) := by decide +kernel
theorem dX8_readsItem_48 : decode cX8_readsItem 48 = .ok (.aload_n 0, 1) := by decide +kernel
theorem dX8_readsItem_49 : decode cX8_readsItem 49 = .ok (.getfield 113, 3) := by decide +kernel
theorem dX8_readsItem_52 : decode cX8_readsItem 52 = .ok (.iconst 1, 1) := by decide +kernel
theorem dX8_readsItem_53 : decode cX8_readsItem 53 = .ok (.isub, 1) := by decide +kernel
theorem dX8_readsItem_54 : decode cX8_readsItem 54 = .ok (.invokestatic 60, 3) := by decide +kernel
theorem dX8_readsItem_57 : decode cX8_readsItem 57 = .ok (.ifCond .eq 15, 3) := by decide +kernel
theorem dX8_readsItem_60 : decode cX8_readsItem 60 = .ok (.aload_n 0, 1) := by decide +kernel
theorem dX8_readsItem_61 : decode cX8_readsItem 61 = .ok (.getfield 96, 3) := by decide +kernel
theorem dX8_readsItem_64 : decode cX8_readsItem 64 = .ok (.iload_n 2, 1) := by decide +kernel
theorem dX8_readsItem_65 : decode cX8_readsItem 65 = .ok (.if_icmp .eq 7, 3) := by decide +kernel
theorem dX8_readsItem_68 : decode cX8_readsItem 68 = .ok (.iconst 1, 1) := by decide +kernel
theorem dX8_readsItem_69 : decode cX8_readsItem 69 = .ok (.goto 4, 3) := by decide +kernel
theorem dX8_readsItem_72 : decode cX8_readsItem 72 = .ok (.iconst 0, 1) := by decide +kernel
theorem dX8_readsItem_73 : decode cX8_readsItem 73 = .ok (.invokevirtual 109, 3) := by decide +kernel
theorem dX8_readsItem_76 : decode cX8_readsItem 76 = .ok (.istore_n 3, 1) := by decide +kernel
theorem dX8_readsItem_77 : decode cX8_readsItem 77 = .ok (.aload_n 0, 1) := by decide +kernel
theorem dX8_readsItem_78 : decode cX8_readsItem 78 = .ok (.iconst 0, 1) := by decide +kernel
theorem dX8_readsItem_79 : decode cX8_readsItem 79 = .ok (.bipush 9, 2) := by decide +kernel
theorem dX8_readsItem_81 : decode cX8_readsItem 81 = .ok (.invokevirtual 126, 3) := by decide +kernel
theorem dX8_readsItem_84 : decode cX8_readsItem 84 = .ok (.istore 4, 2) := by decide +kernel
theorem dX8_readsItem_86 : decode cX8_readsItem 86 = .ok (.aload_n 0, 1) := by decide +kernel
theorem dX8_readsItem_87 : decode cX8_readsItem 87 = .ok (.invokevirtual 102, 3) := by decide +kernel
theorem dX8_readsItem_90 : decode cX8_readsItem 90 = .ok (.ifCond .eq 33, 3) := by decide +kernel
theorem dX8_readsItem_93 : decode cX8_readsItem 93 = .ok (.aload_n 0, 1) := by decide +kernel
theorem dX8_readsItem_94 : decode cX8_readsItem 94 = .ok (.getfield 29, 3) := by decide +kernel
theorem dX8_readsItem_97 : decode cX8_readsItem 97 = .ok (.bipush 9, 2) := by decide +kernel
theorem dX8_readsItem_99 : decode cX8_readsItem 99 = .ok (.iconst 3, 1) := by decide +kernel
theorem dX8_readsItem_100 : decode cX8_readsItem 100 = .ok (.iload_n 2, 1) := by decide +kernel
theorem dX8_readsItem_101 : decode cX8_readsItem 101 = .ok (.imul, 1) := by decide +kernel
theorem dX8_readsItem_102 : decode cX8_readsItem 102 = .ok (.iadd, 1) := by decide +kernel
theorem dX8_readsItem_103 : decode cX8_readsItem 103 = .ok (.iload_n 3, 1) := by decide +kernel
theorem dX8_readsItem_104 : decode cX8_readsItem 104 = .ok (.iadd, 1) := by decide +kernel
theorem dX8_readsItem_105 : decode cX8_readsItem 105 = .ok (.iload 4, 2) := by decide +kernel
theorem dX8_readsItem_107 : decode cX8_readsItem 107 = .ok (.iastore, 1) := by decide +kernel
theorem dX8_readsItem_108 : decode cX8_readsItem 108 = .ok (.aload_n 0, 1) := by decide +kernel
theorem dX8_readsItem_109 : decode cX8_readsItem 109 = .ok (.getfield 29, 3) := by decide +kernel
theorem dX8_readsItem_112 : decode cX8_readsItem 112 = .ok (.bipush 9, 2) := by decide +kernel
theorem dX8_readsItem_114 : decode cX8_readsItem 114 = .ok (.iconst 3, 1) := by decide +kernel
theorem dX8_readsItem_115 : decode cX8_readsItem 115 = .ok (.iload_n 3, 1) := by decide +kernel
theorem dX8_readsItem_116 : decode cX8_readsItem 116 = .ok (.imul, 1) := by decide +kernel
theorem dX8_readsItem_117 : decode cX8_readsItem 117 = .ok (.iadd, 1) := by decide +kernel
theorem dX8_readsItem_118 : decode cX8_readsItem 118 = .ok (.iload_n 2, 1) := by decide +kernel
theorem dX8_readsItem_119 : decode cX8_readsItem 119 = .ok (.iadd, 1) := by decide +kernel
theorem dX8_readsItem_120 : decode cX8_readsItem 120 = .ok (.iload 4, 2) := by decide +kernel
theorem dX8_readsItem_122 : decode cX8_readsItem 122 = .ok (.iastore, 1) := by decide +kernel
theorem dX8_readsItem_123 : decode cX8_readsItem 123 = .ok (.goto 195, 3) := by decide +kernel
theorem dX8_readsItem_126 : decode cX8_readsItem 126 = .ok (.iload_n 1, 1) := by decide +kernel
theorem dX8_readsItem_127 : decode cX8_readsItem 127 = .ok (.iconst 2, 1) := by decide +kernel
theorem dX8_readsItem_128 : decode cX8_readsItem 128 = .ok (.if_icmp .ne 52, 3) := by decide +kernel
theorem dX8_readsItem_131 : decode cX8_readsItem 131 = .ok (.aload_n 0, 1) := by decide +kernel
theorem dX8_readsItem_132 : decode cX8_readsItem 132 = .ok (.iconst 1, 1) := by decide +kernel
theorem dX8_readsItem_133 : decode cX8_readsItem 133 = .ok (.putfield 119, 3) := by decide +kernel
theorem dX8_readsItem_136 : decode cX8_readsItem 136 = .ok (.aload_n 0, 1) := by decide +kernel
theorem dX8_readsItem_137 : decode cX8_readsItem 137 = .ok (.getfield 26, 3) := by decide +kernel
theorem dX8_readsItem_140 : decode cX8_readsItem 140 = .ok (.iconst 5, 1) := by decide +kernel
theorem dX8_readsItem_141 : decode cX8_readsItem 141 = .ok (.aload_n 0, 1) := by decide +kernel
theorem dX8_readsItem_142 : decode cX8_readsItem 142 = .ok (.iconst 0, 1) := by decide +kernel
theorem dX8_readsItem_143 : decode cX8_readsItem 143 = .ok (.bipush 9, 2) := by decide +kernel
theorem dX8_readsItem_145 : decode cX8_readsItem 145 = .ok (.invokevirtual 126, 3) := by decide +kernel
theorem dX8_readsItem_148 : decode cX8_readsItem 148 = .ok (.iastore, 1) := by decide +kernel
theorem dX8_readsItem_149 : decode cX8_readsItem 149 = .ok (.aload_n 0, 1) := by decide +kernel
theorem dX8_readsItem_150 : decode cX8_readsItem 150 = .ok (.getfield 26, 3) := by decide +kernel
theorem dX8_readsItem_153 : decode cX8_readsItem 153 = .ok (.bipush 6, 2) := by decide +kernel
theorem dX8_readsItem_155 : decode cX8_readsItem 155 = .ok (.aload_n 0, 1) := by decide +kernel
theorem dX8_readsItem_156 : decode cX8_readsItem 156 = .ok (.iconst 0, 1) := by decide +kernel
theorem dX8_readsItem_157 : decode cX8_readsItem 157 = .ok (.bipush 9, 2) := by decide +kernel
theorem dX8_readsItem_159 : decode cX8_readsItem 159 = .ok (.invokevirtual 126, 3) := by decide +kernel
theorem dX8_readsItem_162 : decode cX8_readsItem 162 = .ok (.iastore, 1) := by decide +kernel
theorem dX8_readsItem_163 : decode cX8_readsItem 163 = .ok (.aload_n 0, 1) := by decide +kernel
theorem dX8_readsItem_164 : decode cX8_readsItem 164 = .ok (.getfield 26, 3) := by decide +kernel
theorem dX8_readsItem_167 : decode cX8_readsItem 167 = .ok (.bipush 7, 2) := by decide +kernel
theorem dX8_readsItem_169 : decode cX8_readsItem 169 = .ok (.aload_n 0, 1) := by decide +kernel
theorem dX8_readsItem_170 : decode cX8_readsItem 170 = .ok (.iconst 0, 1) := by decide +kernel
theorem dX8_readsItem_171 : decode cX8_readsItem 171 = .ok (.bipush 9, 2) := by decide +kernel
theorem dX8_readsItem_173 : decode cX8_readsItem 173 = .ok (.invokevirtual 126, 3) := by decide +kernel
theorem dX8_readsItem_176 : decode cX8_readsItem 176 = .ok (.iastore, 1) := by decide +kernel
theorem dX8_readsItem_177 : decode cX8_readsItem 177 = .ok (.goto 141, 3) := by decide +kernel
theorem dX8_readsItem_180 : decode cX8_readsItem 180 = .ok (.iload_n 1, 1) := by decide +kernel
theorem dX8_readsItem_181 : decode cX8_readsItem 181 = .ok (.iconst 3, 1) := by decide +kernel
theorem dX8_readsItem_182 : decode cX8_readsItem 182 = .ok (.if_icmp .ne 25, 3) := by decide +kernel
theorem dX8_readsItem_185 : decode cX8_readsItem 185 = .ok (.aload_n 0, 1) := by decide +kernel
theorem dX8_readsItem_186 : decode cX8_readsItem 186 = .ok (.iconst 1, 1) := by decide +kernel
theorem dX8_readsItem_187 : decode cX8_readsItem 187 = .ok (.putfield 123, 3) := by decide +kernel
theorem dX8_readsItem_190 : decode cX8_readsItem 190 = .ok (.aload_n 0, 1) := by decide +kernel
theorem dX8_readsItem_191 : decode cX8_readsItem 191 = .ok (.getfield 26, 3) := by decide +kernel
theorem dX8_readsItem_194 : decode cX8_readsItem 194 = .ok (.bipush 8, 2) := by decide +kernel
theorem dX8_readsItem_196 : decode cX8_readsItem 196 = .ok (.aload_n 0, 1) := by decide +kernel
theorem dX8_readsItem_197 : decode cX8_readsItem 197 = .ok (.iconst 1, 1) := by decide +kernel
theorem dX8_readsItem_198 : decode cX8_readsItem 198 = .ok (.bipush 99, 2) := by decide +kernel
theorem dX8_readsItem_200 : decode cX8_readsItem 200 = .ok (.invokevirtual 126, 3) := by decide +kernel
theorem dX8_readsItem_203 : decode cX8_readsItem 203 = .ok (.iastore, 1) := by decide +kernel
theorem dX8_readsItem_204 : decode cX8_readsItem 204 = .ok (.goto 114, 3) := by decide +kernel
theorem dX8_readsItem_207 : decode cX8_readsItem 207 = .ok (.bipush 20, 2) := by decide +kernel
theorem dX8_readsItem_209 : decode cX8_readsItem 209 = .ok (.iconst 4, 1) := by decide +kernel
theorem dX8_readsItem_210 : decode cX8_readsItem 210 = .ok (.aload_n 0, 1) := by decide +kernel
theorem dX8_readsItem_211 : decode cX8_readsItem 211 = .ok (.getfield 116, 3) := by decide +kernel
theorem dX8_readsItem_214 : decode cX8_readsItem 214 = .ok (.imul, 1) := by decide +kernel
theorem dX8_readsItem_215 : decode cX8_readsItem 215 = .ok (.iadd, 1) := by decide +kernel
theorem dX8_readsItem_216 : decode cX8_readsItem 216 = .ok (.istore_n 2, 1) := by decide +kernel
theorem dX8_readsItem_217 : decode cX8_readsItem 217 = .ok (.aload_n 0, 1) := by decide +kernel
theorem dX8_readsItem_218 : decode cX8_readsItem 218 = .ok (.getfield 32, 3) := by decide +kernel
theorem dX8_readsItem_221 : decode cX8_readsItem 221 = .ok (.iload_n 2, 1) := by decide +kernel
theorem dX8_readsItem_222 : decode cX8_readsItem 222 = .ok (.aload_n 0, 1) := by decide +kernel
theorem dX8_readsItem_223 : decode cX8_readsItem 223 = .ok (.iconst 0, 1) := by decide +kernel
theorem dX8_readsItem_224 : decode cX8_readsItem 224 = .ok (.iconst 3, 1) := by decide +kernel
theorem dX8_readsItem_225 : decode cX8_readsItem 225 = .ok (.invokevirtual 126, 3) := by decide +kernel
theorem dX8_readsItem_228 : decode cX8_readsItem 228 = .ok (.iastore, 1) := by decide +kernel
theorem dX8_readsItem_229 : decode cX8_readsItem 229 = .ok (.aload_n 0, 1) := by decide +kernel
theorem dX8_readsItem_230 : decode cX8_readsItem 230 = .ok (.getfield 32, 3) := by decide +kernel
theorem dX8_readsItem_233 : decode cX8_readsItem 233 = .ok (.iload_n 2, 1) := by decide +kernel
theorem dX8_readsItem_234 : decode cX8_readsItem 234 = .ok (.iconst 1, 1) := by decide +kernel
theorem dX8_readsItem_235 : decode cX8_readsItem 235 = .ok (.iadd, 1) := by decide +kernel
theorem dX8_readsItem_236 : decode cX8_readsItem 236 = .ok (.aload_n 0, 1) := by decide +kernel
theorem dX8_readsItem_237 : decode cX8_readsItem 237 = .ok (.iconst 0, 1) := by decide +kernel
theorem dX8_readsItem_238 : decode cX8_readsItem 238 = .ok (.bipush 90, 2) := by decide +kernel
theorem dX8_readsItem_240 : decode cX8_readsItem 240 = .ok (.invokevirtual 126, 3) := by decide +kernel
theorem dX8_readsItem_243 : decode cX8_readsItem 243 = .ok (.iastore, 1) := by decide +kernel
theorem dX8_readsItem_244 : decode cX8_readsItem 244 = .ok (.aload_n 0, 1) := by decide +kernel
theorem dX8_readsItem_245 : decode cX8_readsItem 245 = .ok (.getfield 32, 3) := by decide +kernel
theorem dX8_readsItem_248 : decode cX8_readsItem 248 = .ok (.iload_n 2, 1) := by decide +kernel
theorem dX8_readsItem_249 : decode cX8_readsItem 249 = .ok (.iconst 2, 1) := by decide +kernel
theorem dX8_readsItem_250 : decode cX8_readsItem 250 = .ok (.iadd, 1) := by decide +kernel
theorem dX8_readsItem_251 : decode cX8_readsItem 251 = .ok (.aload_n 0, 1) := by decide +kernel
theorem dX8_readsItem_252 : decode cX8_readsItem 252 = .ok (.iconst 0, 1) := by decide +kernel
theorem dX8_readsItem_253 : decode cX8_readsItem 253 = .ok (.aload_n 0, 1) := by decide +kernel
theorem dX8_readsItem_254 : decode cX8_readsItem 254 = .ok (.getfield 113, 3) := by decide +kernel
theorem dX8_readsItem_257 : decode cX8_readsItem 257 = .ok (.iconst 1, 1) := by decide +kernel
theorem dX8_readsItem_258 : decode cX8_readsItem 258 = .ok (.isub, 1) := by decide +kernel
theorem dX8_readsItem_259 : decode cX8_readsItem 259 = .ok (.invokevirtual 126, 3) := by decide +kernel
theorem dX8_readsItem_262 : decode cX8_readsItem 262 = .ok (.iastore, 1) := by decide +kernel
theorem dX8_readsItem_263 : decode cX8_readsItem 263 = .ok (.aload_n 0, 1) := by decide +kernel
theorem dX8_readsItem_264 : decode cX8_readsItem 264 = .ok (.getfield 32, 3) := by decide +kernel
theorem dX8_readsItem_267 : decode cX8_readsItem 267 = .ok (.iload_n 2, 1) := by decide +kernel
theorem dX8_readsItem_268 : decode cX8_readsItem 268 = .ok (.iconst 3, 1) := by decide +kernel
theorem dX8_readsItem_269 : decode cX8_readsItem 269 = .ok (.iadd, 1) := by decide +kernel
theorem dX8_readsItem_270 : decode cX8_readsItem 270 = .ok (.iconst 0, 1) := by decide +kernel
theorem dX8_readsItem_271 : decode cX8_readsItem 271 = .ok (.iastore, 1) := by decide +kernel
theorem dX8_readsItem_272 : decode cX8_readsItem 272 = .ok (.aload_n 0, 1) := by decide +kernel
theorem dX8_readsItem_273 : decode cX8_readsItem 273 = .ok (.invokevirtual 102, 3) := by decide +kernel
theorem dX8_readsItem_276 : decode cX8_readsItem 276 = .ok (.ifCond .eq 32, 3) := by decide +kernel
theorem dX8_readsItem_279 : decode cX8_readsItem 279 = .ok (.aload_n 0, 1) := by decide +kernel
theorem dX8_readsItem_280 : decode cX8_readsItem 280 = .ok (.getfield 89, 3) := by decide +kernel
theorem dX8_readsItem_283 : decode cX8_readsItem 283 = .ok (.iconst 1, 1) := by decide +kernel
theorem dX8_readsItem_284 : decode cX8_readsItem 284 = .ok (.if_icmp .ne 24, 3) := by decide +kernel
theorem dX8_readsItem_287 : decode cX8_readsItem 287 = .ok (.aload_n 0, 1) := by decide +kernel
theorem dX8_readsItem_288 : decode cX8_readsItem 288 = .ok (.getfield 96, 3) := by decide +kernel
theorem dX8_readsItem_291 : decode cX8_readsItem 291 = .ok (.iconst 5, 1) := by decide +kernel
theorem dX8_readsItem_292 : decode cX8_readsItem 292 = .ok (.if_icmp .ne 16, 3) := by decide +kernel
theorem dX8_readsItem_295 : decode cX8_readsItem 295 = .ok (.aload_n 0, 1) := by decide +kernel
theorem dX8_readsItem_296 : decode cX8_readsItem 296 = .ok (.getfield 32, 3) := by decide +kernel
theorem dX8_readsItem_299 : decode cX8_readsItem 299 = .ok (.iload_n 2, 1) := by decide +kernel
theorem dX8_readsItem_300 : decode cX8_readsItem 300 = .ok (.iconst 3, 1) := by decide +kernel
theorem dX8_readsItem_301 : decode cX8_readsItem 301 = .ok (.iadd, 1) := by decide +kernel
theorem dX8_readsItem_302 : decode cX8_readsItem 302 = .ok (.iconst 1, 1) := by decide +kernel
theorem dX8_readsItem_303 : decode cX8_readsItem 303 = .ok (.iastore, 1) := by decide +kernel
theorem dX8_readsItem_304 : decode cX8_readsItem 304 = .ok (.aload_n 0, 1) := by decide +kernel
theorem dX8_readsItem_305 : decode cX8_readsItem 305 = .ok (.invokevirtual 106, 3) := by decide +kernel
theorem dX8_readsItem_308 : decode cX8_readsItem 308 = .ok (.aload_n 0, 1) := by decide +kernel
theorem dX8_readsItem_309 : decode cX8_readsItem 309 = .ok (.dup, 1) := by decide +kernel
theorem dX8_readsItem_310 : decode cX8_readsItem 310 = .ok (.getfield 116, 3) := by decide +kernel
theorem dX8_readsItem_313 : decode cX8_readsItem 313 = .ok (.iconst 1, 1) := by decide +kernel
theorem dX8_readsItem_314 : decode cX8_readsItem 314 = .ok (.iadd, 1) := by decide +kernel
theorem dX8_readsItem_315 : decode cX8_readsItem 315 = .ok (.putfield 116, 3) := by decide +kernel
theorem dX8_readsItem_318 : decode cX8_readsItem 318 = .ok (.return_, 1) := by decide +kernel
theorem dX8_land_0 : decode cX8_land 0 = .ok (.aload_n 0, 1) := by decide +kernel
theorem dX8_land_1 : decode cX8_land 1 = .ok (.iconst 0, 1) := by decide +kernel
theorem dX8_land_2 : decode cX8_land 2 = .ok (.putfield 56, 3) := by decide +kernel
theorem dX8_land_5 : decode cX8_land 5 = .ok (.aload_n 0, 1) := by decide +kernel
theorem dX8_land_6 : decode cX8_land 6 = .ok (.iconst (-1), 1) := by decide +kernel
theorem dX8_land_7 : decode cX8_land 7 = .ok (.putfield 99, 3) := by decide +kernel
theorem dX8_land_10 : decode cX8_land 10 = .ok (.aload_n 0, 1) := by decide +kernel
theorem dX8_land_11 : decode cX8_land 11 = .ok (.iconst 0, 1) := by decide +kernel
theorem dX8_land_12 : decode cX8_land 12 = .ok (.putfield 79, 3) := by decide +kernel
theorem dX8_land_15 : decode cX8_land 15 = .ok (.iconst 0, 1) := by decide +kernel
theorem dX8_land_16 : decode cX8_land 16 = .ok (.istore_n 1, 1) := by decide +kernel
theorem dX8_land_17 : decode cX8_land 17 = .ok (.aload_n 0, 1) := by decide +kernel
theorem dX8_land_18 : decode cX8_land 18 = .ok (.invokevirtual 50, 3) := by decide +kernel
theorem dX8_land_21 : decode cX8_land 21 = .ok (.aload_n 0, 1) := by decide +kernel
theorem dX8_land_22 : decode cX8_land 22 = .ok (.invokevirtual 106, 3) := by decide +kernel
theorem dX8_land_25 : decode cX8_land 25 = .ok (.aload_n 0, 1) := by decide +kernel
theorem dX8_land_26 : decode cX8_land 26 = .ok (.invokevirtual 102, 3) := by decide +kernel
theorem dX8_land_29 : decode cX8_land 29 = .ok (.ifCond .eq 75, 3) := by decide +kernel
theorem dX8_land_32 : decode cX8_land 32 = .ok (.aload_n 0, 1) := by decide +kernel
theorem dX8_land_33 : decode cX8_land 33 = .ok (.getfield 89, 3) := by decide +kernel
theorem dX8_land_36 : decode cX8_land 36 = .ok (.ifCond .eq 68, 3) := by decide +kernel
theorem dX8_land_39 : decode cX8_land 39 = .ok (.aload_n 0, 1) := by decide +kernel
theorem dX8_land_40 : decode cX8_land 40 = .ok (.aload_n 0, 1) := by decide +kernel
theorem dX8_land_41 : decode cX8_land 41 = .ok (.getfield 89, 3) := by decide +kernel
theorem dX8_land_44 : decode cX8_land 44 = .ok (.iconst 1, 1) := by decide +kernel
theorem dX8_land_45 : decode cX8_land 45 = .ok (.if_icmp .ne 18, 3) := by decide +kernel
theorem dX8_land_48 : decode cX8_land 48 = .ok (.aload_n 0, 1) := by decide +kernel
theorem dX8_land_49 : decode cX8_land 49 = .ok (.aload_n 0, 1) := by decide +kernel
theorem dX8_land_50 : decode cX8_land 50 = .ok (.getfield 96, 3) := by decide +kernel
theorem dX8_land_53 : decode cX8_land 53 = .ok (.invokevirtual 130, 3) := by decide +kernel
theorem dX8_land_56 : decode cX8_land 56 = .ok (.ifCond .eq 7, 3) := by decide +kernel
theorem dX8_land_59 : decode cX8_land 59 = .ok (.iconst 1, 1) := by decide +kernel
theorem dX8_land_60 : decode cX8_land 60 = .ok (.goto 4, 3) := by decide +kernel
theorem dX8_land_63 : decode cX8_land 63 = .ok (.iconst 0, 1) := by decide +kernel
theorem dX8_land_64 : decode cX8_land 64 = .ok (.invokevirtual 109, 3) := by decide +kernel
theorem dX8_land_67 : decode cX8_land 67 = .ok (.istore_n 2, 1) := by decide +kernel
theorem dX8_land_68 : decode cX8_land 68 = .ok (.aload_n 0, 1) := by decide +kernel
theorem dX8_land_69 : decode cX8_land 69 = .ok (.invokevirtual 102, 3) := by decide +kernel
theorem dX8_land_72 : decode cX8_land 72 = .ok (.ifCond .eq 8, 3) := by decide +kernel
theorem dX8_land_75 : decode cX8_land 75 = .ok (.aload_n 0, 1) := by decide +kernel
theorem dX8_land_76 : decode cX8_land 76 = .ok (.iload_n 2, 1) := by decide +kernel
theorem dX8_land_77 : decode cX8_land 77 = .ok (.invokevirtual 134, 3) := by decide +kernel
theorem dX8_land_80 : decode cX8_land 80 = .ok (.aload_n 0, 1) := by decide +kernel
theorem dX8_land_81 : decode cX8_land 81 = .ok (.aload_n 0, 1) := by decide +kernel
theorem dX8_land_82 : decode cX8_land 82 = .ok (.getfield 89, 3) := by decide +kernel
theorem dX8_land_85 : decode cX8_land 85 = .ok (.iconst 3, 1) := by decide +kernel
theorem dX8_land_86 : decode cX8_land 86 = .ok (.if_icmp .ne 7, 3) := by decide +kernel
theorem dX8_land_89 : decode cX8_land 89 = .ok (.iconst 1, 1) := by decide +kernel
theorem dX8_land_90 : decode cX8_land 90 = .ok (.goto 4, 3) := by decide +kernel
theorem dX8_land_93 : decode cX8_land 93 = .ok (.iconst 0, 1) := by decide +kernel
theorem dX8_land_94 : decode cX8_land 94 = .ok (.invokevirtual 109, 3) := by decide +kernel
theorem dX8_land_97 : decode cX8_land 97 = .ok (.pop, 1) := by decide +kernel
theorem dX8_land_98 : decode cX8_land 98 = .ok (.iinc 1 1, 3) := by decide +kernel
theorem dX8_land_101 : decode cX8_land 101 = .ok (.goto (-76), 3) := by decide +kernel
theorem dX8_land_104 : decode cX8_land 104 = .ok (.aload_n 0, 1) := by decide +kernel
theorem dX8_land_105 : decode cX8_land 105 = .ok (.invokevirtual 102, 3) := by decide +kernel
theorem dX8_land_108 : decode cX8_land 108 = .ok (.ifCond .ne 11, 3) := by decide +kernel
theorem dX8_land_111 : decode cX8_land 111 = .ok (.bipush (-10), 2) := by decide +kernel
theorem dX8_land_113 : decode cX8_land 113 = .ok (.aload_n 0, 1) := by decide +kernel
theorem dX8_land_114 : decode cX8_land 114 = .ok (.getfield 99, 3) := by decide +kernel
theorem dX8_land_117 : decode cX8_land 117 = .ok (.isub, 1) := by decide +kernel
theorem dX8_land_118 : decode cX8_land 118 = .ok (.ireturn, 1) := by decide +kernel
theorem dX8_land_119 : decode cX8_land 119 = .ok (.aload_n 0, 1) := by decide +kernel
theorem dX8_land_120 : decode cX8_land 120 = .ok (.invokevirtual 53, 3) := by decide +kernel
theorem dX8_land_123 : decode cX8_land 123 = .ok (.aload_n 0, 1) := by decide +kernel
theorem dX8_land_124 : decode cX8_land 124 = .ok (.iconst 0, 1) := by decide +kernel
theorem dX8_land_125 : decode cX8_land 125 = .ok (.putfield 64, 3) := by decide +kernel
theorem dX8_land_128 : decode cX8_land 128 = .ok (.iload_n 1, 1) := by decide +kernel
theorem dX8_land_129 : decode cX8_land 129 = .ok (.ireturn, 1) := by decide +kernel
theorem dX8_adopts_0 : decode cX8_adopts 0 = .ok (.iconst 0, 1) := by decide +kernel
theorem dX8_adopts_1 : decode cX8_adopts 1 = .ok (.istore_n 1, 1) := by decide +kernel
theorem dX8_adopts_2 : decode cX8_adopts 2 = .ok (.iload_n 1, 1) := by decide +kernel
theorem dX8_adopts_3 : decode cX8_adopts 3 = .ok (.iconst 4, 1) := by decide +kernel
theorem dX8_adopts_4 : decode cX8_adopts 4 = .ok (.if_icmp .ge 23, 3) := by decide +kernel
theorem dX8_adopts_7 : decode cX8_adopts 7 = .ok (.aload_n 0, 1) := by decide +kernel
theorem dX8_adopts_8 : decode cX8_adopts 8 = .ok (.getfield 26, 3) := by decide +kernel
theorem dX8_adopts_11 : decode cX8_adopts 11 = .ok (.iload_n 1, 1) := by decide +kernel
theorem dX8_adopts_12 : decode cX8_adopts 12 = .ok (.aload_n 0, 1) := by decide +kernel
theorem dX8_adopts_13 : decode cX8_adopts 13 = .ok (.getfield 26, 3) := by decide +kernel
theorem dX8_adopts_16 : decode cX8_adopts 16 = .ok (.iconst 5, 1) := by decide +kernel
theorem dX8_adopts_17 : decode cX8_adopts 17 = .ok (.iload_n 1, 1) := by decide +kernel
theorem dX8_adopts_18 : decode cX8_adopts 18 = .ok (.iadd, 1) := by decide +kernel
theorem dX8_adopts_19 : decode cX8_adopts 19 = .ok (.iaload, 1) := by decide +kernel
theorem dX8_adopts_20 : decode cX8_adopts 20 = .ok (.iastore, 1) := by decide +kernel
theorem dX8_adopts_21 : decode cX8_adopts 21 = .ok (.iinc 1 1, 3) := by decide +kernel
theorem dX8_adopts_24 : decode cX8_adopts 24 = .ok (.goto (-22), 3) := by decide +kernel
theorem dX8_adopts_27 : decode cX8_adopts 27 = .ok (.iconst 0, 1) := by decide +kernel
theorem dX8_adopts_28 : decode cX8_adopts 28 = .ok (.istore_n 1, 1) := by decide +kernel
theorem dX8_adopts_29 : decode cX8_adopts 29 = .ok (.iload_n 1, 1) := by decide +kernel
theorem dX8_adopts_30 : decode cX8_adopts 30 = .ok (.bipush 9, 2) := by decide +kernel
theorem dX8_adopts_32 : decode cX8_adopts 32 = .ok (.if_icmp .ge 24, 3) := by decide +kernel
theorem dX8_adopts_35 : decode cX8_adopts 35 = .ok (.aload_n 0, 1) := by decide +kernel
theorem dX8_adopts_36 : decode cX8_adopts 36 = .ok (.getfield 29, 3) := by decide +kernel
theorem dX8_adopts_39 : decode cX8_adopts 39 = .ok (.iload_n 1, 1) := by decide +kernel
theorem dX8_adopts_40 : decode cX8_adopts 40 = .ok (.aload_n 0, 1) := by decide +kernel
theorem dX8_adopts_41 : decode cX8_adopts 41 = .ok (.getfield 29, 3) := by decide +kernel
theorem dX8_adopts_44 : decode cX8_adopts 44 = .ok (.bipush 9, 2) := by decide +kernel
theorem dX8_adopts_46 : decode cX8_adopts 46 = .ok (.iload_n 1, 1) := by decide +kernel
theorem dX8_adopts_47 : decode cX8_adopts 47 = .ok (.iadd, 1) := by decide +kernel
theorem dX8_adopts_48 : decode cX8_adopts 48 = .ok (.iaload, 1) := by decide +kernel
theorem dX8_adopts_49 : decode cX8_adopts 49 = .ok (.iastore, 1) := by decide +kernel
theorem dX8_adopts_50 : decode cX8_adopts 50 = .ok (.iinc 1 1, 3) := by decide +kernel
theorem dX8_adopts_53 : decode cX8_adopts 53 = .ok (.goto (-24), 3) := by decide +kernel
theorem dX8_adopts_56 : decode cX8_adopts 56 = .ok (.iconst 0, 1) := by decide +kernel
theorem dX8_adopts_57 : decode cX8_adopts 57 = .ok (.istore_n 1, 1) := by decide +kernel
theorem dX8_adopts_58 : decode cX8_adopts 58 = .ok (.iload_n 1, 1) := by decide +kernel
theorem dX8_adopts_59 : decode cX8_adopts 59 = .ok (.bipush 20, 2) := by decide +kernel
theorem dX8_adopts_61 : decode cX8_adopts 61 = .ok (.if_icmp .ge 24, 3) := by decide +kernel
theorem dX8_adopts_64 : decode cX8_adopts 64 = .ok (.aload_n 0, 1) := by decide +kernel
theorem dX8_adopts_65 : decode cX8_adopts 65 = .ok (.getfield 32, 3) := by decide +kernel
theorem dX8_adopts_68 : decode cX8_adopts 68 = .ok (.iload_n 1, 1) := by decide +kernel
theorem dX8_adopts_69 : decode cX8_adopts 69 = .ok (.aload_n 0, 1) := by decide +kernel
theorem dX8_adopts_70 : decode cX8_adopts 70 = .ok (.getfield 32, 3) := by decide +kernel
theorem dX8_adopts_73 : decode cX8_adopts 73 = .ok (.bipush 20, 2) := by decide +kernel
theorem dX8_adopts_75 : decode cX8_adopts 75 = .ok (.iload_n 1, 1) := by decide +kernel
theorem dX8_adopts_76 : decode cX8_adopts 76 = .ok (.iadd, 1) := by decide +kernel
theorem dX8_adopts_77 : decode cX8_adopts 77 = .ok (.iaload, 1) := by decide +kernel
theorem dX8_adopts_78 : decode cX8_adopts 78 = .ok (.iastore, 1) := by decide +kernel
theorem dX8_adopts_79 : decode cX8_adopts 79 = .ok (.iinc 1 1, 3) := by decide +kernel
theorem dX8_adopts_82 : decode cX8_adopts 82 = .ok (.goto (-24), 3) := by decide +kernel
theorem dX8_adopts_85 : decode cX8_adopts 85 = .ok (.aload_n 0, 1) := by decide +kernel
theorem dX8_adopts_86 : decode cX8_adopts 86 = .ok (.aload_n 0, 1) := by decide +kernel
theorem dX8_adopts_87 : decode cX8_adopts 87 = .ok (.getfield 113, 3) := by decide +kernel
theorem dX8_adopts_90 : decode cX8_adopts 90 = .ok (.putfield 138, 3) := by decide +kernel
theorem dX8_adopts_93 : decode cX8_adopts 93 = .ok (.aload_n 0, 1) := by decide +kernel
theorem dX8_adopts_94 : decode cX8_adopts 94 = .ok (.aload_n 0, 1) := by decide +kernel
theorem dX8_adopts_95 : decode cX8_adopts 95 = .ok (.getfield 116, 3) := by decide +kernel
theorem dX8_adopts_98 : decode cX8_adopts 98 = .ok (.putfield 141, 3) := by decide +kernel
theorem dX8_adopts_101 : decode cX8_adopts 101 = .ok (.aload_n 0, 1) := by decide +kernel
theorem dX8_adopts_102 : decode cX8_adopts 102 = .ok (.iconst 0, 1) := by decide +kernel
theorem dX8_adopts_103 : decode cX8_adopts 103 = .ok (.putfield 144, 3) := by decide +kernel
theorem dX8_adopts_106 : decode cX8_adopts 106 = .ok (.aload_n 0, 1) := by decide +kernel
theorem dX8_adopts_107 : decode cX8_adopts 107 = .ok (.iconst 0, 1) := by decide +kernel
theorem dX8_adopts_108 : decode cX8_adopts 108 = .ok (.putfield 147, 3) := by decide +kernel
theorem dX8_adopts_111 : decode cX8_adopts 111 = .ok (.aload_n 0, 1) := by decide +kernel
theorem dX8_adopts_112 : decode cX8_adopts 112 = .ok (.getfield 19, 3) := by decide +kernel
theorem dX8_adopts_115 : decode cX8_adopts 115 = .ok (.iconst 0, 1) := by decide +kernel
theorem dX8_adopts_116 : decode cX8_adopts 116 = .ok (.iconst 0, 1) := by decide +kernel
theorem dX8_adopts_117 : decode cX8_adopts 117 = .ok (.bastore, 1) := by decide +kernel
theorem dX8_adopts_118 : decode cX8_adopts 118 = .ok (.aload_n 0, 1) := by decide +kernel
theorem dX8_adopts_119 : decode cX8_adopts 119 = .ok (.getfield 19, 3) := by decide +kernel
theorem dX8_adopts_122 : decode cX8_adopts 122 = .ok (.iconst 1, 1) := by decide +kernel
theorem dX8_adopts_123 : decode cX8_adopts 123 = .ok (.iconst 0, 1) := by decide +kernel
theorem dX8_adopts_124 : decode cX8_adopts 124 = .ok (.bastore, 1) := by decide +kernel
theorem dX8_adopts_125 : decode cX8_adopts 125 = .ok (.aload_n 0, 1) := by decide +kernel
theorem dX8_adopts_126 : decode cX8_adopts 126 = .ok (.getfield 7, 3) := by decide +kernel
theorem dX8_adopts_129 : decode cX8_adopts 129 = .ok (.iconst 2, 1) := by decide +kernel
theorem dX8_adopts_130 : decode cX8_adopts 130 = .ok (.iconst 0, 1) := by decide +kernel
theorem dX8_adopts_131 : decode cX8_adopts 131 = .ok (.iastore, 1) := by decide +kernel
theorem dX8_adopts_132 : decode cX8_adopts 132 = .ok (.aload_n 0, 1) := by decide +kernel
theorem dX8_adopts_133 : decode cX8_adopts 133 = .ok (.invokevirtual 150, 3) := by decide +kernel
theorem dX8_adopts_136 : decode cX8_adopts 136 = .ok (.return_, 1) := by decide +kernel
theorem dX8_isPlace_0 : decode cX8_isPlace 0 = .ok (.iload_n 1, 1) := by decide +kernel
theorem dX8_isPlace_1 : decode cX8_isPlace 1 = .ok (.iconst 0, 1) := by decide +kernel
theorem dX8_isPlace_2 : decode cX8_isPlace 2 = .ok (.aload_n 0, 1) := by decide +kernel
theorem dX8_isPlace_3 : decode cX8_isPlace 3 = .ok (.getfield 138, 3) := by decide +kernel
theorem dX8_isPlace_6 : decode cX8_isPlace 6 = .ok (.iconst 1, 1) := by decide +kernel
theorem dX8_isPlace_7 : decode cX8_isPlace 7 = .ok (.isub, 1) := by decide +kernel
theorem dX8_isPlace_8 : decode cX8_isPlace 8 = .ok (.invokestatic 60, 3) := by decide +kernel
theorem dX8_isPlace_11 : decode cX8_isPlace 11 = .ok (.ireturn, 1) := by decide +kernel
theorem dX8_isWord_0 : decode cX8_isWord 0 = .ok (.iload_n 1, 1) := by decide +kernel
theorem dX8_isWord_1 : decode cX8_isWord 1 = .ok (.iconst 0, 1) := by decide +kernel
theorem dX8_isWord_2 : decode cX8_isWord 2 = .ok (.aload_n 0, 1) := by decide +kernel
theorem dX8_isWord_3 : decode cX8_isWord 3 = .ok (.getfield 141, 3) := by decide +kernel
theorem dX8_isWord_6 : decode cX8_isWord 6 = .ok (.iconst 1, 1) := by decide +kernel
theorem dX8_isWord_7 : decode cX8_isWord 7 = .ok (.isub, 1) := by decide +kernel
theorem dX8_isWord_8 : decode cX8_isWord 8 = .ok (.invokestatic 60, 3) := by decide +kernel
theorem dX8_isWord_11 : decode cX8_isWord 11 = .ok (.ireturn, 1) := by decide +kernel
theorem dX8_isAge_0 : decode cX8_isAge 0 = .ok (.iload_n 0, 1) := by decide +kernel
theorem dX8_isAge_1 : decode cX8_isAge 1 = .ok (.bipush 10, 2) := by decide +kernel
theorem dX8_isAge_3 : decode cX8_isAge 3 = .ok (.bipush 69, 2) := by decide +kernel
theorem dX8_isAge_5 : decode cX8_isAge 5 = .ok (.invokestatic 60, 3) := by decide +kernel
theorem dX8_isAge_8 : decode cX8_isAge 8 = .ok (.ireturn, 1) := by decide +kernel
theorem dX8_law_0 : decode cX8_law 0 = .ok (.aload_n 0, 1) := by decide +kernel
theorem dX8_law_1 : decode cX8_law 1 = .ok (.iconst 0, 1) := by decide +kernel
theorem dX8_law_2 : decode cX8_law 2 = .ok (.putfield 56, 3) := by decide +kernel
theorem dX8_law_5 : decode cX8_law 5 = .ok (.iload_n 1, 1) := by decide +kernel
theorem dX8_law_6 : decode cX8_law 6 = .ok (.iconst 0, 1) := by decide +kernel
theorem dX8_law_7 : decode cX8_law 7 = .ok (.iconst 4, 1) := by decide +kernel
theorem dX8_law_8 : decode cX8_law 8 = .ok (.invokestatic 60, 3) := by decide +kernel
theorem dX8_law_11 : decode cX8_law 11 = .ok (.ifCond .eq 12, 3) := by decide +kernel
theorem dX8_law_14 : decode cX8_law 14 = .ok (.aload_n 0, 1) := by decide +kernel
theorem dX8_law_15 : decode cX8_law 15 = .ok (.getfield 26, 3) := by decide +kernel
theorem dX8_law_18 : decode cX8_law 18 = .ok (.iload_n 1, 1) := by decide +kernel
theorem dX8_law_19 : decode cX8_law 19 = .ok (.iaload, 1) := by decide +kernel
theorem dX8_law_20 : decode cX8_law 20 = .ok (.goto 4, 3) := by decide +kernel
theorem dX8_law_23 : decode cX8_law 23 = .ok (.iconst (-1), 1) := by decide +kernel
theorem dX8_law_24 : decode cX8_law 24 = .ok (.ireturn, 1) := by decide +kernel
theorem dX8_late_0 : decode cX8_late 0 = .ok (.aload_n 0, 1) := by decide +kernel
theorem dX8_late_1 : decode cX8_late 1 = .ok (.iconst 0, 1) := by decide +kernel
theorem dX8_late_2 : decode cX8_late 2 = .ok (.putfield 56, 3) := by decide +kernel
theorem dX8_late_5 : decode cX8_late 5 = .ok (.iload_n 1, 1) := by decide +kernel
theorem dX8_late_6 : decode cX8_late 6 = .ok (.iconst 0, 1) := by decide +kernel
theorem dX8_late_7 : decode cX8_late 7 = .ok (.bipush 30, 2) := by decide +kernel
theorem dX8_late_9 : decode cX8_late 9 = .ok (.invokestatic 60, 3) := by decide +kernel
theorem dX8_late_12 : decode cX8_late 12 = .ok (.ifCond .ne 5, 3) := by decide +kernel
theorem dX8_late_15 : decode cX8_late 15 = .ok (.iconst (-1), 1) := by decide +kernel
theorem dX8_late_16 : decode cX8_late 16 = .ok (.ireturn, 1) := by decide +kernel
theorem dX8_late_17 : decode cX8_late 17 = .ok (.aload_n 0, 1) := by decide +kernel
theorem dX8_late_18 : decode cX8_late 18 = .ok (.getfield 26, 3) := by decide +kernel
theorem dX8_late_21 : decode cX8_late 21 = .ok (.iconst 4, 1) := by decide +kernel
theorem dX8_late_22 : decode cX8_late 22 = .ok (.iaload, 1) := by decide +kernel
theorem dX8_late_23 : decode cX8_late 23 = .ok (.istore_n 2, 1) := by decide +kernel
theorem dX8_late_24 : decode cX8_late 24 = .ok (.aload_n 0, 1) := by decide +kernel
theorem dX8_late_25 : decode cX8_late 25 = .ok (.getfield 26, 3) := by decide +kernel
theorem dX8_late_28 : decode cX8_late 28 = .ok (.iconst 4, 1) := by decide +kernel
theorem dX8_late_29 : decode cX8_late 29 = .ok (.iload_n 1, 1) := by decide +kernel
theorem dX8_late_30 : decode cX8_late 30 = .ok (.iastore, 1) := by decide +kernel
theorem dX8_late_31 : decode cX8_late 31 = .ok (.iload_n 2, 1) := by decide +kernel
theorem dX8_late_32 : decode cX8_late 32 = .ok (.ireturn, 1) := by decide +kernel
theorem dX8_near_0 : decode cX8_near 0 = .ok (.aload_n 0, 1) := by decide +kernel
theorem dX8_near_1 : decode cX8_near 1 = .ok (.iconst 0, 1) := by decide +kernel
theorem dX8_near_2 : decode cX8_near 2 = .ok (.putfield 56, 3) := by decide +kernel
theorem dX8_near_5 : decode cX8_near 5 = .ok (.aload_n 0, 1) := by decide +kernel
theorem dX8_near_6 : decode cX8_near 6 = .ok (.iload_n 1, 1) := by decide +kernel
theorem dX8_near_7 : decode cX8_near 7 = .ok (.invokevirtual 153, 3) := by decide +kernel
theorem dX8_near_10 : decode cX8_near 10 = .ok (.ifCond .eq 29, 3) := by decide +kernel
theorem dX8_near_13 : decode cX8_near 13 = .ok (.aload_n 0, 1) := by decide +kernel
theorem dX8_near_14 : decode cX8_near 14 = .ok (.iload_n 2, 1) := by decide +kernel
theorem dX8_near_15 : decode cX8_near 15 = .ok (.invokevirtual 153, 3) := by decide +kernel
theorem dX8_near_18 : decode cX8_near 18 = .ok (.ifCond .eq 21, 3) := by decide +kernel
theorem dX8_near_21 : decode cX8_near 21 = .ok (.iload_n 1, 1) := by decide +kernel
theorem dX8_near_22 : decode cX8_near 22 = .ok (.iload_n 2, 1) := by decide +kernel
theorem dX8_near_23 : decode cX8_near 23 = .ok (.if_icmp .eq 16, 3) := by decide +kernel
theorem dX8_near_26 : decode cX8_near 26 = .ok (.aload_n 0, 1) := by decide +kernel
theorem dX8_near_27 : decode cX8_near 27 = .ok (.getfield 29, 3) := by decide +kernel
theorem dX8_near_30 : decode cX8_near 30 = .ok (.iconst 3, 1) := by decide +kernel
theorem dX8_near_31 : decode cX8_near 31 = .ok (.iload_n 1, 1) := by decide +kernel
theorem dX8_near_32 : decode cX8_near 32 = .ok (.imul, 1) := by decide +kernel
theorem dX8_near_33 : decode cX8_near 33 = .ok (.iload_n 2, 1) := by decide +kernel
theorem dX8_near_34 : decode cX8_near 34 = .ok (.iadd, 1) := by decide +kernel
theorem dX8_near_35 : decode cX8_near 35 = .ok (.iaload, 1) := by decide +kernel
theorem dX8_near_36 : decode cX8_near 36 = .ok (.goto 4, 3) := by decide +kernel
theorem dX8_near_39 : decode cX8_near 39 = .ok (.iconst (-1), 1) := by decide +kernel
theorem dX8_near_40 : decode cX8_near 40 = .ok (.ireturn, 1) := by decide +kernel
theorem dX8_isCoined_0 : decode cX8_isCoined 0 = .ok (.aload_n 0, 1) := by decide +kernel
theorem dX8_isCoined_1 : decode cX8_isCoined 1 = .ok (.getfield 32, 3) := by decide +kernel
theorem dX8_isCoined_4 : decode cX8_isCoined 4 = .ok (.iconst 4, 1) := by decide +kernel
theorem dX8_isCoined_5 : decode cX8_isCoined 5 = .ok (.iload_n 1, 1) := by decide +kernel
theorem dX8_isCoined_6 : decode cX8_isCoined 6 = .ok (.imul, 1) := by decide +kernel
theorem dX8_isCoined_7 : decode cX8_isCoined 7 = .ok (.iconst 1, 1) := by decide +kernel
theorem dX8_isCoined_8 : decode cX8_isCoined 8 = .ok (.iadd, 1) := by decide +kernel
theorem dX8_isCoined_9 : decode cX8_isCoined 9 = .ok (.iaload, 1) := by decide +kernel
theorem dX8_isCoined_10 : decode cX8_isCoined 10 = .ok (.aload_n 0, 1) := by decide +kernel
theorem dX8_isCoined_11 : decode cX8_isCoined 11 = .ok (.getfield 7, 3) := by decide +kernel
theorem dX8_isCoined_14 : decode cX8_isCoined 14 = .ok (.iconst 0, 1) := by decide +kernel
theorem dX8_isCoined_15 : decode cX8_isCoined 15 = .ok (.iaload, 1) := by decide +kernel
theorem dX8_isCoined_16 : decode cX8_isCoined 16 = .ok (.if_icmp .gt 7, 3) := by decide +kernel
theorem dX8_isCoined_19 : decode cX8_isCoined 19 = .ok (.iconst 1, 1) := by decide +kernel
theorem dX8_isCoined_20 : decode cX8_isCoined 20 = .ok (.goto 4, 3) := by decide +kernel
theorem dX8_isCoined_23 : decode cX8_isCoined 23 = .ok (.iconst 0, 1) := by decide +kernel
theorem dX8_isCoined_24 : decode cX8_isCoined 24 = .ok (.ireturn, 1) := by decide +kernel
theorem dX8_word_0 : decode cX8_word 0 = .ok (.aload_n 0, 1) := by decide +kernel
theorem dX8_word_1 : decode cX8_word 1 = .ok (.iconst 0, 1) := by decide +kernel
theorem dX8_word_2 : decode cX8_word 2 = .ok (.putfield 56, 3) := by decide +kernel
theorem dX8_word_5 : decode cX8_word 5 = .ok (.aload_n 0, 1) := by decide +kernel
theorem dX8_word_6 : decode cX8_word 6 = .ok (.iload_n 1, 1) := by decide +kernel
theorem dX8_word_7 : decode cX8_word 7 = .ok (.invokevirtual 156, 3) := by decide +kernel
theorem dX8_word_10 : decode cX8_word 10 = .ok (.ifCond .eq 12, 3) := by decide +kernel
theorem dX8_word_13 : decode cX8_word 13 = .ok (.iload_n 2, 1) := by decide +kernel
theorem dX8_word_14 : decode cX8_word 14 = .ok (.iconst 0, 1) := by decide +kernel
theorem dX8_word_15 : decode cX8_word 15 = .ok (.iconst 4, 1) := by decide +kernel
theorem dX8_word_16 : decode cX8_word 16 = .ok (.invokestatic 60, 3) := by decide +kernel
theorem dX8_word_19 : decode cX8_word 19 = .ok (.ifCond .ne 7, 3) := by decide +kernel
theorem dX8_word_22 : decode cX8_word 22 = .ok (.iconst (-1), 1) := by decide +kernel
theorem dX8_word_23 : decode cX8_word 23 = .ok (.goto 34, 3) := by decide +kernel
theorem dX8_word_26 : decode cX8_word 26 = .ok (.iload_n 2, 1) := by decide +kernel
theorem dX8_word_27 : decode cX8_word 27 = .ok (.iconst 4, 1) := by decide +kernel
theorem dX8_word_28 : decode cX8_word 28 = .ok (.if_icmp .ge 16, 3) := by decide +kernel
theorem dX8_word_31 : decode cX8_word 31 = .ok (.aload_n 0, 1) := by decide +kernel
theorem dX8_word_32 : decode cX8_word 32 = .ok (.getfield 32, 3) := by decide +kernel
theorem dX8_word_35 : decode cX8_word 35 = .ok (.iconst 4, 1) := by decide +kernel
theorem dX8_word_36 : decode cX8_word 36 = .ok (.iload_n 1, 1) := by decide +kernel
theorem dX8_word_37 : decode cX8_word 37 = .ok (.imul, 1) := by decide +kernel
theorem dX8_word_38 : decode cX8_word 38 = .ok (.iload_n 2, 1) := by decide +kernel
theorem dX8_word_39 : decode cX8_word 39 = .ok (.iadd, 1) := by decide +kernel
theorem dX8_word_40 : decode cX8_word 40 = .ok (.iaload, 1) := by decide +kernel
theorem dX8_word_41 : decode cX8_word 41 = .ok (.goto 16, 3) := by decide +kernel
theorem dX8_word_44 : decode cX8_word 44 = .ok (.aload_n 0, 1) := by decide +kernel
theorem dX8_word_45 : decode cX8_word 45 = .ok (.iload_n 1, 1) := by decide +kernel
theorem dX8_word_46 : decode cX8_word 46 = .ok (.invokevirtual 159, 3) := by decide +kernel
theorem dX8_word_49 : decode cX8_word 49 = .ok (.ifCond .eq 7, 3) := by decide +kernel
theorem dX8_word_52 : decode cX8_word 52 = .ok (.iconst 1, 1) := by decide +kernel
theorem dX8_word_53 : decode cX8_word 53 = .ok (.goto 4, 3) := by decide +kernel
theorem dX8_word_56 : decode cX8_word 56 = .ok (.iconst 0, 1) := by decide +kernel
theorem dX8_word_57 : decode cX8_word 57 = .ok (.ireturn, 1) := by decide +kernel
theorem dX8_at_0 : decode cX8_at 0 = .ok (.bipush 50, 2) := by decide +kernel
theorem dX8_at_2 : decode cX8_at 2 = .ok (.sipush 180, 3) := by decide +kernel
theorem dX8_at_5 : decode cX8_at 5 = .ok (.iload_n 0, 1) := by decide +kernel
theorem dX8_at_6 : decode cX8_at 6 = .ok (.imul, 1) := by decide +kernel
theorem dX8_at_7 : decode cX8_at 7 = .ok (.iadd, 1) := by decide +kernel
theorem dX8_at_8 : decode cX8_at 8 = .ok (.bipush 60, 2) := by decide +kernel
theorem dX8_at_10 : decode cX8_at 10 = .ok (.iload_n 1, 1) := by decide +kernel
theorem dX8_at_11 : decode cX8_at 11 = .ok (.imul, 1) := by decide +kernel
theorem dX8_at_12 : decode cX8_at 12 = .ok (.iadd, 1) := by decide +kernel
theorem dX8_at_13 : decode cX8_at 13 = .ok (.iload_n 2, 1) := by decide +kernel
theorem dX8_at_14 : decode cX8_at 14 = .ok (.iadd, 1) := by decide +kernel
theorem dX8_at_15 : decode cX8_at 15 = .ok (.bipush 10, 2) := by decide +kernel
theorem dX8_at_17 : decode cX8_at 17 = .ok (.isub, 1) := by decide +kernel
theorem dX8_at_18 : decode cX8_at 18 = .ok (.ireturn, 1) := by decide +kernel
theorem dX8_of_0 : decode cX8_of 0 = .ok (.iload_n 3, 1) := by decide +kernel
theorem dX8_of_1 : decode cX8_of 1 = .ok (.ifCond .ne 8, 3) := by decide +kernel
theorem dX8_of_4 : decode cX8_of 4 = .ok (.bipush 13, 2) := by decide +kernel
theorem dX8_of_6 : decode cX8_of 6 = .ok (.goto 15, 3) := by decide +kernel
theorem dX8_of_9 : decode cX8_of 9 = .ok (.iload_n 3, 1) := by decide +kernel
theorem dX8_of_10 : decode cX8_of 10 = .ok (.iconst 1, 1) := by decide +kernel
theorem dX8_of_11 : decode cX8_of 11 = .ok (.if_icmp .ne 8, 3) := by decide +kernel
theorem dX8_of_14 : decode cX8_of 14 = .ok (.bipush 35, 2) := by decide +kernel
theorem dX8_of_16 : decode cX8_of 16 = .ok (.goto 5, 3) := by decide +kernel
theorem dX8_of_19 : decode cX8_of 19 = .ok (.bipush 10, 2) := by decide +kernel
theorem dX8_of_21 : decode cX8_of 21 = .ok (.istore 4, 2) := by decide +kernel
theorem dX8_of_23 : decode cX8_of 23 = .ok (.iload_n 3, 1) := by decide +kernel
theorem dX8_of_24 : decode cX8_of 24 = .ok (.ifCond .ne 8, 3) := by decide +kernel
theorem dX8_of_27 : decode cX8_of 27 = .ok (.bipush 19, 2) := by decide +kernel
theorem dX8_of_29 : decode cX8_of 29 = .ok (.goto 15, 3) := by decide +kernel
theorem dX8_of_32 : decode cX8_of 32 = .ok (.iload_n 3, 1) := by decide +kernel
theorem dX8_of_33 : decode cX8_of 33 = .ok (.iconst 1, 1) := by decide +kernel
theorem dX8_of_34 : decode cX8_of 34 = .ok (.if_icmp .ne 8, 3) := by decide +kernel
theorem dX8_of_37 : decode cX8_of 37 = .ok (.bipush 50, 2) := by decide +kernel
theorem dX8_of_39 : decode cX8_of 39 = .ok (.goto 5, 3) := by decide +kernel
theorem dX8_of_42 : decode cX8_of 42 = .ok (.bipush 69, 2) := by decide +kernel
theorem dX8_of_44 : decode cX8_of 44 = .ok (.istore 5, 2) := by decide +kernel
theorem dX8_of_46 : decode cX8_of 46 = .ok (.iconst 0, 1) := by decide +kernel
theorem dX8_of_47 : decode cX8_of 47 = .ok (.istore 6, 2) := by decide +kernel
theorem dX8_of_49 : decode cX8_of 49 = .ok (.iload 4, 2) := by decide +kernel
theorem dX8_of_51 : decode cX8_of 51 = .ok (.istore 7, 2) := by decide +kernel
theorem dX8_of_53 : decode cX8_of 53 = .ok (.iload 7, 2) := by decide +kernel
theorem dX8_of_55 : decode cX8_of 55 = .ok (.iload 5, 2) := by decide +kernel
theorem dX8_of_57 : decode cX8_of 57 = .ok (.if_icmp .gt 26, 3) := by decide +kernel
theorem dX8_of_60 : decode cX8_of 60 = .ok (.iload 6, 2) := by decide +kernel
theorem dX8_of_62 : decode cX8_of 62 = .ok (.aload_n 0, 1) := by decide +kernel
theorem dX8_of_63 : decode cX8_of 63 = .ok (.getfield 7, 3) := by decide +kernel
theorem dX8_of_66 : decode cX8_of 66 = .ok (.iload_n 1, 1) := by decide +kernel
theorem dX8_of_67 : decode cX8_of 67 = .ok (.iload_n 2, 1) := by decide +kernel
theorem dX8_of_68 : decode cX8_of 68 = .ok (.iload 7, 2) := by decide +kernel
theorem dX8_of_70 : decode cX8_of 70 = .ok (.invokestatic 162, 3) := by decide +kernel
theorem dX8_of_73 : decode cX8_of 73 = .ok (.iaload, 1) := by decide +kernel
theorem dX8_of_74 : decode cX8_of 74 = .ok (.iadd, 1) := by decide +kernel
theorem dX8_of_75 : decode cX8_of 75 = .ok (.istore 6, 2) := by decide +kernel
theorem dX8_of_77 : decode cX8_of 77 = .ok (.iinc 7 1, 3) := by decide +kernel
theorem dX8_of_80 : decode cX8_of 80 = .ok (.goto (-27), 3) := by decide +kernel
theorem dX8_of_83 : decode cX8_of 83 = .ok (.iload 6, 2) := by decide +kernel
theorem dX8_of_85 : decode cX8_of 85 = .ok (.iload 5, 2) := by decide +kernel
theorem dX8_of_87 : decode cX8_of 87 = .ok (.iload 4, 2) := by decide +kernel
theorem dX8_of_89 : decode cX8_of 89 = .ok (.isub, 1) := by decide +kernel
theorem dX8_of_90 : decode cX8_of 90 = .ok (.iconst 1, 1) := by decide +kernel
theorem dX8_of_91 : decode cX8_of 91 = .ok (.iadd, 1) := by decide +kernel
theorem dX8_of_92 : decode cX8_of 92 = .ok (.idiv, 1) := by decide +kernel
theorem dX8_of_93 : decode cX8_of 93 = .ok (.ireturn, 1) := by decide +kernel
theorem dX8_mean_0 : decode cX8_mean 0 = .ok (.iconst 0, 1) := by decide +kernel
theorem dX8_mean_1 : decode cX8_mean 1 = .ok (.istore_n 3, 1) := by decide +kernel
theorem dX8_mean_2 : decode cX8_mean 2 = .ok (.iconst 0, 1) := by decide +kernel
theorem dX8_mean_3 : decode cX8_mean 3 = .ok (.istore 4, 2) := by decide +kernel
theorem dX8_mean_5 : decode cX8_mean 5 = .ok (.iload 4, 2) := by decide +kernel
theorem dX8_mean_7 : decode cX8_mean 7 = .ok (.aload_n 0, 1) := by decide +kernel
theorem dX8_mean_8 : decode cX8_mean 8 = .ok (.getfield 138, 3) := by decide +kernel
theorem dX8_mean_11 : decode cX8_mean 11 = .ok (.if_icmp .ge 20, 3) := by decide +kernel
theorem dX8_mean_14 : decode cX8_mean 14 = .ok (.iload_n 3, 1) := by decide +kernel
theorem dX8_mean_15 : decode cX8_mean 15 = .ok (.aload_n 0, 1) := by decide +kernel
theorem dX8_mean_16 : decode cX8_mean 16 = .ok (.iload_n 1, 1) := by decide +kernel
theorem dX8_mean_17 : decode cX8_mean 17 = .ok (.iload 4, 2) := by decide +kernel
theorem dX8_mean_19 : decode cX8_mean 19 = .ok (.iload_n 2, 1) := by decide +kernel
theorem dX8_mean_20 : decode cX8_mean 20 = .ok (.invokevirtual 166, 3) := by decide +kernel
theorem dX8_mean_23 : decode cX8_mean 23 = .ok (.iadd, 1) := by decide +kernel
theorem dX8_mean_24 : decode cX8_mean 24 = .ok (.istore_n 3, 1) := by decide +kernel
theorem dX8_mean_25 : decode cX8_mean 25 = .ok (.iinc 4 1, 3) := by decide +kernel
theorem dX8_mean_28 : decode cX8_mean 28 = .ok (.goto (-23), 3) := by decide +kernel
theorem dX8_mean_31 : decode cX8_mean 31 = .ok (.aload_n 0, 1) := by decide +kernel
theorem dX8_mean_32 : decode cX8_mean 32 = .ok (.getfield 138, 3) := by decide +kernel
theorem dX8_mean_35 : decode cX8_mean 35 = .ok (.ifCond .ne 7, 3) := by decide +kernel
theorem dX8_mean_38 : decode cX8_mean 38 = .ok (.iconst 0, 1) := by decide +kernel
theorem dX8_mean_39 : decode cX8_mean 39 = .ok (.goto 9, 3) := by decide +kernel
theorem dX8_mean_42 : decode cX8_mean 42 = .ok (.iload_n 3, 1) := by decide +kernel
theorem dX8_mean_43 : decode cX8_mean 43 = .ok (.aload_n 0, 1) := by decide +kernel
theorem dX8_mean_44 : decode cX8_mean 44 = .ok (.getfield 138, 3) := by decide +kernel
theorem dX8_mean_47 : decode cX8_mean 47 = .ok (.idiv, 1) := by decide +kernel
theorem dX8_mean_48 : decode cX8_mean 48 = .ok (.ireturn, 1) := by decide +kernel
theorem dX8_records_0 : decode cX8_records 0 = .ok (.iconst 0, 1) := by decide +kernel
theorem dX8_records_1 : decode cX8_records 1 = .ok (.istore_n 1, 1) := by decide +kernel
theorem dX8_records_2 : decode cX8_records 2 = .ok (.iload_n 1, 1) := by decide +kernel
theorem dX8_records_3 : decode cX8_records 3 = .ok (.aload_n 0, 1) := by decide +kernel
theorem dX8_records_4 : decode cX8_records 4 = .ok (.getfield 141, 3) := by decide +kernel
theorem dX8_records_7 : decode cX8_records 7 = .ok (.if_icmp .ge 84, 3) := by decide +kernel
theorem dX8_records_10 : decode cX8_records 10 = .ok (.iconst 0, 1) := by decide +kernel
theorem dX8_records_11 : decode cX8_records 11 = .ok (.istore_n 2, 1) := by decide +kernel
theorem dX8_records_12 : decode cX8_records 12 = .ok (.iload_n 2, 1) := by decide +kernel
theorem dX8_records_13 : decode cX8_records 13 = .ok (.aload_n 0, 1) := by decide +kernel
theorem dX8_records_14 : decode cX8_records 14 = .ok (.getfield 138, 3) := by decide +kernel
theorem dX8_records_17 : decode cX8_records 17 = .ok (.if_icmp .ge 42, 3) := by decide +kernel
theorem dX8_records_20 : decode cX8_records 20 = .ok (.aload_n 0, 1) := by decide +kernel
theorem dX8_records_21 : decode cX8_records 21 = .ok (.getfield 7, 3) := by decide +kernel
theorem dX8_records_24 : decode cX8_records 24 = .ok (.sipush 950, 3) := by decide +kernel
theorem dX8_records_27 : decode cX8_records 27 = .ok (.sipush 300, 3) := by decide +kernel
theorem dX8_records_30 : decode cX8_records 30 = .ok (.iload_n 1, 1) := by decide +kernel
theorem dX8_records_31 : decode cX8_records 31 = .ok (.imul, 1) := by decide +kernel
theorem dX8_records_32 : decode cX8_records 32 = .ok (.iadd, 1) := by decide +kernel
theorem dX8_records_33 : decode cX8_records 33 = .ok (.bipush 100, 2) := by decide +kernel
theorem dX8_records_35 : decode cX8_records 35 = .ok (.iload_n 2, 1) := by decide +kernel
theorem dX8_records_36 : decode cX8_records 36 = .ok (.imul, 1) := by decide +kernel
theorem dX8_records_37 : decode cX8_records 37 = .ok (.iadd, 1) := by decide +kernel
theorem dX8_records_38 : decode cX8_records 38 = .ok (.aload_n 0, 1) := by decide +kernel
theorem dX8_records_39 : decode cX8_records 39 = .ok (.getfield 7, 3) := by decide +kernel
theorem dX8_records_42 : decode cX8_records 42 = .ok (.iconst 0, 1) := by decide +kernel
theorem dX8_records_43 : decode cX8_records 43 = .ok (.iaload, 1) := by decide +kernel
theorem dX8_records_44 : decode cX8_records 44 = .ok (.iadd, 1) := by decide +kernel
theorem dX8_records_45 : decode cX8_records 45 = .ok (.aload_n 0, 1) := by decide +kernel
theorem dX8_records_46 : decode cX8_records 46 = .ok (.iload_n 1, 1) := by decide +kernel
theorem dX8_records_47 : decode cX8_records 47 = .ok (.iload_n 2, 1) := by decide +kernel
theorem dX8_records_48 : decode cX8_records 48 = .ok (.iconst 0, 1) := by decide +kernel
theorem dX8_records_49 : decode cX8_records 49 = .ok (.invokevirtual 166, 3) := by decide +kernel
theorem dX8_records_52 : decode cX8_records 52 = .ok (.iastore, 1) := by decide +kernel
theorem dX8_records_53 : decode cX8_records 53 = .ok (.iinc 2 1, 3) := by decide +kernel
theorem dX8_records_56 : decode cX8_records 56 = .ok (.goto (-44), 3) := by decide +kernel
theorem dX8_records_59 : decode cX8_records 59 = .ok (.aload_n 0, 1) := by decide +kernel
theorem dX8_records_60 : decode cX8_records 60 = .ok (.getfield 7, 3) := by decide +kernel
theorem dX8_records_63 : decode cX8_records 63 = .ok (.sipush 2450, 3) := by decide +kernel
theorem dX8_records_66 : decode cX8_records 66 = .ok (.bipush 100, 2) := by decide +kernel
theorem dX8_records_68 : decode cX8_records 68 = .ok (.iload_n 1, 1) := by decide +kernel
theorem dX8_records_69 : decode cX8_records 69 = .ok (.imul, 1) := by decide +kernel
theorem dX8_records_70 : decode cX8_records 70 = .ok (.iadd, 1) := by decide +kernel
theorem dX8_records_71 : decode cX8_records 71 = .ok (.aload_n 0, 1) := by decide +kernel
theorem dX8_records_72 : decode cX8_records 72 = .ok (.getfield 7, 3) := by decide +kernel
theorem dX8_records_75 : decode cX8_records 75 = .ok (.iconst 0, 1) := by decide +kernel
theorem dX8_records_76 : decode cX8_records 76 = .ok (.iaload, 1) := by decide +kernel
theorem dX8_records_77 : decode cX8_records 77 = .ok (.iadd, 1) := by decide +kernel
theorem dX8_records_78 : decode cX8_records 78 = .ok (.aload_n 0, 1) := by decide +kernel
theorem dX8_records_79 : decode cX8_records 79 = .ok (.iload_n 1, 1) := by decide +kernel
theorem dX8_records_80 : decode cX8_records 80 = .ok (.iconst 1, 1) := by decide +kernel
theorem dX8_records_81 : decode cX8_records 81 = .ok (.invokevirtual 169, 3) := by decide +kernel
theorem dX8_records_84 : decode cX8_records 84 = .ok (.iastore, 1) := by decide +kernel
theorem dX8_records_85 : decode cX8_records 85 = .ok (.iinc 1 1, 3) := by decide +kernel
theorem dX8_records_88 : decode cX8_records 88 = .ok (.goto (-86), 3) := by decide +kernel
theorem dX8_records_91 : decode cX8_records 91 = .ok (.return_, 1) := by decide +kernel
theorem dX8_sings_0 : decode cX8_sings 0 = .ok (.bipush 13, 2) := by decide +kernel
theorem dX8_sings_2 : decode cX8_sings 2 = .ok (.istore 4, 2) := by decide +kernel
theorem dX8_sings_4 : decode cX8_sings 4 = .ok (.iload 4, 2) := by decide +kernel
theorem dX8_sings_6 : decode cX8_sings 6 = .ok (.bipush 20, 2) := by decide +kernel
theorem dX8_sings_8 : decode cX8_sings 8 = .ok (.if_icmp .ge 61, 3) := by decide +kernel
theorem dX8_sings_11 : decode cX8_sings 11 = .ok (.aload_n 0, 1) := by decide +kernel
theorem dX8_sings_12 : decode cX8_sings 12 = .ok (.iload_n 1, 1) := by decide +kernel
theorem dX8_sings_13 : decode cX8_sings 13 = .ok (.invokevirtual 159, 3) := by decide +kernel
theorem dX8_sings_16 : decode cX8_sings 16 = .ok (.ifCond .eq 53, 3) := by decide +kernel
theorem dX8_sings_19 : decode cX8_sings 19 = .ok (.iload_n 1, 1) := by decide +kernel
theorem dX8_sings_20 : decode cX8_sings 20 = .ok (.iload_n 2, 1) := by decide +kernel
theorem dX8_sings_21 : decode cX8_sings 21 = .ok (.iload 4, 2) := by decide +kernel
theorem dX8_sings_23 : decode cX8_sings 23 = .ok (.invokestatic 162, 3) := by decide +kernel
theorem dX8_sings_26 : decode cX8_sings 26 = .ok (.istore 5, 2) := by decide +kernel
theorem dX8_sings_28 : decode cX8_sings 28 = .ok (.aload_n 0, 1) := by decide +kernel
theorem dX8_sings_29 : decode cX8_sings 29 = .ok (.getfield 7, 3) := by decide +kernel
theorem dX8_sings_32 : decode cX8_sings 32 = .ok (.iload 5, 2) := by decide +kernel
theorem dX8_sings_34 : decode cX8_sings 34 = .ok (.aload_n 0, 1) := by decide +kernel
theorem dX8_sings_35 : decode cX8_sings 35 = .ok (.getfield 7, 3) := by decide +kernel
theorem dX8_sings_38 : decode cX8_sings 38 = .ok (.iload 5, 2) := by decide +kernel
theorem dX8_sings_40 : decode cX8_sings 40 = .ok (.iaload, 1) := by decide +kernel
theorem dX8_sings_41 : decode cX8_sings 41 = .ok (.bipush 10, 2) := by decide +kernel
theorem dX8_sings_43 : decode cX8_sings 43 = .ok (.iload_n 3, 1) := by decide +kernel
theorem dX8_sings_44 : decode cX8_sings 44 = .ok (.imul, 1) := by decide +kernel
theorem dX8_sings_45 : decode cX8_sings 45 = .ok (.if_icmp .ge 10, 3) := by decide +kernel
theorem dX8_sings_48 : decode cX8_sings 48 = .ok (.bipush 10, 2) := by decide +kernel
theorem dX8_sings_50 : decode cX8_sings 50 = .ok (.iload_n 3, 1) := by decide +kernel
theorem dX8_sings_51 : decode cX8_sings 51 = .ok (.imul, 1) := by decide +kernel
theorem dX8_sings_52 : decode cX8_sings 52 = .ok (.goto 10, 3) := by decide +kernel
theorem dX8_sings_55 : decode cX8_sings 55 = .ok (.aload_n 0, 1) := by decide +kernel
theorem dX8_sings_56 : decode cX8_sings 56 = .ok (.getfield 7, 3) := by decide +kernel
theorem dX8_sings_59 : decode cX8_sings 59 = .ok (.iload 5, 2) := by decide +kernel
theorem dX8_sings_61 : decode cX8_sings 61 = .ok (.iaload, 1) := by decide +kernel
theorem dX8_sings_62 : decode cX8_sings 62 = .ok (.iastore, 1) := by decide +kernel
theorem dX8_sings_63 : decode cX8_sings 63 = .ok (.iinc 4 1, 3) := by decide +kernel
theorem dX8_sings_66 : decode cX8_sings 66 = .ok (.goto (-62), 3) := by decide +kernel
theorem dX8_sings_69 : decode cX8_sings 69 = .ok (.return_, 1) := by decide +kernel
theorem dX8_comes_0 : decode cX8_comes 0 = .ok (.iconst 0, 1) := by decide +kernel
theorem dX8_comes_1 : decode cX8_comes 1 = .ok (.istore_n 1, 1) := by decide +kernel
theorem dX8_comes_2 : decode cX8_comes 2 = .ok (.iload_n 1, 1) := by decide +kernel
theorem dX8_comes_3 : decode cX8_comes 3 = .ok (.aload_n 0, 1) := by decide +kernel
theorem dX8_comes_4 : decode cX8_comes 4 = .ok (.getfield 141, 3) := by decide +kernel
theorem dX8_comes_7 : decode cX8_comes 7 = .ok (.if_icmp .ge 101, 3) := by decide +kernel
theorem dX8_comes_10 : decode cX8_comes 10 = .ok (.bipush 15, 2) := by decide +kernel
theorem dX8_comes_12 : decode cX8_comes 12 = .ok (.istore_n 2, 1) := by decide +kernel
theorem dX8_comes_13 : decode cX8_comes 13 = .ok (.iload_n 2, 1) := by decide +kernel
theorem dX8_comes_14 : decode cX8_comes 14 = .ok (.bipush 18, 2) := by decide +kernel
theorem dX8_comes_16 : decode cX8_comes 16 = .ok (.if_icmp .ge 86, 3) := by decide +kernel
theorem dX8_comes_19 : decode cX8_comes 19 = .ok (.aload_n 0, 1) := by decide +kernel
theorem dX8_comes_20 : decode cX8_comes 20 = .ok (.getfield 32, 3) := by decide +kernel
theorem dX8_comes_23 : decode cX8_comes 23 = .ok (.iconst 4, 1) := by decide +kernel
theorem dX8_comes_24 : decode cX8_comes 24 = .ok (.iload_n 1, 1) := by decide +kernel
theorem dX8_comes_25 : decode cX8_comes 25 = .ok (.imul, 1) := by decide +kernel
theorem dX8_comes_26 : decode cX8_comes 26 = .ok (.iconst 1, 1) := by decide +kernel
theorem dX8_comes_27 : decode cX8_comes 27 = .ok (.iadd, 1) := by decide +kernel
theorem dX8_comes_28 : decode cX8_comes 28 = .ok (.iaload, 1) := by decide +kernel
theorem dX8_comes_29 : decode cX8_comes 29 = .ok (.aload_n 0, 1) := by decide +kernel
theorem dX8_comes_30 : decode cX8_comes 30 = .ok (.getfield 7, 3) := by decide +kernel
theorem dX8_comes_33 : decode cX8_comes 33 = .ok (.iconst 0, 1) := by decide +kernel
theorem dX8_comes_34 : decode cX8_comes 34 = .ok (.iaload, 1) := by decide +kernel
theorem dX8_comes_35 : decode cX8_comes 35 = .ok (.if_icmp .ne 67, 3) := by decide +kernel
theorem dX8_comes_38 : decode cX8_comes 38 = .ok (.iload_n 1, 1) := by decide +kernel
theorem dX8_comes_39 : decode cX8_comes 39 = .ok (.aload_n 0, 1) := by decide +kernel
theorem dX8_comes_40 : decode cX8_comes 40 = .ok (.getfield 32, 3) := by decide +kernel
theorem dX8_comes_43 : decode cX8_comes 43 = .ok (.iconst 4, 1) := by decide +kernel
theorem dX8_comes_44 : decode cX8_comes 44 = .ok (.iload_n 1, 1) := by decide +kernel
theorem dX8_comes_45 : decode cX8_comes 45 = .ok (.imul, 1) := by decide +kernel
theorem dX8_comes_46 : decode cX8_comes 46 = .ok (.iconst 2, 1) := by decide +kernel
theorem dX8_comes_47 : decode cX8_comes 47 = .ok (.iadd, 1) := by decide +kernel
theorem dX8_comes_48 : decode cX8_comes 48 = .ok (.iaload, 1) := by decide +kernel
theorem dX8_comes_49 : decode cX8_comes 49 = .ok (.iload_n 2, 1) := by decide +kernel
theorem dX8_comes_50 : decode cX8_comes 50 = .ok (.invokestatic 162, 3) := by decide +kernel
theorem dX8_comes_53 : decode cX8_comes 53 = .ok (.istore_n 3, 1) := by decide +kernel
theorem dX8_comes_54 : decode cX8_comes 54 = .ok (.aload_n 0, 1) := by decide +kernel
theorem dX8_comes_55 : decode cX8_comes 55 = .ok (.getfield 7, 3) := by decide +kernel
theorem dX8_comes_58 : decode cX8_comes 58 = .ok (.iload_n 3, 1) := by decide +kernel
theorem dX8_comes_59 : decode cX8_comes 59 = .ok (.aload_n 0, 1) := by decide +kernel
theorem dX8_comes_60 : decode cX8_comes 60 = .ok (.getfield 7, 3) := by decide +kernel
theorem dX8_comes_63 : decode cX8_comes 63 = .ok (.iload_n 3, 1) := by decide +kernel
theorem dX8_comes_64 : decode cX8_comes 64 = .ok (.iaload, 1) := by decide +kernel
theorem dX8_comes_65 : decode cX8_comes 65 = .ok (.bipush 10, 2) := by decide +kernel
theorem dX8_comes_67 : decode cX8_comes 67 = .ok (.aload_n 0, 1) := by decide +kernel
theorem dX8_comes_68 : decode cX8_comes 68 = .ok (.getfield 26, 3) := by decide +kernel
theorem dX8_comes_71 : decode cX8_comes 71 = .ok (.iconst 3, 1) := by decide +kernel
theorem dX8_comes_72 : decode cX8_comes 72 = .ok (.iaload, 1) := by decide +kernel
theorem dX8_comes_73 : decode cX8_comes 73 = .ok (.imul, 1) := by decide +kernel
theorem dX8_comes_74 : decode cX8_comes 74 = .ok (.if_icmp .ge 15, 3) := by decide +kernel
theorem dX8_comes_77 : decode cX8_comes 77 = .ok (.bipush 10, 2) := by decide +kernel
theorem dX8_comes_79 : decode cX8_comes 79 = .ok (.aload_n 0, 1) := by decide +kernel
theorem dX8_comes_80 : decode cX8_comes 80 = .ok (.getfield 26, 3) := by decide +kernel
theorem dX8_comes_83 : decode cX8_comes 83 = .ok (.iconst 3, 1) := by decide +kernel
theorem dX8_comes_84 : decode cX8_comes 84 = .ok (.iaload, 1) := by decide +kernel
theorem dX8_comes_85 : decode cX8_comes 85 = .ok (.imul, 1) := by decide +kernel
theorem dX8_comes_86 : decode cX8_comes 86 = .ok (.goto 9, 3) := by decide +kernel
theorem dX8_comes_89 : decode cX8_comes 89 = .ok (.aload_n 0, 1) := by decide +kernel
theorem dX8_comes_90 : decode cX8_comes 90 = .ok (.getfield 7, 3) := by decide +kernel
theorem dX8_comes_93 : decode cX8_comes 93 = .ok (.iload_n 3, 1) := by decide +kernel
theorem dX8_comes_94 : decode cX8_comes 94 = .ok (.iaload, 1) := by decide +kernel
theorem dX8_comes_95 : decode cX8_comes 95 = .ok (.iastore, 1) := by decide +kernel
theorem dX8_comes_96 : decode cX8_comes 96 = .ok (.iinc 2 1, 3) := by decide +kernel
theorem dX8_comes_99 : decode cX8_comes 99 = .ok (.goto (-86), 3) := by decide +kernel
theorem dX8_comes_102 : decode cX8_comes 102 = .ok (.iinc 1 1, 3) := by decide +kernel
theorem dX8_comes_105 : decode cX8_comes 105 = .ok (.goto (-103), 3) := by decide +kernel
theorem dX8_comes_108 : decode cX8_comes 108 = .ok (.iconst 0, 1) := by decide +kernel
theorem dX8_comes_109 : decode cX8_comes 109 = .ok (.istore_n 1, 1) := by decide +kernel
theorem dX8_comes_110 : decode cX8_comes 110 = .ok (.iload_n 1, 1) := by decide +kernel
theorem dX8_comes_111 : decode cX8_comes 111 = .ok (.aload_n 0, 1) := by decide +kernel
theorem dX8_comes_112 : decode cX8_comes 112 = .ok (.getfield 7, 3) := by decide +kernel
theorem dX8_comes_115 : decode cX8_comes 115 = .ok (.iconst 2, 1) := by decide +kernel
theorem dX8_comes_116 : decode cX8_comes 116 = .ok (.iaload, 1) := by decide +kernel
theorem dX8_comes_117 : decode cX8_comes 117 = .ok (.if_icmp .ge 58, 3) := by decide +kernel
theorem dX8_comes_120 : decode cX8_comes 120 = .ok (.iconst 3, 1) := by decide +kernel
theorem dX8_comes_121 : decode cX8_comes 121 = .ok (.iconst 4, 1) := by decide +kernel
theorem dX8_comes_122 : decode cX8_comes 122 = .ok (.iload_n 1, 1) := by decide +kernel
theorem dX8_comes_123 : decode cX8_comes 123 = .ok (.imul, 1) := by decide +kernel
theorem dX8_comes_124 : decode cX8_comes 124 = .ok (.iadd, 1) := by decide +kernel
theorem dX8_comes_125 : decode cX8_comes 125 = .ok (.istore_n 2, 1) := by decide +kernel
theorem dX8_comes_126 : decode cX8_comes 126 = .ok (.aload_n 0, 1) := by decide +kernel
theorem dX8_comes_127 : decode cX8_comes 127 = .ok (.getfield 7, 3) := by decide +kernel
theorem dX8_comes_130 : decode cX8_comes 130 = .ok (.iload_n 2, 1) := by decide +kernel
theorem dX8_comes_131 : decode cX8_comes 131 = .ok (.iaload, 1) := by decide +kernel
theorem dX8_comes_132 : decode cX8_comes 132 = .ok (.aload_n 0, 1) := by decide +kernel
theorem dX8_comes_133 : decode cX8_comes 133 = .ok (.getfield 7, 3) := by decide +kernel
theorem dX8_comes_136 : decode cX8_comes 136 = .ok (.iconst 0, 1) := by decide +kernel
theorem dX8_comes_137 : decode cX8_comes 137 = .ok (.iaload, 1) := by decide +kernel
theorem dX8_comes_138 : decode cX8_comes 138 = .ok (.if_icmp .ne 31, 3) := by decide +kernel
theorem dX8_comes_141 : decode cX8_comes 141 = .ok (.aload_n 0, 1) := by decide +kernel
theorem dX8_comes_142 : decode cX8_comes 142 = .ok (.aload_n 0, 1) := by decide +kernel
theorem dX8_comes_143 : decode cX8_comes 143 = .ok (.getfield 7, 3) := by decide +kernel
theorem dX8_comes_146 : decode cX8_comes 146 = .ok (.iload_n 2, 1) := by decide +kernel
theorem dX8_comes_147 : decode cX8_comes 147 = .ok (.iconst 1, 1) := by decide +kernel
theorem dX8_comes_148 : decode cX8_comes 148 = .ok (.iadd, 1) := by decide +kernel
theorem dX8_comes_149 : decode cX8_comes 149 = .ok (.iaload, 1) := by decide +kernel
theorem dX8_comes_150 : decode cX8_comes 150 = .ok (.aload_n 0, 1) := by decide +kernel
theorem dX8_comes_151 : decode cX8_comes 151 = .ok (.getfield 7, 3) := by decide +kernel
theorem dX8_comes_154 : decode cX8_comes 154 = .ok (.iload_n 2, 1) := by decide +kernel
theorem dX8_comes_155 : decode cX8_comes 155 = .ok (.iconst 2, 1) := by decide +kernel
theorem dX8_comes_156 : decode cX8_comes 156 = .ok (.iadd, 1) := by decide +kernel
theorem dX8_comes_157 : decode cX8_comes 157 = .ok (.iaload, 1) := by decide +kernel
theorem dX8_comes_158 : decode cX8_comes 158 = .ok (.aload_n 0, 1) := by decide +kernel
theorem dX8_comes_159 : decode cX8_comes 159 = .ok (.getfield 7, 3) := by decide +kernel
theorem dX8_comes_162 : decode cX8_comes 162 = .ok (.iload_n 2, 1) := by decide +kernel
theorem dX8_comes_163 : decode cX8_comes 163 = .ok (.iconst 3, 1) := by decide +kernel
theorem dX8_comes_164 : decode cX8_comes 164 = .ok (.iadd, 1) := by decide +kernel
theorem dX8_comes_165 : decode cX8_comes 165 = .ok (.iaload, 1) := by decide +kernel
theorem dX8_comes_166 : decode cX8_comes 166 = .ok (.invokevirtual 172, 3) := by decide +kernel
theorem dX8_comes_169 : decode cX8_comes 169 = .ok (.iinc 1 1, 3) := by decide +kernel
theorem dX8_comes_172 : decode cX8_comes 172 = .ok (.goto (-62), 3) := by decide +kernel
theorem dX8_comes_175 : decode cX8_comes 175 = .ok (.aload_n 0, 1) := by decide +kernel
theorem dX8_comes_176 : decode cX8_comes 176 = .ok (.invokevirtual 176, 3) := by decide +kernel
theorem dX8_comes_179 : decode cX8_comes 179 = .ok (.return_, 1) := by decide +kernel
theorem dX8_begins_0 : decode cX8_begins 0 = .ok (.aload_n 0, 1) := by decide +kernel
theorem dX8_begins_1 : decode cX8_begins 1 = .ok (.getfield 7, 3) := by decide +kernel
theorem dX8_begins_4 : decode cX8_begins 4 = .ok (.iconst 0, 1) := by decide +kernel
theorem dX8_begins_5 : decode cX8_begins 5 = .ok (.iconst 0, 1) := by decide +kernel
theorem dX8_begins_6 : decode cX8_begins 6 = .ok (.iastore, 1) := by decide +kernel
theorem dX8_begins_7 : decode cX8_begins 7 = .ok (.bipush 50, 2) := by decide +kernel
theorem dX8_begins_9 : decode cX8_begins 9 = .ok (.istore_n 1, 1) := by decide +kernel
theorem dX8_begins_10 : decode cX8_begins 10 = .ok (.iload_n 1, 1) := by decide +kernel
theorem dX8_begins_11 : decode cX8_begins 11 = .ok (.sipush 2950, 3) := by decide +kernel
theorem dX8_begins_14 : decode cX8_begins 14 = .ok (.if_icmp .ge 16, 3) := by decide +kernel
theorem dX8_begins_17 : decode cX8_begins 17 = .ok (.aload_n 0, 1) := by decide +kernel
theorem dX8_begins_18 : decode cX8_begins 18 = .ok (.getfield 7, 3) := by decide +kernel
theorem dX8_begins_21 : decode cX8_begins 21 = .ok (.iload_n 1, 1) := by decide +kernel
theorem dX8_begins_22 : decode cX8_begins 22 = .ok (.iconst 0, 1) := by decide +kernel
theorem dX8_begins_23 : decode cX8_begins 23 = .ok (.iastore, 1) := by decide +kernel
theorem dX8_begins_24 : decode cX8_begins 24 = .ok (.iinc 1 1, 3) := by decide +kernel
theorem dX8_begins_27 : decode cX8_begins 27 = .ok (.goto (-17), 3) := by decide +kernel
theorem dX8_begins_30 : decode cX8_begins 30 = .ok (.aload_n 0, 1) := by decide +kernel
theorem dX8_begins_31 : decode cX8_begins 31 = .ok (.invokevirtual 179, 3) := by decide +kernel
theorem dX8_begins_34 : decode cX8_begins 34 = .ok (.return_, 1) := by decide +kernel
