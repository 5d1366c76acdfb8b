theorem dX0_init_0 : decode cX0_init 0 = .ok (.aload_n 0, 1) := by decide +kernel
theorem dX0_init_1 : decode cX0_init 1 = .ok (.invokespecial 3, 3) := by decide +kernel
theorem dX0_init_4 : decode cX0_init 4 = .ok (.aload_n 0, 1) := by decide +kernel
theorem dX0_init_5 : decode cX0_init 5 = .ok (.bipush 9, 2) := by decide +kernel
theorem dX0_init_7 : decode cX0_init 7 = .ok (.newarray .int, 2) := by decide +kernel
theorem dX0_init_9 : decode cX0_init 9 = .ok (.putfield 9, 3) := by decide +kernel
theorem dX0_init_12 : decode cX0_init 12 = .ok (.aload_n 0, 1) := by decide +kernel
theorem dX0_init_13 : decode cX0_init 13 = .ok (.iconst 5, 1) := by decide +kernel
theorem dX0_init_14 : decode cX0_init 14 = .ok (.newarray .int, 2) := by decide +kernel
theorem dX0_init_16 : decode cX0_init 16 = .ok (.putfield 15, 3) := by decide +kernel
theorem dX0_init_19 : decode cX0_init 19 = .ok (.aload_n 0, 1) := by decide +kernel
theorem dX0_init_20 : decode cX0_init 20 = .ok (.iconst 5, 1) := by decide +kernel
theorem dX0_init_21 : decode cX0_init 21 = .ok (.newarray .int, 2) := by decide +kernel
theorem dX0_init_23 : decode cX0_init 23 = .ok (.putfield 18, 3) := by decide +kernel
theorem dX0_init_26 : decode cX0_init 26 = .ok (.aload_n 0, 1) := by decide +kernel
theorem dX0_init_27 : decode cX0_init 27 = .ok (.iconst 5, 1) := by decide +kernel
theorem dX0_init_28 : decode cX0_init 28 = .ok (.newarray .int, 2) := by decide +kernel
theorem dX0_init_30 : decode cX0_init 30 = .ok (.putfield 21, 3) := by decide +kernel
theorem dX0_init_33 : decode cX0_init 33 = .ok (.aload_n 0, 1) := by decide +kernel
theorem dX0_init_34 : decode cX0_init 34 = .ok (.iconst 5, 1) := by decide +kernel
theorem dX0_init_35 : decode cX0_init 35 = .ok (.newarray .boolean, 2) := by decide +kernel
theorem dX0_init_37 : decode cX0_init 37 = .ok (.putfield 24, 3) := by decide +kernel
theorem dX0_init_40 : decode cX0_init 40 = .ok (.aload_n 0, 1) := by decide +kernel
theorem dX0_init_41 : decode cX0_init 41 = .ok (.invokevirtual 28, 3) := by decide +kernel
theorem dX0_init_44 : decode cX0_init 44 = .ok (.return_, 1) := by decide +kernel
theorem dX0_reset_0 : decode cX0_reset 0 = .ok (.aload_n 0, 1) := by decide +kernel
theorem dX0_reset_1 : decode cX0_reset 1 = .ok (.iconst 0, 1) := by decide +kernel
theorem dX0_reset_2 : decode cX0_reset 2 = .ok (.putfield 31, 3) := by decide +kernel
theorem dX0_reset_5 : decode cX0_reset 5 = .ok (.aload_n 0, 1) := by decide +kernel
theorem dX0_reset_6 : decode cX0_reset 6 = .ok (.iconst 0, 1) := by decide +kernel
theorem dX0_reset_7 : decode cX0_reset 7 = .ok (.putfield 35, 3) := by decide +kernel
theorem dX0_reset_10 : decode cX0_reset 10 = .ok (.aload_n 0, 1) := by decide +kernel
theorem dX0_reset_11 : decode cX0_reset 11 = .ok (.bipush 6, 2) := by decide +kernel
theorem dX0_reset_13 : decode cX0_reset 13 = .ok (.putfield 38, 3) := by decide +kernel
theorem dX0_reset_16 : decode cX0_reset 16 = .ok (.aload_n 0, 1) := by decide +kernel
theorem dX0_reset_17 : decode cX0_reset 17 = .ok (.iconst 3, 1) := by decide +kernel
theorem dX0_reset_18 : decode cX0_reset 18 = .ok (.putfield 41, 3) := by decide +kernel
theorem dX0_reset_21 : decode cX0_reset 21 = .ok (.aload_n 0, 1) := by decide +kernel
theorem dX0_reset_22 : decode cX0_reset 22 = .ok (.iconst 5, 1) := by decide +kernel
theorem dX0_reset_23 : decode cX0_reset 23 = .ok (.putfield 44, 3) := by decide +kernel
theorem dX0_reset_26 : decode cX0_reset 26 = .ok (.aload_n 0, 1) := by decide +kernel
theorem dX0_reset_27 : decode cX0_reset 27 = .ok (.bipush 20, 2) := by decide +kernel
theorem dX0_reset_29 : decode cX0_reset 29 = .ok (.putfield 47, 3) := by decide +kernel
theorem dX0_reset_32 : decode cX0_reset 32 = .ok (.aload_n 0, 1) := by decide +kernel
theorem dX0_reset_33 : decode cX0_reset 33 = .ok (.getfield 9, 3) := by decide +kernel
theorem dX0_reset_36 : decode cX0_reset 36 = .ok (.iconst 0, 1) := by decide +kernel
theorem dX0_reset_37 : decode cX0_reset 37 = .ok (.invokestatic 50, 3) := by decide +kernel
theorem dX0_reset_40 : decode cX0_reset 40 = .ok (.return_, 1) := by decide +kernel
theorem dX0_nearness_0 : decode cX0_nearness 0 = .ok (.aload_n 0, 1) := by decide +kernel
theorem dX0_nearness_1 : decode cX0_nearness 1 = .ok (.getfield 9, 3) := by decide +kernel
theorem dX0_nearness_4 : decode cX0_nearness 4 = .ok (.iload_n 1, 1) := by decide +kernel
theorem dX0_nearness_5 : decode cX0_nearness 5 = .ok (.iconst 3, 1) := by decide +kernel
theorem dX0_nearness_6 : decode cX0_nearness 6 = .ok (.imul, 1) := by decide +kernel
theorem dX0_nearness_7 : decode cX0_nearness 7 = .ok (.iload_n 2, 1) := by decide +kernel
theorem dX0_nearness_8 : decode cX0_nearness 8 = .ok (.iadd, 1) := by decide +kernel
theorem dX0_nearness_9 : decode cX0_nearness 9 = .ok (.iaload, 1) := by decide +kernel
theorem dX0_nearness_10 : decode cX0_nearness 10 = .ok (.ireturn, 1) := by decide +kernel
theorem dX0_bringNear_0 : decode cX0_bringNear 0 = .ok (.aload_n 0, 1) := by decide +kernel
theorem dX0_bringNear_1 : decode cX0_bringNear 1 = .ok (.getfield 9, 3) := by decide +kernel
theorem dX0_bringNear_4 : decode cX0_bringNear 4 = .ok (.iload_n 1, 1) := by decide +kernel
theorem dX0_bringNear_5 : decode cX0_bringNear 5 = .ok (.iconst 3, 1) := by decide +kernel
theorem dX0_bringNear_6 : decode cX0_bringNear 6 = .ok (.imul, 1) := by decide +kernel
theorem dX0_bringNear_7 : decode cX0_bringNear 7 = .ok (.iload_n 2, 1) := by decide +kernel
theorem dX0_bringNear_8 : decode cX0_bringNear 8 = .ok (.iadd, 1) := by decide +kernel
theorem dX0_bringNear_9 : decode cX0_bringNear 9 = .ok (.iload_n 3, 1) := by decide +kernel
theorem dX0_bringNear_10 : decode cX0_bringNear 10 = .ok (.iastore, 1) := by decide +kernel
theorem dX0_bringNear_11 : decode cX0_bringNear 11 = .ok (.aload_n 0, 1) := by decide +kernel
theorem dX0_bringNear_12 : decode cX0_bringNear 12 = .ok (.getfield 9, 3) := by decide +kernel
theorem dX0_bringNear_15 : decode cX0_bringNear 15 = .ok (.iload_n 2, 1) := by decide +kernel
theorem dX0_bringNear_16 : decode cX0_bringNear 16 = .ok (.iconst 3, 1) := by decide +kernel
theorem dX0_bringNear_17 : decode cX0_bringNear 17 = .ok (.imul, 1) := by decide +kernel
theorem dX0_bringNear_18 : decode cX0_bringNear 18 = .ok (.iload_n 1, 1) := by decide +kernel
theorem dX0_bringNear_19 : decode cX0_bringNear 19 = .ok (.iadd, 1) := by decide +kernel
theorem dX0_bringNear_20 : decode cX0_bringNear 20 = .ok (.iload_n 3, 1) := by decide +kernel
theorem dX0_bringNear_21 : decode cX0_bringNear 21 = .ok (.iastore, 1) := by decide +kernel
theorem dX0_bringNear_22 : decode cX0_bringNear 22 = .ok (.return_, 1) := by decide +kernel
theorem dX0_addWord_0 : decode cX0_addWord 0 = .ok (.aload_n 0, 1) := by decide +kernel
theorem dX0_addWord_1 : decode cX0_addWord 1 = .ok (.getfield 15, 3) := by decide +kernel
theorem dX0_addWord_4 : decode cX0_addWord 4 = .ok (.aload_n 0, 1) := by decide +kernel
theorem dX0_addWord_5 : decode cX0_addWord 5 = .ok (.getfield 35, 3) := by decide +kernel
theorem dX0_addWord_8 : decode cX0_addWord 8 = .ok (.iload_n 1, 1) := by decide +kernel
theorem dX0_addWord_9 : decode cX0_addWord 9 = .ok (.iastore, 1) := by decide +kernel
theorem dX0_addWord_10 : decode cX0_addWord 10 = .ok (.aload_n 0, 1) := by decide +kernel
theorem dX0_addWord_11 : decode cX0_addWord 11 = .ok (.getfield 18, 3) := by decide +kernel
theorem dX0_addWord_14 : decode cX0_addWord 14 = .ok (.aload_n 0, 1) := by decide +kernel
theorem dX0_addWord_15 : decode cX0_addWord 15 = .ok (.getfield 35, 3) := by decide +kernel
theorem dX0_addWord_18 : decode cX0_addWord 18 = .ok (.iload_n 2, 1) := by decide +kernel
theorem dX0_addWord_19 : decode cX0_addWord 19 = .ok (.iastore, 1) := by decide +kernel
theorem dX0_addWord_20 : decode cX0_addWord 20 = .ok (.aload_n 0, 1) := by decide +kernel
theorem dX0_addWord_21 : decode cX0_addWord 21 = .ok (.getfield 21, 3) := by decide +kernel
theorem dX0_addWord_24 : decode cX0_addWord 24 = .ok (.aload_n 0, 1) := by decide +kernel
theorem dX0_addWord_25 : decode cX0_addWord 25 = .ok (.getfield 35, 3) := by decide +kernel
theorem dX0_addWord_28 : decode cX0_addWord 28 = .ok (.iload_n 3, 1) := by decide +kernel
theorem dX0_addWord_29 : decode cX0_addWord 29 = .ok (.iastore, 1) := by decide +kernel
theorem dX0_addWord_30 : decode cX0_addWord 30 = .ok (.aload_n 0, 1) := by decide +kernel
theorem dX0_addWord_31 : decode cX0_addWord 31 = .ok (.getfield 24, 3) := by decide +kernel
theorem dX0_addWord_34 : decode cX0_addWord 34 = .ok (.aload_n 0, 1) := by decide +kernel
theorem dX0_addWord_35 : decode cX0_addWord 35 = .ok (.getfield 35, 3) := by decide +kernel
theorem dX0_addWord_38 : decode cX0_addWord 38 = .ok (.iload 4, 2) := by decide +kernel
theorem dX0_addWord_40 : decode cX0_addWord 40 = .ok (.bastore, 1) := by decide +kernel
theorem dX0_addWord_41 : decode cX0_addWord 41 = .ok (.aload_n 0, 1) := by decide +kernel
theorem dX0_addWord_42 : decode cX0_addWord 42 = .ok (.dup, 1) := by decide +kernel
theorem dX0_addWord_43 : decode cX0_addWord 43 = .ok (.getfield 35, 3) := by decide +kernel
theorem dX0_addWord_46 : decode cX0_addWord 46 = .ok (.iconst 1, 1) := by decide +kernel
theorem dX0_addWord_47 : decode cX0_addWord 47 = .ok (.iadd, 1) := by decide +kernel
theorem dX0_addWord_48 : decode cX0_addWord 48 = .ok (.putfield 35, 3) := by decide +kernel
theorem dX0_addWord_51 : decode cX0_addWord 51 = .ok (.return_, 1) := by decide +kernel
theorem dX1_init_0 : decode cX1_init 0 = .ok (.aload_n 0, 1) := by decide +kernel
theorem dX1_init_1 : decode cX1_init 1 = .ok (.invokespecial 3, 3) := by decide +kernel
theorem dX1_init_4 : decode cX1_init 4 = .ok (.aload_n 0, 1) := by decide +kernel
theorem dX1_init_5 : decode cX1_init 5 = .ok (.iconst 5, 1) := by decide +kernel
theorem dX1_init_6 : decode cX1_init 6 = .ok (.newarray .int, 2) := by decide +kernel
theorem dX1_init_8 : decode cX1_init 8 = .ok (.putfield 9, 3) := by decide +kernel
theorem dX1_init_11 : decode cX1_init 11 = .ok (.return_, 1) := by decide +kernel
theorem dX2_init_0 : decode cX2_init 0 = .ok (.aload_n 0, 1) := by decide +kernel
theorem dX2_init_1 : decode cX2_init 1 = .ok (.invokespecial 3, 3) := by decide +kernel
theorem dX2_init_4 : decode cX2_init 4 = .ok (.aload_n 0, 1) := by decide +kernel
theorem dX2_init_5 : decode cX2_init 5 = .ok (.iconst 3, 1) := by decide +kernel
theorem dX2_init_6 : decode cX2_init 6 = .ok (.bipush 70, 2) := by decide +kernel
theorem dX2_init_8 : decode cX2_init 8 = .ok (.multianewarray 9 2, 4) := by decide +kernel
theorem dX2_init_12 : decode cX2_init 12 = .ok (.putfield 11, 3) := by decide +kernel
theorem dX2_init_15 : decode cX2_init 15 = .ok (.aload_n 0, 1) := by decide +kernel
theorem dX2_init_16 : decode cX2_init 16 = .ok (.iconst 3, 1) := by decide +kernel
theorem dX2_init_17 : decode cX2_init 17 = .ok (.bipush 100, 2) := by decide +kernel
theorem dX2_init_19 : decode cX2_init 19 = .ok (.multianewarray 9 2, 4) := by decide +kernel
theorem dX2_init_23 : decode cX2_init 23 = .ok (.putfield 16, 3) := by decide +kernel
theorem dX2_init_26 : decode cX2_init 26 = .ok (.aload_n 0, 1) := by decide +kernel
theorem dX2_init_27 : decode cX2_init 27 = .ok (.bipush 100, 2) := by decide +kernel
theorem dX2_init_29 : decode cX2_init 29 = .ok (.newarray .int, 2) := by decide +kernel
theorem dX2_init_31 : decode cX2_init 31 = .ok (.putfield 19, 3) := by decide +kernel
theorem dX2_init_34 : decode cX2_init 34 = .ok (.aload_n 0, 1) := by decide +kernel
theorem dX2_init_35 : decode cX2_init 35 = .ok (.bipush 100, 2) := by decide +kernel
theorem dX2_init_37 : decode cX2_init 37 = .ok (.newarray .int, 2) := by decide +kernel
theorem dX2_init_39 : decode cX2_init 39 = .ok (.putfield 23, 3) := by decide +kernel
theorem dX2_init_42 : decode cX2_init 42 = .ok (.return_, 1) := by decide +kernel
theorem dX2_copyFrom_0 : decode cX2_copyFrom 0 = .ok (.iconst 0, 1) := by decide +kernel
theorem dX2_copyFrom_1 : decode cX2_copyFrom 1 = .ok (.istore_n 2, 1) := by decide +kernel
theorem dX2_copyFrom_2 : decode cX2_copyFrom 2 = .ok (.iload_n 2, 1) := by decide +kernel
theorem dX2_copyFrom_3 : decode cX2_copyFrom 3 = .ok (.iconst 3, 1) := by decide +kernel
theorem dX2_copyFrom_4 : decode cX2_copyFrom 4 = .ok (.if_icmp .ge 47, 3) := by decide +kernel
theorem dX2_copyFrom_7 : decode cX2_copyFrom 7 = .ok (.aload_n 1, 1) := by decide +kernel
theorem dX2_copyFrom_8 : decode cX2_copyFrom 8 = .ok (.getfield 11, 3) := by decide +kernel
theorem dX2_copyFrom_11 : decode cX2_copyFrom 11 = .ok (.iload_n 2, 1) := by decide +kernel
theorem dX2_copyFrom_12 : decode cX2_copyFrom 12 = .ok (.aaload, 1) := by decide +kernel
theorem dX2_copyFrom_13 : decode cX2_copyFrom 13 = .ok (.iconst 0, 1) := by decide +kernel
theorem dX2_copyFrom_14 : decode cX2_copyFrom 14 = .ok (.aload_n 0, 1) := by decide +kernel
theorem dX2_copyFrom_15 : decode cX2_copyFrom 15 = .ok (.getfield 11, 3) := by decide +kernel
theorem dX2_copyFrom_18 : decode cX2_copyFrom 18 = .ok (.iload_n 2, 1) := by decide +kernel
theorem dX2_copyFrom_19 : decode cX2_copyFrom 19 = .ok (.aaload, 1) := by decide +kernel
theorem dX2_copyFrom_20 : decode cX2_copyFrom 20 = .ok (.iconst 0, 1) := by decide +kernel
theorem dX2_copyFrom_21 : decode cX2_copyFrom 21 = .ok (.bipush 70, 2) := by decide +kernel
theorem dX2_copyFrom_23 : decode cX2_copyFrom 23 = .ok (.invokestatic 26, 3) := by decide +kernel
theorem dX2_copyFrom_26 : decode cX2_copyFrom 26 = .ok (.aload_n 1, 1) := by decide +kernel
theorem dX2_copyFrom_27 : decode cX2_copyFrom 27 = .ok (.getfield 16, 3) := by decide +kernel
theorem dX2_copyFrom_30 : decode cX2_copyFrom 30 = .ok (.iload_n 2, 1) := by decide +kernel
theorem dX2_copyFrom_31 : decode cX2_copyFrom 31 = .ok (.aaload, 1) := by decide +kernel
theorem dX2_copyFrom_32 : decode cX2_copyFrom 32 = .ok (.iconst 0, 1) := by decide +kernel
theorem dX2_copyFrom_33 : decode cX2_copyFrom 33 = .ok (.aload_n 0, 1) := by decide +kernel
theorem dX2_copyFrom_34 : decode cX2_copyFrom 34 = .ok (.getfield 16, 3) := by decide +kernel
theorem dX2_copyFrom_37 : decode cX2_copyFrom 37 = .ok (.iload_n 2, 1) := by decide +kernel
theorem dX2_copyFrom_38 : decode cX2_copyFrom 38 = .ok (.aaload, 1) := by decide +kernel
theorem dX2_copyFrom_39 : decode cX2_copyFrom 39 = .ok (.iconst 0, 1) := by decide +kernel
theorem dX2_copyFrom_40 : decode cX2_copyFrom 40 = .ok (.bipush 100, 2) := by decide +kernel
theorem dX2_copyFrom_42 : decode cX2_copyFrom 42 = .ok (.invokestatic 26, 3) := by decide +kernel
theorem dX2_copyFrom_45 : decode cX2_copyFrom 45 = .ok (.iinc 2 1, 3) := by decide +kernel
theorem dX2_copyFrom_48 : decode cX2_copyFrom 48 = .ok (.goto (-46), 3) := by decide +kernel
theorem dX2_copyFrom_51 : decode cX2_copyFrom 51 = .ok (.aload_n 1, 1) := by decide +kernel
theorem dX2_copyFrom_52 : decode cX2_copyFrom 52 = .ok (.getfield 19, 3) := by decide +kernel
theorem dX2_copyFrom_55 : decode cX2_copyFrom 55 = .ok (.iconst 0, 1) := by decide +kernel
theorem dX2_copyFrom_56 : decode cX2_copyFrom 56 = .ok (.aload_n 0, 1) := by decide +kernel
theorem dX2_copyFrom_57 : decode cX2_copyFrom 57 = .ok (.getfield 19, 3) := by decide +kernel
theorem dX2_copyFrom_60 : decode cX2_copyFrom 60 = .ok (.iconst 0, 1) := by decide +kernel
theorem dX2_copyFrom_61 : decode cX2_copyFrom 61 = .ok (.bipush 100, 2) := by decide +kernel
theorem dX2_copyFrom_63 : decode cX2_copyFrom 63 = .ok (.invokestatic 26, 3) := by decide +kernel
theorem dX2_copyFrom_66 : decode cX2_copyFrom 66 = .ok (.aload_n 1, 1) := by decide +kernel
theorem dX2_copyFrom_67 : decode cX2_copyFrom 67 = .ok (.getfield 23, 3) := by decide +kernel
theorem dX2_copyFrom_70 : decode cX2_copyFrom 70 = .ok (.iconst 0, 1) := by decide +kernel
theorem dX2_copyFrom_71 : decode cX2_copyFrom 71 = .ok (.aload_n 0, 1) := by decide +kernel
theorem dX2_copyFrom_72 : decode cX2_copyFrom 72 = .ok (.getfield 23, 3) := by decide +kernel
theorem dX2_copyFrom_75 : decode cX2_copyFrom 75 = .ok (.iconst 0, 1) := by decide +kernel
theorem dX2_copyFrom_76 : decode cX2_copyFrom 76 = .ok (.bipush 100, 2) := by decide +kernel
theorem dX2_copyFrom_78 : decode cX2_copyFrom 78 = .ok (.invokestatic 26, 3) := by decide +kernel
theorem dX2_copyFrom_81 : decode cX2_copyFrom 81 = .ok (.return_, 1) := by decide +kernel
theorem dX2_measure_0 : decode cX2_measure 0 = .ok (.iload_n 2, 1) := by decide +kernel
theorem dX2_measure_1 : decode cX2_measure 1 = .ok (.lookupswitch 53 #[(0, 27), (1, 40)], 27) := by decide +kernel
theorem dX2_measure_28 : decode cX2_measure 28 = .ok (.aload_n 0, 1) := by decide +kernel
theorem dX2_measure_29 : decode cX2_measure 29 = .ok (.iload_n 1, 1) := by decide +kernel
theorem dX2_measure_30 : decode cX2_measure 30 = .ok (.bipush 13, 2) := by decide +kernel
theorem dX2_measure_32 : decode cX2_measure 32 = .ok (.bipush 19, 2) := by decide +kernel
theorem dX2_measure_34 : decode cX2_measure 34 = .ok (.invokevirtual 32, 3) := by decide +kernel
theorem dX2_measure_37 : decode cX2_measure 37 = .ok (.bipush 7, 2) := by decide +kernel
theorem dX2_measure_39 : decode cX2_measure 39 = .ok (.idiv, 1) := by decide +kernel
theorem dX2_measure_40 : decode cX2_measure 40 = .ok (.ireturn, 1) := by decide +kernel
theorem dX2_measure_41 : decode cX2_measure 41 = .ok (.aload_n 0, 1) := by decide +kernel
theorem dX2_measure_42 : decode cX2_measure 42 = .ok (.iload_n 1, 1) := by decide +kernel
theorem dX2_measure_43 : decode cX2_measure 43 = .ok (.bipush 35, 2) := by decide +kernel
theorem dX2_measure_45 : decode cX2_measure 45 = .ok (.bipush 50, 2) := by decide +kernel
theorem dX2_measure_47 : decode cX2_measure 47 = .ok (.invokevirtual 32, 3) := by decide +kernel
theorem dX2_measure_50 : decode cX2_measure 50 = .ok (.bipush 16, 2) := by decide +kernel
theorem dX2_measure_52 : decode cX2_measure 52 = .ok (.idiv, 1) := by decide +kernel
theorem dX2_measure_53 : decode cX2_measure 53 = .ok (.ireturn, 1) := by decide +kernel
theorem dX2_measure_54 : decode cX2_measure 54 = .ok (.aload_n 0, 1) := by decide +kernel
theorem dX2_measure_55 : decode cX2_measure 55 = .ok (.iload_n 1, 1) := by decide +kernel
theorem dX2_measure_56 : decode cX2_measure 56 = .ok (.bipush 10, 2) := by decide +kernel
theorem dX2_measure_58 : decode cX2_measure 58 = .ok (.bipush 69, 2) := by decide +kernel
theorem dX2_measure_60 : decode cX2_measure 60 = .ok (.invokevirtual 32, 3) := by decide +kernel
theorem dX2_measure_63 : decode cX2_measure 63 = .ok (.bipush 60, 2) := by decide +kernel
theorem dX2_measure_65 : decode cX2_measure 65 = .ok (.idiv, 1) := by decide +kernel
theorem dX2_measure_66 : decode cX2_measure 66 = .ok (.ireturn, 1) := by decide +kernel
theorem dX2_total_0 : decode cX2_total 0 = .ok (.iconst 0, 1) := by decide +kernel
theorem dX2_total_1 : decode cX2_total 1 = .ok (.istore 4, 2) := by decide +kernel
theorem dX2_total_3 : decode cX2_total 3 = .ok (.iload_n 2, 1) := by decide +kernel
theorem dX2_total_4 : decode cX2_total 4 = .ok (.istore 5, 2) := by decide +kernel
theorem dX2_total_6 : decode cX2_total 6 = .ok (.iload 5, 2) := by decide +kernel
theorem dX2_total_8 : decode cX2_total 8 = .ok (.iload_n 3, 1) := by decide +kernel
theorem dX2_total_9 : decode cX2_total 9 = .ok (.if_icmp .gt 23, 3) := by decide +kernel
theorem dX2_total_12 : decode cX2_total 12 = .ok (.iload 4, 2) := by decide +kernel
theorem dX2_total_14 : decode cX2_total 14 = .ok (.aload_n 0, 1) := by decide +kernel
theorem dX2_total_15 : decode cX2_total 15 = .ok (.getfield 11, 3) := by decide +kernel
theorem dX2_total_18 : decode cX2_total 18 = .ok (.iload_n 1, 1) := by decide +kernel
theorem dX2_total_19 : decode cX2_total 19 = .ok (.aaload, 1) := by decide +kernel
theorem dX2_total_20 : decode cX2_total 20 = .ok (.iload 5, 2) := by decide +kernel
theorem dX2_total_22 : decode cX2_total 22 = .ok (.iaload, 1) := by decide +kernel
theorem dX2_total_23 : decode cX2_total 23 = .ok (.iadd, 1) := by decide +kernel
theorem dX2_total_24 : decode cX2_total 24 = .ok (.istore 4, 2) := by decide +kernel
theorem dX2_total_26 : decode cX2_total 26 = .ok (.iinc 5 1, 3) := by decide +kernel
theorem dX2_total_29 : decode cX2_total 29 = .ok (.goto (-23), 3) := by decide +kernel
theorem dX2_total_32 : decode cX2_total 32 = .ok (.iload 4, 2) := by decide +kernel
theorem dX2_total_34 : decode cX2_total 34 = .ok (.ireturn, 1) := by decide +kernel
theorem dX2_replay_0 : decode cX2_replay 0 = .ok (.aload_n 0, 1) := by decide +kernel
theorem dX2_replay_1 : decode cX2_replay 1 = .ok (.aload_n 1, 1) := by decide +kernel
theorem dX2_replay_2 : decode cX2_replay 2 = .ok (.aload_n 2, 1) := by decide +kernel
theorem dX2_replay_3 : decode cX2_replay 3 = .ok (.iload_n 3, 1) := by decide +kernel
theorem dX2_replay_4 : decode cX2_replay 4 = .ok (.invokevirtual 36, 3) := by decide +kernel
theorem dX2_replay_7 : decode cX2_replay 7 = .ok (.iconst 0, 1) := by decide +kernel
theorem dX2_replay_8 : decode cX2_replay 8 = .ok (.istore 6, 2) := by decide +kernel
theorem dX2_replay_10 : decode cX2_replay 10 = .ok (.iload 6, 2) := by decide +kernel
theorem dX2_replay_12 : decode cX2_replay 12 = .ok (.iload 5, 2) := by decide +kernel
theorem dX2_replay_14 : decode cX2_replay 14 = .ok (.if_icmp .ge 20, 3) := by decide +kernel
theorem dX2_replay_17 : decode cX2_replay 17 = .ok (.aload_n 0, 1) := by decide +kernel
theorem dX2_replay_18 : decode cX2_replay 18 = .ok (.aload_n 1, 1) := by decide +kernel
theorem dX2_replay_19 : decode cX2_replay 19 = .ok (.aload_n 2, 1) := by decide +kernel
theorem dX2_replay_20 : decode cX2_replay 20 = .ok (.iload_n 3, 1) := by decide +kernel
theorem dX2_replay_21 : decode cX2_replay 21 = .ok (.iload 4, 2) := by decide +kernel
theorem dX2_replay_23 : decode cX2_replay 23 = .ok (.iload 6, 2) := by decide +kernel
theorem dX2_replay_25 : decode cX2_replay 25 = .ok (.invokevirtual 40, 3) := by decide +kernel
theorem dX2_replay_28 : decode cX2_replay 28 = .ok (.iinc 6 1, 3) := by decide +kernel
theorem dX2_replay_31 : decode cX2_replay 31 = .ok (.goto (-21), 3) := by decide +kernel
theorem dX2_replay_34 : decode cX2_replay 34 = .ok (.return_, 1) := by decide +kernel
theorem dX2_begin_0 : decode cX2_begin 0 = .ok (.iconst 0, 1) := by decide +kernel
theorem dX2_begin_1 : decode cX2_begin 1 = .ok (.istore 4, 2) := by decide +kernel
theorem dX2_begin_3 : decode cX2_begin 3 = .ok (.iload 4, 2) := by decide +kernel
theorem dX2_begin_5 : decode cX2_begin 5 = .ok (.iconst 3, 1) := by decide +kernel
theorem dX2_begin_6 : decode cX2_begin 6 = .ok (.if_icmp .ge 20, 3) := by decide +kernel
theorem dX2_begin_9 : decode cX2_begin 9 = .ok (.aload_n 0, 1) := by decide +kernel
theorem dX2_begin_10 : decode cX2_begin 10 = .ok (.getfield 11, 3) := by decide +kernel
theorem dX2_begin_13 : decode cX2_begin 13 = .ok (.iload 4, 2) := by decide +kernel
theorem dX2_begin_15 : decode cX2_begin 15 = .ok (.aaload, 1) := by decide +kernel
theorem dX2_begin_16 : decode cX2_begin 16 = .ok (.iconst 0, 1) := by decide +kernel
theorem dX2_begin_17 : decode cX2_begin 17 = .ok (.invokestatic 44, 3) := by decide +kernel
theorem dX2_begin_20 : decode cX2_begin 20 = .ok (.iinc 4 1, 3) := by decide +kernel
theorem dX2_begin_23 : decode cX2_begin 23 = .ok (.goto (-20), 3) := by decide +kernel
theorem dX2_begin_26 : decode cX2_begin 26 = .ok (.aload_n 0, 1) := by decide +kernel
theorem dX2_begin_27 : decode cX2_begin 27 = .ok (.aload_n 1, 1) := by decide +kernel
theorem dX2_begin_28 : decode cX2_begin 28 = .ok (.aload_n 2, 1) := by decide +kernel
theorem dX2_begin_29 : decode cX2_begin 29 = .ok (.iload_n 3, 1) := by decide +kernel
theorem dX2_begin_30 : decode cX2_begin 30 = .ok (.iconst 0, 1) := by decide +kernel
theorem dX2_begin_31 : decode cX2_begin 31 = .ok (.invokevirtual 50, 3) := by decide +kernel
theorem dX2_begin_34 : decode cX2_begin 34 = .ok (.aload_n 0, 1) := by decide +kernel
theorem dX2_begin_35 : decode cX2_begin 35 = .ok (.aload_n 1, 1) := by decide +kernel
theorem dX2_begin_36 : decode cX2_begin 36 = .ok (.getfield 54, 3) := by decide +kernel
theorem dX2_begin_39 : decode cX2_begin 39 = .ok (.iconst 0, 1) := by decide +kernel
theorem dX2_begin_40 : decode cX2_begin 40 = .ok (.invokevirtual 60, 3) := by decide +kernel
theorem dX2_begin_43 : decode cX2_begin 43 = .ok (.return_, 1) := by decide +kernel
theorem dX2_pass_0 : decode cX2_pass 0 = .ok (.aload_n 1, 1) := by decide +kernel
theorem dX2_pass_1 : decode cX2_pass 1 = .ok (.getfield 64, 3) := by decide +kernel
theorem dX2_pass_4 : decode cX2_pass 4 = .ok (.iload_n 3, 1) := by decide +kernel
theorem dX2_pass_5 : decode cX2_pass 5 = .ok (.iaload, 1) := by decide +kernel
theorem dX2_pass_6 : decode cX2_pass 6 = .ok (.iload 5, 2) := by decide +kernel
theorem dX2_pass_8 : decode cX2_pass 8 = .ok (.if_icmp .gt 102, 3) := by decide +kernel
theorem dX2_pass_11 : decode cX2_pass 11 = .ok (.iconst 0, 1) := by decide +kernel
theorem dX2_pass_12 : decode cX2_pass 12 = .ok (.istore 6, 2) := by decide +kernel
theorem dX2_pass_14 : decode cX2_pass 14 = .ok (.iload 6, 2) := by decide +kernel
theorem dX2_pass_16 : decode cX2_pass 16 = .ok (.aload_n 1, 1) := by decide +kernel
theorem dX2_pass_17 : decode cX2_pass 17 = .ok (.getfield 54, 3) := by decide +kernel
theorem dX2_pass_20 : decode cX2_pass 20 = .ok (.if_icmp .ge 90, 3) := by decide +kernel
theorem dX2_pass_23 : decode cX2_pass 23 = .ok (.aload_n 1, 1) := by decide +kernel
theorem dX2_pass_24 : decode cX2_pass 24 = .ok (.getfield 67, 3) := by decide +kernel
theorem dX2_pass_27 : decode cX2_pass 27 = .ok (.iload_n 3, 1) := by decide +kernel
theorem dX2_pass_28 : decode cX2_pass 28 = .ok (.baload, 1) := by decide +kernel
theorem dX2_pass_29 : decode cX2_pass 29 = .ok (.ifCond .eq 7, 3) := by decide +kernel
theorem dX2_pass_32 : decode cX2_pass 32 = .ok (.iconst 0, 1) := by decide +kernel
theorem dX2_pass_33 : decode cX2_pass 33 = .ok (.goto 10, 3) := by decide +kernel
theorem dX2_pass_36 : decode cX2_pass 36 = .ok (.aload_n 0, 1) := by decide +kernel
theorem dX2_pass_37 : decode cX2_pass 37 = .ok (.iload 6, 2) := by decide +kernel
theorem dX2_pass_39 : decode cX2_pass 39 = .ok (.iconst 1, 1) := by decide +kernel
theorem dX2_pass_40 : decode cX2_pass 40 = .ok (.invokevirtual 71, 3) := by decide +kernel
theorem dX2_pass_43 : decode cX2_pass 43 = .ok (.istore 7, 2) := by decide +kernel
theorem dX2_pass_45 : decode cX2_pass 45 = .ok (.aload_n 0, 1) := by decide +kernel
theorem dX2_pass_46 : decode cX2_pass 46 = .ok (.iload 6, 2) := by decide +kernel
theorem dX2_pass_48 : decode cX2_pass 48 = .ok (.invokevirtual 75, 3) := by decide +kernel
theorem dX2_pass_51 : decode cX2_pass 51 = .ok (.aload_n 0, 1) := by decide +kernel
theorem dX2_pass_52 : decode cX2_pass 52 = .ok (.iload 6, 2) := by decide +kernel
theorem dX2_pass_54 : decode cX2_pass 54 = .ok (.aload_n 1, 1) := by decide +kernel
theorem dX2_pass_55 : decode cX2_pass 55 = .ok (.getfield 79, 3) := by decide +kernel
theorem dX2_pass_58 : decode cX2_pass 58 = .ok (.aload_n 0, 1) := by decide +kernel
theorem dX2_pass_59 : decode cX2_pass 59 = .ok (.aload_n 1, 1) := by decide +kernel
theorem dX2_pass_60 : decode cX2_pass 60 = .ok (.iload 6, 2) := by decide +kernel
theorem dX2_pass_62 : decode cX2_pass 62 = .ok (.iload 5, 2) := by decide +kernel
theorem dX2_pass_64 : decode cX2_pass 64 = .ok (.invokevirtual 82, 3) := by decide +kernel
theorem dX2_pass_67 : decode cX2_pass 67 = .ok (.imul, 1) := by decide +kernel
theorem dX2_pass_68 : decode cX2_pass 68 = .ok (.i2l, 1) := by decide +kernel
theorem dX2_pass_69 : decode cX2_pass 69 = .ok (.iload 7, 2) := by decide +kernel
theorem dX2_pass_71 : decode cX2_pass 71 = .ok (.invokevirtual 86, 3) := by decide +kernel
theorem dX2_pass_74 : decode cX2_pass 74 = .ok (.aload_n 0, 1) := by decide +kernel
theorem dX2_pass_75 : decode cX2_pass 75 = .ok (.iload 6, 2) := by decide +kernel
theorem dX2_pass_77 : decode cX2_pass 77 = .ok (.aload_n 1, 1) := by decide +kernel
theorem dX2_pass_78 : decode cX2_pass 78 = .ok (.getfield 90, 3) := by decide +kernel
theorem dX2_pass_81 : decode cX2_pass 81 = .ok (.iload 7, 2) := by decide +kernel
theorem dX2_pass_83 : decode cX2_pass 83 = .ok (.imul, 1) := by decide +kernel
theorem dX2_pass_84 : decode cX2_pass 84 = .ok (.invokevirtual 93, 3) := by decide +kernel
theorem dX2_pass_87 : decode cX2_pass 87 = .ok (.aload_n 0, 1) := by decide +kernel
theorem dX2_pass_88 : decode cX2_pass 88 = .ok (.iload 6, 2) := by decide +kernel
theorem dX2_pass_90 : decode cX2_pass 90 = .ok (.iload 4, 2) := by decide +kernel
theorem dX2_pass_92 : decode cX2_pass 92 = .ok (.aload_n 0, 1) := by decide +kernel
theorem dX2_pass_93 : decode cX2_pass 93 = .ok (.iload 6, 2) := by decide +kernel
theorem dX2_pass_95 : decode cX2_pass 95 = .ok (.iload 5, 2) := by decide +kernel
theorem dX2_pass_97 : decode cX2_pass 97 = .ok (.invokevirtual 96, 3) := by decide +kernel
theorem dX2_pass_100 : decode cX2_pass 100 = .ok (.imul, 1) := by decide +kernel
theorem dX2_pass_101 : decode cX2_pass 101 = .ok (.invokevirtual 99, 3) := by decide +kernel
theorem dX2_pass_104 : decode cX2_pass 104 = .ok (.iinc 6 1, 3) := by decide +kernel
theorem dX2_pass_107 : decode cX2_pass 107 = .ok (.goto (-93), 3) := by decide +kernel
theorem dX2_pass_110 : decode cX2_pass 110 = .ok (.aload_n 0, 1) := by decide +kernel
theorem dX2_pass_111 : decode cX2_pass 111 = .ok (.aload_n 1, 1) := by decide +kernel
theorem dX2_pass_112 : decode cX2_pass 112 = .ok (.aload_n 2, 1) := by decide +kernel
theorem dX2_pass_113 : decode cX2_pass 113 = .ok (.iload_n 3, 1) := by decide +kernel
theorem dX2_pass_114 : decode cX2_pass 114 = .ok (.iload 5, 2) := by decide +kernel
theorem dX2_pass_116 : decode cX2_pass 116 = .ok (.iconst 1, 1) := by decide +kernel
theorem dX2_pass_117 : decode cX2_pass 117 = .ok (.iadd, 1) := by decide +kernel
theorem dX2_pass_118 : decode cX2_pass 118 = .ok (.invokevirtual 50, 3) := by decide +kernel
theorem dX2_pass_121 : decode cX2_pass 121 = .ok (.aload_n 0, 1) := by decide +kernel
theorem dX2_pass_122 : decode cX2_pass 122 = .ok (.aload_n 1, 1) := by decide +kernel
theorem dX2_pass_123 : decode cX2_pass 123 = .ok (.getfield 54, 3) := by decide +kernel
theorem dX2_pass_126 : decode cX2_pass 126 = .ok (.iload 5, 2) := by decide +kernel
theorem dX2_pass_128 : decode cX2_pass 128 = .ok (.iconst 1, 1) := by decide +kernel
theorem dX2_pass_129 : decode cX2_pass 129 = .ok (.iadd, 1) := by decide +kernel
theorem dX2_pass_130 : decode cX2_pass 130 = .ok (.invokevirtual 60, 3) := by decide +kernel
theorem dX2_pass_133 : decode cX2_pass 133 = .ok (.return_, 1) := by decide +kernel
theorem dX2_heard_0 : decode cX2_heard 0 = .ok (.aload_n 0, 1) := by decide +kernel
theorem dX2_heard_1 : decode cX2_heard 1 = .ok (.getfield 16, 3) := by decide +kernel
theorem dX2_heard_4 : decode cX2_heard 4 = .ok (.iload_n 2, 1) := by decide +kernel
theorem dX2_heard_5 : decode cX2_heard 5 = .ok (.aaload, 1) := by decide +kernel
theorem dX2_heard_6 : decode cX2_heard 6 = .ok (.iload_n 3, 1) := by decide +kernel
theorem dX2_heard_7 : decode cX2_heard 7 = .ok (.iaload, 1) := by decide +kernel
theorem dX2_heard_8 : decode cX2_heard 8 = .ok (.istore 4, 2) := by decide +kernel
theorem dX2_heard_10 : decode cX2_heard 10 = .ok (.iconst 0, 1) := by decide +kernel
theorem dX2_heard_11 : decode cX2_heard 11 = .ok (.istore 5, 2) := by decide +kernel
theorem dX2_heard_13 : decode cX2_heard 13 = .ok (.iload 5, 2) := by decide +kernel
theorem dX2_heard_15 : decode cX2_heard 15 = .ok (.aload_n 1, 1) := by decide +kernel
theorem dX2_heard_16 : decode cX2_heard 16 = .ok (.getfield 54, 3) := by decide +kernel
theorem dX2_heard_19 : decode cX2_heard 19 = .ok (.if_icmp .ge 40, 3) := by decide +kernel
theorem dX2_heard_22 : decode cX2_heard 22 = .ok (.iload 5, 2) := by decide +kernel
theorem dX2_heard_24 : decode cX2_heard 24 = .ok (.iload_n 2, 1) := by decide +kernel
theorem dX2_heard_25 : decode cX2_heard 25 = .ok (.if_icmp .eq 28, 3) := by decide +kernel
theorem dX2_heard_28 : decode cX2_heard 28 = .ok (.iload 4, 2) := by decide +kernel
theorem dX2_heard_30 : decode cX2_heard 30 = .ok (.aload_n 1, 1) := by decide +kernel
theorem dX2_heard_31 : decode cX2_heard 31 = .ok (.iload_n 2, 1) := by decide +kernel
theorem dX2_heard_32 : decode cX2_heard 32 = .ok (.iload 5, 2) := by decide +kernel
theorem dX2_heard_34 : decode cX2_heard 34 = .ok (.invokevirtual 102, 3) := by decide +kernel
theorem dX2_heard_37 : decode cX2_heard 37 = .ok (.aload_n 0, 1) := by decide +kernel
theorem dX2_heard_38 : decode cX2_heard 38 = .ok (.getfield 16, 3) := by decide +kernel
theorem dX2_heard_41 : decode cX2_heard 41 = .ok (.iload 5, 2) := by decide +kernel
theorem dX2_heard_43 : decode cX2_heard 43 = .ok (.aaload, 1) := by decide +kernel
theorem dX2_heard_44 : decode cX2_heard 44 = .ok (.iload_n 3, 1) := by decide +kernel
theorem dX2_heard_45 : decode cX2_heard 45 = .ok (.iaload, 1) := by decide +kernel
theorem dX2_heard_46 : decode cX2_heard 46 = .ok (.imul, 1) := by decide +kernel
theorem dX2_heard_47 : decode cX2_heard 47 = .ok (.bipush 10, 2) := by decide +kernel
theorem dX2_heard_49 : decode cX2_heard 49 = .ok (.idiv, 1) := by decide +kernel
theorem dX2_heard_50 : decode cX2_heard 50 = .ok (.iadd, 1) := by decide +kernel
theorem dX2_heard_51 : decode cX2_heard 51 = .ok (.istore 4, 2) := by decide +kernel
theorem dX2_heard_53 : decode cX2_heard 53 = .ok (.iinc 5 1, 3) := by decide +kernel
theorem dX2_heard_56 : decode cX2_heard 56 = .ok (.goto (-43), 3) := by decide +kernel
theorem dX2_heard_59 : decode cX2_heard 59 = .ok (.iload 4, 2) := by decide +kernel
theorem dX2_heard_61 : decode cX2_heard 61 = .ok (.sipush 1000, 3) := by decide +kernel
theorem dX2_heard_64 : decode cX2_heard 64 = .ok (.invokestatic 105, 3) := by decide +kernel
theorem dX2_heard_67 : decode cX2_heard 67 = .ok (.ireturn, 1) := by decide +kernel
theorem dX2_youngTwoAhead_0 : decode cX2_youngTwoAhead 0 = .ok (.iload_n 2, 1) := by decide +kernel
theorem dX2_youngTwoAhead_1 : decode cX2_youngTwoAhead 1 = .ok (.iconst 2, 1) := by decide +kernel
theorem dX2_youngTwoAhead_2 : decode cX2_youngTwoAhead 2 = .ok (.if_icmp .lt 16, 3) := by decide +kernel
theorem dX2_youngTwoAhead_5 : decode cX2_youngTwoAhead 5 = .ok (.aload_n 0, 1) := by decide +kernel
theorem dX2_youngTwoAhead_6 : decode cX2_youngTwoAhead 6 = .ok (.getfield 16, 3) := by decide +kernel
theorem dX2_youngTwoAhead_9 : decode cX2_youngTwoAhead 9 = .ok (.iload_n 1, 1) := by decide +kernel
theorem dX2_youngTwoAhead_10 : decode cX2_youngTwoAhead 10 = .ok (.aaload, 1) := by decide +kernel
theorem dX2_youngTwoAhead_11 : decode cX2_youngTwoAhead 11 = .ok (.iload_n 2, 1) := by decide +kernel
theorem dX2_youngTwoAhead_12 : decode cX2_youngTwoAhead 12 = .ok (.iconst 2, 1) := by decide +kernel
theorem dX2_youngTwoAhead_13 : decode cX2_youngTwoAhead 13 = .ok (.isub, 1) := by decide +kernel
theorem dX2_youngTwoAhead_14 : decode cX2_youngTwoAhead 14 = .ok (.iaload, 1) := by decide +kernel
theorem dX2_youngTwoAhead_15 : decode cX2_youngTwoAhead 15 = .ok (.goto 4, 3) := by decide +kernel
theorem dX2_youngTwoAhead_18 : decode cX2_youngTwoAhead 18 = .ok (.iconst 0, 1) := by decide +kernel
theorem dX2_youngTwoAhead_19 : decode cX2_youngTwoAhead 19 = .ok (.ireturn, 1) := by decide +kernel
theorem dX2_growOlder_0 : decode cX2_growOlder 0 = .ok (.aload_n 0, 1) := by decide +kernel
theorem dX2_growOlder_1 : decode cX2_growOlder 1 = .ok (.getfield 11, 3) := by decide +kernel
theorem dX2_growOlder_4 : decode cX2_growOlder 4 = .ok (.iload_n 1, 1) := by decide +kernel
theorem dX2_growOlder_5 : decode cX2_growOlder 5 = .ok (.aaload, 1) := by decide +kernel
theorem dX2_growOlder_6 : decode cX2_growOlder 6 = .ok (.bipush 10, 2) := by decide +kernel
theorem dX2_growOlder_8 : decode cX2_growOlder 8 = .ok (.aload_n 0, 1) := by decide +kernel
theorem dX2_growOlder_9 : decode cX2_growOlder 9 = .ok (.getfield 11, 3) := by decide +kernel
theorem dX2_growOlder_12 : decode cX2_growOlder 12 = .ok (.iload_n 1, 1) := by decide +kernel
theorem dX2_growOlder_13 : decode cX2_growOlder 13 = .ok (.aaload, 1) := by decide +kernel
theorem dX2_growOlder_14 : decode cX2_growOlder 14 = .ok (.bipush 11, 2) := by decide +kernel
theorem dX2_growOlder_16 : decode cX2_growOlder 16 = .ok (.bipush 59, 2) := by decide +kernel
theorem dX2_growOlder_18 : decode cX2_growOlder 18 = .ok (.invokestatic 26, 3) := by decide +kernel
theorem dX2_growOlder_21 : decode cX2_growOlder 21 = .ok (.aload_n 0, 1) := by decide +kernel
theorem dX2_growOlder_22 : decode cX2_growOlder 22 = .ok (.getfield 11, 3) := by decide +kernel
theorem dX2_growOlder_25 : decode cX2_growOlder 25 = .ok (.iload_n 1, 1) := by decide +kernel
theorem dX2_growOlder_26 : decode cX2_growOlder 26 = .ok (.aaload, 1) := by decide +kernel
theorem dX2_growOlder_27 : decode cX2_growOlder 27 = .ok (.bipush 10, 2) := by decide +kernel
theorem dX2_growOlder_29 : decode cX2_growOlder 29 = .ok (.iconst 0, 1) := by decide +kernel
theorem dX2_growOlder_30 : decode cX2_growOlder 30 = .ok (.iastore, 1) := by decide +kernel
theorem dX2_growOlder_31 : decode cX2_growOlder 31 = .ok (.return_, 1) := by decide +kernel
theorem dX2_takeUp_0 : decode cX2_takeUp 0 = .ok (.bipush 13, 2) := by decide +kernel
theorem dX2_takeUp_2 : decode cX2_takeUp 2 = .ok (.istore 5, 2) := by decide +kernel
theorem dX2_takeUp_4 : decode cX2_takeUp 4 = .ok (.iload 5, 2) := by decide +kernel
theorem dX2_takeUp_6 : decode cX2_takeUp 6 = .ok (.bipush 19, 2) := by decide +kernel
theorem dX2_takeUp_8 : decode cX2_takeUp 8 = .ok (.if_icmp .gt 58, 3) := by decide +kernel
theorem dX2_takeUp_11 : decode cX2_takeUp 11 = .ok (.aload_n 0, 1) := by decide +kernel
theorem dX2_takeUp_12 : decode cX2_takeUp 12 = .ok (.getfield 11, 3) := by decide +kernel
theorem dX2_takeUp_15 : decode cX2_takeUp 15 = .ok (.iload_n 1, 1) := by decide +kernel
theorem dX2_takeUp_16 : decode cX2_takeUp 16 = .ok (.aaload, 1) := by decide +kernel
theorem dX2_takeUp_17 : decode cX2_takeUp 17 = .ok (.iload 5, 2) := by decide +kernel
theorem dX2_takeUp_19 : decode cX2_takeUp 19 = .ok (.iaload, 1) := by decide +kernel
theorem dX2_takeUp_20 : decode cX2_takeUp 20 = .ok (.istore 6, 2) := by decide +kernel
theorem dX2_takeUp_22 : decode cX2_takeUp 22 = .ok (.lload_n 2, 1) := by decide +kernel
theorem dX2_takeUp_23 : decode cX2_takeUp 23 = .ok (.sipush 1000, 3) := by decide +kernel
theorem dX2_takeUp_26 : decode cX2_takeUp 26 = .ok (.iload 6, 2) := by decide +kernel
theorem dX2_takeUp_28 : decode cX2_takeUp 28 = .ok (.isub, 1) := by decide +kernel
theorem dX2_takeUp_29 : decode cX2_takeUp 29 = .ok (.i2l, 1) := by decide +kernel
theorem dX2_takeUp_30 : decode cX2_takeUp 30 = .ok (.lmul, 1) := by decide +kernel
theorem dX2_takeUp_31 : decode cX2_takeUp 31 = .ok (.sipush 1000, 3) := by decide +kernel
theorem dX2_takeUp_34 : decode cX2_takeUp 34 = .ok (.iload 4, 2) := by decide +kernel
theorem dX2_takeUp_36 : decode cX2_takeUp 36 = .ok (.isub, 1) := by decide +kernel
theorem dX2_takeUp_37 : decode cX2_takeUp 37 = .ok (.i2l, 1) := by decide +kernel
theorem dX2_takeUp_38 : decode cX2_takeUp 38 = .ok (.lmul, 1) := by decide +kernel
theorem dX2_takeUp_39 : decode cX2_takeUp 39 = .ok (.ldc2_w 110, 3) := by decide +kernel
theorem dX2_takeUp_42 : decode cX2_takeUp 42 = .ok (.ldiv, 1) := by decide +kernel
theorem dX2_takeUp_43 : decode cX2_takeUp 43 = .ok (.lstore 7, 2) := by decide +kernel
theorem dX2_takeUp_45 : decode cX2_takeUp 45 = .ok (.aload_n 0, 1) := by decide +kernel
theorem dX2_takeUp_46 : decode cX2_takeUp 46 = .ok (.getfield 11, 3) := by decide +kernel
theorem dX2_takeUp_49 : decode cX2_takeUp 49 = .ok (.iload_n 1, 1) := by decide +kernel
theorem dX2_takeUp_50 : decode cX2_takeUp 50 = .ok (.aaload, 1) := by decide +kernel
theorem dX2_takeUp_51 : decode cX2_takeUp 51 = .ok (.iload 5, 2) := by decide +kernel
theorem dX2_takeUp_53 : decode cX2_takeUp 53 = .ok (.iload 6, 2) := by decide +kernel
theorem dX2_takeUp_55 : decode cX2_takeUp 55 = .ok (.lload 7, 2) := by decide +kernel
theorem dX2_takeUp_57 : decode cX2_takeUp 57 = .ok (.l2i, 1) := by decide +kernel
theorem dX2_takeUp_58 : decode cX2_takeUp 58 = .ok (.iadd, 1) := by decide +kernel
theorem dX2_takeUp_59 : decode cX2_takeUp 59 = .ok (.iastore, 1) := by decide +kernel
theorem dX2_takeUp_60 : decode cX2_takeUp 60 = .ok (.iinc 5 1, 3) := by decide +kernel
theorem dX2_takeUp_63 : decode cX2_takeUp 63 = .ok (.goto (-59), 3) := by decide +kernel
theorem dX2_takeUp_66 : decode cX2_takeUp 66 = .ok (.return_, 1) := by decide +kernel
theorem dX2_dropIt_0 : decode cX2_dropIt 0 = .ok (.bipush 10, 2) := by decide +kernel
theorem dX2_dropIt_2 : decode cX2_dropIt 2 = .ok (.istore_n 3, 1) := by decide +kernel
theorem dX2_dropIt_3 : decode cX2_dropIt 3 = .ok (.iload_n 3, 1) := by decide +kernel
theorem dX2_dropIt_4 : decode cX2_dropIt 4 = .ok (.bipush 19, 2) := by decide +kernel
theorem dX2_dropIt_6 : decode cX2_dropIt 6 = .ok (.if_icmp .gt 38, 3) := by decide +kernel
theorem dX2_dropIt_9 : decode cX2_dropIt 9 = .ok (.aload_n 0, 1) := by decide +kernel
theorem dX2_dropIt_10 : decode cX2_dropIt 10 = .ok (.getfield 11, 3) := by decide +kernel
theorem dX2_dropIt_13 : decode cX2_dropIt 13 = .ok (.iload_n 1, 1) := by decide +kernel
theorem dX2_dropIt_14 : decode cX2_dropIt 14 = .ok (.aaload, 1) := by decide +kernel
theorem dX2_dropIt_15 : decode cX2_dropIt 15 = .ok (.iload_n 3, 1) := by decide +kernel
theorem dX2_dropIt_16 : decode cX2_dropIt 16 = .ok (.iaload, 1) := by decide +kernel
theorem dX2_dropIt_17 : decode cX2_dropIt 17 = .ok (.istore 4, 2) := by decide +kernel
theorem dX2_dropIt_19 : decode cX2_dropIt 19 = .ok (.aload_n 0, 1) := by decide +kernel
theorem dX2_dropIt_20 : decode cX2_dropIt 20 = .ok (.getfield 11, 3) := by decide +kernel
theorem dX2_dropIt_23 : decode cX2_dropIt 23 = .ok (.iload_n 1, 1) := by decide +kernel
theorem dX2_dropIt_24 : decode cX2_dropIt 24 = .ok (.aaload, 1) := by decide +kernel
theorem dX2_dropIt_25 : decode cX2_dropIt 25 = .ok (.iload_n 3, 1) := by decide +kernel
theorem dX2_dropIt_26 : decode cX2_dropIt 26 = .ok (.iload 4, 2) := by decide +kernel
theorem dX2_dropIt_28 : decode cX2_dropIt 28 = .ok (.iload_n 2, 1) := by decide +kernel
theorem dX2_dropIt_29 : decode cX2_dropIt 29 = .ok (.iload 4, 2) := by decide +kernel
theorem dX2_dropIt_31 : decode cX2_dropIt 31 = .ok (.imul, 1) := by decide +kernel
theorem dX2_dropIt_32 : decode cX2_dropIt 32 = .ok (.sipush 10000, 3) := by decide +kernel
theorem dX2_dropIt_35 : decode cX2_dropIt 35 = .ok (.idiv, 1) := by decide +kernel
theorem dX2_dropIt_36 : decode cX2_dropIt 36 = .ok (.isub, 1) := by decide +kernel
theorem dX2_dropIt_37 : decode cX2_dropIt 37 = .ok (.iastore, 1) := by decide +kernel
theorem dX2_dropIt_38 : decode cX2_dropIt 38 = .ok (.iinc 3 1, 3) := by decide +kernel
theorem dX2_dropIt_41 : decode cX2_dropIt 41 = .ok (.goto (-38), 3) := by decide +kernel
theorem dX2_dropIt_44 : decode cX2_dropIt 44 = .ok (.return_, 1) := by decide +kernel
theorem dX2_learnIt_0 : decode cX2_learnIt 0 = .ok (.bipush 35, 2) := by decide +kernel
theorem dX2_learnIt_2 : decode cX2_learnIt 2 = .ok (.istore_n 3, 1) := by decide +kernel
theorem dX2_learnIt_3 : decode cX2_learnIt 3 = .ok (.iload_n 3, 1) := by decide +kernel
theorem dX2_learnIt_4 : decode cX2_learnIt 4 = .ok (.bipush 50, 2) := by decide +kernel
theorem dX2_learnIt_6 : decode cX2_learnIt 6 = .ok (.if_icmp .gt 42, 3) := by decide +kernel
theorem dX2_learnIt_9 : decode cX2_learnIt 9 = .ok (.aload_n 0, 1) := by decide +kernel
theorem dX2_learnIt_10 : decode cX2_learnIt 10 = .ok (.getfield 11, 3) := by decide +kernel
theorem dX2_learnIt_13 : decode cX2_learnIt 13 = .ok (.iload_n 1, 1) := by decide +kernel
theorem dX2_learnIt_14 : decode cX2_learnIt 14 = .ok (.aaload, 1) := by decide +kernel
theorem dX2_learnIt_15 : decode cX2_learnIt 15 = .ok (.iload_n 3, 1) := by decide +kernel
theorem dX2_learnIt_16 : decode cX2_learnIt 16 = .ok (.iaload, 1) := by decide +kernel
theorem dX2_learnIt_17 : decode cX2_learnIt 17 = .ok (.istore 4, 2) := by decide +kernel
theorem dX2_learnIt_19 : decode cX2_learnIt 19 = .ok (.aload_n 0, 1) := by decide +kernel
theorem dX2_learnIt_20 : decode cX2_learnIt 20 = .ok (.getfield 11, 3) := by decide +kernel
theorem dX2_learnIt_23 : decode cX2_learnIt 23 = .ok (.iload_n 1, 1) := by decide +kernel
theorem dX2_learnIt_24 : decode cX2_learnIt 24 = .ok (.aaload, 1) := by decide +kernel
theorem dX2_learnIt_25 : decode cX2_learnIt 25 = .ok (.iload_n 3, 1) := by decide +kernel
theorem dX2_learnIt_26 : decode cX2_learnIt 26 = .ok (.iload 4, 2) := by decide +kernel
theorem dX2_learnIt_28 : decode cX2_learnIt 28 = .ok (.iload_n 2, 1) := by decide +kernel
theorem dX2_learnIt_29 : decode cX2_learnIt 29 = .ok (.sipush 1000, 3) := by decide +kernel
theorem dX2_learnIt_32 : decode cX2_learnIt 32 = .ok (.iload 4, 2) := by decide +kernel
theorem dX2_learnIt_34 : decode cX2_learnIt 34 = .ok (.isub, 1) := by decide +kernel
theorem dX2_learnIt_35 : decode cX2_learnIt 35 = .ok (.imul, 1) := by decide +kernel
theorem dX2_learnIt_36 : decode cX2_learnIt 36 = .ok (.sipush 10000, 3) := by decide +kernel
theorem dX2_learnIt_39 : decode cX2_learnIt 39 = .ok (.idiv, 1) := by decide +kernel
theorem dX2_learnIt_40 : decode cX2_learnIt 40 = .ok (.iadd, 1) := by decide +kernel
theorem dX2_learnIt_41 : decode cX2_learnIt 41 = .ok (.iastore, 1) := by decide +kernel
theorem dX2_learnIt_42 : decode cX2_learnIt 42 = .ok (.iinc 3 1, 3) := by decide +kernel
theorem dX2_learnIt_45 : decode cX2_learnIt 45 = .ok (.goto (-42), 3) := by decide +kernel
theorem dX2_learnIt_48 : decode cX2_learnIt 48 = .ok (.return_, 1) := by decide +kernel
theorem dX2_arrive_0 : decode cX2_arrive 0 = .ok (.aload_n 1, 1) := by decide +kernel
theorem dX2_arrive_1 : decode cX2_arrive 1 = .ok (.getfield 64, 3) := by decide +kernel
theorem dX2_arrive_4 : decode cX2_arrive 4 = .ok (.iload_n 3, 1) := by decide +kernel
theorem dX2_arrive_5 : decode cX2_arrive 5 = .ok (.iaload, 1) := by decide +kernel
theorem dX2_arrive_6 : decode cX2_arrive 6 = .ok (.iload 4, 2) := by decide +kernel
theorem dX2_arrive_8 : decode cX2_arrive 8 = .ok (.if_icmp .ne 24, 3) := by decide +kernel
theorem dX2_arrive_11 : decode cX2_arrive 11 = .ok (.aload_n 0, 1) := by decide +kernel
theorem dX2_arrive_12 : decode cX2_arrive 12 = .ok (.aload_n 1, 1) := by decide +kernel
theorem dX2_arrive_13 : decode cX2_arrive 13 = .ok (.getfield 112, 3) := by decide +kernel
theorem dX2_arrive_16 : decode cX2_arrive 16 = .ok (.iload_n 3, 1) := by decide +kernel
theorem dX2_arrive_17 : decode cX2_arrive 17 = .ok (.iaload, 1) := by decide +kernel
theorem dX2_arrive_18 : decode cX2_arrive 18 = .ok (.bipush 15, 2) := by decide +kernel
theorem dX2_arrive_20 : decode cX2_arrive 20 = .ok (.bipush 17, 2) := by decide +kernel
theorem dX2_arrive_22 : decode cX2_arrive 22 = .ok (.bipush 10, 2) := by decide +kernel
theorem dX2_arrive_24 : decode cX2_arrive 24 = .ok (.aload_n 1, 1) := by decide +kernel
theorem dX2_arrive_25 : decode cX2_arrive 25 = .ok (.getfield 115, 3) := by decide +kernel
theorem dX2_arrive_28 : decode cX2_arrive 28 = .ok (.imul, 1) := by decide +kernel
theorem dX2_arrive_29 : decode cX2_arrive 29 = .ok (.invokevirtual 118, 3) := by decide +kernel
theorem dX2_arrive_32 : decode cX2_arrive 32 = .ok (.aload_n 1, 1) := by decide +kernel
theorem dX2_arrive_33 : decode cX2_arrive 33 = .ok (.getfield 64, 3) := by decide +kernel
theorem dX2_arrive_36 : decode cX2_arrive 36 = .ok (.iload_n 3, 1) := by decide +kernel
theorem dX2_arrive_37 : decode cX2_arrive 37 = .ok (.iaload, 1) := by decide +kernel
theorem dX2_arrive_38 : decode cX2_arrive 38 = .ok (.iload 4, 2) := by decide +kernel
theorem dX2_arrive_40 : decode cX2_arrive 40 = .ok (.if_icmp .gt 69, 3) := by decide +kernel
theorem dX2_arrive_43 : decode cX2_arrive 43 = .ok (.iconst 0, 1) := by decide +kernel
theorem dX2_arrive_44 : decode cX2_arrive 44 = .ok (.istore 5, 2) := by decide +kernel
theorem dX2_arrive_46 : decode cX2_arrive 46 = .ok (.iload 5, 2) := by decide +kernel
theorem dX2_arrive_48 : decode cX2_arrive 48 = .ok (.aload_n 2, 1) := by decide +kernel
theorem dX2_arrive_49 : decode cX2_arrive 49 = .ok (.getfield 122, 3) := by decide +kernel
theorem dX2_arrive_52 : decode cX2_arrive 52 = .ok (.if_icmp .ge 57, 3) := by decide +kernel
theorem dX2_arrive_55 : decode cX2_arrive 55 = .ok (.aload_n 2, 1) := by decide +kernel
theorem dX2_arrive_56 : decode cX2_arrive 56 = .ok (.getfield 127, 3) := by decide +kernel
theorem dX2_arrive_59 : decode cX2_arrive 59 = .ok (.iload 5, 2) := by decide +kernel
theorem dX2_arrive_61 : decode cX2_arrive 61 = .ok (.iaload, 1) := by decide +kernel
theorem dX2_arrive_62 : decode cX2_arrive 62 = .ok (.iload 4, 2) := by decide +kernel
theorem dX2_arrive_64 : decode cX2_arrive 64 = .ok (.if_icmp .ne 39, 3) := by decide +kernel
theorem dX2_arrive_67 : decode cX2_arrive 67 = .ok (.aload_n 2, 1) := by decide +kernel
theorem dX2_arrive_68 : decode cX2_arrive 68 = .ok (.getfield 128, 3) := by decide +kernel
theorem dX2_arrive_71 : decode cX2_arrive 71 = .ok (.iload 5, 2) := by decide +kernel
theorem dX2_arrive_73 : decode cX2_arrive 73 = .ok (.iaload, 1) := by decide +kernel
theorem dX2_arrive_74 : decode cX2_arrive 74 = .ok (.iload_n 3, 1) := by decide +kernel
theorem dX2_arrive_75 : decode cX2_arrive 75 = .ok (.if_icmp .ne 28, 3) := by decide +kernel
theorem dX2_arrive_78 : decode cX2_arrive 78 = .ok (.aload_n 0, 1) := by decide +kernel
theorem dX2_arrive_79 : decode cX2_arrive 79 = .ok (.aload_n 2, 1) := by decide +kernel
theorem dX2_arrive_80 : decode cX2_arrive 80 = .ok (.getfield 131, 3) := by decide +kernel
theorem dX2_arrive_83 : decode cX2_arrive 83 = .ok (.iload 5, 2) := by decide +kernel
theorem dX2_arrive_85 : decode cX2_arrive 85 = .ok (.iaload, 1) := by decide +kernel
theorem dX2_arrive_86 : decode cX2_arrive 86 = .ok (.bipush 13, 2) := by decide +kernel
theorem dX2_arrive_88 : decode cX2_arrive 88 = .ok (.bipush 19, 2) := by decide +kernel
theorem dX2_arrive_90 : decode cX2_arrive 90 = .ok (.bipush 10, 2) := by decide +kernel
theorem dX2_arrive_92 : decode cX2_arrive 92 = .ok (.aload_n 2, 1) := by decide +kernel
theorem dX2_arrive_93 : decode cX2_arrive 93 = .ok (.getfield 133, 3) := by decide +kernel
theorem dX2_arrive_96 : decode cX2_arrive 96 = .ok (.iload 5, 2) := by decide +kernel
theorem dX2_arrive_98 : decode cX2_arrive 98 = .ok (.iaload, 1) := by decide +kernel
theorem dX2_arrive_99 : decode cX2_arrive 99 = .ok (.imul, 1) := by decide +kernel
theorem dX2_arrive_100 : decode cX2_arrive 100 = .ok (.invokevirtual 118, 3) := by decide +kernel
theorem dX2_arrive_103 : decode cX2_arrive 103 = .ok (.iinc 5 1, 3) := by decide +kernel
theorem dX2_arrive_106 : decode cX2_arrive 106 = .ok (.goto (-60), 3) := by decide +kernel
theorem dX2_arrive_109 : decode cX2_arrive 109 = .ok (.return_, 1) := by decide +kernel
theorem dX2_raise_0 : decode cX2_raise 0 = .ok (.iload_n 2, 1) := by decide +kernel
theorem dX2_raise_1 : decode cX2_raise 1 = .ok (.istore 5, 2) := by decide +kernel
theorem dX2_raise_3 : decode cX2_raise 3 = .ok (.iload 5, 2) := by decide +kernel
theorem dX2_raise_5 : decode cX2_raise 5 = .ok (.iload_n 3, 1) := by decide +kernel
theorem dX2_raise_6 : decode cX2_raise 6 = .ok (.if_icmp .gt 32, 3) := by decide +kernel
theorem dX2_raise_9 : decode cX2_raise 9 = .ok (.aload_n 0, 1) := by decide +kernel
theorem dX2_raise_10 : decode cX2_raise 10 = .ok (.getfield 11, 3) := by decide +kernel
theorem dX2_raise_13 : decode cX2_raise 13 = .ok (.iload_n 1, 1) := by decide +kernel
theorem dX2_raise_14 : decode cX2_raise 14 = .ok (.aaload, 1) := by decide +kernel
theorem dX2_raise_15 : decode cX2_raise 15 = .ok (.iload 5, 2) := by decide +kernel
theorem dX2_raise_17 : decode cX2_raise 17 = .ok (.aload_n 0, 1) := by decide +kernel
theorem dX2_raise_18 : decode cX2_raise 18 = .ok (.getfield 11, 3) := by decide +kernel
theorem dX2_raise_21 : decode cX2_raise 21 = .ok (.iload_n 1, 1) := by decide +kernel
theorem dX2_raise_22 : decode cX2_raise 22 = .ok (.aaload, 1) := by decide +kernel
theorem dX2_raise_23 : decode cX2_raise 23 = .ok (.iload 5, 2) := by decide +kernel
theorem dX2_raise_25 : decode cX2_raise 25 = .ok (.iaload, 1) := by decide +kernel
theorem dX2_raise_26 : decode cX2_raise 26 = .ok (.iload 4, 2) := by decide +kernel
theorem dX2_raise_28 : decode cX2_raise 28 = .ok (.invokestatic 136, 3) := by decide +kernel
theorem dX2_raise_31 : decode cX2_raise 31 = .ok (.iastore, 1) := by decide +kernel
theorem dX2_raise_32 : decode cX2_raise 32 = .ok (.iinc 5 1, 3) := by decide +kernel
theorem dX2_raise_35 : decode cX2_raise 35 = .ok (.goto (-32), 3) := by decide +kernel
theorem dX2_raise_38 : decode cX2_raise 38 = .ok (.return_, 1) := by decide +kernel
theorem dX2_note_0 : decode cX2_note 0 = .ok (.iconst 0, 1) := by decide +kernel
theorem dX2_note_1 : decode cX2_note 1 = .ok (.istore_n 3, 1) := by decide +kernel
theorem dX2_note_2 : decode cX2_note 2 = .ok (.iconst 0, 1) := by decide +kernel
theorem dX2_note_3 : decode cX2_note 3 = .ok (.istore 4, 2) := by decide +kernel
theorem dX2_note_5 : decode cX2_note 5 = .ok (.iconst 0, 1) := by decide +kernel
theorem dX2_note_6 : decode cX2_note 6 = .ok (.istore 5, 2) := by decide +kernel
theorem dX2_note_8 : decode cX2_note 8 = .ok (.iload 5, 2) := by decide +kernel
theorem dX2_note_10 : decode cX2_note 10 = .ok (.iload_n 1, 1) := by decide +kernel
theorem dX2_note_11 : decode cX2_note 11 = .ok (.if_icmp .ge 49, 3) := by decide +kernel
theorem dX2_note_14 : decode cX2_note 14 = .ok (.aload_n 0, 1) := by decide +kernel
theorem dX2_note_15 : decode cX2_note 15 = .ok (.getfield 16, 3) := by decide +kernel
theorem dX2_note_18 : decode cX2_note 18 = .ok (.iload 5, 2) := by decide +kernel
theorem dX2_note_20 : decode cX2_note 20 = .ok (.aaload, 1) := by decide +kernel
theorem dX2_note_21 : decode cX2_note 21 = .ok (.iload_n 2, 1) := by decide +kernel
theorem dX2_note_22 : decode cX2_note 22 = .ok (.aload_n 0, 1) := by decide +kernel
theorem dX2_note_23 : decode cX2_note 23 = .ok (.iload 5, 2) := by decide +kernel
theorem dX2_note_25 : decode cX2_note 25 = .ok (.iconst 0, 1) := by decide +kernel
theorem dX2_note_26 : decode cX2_note 26 = .ok (.invokevirtual 71, 3) := by decide +kernel
theorem dX2_note_29 : decode cX2_note 29 = .ok (.iastore, 1) := by decide +kernel
theorem dX2_note_30 : decode cX2_note 30 = .ok (.iload_n 3, 1) := by decide +kernel
theorem dX2_note_31 : decode cX2_note 31 = .ok (.aload_n 0, 1) := by decide +kernel
theorem dX2_note_32 : decode cX2_note 32 = .ok (.getfield 16, 3) := by decide +kernel
theorem dX2_note_35 : decode cX2_note 35 = .ok (.iload 5, 2) := by decide +kernel
theorem dX2_note_37 : decode cX2_note 37 = .ok (.aaload, 1) := by decide +kernel
theorem dX2_note_38 : decode cX2_note 38 = .ok (.iload_n 2, 1) := by decide +kernel
theorem dX2_note_39 : decode cX2_note 39 = .ok (.iaload, 1) := by decide +kernel
theorem dX2_note_40 : decode cX2_note 40 = .ok (.iadd, 1) := by decide +kernel
theorem dX2_note_41 : decode cX2_note 41 = .ok (.istore_n 3, 1) := by decide +kernel
theorem dX2_note_42 : decode cX2_note 42 = .ok (.iload 4, 2) := by decide +kernel
theorem dX2_note_44 : decode cX2_note 44 = .ok (.aload_n 0, 1) := by decide +kernel
theorem dX2_note_45 : decode cX2_note 45 = .ok (.iload 5, 2) := by decide +kernel
theorem dX2_note_47 : decode cX2_note 47 = .ok (.iconst 1, 1) := by decide +kernel
theorem dX2_note_48 : decode cX2_note 48 = .ok (.invokevirtual 71, 3) := by decide +kernel
theorem dX2_note_51 : decode cX2_note 51 = .ok (.iadd, 1) := by decide +kernel
theorem dX2_note_52 : decode cX2_note 52 = .ok (.istore 4, 2) := by decide +kernel
theorem dX2_note_54 : decode cX2_note 54 = .ok (.iinc 5 1, 3) := by decide +kernel
theorem dX2_note_57 : decode cX2_note 57 = .ok (.goto (-49), 3) := by decide +kernel
theorem dX2_note_60 : decode cX2_note 60 = .ok (.aload_n 0, 1) := by decide +kernel
theorem dX2_note_61 : decode cX2_note 61 = .ok (.getfield 19, 3) := by decide +kernel
theorem dX2_note_64 : decode cX2_note 64 = .ok (.iload_n 2, 1) := by decide +kernel
theorem dX2_note_65 : decode cX2_note 65 = .ok (.iload_n 3, 1) := by decide +kernel
theorem dX2_note_66 : decode cX2_note 66 = .ok (.iload_n 1, 1) := by decide +kernel
theorem dX2_note_67 : decode cX2_note 67 = .ok (.invokestatic 139, 3) := by decide +kernel
theorem dX2_note_70 : decode cX2_note 70 = .ok (.iastore, 1) := by decide +kernel
theorem dX2_note_71 : decode cX2_note 71 = .ok (.aload_n 0, 1) := by decide +kernel
theorem dX2_note_72 : decode cX2_note 72 = .ok (.getfield 23, 3) := by decide +kernel
theorem dX2_note_75 : decode cX2_note 75 = .ok (.iload_n 2, 1) := by decide +kernel
theorem dX2_note_76 : decode cX2_note 76 = .ok (.iload 4, 2) := by decide +kernel
theorem dX2_note_78 : decode cX2_note 78 = .ok (.iload_n 1, 1) := by decide +kernel
theorem dX2_note_79 : decode cX2_note 79 = .ok (.invokestatic 139, 3) := by decide +kernel
theorem dX2_note_82 : decode cX2_note 82 = .ok (.iastore, 1) := by decide +kernel
theorem dX2_note_83 : decode cX2_note 83 = .ok (.return_, 1) := by decide +kernel
theorem dX2_peakYear_0 : decode cX2_peakYear 0 = .ok (.iconst 0, 1) := by decide +kernel
theorem dX2_peakYear_1 : decode cX2_peakYear 1 = .ok (.istore_n 2, 1) := by decide +kernel
theorem dX2_peakYear_2 : decode cX2_peakYear 2 = .ok (.iconst 1, 1) := by decide +kernel
theorem dX2_peakYear_3 : decode cX2_peakYear 3 = .ok (.istore_n 3, 1) := by decide +kernel
theorem dX2_peakYear_4 : decode cX2_peakYear 4 = .ok (.iload_n 3, 1) := by decide +kernel
theorem dX2_peakYear_5 : decode cX2_peakYear 5 = .ok (.iload_n 1, 1) := by decide +kernel
theorem dX2_peakYear_6 : decode cX2_peakYear 6 = .ok (.if_icmp .gt 26, 3) := by decide +kernel
theorem dX2_peakYear_9 : decode cX2_peakYear 9 = .ok (.aload_n 0, 1) := by decide +kernel
theorem dX2_peakYear_10 : decode cX2_peakYear 10 = .ok (.getfield 19, 3) := by decide +kernel
theorem dX2_peakYear_13 : decode cX2_peakYear 13 = .ok (.iload_n 3, 1) := by decide +kernel
theorem dX2_peakYear_14 : decode cX2_peakYear 14 = .ok (.iaload, 1) := by decide +kernel
theorem dX2_peakYear_15 : decode cX2_peakYear 15 = .ok (.aload_n 0, 1) := by decide +kernel
theorem dX2_peakYear_16 : decode cX2_peakYear 16 = .ok (.getfield 19, 3) := by decide +kernel
theorem dX2_peakYear_19 : decode cX2_peakYear 19 = .ok (.iload_n 2, 1) := by decide +kernel
theorem dX2_peakYear_20 : decode cX2_peakYear 20 = .ok (.iaload, 1) := by decide +kernel
theorem dX2_peakYear_21 : decode cX2_peakYear 21 = .ok (.if_icmp .le 5, 3) := by decide +kernel
theorem dX2_peakYear_24 : decode cX2_peakYear 24 = .ok (.iload_n 3, 1) := by decide +kernel
theorem dX2_peakYear_25 : decode cX2_peakYear 25 = .ok (.istore_n 2, 1) := by decide +kernel
theorem dX2_peakYear_26 : decode cX2_peakYear 26 = .ok (.iinc 3 1, 3) := by decide +kernel
theorem dX2_peakYear_29 : decode cX2_peakYear 29 = .ok (.goto (-25), 3) := by decide +kernel
theorem dX2_peakYear_32 : decode cX2_peakYear 32 = .ok (.iload_n 2, 1) := by decide +kernel
theorem dX2_peakYear_33 : decode cX2_peakYear 33 = .ok (.ireturn, 1) := by decide +kernel
theorem dX2_peak_0 : decode cX2_peak 0 = .ok (.aload_n 0, 1) := by decide +kernel
theorem dX2_peak_1 : decode cX2_peak 1 = .ok (.getfield 19, 3) := by decide +kernel
theorem dX2_peak_4 : decode cX2_peak 4 = .ok (.aload_n 0, 1) := by decide +kernel
theorem dX2_peak_5 : decode cX2_peak 5 = .ok (.iload_n 1, 1) := by decide +kernel
theorem dX2_peak_6 : decode cX2_peak 6 = .ok (.invokevirtual 142, 3) := by decide +kernel
theorem dX2_peak_9 : decode cX2_peak 9 = .ok (.iaload, 1) := by decide +kernel
theorem dX2_peak_10 : decode cX2_peak 10 = .ok (.ireturn, 1) := by decide +kernel
theorem dX2_overYear_0 : decode cX2_overYear 0 = .ok (.aload_n 0, 1) := by decide +kernel
theorem dX2_overYear_1 : decode cX2_overYear 1 = .ok (.iload_n 1, 1) := by decide +kernel
theorem dX2_overYear_2 : decode cX2_overYear 2 = .ok (.invokevirtual 142, 3) := by decide +kernel
theorem dX2_overYear_5 : decode cX2_overYear 5 = .ok (.iconst 1, 1) := by decide +kernel
theorem dX2_overYear_6 : decode cX2_overYear 6 = .ok (.iadd, 1) := by decide +kernel
theorem dX2_overYear_7 : decode cX2_overYear 7 = .ok (.istore_n 2, 1) := by decide +kernel
theorem dX2_overYear_8 : decode cX2_overYear 8 = .ok (.iload_n 2, 1) := by decide +kernel
theorem dX2_overYear_9 : decode cX2_overYear 9 = .ok (.iload_n 1, 1) := by decide +kernel
theorem dX2_overYear_10 : decode cX2_overYear 10 = .ok (.if_icmp .gt 22, 3) := by decide +kernel
theorem dX2_overYear_13 : decode cX2_overYear 13 = .ok (.aload_n 0, 1) := by decide +kernel
theorem dX2_overYear_14 : decode cX2_overYear 14 = .ok (.getfield 19, 3) := by decide +kernel
theorem dX2_overYear_17 : decode cX2_overYear 17 = .ok (.iload_n 2, 1) := by decide +kernel
theorem dX2_overYear_18 : decode cX2_overYear 18 = .ok (.iaload, 1) := by decide +kernel
theorem dX2_overYear_19 : decode cX2_overYear 19 = .ok (.bipush 100, 2) := by decide +kernel
theorem dX2_overYear_21 : decode cX2_overYear 21 = .ok (.if_icmp .ge 5, 3) := by decide +kernel
theorem dX2_overYear_24 : decode cX2_overYear 24 = .ok (.iload_n 2, 1) := by decide +kernel
theorem dX2_overYear_25 : decode cX2_overYear 25 = .ok (.ireturn, 1) := by decide +kernel
theorem dX2_overYear_26 : decode cX2_overYear 26 = .ok (.iinc 2 1, 3) := by decide +kernel
theorem dX2_overYear_29 : decode cX2_overYear 29 = .ok (.goto (-21), 3) := by decide +kernel
theorem dX2_overYear_32 : decode cX2_overYear 32 = .ok (.bipush (-9), 2) := by decide +kernel
theorem dX2_overYear_34 : decode cX2_overYear 34 = .ok (.ireturn, 1) := by decide +kernel
theorem dX2_parentsYear_0 : decode cX2_parentsYear 0 = .ok (.iconst 0, 1) := by decide +kernel
theorem dX2_parentsYear_1 : decode cX2_parentsYear 1 = .ok (.istore_n 2, 1) := by decide +kernel
theorem dX2_parentsYear_2 : decode cX2_parentsYear 2 = .ok (.iload_n 2, 1) := by decide +kernel
theorem dX2_parentsYear_3 : decode cX2_parentsYear 3 = .ok (.iload_n 1, 1) := by decide +kernel
theorem dX2_parentsYear_4 : decode cX2_parentsYear 4 = .ok (.if_icmp .gt 22, 3) := by decide +kernel
theorem dX2_parentsYear_7 : decode cX2_parentsYear 7 = .ok (.aload_n 0, 1) := by decide +kernel
theorem dX2_parentsYear_8 : decode cX2_parentsYear 8 = .ok (.getfield 23, 3) := by decide +kernel
theorem dX2_parentsYear_11 : decode cX2_parentsYear 11 = .ok (.iload_n 2, 1) := by decide +kernel
theorem dX2_parentsYear_12 : decode cX2_parentsYear 12 = .ok (.iaload, 1) := by decide +kernel
theorem dX2_parentsYear_13 : decode cX2_parentsYear 13 = .ok (.bipush 100, 2) := by decide +kernel
theorem dX2_parentsYear_15 : decode cX2_parentsYear 15 = .ok (.if_icmp .lt 5, 3) := by decide +kernel
theorem dX2_parentsYear_18 : decode cX2_parentsYear 18 = .ok (.iload_n 2, 1) := by decide +kernel
theorem dX2_parentsYear_19 : decode cX2_parentsYear 19 = .ok (.ireturn, 1) := by decide +kernel
theorem dX2_parentsYear_20 : decode cX2_parentsYear 20 = .ok (.iinc 2 1, 3) := by decide +kernel
theorem dX2_parentsYear_23 : decode cX2_parentsYear 23 = .ok (.goto (-21), 3) := by decide +kernel
theorem dX2_parentsYear_26 : decode cX2_parentsYear 26 = .ok (.bipush (-9), 2) := by decide +kernel
theorem dX2_parentsYear_28 : decode cX2_parentsYear 28 = .ok (.ireturn, 1) := by decide +kernel
theorem dX2_keptAge_0 : decode cX2_keptAge 0 = .ok (.bipush 10, 2) := by decide +kernel
theorem dX2_keptAge_2 : decode cX2_keptAge 2 = .ok (.istore_n 2, 1) := by decide +kernel
theorem dX2_keptAge_3 : decode cX2_keptAge 3 = .ok (.iconst 0, 1) := by decide +kernel
theorem dX2_keptAge_4 : decode cX2_keptAge 4 = .ok (.istore_n 3, 1) := by decide +kernel
theorem dX2_keptAge_5 : decode cX2_keptAge 5 = .ok (.bipush 10, 2) := by decide +kernel
theorem dX2_keptAge_7 : decode cX2_keptAge 7 = .ok (.istore 4, 2) := by decide +kernel
theorem dX2_keptAge_9 : decode cX2_keptAge 9 = .ok (.iload 4, 2) := by decide +kernel
theorem dX2_keptAge_11 : decode cX2_keptAge 11 = .ok (.bipush 69, 2) := by decide +kernel
theorem dX2_keptAge_13 : decode cX2_keptAge 13 = .ok (.if_icmp .gt 54, 3) := by decide +kernel
theorem dX2_keptAge_16 : decode cX2_keptAge 16 = .ok (.iconst 0, 1) := by decide +kernel
theorem dX2_keptAge_17 : decode cX2_keptAge 17 = .ok (.istore 5, 2) := by decide +kernel
theorem dX2_keptAge_19 : decode cX2_keptAge 19 = .ok (.iconst 0, 1) := by decide +kernel
theorem dX2_keptAge_20 : decode cX2_keptAge 20 = .ok (.istore 6, 2) := by decide +kernel
theorem dX2_keptAge_22 : decode cX2_keptAge 22 = .ok (.iload 6, 2) := by decide +kernel
theorem dX2_keptAge_24 : decode cX2_keptAge 24 = .ok (.iload_n 1, 1) := by decide +kernel
theorem dX2_keptAge_25 : decode cX2_keptAge 25 = .ok (.if_icmp .ge 24, 3) := by decide +kernel
theorem dX2_keptAge_28 : decode cX2_keptAge 28 = .ok (.iload 5, 2) := by decide +kernel
theorem dX2_keptAge_30 : decode cX2_keptAge 30 = .ok (.aload_n 0, 1) := by decide +kernel
theorem dX2_keptAge_31 : decode cX2_keptAge 31 = .ok (.getfield 11, 3) := by decide +kernel
theorem dX2_keptAge_34 : decode cX2_keptAge 34 = .ok (.iload 6, 2) := by decide +kernel
theorem dX2_keptAge_36 : decode cX2_keptAge 36 = .ok (.aaload, 1) := by decide +kernel
theorem dX2_keptAge_37 : decode cX2_keptAge 37 = .ok (.iload 4, 2) := by decide +kernel
theorem dX2_keptAge_39 : decode cX2_keptAge 39 = .ok (.iaload, 1) := by decide +kernel
theorem dX2_keptAge_40 : decode cX2_keptAge 40 = .ok (.iadd, 1) := by decide +kernel
theorem dX2_keptAge_41 : decode cX2_keptAge 41 = .ok (.istore 5, 2) := by decide +kernel
theorem dX2_keptAge_43 : decode cX2_keptAge 43 = .ok (.iinc 6 1, 3) := by decide +kernel
theorem dX2_keptAge_46 : decode cX2_keptAge 46 = .ok (.goto (-24), 3) := by decide +kernel
theorem dX2_keptAge_49 : decode cX2_keptAge 49 = .ok (.iload 5, 2) := by decide +kernel
theorem dX2_keptAge_51 : decode cX2_keptAge 51 = .ok (.iload_n 3, 1) := by decide +kernel
theorem dX2_keptAge_52 : decode cX2_keptAge 52 = .ok (.if_icmp .le 9, 3) := by decide +kernel
theorem dX2_keptAge_55 : decode cX2_keptAge 55 = .ok (.iload 5, 2) := by decide +kernel
theorem dX2_keptAge_57 : decode cX2_keptAge 57 = .ok (.istore_n 3, 1) := by decide +kernel
theorem dX2_keptAge_58 : decode cX2_keptAge 58 = .ok (.iload 4, 2) := by decide +kernel
theorem dX2_keptAge_60 : decode cX2_keptAge 60 = .ok (.istore_n 2, 1) := by decide +kernel
theorem dX2_keptAge_61 : decode cX2_keptAge 61 = .ok (.iinc 4 1, 3) := by decide +kernel
theorem dX2_keptAge_64 : decode cX2_keptAge 64 = .ok (.goto (-55), 3) := by decide +kernel
theorem dX2_keptAge_67 : decode cX2_keptAge 67 = .ok (.iload_n 2, 1) := by decide +kernel
theorem dX2_keptAge_68 : decode cX2_keptAge 68 = .ok (.ireturn, 1) := by decide +kernel
theorem dX3_init_0 : decode cX3_init 0 = .ok (.aload_n 0, 1) := by decide +kernel
theorem dX3_init_1 : decode cX3_init 1 = .ok (.invokespecial 3, 3) := by decide +kernel
theorem dX3_init_4 : decode cX3_init 4 = .ok (.aload_n 0, 1) := by decide +kernel
theorem dX3_init_5 : decode cX3_init 5 = .ok (.new 9, 3) := by decide +kernel
theorem dX3_init_8 : decode cX3_init 8 = .ok (.dup, 1) := by decide +kernel
theorem dX3_init_9 : decode cX3_init 9 = .ok (.invokespecial 11, 3) := by decide +kernel
theorem dX3_init_12 : decode cX3_init 12 = .ok (.putfield 12, 3) := by decide +kernel
theorem dX3_init_15 : decode cX3_init 15 = .ok (.aload_n 0, 1) := by decide +kernel
theorem dX3_init_16 : decode cX3_init 16 = .ok (.iconst 5, 1) := by decide +kernel
theorem dX3_init_17 : decode cX3_init 17 = .ok (.anewarray 18, 3) := by decide +kernel
theorem dX3_init_20 : decode cX3_init 20 = .ok (.putfield 20, 3) := by decide +kernel
theorem dX3_init_23 : decode cX3_init 23 = .ok (.iconst 0, 1) := by decide +kernel
theorem dX3_init_24 : decode cX3_init 24 = .ok (.istore_n 1, 1) := by decide +kernel
theorem dX3_init_25 : decode cX3_init 25 = .ok (.iload_n 1, 1) := by decide +kernel
theorem dX3_init_26 : decode cX3_init 26 = .ok (.iconst 5, 1) := by decide +kernel
theorem dX3_init_27 : decode cX3_init 27 = .ok (.if_icmp .ge 22, 3) := by decide +kernel
theorem dX3_init_30 : decode cX3_init 30 = .ok (.aload_n 0, 1) := by decide +kernel
theorem dX3_init_31 : decode cX3_init 31 = .ok (.getfield 20, 3) := by decide +kernel
theorem dX3_init_34 : decode cX3_init 34 = .ok (.iload_n 1, 1) := by decide +kernel
theorem dX3_init_35 : decode cX3_init 35 = .ok (.new 18, 3) := by decide +kernel
theorem dX3_init_38 : decode cX3_init 38 = .ok (.dup, 1) := by decide +kernel
theorem dX3_init_39 : decode cX3_init 39 = .ok (.invokespecial 24, 3) := by decide +kernel
theorem dX3_init_42 : decode cX3_init 42 = .ok (.aastore, 1) := by decide +kernel
theorem dX3_init_43 : decode cX3_init 43 = .ok (.iinc 1 1, 3) := by decide +kernel
theorem dX3_init_46 : decode cX3_init 46 = .ok (.goto (-21), 3) := by decide +kernel
theorem dX3_init_49 : decode cX3_init 49 = .ok (.return_, 1) := by decide +kernel
theorem dX3_begin_0 : decode cX3_begin 0 = .ok (.aload_n 0, 1) := by decide +kernel
theorem dX3_begin_1 : decode cX3_begin 1 = .ok (.iconst 0, 1) := by decide +kernel
theorem dX3_begin_2 : decode cX3_begin 2 = .ok (.putfield 25, 3) := by decide +kernel
theorem dX3_begin_5 : decode cX3_begin 5 = .ok (.aload_n 0, 1) := by decide +kernel
theorem dX3_begin_6 : decode cX3_begin 6 = .ok (.getfield 12, 3) := by decide +kernel
theorem dX3_begin_9 : decode cX3_begin 9 = .ok (.iconst 0, 1) := by decide +kernel
theorem dX3_begin_10 : decode cX3_begin 10 = .ok (.putfield 29, 3) := by decide +kernel
theorem dX3_begin_13 : decode cX3_begin 13 = .ok (.iconst 0, 1) := by decide +kernel
theorem dX3_begin_14 : decode cX3_begin 14 = .ok (.istore_n 2, 1) := by decide +kernel
theorem dX3_begin_15 : decode cX3_begin 15 = .ok (.iload_n 2, 1) := by decide +kernel
theorem dX3_begin_16 : decode cX3_begin 16 = .ok (.aload_n 1, 1) := by decide +kernel
theorem dX3_begin_17 : decode cX3_begin 17 = .ok (.getfield 32, 3) := by decide +kernel
theorem dX3_begin_20 : decode cX3_begin 20 = .ok (.if_icmp .ge 24, 3) := by decide +kernel
theorem dX3_begin_23 : decode cX3_begin 23 = .ok (.aload_n 0, 1) := by decide +kernel
theorem dX3_begin_24 : decode cX3_begin 24 = .ok (.getfield 20, 3) := by decide +kernel
theorem dX3_begin_27 : decode cX3_begin 27 = .ok (.iload_n 2, 1) := by decide +kernel
theorem dX3_begin_28 : decode cX3_begin 28 = .ok (.aaload, 1) := by decide +kernel
theorem dX3_begin_29 : decode cX3_begin 29 = .ok (.aload_n 1, 1) := by decide +kernel
theorem dX3_begin_30 : decode cX3_begin 30 = .ok (.aload_n 0, 1) := by decide +kernel
theorem dX3_begin_31 : decode cX3_begin 31 = .ok (.getfield 12, 3) := by decide +kernel
theorem dX3_begin_34 : decode cX3_begin 34 = .ok (.iload_n 2, 1) := by decide +kernel
theorem dX3_begin_35 : decode cX3_begin 35 = .ok (.invokevirtual 37, 3) := by decide +kernel
theorem dX3_begin_38 : decode cX3_begin 38 = .ok (.iinc 2 1, 3) := by decide +kernel
theorem dX3_begin_41 : decode cX3_begin 41 = .ok (.goto (-26), 3) := by decide +kernel
theorem dX3_begin_44 : decode cX3_begin 44 = .ok (.return_, 1) := by decide +kernel
theorem dX3_pass_0 : decode cX3_pass 0 = .ok (.iconst 0, 1) := by decide +kernel
theorem dX3_pass_1 : decode cX3_pass 1 = .ok (.istore_n 2, 1) := by decide +kernel
theorem dX3_pass_2 : decode cX3_pass 2 = .ok (.iload_n 2, 1) := by decide +kernel
theorem dX3_pass_3 : decode cX3_pass 3 = .ok (.aload_n 1, 1) := by decide +kernel
theorem dX3_pass_4 : decode cX3_pass 4 = .ok (.getfield 32, 3) := by decide +kernel
theorem dX3_pass_7 : decode cX3_pass 7 = .ok (.if_icmp .ge 32, 3) := by decide +kernel
theorem dX3_pass_10 : decode cX3_pass 10 = .ok (.aload_n 0, 1) := by decide +kernel
theorem dX3_pass_11 : decode cX3_pass 11 = .ok (.getfield 20, 3) := by decide +kernel
theorem dX3_pass_14 : decode cX3_pass 14 = .ok (.iload_n 2, 1) := by decide +kernel
theorem dX3_pass_15 : decode cX3_pass 15 = .ok (.aaload, 1) := by decide +kernel
theorem dX3_pass_16 : decode cX3_pass 16 = .ok (.aload_n 1, 1) := by decide +kernel
theorem dX3_pass_17 : decode cX3_pass 17 = .ok (.aload_n 0, 1) := by decide +kernel
theorem dX3_pass_18 : decode cX3_pass 18 = .ok (.getfield 12, 3) := by decide +kernel
theorem dX3_pass_21 : decode cX3_pass 21 = .ok (.iload_n 2, 1) := by decide +kernel
theorem dX3_pass_22 : decode cX3_pass 22 = .ok (.aload_n 1, 1) := by decide +kernel
theorem dX3_pass_23 : decode cX3_pass 23 = .ok (.getfield 41, 3) := by decide +kernel
theorem dX3_pass_26 : decode cX3_pass 26 = .ok (.aload_n 0, 1) := by decide +kernel
theorem dX3_pass_27 : decode cX3_pass 27 = .ok (.getfield 25, 3) := by decide +kernel
theorem dX3_pass_30 : decode cX3_pass 30 = .ok (.invokevirtual 44, 3) := by decide +kernel
theorem dX3_pass_33 : decode cX3_pass 33 = .ok (.iinc 2 1, 3) := by decide +kernel
theorem dX3_pass_36 : decode cX3_pass 36 = .ok (.goto (-34), 3) := by decide +kernel
theorem dX3_pass_39 : decode cX3_pass 39 = .ok (.aload_n 0, 1) := by decide +kernel
theorem dX3_pass_40 : decode cX3_pass 40 = .ok (.dup, 1) := by decide +kernel
theorem dX3_pass_41 : decode cX3_pass 41 = .ok (.getfield 25, 3) := by decide +kernel
theorem dX3_pass_44 : decode cX3_pass 44 = .ok (.iconst 1, 1) := by decide +kernel
theorem dX3_pass_45 : decode cX3_pass 45 = .ok (.iadd, 1) := by decide +kernel
theorem dX3_pass_46 : decode cX3_pass 46 = .ok (.putfield 25, 3) := by decide +kernel
theorem dX3_pass_49 : decode cX3_pass 49 = .ok (.return_, 1) := by decide +kernel
theorem dX3_copyFrom_0 : decode cX3_copyFrom 0 = .ok (.aload_n 0, 1) := by decide +kernel
theorem dX3_copyFrom_1 : decode cX3_copyFrom 1 = .ok (.aload_n 1, 1) := by decide +kernel
theorem dX3_copyFrom_2 : decode cX3_copyFrom 2 = .ok (.getfield 25, 3) := by decide +kernel
theorem dX3_copyFrom_5 : decode cX3_copyFrom 5 = .ok (.putfield 25, 3) := by decide +kernel
theorem dX3_copyFrom_8 : decode cX3_copyFrom 8 = .ok (.aload_n 0, 1) := by decide +kernel
theorem dX3_copyFrom_9 : decode cX3_copyFrom 9 = .ok (.aload_n 1, 1) := by decide +kernel
theorem dX3_copyFrom_10 : decode cX3_copyFrom 10 = .ok (.getfield 48, 3) := by decide +kernel
theorem dX3_copyFrom_13 : decode cX3_copyFrom 13 = .ok (.putfield 48, 3) := by decide +kernel
theorem dX3_copyFrom_16 : decode cX3_copyFrom 16 = .ok (.aload_n 0, 1) := by decide +kernel
theorem dX3_copyFrom_17 : decode cX3_copyFrom 17 = .ok (.getfield 12, 3) := by decide +kernel
theorem dX3_copyFrom_20 : decode cX3_copyFrom 20 = .ok (.aload_n 1, 1) := by decide +kernel
theorem dX3_copyFrom_21 : decode cX3_copyFrom 21 = .ok (.getfield 12, 3) := by decide +kernel
theorem dX3_copyFrom_24 : decode cX3_copyFrom 24 = .ok (.invokevirtual 51, 3) := by decide +kernel
theorem dX3_copyFrom_27 : decode cX3_copyFrom 27 = .ok (.iconst 0, 1) := by decide +kernel
theorem dX3_copyFrom_28 : decode cX3_copyFrom 28 = .ok (.istore_n 2, 1) := by decide +kernel
theorem dX3_copyFrom_29 : decode cX3_copyFrom 29 = .ok (.iload_n 2, 1) := by decide +kernel
theorem dX3_copyFrom_30 : decode cX3_copyFrom 30 = .ok (.iconst 5, 1) := by decide +kernel
theorem dX3_copyFrom_31 : decode cX3_copyFrom 31 = .ok (.if_icmp .ge 24, 3) := by decide +kernel
theorem dX3_copyFrom_34 : decode cX3_copyFrom 34 = .ok (.aload_n 0, 1) := by decide +kernel
theorem dX3_copyFrom_35 : decode cX3_copyFrom 35 = .ok (.getfield 20, 3) := by decide +kernel
theorem dX3_copyFrom_38 : decode cX3_copyFrom 38 = .ok (.iload_n 2, 1) := by decide +kernel
theorem dX3_copyFrom_39 : decode cX3_copyFrom 39 = .ok (.aaload, 1) := by decide +kernel
theorem dX3_copyFrom_40 : decode cX3_copyFrom 40 = .ok (.aload_n 1, 1) := by decide +kernel
theorem dX3_copyFrom_41 : decode cX3_copyFrom 41 = .ok (.getfield 20, 3) := by decide +kernel
theorem dX3_copyFrom_44 : decode cX3_copyFrom 44 = .ok (.iload_n 2, 1) := by decide +kernel
theorem dX3_copyFrom_45 : decode cX3_copyFrom 45 = .ok (.aaload, 1) := by decide +kernel
theorem dX3_copyFrom_46 : decode cX3_copyFrom 46 = .ok (.invokevirtual 55, 3) := by decide +kernel
theorem dX3_copyFrom_49 : decode cX3_copyFrom 49 = .ok (.iinc 2 1, 3) := by decide +kernel
theorem dX3_copyFrom_52 : decode cX3_copyFrom 52 = .ok (.goto (-23), 3) := by decide +kernel
theorem dX3_copyFrom_55 : decode cX3_copyFrom 55 = .ok (.return_, 1) := by decide +kernel
theorem dX4_init_0 : decode cX4_init 0 = .ok (.aload_n 0, 1) := by decide +kernel
theorem dX4_init_1 : decode cX4_init 1 = .ok (.invokespecial 3, 3) := by decide +kernel
theorem dX4_init_4 : decode cX4_init 4 = .ok (.aload_n 0, 1) := by decide +kernel
theorem dX4_init_5 : decode cX4_init 5 = .ok (.sipush 300, 3) := by decide +kernel
theorem dX4_init_8 : decode cX4_init 8 = .ok (.newarray .char, 2) := by decide +kernel
theorem dX4_init_10 : decode cX4_init 10 = .ok (.putfield 9, 3) := by decide +kernel
theorem dX4_init_13 : decode cX4_init 13 = .ok (.return_, 1) := by decide +kernel
theorem dX4_append_0 : decode cX4_append 0 = .ok (.iload_n 3, 1) := by decide +kernel
theorem dX4_append_1 : decode cX4_append 1 = .ok (.sipush 300, 3) := by decide +kernel
theorem dX4_append_4 : decode cX4_append 4 = .ok (.aload_n 0, 1) := by decide +kernel
theorem dX4_append_5 : decode cX4_append 5 = .ok (.getfield 15, 3) := by decide +kernel
theorem dX4_append_8 : decode cX4_append 8 = .ok (.isub, 1) := by decide +kernel
theorem dX4_append_9 : decode cX4_append 9 = .ok (.if_icmp .le 5, 3) := by decide +kernel
theorem dX4_append_12 : decode cX4_append 12 = .ok (.iconst 0, 1) := by decide +kernel
theorem dX4_append_13 : decode cX4_append 13 = .ok (.ireturn, 1) := by decide +kernel
theorem dX4_append_14 : decode cX4_append 14 = .ok (.iload_n 3, 1) := by decide +kernel
theorem dX4_append_15 : decode cX4_append 15 = .ok (.iconst 1, 1) := by decide +kernel
theorem dX4_append_16 : decode cX4_append 16 = .ok (.isub, 1) := by decide +kernel
theorem dX4_append_17 : decode cX4_append 17 = .ok (.istore 4, 2) := by decide +kernel
theorem dX4_append_19 : decode cX4_append 19 = .ok (.iload 4, 2) := by decide +kernel
theorem dX4_append_21 : decode cX4_append 21 = .ok (.ifCond .lt 41, 3) := by decide +kernel
theorem dX4_append_24 : decode cX4_append 24 = .ok (.aload_n 0, 1) := by decide +kernel
theorem dX4_append_25 : decode cX4_append 25 = .ok (.getfield 9, 3) := by decide +kernel
theorem dX4_append_28 : decode cX4_append 28 = .ok (.aload_n 0, 1) := by decide +kernel
theorem dX4_append_29 : decode cX4_append 29 = .ok (.getfield 15, 3) := by decide +kernel
theorem dX4_append_32 : decode cX4_append 32 = .ok (.lload_n 1, 1) := by decide +kernel
theorem dX4_append_33 : decode cX4_append 33 = .ok (.bipush 8, 2) := by decide +kernel
theorem dX4_append_35 : decode cX4_append 35 = .ok (.iload 4, 2) := by decide +kernel
theorem dX4_append_37 : decode cX4_append 37 = .ok (.imul, 1) := by decide +kernel
theorem dX4_append_38 : decode cX4_append 38 = .ok (.lushr, 1) := by decide +kernel
theorem dX4_append_39 : decode cX4_append 39 = .ok (.ldc2_w 19, 3) := by decide +kernel
theorem dX4_append_42 : decode cX4_append 42 = .ok (.land, 1) := by decide +kernel
theorem dX4_append_43 : decode cX4_append 43 = .ok (.l2i, 1) := by decide +kernel
theorem dX4_append_44 : decode cX4_append 44 = .ok (.i2c, 1) := by decide +kernel
theorem dX4_append_45 : decode cX4_append 45 = .ok (.castore, 1) := by decide +kernel
theorem dX4_append_46 : decode cX4_append 46 = .ok (.aload_n 0, 1) := by decide +kernel
theorem dX4_append_47 : decode cX4_append 47 = .ok (.dup, 1) := by decide +kernel
theorem dX4_append_48 : decode cX4_append 48 = .ok (.getfield 15, 3) := by decide +kernel
theorem dX4_append_51 : decode cX4_append 51 = .ok (.iconst 1, 1) := by decide +kernel
theorem dX4_append_52 : decode cX4_append 52 = .ok (.iadd, 1) := by decide +kernel
theorem dX4_append_53 : decode cX4_append 53 = .ok (.putfield 15, 3) := by decide +kernel
theorem dX4_append_56 : decode cX4_append 56 = .ok (.iinc 4 (-1), 3) := by decide +kernel
theorem dX4_append_59 : decode cX4_append 59 = .ok (.goto (-40), 3) := by decide +kernel
theorem dX4_append_62 : decode cX4_append 62 = .ok (.iconst 1, 1) := by decide +kernel
theorem dX4_append_63 : decode cX4_append 63 = .ok (.ireturn, 1) := by decide +kernel
theorem dX4_readInto_0 : decode cX4_readInto 0 = .ok (.aload_n 1, 1) := by decide +kernel
theorem dX4_readInto_1 : decode cX4_readInto 1 = .ok (.invokevirtual 21, 3) := by decide +kernel
theorem dX4_readInto_4 : decode cX4_readInto 4 = .ok (.aload_n 0, 1) := by decide +kernel
theorem dX4_readInto_5 : decode cX4_readInto 5 = .ok (.iconst 0, 1) := by decide +kernel
theorem dX4_readInto_6 : decode cX4_readInto 6 = .ok (.putfield 26, 3) := by decide +kernel
theorem dX4_readInto_9 : decode cX4_readInto 9 = .ok (.aload_n 0, 1) := by decide +kernel
theorem dX4_readInto_10 : decode cX4_readInto 10 = .ok (.iconst 0, 1) := by decide +kernel
theorem dX4_readInto_11 : decode cX4_readInto 11 = .ok (.putfield 30, 3) := by decide +kernel
theorem dX4_readInto_14 : decode cX4_readInto 14 = .ok (.aload_n 0, 1) := by decide +kernel
theorem dX4_readInto_15 : decode cX4_readInto 15 = .ok (.iconst 0, 1) := by decide +kernel
theorem dX4_readInto_16 : decode cX4_readInto 16 = .ok (.putfield 33, 3) := by decide +kernel
theorem dX4_readInto_19 : decode cX4_readInto 19 = .ok (.aload_n 0, 1) := by decide +kernel
theorem dX4_readInto_20 : decode cX4_readInto 20 = .ok (.invokevirtual 36, 3) := by decide +kernel
theorem dX4_readInto_23 : decode cX4_readInto 23 = .ok (.iconst 0, 1) := by decide +kernel
theorem dX4_readInto_24 : decode cX4_readInto 24 = .ok (.istore_n 2, 1) := by decide +kernel
theorem dX4_readInto_25 : decode cX4_readInto 25 = .ok (.iload_n 2, 1) := by decide +kernel
theorem dX4_readInto_26 : decode cX4_readInto 26 = .ok (.sipush 300, 3) := by decide +kernel
theorem dX4_readInto_29 : decode cX4_readInto 29 = .ok (.if_icmp .ge 36, 3) := by decide +kernel
theorem dX4_readInto_32 : decode cX4_readInto 32 = .ok (.aload_n 0, 1) := by decide +kernel
theorem dX4_readInto_33 : decode cX4_readInto 33 = .ok (.getfield 39, 3) := by decide +kernel
theorem dX4_readInto_36 : decode cX4_readInto 36 = .ok (.ifCond .eq 29, 3) := by decide +kernel
theorem dX4_readInto_39 : decode cX4_readInto 39 = .ok (.aload_n 0, 1) := by decide +kernel
theorem dX4_readInto_40 : decode cX4_readInto 40 = .ok (.aload_n 1, 1) := by decide +kernel
theorem dX4_readInto_41 : decode cX4_readInto 41 = .ok (.invokevirtual 42, 3) := by decide +kernel
theorem dX4_readInto_44 : decode cX4_readInto 44 = .ok (.ifCond .ne 11, 3) := by decide +kernel
theorem dX4_readInto_47 : decode cX4_readInto 47 = .ok (.bipush (-10), 2) := by decide +kernel
theorem dX4_readInto_49 : decode cX4_readInto 49 = .ok (.aload_n 0, 1) := by decide +kernel
theorem dX4_readInto_50 : decode cX4_readInto 50 = .ok (.getfield 46, 3) := by decide +kernel
theorem dX4_readInto_53 : decode cX4_readInto 53 = .ok (.isub, 1) := by decide +kernel
theorem dX4_readInto_54 : decode cX4_readInto 54 = .ok (.ireturn, 1) := by decide +kernel
theorem dX4_readInto_55 : decode cX4_readInto 55 = .ok (.iinc 2 1, 3) := by decide +kernel
theorem dX4_readInto_58 : decode cX4_readInto 58 = .ok (.aload_n 0, 1) := by decide +kernel
theorem dX4_readInto_59 : decode cX4_readInto 59 = .ok (.invokevirtual 36, 3) := by decide +kernel
theorem dX4_readInto_62 : decode cX4_readInto 62 = .ok (.goto (-37), 3) := by decide +kernel
theorem dX4_readInto_65 : decode cX4_readInto 65 = .ok (.iload_n 2, 1) := by decide +kernel
theorem dX4_readInto_66 : decode cX4_readInto 66 = .ok (.ireturn, 1) := by decide +kernel
theorem dX4_readItem_0 : decode cX4_readItem 0 = .ok (.aload_n 0, 1) := by decide +kernel
theorem dX4_readItem_1 : decode cX4_readItem 1 = .ok (.ldc 49, 2) := by decide +kernel
theorem dX4_readItem_3 : decode cX4_readItem 3 = .ok (.invokevirtual 51, 3) := by decide +kernel
theorem dX4_readItem_6 : decode cX4_readItem 6 = .ok (.ifCond .eq 9, 3) := by decide +kernel
theorem dX4_readItem_9 : decode cX4_readItem 9 = .ok (.aload_n 0, 1) := by decide +kernel
theorem dX4_readItem_10 : decode cX4_readItem 10 = .ok (.aload_n 1, 1) := by decide +kernel
theorem dX4_readItem_11 : decode cX4_readItem 11 = .ok (.invokevirtual 55, 3) := by decide +kernel
theorem dX4_readItem_14 : decode cX4_readItem 14 = .ok (.ireturn, 1) := by decide +kernel
theorem dX4_readItem_15 : decode cX4_readItem 15 = .ok (.aload_n 0, 1) := by decide +kernel
theorem dX4_readItem_16 : decode cX4_readItem 16 = .ok (.ldc 58, 2) := by decide +kernel
theorem dX4_readItem_18 : decode cX4_readItem 18 = .ok (.invokevirtual 51, 3) := by decide +kernel
theorem dX4_readItem_21 : decode cX4_readItem 21 = .ok (.ifCond .eq 9, 3) := by decide +kernel
theorem dX4_readItem_24 : decode cX4_readItem 24 = .ok (.aload_n 0, 1) := by decide +kernel
theorem dX4_readItem_25 : decode cX4_readItem 25 = .ok (.aload_n 1, 1) := by decide +kernel
theorem dX4_readItem_26 : decode cX4_readItem 26 = .ok (.invokevirtual 60, 3) := by decide +kernel
theorem dX4_readItem_29 : decode cX4_readItem 29 = .ok (.ireturn, 1) := by decide +kernel
theorem dX4_readItem_30 : decode cX4_readItem 30 = .ok (.aload_n 0, 1) := by decide +kernel
theorem dX4_readItem_31 : decode cX4_readItem 31 = .ok (.ldc 63, 2) := by decide +kernel
theorem dX4_readItem_33 : decode cX4_readItem 33 = .ok (.invokevirtual 51, 3) := by decide +kernel
theorem dX4_readItem_36 : decode cX4_readItem 36 = .ok (.ifCond .eq 9, 3) := by decide +kernel
theorem dX4_readItem_39 : decode cX4_readItem 39 = .ok (.aload_n 0, 1) := by decide +kernel
theorem dX4_readItem_40 : decode cX4_readItem 40 = .ok (.aload_n 1, 1) := by decide +kernel
theorem dX4_readItem_41 : decode cX4_readItem 41 = .ok (.invokevirtual 65, 3) := by decide +kernel
theorem dX4_readItem_44 : decode cX4_readItem 44 = .ok (.ireturn, 1) := by decide +kernel
theorem dX4_readItem_45 : decode cX4_readItem 45 = .ok (.aload_n 0, 1) := by decide +kernel
theorem dX4_readItem_46 : decode cX4_readItem 46 = .ok (.ldc 68, 2) := by decide +kernel
theorem dX4_readItem_48 : decode cX4_readItem 48 = .ok (.invokevirtual 51, 3) := by decide +kernel
theorem dX4_readItem_51 : decode cX4_readItem 51 = .ok (.ifCond .eq 9, 3) := by decide +kernel
theorem dX4_readItem_54 : decode cX4_readItem 54 = .ok (.aload_n 0, 1) := by decide +kernel
theorem dX4_readItem_55 : decode cX4_readItem 55 = .ok (.aload_n 1, 1) := by decide +kernel
theorem dX4_readItem_56 : decode cX4_readItem 56 = .ok (.invokevirtual 70, 3) := by decide +kernel
theorem dX4_readItem_59 : decode cX4_readItem 59 = .ok (.ireturn, 1) := by decide +kernel
theorem dX4_readItem_60 : decode cX4_readItem 60 = .ok (.aload_n 0, 1) := by decide +kernel
theorem dX4_readItem_61 : decode cX4_readItem 61 = .ok (.ldc 73, 2) := by decide +kernel
theorem dX4_readItem_63 : decode cX4_readItem 63 = .ok (.invokevirtual 51, 3) := by decide +kernel
theorem dX4_readItem_66 : decode cX4_readItem 66 = .ok (.ifCond .eq 15, 3) := by decide +kernel
theorem dX4_readItem_69 : decode cX4_readItem 69 = .ok (.aload_n 0, 1) := by decide +kernel
theorem dX4_readItem_70 : decode cX4_readItem 70 = .ok (.aload_n 1, 1) := by decide +kernel
theorem dX4_readItem_71 : decode cX4_readItem 71 = .ok (.invokevirtual 75, 3) := by decide +kernel
theorem dX4_readItem_74 : decode cX4_readItem 74 = .ok (.ifCond .eq 7, 3) := by decide +kernel
theorem dX4_readItem_77 : decode cX4_readItem 77 = .ok (.iconst 1, 1) := by decide +kernel
theorem dX4_readItem_78 : decode cX4_readItem 78 = .ok (.goto 4, 3) := by decide +kernel
theorem dX4_readItem_81 : decode cX4_readItem 81 = .ok (.iconst 0, 1) := by decide +kernel
theorem dX4_readItem_82 : decode cX4_readItem 82 = .ok (.ireturn, 1) := by decide +kernel
theorem dX4_readPlace_0 : decode cX4_readPlace 0 = .ok (.aload_n 1, 1) := by decide +kernel
theorem dX4_readPlace_1 : decode cX4_readPlace 1 = .ok (.getfield 78, 3) := by decide +kernel
theorem dX4_readPlace_4 : decode cX4_readPlace 4 = .ok (.iconst 3, 1) := by decide +kernel
theorem dX4_readPlace_5 : decode cX4_readPlace 5 = .ok (.if_icmp .ge 10, 3) := by decide +kernel
theorem dX4_readPlace_8 : decode cX4_readPlace 8 = .ok (.aload_n 0, 1) := by decide +kernel
theorem dX4_readPlace_9 : decode cX4_readPlace 9 = .ok (.invokevirtual 81, 3) := by decide +kernel
theorem dX4_readPlace_12 : decode cX4_readPlace 12 = .ok (.ifCond .ne 5, 3) := by decide +kernel
theorem dX4_readPlace_15 : decode cX4_readPlace 15 = .ok (.iconst 0, 1) := by decide +kernel
theorem dX4_readPlace_16 : decode cX4_readPlace 16 = .ok (.ireturn, 1) := by decide +kernel
theorem dX4_readPlace_17 : decode cX4_readPlace 17 = .ok (.aload_n 1, 1) := by decide +kernel
theorem dX4_readPlace_18 : decode cX4_readPlace 18 = .ok (.dup, 1) := by decide +kernel
theorem dX4_readPlace_19 : decode cX4_readPlace 19 = .ok (.getfield 78, 3) := by decide +kernel
theorem dX4_readPlace_22 : decode cX4_readPlace 22 = .ok (.iconst 1, 1) := by decide +kernel
theorem dX4_readPlace_23 : decode cX4_readPlace 23 = .ok (.iadd, 1) := by decide +kernel
theorem dX4_readPlace_24 : decode cX4_readPlace 24 = .ok (.putfield 78, 3) := by decide +kernel
theorem dX4_readPlace_27 : decode cX4_readPlace 27 = .ok (.iconst 1, 1) := by decide +kernel
theorem dX4_readPlace_28 : decode cX4_readPlace 28 = .ok (.ireturn, 1) := by decide +kernel
theorem dX4_readNear_0 : decode cX4_readNear 0 = .ok (.aload_n 0, 1) := by decide +kernel
theorem dX4_readNear_1 : decode cX4_readNear 1 = .ok (.iconst 0, 1) := by decide +kernel
theorem dX4_readNear_2 : decode cX4_readNear 2 = .ok (.aload_n 1, 1) := by decide +kernel
theorem dX4_readNear_3 : decode cX4_readNear 3 = .ok (.getfield 78, 3) := by decide +kernel
theorem dX4_readNear_6 : decode cX4_readNear 6 = .ok (.iconst 1, 1) := by decide +kernel
theorem dX4_readNear_7 : decode cX4_readNear 7 = .ok (.isub, 1) := by decide +kernel
theorem dX4_readNear_8 : decode cX4_readNear 8 = .ok (.invokevirtual 85, 3) := by decide +kernel
theorem dX4_readNear_11 : decode cX4_readNear 11 = .ok (.ifCond .ne 5, 3) := by decide +kernel
theorem dX4_readNear_14 : decode cX4_readNear 14 = .ok (.iconst 0, 1) := by decide +kernel
theorem dX4_readNear_15 : decode cX4_readNear 15 = .ok (.ireturn, 1) := by decide +kernel
theorem dX4_readNear_16 : decode cX4_readNear 16 = .ok (.aload_n 0, 1) := by decide +kernel
theorem dX4_readNear_17 : decode cX4_readNear 17 = .ok (.getfield 89, 3) := by decide +kernel
theorem dX4_readNear_20 : decode cX4_readNear 20 = .ok (.istore_n 2, 1) := by decide +kernel
theorem dX4_readNear_21 : decode cX4_readNear 21 = .ok (.aload_n 0, 1) := by decide +kernel
theorem dX4_readNear_22 : decode cX4_readNear 22 = .ok (.iconst 0, 1) := by decide +kernel
theorem dX4_readNear_23 : decode cX4_readNear 23 = .ok (.aload_n 1, 1) := by decide +kernel
theorem dX4_readNear_24 : decode cX4_readNear 24 = .ok (.getfield 78, 3) := by decide +kernel
theorem dX4_readNear_27 : decode cX4_readNear 27 = .ok (.iconst 1, 1) := by decide +kernel
theorem dX4_readNear_28 : decode cX4_readNear 28 = .ok (.isub, 1) := by decide +kernel
theorem dX4_readNear_29 : decode cX4_readNear 29 = .ok (.invokevirtual 85, 3) := by decide +kernel
theorem dX4_readNear_32 : decode cX4_readNear 32 = .ok (.ifCond .eq 11, 3) := by decide +kernel
theorem dX4_readNear_35 : decode cX4_readNear 35 = .ok (.aload_n 0, 1) := by decide +kernel
theorem dX4_readNear_36 : decode cX4_readNear 36 = .ok (.getfield 89, 3) := by decide +kernel
theorem dX4_readNear_39 : decode cX4_readNear 39 = .ok (.iload_n 2, 1) := by decide +kernel
theorem dX4_readNear_40 : decode cX4_readNear 40 = .ok (.if_icmp .ne 5, 3) := by decide +kernel
theorem dX4_readNear_43 : decode cX4_readNear 43 = .ok (.iconst 0, 1) := by decide +kernel
theorem dX4_readNear_44 : decode cX4_readNear 44 = .ok (.ireturn, 1) := by decide +kernel
theorem dX4_readNear_45 : decode cX4_readNear 45 = .ok (.aload_n 0, 1) := by decide +kernel
theorem dX4_readNear_46 : decode cX4_readNear 46 = .ok (.getfield 89, 3) := by decide +kernel
theorem dX4_readNear_49 : decode cX4_readNear 49 = .ok (.istore_n 3, 1) := by decide +kernel
theorem dX4_readNear_50 : decode cX4_readNear 50 = .ok (.aload_n 0, 1) := by decide +kernel
theorem dX4_readNear_51 : decode cX4_readNear 51 = .ok (.iconst 0, 1) := by decide +kernel
theorem dX4_readNear_52 : decode cX4_readNear 52 = .ok (.bipush 9, 2) := by decide +kernel
theorem dX4_readNear_54 : decode cX4_readNear 54 = .ok (.invokevirtual 85, 3) := by decide +kernel
theorem dX4_readNear_57 : decode cX4_readNear 57 = .ok (.ifCond .ne 5, 3) := by decide +kernel
theorem dX4_readNear_60 : decode cX4_readNear 60 = .ok (.iconst 0, 1) := by decide +kernel
theorem dX4_readNear_61 : decode cX4_readNear 61 = .ok (.ireturn, 1) := by decide +kernel
theorem dX4_readNear_62 : decode cX4_readNear 62 = .ok (.aload_n 1, 1) := by decide +kernel
theorem dX4_readNear_63 : decode cX4_readNear 63 = .ok (.iload_n 2, 1) := by decide +kernel
theorem dX4_readNear_64 : decode cX4_readNear 64 = .ok (.iload_n 3, 1) := by decide +kernel
theorem dX4_readNear_65 : decode cX4_readNear 65 = .ok (.aload_n 0, 1) := by decide +kernel
theorem dX4_readNear_66 : decode cX4_readNear 66 = .ok (.getfield 89, 3) := by decide +kernel
theorem dX4_readNear_69 : decode cX4_readNear 69 = .ok (.invokevirtual 92, 3) := by decide +kernel
theorem dX4_readNear_72 : decode cX4_readNear 72 = .ok (.aload_n 0, 1) := by decide +kernel
theorem dX4_readNear_73 : decode cX4_readNear 73 = .ok (.invokevirtual 81, 3) := by decide +kernel
theorem dX4_readNear_76 : decode cX4_readNear 76 = .ok (.ireturn, 1) := by decide +kernel
theorem dX4_readLaw_0 : decode cX4_readLaw 0 = .ok (.aload_n 0, 1) := by decide +kernel
theorem dX4_readLaw_1 : decode cX4_readLaw 1 = .ok (.getfield 26, 3) := by decide +kernel
theorem dX4_readLaw_4 : decode cX4_readLaw 4 = .ok (.ifCond .ne 13, 3) := by decide +kernel
theorem dX4_readLaw_7 : decode cX4_readLaw 7 = .ok (.aload_n 0, 1) := by decide +kernel
theorem dX4_readLaw_8 : decode cX4_readLaw 8 = .ok (.iconst 0, 1) := by decide +kernel
theorem dX4_readLaw_9 : decode cX4_readLaw 9 = .ok (.bipush 9, 2) := by decide +kernel
theorem dX4_readLaw_11 : decode cX4_readLaw 11 = .ok (.invokevirtual 85, 3) := by decide +kernel
theorem dX4_readLaw_14 : decode cX4_readLaw 14 = .ok (.ifCond .ne 5, 3) := by decide +kernel
theorem dX4_readLaw_17 : decode cX4_readLaw 17 = .ok (.iconst 0, 1) := by decide +kernel
theorem dX4_readLaw_18 : decode cX4_readLaw 18 = .ok (.ireturn, 1) := by decide +kernel
theorem dX4_readLaw_19 : decode cX4_readLaw 19 = .ok (.aload_n 1, 1) := by decide +kernel
theorem dX4_readLaw_20 : decode cX4_readLaw 20 = .ok (.aload_n 0, 1) := by decide +kernel
theorem dX4_readLaw_21 : decode cX4_readLaw 21 = .ok (.getfield 89, 3) := by decide +kernel
theorem dX4_readLaw_24 : decode cX4_readLaw 24 = .ok (.putfield 96, 3) := by decide +kernel
theorem dX4_readLaw_27 : decode cX4_readLaw 27 = .ok (.aload_n 0, 1) := by decide +kernel
theorem dX4_readLaw_28 : decode cX4_readLaw 28 = .ok (.iconst 0, 1) := by decide +kernel
theorem dX4_readLaw_29 : decode cX4_readLaw 29 = .ok (.bipush 9, 2) := by decide +kernel
theorem dX4_readLaw_31 : decode cX4_readLaw 31 = .ok (.invokevirtual 85, 3) := by decide +kernel
theorem dX4_readLaw_34 : decode cX4_readLaw 34 = .ok (.ifCond .ne 5, 3) := by decide +kernel
theorem dX4_readLaw_37 : decode cX4_readLaw 37 = .ok (.iconst 0, 1) := by decide +kernel
theorem dX4_readLaw_38 : decode cX4_readLaw 38 = .ok (.ireturn, 1) := by decide +kernel
theorem dX4_readLaw_39 : decode cX4_readLaw 39 = .ok (.aload_n 1, 1) := by decide +kernel
theorem dX4_readLaw_40 : decode cX4_readLaw 40 = .ok (.aload_n 0, 1) := by decide +kernel
theorem dX4_readLaw_41 : decode cX4_readLaw 41 = .ok (.getfield 89, 3) := by decide +kernel
theorem dX4_readLaw_44 : decode cX4_readLaw 44 = .ok (.putfield 99, 3) := by decide +kernel
theorem dX4_readLaw_47 : decode cX4_readLaw 47 = .ok (.aload_n 0, 1) := by decide +kernel
theorem dX4_readLaw_48 : decode cX4_readLaw 48 = .ok (.iconst 0, 1) := by decide +kernel
theorem dX4_readLaw_49 : decode cX4_readLaw 49 = .ok (.bipush 9, 2) := by decide +kernel
theorem dX4_readLaw_51 : decode cX4_readLaw 51 = .ok (.invokevirtual 85, 3) := by decide +kernel
theorem dX4_readLaw_54 : decode cX4_readLaw 54 = .ok (.ifCond .ne 5, 3) := by decide +kernel
theorem dX4_readLaw_57 : decode cX4_readLaw 57 = .ok (.iconst 0, 1) := by decide +kernel
theorem dX4_readLaw_58 : decode cX4_readLaw 58 = .ok (.ireturn, 1) := by decide +kernel
theorem dX4_readLaw_59 : decode cX4_readLaw 59 = .ok (.aload_n 1, 1) := by decide +kernel
theorem dX4_readLaw_60 : decode cX4_readLaw 60 = .ok (.aload_n 0, 1) := by decide +kernel
theorem dX4_readLaw_61 : decode cX4_readLaw 61 = .ok (.getfield 89, 3) := by decide +kernel
theorem dX4_readLaw_64 : decode cX4_readLaw 64 = .ok (.putfield 102, 3) := by decide +kernel
theorem dX4_readLaw_67 : decode cX4_readLaw 67 = .ok (.aload_n 0, 1) := by decide +kernel
theorem dX4_readLaw_68 : decode cX4_readLaw 68 = .ok (.iconst 1, 1) := by decide +kernel
theorem dX4_readLaw_69 : decode cX4_readLaw 69 = .ok (.putfield 26, 3) := by decide +kernel
theorem dX4_readLaw_72 : decode cX4_readLaw 72 = .ok (.aload_n 0, 1) := by decide +kernel
theorem dX4_readLaw_73 : decode cX4_readLaw 73 = .ok (.invokevirtual 81, 3) := by decide +kernel
theorem dX4_readLaw_76 : decode cX4_readLaw 76 = .ok (.ireturn, 1) := by decide +kernel
theorem dX4_readStart_0 : decode cX4_readStart 0 = .ok (.aload_n 0, 1) := by decide +kernel
theorem dX4_readStart_1 : decode cX4_readStart 1 = .ok (.getfield 30, 3) := by decide +kernel
theorem dX4_readStart_4 : decode cX4_readStart 4 = .ok (.ifCond .ne 13, 3) := by decide +kernel
theorem dX4_readStart_7 : decode cX4_readStart 7 = .ok (.aload_n 0, 1) := by decide +kernel
theorem dX4_readStart_8 : decode cX4_readStart 8 = .ok (.iconst 1, 1) := by decide +kernel
theorem dX4_readStart_9 : decode cX4_readStart 9 = .ok (.bipush 99, 2) := by decide +kernel
theorem dX4_readStart_11 : decode cX4_readStart 11 = .ok (.invokevirtual 85, 3) := by decide +kernel
theorem dX4_readStart_14 : decode cX4_readStart 14 = .ok (.ifCond .ne 5, 3) := by decide +kernel
theorem dX4_readStart_17 : decode cX4_readStart 17 = .ok (.iconst 0, 1) := by decide +kernel
theorem dX4_readStart_18 : decode cX4_readStart 18 = .ok (.ireturn, 1) := by decide +kernel
theorem dX4_readStart_19 : decode cX4_readStart 19 = .ok (.aload_n 1, 1) := by decide +kernel
theorem dX4_readStart_20 : decode cX4_readStart 20 = .ok (.aload_n 0, 1) := by decide +kernel
theorem dX4_readStart_21 : decode cX4_readStart 21 = .ok (.getfield 89, 3) := by decide +kernel
theorem dX4_readStart_24 : decode cX4_readStart 24 = .ok (.putfield 105, 3) := by decide +kernel
theorem dX4_readStart_27 : decode cX4_readStart 27 = .ok (.aload_n 0, 1) := by decide +kernel
theorem dX4_readStart_28 : decode cX4_readStart 28 = .ok (.iconst 1, 1) := by decide +kernel
theorem dX4_readStart_29 : decode cX4_readStart 29 = .ok (.putfield 30, 3) := by decide +kernel
theorem dX4_readStart_32 : decode cX4_readStart 32 = .ok (.aload_n 0, 1) := by decide +kernel
theorem dX4_readStart_33 : decode cX4_readStart 33 = .ok (.invokevirtual 81, 3) := by decide +kernel
theorem dX4_readStart_36 : decode cX4_readStart 36 = .ok (.ireturn, 1) := by decide +kernel
theorem dX4_readWord_0 : decode cX4_readWord 0 = .ok (.aload_n 1, 1) := by decide +kernel
theorem dX4_readWord_1 : decode cX4_readWord 1 = .ok (.getfield 107, 3) := by decide +kernel
theorem dX4_readWord_4 : decode cX4_readWord 4 = .ok (.iconst 5, 1) := by decide +kernel
theorem dX4_readWord_5 : decode cX4_readWord 5 = .ok (.if_icmp .ge 12, 3) := by decide +kernel
theorem dX4_readWord_8 : decode cX4_readWord 8 = .ok (.aload_n 0, 1) := by decide +kernel
theorem dX4_readWord_9 : decode cX4_readWord 9 = .ok (.iconst 0, 1) := by decide +kernel
theorem dX4_readWord_10 : decode cX4_readWord 10 = .ok (.iconst 3, 1) := by decide +kernel
theorem dX4_readWord_11 : decode cX4_readWord 11 = .ok (.invokevirtual 85, 3) := by decide +kernel
theorem dX4_readWord_14 : decode cX4_readWord 14 = .ok (.ifCond .ne 5, 3) := by decide +kernel
theorem dX4_readWord_17 : decode cX4_readWord 17 = .ok (.iconst 0, 1) := by decide +kernel
theorem dX4_readWord_18 : decode cX4_readWord 18 = .ok (.ireturn, 1) := by decide +kernel
theorem dX4_readWord_19 : decode cX4_readWord 19 = .ok (.aload_n 0, 1) := by decide +kernel
theorem dX4_readWord_20 : decode cX4_readWord 20 = .ok (.getfield 89, 3) := by decide +kernel
theorem dX4_readWord_23 : decode cX4_readWord 23 = .ok (.istore_n 2, 1) := by decide +kernel
theorem dX4_readWord_24 : decode cX4_readWord 24 = .ok (.aload_n 0, 1) := by decide +kernel
theorem dX4_readWord_25 : decode cX4_readWord 25 = .ok (.iconst 0, 1) := by decide +kernel
theorem dX4_readWord_26 : decode cX4_readWord 26 = .ok (.bipush 90, 2) := by decide +kernel
theorem dX4_readWord_28 : decode cX4_readWord 28 = .ok (.invokevirtual 85, 3) := by decide +kernel
theorem dX4_readWord_31 : decode cX4_readWord 31 = .ok (.ifCond .ne 5, 3) := by decide +kernel
theorem dX4_readWord_34 : decode cX4_readWord 34 = .ok (.iconst 0, 1) := by decide +kernel
theorem dX4_readWord_35 : decode cX4_readWord 35 = .ok (.ireturn, 1) := by decide +kernel
theorem dX4_readWord_36 : decode cX4_readWord 36 = .ok (.aload_n 0, 1) := by decide +kernel
theorem dX4_readWord_37 : decode cX4_readWord 37 = .ok (.getfield 89, 3) := by decide +kernel
theorem dX4_readWord_40 : decode cX4_readWord 40 = .ok (.istore_n 3, 1) := by decide +kernel
theorem dX4_readWord_41 : decode cX4_readWord 41 = .ok (.aload_n 0, 1) := by decide +kernel
theorem dX4_readWord_42 : decode cX4_readWord 42 = .ok (.iconst 0, 1) := by decide +kernel
theorem dX4_readWord_43 : decode cX4_readWord 43 = .ok (.aload_n 1, 1) := by decide +kernel
theorem dX4_readWord_44 : decode cX4_readWord 44 = .ok (.getfield 78, 3) := by decide +kernel
theorem dX4_readWord_47 : decode cX4_readWord 47 = .ok (.iconst 1, 1) := by decide +kernel
theorem dX4_readWord_48 : decode cX4_readWord 48 = .ok (.isub, 1) := by decide +kernel
theorem dX4_readWord_49 : decode cX4_readWord 49 = .ok (.invokevirtual 85, 3) := by decide +kernel
theorem dX4_readWord_52 : decode cX4_readWord 52 = .ok (.ifCond .ne 5, 3) := by decide +kernel
theorem dX4_readWord_55 : decode cX4_readWord 55 = .ok (.iconst 0, 1) := by decide +kernel
theorem dX4_readWord_56 : decode cX4_readWord 56 = .ok (.ireturn, 1) := by decide +kernel
theorem dX4_readWord_57 : decode cX4_readWord 57 = .ok (.aload_n 0, 1) := by decide +kernel
theorem dX4_readWord_58 : decode cX4_readWord 58 = .ok (.getfield 89, 3) := by decide +kernel
theorem dX4_readWord_61 : decode cX4_readWord 61 = .ok (.istore 4, 2) := by decide +kernel
theorem dX4_readWord_63 : decode cX4_readWord 63 = .ok (.aload_n 0, 1) := by decide +kernel
theorem dX4_readWord_64 : decode cX4_readWord 64 = .ok (.invokevirtual 36, 3) := by decide +kernel
theorem dX4_readWord_67 : decode cX4_readWord 67 = .ok (.aload_n 0, 1) := by decide +kernel
theorem dX4_readWord_68 : decode cX4_readWord 68 = .ok (.ldc 110, 2) := by decide +kernel
theorem dX4_readWord_70 : decode cX4_readWord 70 = .ok (.invokevirtual 51, 3) := by decide +kernel
theorem dX4_readWord_73 : decode cX4_readWord 73 = .ok (.istore 5, 2) := by decide +kernel
theorem dX4_readWord_75 : decode cX4_readWord 75 = .ok (.iload 5, 2) := by decide +kernel
theorem dX4_readWord_77 : decode cX4_readWord 77 = .ok (.ifCond .eq 7, 3) := by decide +kernel
theorem dX4_readWord_80 : decode cX4_readWord 80 = .ok (.aload_n 0, 1) := by decide +kernel
theorem dX4_readWord_81 : decode cX4_readWord 81 = .ok (.invokevirtual 36, 3) := by decide +kernel
theorem dX4_readWord_84 : decode cX4_readWord 84 = .ok (.aload_n 1, 1) := by decide +kernel
theorem dX4_readWord_85 : decode cX4_readWord 85 = .ok (.iload_n 2, 1) := by decide +kernel
theorem dX4_readWord_86 : decode cX4_readWord 86 = .ok (.iload_n 3, 1) := by decide +kernel
theorem dX4_readWord_87 : decode cX4_readWord 87 = .ok (.iload 4, 2) := by decide +kernel
theorem dX4_readWord_89 : decode cX4_readWord 89 = .ok (.iload 5, 2) := by decide +kernel
theorem dX4_readWord_91 : decode cX4_readWord 91 = .ok (.invokevirtual 112, 3) := by decide +kernel
theorem dX4_readWord_94 : decode cX4_readWord 94 = .ok (.aload_n 0, 1) := by decide +kernel
theorem dX4_readWord_95 : decode cX4_readWord 95 = .ok (.getfield 39, 3) := by decide +kernel
theorem dX4_readWord_98 : decode cX4_readWord 98 = .ok (.iconst 2, 1) := by decide +kernel
theorem dX4_readWord_99 : decode cX4_readWord 99 = .ok (.if_icmp .ne 7, 3) := by decide +kernel
theorem dX4_readWord_102 : decode cX4_readWord 102 = .ok (.iconst 1, 1) := by decide +kernel
theorem dX4_readWord_103 : decode cX4_readWord 103 = .ok (.goto 4, 3) := by decide +kernel
theorem dX4_readWord_106 : decode cX4_readWord 106 = .ok (.iconst 0, 1) := by decide +kernel
theorem dX4_readWord_107 : decode cX4_readWord 107 = .ok (.ireturn, 1) := by decide +kernel
theorem dX4_nextIsNumber_0 : decode cX4_nextIsNumber 0 = .ok (.aload_n 0, 1) := by decide +kernel
theorem dX4_nextIsNumber_1 : decode cX4_nextIsNumber 1 = .ok (.invokevirtual 36, 3) := by decide +kernel
theorem dX4_nextIsNumber_4 : decode cX4_nextIsNumber 4 = .ok (.aload_n 0, 1) := by decide +kernel
theorem dX4_nextIsNumber_5 : decode cX4_nextIsNumber 5 = .ok (.getfield 39, 3) := by decide +kernel
theorem dX4_nextIsNumber_8 : decode cX4_nextIsNumber 8 = .ok (.iconst 3, 1) := by decide +kernel
theorem dX4_nextIsNumber_9 : decode cX4_nextIsNumber 9 = .ok (.if_icmp .ne 19, 3) := by decide +kernel
theorem dX4_nextIsNumber_12 : decode cX4_nextIsNumber 12 = .ok (.aload_n 0, 1) := by decide +kernel
theorem dX4_nextIsNumber_13 : decode cX4_nextIsNumber 13 = .ok (.getfield 89, 3) := by decide +kernel
theorem dX4_nextIsNumber_16 : decode cX4_nextIsNumber 16 = .ok (.iload_n 1, 1) := by decide +kernel
theorem dX4_nextIsNumber_17 : decode cX4_nextIsNumber 17 = .ok (.iload_n 2, 1) := by decide +kernel
theorem dX4_nextIsNumber_18 : decode cX4_nextIsNumber 18 = .ok (.invokestatic 116, 3) := by decide +kernel
theorem dX4_nextIsNumber_21 : decode cX4_nextIsNumber 21 = .ok (.ifCond .eq 7, 3) := by decide +kernel
theorem dX4_nextIsNumber_24 : decode cX4_nextIsNumber 24 = .ok (.iconst 1, 1) := by decide +kernel
theorem dX4_nextIsNumber_25 : decode cX4_nextIsNumber 25 = .ok (.goto 4, 3) := by decide +kernel
theorem dX4_nextIsNumber_28 : decode cX4_nextIsNumber 28 = .ok (.iconst 0, 1) := by decide +kernel
theorem dX4_nextIsNumber_29 : decode cX4_nextIsNumber 29 = .ok (.ireturn, 1) := by decide +kernel
theorem dX4_nextEnds_0 : decode cX4_nextEnds 0 = .ok (.aload_n 0, 1) := by decide +kernel
theorem dX4_nextEnds_1 : decode cX4_nextEnds 1 = .ok (.invokevirtual 36, 3) := by decide +kernel
theorem dX4_nextEnds_4 : decode cX4_nextEnds 4 = .ok (.aload_n 0, 1) := by decide +kernel
theorem dX4_nextEnds_5 : decode cX4_nextEnds 5 = .ok (.getfield 39, 3) := by decide +kernel
theorem dX4_nextEnds_8 : decode cX4_nextEnds 8 = .ok (.iconst 2, 1) := by decide +kernel
theorem dX4_nextEnds_9 : decode cX4_nextEnds 9 = .ok (.if_icmp .ne 7, 3) := by decide +kernel
theorem dX4_nextEnds_12 : decode cX4_nextEnds 12 = .ok (.iconst 1, 1) := by decide +kernel
theorem dX4_nextEnds_13 : decode cX4_nextEnds 13 = .ok (.goto 4, 3) := by decide +kernel
theorem dX4_nextEnds_16 : decode cX4_nextEnds 16 = .ok (.iconst 0, 1) := by decide +kernel
theorem dX4_nextEnds_17 : decode cX4_nextEnds 17 = .ok (.ireturn, 1) := by decide +kernel
theorem dX4_next_0 : decode cX4_next 0 = .ok (.aload_n 0, 1) := by decide +kernel
theorem dX4_next_1 : decode cX4_next 1 = .ok (.getfield 33, 3) := by decide +kernel
theorem dX4_next_4 : decode cX4_next 4 = .ok (.aload_n 0, 1) := by decide +kernel
theorem dX4_next_5 : decode cX4_next 5 = .ok (.getfield 15, 3) := by decide +kernel
theorem dX4_next_8 : decode cX4_next 8 = .ok (.if_icmp .ge 30, 3) := by decide +kernel
theorem dX4_next_11 : decode cX4_next 11 = .ok (.aload_n 0, 1) := by decide +kernel
theorem dX4_next_12 : decode cX4_next 12 = .ok (.getfield 9, 3) := by decide +kernel
theorem dX4_next_15 : decode cX4_next 15 = .ok (.aload_n 0, 1) := by decide +kernel
theorem dX4_next_16 : decode cX4_next 16 = .ok (.getfield 33, 3) := by decide +kernel
theorem dX4_next_19 : decode cX4_next 19 = .ok (.caload, 1) := by decide +kernel
theorem dX4_next_20 : decode cX4_next 20 = .ok (.bipush 32, 2) := by decide +kernel
theorem dX4_next_22 : decode cX4_next 22 = .ok (.if_icmp .ne 16, 3) := by decide +kernel
theorem dX4_next_25 : decode cX4_next 25 = .ok (.aload_n 0, 1) := by decide +kernel
theorem dX4_next_26 : decode cX4_next 26 = .ok (.dup, 1) := by decide +kernel
theorem dX4_next_27 : decode cX4_next 27 = .ok (.getfield 33, 3) := by decide +kernel
theorem dX4_next_30 : decode cX4_next 30 = .ok (.iconst 1, 1) := by decide +kernel
theorem dX4_next_31 : decode cX4_next 31 = .ok (.iadd, 1) := by decide +kernel
theorem dX4_next_32 : decode cX4_next 32 = .ok (.putfield 33, 3) := by decide +kernel
theorem dX4_next_35 : decode cX4_next 35 = .ok (.goto (-35), 3) := by decide +kernel
theorem dX4_next_38 : decode cX4_next 38 = .ok (.aload_n 0, 1) := by decide +kernel
theorem dX4_next_39 : decode cX4_next 39 = .ok (.aload_n 0, 1) := by decide +kernel
theorem dX4_next_40 : decode cX4_next 40 = .ok (.getfield 33, 3) := by decide +kernel
theorem dX4_next_43 : decode cX4_next 43 = .ok (.putfield 46, 3) := by decide +kernel
theorem dX4_next_46 : decode cX4_next 46 = .ok (.aload_n 0, 1) := by decide +kernel
theorem dX4_next_47 : decode cX4_next 47 = .ok (.getfield 46, 3) := by decide +kernel
theorem dX4_next_50 : decode cX4_next 50 = .ok (.aload_n 0, 1) := by decide +kernel
theorem dX4_next_51 : decode cX4_next 51 = .ok (.getfield 15, 3) := by decide +kernel
theorem dX4_next_54 : decode cX4_next 54 = .ok (.if_icmp .lt 11, 3) := by decide +kernel
theorem dX4_next_57 : decode cX4_next 57 = .ok (.aload_n 0, 1) := by decide +kernel
theorem dX4_next_58 : decode cX4_next 58 = .ok (.iconst 0, 1) := by decide +kernel
theorem dX4_next_59 : decode cX4_next 59 = .ok (.putfield 39, 3) := by decide +kernel
theorem dX4_next_62 : decode cX4_next 62 = .ok (.goto 80, 3) := by decide +kernel
theorem dX4_next_65 : decode cX4_next 65 = .ok (.aload_n 0, 1) := by decide +kernel
theorem dX4_next_66 : decode cX4_next 66 = .ok (.getfield 9, 3) := by decide +kernel
theorem dX4_next_69 : decode cX4_next 69 = .ok (.aload_n 0, 1) := by decide +kernel
theorem dX4_next_70 : decode cX4_next 70 = .ok (.getfield 46, 3) := by decide +kernel
theorem dX4_next_73 : decode cX4_next 73 = .ok (.caload, 1) := by decide +kernel
theorem dX4_next_74 : decode cX4_next 74 = .ok (.invokestatic 120, 3) := by decide +kernel
theorem dX4_next_77 : decode cX4_next 77 = .ok (.ifCond .eq 10, 3) := by decide +kernel
theorem dX4_next_80 : decode cX4_next 80 = .ok (.aload_n 0, 1) := by decide +kernel
theorem dX4_next_81 : decode cX4_next 81 = .ok (.invokevirtual 124, 3) := by decide +kernel
theorem dX4_next_84 : decode cX4_next 84 = .ok (.goto 58, 3) := by decide +kernel
theorem dX4_next_87 : decode cX4_next 87 = .ok (.aload_n 0, 1) := by decide +kernel
theorem dX4_next_88 : decode cX4_next 88 = .ok (.getfield 9, 3) := by decide +kernel
theorem dX4_next_91 : decode cX4_next 91 = .ok (.aload_n 0, 1) := by decide +kernel
theorem dX4_next_92 : decode cX4_next 92 = .ok (.getfield 46, 3) := by decide +kernel
theorem dX4_next_95 : decode cX4_next 95 = .ok (.caload, 1) := by decide +kernel
theorem dX4_next_96 : decode cX4_next 96 = .ok (.invokestatic 127, 3) := by decide +kernel
theorem dX4_next_99 : decode cX4_next 99 = .ok (.ifCond .eq 10, 3) := by decide +kernel
theorem dX4_next_102 : decode cX4_next 102 = .ok (.aload_n 0, 1) := by decide +kernel
theorem dX4_next_103 : decode cX4_next 103 = .ok (.invokevirtual 130, 3) := by decide +kernel
theorem dX4_next_106 : decode cX4_next 106 = .ok (.goto 36, 3) := by decide +kernel
theorem dX4_next_109 : decode cX4_next 109 = .ok (.aload_n 0, 1) := by decide +kernel
theorem dX4_next_110 : decode cX4_next 110 = .ok (.aload_n 0, 1) := by decide +kernel
theorem dX4_next_111 : decode cX4_next 111 = .ok (.getfield 9, 3) := by decide +kernel
theorem dX4_next_114 : decode cX4_next 114 = .ok (.aload_n 0, 1) := by decide +kernel
theorem dX4_next_115 : decode cX4_next 115 = .ok (.getfield 46, 3) := by decide +kernel
theorem dX4_next_118 : decode cX4_next 118 = .ok (.caload, 1) := by decide +kernel
theorem dX4_next_119 : decode cX4_next 119 = .ok (.bipush 59, 2) := by decide +kernel
theorem dX4_next_121 : decode cX4_next 121 = .ok (.if_icmp .ne 7, 3) := by decide +kernel
theorem dX4_next_124 : decode cX4_next 124 = .ok (.iconst 2, 1) := by decide +kernel
theorem dX4_next_125 : decode cX4_next 125 = .ok (.goto 4, 3) := by decide +kernel
theorem dX4_next_128 : decode cX4_next 128 = .ok (.iconst 1, 1) := by decide +kernel
theorem dX4_next_129 : decode cX4_next 129 = .ok (.putfield 39, 3) := by decide +kernel
theorem dX4_next_132 : decode cX4_next 132 = .ok (.aload_n 0, 1) := by decide +kernel
theorem dX4_next_133 : decode cX4_next 133 = .ok (.dup, 1) := by decide +kernel
theorem dX4_next_134 : decode cX4_next 134 = .ok (.getfield 33, 3) := by decide +kernel
theorem dX4_next_137 : decode cX4_next 137 = .ok (.iconst 1, 1) := by decide +kernel
theorem dX4_next_138 : decode cX4_next 138 = .ok (.iadd, 1) := by decide +kernel
theorem dX4_next_139 : decode cX4_next 139 = .ok (.putfield 33, 3) := by decide +kernel
theorem dX4_next_142 : decode cX4_next 142 = .ok (.return_, 1) := by decide +kernel
theorem dX4_takeNumber_0 : decode cX4_takeNumber 0 = .ok (.aload_n 0, 1) := by decide +kernel
theorem dX4_takeNumber_1 : decode cX4_takeNumber 1 = .ok (.iconst 0, 1) := by decide +kernel
theorem dX4_takeNumber_2 : decode cX4_takeNumber 2 = .ok (.putfield 89, 3) := by decide +kernel
theorem dX4_takeNumber_5 : decode cX4_takeNumber 5 = .ok (.aload_n 0, 1) := by decide +kernel
theorem dX4_takeNumber_6 : decode cX4_takeNumber 6 = .ok (.getfield 33, 3) := by decide +kernel
theorem dX4_takeNumber_9 : decode cX4_takeNumber 9 = .ok (.aload_n 0, 1) := by decide +kernel
theorem dX4_takeNumber_10 : decode cX4_takeNumber 10 = .ok (.getfield 15, 3) := by decide +kernel
theorem dX4_takeNumber_13 : decode cX4_takeNumber 13 = .ok (.if_icmp .ge 55, 3) := by decide +kernel
theorem dX4_takeNumber_16 : decode cX4_takeNumber 16 = .ok (.aload_n 0, 1) := by decide +kernel
theorem dX4_takeNumber_17 : decode cX4_takeNumber 17 = .ok (.getfield 9, 3) := by decide +kernel
theorem dX4_takeNumber_20 : decode cX4_takeNumber 20 = .ok (.aload_n 0, 1) := by decide +kernel
theorem dX4_takeNumber_21 : decode cX4_takeNumber 21 = .ok (.getfield 33, 3) := by decide +kernel
theorem dX4_takeNumber_24 : decode cX4_takeNumber 24 = .ok (.caload, 1) := by decide +kernel
theorem dX4_takeNumber_25 : decode cX4_takeNumber 25 = .ok (.invokestatic 120, 3) := by decide +kernel
theorem dX4_takeNumber_28 : decode cX4_takeNumber 28 = .ok (.ifCond .eq 40, 3) := by decide +kernel
theorem dX4_takeNumber_31 : decode cX4_takeNumber 31 = .ok (.aload_n 0, 1) := by decide +kernel
theorem dX4_takeNumber_32 : decode cX4_takeNumber 32 = .ok (.aload_n 0, 1) := by decide +kernel
theorem dX4_takeNumber_33 : decode cX4_takeNumber 33 = .ok (.getfield 89, 3) := by decide +kernel
theorem dX4_takeNumber_36 : decode cX4_takeNumber 36 = .ok (.bipush 10, 2) := by decide +kernel
theorem dX4_takeNumber_38 : decode cX4_takeNumber 38 = .ok (.imul, 1) := by decide +kernel
theorem dX4_takeNumber_39 : decode cX4_takeNumber 39 = .ok (.aload_n 0, 1) := by decide +kernel
theorem dX4_takeNumber_40 : decode cX4_takeNumber 40 = .ok (.getfield 9, 3) := by decide +kernel
theorem dX4_takeNumber_43 : decode cX4_takeNumber 43 = .ok (.aload_n 0, 1) := by decide +kernel
theorem dX4_takeNumber_44 : decode cX4_takeNumber 44 = .ok (.getfield 33, 3) := by decide +kernel
theorem dX4_takeNumber_47 : decode cX4_takeNumber 47 = .ok (.caload, 1) := by decide +kernel
theorem dX4_takeNumber_48 : decode cX4_takeNumber 48 = .ok (.iadd, 1) := by decide +kernel
theorem dX4_takeNumber_49 : decode cX4_takeNumber 49 = .ok (.bipush 48, 2) := by decide +kernel
theorem dX4_takeNumber_51 : decode cX4_takeNumber 51 = .ok (.isub, 1) := by decide +kernel
theorem dX4_takeNumber_52 : decode cX4_takeNumber 52 = .ok (.putfield 89, 3) := by decide +kernel
theorem dX4_takeNumber_55 : decode cX4_takeNumber 55 = .ok (.aload_n 0, 1) := by decide +kernel
theorem dX4_takeNumber_56 : decode cX4_takeNumber 56 = .ok (.dup, 1) := by decide +kernel
theorem dX4_takeNumber_57 : decode cX4_takeNumber 57 = .ok (.getfield 33, 3) := by decide +kernel
theorem dX4_takeNumber_60 : decode cX4_takeNumber 60 = .ok (.iconst 1, 1) := by decide +kernel
theorem dX4_takeNumber_61 : decode cX4_takeNumber 61 = .ok (.iadd, 1) := by decide +kernel
theorem dX4_takeNumber_62 : decode cX4_takeNumber 62 = .ok (.putfield 33, 3) := by decide +kernel
theorem dX4_takeNumber_65 : decode cX4_takeNumber 65 = .ok (.goto (-60), 3) := by decide +kernel
theorem dX4_takeNumber_68 : decode cX4_takeNumber 68 = .ok (.aload_n 0, 1) := by decide +kernel
theorem dX4_takeNumber_69 : decode cX4_takeNumber 69 = .ok (.getfield 33, 3) := by decide +kernel
theorem dX4_takeNumber_72 : decode cX4_takeNumber 72 = .ok (.aload_n 0, 1) := by decide +kernel
theorem dX4_takeNumber_73 : decode cX4_takeNumber 73 = .ok (.getfield 46, 3) := by decide +kernel
theorem dX4_takeNumber_76 : decode cX4_takeNumber 76 = .ok (.isub, 1) := by decide +kernel
theorem dX4_takeNumber_77 : decode cX4_takeNumber 77 = .ok (.istore_n 1, 1) := by decide +kernel
theorem dX4_takeNumber_78 : decode cX4_takeNumber 78 = .ok (.aload_n 0, 1) := by decide +kernel
theorem dX4_takeNumber_79 : decode cX4_takeNumber 79 = .ok (.iload_n 1, 1) := by decide +kernel
theorem dX4_takeNumber_80 : decode cX4_takeNumber 80 = .ok (.iconst 1, 1) := by decide +kernel
theorem dX4_takeNumber_81 : decode cX4_takeNumber 81 = .ok (.if_icmp .eq 22, 3) := by decide +kernel
theorem dX4_takeNumber_84 : decode cX4_takeNumber 84 = .ok (.iload_n 1, 1) := by decide +kernel
theorem dX4_takeNumber_85 : decode cX4_takeNumber 85 = .ok (.iconst 2, 1) := by decide +kernel
theorem dX4_takeNumber_86 : decode cX4_takeNumber 86 = .ok (.if_icmp .ne 21, 3) := by decide +kernel
theorem dX4_takeNumber_89 : decode cX4_takeNumber 89 = .ok (.aload_n 0, 1) := by decide +kernel
theorem dX4_takeNumber_90 : decode cX4_takeNumber 90 = .ok (.getfield 9, 3) := by decide +kernel
theorem dX4_takeNumber_93 : decode cX4_takeNumber 93 = .ok (.aload_n 0, 1) := by decide +kernel
theorem dX4_takeNumber_94 : decode cX4_takeNumber 94 = .ok (.getfield 46, 3) := by decide +kernel
theorem dX4_takeNumber_97 : decode cX4_takeNumber 97 = .ok (.caload, 1) := by decide +kernel
theorem dX4_takeNumber_98 : decode cX4_takeNumber 98 = .ok (.bipush 48, 2) := by decide +kernel
theorem dX4_takeNumber_100 : decode cX4_takeNumber 100 = .ok (.if_icmp .eq 7, 3) := by decide +kernel
theorem dX4_takeNumber_103 : decode cX4_takeNumber 103 = .ok (.iconst 3, 1) := by decide +kernel
theorem dX4_takeNumber_104 : decode cX4_takeNumber 104 = .ok (.goto 4, 3) := by decide +kernel
theorem dX4_takeNumber_107 : decode cX4_takeNumber 107 = .ok (.iconst 1, 1) := by decide +kernel
theorem dX4_takeNumber_108 : decode cX4_takeNumber 108 = .ok (.putfield 39, 3) := by decide +kernel
theorem dX4_takeNumber_111 : decode cX4_takeNumber 111 = .ok (.return_, 1) := by decide +kernel
theorem dX4_takeLetters_0 : decode cX4_takeLetters 0 = .ok (.aload_n 0, 1) := by decide +kernel
theorem dX4_takeLetters_1 : decode cX4_takeLetters 1 = .ok (.getfield 33, 3) := by decide +kernel
theorem dX4_takeLetters_4 : decode cX4_takeLetters 4 = .ok (.aload_n 0, 1) := by decide +kernel
theorem dX4_takeLetters_5 : decode cX4_takeLetters 5 = .ok (.getfield 15, 3) := by decide +kernel
theorem dX4_takeLetters_8 : decode cX4_takeLetters 8 = .ok (.if_icmp .ge 31, 3) := by decide +kernel
theorem dX4_takeLetters_11 : decode cX4_takeLetters 11 = .ok (.aload_n 0, 1) := by decide +kernel
theorem dX4_takeLetters_12 : decode cX4_takeLetters 12 = .ok (.getfield 9, 3) := by decide +kernel
theorem dX4_takeLetters_15 : decode cX4_takeLetters 15 = .ok (.aload_n 0, 1) := by decide +kernel
theorem dX4_takeLetters_16 : decode cX4_takeLetters 16 = .ok (.getfield 33, 3) := by decide +kernel
theorem dX4_takeLetters_19 : decode cX4_takeLetters 19 = .ok (.caload, 1) := by decide +kernel
theorem dX4_takeLetters_20 : decode cX4_takeLetters 20 = .ok (.invokestatic 127, 3) := by decide +kernel
theorem dX4_takeLetters_23 : decode cX4_takeLetters 23 = .ok (.ifCond .eq 16, 3) := by decide +kernel
theorem dX4_takeLetters_26 : decode cX4_takeLetters 26 = .ok (.aload_n 0, 1) := by decide +kernel
theorem dX4_takeLetters_27 : decode cX4_takeLetters 27 = .ok (.dup, 1) := by decide +kernel
theorem dX4_takeLetters_28 : decode cX4_takeLetters 28 = .ok (.getfield 33, 3) := by decide +kernel
theorem dX4_takeLetters_31 : decode cX4_takeLetters 31 = .ok (.iconst 1, 1) := by decide +kernel
theorem dX4_takeLetters_32 : decode cX4_takeLetters 32 = .ok (.iadd, 1) := by decide +kernel
theorem dX4_takeLetters_33 : decode cX4_takeLetters 33 = .ok (.putfield 33, 3) := by decide +kernel
theorem dX4_takeLetters_36 : decode cX4_takeLetters 36 = .ok (.goto (-36), 3) := by decide +kernel
theorem dX4_takeLetters_39 : decode cX4_takeLetters 39 = .ok (.aload_n 0, 1) := by decide +kernel
theorem dX4_takeLetters_40 : decode cX4_takeLetters 40 = .ok (.iconst 4, 1) := by decide +kernel
theorem dX4_takeLetters_41 : decode cX4_takeLetters 41 = .ok (.putfield 39, 3) := by decide +kernel
theorem dX4_takeLetters_44 : decode cX4_takeLetters 44 = .ok (.return_, 1) := by decide +kernel
theorem dX4_spells_0 : decode cX4_spells 0 = .ok (.aload_n 0, 1) := by decide +kernel
theorem dX4_spells_1 : decode cX4_spells 1 = .ok (.getfield 33, 3) := by decide +kernel
theorem dX4_spells_4 : decode cX4_spells 4 = .ok (.aload_n 0, 1) := by decide +kernel
theorem dX4_spells_5 : decode cX4_spells 5 = .ok (.getfield 46, 3) := by decide +kernel
theorem dX4_spells_8 : decode cX4_spells 8 = .ok (.isub, 1) := by decide +kernel
theorem dX4_spells_9 : decode cX4_spells 9 = .ok (.aload_n 1, 1) := by decide +kernel
theorem dX4_spells_10 : decode cX4_spells 10 = .ok (.invokevirtual 133, 3) := by decide +kernel
theorem dX4_spells_13 : decode cX4_spells 13 = .ok (.if_icmp .eq 5, 3) := by decide +kernel
theorem dX4_spells_16 : decode cX4_spells 16 = .ok (.iconst 0, 1) := by decide +kernel
theorem dX4_spells_17 : decode cX4_spells 17 = .ok (.ireturn, 1) := by decide +kernel
theorem dX4_spells_18 : decode cX4_spells 18 = .ok (.iconst 0, 1) := by decide +kernel
theorem dX4_spells_19 : decode cX4_spells 19 = .ok (.istore_n 2, 1) := by decide +kernel
theorem dX4_spells_20 : decode cX4_spells 20 = .ok (.iload_n 2, 1) := by decide +kernel
theorem dX4_spells_21 : decode cX4_spells 21 = .ok (.aload_n 1, 1) := by decide +kernel
theorem dX4_spells_22 : decode cX4_spells 22 = .ok (.invokevirtual 133, 3) := by decide +kernel
theorem dX4_spells_25 : decode cX4_spells 25 = .ok (.if_icmp .ge 30, 3) := by decide +kernel
theorem dX4_spells_28 : decode cX4_spells 28 = .ok (.aload_n 0, 1) := by decide +kernel
theorem dX4_spells_29 : decode cX4_spells 29 = .ok (.getfield 9, 3) := by decide +kernel
theorem dX4_spells_32 : decode cX4_spells 32 = .ok (.aload_n 0, 1) := by decide +kernel
theorem dX4_spells_33 : decode cX4_spells 33 = .ok (.getfield 46, 3) := by decide +kernel
theorem dX4_spells_36 : decode cX4_spells 36 = .ok (.iload_n 2, 1) := by decide +kernel
theorem dX4_spells_37 : decode cX4_spells 37 = .ok (.iadd, 1) := by decide +kernel
theorem dX4_spells_38 : decode cX4_spells 38 = .ok (.caload, 1) := by decide +kernel
theorem dX4_spells_39 : decode cX4_spells 39 = .ok (.aload_n 1, 1) := by decide +kernel
theorem dX4_spells_40 : decode cX4_spells 40 = .ok (.iload_n 2, 1) := by decide +kernel
theorem dX4_spells_41 : decode cX4_spells 41 = .ok (.invokevirtual 138, 3) := by decide +kernel
theorem dX4_spells_44 : decode cX4_spells 44 = .ok (.if_icmp .eq 5, 3) := by decide +kernel
theorem dX4_spells_47 : decode cX4_spells 47 = .ok (.iconst 0, 1) := by decide +kernel
theorem dX4_spells_48 : decode cX4_spells 48 = .ok (.ireturn, 1) := by decide +kernel
theorem dX4_spells_49 : decode cX4_spells 49 = .ok (.iinc 2 1, 3) := by decide +kernel
theorem dX4_spells_52 : decode cX4_spells 52 = .ok (.goto (-32), 3) := by decide +kernel
theorem dX4_spells_55 : decode cX4_spells 55 = .ok (.iconst 1, 1) := by decide +kernel
theorem dX4_spells_56 : decode cX4_spells 56 = .ok (.ireturn, 1) := by decide +kernel
theorem dX4_isDigit_0 : decode cX4_isDigit 0 = .ok (.iload_n 0, 1) := by decide +kernel
theorem dX4_isDigit_1 : decode cX4_isDigit 1 = .ok (.bipush 48, 2) := by decide +kernel
theorem dX4_isDigit_3 : decode cX4_isDigit 3 = .ok (.if_icmp .lt 13, 3) := by decide +kernel
theorem dX4_isDigit_6 : decode cX4_isDigit 6 = .ok (.iload_n 0, 1) := by decide +kernel
theorem dX4_isDigit_7 : decode cX4_isDigit 7 = .ok (.bipush 57, 2) := by decide +kernel
theorem dX4_isDigit_9 : decode cX4_isDigit 9 = .ok (.if_icmp .gt 7, 3) := by decide +kernel
theorem dX4_isDigit_12 : decode cX4_isDigit 12 = .ok (.iconst 1, 1) := by decide +kernel
theorem dX4_isDigit_13 : decode cX4_isDigit 13 = .ok (.goto 4, 3) := by decide +kernel
theorem dX4_isDigit_16 : decode cX4_isDigit 16 = .ok (.iconst 0, 1) := by decide +kernel
theorem dX4_isDigit_17 : decode cX4_isDigit 17 = .ok (.ireturn, 1) := by decide +kernel
theorem dX4_isLetter_0 : decode cX4_isLetter 0 = .ok (.iload_n 0, 1) := by decide +kernel
theorem dX4_isLetter_1 : decode cX4_isLetter 1 = .ok (.bipush 97, 2) := by decide +kernel
theorem dX4_isLetter_3 : decode cX4_isLetter 3 = .ok (.if_icmp .lt 13, 3) := by decide +kernel
theorem dX4_isLetter_6 : decode cX4_isLetter 6 = .ok (.iload_n 0, 1) := by decide +kernel
theorem dX4_isLetter_7 : decode cX4_isLetter 7 = .ok (.bipush 122, 2) := by decide +kernel
theorem dX4_isLetter_9 : decode cX4_isLetter 9 = .ok (.if_icmp .gt 7, 3) := by decide +kernel
theorem dX4_isLetter_12 : decode cX4_isLetter 12 = .ok (.iconst 1, 1) := by decide +kernel
theorem dX4_isLetter_13 : decode cX4_isLetter 13 = .ok (.goto 4, 3) := by decide +kernel
theorem dX4_isLetter_16 : decode cX4_isLetter 16 = .ok (.iconst 0, 1) := by decide +kernel
theorem dX4_isLetter_17 : decode cX4_isLetter 17 = .ok (.ireturn, 1) := by decide +kernel
theorem dX5_init_0 : decode cX5_init 0 = .ok (.aload_n 0, 1) := by decide +kernel
theorem dX5_init_1 : decode cX5_init 1 = .ok (.invokespecial 3, 3) := by decide +kernel
theorem dX5_init_4 : decode cX5_init 4 = .ok (.aload_n 0, 1) := by decide +kernel
theorem dX5_init_5 : decode cX5_init 5 = .ok (.bipush 10, 2) := by decide +kernel
theorem dX5_init_7 : decode cX5_init 7 = .ok (.newarray .int, 2) := by decide +kernel
theorem dX5_init_9 : decode cX5_init 9 = .ok (.putfield 9, 3) := by decide +kernel
theorem dX5_init_12 : decode cX5_init 12 = .ok (.aload_n 0, 1) := by decide +kernel
theorem dX5_init_13 : decode cX5_init 13 = .ok (.bipush 10, 2) := by decide +kernel
theorem dX5_init_15 : decode cX5_init 15 = .ok (.newarray .int, 2) := by decide +kernel
theorem dX5_init_17 : decode cX5_init 17 = .ok (.putfield 15, 3) := by decide +kernel
theorem dX5_init_20 : decode cX5_init 20 = .ok (.aload_n 0, 1) := by decide +kernel
theorem dX5_init_21 : decode cX5_init 21 = .ok (.bipush 10, 2) := by decide +kernel
theorem dX5_init_23 : decode cX5_init 23 = .ok (.newarray .int, 2) := by decide +kernel
theorem dX5_init_25 : decode cX5_init 25 = .ok (.putfield 18, 3) := by decide +kernel
theorem dX5_init_28 : decode cX5_init 28 = .ok (.aload_n 0, 1) := by decide +kernel
theorem dX5_init_29 : decode cX5_init 29 = .ok (.bipush 10, 2) := by decide +kernel
theorem dX5_init_31 : decode cX5_init 31 = .ok (.newarray .int, 2) := by decide +kernel
theorem dX5_init_33 : decode cX5_init 33 = .ok (.putfield 21, 3) := by decide +kernel
theorem dX5_init_36 : decode cX5_init 36 = .ok (.return_, 1) := by decide +kernel
theorem dX5_add_0 : decode cX5_add 0 = .ok (.aload_n 0, 1) := by decide +kernel
theorem dX5_add_1 : decode cX5_add 1 = .ok (.getfield 9, 3) := by decide +kernel
theorem dX5_add_4 : decode cX5_add 4 = .ok (.aload_n 0, 1) := by decide +kernel
theorem dX5_add_5 : decode cX5_add 5 = .ok (.getfield 24, 3) := by decide +kernel
theorem dX5_add_8 : decode cX5_add 8 = .ok (.iload_n 1, 1) := by decide +kernel
theorem dX5_add_9 : decode cX5_add 9 = .ok (.iastore, 1) := by decide +kernel
theorem dX5_add_10 : decode cX5_add 10 = .ok (.aload_n 0, 1) := by decide +kernel
theorem dX5_add_11 : decode cX5_add 11 = .ok (.getfield 15, 3) := by decide +kernel
theorem dX5_add_14 : decode cX5_add 14 = .ok (.aload_n 0, 1) := by decide +kernel
theorem dX5_add_15 : decode cX5_add 15 = .ok (.getfield 24, 3) := by decide +kernel
theorem dX5_add_18 : decode cX5_add 18 = .ok (.iload_n 2, 1) := by decide +kernel
theorem dX5_add_19 : decode cX5_add 19 = .ok (.iastore, 1) := by decide +kernel
theorem dX5_add_20 : decode cX5_add 20 = .ok (.aload_n 0, 1) := by decide +kernel
theorem dX5_add_21 : decode cX5_add 21 = .ok (.getfield 18, 3) := by decide +kernel
theorem dX5_add_24 : decode cX5_add 24 = .ok (.aload_n 0, 1) := by decide +kernel
theorem dX5_add_25 : decode cX5_add 25 = .ok (.getfield 24, 3) := by decide +kernel
theorem dX5_add_28 : decode cX5_add 28 = .ok (.iload_n 3, 1) := by decide +kernel
theorem dX5_add_29 : decode cX5_add 29 = .ok (.iastore, 1) := by decide +kernel
theorem dX5_add_30 : decode cX5_add 30 = .ok (.aload_n 0, 1) := by decide +kernel
theorem dX5_add_31 : decode cX5_add 31 = .ok (.getfield 21, 3) := by decide +kernel
theorem dX5_add_34 : decode cX5_add 34 = .ok (.aload_n 0, 1) := by decide +kernel
theorem dX5_add_35 : decode cX5_add 35 = .ok (.getfield 24, 3) := by decide +kernel
theorem dX5_add_38 : decode cX5_add 38 = .ok (.iload 4, 2) := by decide +kernel
theorem dX5_add_40 : decode cX5_add 40 = .ok (.iastore, 1) := by decide +kernel
theorem dX5_add_41 : decode cX5_add 41 = .ok (.aload_n 0, 1) := by decide +kernel
theorem dX5_add_42 : decode cX5_add 42 = .ok (.dup, 1) := by decide +kernel
theorem dX5_add_43 : decode cX5_add 43 = .ok (.getfield 24, 3) := by decide +kernel
theorem dX5_add_46 : decode cX5_add 46 = .ok (.iconst 1, 1) := by decide +kernel
theorem dX5_add_47 : decode cX5_add 47 = .ok (.iadd, 1) := by decide +kernel
theorem dX5_add_48 : decode cX5_add 48 = .ok (.putfield 24, 3) := by decide +kernel
theorem dX5_add_51 : decode cX5_add 51 = .ok (.return_, 1) := by decide +kernel
theorem dX5_copyFrom_0 : decode cX5_copyFrom 0 = .ok (.aload_n 0, 1) := by decide +kernel
theorem dX5_copyFrom_1 : decode cX5_copyFrom 1 = .ok (.aload_n 1, 1) := by decide +kernel
theorem dX5_copyFrom_2 : decode cX5_copyFrom 2 = .ok (.getfield 24, 3) := by decide +kernel
theorem dX5_copyFrom_5 : decode cX5_copyFrom 5 = .ok (.putfield 24, 3) := by decide +kernel
theorem dX5_copyFrom_8 : decode cX5_copyFrom 8 = .ok (.aload_n 1, 1) := by decide +kernel
theorem dX5_copyFrom_9 : decode cX5_copyFrom 9 = .ok (.getfield 9, 3) := by decide +kernel
theorem dX5_copyFrom_12 : decode cX5_copyFrom 12 = .ok (.iconst 0, 1) := by decide +kernel
theorem dX5_copyFrom_13 : decode cX5_copyFrom 13 = .ok (.aload_n 0, 1) := by decide +kernel
theorem dX5_copyFrom_14 : decode cX5_copyFrom 14 = .ok (.getfield 9, 3) := by decide +kernel
theorem dX5_copyFrom_17 : decode cX5_copyFrom 17 = .ok (.iconst 0, 1) := by decide +kernel
theorem dX5_copyFrom_18 : decode cX5_copyFrom 18 = .ok (.bipush 10, 2) := by decide +kernel
theorem dX5_copyFrom_20 : decode cX5_copyFrom 20 = .ok (.invokestatic 28, 3) := by decide +kernel
theorem dX5_copyFrom_23 : decode cX5_copyFrom 23 = .ok (.aload_n 1, 1) := by decide +kernel
theorem dX5_copyFrom_24 : decode cX5_copyFrom 24 = .ok (.getfield 15, 3) := by decide +kernel
theorem dX5_copyFrom_27 : decode cX5_copyFrom 27 = .ok (.iconst 0, 1) := by decide +kernel
theorem dX5_copyFrom_28 : decode cX5_copyFrom 28 = .ok (.aload_n 0, 1) := by decide +kernel
theorem dX5_copyFrom_29 : decode cX5_copyFrom 29 = .ok (.getfield 15, 3) := by decide +kernel
theorem dX5_copyFrom_32 : decode cX5_copyFrom 32 = .ok (.iconst 0, 1) := by decide +kernel
theorem dX5_copyFrom_33 : decode cX5_copyFrom 33 = .ok (.bipush 10, 2) := by decide +kernel
theorem dX5_copyFrom_35 : decode cX5_copyFrom 35 = .ok (.invokestatic 28, 3) := by decide +kernel
theorem dX5_copyFrom_38 : decode cX5_copyFrom 38 = .ok (.aload_n 1, 1) := by decide +kernel
theorem dX5_copyFrom_39 : decode cX5_copyFrom 39 = .ok (.getfield 18, 3) := by decide +kernel
theorem dX5_copyFrom_42 : decode cX5_copyFrom 42 = .ok (.iconst 0, 1) := by decide +kernel
theorem dX5_copyFrom_43 : decode cX5_copyFrom 43 = .ok (.aload_n 0, 1) := by decide +kernel
theorem dX5_copyFrom_44 : decode cX5_copyFrom 44 = .ok (.getfield 18, 3) := by decide +kernel
theorem dX5_copyFrom_47 : decode cX5_copyFrom 47 = .ok (.iconst 0, 1) := by decide +kernel
theorem dX5_copyFrom_48 : decode cX5_copyFrom 48 = .ok (.bipush 10, 2) := by decide +kernel
theorem dX5_copyFrom_50 : decode cX5_copyFrom 50 = .ok (.invokestatic 28, 3) := by decide +kernel
theorem dX5_copyFrom_53 : decode cX5_copyFrom 53 = .ok (.aload_n 1, 1) := by decide +kernel
theorem dX5_copyFrom_54 : decode cX5_copyFrom 54 = .ok (.getfield 21, 3) := by decide +kernel
theorem dX5_copyFrom_57 : decode cX5_copyFrom 57 = .ok (.iconst 0, 1) := by decide +kernel
theorem dX5_copyFrom_58 : decode cX5_copyFrom 58 = .ok (.aload_n 0, 1) := by decide +kernel
theorem dX5_copyFrom_59 : decode cX5_copyFrom 59 = .ok (.getfield 21, 3) := by decide +kernel
theorem dX5_copyFrom_62 : decode cX5_copyFrom 62 = .ok (.iconst 0, 1) := by decide +kernel
theorem dX5_copyFrom_63 : decode cX5_copyFrom 63 = .ok (.bipush 10, 2) := by decide +kernel
theorem dX5_copyFrom_65 : decode cX5_copyFrom 65 = .ok (.invokestatic 28, 3) := by decide +kernel
theorem dX5_copyFrom_68 : decode cX5_copyFrom 68 = .ok (.return_, 1) := by decide +kernel
