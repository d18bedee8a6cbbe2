/-! the constructors: their bytes and what the tables say; written by wip/whole/congen.py -/
theorem dX0_init_0 : decode cX0_init 0 = .ok (.aload_n 0, 1) := by decide +kernel
theorem dX0_init_1 : decode cX0_init 1 = .ok (.invokespecial 3, 3) := by decide +kernel
theorem dX0_init_4 : decode cX0_init 4 = .ok (.aload_n 0, 1) := by decide +kernel
theorem dX0_init_5 : decode cX0_init 5 = .ok (.new 9, 3) := by decide +kernel
theorem dX0_init_8 : decode cX0_init 8 = .ok (.dup, 1) := by decide +kernel
theorem dX0_init_9 : decode cX0_init 9 = .ok (.bipush 41, 2) := by decide +kernel
theorem dX0_init_11 : decode cX0_init 11 = .ok (.invokespecial 11, 3) := by decide +kernel
theorem dX0_init_14 : decode cX0_init 14 = .ok (.putfield 14, 3) := by decide +kernel
theorem dX0_init_17 : decode cX0_init 17 = .ok (.aload_n 0, 1) := by decide +kernel
theorem dX0_init_18 : decode cX0_init 18 = .ok (.new 9, 3) := by decide +kernel
theorem dX0_init_21 : decode cX0_init 21 = .ok (.dup, 1) := by decide +kernel
theorem dX0_init_22 : decode cX0_init 22 = .ok (.bipush 35, 2) := by decide +kernel
theorem dX0_init_24 : decode cX0_init 24 = .ok (.invokespecial 11, 3) := by decide +kernel
theorem dX0_init_27 : decode cX0_init 27 = .ok (.putfield 20, 3) := by decide +kernel
theorem dX0_init_30 : decode cX0_init 30 = .ok (.aload_n 0, 1) := by decide +kernel
theorem dX0_init_31 : decode cX0_init 31 = .ok (.new 23, 3) := by decide +kernel
theorem dX0_init_34 : decode cX0_init 34 = .ok (.dup, 1) := by decide +kernel
theorem dX0_init_35 : decode cX0_init 35 = .ok (.invokespecial 25, 3) := by decide +kernel
theorem dX0_init_38 : decode cX0_init 38 = .ok (.putfield 26, 3) := by decide +kernel
theorem dX0_init_41 : decode cX0_init 41 = .ok (.aload_n 0, 1) := by decide +kernel
theorem dX0_init_42 : decode cX0_init 42 = .ok (.new 30, 3) := by decide +kernel
theorem dX0_init_45 : decode cX0_init 45 = .ok (.dup, 1) := by decide +kernel
theorem dX0_init_46 : decode cX0_init 46 = .ok (.invokespecial 32, 3) := by decide +kernel
theorem dX0_init_49 : decode cX0_init 49 = .ok (.putfield 33, 3) := by decide +kernel
theorem dX0_init_52 : decode cX0_init 52 = .ok (.aload_n 0, 1) := by decide +kernel
theorem dX0_init_53 : decode cX0_init 53 = .ok (.new 37, 3) := by decide +kernel
theorem dX0_init_56 : decode cX0_init 56 = .ok (.dup, 1) := by decide +kernel
theorem dX0_init_57 : decode cX0_init 57 = .ok (.invokespecial 39, 3) := by decide +kernel
theorem dX0_init_60 : decode cX0_init 60 = .ok (.putfield 40, 3) := by decide +kernel
theorem dX0_init_63 : decode cX0_init 63 = .ok (.aload_n 0, 1) := by decide +kernel
theorem dX0_init_64 : decode cX0_init 64 = .ok (.new 44, 3) := by decide +kernel
theorem dX0_init_67 : decode cX0_init 67 = .ok (.dup, 1) := by decide +kernel
theorem dX0_init_68 : decode cX0_init 68 = .ok (.invokespecial 46, 3) := by decide +kernel
theorem dX0_init_71 : decode cX0_init 71 = .ok (.putfield 47, 3) := by decide +kernel
theorem dX0_init_74 : decode cX0_init 74 = .ok (.aload_n 0, 1) := by decide +kernel
theorem dX0_init_75 : decode cX0_init 75 = .ok (.iconst (-1), 1) := by decide +kernel
theorem dX0_init_76 : decode cX0_init 76 = .ok (.putfield 51, 3) := by decide +kernel
theorem dX0_init_79 : decode cX0_init 79 = .ok (.aload_n 0, 1) := by decide +kernel
theorem dX0_init_80 : decode cX0_init 80 = .ok (.iconst (-1), 1) := by decide +kernel
theorem dX0_init_81 : decode cX0_init 81 = .ok (.putfield 55, 3) := by decide +kernel
theorem dX0_init_84 : decode cX0_init 84 = .ok (.return_, 1) := by decide +kernel
theorem dX1_init_0 : decode cX1_init 0 = .ok (.aload_n 0, 1) := by decide +kernel
theorem dX1_init_1 : decode cX1_init 1 = .ok (.invokespecial 3, 3) := by decide +kernel
theorem dX1_init_4 : decode cX1_init 4 = .ok (.aload_n 0, 1) := by decide +kernel
theorem dX1_init_5 : decode cX1_init 5 = .ok (.bipush 8, 2) := by decide +kernel
theorem dX1_init_7 : decode cX1_init 7 = .ok (.newarray .int, 2) := by decide +kernel
theorem dX1_init_9 : decode cX1_init 9 = .ok (.putfield 9, 3) := by decide +kernel
theorem dX1_init_12 : decode cX1_init 12 = .ok (.aload_n 0, 1) := by decide +kernel
theorem dX1_init_13 : decode cX1_init 13 = .ok (.bipush 8, 2) := by decide +kernel
theorem dX1_init_15 : decode cX1_init 15 = .ok (.newarray .int, 2) := by decide +kernel
theorem dX1_init_17 : decode cX1_init 17 = .ok (.putfield 15, 3) := by decide +kernel
theorem dX1_init_20 : decode cX1_init 20 = .ok (.aload_n 0, 1) := by decide +kernel
theorem dX1_init_21 : decode cX1_init 21 = .ok (.bipush 8, 2) := by decide +kernel
theorem dX1_init_23 : decode cX1_init 23 = .ok (.newarray .int, 2) := by decide +kernel
theorem dX1_init_25 : decode cX1_init 25 = .ok (.putfield 18, 3) := by decide +kernel
theorem dX1_init_28 : decode cX1_init 28 = .ok (.return_, 1) := by decide +kernel
theorem dX2_init_0 : decode cX2_init 0 = .ok (.aload_n 0, 1) := by decide +kernel
theorem dX2_init_1 : decode cX2_init 1 = .ok (.invokespecial 3, 3) := by decide +kernel
theorem dX2_init_4 : decode cX2_init 4 = .ok (.aload_n 0, 1) := by decide +kernel
theorem dX2_init_5 : decode cX2_init 5 = .ok (.bipush 12, 2) := by decide +kernel
theorem dX2_init_7 : decode cX2_init 7 = .ok (.newarray .int, 2) := by decide +kernel
theorem dX2_init_9 : decode cX2_init 9 = .ok (.putfield 9, 3) := by decide +kernel
theorem dX2_init_12 : decode cX2_init 12 = .ok (.aload_n 0, 1) := by decide +kernel
theorem dX2_init_13 : decode cX2_init 13 = .ok (.bipush 12, 2) := by decide +kernel
theorem dX2_init_15 : decode cX2_init 15 = .ok (.newarray .int, 2) := by decide +kernel
theorem dX2_init_17 : decode cX2_init 17 = .ok (.putfield 15, 3) := by decide +kernel
theorem dX2_init_20 : decode cX2_init 20 = .ok (.return_, 1) := by decide +kernel
theorem dX3_init_0 : decode cX3_init 0 = .ok (.aload_n 0, 1) := by decide +kernel
theorem dX3_init_1 : decode cX3_init 1 = .ok (.invokespecial 3, 3) := by decide +kernel
theorem dX3_init_4 : decode cX3_init 4 = .ok (.aload_n 0, 1) := by decide +kernel
theorem dX3_init_5 : decode cX3_init 5 = .ok (.new 9, 3) := by decide +kernel
theorem dX3_init_8 : decode cX3_init 8 = .ok (.dup, 1) := by decide +kernel
theorem dX3_init_9 : decode cX3_init 9 = .ok (.iconst 0, 1) := by decide +kernel
theorem dX3_init_10 : decode cX3_init 10 = .ok (.invokespecial 11, 3) := by decide +kernel
theorem dX3_init_13 : decode cX3_init 13 = .ok (.putfield 14, 3) := by decide +kernel
theorem dX3_init_16 : decode cX3_init 16 = .ok (.aload_n 0, 1) := by decide +kernel
theorem dX3_init_17 : decode cX3_init 17 = .ok (.sipush 256, 3) := by decide +kernel
theorem dX3_init_20 : decode cX3_init 20 = .ok (.newarray .int, 2) := by decide +kernel
theorem dX3_init_22 : decode cX3_init 22 = .ok (.putfield 20, 3) := by decide +kernel
theorem dX3_init_25 : decode cX3_init 25 = .ok (.aload_n 0, 1) := by decide +kernel
theorem dX3_init_26 : decode cX3_init 26 = .ok (.sipush 216, 3) := by decide +kernel
theorem dX3_init_29 : decode cX3_init 29 = .ok (.newarray .int, 2) := by decide +kernel
theorem dX3_init_31 : decode cX3_init 31 = .ok (.putfield 24, 3) := by decide +kernel
theorem dX3_init_34 : decode cX3_init 34 = .ok (.aload_n 0, 1) := by decide +kernel
theorem dX3_init_35 : decode cX3_init 35 = .ok (.aload_n 1, 1) := by decide +kernel
theorem dX3_init_36 : decode cX3_init 36 = .ok (.putfield 27, 3) := by decide +kernel
theorem dX3_init_39 : decode cX3_init 39 = .ok (.return_, 1) := by decide +kernel
theorem dX4_init_0 : decode cX4_init 0 = .ok (.aload_n 0, 1) := by decide +kernel
theorem dX4_init_1 : decode cX4_init 1 = .ok (.invokespecial 3, 3) := by decide +kernel
theorem dX4_init_4 : decode cX4_init 4 = .ok (.aload_n 0, 1) := by decide +kernel
theorem dX4_init_5 : decode cX4_init 5 = .ok (.bipush 8, 2) := by decide +kernel
theorem dX4_init_7 : decode cX4_init 7 = .ok (.newarray .int, 2) := by decide +kernel
theorem dX4_init_9 : decode cX4_init 9 = .ok (.putfield 9, 3) := by decide +kernel
theorem dX4_init_12 : decode cX4_init 12 = .ok (.aload_n 0, 1) := by decide +kernel
theorem dX4_init_13 : decode cX4_init 13 = .ok (.bipush 8, 2) := by decide +kernel
theorem dX4_init_15 : decode cX4_init 15 = .ok (.newarray .int, 2) := by decide +kernel
theorem dX4_init_17 : decode cX4_init 17 = .ok (.putfield 15, 3) := by decide +kernel
theorem dX4_init_20 : decode cX4_init 20 = .ok (.aload_n 0, 1) := by decide +kernel
theorem dX4_init_21 : decode cX4_init 21 = .ok (.bipush 8, 2) := by decide +kernel
theorem dX4_init_23 : decode cX4_init 23 = .ok (.newarray .int, 2) := by decide +kernel
theorem dX4_init_25 : decode cX4_init 25 = .ok (.putfield 18, 3) := by decide +kernel
theorem dX4_init_28 : decode cX4_init 28 = .ok (.return_, 1) := by decide +kernel
theorem dX5_init_0 : decode cX5_init 0 = .ok (.aload_n 0, 1) := by decide +kernel
theorem dX5_init_1 : decode cX5_init 1 = .ok (.invokespecial 3, 3) := by decide +kernel
theorem dX5_init_4 : decode cX5_init 4 = .ok (.aload_n 0, 1) := by decide +kernel
theorem dX5_init_5 : decode cX5_init 5 = .ok (.bipush 60, 2) := by decide +kernel
theorem dX5_init_7 : decode cX5_init 7 = .ok (.newarray .int, 2) := by decide +kernel
theorem dX5_init_9 : decode cX5_init 9 = .ok (.putfield 9, 3) := by decide +kernel
theorem dX5_init_12 : decode cX5_init 12 = .ok (.aload_n 0, 1) := by decide +kernel
theorem dX5_init_13 : decode cX5_init 13 = .ok (.iconst (-1), 1) := by decide +kernel
theorem dX5_init_14 : decode cX5_init 14 = .ok (.putfield 15, 3) := by decide +kernel
theorem dX5_init_17 : decode cX5_init 17 = .ok (.return_, 1) := by decide +kernel
theorem dX6_init_0 : decode cX6_init 0 = .ok (.aload_n 0, 1) := by decide +kernel
theorem dX6_init_1 : decode cX6_init 1 = .ok (.invokespecial 3, 3) := by decide +kernel
theorem dX6_init_4 : decode cX6_init 4 = .ok (.aload_n 0, 1) := by decide +kernel
theorem dX6_init_5 : decode cX6_init 5 = .ok (.bipush 36, 2) := by decide +kernel
theorem dX6_init_7 : decode cX6_init 7 = .ok (.newarray .int, 2) := by decide +kernel
theorem dX6_init_9 : decode cX6_init 9 = .ok (.putfield 9, 3) := by decide +kernel
theorem dX6_init_12 : decode cX6_init 12 = .ok (.aload_n 0, 1) := by decide +kernel
theorem dX6_init_13 : decode cX6_init 13 = .ok (.bipush 6, 2) := by decide +kernel
theorem dX6_init_15 : decode cX6_init 15 = .ok (.newarray .int, 2) := by decide +kernel
theorem dX6_init_17 : decode cX6_init 17 = .ok (.putfield 15, 3) := by decide +kernel
theorem dX6_init_20 : decode cX6_init 20 = .ok (.return_, 1) := by decide +kernel
theorem dX7_init_0 : decode cX7_init 0 = .ok (.aload_n 0, 1) := by decide +kernel
theorem dX7_init_1 : decode cX7_init 1 = .ok (.invokespecial 3, 3) := by decide +kernel
theorem dX7_init_4 : decode cX7_init 4 = .ok (.aload_n 0, 1) := by decide +kernel
theorem dX7_init_5 : decode cX7_init 5 = .ok (.new 9, 3) := by decide +kernel
theorem dX7_init_8 : decode cX7_init 8 = .ok (.dup, 1) := by decide +kernel
theorem dX7_init_9 : decode cX7_init 9 = .ok (.invokespecial 11, 3) := by decide +kernel
theorem dX7_init_12 : decode cX7_init 12 = .ok (.putfield 12, 3) := by decide +kernel
theorem dX7_init_15 : decode cX7_init 15 = .ok (.aload_n 0, 1) := by decide +kernel
theorem dX7_init_16 : decode cX7_init 16 = .ok (.new 18, 3) := by decide +kernel
theorem dX7_init_19 : decode cX7_init 19 = .ok (.dup, 1) := by decide +kernel
theorem dX7_init_20 : decode cX7_init 20 = .ok (.invokespecial 20, 3) := by decide +kernel
theorem dX7_init_23 : decode cX7_init 23 = .ok (.putfield 21, 3) := by decide +kernel
theorem dX7_init_26 : decode cX7_init 26 = .ok (.aload_n 0, 1) := by decide +kernel
theorem dX7_init_27 : decode cX7_init 27 = .ok (.new 25, 3) := by decide +kernel
theorem dX7_init_30 : decode cX7_init 30 = .ok (.dup, 1) := by decide +kernel
theorem dX7_init_31 : decode cX7_init 31 = .ok (.invokespecial 27, 3) := by decide +kernel
theorem dX7_init_34 : decode cX7_init 34 = .ok (.putfield 28, 3) := by decide +kernel
theorem dX7_init_37 : decode cX7_init 37 = .ok (.aload_n 0, 1) := by decide +kernel
theorem dX7_init_38 : decode cX7_init 38 = .ok (.bipush 12, 2) := by decide +kernel
theorem dX7_init_40 : decode cX7_init 40 = .ok (.newarray .int, 2) := by decide +kernel
theorem dX7_init_42 : decode cX7_init 42 = .ok (.putfield 32, 3) := by decide +kernel
theorem dX7_init_45 : decode cX7_init 45 = .ok (.aload_n 0, 1) := by decide +kernel
theorem dX7_init_46 : decode cX7_init 46 = .ok (.bipush 24, 2) := by decide +kernel
theorem dX7_init_48 : decode cX7_init 48 = .ok (.newarray .int, 2) := by decide +kernel
theorem dX7_init_50 : decode cX7_init 50 = .ok (.putfield 36, 3) := by decide +kernel
theorem dX7_init_53 : decode cX7_init 53 = .ok (.aload_n 0, 1) := by decide +kernel
theorem dX7_init_54 : decode cX7_init 54 = .ok (.bipush 24, 2) := by decide +kernel
theorem dX7_init_56 : decode cX7_init 56 = .ok (.newarray .int, 2) := by decide +kernel
theorem dX7_init_58 : decode cX7_init 58 = .ok (.putfield 39, 3) := by decide +kernel
theorem dX7_init_61 : decode cX7_init 61 = .ok (.aload_n 0, 1) := by decide +kernel
theorem dX7_init_62 : decode cX7_init 62 = .ok (.bipush 24, 2) := by decide +kernel
theorem dX7_init_64 : decode cX7_init 64 = .ok (.newarray .int, 2) := by decide +kernel
theorem dX7_init_66 : decode cX7_init 66 = .ok (.putfield 42, 3) := by decide +kernel
theorem dX7_init_69 : decode cX7_init 69 = .ok (.aload_n 0, 1) := by decide +kernel
theorem dX7_init_70 : decode cX7_init 70 = .ok (.bipush 6, 2) := by decide +kernel
theorem dX7_init_72 : decode cX7_init 72 = .ok (.newarray .int, 2) := by decide +kernel
theorem dX7_init_74 : decode cX7_init 74 = .ok (.putfield 45, 3) := by decide +kernel
theorem dX7_init_77 : decode cX7_init 77 = .ok (.aload_n 0, 1) := by decide +kernel
theorem dX7_init_78 : decode cX7_init 78 = .ok (.iload_n 1, 1) := by decide +kernel
theorem dX7_init_79 : decode cX7_init 79 = .ok (.putfield 48, 3) := by decide +kernel
theorem dX7_init_82 : decode cX7_init 82 = .ok (.aload_n 0, 1) := by decide +kernel
theorem dX7_init_83 : decode cX7_init 83 = .ok (.iload_n 1, 1) := by decide +kernel
theorem dX7_init_84 : decode cX7_init 84 = .ok (.ifCond .eq 9, 3) := by decide +kernel
theorem dX7_init_87 : decode cX7_init 87 = .ok (.sipush 864, 3) := by decide +kernel
theorem dX7_init_90 : decode cX7_init 90 = .ok (.goto 4, 3) := by decide +kernel
theorem dX7_init_93 : decode cX7_init 93 = .ok (.iconst 0, 1) := by decide +kernel
theorem dX7_init_94 : decode cX7_init 94 = .ok (.newarray .int, 2) := by decide +kernel
theorem dX7_init_96 : decode cX7_init 96 = .ok (.putfield 52, 3) := by decide +kernel
theorem dX7_init_99 : decode cX7_init 99 = .ok (.return_, 1) := by decide +kernel
theorem dX8_init_0 : decode cX8_init 0 = .ok (.aload_n 0, 1) := by decide +kernel
theorem dX8_init_1 : decode cX8_init 1 = .ok (.invokespecial 3, 3) := by decide +kernel
theorem dX8_init_4 : decode cX8_init 4 = .ok (.aload_n 0, 1) := by decide +kernel
theorem dX8_init_5 : decode cX8_init 5 = .ok (.bipush 41, 2) := by decide +kernel
theorem dX8_init_7 : decode cX8_init 7 = .ok (.newarray .int, 2) := by decide +kernel
theorem dX8_init_9 : decode cX8_init 9 = .ok (.putfield 9, 3) := by decide +kernel
theorem dX8_init_12 : decode cX8_init 12 = .ok (.aload_n 0, 1) := by decide +kernel
theorem dX8_init_13 : decode cX8_init 13 = .ok (.iload_n 1, 1) := by decide +kernel
theorem dX8_init_14 : decode cX8_init 14 = .ok (.bipush 41, 2) := by decide +kernel
theorem dX8_init_16 : decode cX8_init 16 = .ok (.invokestatic 15, 3) := by decide +kernel
theorem dX8_init_19 : decode cX8_init 19 = .ok (.putfield 21, 3) := by decide +kernel
theorem dX8_init_22 : decode cX8_init 22 = .ok (.return_, 1) := by decide +kernel
theorem dX9_init_0 : decode cX9_init 0 = .ok (.aload_n 0, 1) := by decide +kernel
theorem dX9_init_1 : decode cX9_init 1 = .ok (.invokespecial 3, 3) := by decide +kernel
theorem dX9_init_4 : decode cX9_init 4 = .ok (.aload_n 0, 1) := by decide +kernel
theorem dX9_init_5 : decode cX9_init 5 = .ok (.bipush 6, 2) := by decide +kernel
theorem dX9_init_7 : decode cX9_init 7 = .ok (.newarray .int, 2) := by decide +kernel
theorem dX9_init_9 : decode cX9_init 9 = .ok (.putfield 9, 3) := by decide +kernel
theorem dX9_init_12 : decode cX9_init 12 = .ok (.return_, 1) := by decide +kernel
theorem dX10_init_0 : decode cX10_init 0 = .ok (.aload_n 0, 1) := by decide +kernel
theorem dX10_init_1 : decode cX10_init 1 = .ok (.invokespecial 1, 3) := by decide +kernel
theorem dX10_init_4 : decode cX10_init 4 = .ok (.aload_n 0, 1) := by decide +kernel
theorem dX10_init_5 : decode cX10_init 5 = .ok (.new 7, 3) := by decide +kernel
theorem dX10_init_8 : decode cX10_init 8 = .ok (.dup, 1) := by decide +kernel
theorem dX10_init_9 : decode cX10_init 9 = .ok (.invokespecial 9, 3) := by decide +kernel
theorem dX10_init_12 : decode cX10_init 12 = .ok (.putfield 10, 3) := by decide +kernel
theorem dX10_init_15 : decode cX10_init 15 = .ok (.aload_n 0, 1) := by decide +kernel
theorem dX10_init_16 : decode cX10_init 16 = .ok (.new 16, 3) := by decide +kernel
theorem dX10_init_19 : decode cX10_init 19 = .ok (.dup, 1) := by decide +kernel
theorem dX10_init_20 : decode cX10_init 20 = .ok (.aload_n 0, 1) := by decide +kernel
theorem dX10_init_21 : decode cX10_init 21 = .ok (.getfield 10, 3) := by decide +kernel
theorem dX10_init_24 : decode cX10_init 24 = .ok (.invokespecial 18, 3) := by decide +kernel
theorem dX10_init_27 : decode cX10_init 27 = .ok (.putfield 21, 3) := by decide +kernel
theorem dX10_init_30 : decode cX10_init 30 = .ok (.aload_n 0, 1) := by decide +kernel
theorem dX10_init_31 : decode cX10_init 31 = .ok (.new 25, 3) := by decide +kernel
theorem dX10_init_34 : decode cX10_init 34 = .ok (.dup, 1) := by decide +kernel
theorem dX10_init_35 : decode cX10_init 35 = .ok (.iconst 1, 1) := by decide +kernel
theorem dX10_init_36 : decode cX10_init 36 = .ok (.invokespecial 27, 3) := by decide +kernel
theorem dX10_init_39 : decode cX10_init 39 = .ok (.putfield 30, 3) := by decide +kernel
theorem dX10_init_42 : decode cX10_init 42 = .ok (.aload_n 0, 1) := by decide +kernel
theorem dX10_init_43 : decode cX10_init 43 = .ok (.iconst 4, 1) := by decide +kernel
theorem dX10_init_44 : decode cX10_init 44 = .ok (.anewarray 34, 3) := by decide +kernel
theorem dX10_init_47 : decode cX10_init 47 = .ok (.putfield 36, 3) := by decide +kernel
theorem dX10_init_50 : decode cX10_init 50 = .ok (.iconst 0, 1) := by decide +kernel
theorem dX10_init_51 : decode cX10_init 51 = .ok (.istore_n 1, 1) := by decide +kernel
theorem dX10_init_52 : decode cX10_init 52 = .ok (.iload_n 1, 1) := by decide +kernel
theorem dX10_init_53 : decode cX10_init 53 = .ok (.iconst 4, 1) := by decide +kernel
theorem dX10_init_54 : decode cX10_init 54 = .ok (.if_icmp .ge 22, 3) := by decide +kernel
theorem dX10_init_57 : decode cX10_init 57 = .ok (.aload_n 0, 1) := by decide +kernel
theorem dX10_init_58 : decode cX10_init 58 = .ok (.getfield 36, 3) := by decide +kernel
theorem dX10_init_61 : decode cX10_init 61 = .ok (.iload_n 1, 1) := by decide +kernel
theorem dX10_init_62 : decode cX10_init 62 = .ok (.new 34, 3) := by decide +kernel
theorem dX10_init_65 : decode cX10_init 65 = .ok (.dup, 1) := by decide +kernel
theorem dX10_init_66 : decode cX10_init 66 = .ok (.invokespecial 40, 3) := by decide +kernel
theorem dX10_init_69 : decode cX10_init 69 = .ok (.aastore, 1) := by decide +kernel
theorem dX10_init_70 : decode cX10_init 70 = .ok (.iinc 1 1, 3) := by decide +kernel
theorem dX10_init_73 : decode cX10_init 73 = .ok (.goto (-21), 3) := by decide +kernel
theorem dX10_init_76 : decode cX10_init 76 = .ok (.aload_n 0, 1) := by decide +kernel
theorem dX10_init_77 : decode cX10_init 77 = .ok (.iconst 0, 1) := by decide +kernel
theorem dX10_init_78 : decode cX10_init 78 = .ok (.putfield 41, 3) := by decide +kernel
theorem dX10_init_81 : decode cX10_init 81 = .ok (.aload_n 0, 1) := by decide +kernel
theorem dX10_init_82 : decode cX10_init 82 = .ok (.iconst 0, 1) := by decide +kernel
theorem dX10_init_83 : decode cX10_init 83 = .ok (.putfield 45, 3) := by decide +kernel
theorem dX10_init_86 : decode cX10_init 86 = .ok (.return_, 1) := by decide +kernel
theorem dX11_init_0 : decode cX11_init 0 = .ok (.aload_n 0, 1) := by decide +kernel
theorem dX11_init_1 : decode cX11_init 1 = .ok (.invokespecial 1, 3) := by decide +kernel
theorem dX11_init_4 : decode cX11_init 4 = .ok (.aload_n 0, 1) := by decide +kernel
theorem dX11_init_5 : decode cX11_init 5 = .ok (.iconst 4, 1) := by decide +kernel
theorem dX11_init_6 : decode cX11_init 6 = .ok (.newarray .int, 2) := by decide +kernel
theorem dX11_init_8 : decode cX11_init 8 = .ok (.putfield 7, 3) := by decide +kernel
theorem dX11_init_11 : decode cX11_init 11 = .ok (.aload_n 0, 1) := by decide +kernel
theorem dX11_init_12 : decode cX11_init 12 = .ok (.iconst 4, 1) := by decide +kernel
theorem dX11_init_13 : decode cX11_init 13 = .ok (.newarray .int, 2) := by decide +kernel
theorem dX11_init_15 : decode cX11_init 15 = .ok (.putfield 13, 3) := by decide +kernel
theorem dX11_init_18 : decode cX11_init 18 = .ok (.aload_n 0, 1) := by decide +kernel
theorem dX11_init_19 : decode cX11_init 19 = .ok (.sipush 240, 3) := by decide +kernel
theorem dX11_init_22 : decode cX11_init 22 = .ok (.newarray .int, 2) := by decide +kernel
theorem dX11_init_24 : decode cX11_init 24 = .ok (.putfield 16, 3) := by decide +kernel
theorem dX11_init_27 : decode cX11_init 27 = .ok (.aload_n 0, 1) := by decide +kernel
theorem dX11_init_28 : decode cX11_init 28 = .ok (.bipush 60, 2) := by decide +kernel
theorem dX11_init_30 : decode cX11_init 30 = .ok (.newarray .int, 2) := by decide +kernel
theorem dX11_init_32 : decode cX11_init 32 = .ok (.putfield 19, 3) := by decide +kernel
theorem dX11_init_35 : decode cX11_init 35 = .ok (.aload_n 0, 1) := by decide +kernel
theorem dX11_init_36 : decode cX11_init 36 = .ok (.bipush 84, 2) := by decide +kernel
theorem dX11_init_38 : decode cX11_init 38 = .ok (.newarray .int, 2) := by decide +kernel
theorem dX11_init_40 : decode cX11_init 40 = .ok (.putfield 22, 3) := by decide +kernel
theorem dX11_init_43 : decode cX11_init 43 = .ok (.aload_n 0, 1) := by decide +kernel
theorem dX11_init_44 : decode cX11_init 44 = .ok (.iconst 2, 1) := by decide +kernel
theorem dX11_init_45 : decode cX11_init 45 = .ok (.newarray .int, 2) := by decide +kernel
theorem dX11_init_47 : decode cX11_init 47 = .ok (.putfield 25, 3) := by decide +kernel
theorem dX11_init_50 : decode cX11_init 50 = .ok (.aload_n 0, 1) := by decide +kernel
theorem dX11_init_51 : decode cX11_init 51 = .ok (.bipush 6, 2) := by decide +kernel
theorem dX11_init_53 : decode cX11_init 53 = .ok (.newarray .int, 2) := by decide +kernel
theorem dX11_init_55 : decode cX11_init 55 = .ok (.putfield 28, 3) := by decide +kernel
theorem dX11_init_58 : decode cX11_init 58 = .ok (.aload_n 0, 1) := by decide +kernel
theorem dX11_init_59 : decode cX11_init 59 = .ok (.bipush 36, 2) := by decide +kernel
theorem dX11_init_61 : decode cX11_init 61 = .ok (.newarray .int, 2) := by decide +kernel
theorem dX11_init_63 : decode cX11_init 63 = .ok (.putfield 31, 3) := by decide +kernel
theorem dX11_init_66 : decode cX11_init 66 = .ok (.aload_n 0, 1) := by decide +kernel
theorem dX11_init_67 : decode cX11_init 67 = .ok (.bipush 24, 2) := by decide +kernel
theorem dX11_init_69 : decode cX11_init 69 = .ok (.newarray .int, 2) := by decide +kernel
theorem dX11_init_71 : decode cX11_init 71 = .ok (.putfield 34, 3) := by decide +kernel
theorem dX11_init_74 : decode cX11_init 74 = .ok (.aload_n 0, 1) := by decide +kernel
theorem dX11_init_75 : decode cX11_init 75 = .ok (.bipush 24, 2) := by decide +kernel
theorem dX11_init_77 : decode cX11_init 77 = .ok (.newarray .int, 2) := by decide +kernel
theorem dX11_init_79 : decode cX11_init 79 = .ok (.putfield 37, 3) := by decide +kernel
theorem dX11_init_82 : decode cX11_init 82 = .ok (.aload_n 0, 1) := by decide +kernel
theorem dX11_init_83 : decode cX11_init 83 = .ok (.bipush 6, 2) := by decide +kernel
theorem dX11_init_85 : decode cX11_init 85 = .ok (.newarray .int, 2) := by decide +kernel
theorem dX11_init_87 : decode cX11_init 87 = .ok (.putfield 40, 3) := by decide +kernel
theorem dX11_init_90 : decode cX11_init 90 = .ok (.aload_n 0, 1) := by decide +kernel
theorem dX11_init_91 : decode cX11_init 91 = .ok (.bipush 36, 2) := by decide +kernel
theorem dX11_init_93 : decode cX11_init 93 = .ok (.newarray .int, 2) := by decide +kernel
theorem dX11_init_95 : decode cX11_init 95 = .ok (.putfield 43, 3) := by decide +kernel
theorem dX11_init_98 : decode cX11_init 98 = .ok (.aload_n 0, 1) := by decide +kernel
theorem dX11_init_99 : decode cX11_init 99 = .ok (.bipush 36, 2) := by decide +kernel
theorem dX11_init_101 : decode cX11_init 101 = .ok (.newarray .int, 2) := by decide +kernel
theorem dX11_init_103 : decode cX11_init 103 = .ok (.putfield 46, 3) := by decide +kernel
theorem dX11_init_106 : decode cX11_init 106 = .ok (.aload_n 0, 1) := by decide +kernel
theorem dX11_init_107 : decode cX11_init 107 = .ok (.bipush 12, 2) := by decide +kernel
theorem dX11_init_109 : decode cX11_init 109 = .ok (.newarray .int, 2) := by decide +kernel
theorem dX11_init_111 : decode cX11_init 111 = .ok (.putfield 49, 3) := by decide +kernel
theorem dX11_init_114 : decode cX11_init 114 = .ok (.aload_n 0, 1) := by decide +kernel
theorem dX11_init_115 : decode cX11_init 115 = .ok (.sipush 144, 3) := by decide +kernel
theorem dX11_init_118 : decode cX11_init 118 = .ok (.newarray .int, 2) := by decide +kernel
theorem dX11_init_120 : decode cX11_init 120 = .ok (.putfield 52, 3) := by decide +kernel
theorem dX11_init_123 : decode cX11_init 123 = .ok (.aload_n 0, 1) := by decide +kernel
theorem dX11_init_124 : decode cX11_init 124 = .ok (.sipush 864, 3) := by decide +kernel
theorem dX11_init_127 : decode cX11_init 127 = .ok (.newarray .int, 2) := by decide +kernel
theorem dX11_init_129 : decode cX11_init 129 = .ok (.putfield 55, 3) := by decide +kernel
theorem dX11_init_132 : decode cX11_init 132 = .ok (.aload_n 0, 1) := by decide +kernel
theorem dX11_init_133 : decode cX11_init 133 = .ok (.bipush 24, 2) := by decide +kernel
theorem dX11_init_135 : decode cX11_init 135 = .ok (.newarray .int, 2) := by decide +kernel
theorem dX11_init_137 : decode cX11_init 137 = .ok (.putfield 58, 3) := by decide +kernel
theorem dX11_init_140 : decode cX11_init 140 = .ok (.aload_n 0, 1) := by decide +kernel
theorem dX11_init_141 : decode cX11_init 141 = .ok (.bipush 24, 2) := by decide +kernel
theorem dX11_init_143 : decode cX11_init 143 = .ok (.newarray .int, 2) := by decide +kernel
theorem dX11_init_145 : decode cX11_init 145 = .ok (.putfield 61, 3) := by decide +kernel
theorem dX11_init_148 : decode cX11_init 148 = .ok (.aload_n 0, 1) := by decide +kernel
theorem dX11_init_149 : decode cX11_init 149 = .ok (.sipush 240, 3) := by decide +kernel
theorem dX11_init_152 : decode cX11_init 152 = .ok (.newarray .int, 2) := by decide +kernel
theorem dX11_init_154 : decode cX11_init 154 = .ok (.putfield 64, 3) := by decide +kernel
theorem dX11_init_157 : decode cX11_init 157 = .ok (.aload_n 0, 1) := by decide +kernel
theorem dX11_init_158 : decode cX11_init 158 = .ok (.bipush 24, 2) := by decide +kernel
theorem dX11_init_160 : decode cX11_init 160 = .ok (.newarray .int, 2) := by decide +kernel
theorem dX11_init_162 : decode cX11_init 162 = .ok (.putfield 67, 3) := by decide +kernel
theorem dX11_init_165 : decode cX11_init 165 = .ok (.iconst 0, 1) := by decide +kernel
theorem dX11_init_166 : decode cX11_init 166 = .ok (.istore_n 1, 1) := by decide +kernel
theorem dX11_init_167 : decode cX11_init 167 = .ok (.iload_n 1, 1) := by decide +kernel
theorem dX11_init_168 : decode cX11_init 168 = .ok (.iconst 4, 1) := by decide +kernel
theorem dX11_init_169 : decode cX11_init 169 = .ok (.if_icmp .ge 16, 3) := by decide +kernel
theorem dX11_init_172 : decode cX11_init 172 = .ok (.aload_n 0, 1) := by decide +kernel
theorem dX11_init_173 : decode cX11_init 173 = .ok (.getfield 7, 3) := by decide +kernel
theorem dX11_init_176 : decode cX11_init 176 = .ok (.iload_n 1, 1) := by decide +kernel
theorem dX11_init_177 : decode cX11_init 177 = .ok (.iconst (-1), 1) := by decide +kernel
theorem dX11_init_178 : decode cX11_init 178 = .ok (.iastore, 1) := by decide +kernel
theorem dX11_init_179 : decode cX11_init 179 = .ok (.iinc 1 1, 3) := by decide +kernel
theorem dX11_init_182 : decode cX11_init 182 = .ok (.goto (-15), 3) := by decide +kernel
theorem dX11_init_185 : decode cX11_init 185 = .ok (.aload_n 0, 1) := by decide +kernel
theorem dX11_init_186 : decode cX11_init 186 = .ok (.iconst (-1), 1) := by decide +kernel
theorem dX11_init_187 : decode cX11_init 187 = .ok (.putfield 70, 3) := by decide +kernel
theorem dX11_init_190 : decode cX11_init 190 = .ok (.return_, 1) := by decide +kernel
theorem gc_67 : Jvm.Cond.initialized (rn 0) ∈ TG := tg_at (i := 67) (by decide +kernel)
theorem gc_68 : Jvm.Cond.initialized (rn 8) ∈ TG := tg_at (i := 68) (by decide +kernel)
theorem gc_70 : Jvm.Cond.initialized (rn 6) ∈ TG := tg_at (i := 70) (by decide +kernel)
theorem gc_71 : Jvm.Cond.initialized (rn 2) ∈ TG := tg_at (i := 71) (by decide +kernel)
theorem gc_72 : Jvm.Cond.initialized (rn 1) ∈ TG := tg_at (i := 72) (by decide +kernel)
theorem gc_73 : Jvm.Cond.initialized (rn 4) ∈ TG := tg_at (i := 73) (by decide +kernel)
theorem gc_74 : Jvm.Cond.initialized (rn 3) ∈ TG := tg_at (i := 74) (by decide +kernel)
theorem gc_75 : Jvm.Cond.initialized (rn 7) ∈ TG := tg_at (i := 75) (by decide +kernel)
theorem gc_76 : Jvm.Cond.initialized (rn 9) ∈ TG := tg_at (i := 76) (by decide +kernel)
theorem gc_77 : Jvm.Cond.initialized (rn 5) ∈ TG := tg_at (i := 77) (by decide +kernel)
theorem gc_87 : Jvm.Cond.methodLink RX10 1 Lib.objectInit ∈ TG := tg_at (i := 87) (by decide +kernel)
theorem gc_88 : Jvm.Cond.instanceMethod Lib.objectInit ∈ TG := tg_at (i := 88) (by decide +kernel)
theorem gc_89 : Jvm.Cond.code Lib.objectInit ⟨#[0xb1]⟩ 1 none ∈ TG := tg_at (i := 89) (by decide +kernel)
theorem gc_90 : Jvm.Cond.classLink RX10 7 (rn 0) ∈ TG := tg_at (i := 90) (by decide +kernel)
theorem gc_91 : Jvm.Cond.instantiable (rn 0) (nF 0) ∈ TG := tg_at (i := 91) (by decide +kernel)
theorem gc_93 : Jvm.Cond.instanceMethod yX0_init ∈ TG := tg_at (i := 93) (by decide +kernel)
theorem gc_94 : Jvm.Cond.code yX0_init cX0_init 1 none ∈ TG := tg_at (i := 94) (by decide +kernel)
theorem gc_95 : Jvm.Cond.methodLink RX0 3 Lib.objectInit ∈ TG := tg_at (i := 95) (by decide +kernel)
theorem gc_96 : Jvm.Cond.classLink RX0 9 (rn 8) ∈ TG := tg_at (i := 96) (by decide +kernel)
theorem gc_97 : Jvm.Cond.instantiable (rn 8) (nF 8) ∈ TG := tg_at (i := 97) (by decide +kernel)
theorem gc_98 : Jvm.Cond.methodLink RX0 11 yX8_init ∈ TG := tg_at (i := 98) (by decide +kernel)
theorem gc_99 : Jvm.Cond.instanceMethod yX8_init ∈ TG := tg_at (i := 99) (by decide +kernel)
theorem gc_100 : Jvm.Cond.code yX8_init cX8_init 2 none ∈ TG := tg_at (i := 100) (by decide +kernel)
theorem gc_101 : Jvm.Cond.methodLink RX8 3 Lib.objectInit ∈ TG := tg_at (i := 101) (by decide +kernel)
theorem gc_102 : Jvm.Cond.methodLink RX8 15 Lib.Math.min.name ∈ TG := tg_at (i := 102) (by decide +kernel)
theorem gc_105 : Jvm.Cond.fieldLink RX8 21 (rn 8) (tT 8 0).2.1 (tT 8 0).2.2.1 ∈ TG := tg_at (i := 105) (by decide +kernel)
theorem gc_107 : Jvm.Cond.fieldLink RX8 9 (rn 8) (tT 8 1).2.1 (tT 8 1).2.2.1 ∈ TG := tg_at (i := 107) (by decide +kernel)
theorem gc_120 : Jvm.Cond.classLink RX0 23 (rn 6) ∈ TG := tg_at (i := 120) (by decide +kernel)
theorem gc_121 : Jvm.Cond.instantiable (rn 6) (nF 6) ∈ TG := tg_at (i := 121) (by decide +kernel)
theorem gc_123 : Jvm.Cond.instanceMethod yX6_init ∈ TG := tg_at (i := 123) (by decide +kernel)
theorem gc_124 : Jvm.Cond.code yX6_init cX6_init 1 none ∈ TG := tg_at (i := 124) (by decide +kernel)
theorem gc_125 : Jvm.Cond.methodLink RX6 3 Lib.objectInit ∈ TG := tg_at (i := 125) (by decide +kernel)
theorem gc_126 : Jvm.Cond.fieldLink RX6 9 (rn 6) (tT 6 0).2.1 (tT 6 0).2.2.1 ∈ TG := tg_at (i := 126) (by decide +kernel)
theorem gc_130 : Jvm.Cond.fieldLink RX6 15 (rn 6) (tT 6 1).2.1 (tT 6 1).2.2.1 ∈ TG := tg_at (i := 130) (by decide +kernel)
theorem gc_138 : Jvm.Cond.classLink RX0 30 (rn 2) ∈ TG := tg_at (i := 138) (by decide +kernel)
theorem gc_139 : Jvm.Cond.instantiable (rn 2) (nF 2) ∈ TG := tg_at (i := 139) (by decide +kernel)
theorem gc_141 : Jvm.Cond.instanceMethod yX2_init ∈ TG := tg_at (i := 141) (by decide +kernel)
theorem gc_142 : Jvm.Cond.code yX2_init cX2_init 1 none ∈ TG := tg_at (i := 142) (by decide +kernel)
theorem gc_143 : Jvm.Cond.methodLink RX2 3 Lib.objectInit ∈ TG := tg_at (i := 143) (by decide +kernel)
theorem gc_144 : Jvm.Cond.fieldLink RX2 9 (rn 2) (tT 2 0).2.1 (tT 2 0).2.2.1 ∈ TG := tg_at (i := 144) (by decide +kernel)
theorem gc_149 : Jvm.Cond.fieldLink RX2 15 (rn 2) (tT 2 1).2.1 (tT 2 1).2.2.1 ∈ TG := tg_at (i := 149) (by decide +kernel)
theorem gc_164 : Jvm.Cond.classLink RX0 37 (rn 1) ∈ TG := tg_at (i := 164) (by decide +kernel)
theorem gc_165 : Jvm.Cond.instantiable (rn 1) (nF 1) ∈ TG := tg_at (i := 165) (by decide +kernel)
theorem gc_167 : Jvm.Cond.instanceMethod yX1_init ∈ TG := tg_at (i := 167) (by decide +kernel)
theorem gc_168 : Jvm.Cond.code yX1_init cX1_init 1 none ∈ TG := tg_at (i := 168) (by decide +kernel)
theorem gc_169 : Jvm.Cond.methodLink RX1 3 Lib.objectInit ∈ TG := tg_at (i := 169) (by decide +kernel)
theorem gc_170 : Jvm.Cond.fieldLink RX1 9 (rn 1) (tT 1 0).2.1 (tT 1 0).2.2.1 ∈ TG := tg_at (i := 170) (by decide +kernel)
theorem gc_172 : Jvm.Cond.fieldLink RX1 15 (rn 1) (tT 1 1).2.1 (tT 1 1).2.2.1 ∈ TG := tg_at (i := 172) (by decide +kernel)
theorem gc_174 : Jvm.Cond.fieldLink RX1 18 (rn 1) (tT 1 2).2.1 (tT 1 2).2.2.1 ∈ TG := tg_at (i := 174) (by decide +kernel)
theorem gc_189 : Jvm.Cond.classLink RX0 44 (rn 4) ∈ TG := tg_at (i := 189) (by decide +kernel)
theorem gc_190 : Jvm.Cond.instantiable (rn 4) (nF 4) ∈ TG := tg_at (i := 190) (by decide +kernel)
theorem gc_192 : Jvm.Cond.instanceMethod yX4_init ∈ TG := tg_at (i := 192) (by decide +kernel)
theorem gc_193 : Jvm.Cond.code yX4_init cX4_init 1 none ∈ TG := tg_at (i := 193) (by decide +kernel)
theorem gc_194 : Jvm.Cond.methodLink RX4 3 Lib.objectInit ∈ TG := tg_at (i := 194) (by decide +kernel)
theorem gc_195 : Jvm.Cond.fieldLink RX4 9 (rn 4) (tT 4 0).2.1 (tT 4 0).2.2.1 ∈ TG := tg_at (i := 195) (by decide +kernel)
theorem gc_196 : Jvm.Cond.fieldLink RX4 15 (rn 4) (tT 4 1).2.1 (tT 4 1).2.2.1 ∈ TG := tg_at (i := 196) (by decide +kernel)
theorem gc_197 : Jvm.Cond.fieldLink RX4 18 (rn 4) (tT 4 2).2.1 (tT 4 2).2.2.1 ∈ TG := tg_at (i := 197) (by decide +kernel)
theorem gc_209 : Jvm.Cond.fieldLink RX0 14 (rn 0) (tT 0 0).2.1 (tT 0 0).2.2.1 ∈ TG := tg_at (i := 209) (by decide +kernel)
theorem gc_211 : Jvm.Cond.fieldLink RX0 20 (rn 0) (tT 0 1).2.1 (tT 0 1).2.2.1 ∈ TG := tg_at (i := 211) (by decide +kernel)
theorem gc_213 : Jvm.Cond.fieldLink RX0 26 (rn 0) (tT 0 2).2.1 (tT 0 2).2.2.1 ∈ TG := tg_at (i := 213) (by decide +kernel)
theorem gc_216 : Jvm.Cond.fieldLink RX0 33 (rn 0) (tT 0 3).2.1 (tT 0 3).2.2.1 ∈ TG := tg_at (i := 216) (by decide +kernel)
theorem gc_219 : Jvm.Cond.fieldLink RX0 40 (rn 0) (tT 0 4).2.1 (tT 0 4).2.2.1 ∈ TG := tg_at (i := 219) (by decide +kernel)
theorem gc_223 : Jvm.Cond.fieldLink RX0 47 (rn 0) (tT 0 5).2.1 (tT 0 5).2.2.1 ∈ TG := tg_at (i := 223) (by decide +kernel)
theorem gc_226 : Jvm.Cond.fieldLink RX0 51 (rn 0) (tT 0 6).2.1 (tT 0 6).2.2.1 ∈ TG := tg_at (i := 226) (by decide +kernel)
theorem gc_228 : Jvm.Cond.fieldLink RX0 55 (rn 0) (tT 0 7).2.1 (tT 0 7).2.2.1 ∈ TG := tg_at (i := 228) (by decide +kernel)
theorem gc_247 : Jvm.Cond.classLink RX10 16 (rn 3) ∈ TG := tg_at (i := 247) (by decide +kernel)
theorem gc_248 : Jvm.Cond.instantiable (rn 3) (nF 3) ∈ TG := tg_at (i := 248) (by decide +kernel)
theorem gc_249 : Jvm.Cond.methodLink RX10 18 yX3_init ∈ TG := tg_at (i := 249) (by decide +kernel)
theorem gc_250 : Jvm.Cond.instanceMethod yX3_init ∈ TG := tg_at (i := 250) (by decide +kernel)
theorem gc_251 : Jvm.Cond.code yX3_init cX3_init 2 none ∈ TG := tg_at (i := 251) (by decide +kernel)
theorem gc_252 : Jvm.Cond.methodLink RX3 3 Lib.objectInit ∈ TG := tg_at (i := 252) (by decide +kernel)
theorem gc_253 : Jvm.Cond.classLink RX3 9 (rn 7) ∈ TG := tg_at (i := 253) (by decide +kernel)
theorem gc_254 : Jvm.Cond.instantiable (rn 7) (nF 7) ∈ TG := tg_at (i := 254) (by decide +kernel)
theorem gc_255 : Jvm.Cond.methodLink RX3 11 yX7_init ∈ TG := tg_at (i := 255) (by decide +kernel)
theorem gc_256 : Jvm.Cond.instanceMethod yX7_init ∈ TG := tg_at (i := 256) (by decide +kernel)
theorem gc_257 : Jvm.Cond.code yX7_init cX7_init 2 none ∈ TG := tg_at (i := 257) (by decide +kernel)
theorem gc_258 : Jvm.Cond.methodLink RX7 3 Lib.objectInit ∈ TG := tg_at (i := 258) (by decide +kernel)
theorem gc_259 : Jvm.Cond.classLink RX7 9 (rn 6) ∈ TG := tg_at (i := 259) (by decide +kernel)
theorem gc_261 : Jvm.Cond.classLink RX7 18 (rn 2) ∈ TG := tg_at (i := 261) (by decide +kernel)
theorem gc_263 : Jvm.Cond.classLink RX7 25 (rn 9) ∈ TG := tg_at (i := 263) (by decide +kernel)
theorem gc_264 : Jvm.Cond.instantiable (rn 9) (nF 9) ∈ TG := tg_at (i := 264) (by decide +kernel)
theorem gc_266 : Jvm.Cond.instanceMethod yX9_init ∈ TG := tg_at (i := 266) (by decide +kernel)
theorem gc_267 : Jvm.Cond.code yX9_init cX9_init 1 none ∈ TG := tg_at (i := 267) (by decide +kernel)
theorem gc_268 : Jvm.Cond.methodLink RX9 3 Lib.objectInit ∈ TG := tg_at (i := 268) (by decide +kernel)
theorem gc_269 : Jvm.Cond.fieldLink RX9 9 (rn 9) (tT 9 0).2.1 (tT 9 0).2.2.1 ∈ TG := tg_at (i := 269) (by decide +kernel)
theorem gc_282 : Jvm.Cond.fieldLink RX7 12 (rn 7) (tT 7 0).2.1 (tT 7 0).2.2.1 ∈ TG := tg_at (i := 282) (by decide +kernel)
theorem gc_284 : Jvm.Cond.fieldLink RX7 21 (rn 7) (tT 7 1).2.1 (tT 7 1).2.2.1 ∈ TG := tg_at (i := 284) (by decide +kernel)
theorem gc_286 : Jvm.Cond.fieldLink RX7 28 (rn 7) (tT 7 2).2.1 (tT 7 2).2.2.1 ∈ TG := tg_at (i := 286) (by decide +kernel)
theorem gc_288 : Jvm.Cond.fieldLink RX7 32 (rn 7) (tT 7 3).2.1 (tT 7 3).2.2.1 ∈ TG := tg_at (i := 288) (by decide +kernel)
theorem gc_290 : Jvm.Cond.fieldLink RX7 36 (rn 7) (tT 7 4).2.1 (tT 7 4).2.2.1 ∈ TG := tg_at (i := 290) (by decide +kernel)
theorem gc_293 : Jvm.Cond.fieldLink RX7 39 (rn 7) (tT 7 5).2.1 (tT 7 5).2.2.1 ∈ TG := tg_at (i := 293) (by decide +kernel)
theorem gc_295 : Jvm.Cond.fieldLink RX7 42 (rn 7) (tT 7 6).2.1 (tT 7 6).2.2.1 ∈ TG := tg_at (i := 295) (by decide +kernel)
theorem gc_298 : Jvm.Cond.fieldLink RX7 52 (rn 7) (tT 7 7).2.1 (tT 7 7).2.2.1 ∈ TG := tg_at (i := 298) (by decide +kernel)
theorem gc_300 : Jvm.Cond.fieldLink RX7 48 (rn 7) (tT 7 8).2.1 (tT 7 8).2.2.1 ∈ TG := tg_at (i := 300) (by decide +kernel)
theorem gc_301 : Jvm.Cond.fieldLink RX7 45 (rn 7) (tT 7 9).2.1 (tT 7 9).2.2.1 ∈ TG := tg_at (i := 301) (by decide +kernel)
theorem gc_328 : Jvm.Cond.fieldLink RX3 27 (rn 3) (tT 3 0).2.1 (tT 3 0).2.2.1 ∈ TG := tg_at (i := 328) (by decide +kernel)
theorem gc_329 : Jvm.Cond.fieldLink RX3 14 (rn 3) (tT 3 1).2.1 (tT 3 1).2.2.1 ∈ TG := tg_at (i := 329) (by decide +kernel)
theorem gc_330 : Jvm.Cond.fieldLink RX3 20 (rn 3) (tT 3 2).2.1 (tT 3 2).2.2.1 ∈ TG := tg_at (i := 330) (by decide +kernel)
theorem gc_331 : Jvm.Cond.fieldLink RX3 24 (rn 3) (tT 3 3).2.1 (tT 3 3).2.2.1 ∈ TG := tg_at (i := 331) (by decide +kernel)
theorem gc_365 : Jvm.Cond.classLink RX10 25 (rn 7) ∈ TG := tg_at (i := 365) (by decide +kernel)
theorem gc_366 : Jvm.Cond.methodLink RX10 27 yX7_init ∈ TG := tg_at (i := 366) (by decide +kernel)
theorem gc_367 : Jvm.Cond.classLink RX10 34 (rn 5) ∈ TG := tg_at (i := 367) (by decide +kernel)
theorem gc_369 : Jvm.Cond.instantiable (rn 5) (nF 5) ∈ TG := tg_at (i := 369) (by decide +kernel)
theorem gc_371 : Jvm.Cond.instanceMethod yX5_init ∈ TG := tg_at (i := 371) (by decide +kernel)
theorem gc_372 : Jvm.Cond.code yX5_init cX5_init 1 none ∈ TG := tg_at (i := 372) (by decide +kernel)
theorem gc_373 : Jvm.Cond.methodLink RX5 3 Lib.objectInit ∈ TG := tg_at (i := 373) (by decide +kernel)
theorem gc_374 : Jvm.Cond.fieldLink RX5 9 (rn 5) (tT 5 0).2.1 (tT 5 0).2.2.1 ∈ TG := tg_at (i := 374) (by decide +kernel)
theorem gc_376 : Jvm.Cond.fieldLink RX5 15 (rn 5) (tT 5 1).2.1 (tT 5 1).2.2.1 ∈ TG := tg_at (i := 376) (by decide +kernel)
theorem gc_387 : Jvm.Cond.fieldLink RX10 10 (rn 10) (tT 10 0).2.1 (tT 10 0).2.2.1 ∈ TG := tg_at (i := 387) (by decide +kernel)
theorem gc_388 : Jvm.Cond.fieldLink RX10 21 (rn 10) (tT 10 1).2.1 (tT 10 1).2.2.1 ∈ TG := tg_at (i := 388) (by decide +kernel)
theorem gc_389 : Jvm.Cond.fieldLink RX10 30 (rn 10) (tT 10 2).2.1 (tT 10 2).2.2.1 ∈ TG := tg_at (i := 389) (by decide +kernel)
theorem gc_390 : Jvm.Cond.fieldLink RX10 36 (rn 10) (tT 10 3).2.1 (tT 10 3).2.2.1 ∈ TG := tg_at (i := 390) (by decide +kernel)
theorem gc_391 : Jvm.Cond.fieldLink RX10 41 (rn 10) (tT 10 4).2.1 (tT 10 4).2.2.1 ∈ TG := tg_at (i := 391) (by decide +kernel)
theorem gc_392 : Jvm.Cond.fieldLink RX10 45 (rn 10) (tT 10 5).2.1 (tT 10 5).2.2.1 ∈ TG := tg_at (i := 392) (by decide +kernel)
theorem gc_852 : Jvm.Cond.methodLink RX11 1 Lib.objectInit ∈ TG := tg_at (i := 852) (by decide +kernel)
theorem gc_853 : Jvm.Cond.fieldLink RX11 7 (rn 11) (tT 11 0).2.1 (tT 11 0).2.2.1 ∈ TG := tg_at (i := 853) (by decide +kernel)
theorem gc_854 : Jvm.Cond.fieldLink RX11 13 (rn 11) (tT 11 1).2.1 (tT 11 1).2.2.1 ∈ TG := tg_at (i := 854) (by decide +kernel)
theorem gc_855 : Jvm.Cond.fieldLink RX11 16 (rn 11) (tT 11 2).2.1 (tT 11 2).2.2.1 ∈ TG := tg_at (i := 855) (by decide +kernel)
theorem gc_856 : Jvm.Cond.fieldLink RX11 19 (rn 11) (tT 11 3).2.1 (tT 11 3).2.2.1 ∈ TG := tg_at (i := 856) (by decide +kernel)
theorem gc_858 : Jvm.Cond.fieldLink RX11 22 (rn 11) (tT 11 5).2.1 (tT 11 5).2.2.1 ∈ TG := tg_at (i := 858) (by decide +kernel)
theorem gc_859 : Jvm.Cond.fieldLink RX11 25 (rn 11) (tT 11 6).2.1 (tT 11 6).2.2.1 ∈ TG := tg_at (i := 859) (by decide +kernel)
theorem gc_860 : Jvm.Cond.fieldLink RX11 28 (rn 11) (tT 11 7).2.1 (tT 11 7).2.2.1 ∈ TG := tg_at (i := 860) (by decide +kernel)
theorem gc_861 : Jvm.Cond.fieldLink RX11 31 (rn 11) (tT 11 8).2.1 (tT 11 8).2.2.1 ∈ TG := tg_at (i := 861) (by decide +kernel)
theorem gc_863 : Jvm.Cond.fieldLink RX11 34 (rn 11) (tT 11 10).2.1 (tT 11 10).2.2.1 ∈ TG := tg_at (i := 863) (by decide +kernel)
theorem gc_865 : Jvm.Cond.fieldLink RX11 37 (rn 11) (tT 11 12).2.1 (tT 11 12).2.2.1 ∈ TG := tg_at (i := 865) (by decide +kernel)
theorem gc_867 : Jvm.Cond.fieldLink RX11 70 (rn 11) (tT 11 14).2.1 (tT 11 14).2.2.1 ∈ TG := tg_at (i := 867) (by decide +kernel)
theorem gc_870 : Jvm.Cond.fieldLink RX11 40 (rn 11) (tT 11 17).2.1 (tT 11 17).2.2.1 ∈ TG := tg_at (i := 870) (by decide +kernel)
theorem gc_871 : Jvm.Cond.fieldLink RX11 43 (rn 11) (tT 11 18).2.1 (tT 11 18).2.2.1 ∈ TG := tg_at (i := 871) (by decide +kernel)
theorem gc_872 : Jvm.Cond.fieldLink RX11 46 (rn 11) (tT 11 19).2.1 (tT 11 19).2.2.1 ∈ TG := tg_at (i := 872) (by decide +kernel)
theorem gc_873 : Jvm.Cond.fieldLink RX11 49 (rn 11) (tT 11 20).2.1 (tT 11 20).2.2.1 ∈ TG := tg_at (i := 873) (by decide +kernel)
theorem gc_874 : Jvm.Cond.fieldLink RX11 52 (rn 11) (tT 11 21).2.1 (tT 11 21).2.2.1 ∈ TG := tg_at (i := 874) (by decide +kernel)
theorem gc_875 : Jvm.Cond.fieldLink RX11 55 (rn 11) (tT 11 22).2.1 (tT 11 22).2.2.1 ∈ TG := tg_at (i := 875) (by decide +kernel)
theorem gc_876 : Jvm.Cond.fieldLink RX11 58 (rn 11) (tT 11 23).2.1 (tT 11 23).2.2.1 ∈ TG := tg_at (i := 876) (by decide +kernel)
theorem gc_878 : Jvm.Cond.fieldLink RX11 61 (rn 11) (tT 11 25).2.1 (tT 11 25).2.2.1 ∈ TG := tg_at (i := 878) (by decide +kernel)
theorem gc_879 : Jvm.Cond.fieldLink RX11 64 (rn 11) (tT 11 26).2.1 (tT 11 26).2.2.1 ∈ TG := tg_at (i := 879) (by decide +kernel)
theorem gc_881 : Jvm.Cond.fieldLink RX11 67 (rn 11) (tT 11 28).2.1 (tT 11 28).2.2.1 ∈ TG := tg_at (i := 881) (by decide +kernel)
