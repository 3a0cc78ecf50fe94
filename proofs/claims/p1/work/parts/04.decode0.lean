theorem dX9_init_0 : decode cX9_init 0 = .ok (.aload_n 0, 1) := by decide +kernel
theorem dX9_init_1 : decode cX9_init 1 = .ok (.invokespecial 3, 3) := by decide +kernel
theorem dX9_init_4 : decode cX9_init 4 = .ok (.aload_n 0, 1) := by decide +kernel
theorem dX9_init_5 : decode cX9_init 5 = .ok (.new 9, 3) := by decide +kernel
theorem dX9_init_8 : decode cX9_init 8 = .ok (.dup, 1) := by decide +kernel
theorem dX9_init_9 : decode cX9_init 9 = .ok (.invokespecial 11, 3) := by decide +kernel
theorem dX8_init_0 : decode cX8_init 0 = .ok (.aload_n 0, 1) := by decide +kernel
theorem dX8_init_1 : decode cX8_init 1 = .ok (.invokespecial 3, 3) := by decide +kernel
theorem dX8_init_4 : decode cX8_init 4 = .ok (.aload_n 0, 1) := by decide +kernel
theorem dX8_init_5 : decode cX8_init 5 = .ok (.bipush 10, 2) := by decide +kernel
theorem dX8_init_7 : decode cX8_init 7 = .ok (.anewarray 9, 3) := by decide +kernel
theorem dX8_init_10 : decode cX8_init 10 = .ok (.putfield 11, 3) := by decide +kernel
theorem dX8_init_13 : decode cX8_init 13 = .ok (.aload_n 0, 1) := by decide +kernel
theorem dX8_init_14 : decode cX8_init 14 = .ok (.iconst 5, 1) := by decide +kernel
theorem dX8_init_15 : decode cX8_init 15 = .ok (.anewarray 17, 3) := by decide +kernel
theorem dX8_init_18 : decode cX8_init 18 = .ok (.putfield 19, 3) := by decide +kernel
theorem dX8_init_21 : decode cX8_init 21 = .ok (.iconst 0, 1) := by decide +kernel
theorem dX8_init_22 : decode cX8_init 22 = .ok (.istore_n 1, 1) := by decide +kernel
theorem dX8_init_23 : decode cX8_init 23 = .ok (.iload_n 1, 1) := by decide +kernel
theorem dX8_init_24 : decode cX8_init 24 = .ok (.bipush 10, 2) := by decide +kernel
theorem dX8_init_26 : decode cX8_init 26 = .ok (.if_icmp .ge 22, 3) := by decide +kernel
theorem dX8_init_29 : decode cX8_init 29 = .ok (.aload_n 0, 1) := by decide +kernel
theorem dX8_init_30 : decode cX8_init 30 = .ok (.getfield 11, 3) := by decide +kernel
theorem dX8_init_33 : decode cX8_init 33 = .ok (.iload_n 1, 1) := by decide +kernel
theorem dX8_init_34 : decode cX8_init 34 = .ok (.new 9, 3) := by decide +kernel
theorem dX8_init_37 : decode cX8_init 37 = .ok (.dup, 1) := by decide +kernel
theorem dX8_init_38 : decode cX8_init 38 = .ok (.invokespecial 23, 3) := by decide +kernel
theorem dX5_init_0 : decode cX5_init 0 = .ok (.aload_n 0, 1) := by decide +kernel
theorem dX5_init_1 : decode cX5_init 1 = .ok (.invokespecial 3, 3) := by decide +kernel
theorem dX5_init_4 : decode cX5_init 4 = .ok (.aload_n 0, 1) := by decide +kernel
theorem dX5_init_5 : decode cX5_init 5 = .ok (.bipush 6, 2) := by decide +kernel
theorem dX5_init_7 : decode cX5_init 7 = .ok (.newarray .int, 2) := by decide +kernel
theorem dX5_init_9 : decode cX5_init 9 = .ok (.putfield 9, 3) := by decide +kernel
theorem dX5_init_12 : decode cX5_init 12 = .ok (.return_, 1) := by decide +kernel
theorem dX8_init_41 : decode cX8_init 41 = .ok (.aastore, 1) := by decide +kernel
theorem dX8_init_42 : decode cX8_init 42 = .ok (.iinc 1 1, 3) := by decide +kernel
theorem dX8_init_45 : decode cX8_init 45 = .ok (.goto (-22), 3) := by decide +kernel
theorem dX8_init_48 : decode cX8_init 48 = .ok (.iconst 0, 1) := by decide +kernel
theorem dX8_init_49 : decode cX8_init 49 = .ok (.istore_n 1, 1) := by decide +kernel
theorem dX8_init_50 : decode cX8_init 50 = .ok (.iload_n 1, 1) := by decide +kernel
theorem dX8_init_51 : decode cX8_init 51 = .ok (.iconst 5, 1) := by decide +kernel
theorem dX8_init_52 : decode cX8_init 52 = .ok (.if_icmp .ge 22, 3) := by decide +kernel
theorem dX8_init_55 : decode cX8_init 55 = .ok (.aload_n 0, 1) := by decide +kernel
theorem dX8_init_56 : decode cX8_init 56 = .ok (.getfield 19, 3) := by decide +kernel
theorem dX8_init_59 : decode cX8_init 59 = .ok (.iload_n 1, 1) := by decide +kernel
theorem dX8_init_60 : decode cX8_init 60 = .ok (.new 17, 3) := by decide +kernel
theorem dX8_init_63 : decode cX8_init 63 = .ok (.dup, 1) := by decide +kernel
theorem dX8_init_64 : decode cX8_init 64 = .ok (.invokespecial 24, 3) := by decide +kernel
theorem dX1_init_0 : decode cX1_init 0 = .ok (.aload_n 0, 1) := by decide +kernel
theorem dX1_init_1 : decode cX1_init 1 = .ok (.invokespecial 3, 3) := by decide +kernel
theorem dX1_init_4 : decode cX1_init 4 = .ok (.return_, 1) := by decide +kernel
theorem dX8_init_67 : decode cX8_init 67 = .ok (.aastore, 1) := by decide +kernel
theorem dX8_init_68 : decode cX8_init 68 = .ok (.iinc 1 1, 3) := by decide +kernel
theorem dX8_init_71 : decode cX8_init 71 = .ok (.goto (-21), 3) := by decide +kernel
theorem dX8_init_74 : decode cX8_init 74 = .ok (.return_, 1) := by decide +kernel
theorem dX9_init_12 : decode cX9_init 12 = .ok (.putfield 12, 3) := by decide +kernel
theorem dX9_init_15 : decode cX9_init 15 = .ok (.aload_n 0, 1) := by decide +kernel
theorem dX9_init_16 : decode cX9_init 16 = .ok (.new 16, 3) := by decide +kernel
theorem dX9_init_19 : decode cX9_init 19 = .ok (.dup, 1) := by decide +kernel
theorem dX9_init_20 : decode cX9_init 20 = .ok (.invokespecial 18, 3) := by decide +kernel
theorem dX3_init_0 : decode cX3_init 0 = .ok (.aload_n 0, 1) := by decide +kernel
theorem dX3_init_1 : decode cX3_init 1 = .ok (.invokespecial 3, 3) := by decide +kernel
theorem dX3_init_4 : decode cX3_init 4 = .ok (.aload_n 0, 1) := by decide +kernel
theorem dX3_init_5 : decode cX3_init 5 = .ok (.bipush 8, 2) := by decide +kernel
theorem dX3_init_7 : decode cX3_init 7 = .ok (.anewarray 9, 3) := by decide +kernel
theorem dX3_init_10 : decode cX3_init 10 = .ok (.putfield 11, 3) := by decide +kernel
theorem dX3_init_13 : decode cX3_init 13 = .ok (.iconst 0, 1) := by decide +kernel
theorem dX3_init_14 : decode cX3_init 14 = .ok (.istore_n 1, 1) := by decide +kernel
theorem dX3_init_15 : decode cX3_init 15 = .ok (.iload_n 1, 1) := by decide +kernel
theorem dX3_init_16 : decode cX3_init 16 = .ok (.bipush 8, 2) := by decide +kernel
theorem dX3_init_18 : decode cX3_init 18 = .ok (.if_icmp .ge 22, 3) := by decide +kernel
theorem dX3_init_21 : decode cX3_init 21 = .ok (.aload_n 0, 1) := by decide +kernel
theorem dX3_init_22 : decode cX3_init 22 = .ok (.getfield 11, 3) := by decide +kernel
theorem dX3_init_25 : decode cX3_init 25 = .ok (.iload_n 1, 1) := by decide +kernel
theorem dX3_init_26 : decode cX3_init 26 = .ok (.new 9, 3) := by decide +kernel
theorem dX3_init_29 : decode cX3_init 29 = .ok (.dup, 1) := by decide +kernel
theorem dX3_init_30 : decode cX3_init 30 = .ok (.invokespecial 17, 3) := by decide +kernel
theorem dX3_init_33 : decode cX3_init 33 = .ok (.aastore, 1) := by decide +kernel
theorem dX3_init_34 : decode cX3_init 34 = .ok (.iinc 1 1, 3) := by decide +kernel
theorem dX3_init_37 : decode cX3_init 37 = .ok (.goto (-22), 3) := by decide +kernel
theorem dX3_init_40 : decode cX3_init 40 = .ok (.return_, 1) := by decide +kernel
theorem dX9_init_23 : decode cX9_init 23 = .ok (.putfield 19, 3) := by decide +kernel
theorem dX9_init_26 : decode cX9_init 26 = .ok (.aload_n 0, 1) := by decide +kernel
theorem dX9_init_27 : decode cX9_init 27 = .ok (.new 23, 3) := by decide +kernel
theorem dX9_init_30 : decode cX9_init 30 = .ok (.dup, 1) := by decide +kernel
theorem dX9_init_31 : decode cX9_init 31 = .ok (.invokespecial 25, 3) := by decide +kernel
theorem dX4_init_0 : decode cX4_init 0 = .ok (.aload_n 0, 1) := by decide +kernel
theorem dX4_init_1 : decode cX4_init 1 = .ok (.invokespecial 3, 3) := by decide +kernel
theorem dX4_init_4 : decode cX4_init 4 = .ok (.aload_n 0, 1) := by decide +kernel
theorem dX4_init_5 : decode cX4_init 5 = .ok (.iconst 5, 1) := by decide +kernel
theorem dX4_init_6 : decode cX4_init 6 = .ok (.newarray .int, 2) := by decide +kernel
theorem dX4_init_8 : decode cX4_init 8 = .ok (.putfield 9, 3) := by decide +kernel
theorem dX4_init_11 : decode cX4_init 11 = .ok (.aload_n 0, 1) := by decide +kernel
theorem dX4_init_12 : decode cX4_init 12 = .ok (.sipush 180, 3) := by decide +kernel
theorem dX4_init_15 : decode cX4_init 15 = .ok (.newarray .int, 2) := by decide +kernel
theorem dX4_init_17 : decode cX4_init 17 = .ok (.putfield 15, 3) := by decide +kernel
theorem dX4_init_20 : decode cX4_init 20 = .ok (.aload_n 0, 1) := by decide +kernel
theorem dX4_init_21 : decode cX4_init 21 = .ok (.sipush 180, 3) := by decide +kernel
theorem dX4_init_24 : decode cX4_init 24 = .ok (.newarray .int, 2) := by decide +kernel
theorem dX4_init_26 : decode cX4_init 26 = .ok (.putfield 18, 3) := by decide +kernel
theorem dX4_init_29 : decode cX4_init 29 = .ok (.aload_n 0, 1) := by decide +kernel
theorem dX4_init_30 : decode cX4_init 30 = .ok (.sipush 900, 3) := by decide +kernel
theorem dX4_init_33 : decode cX4_init 33 = .ok (.newarray .int, 2) := by decide +kernel
theorem dX4_init_35 : decode cX4_init 35 = .ok (.putfield 21, 3) := by decide +kernel
theorem dX4_init_38 : decode cX4_init 38 = .ok (.aload_n 0, 1) := by decide +kernel
theorem dX4_init_39 : decode cX4_init 39 = .ok (.iconst 5, 1) := by decide +kernel
theorem dX4_init_40 : decode cX4_init 40 = .ok (.newarray .int, 2) := by decide +kernel
theorem dX4_init_42 : decode cX4_init 42 = .ok (.putfield 24, 3) := by decide +kernel
theorem dX4_init_45 : decode cX4_init 45 = .ok (.return_, 1) := by decide +kernel
theorem dX9_init_34 : decode cX9_init 34 = .ok (.putfield 26, 3) := by decide +kernel
theorem dX9_init_37 : decode cX9_init 37 = .ok (.aload_n 0, 1) := by decide +kernel
theorem dX9_init_38 : decode cX9_init 38 = .ok (.new 23, 3) := by decide +kernel
theorem dX9_init_41 : decode cX9_init 41 = .ok (.dup, 1) := by decide +kernel
theorem dX9_init_42 : decode cX9_init 42 = .ok (.invokespecial 25, 3) := by decide +kernel
theorem dX9_init_45 : decode cX9_init 45 = .ok (.putfield 30, 3) := by decide +kernel
theorem dX9_init_48 : decode cX9_init 48 = .ok (.aload_n 0, 1) := by decide +kernel
theorem dX9_init_49 : decode cX9_init 49 = .ok (.new 33, 3) := by decide +kernel
theorem dX9_init_52 : decode cX9_init 52 = .ok (.dup, 1) := by decide +kernel
theorem dX9_init_53 : decode cX9_init 53 = .ok (.aload_n 0, 1) := by decide +kernel
theorem dX9_init_54 : decode cX9_init 54 = .ok (.getfield 12, 3) := by decide +kernel
theorem dX9_init_57 : decode cX9_init 57 = .ok (.aload_n 0, 1) := by decide +kernel
theorem dX9_init_58 : decode cX9_init 58 = .ok (.getfield 26, 3) := by decide +kernel
theorem dX9_init_61 : decode cX9_init 61 = .ok (.invokespecial 35, 3) := by decide +kernel
theorem dX0_init_0 : decode cX0_init 0 = .ok (.aload_n 0, 1) := by decide +kernel
theorem dX0_init_1 : decode cX0_init 1 = .ok (.invokespecial 3, 3) := by decide +kernel
theorem dX0_init_4 : decode cX0_init 4 = .ok (.aload_n 0, 1) := by decide +kernel
theorem dX0_init_5 : decode cX0_init 5 = .ok (.iconst 5, 1) := by decide +kernel
theorem dX0_init_6 : decode cX0_init 6 = .ok (.newarray .int, 2) := by decide +kernel
theorem dX0_init_8 : decode cX0_init 8 = .ok (.putfield 9, 3) := by decide +kernel
theorem dX0_init_11 : decode cX0_init 11 = .ok (.aload_n 0, 1) := by decide +kernel
theorem dX0_init_12 : decode cX0_init 12 = .ok (.bipush 10, 2) := by decide +kernel
theorem dX0_init_14 : decode cX0_init 14 = .ok (.newarray .int, 2) := by decide +kernel
theorem dX0_init_16 : decode cX0_init 16 = .ok (.putfield 15, 3) := by decide +kernel
theorem dX0_init_19 : decode cX0_init 19 = .ok (.aload_n 0, 1) := by decide +kernel
theorem dX0_init_20 : decode cX0_init 20 = .ok (.bipush 50, 2) := by decide +kernel
theorem dX0_init_22 : decode cX0_init 22 = .ok (.newarray .int, 2) := by decide +kernel
theorem dX0_init_24 : decode cX0_init 24 = .ok (.putfield 18, 3) := by decide +kernel
theorem dX0_init_27 : decode cX0_init 27 = .ok (.aload_n 0, 1) := by decide +kernel
theorem dX0_init_28 : decode cX0_init 28 = .ok (.bipush 50, 2) := by decide +kernel
theorem dX0_init_30 : decode cX0_init 30 = .ok (.newarray .int, 2) := by decide +kernel
theorem dX0_init_32 : decode cX0_init 32 = .ok (.putfield 21, 3) := by decide +kernel
theorem dX0_init_35 : decode cX0_init 35 = .ok (.aload_n 0, 1) := by decide +kernel
theorem dX0_init_36 : decode cX0_init 36 = .ok (.iconst 5, 1) := by decide +kernel
theorem dX0_init_37 : decode cX0_init 37 = .ok (.newarray .int, 2) := by decide +kernel
theorem dX0_init_39 : decode cX0_init 39 = .ok (.putfield 24, 3) := by decide +kernel
theorem dX0_init_42 : decode cX0_init 42 = .ok (.aload_n 0, 1) := by decide +kernel
theorem dX0_init_43 : decode cX0_init 43 = .ok (.iconst 5, 1) := by decide +kernel
theorem dX0_init_44 : decode cX0_init 44 = .ok (.newarray .int, 2) := by decide +kernel
theorem dX0_init_46 : decode cX0_init 46 = .ok (.putfield 27, 3) := by decide +kernel
theorem dX0_init_49 : decode cX0_init 49 = .ok (.aload_n 0, 1) := by decide +kernel
theorem dX0_init_50 : decode cX0_init 50 = .ok (.aload_n 1, 1) := by decide +kernel
theorem dX0_init_51 : decode cX0_init 51 = .ok (.putfield 30, 3) := by decide +kernel
theorem dX0_init_54 : decode cX0_init 54 = .ok (.aload_n 0, 1) := by decide +kernel
theorem dX0_init_55 : decode cX0_init 55 = .ok (.aload_n 2, 1) := by decide +kernel
theorem dX0_init_56 : decode cX0_init 56 = .ok (.putfield 34, 3) := by decide +kernel
theorem dX0_init_59 : decode cX0_init 59 = .ok (.return_, 1) := by decide +kernel
theorem dX9_init_64 : decode cX9_init 64 = .ok (.putfield 38, 3) := by decide +kernel
theorem dX9_init_67 : decode cX9_init 67 = .ok (.aload_n 0, 1) := by decide +kernel
theorem dX9_init_68 : decode cX9_init 68 = .ok (.new 33, 3) := by decide +kernel
theorem dX9_init_71 : decode cX9_init 71 = .ok (.dup, 1) := by decide +kernel
theorem dX9_init_72 : decode cX9_init 72 = .ok (.aload_n 0, 1) := by decide +kernel
theorem dX9_init_73 : decode cX9_init 73 = .ok (.getfield 12, 3) := by decide +kernel
theorem dX9_init_76 : decode cX9_init 76 = .ok (.aload_n 0, 1) := by decide +kernel
theorem dX9_init_77 : decode cX9_init 77 = .ok (.getfield 30, 3) := by decide +kernel
theorem dX9_init_80 : decode cX9_init 80 = .ok (.invokespecial 35, 3) := by decide +kernel
theorem dX9_init_83 : decode cX9_init 83 = .ok (.putfield 42, 3) := by decide +kernel
theorem dX9_init_86 : decode cX9_init 86 = .ok (.aload_n 0, 1) := by decide +kernel
theorem dX9_init_87 : decode cX9_init 87 = .ok (.new 45, 3) := by decide +kernel
theorem dX9_init_90 : decode cX9_init 90 = .ok (.dup, 1) := by decide +kernel
theorem dX9_init_91 : decode cX9_init 91 = .ok (.invokespecial 47, 3) := by decide +kernel
theorem dX7_init_0 : decode cX7_init 0 = .ok (.aload_n 0, 1) := by decide +kernel
theorem dX7_init_1 : decode cX7_init 1 = .ok (.invokespecial 3, 3) := by decide +kernel
theorem dX7_init_4 : decode cX7_init 4 = .ok (.aload_n 0, 1) := by decide +kernel
theorem dX7_init_5 : decode cX7_init 5 = .ok (.iconst 5, 1) := by decide +kernel
theorem dX7_init_6 : decode cX7_init 6 = .ok (.newarray .int, 2) := by decide +kernel
theorem dX7_init_8 : decode cX7_init 8 = .ok (.putfield 9, 3) := by decide +kernel
theorem dX7_init_11 : decode cX7_init 11 = .ok (.return_, 1) := by decide +kernel
theorem dX9_init_94 : decode cX9_init 94 = .ok (.putfield 48, 3) := by decide +kernel
theorem dX9_init_97 : decode cX9_init 97 = .ok (.aload_n 0, 1) := by decide +kernel
theorem dX9_init_98 : decode cX9_init 98 = .ok (.new 52, 3) := by decide +kernel
theorem dX9_init_101 : decode cX9_init 101 = .ok (.dup, 1) := by decide +kernel
theorem dX9_init_102 : decode cX9_init 102 = .ok (.aload_n 0, 1) := by decide +kernel
theorem dX9_init_103 : decode cX9_init 103 = .ok (.getfield 12, 3) := by decide +kernel
theorem dX9_init_106 : decode cX9_init 106 = .ok (.invokespecial 54, 3) := by decide +kernel
theorem dX6_init_0 : decode cX6_init 0 = .ok (.aload_n 0, 1) := by decide +kernel
theorem dX6_init_1 : decode cX6_init 1 = .ok (.invokespecial 3, 3) := by decide +kernel
theorem dX6_init_4 : decode cX6_init 4 = .ok (.aload_n 0, 1) := by decide +kernel
theorem dX6_init_5 : decode cX6_init 5 = .ok (.new 9, 3) := by decide +kernel
theorem dX6_init_8 : decode cX6_init 8 = .ok (.dup, 1) := by decide +kernel
theorem dX6_init_9 : decode cX6_init 9 = .ok (.invokespecial 11, 3) := by decide +kernel
theorem dX2_init_0 : decode cX2_init 0 = .ok (.aload_n 0, 1) := by decide +kernel
theorem dX2_init_1 : decode cX2_init 1 = .ok (.invokespecial 3, 3) := by decide +kernel
theorem dX2_init_4 : decode cX2_init 4 = .ok (.aload_n 0, 1) := by decide +kernel
theorem dX2_init_5 : decode cX2_init 5 = .ok (.lconst 1, 1) := by decide +kernel
theorem dX2_init_6 : decode cX2_init 6 = .ok (.putfield 9, 3) := by decide +kernel
theorem dX2_init_9 : decode cX2_init 9 = .ok (.return_, 1) := by decide +kernel
theorem dX6_init_12 : decode cX6_init 12 = .ok (.putfield 12, 3) := by decide +kernel
theorem dX6_init_15 : decode cX6_init 15 = .ok (.aload_n 0, 1) := by decide +kernel
theorem dX6_init_16 : decode cX6_init 16 = .ok (.new 9, 3) := by decide +kernel
theorem dX6_init_19 : decode cX6_init 19 = .ok (.dup, 1) := by decide +kernel
theorem dX6_init_20 : decode cX6_init 20 = .ok (.invokespecial 11, 3) := by decide +kernel
theorem dX6_init_23 : decode cX6_init 23 = .ok (.putfield 18, 3) := by decide +kernel
theorem dX6_init_26 : decode cX6_init 26 = .ok (.aload_n 0, 1) := by decide +kernel
theorem dX6_init_27 : decode cX6_init 27 = .ok (.aload_n 1, 1) := by decide +kernel
theorem dX6_init_28 : decode cX6_init 28 = .ok (.putfield 21, 3) := by decide +kernel
theorem dX6_init_31 : decode cX6_init 31 = .ok (.return_, 1) := by decide +kernel
theorem dX9_init_109 : decode cX9_init 109 = .ok (.putfield 57, 3) := by decide +kernel
theorem dX9_init_112 : decode cX9_init 112 = .ok (.aload_n 0, 1) := by decide +kernel
theorem dX9_init_113 : decode cX9_init 113 = .ok (.new 61, 3) := by decide +kernel
theorem dX9_init_116 : decode cX9_init 116 = .ok (.dup, 1) := by decide +kernel
theorem dX9_init_117 : decode cX9_init 117 = .ok (.invokespecial 63, 3) := by decide +kernel
theorem dX9_init_120 : decode cX9_init 120 = .ok (.putfield 64, 3) := by decide +kernel
theorem dX9_init_123 : decode cX9_init 123 = .ok (.return_, 1) := by decide +kernel
theorem dX10_init_0 : decode cX10_init 0 = .ok (.aload_n 0, 1) := by decide +kernel
theorem dX10_init_1 : decode cX10_init 1 = .ok (.invokespecial 1, 3) := by decide +kernel
theorem dX10_init_4 : decode cX10_init 4 = .ok (.aload_n 0, 1) := by decide +kernel
theorem dX10_init_5 : decode cX10_init 5 = .ok (.bipush 10, 2) := by decide +kernel
theorem dX10_init_7 : decode cX10_init 7 = .ok (.newarray .int, 2) := by decide +kernel
theorem dX10_init_9 : decode cX10_init 9 = .ok (.putfield 7, 3) := by decide +kernel
theorem dX10_init_12 : decode cX10_init 12 = .ok (.aload_n 0, 1) := by decide +kernel
theorem dX10_init_13 : decode cX10_init 13 = .ok (.bipush 10, 2) := by decide +kernel
theorem dX10_init_15 : decode cX10_init 15 = .ok (.newarray .int, 2) := by decide +kernel
theorem dX10_init_17 : decode cX10_init 17 = .ok (.putfield 13, 3) := by decide +kernel
theorem dX10_init_20 : decode cX10_init 20 = .ok (.aload_n 0, 1) := by decide +kernel
theorem dX10_init_21 : decode cX10_init 21 = .ok (.bipush 10, 2) := by decide +kernel
theorem dX10_init_23 : decode cX10_init 23 = .ok (.newarray .int, 2) := by decide +kernel
theorem dX10_init_25 : decode cX10_init 25 = .ok (.putfield 16, 3) := by decide +kernel
theorem dX10_init_28 : decode cX10_init 28 = .ok (.aload_n 0, 1) := by decide +kernel
theorem dX10_init_29 : decode cX10_init 29 = .ok (.bipush 10, 2) := by decide +kernel
theorem dX10_init_31 : decode cX10_init 31 = .ok (.newarray .int, 2) := by decide +kernel
theorem dX10_init_33 : decode cX10_init 33 = .ok (.putfield 19, 3) := by decide +kernel
theorem dX10_init_36 : decode cX10_init 36 = .ok (.aload_n 0, 1) := by decide +kernel
theorem dX10_init_37 : decode cX10_init 37 = .ok (.bipush 10, 2) := by decide +kernel
theorem dX10_init_39 : decode cX10_init 39 = .ok (.newarray .int, 2) := by decide +kernel
theorem dX10_init_41 : decode cX10_init 41 = .ok (.putfield 22, 3) := by decide +kernel
theorem dX10_init_44 : decode cX10_init 44 = .ok (.aload_n 0, 1) := by decide +kernel
theorem dX10_init_45 : decode cX10_init 45 = .ok (.bipush 10, 2) := by decide +kernel
theorem dX10_init_47 : decode cX10_init 47 = .ok (.newarray .int, 2) := by decide +kernel
theorem dX10_init_49 : decode cX10_init 49 = .ok (.putfield 25, 3) := by decide +kernel
theorem dX10_init_52 : decode cX10_init 52 = .ok (.aload_n 0, 1) := by decide +kernel
theorem dX10_init_53 : decode cX10_init 53 = .ok (.bipush 10, 2) := by decide +kernel
theorem dX10_init_55 : decode cX10_init 55 = .ok (.newarray .int, 2) := by decide +kernel
theorem dX10_init_57 : decode cX10_init 57 = .ok (.putfield 28, 3) := by decide +kernel
theorem dX10_init_60 : decode cX10_init 60 = .ok (.aload_n 0, 1) := by decide +kernel
theorem dX10_init_61 : decode cX10_init 61 = .ok (.bipush 10, 2) := by decide +kernel
theorem dX10_init_63 : decode cX10_init 63 = .ok (.newarray .int, 2) := by decide +kernel
theorem dX10_init_65 : decode cX10_init 65 = .ok (.putfield 31, 3) := by decide +kernel
theorem dX10_init_68 : decode cX10_init 68 = .ok (.aload_n 0, 1) := by decide +kernel
theorem dX10_init_69 : decode cX10_init 69 = .ok (.bipush 10, 2) := by decide +kernel
theorem dX10_init_71 : decode cX10_init 71 = .ok (.newarray .int, 2) := by decide +kernel
theorem dX10_init_73 : decode cX10_init 73 = .ok (.putfield 34, 3) := by decide +kernel
theorem dX10_init_76 : decode cX10_init 76 = .ok (.aload_n 0, 1) := by decide +kernel
theorem dX10_init_77 : decode cX10_init 77 = .ok (.bipush 60, 2) := by decide +kernel
theorem dX10_init_79 : decode cX10_init 79 = .ok (.newarray .int, 2) := by decide +kernel
theorem dX10_init_81 : decode cX10_init 81 = .ok (.putfield 37, 3) := by decide +kernel
theorem dX10_init_84 : decode cX10_init 84 = .ok (.aload_n 0, 1) := by decide +kernel
theorem dX10_init_85 : decode cX10_init 85 = .ok (.iconst 5, 1) := by decide +kernel
theorem dX10_init_86 : decode cX10_init 86 = .ok (.newarray .int, 2) := by decide +kernel
theorem dX10_init_88 : decode cX10_init 88 = .ok (.putfield 40, 3) := by decide +kernel
theorem dX10_init_91 : decode cX10_init 91 = .ok (.aload_n 0, 1) := by decide +kernel
theorem dX10_init_92 : decode cX10_init 92 = .ok (.iconst 5, 1) := by decide +kernel
theorem dX10_init_93 : decode cX10_init 93 = .ok (.newarray .int, 2) := by decide +kernel
theorem dX10_init_95 : decode cX10_init 95 = .ok (.putfield 43, 3) := by decide +kernel
theorem dX10_init_98 : decode cX10_init 98 = .ok (.aload_n 0, 1) := by decide +kernel
theorem dX10_init_99 : decode cX10_init 99 = .ok (.iconst 5, 1) := by decide +kernel
theorem dX10_init_100 : decode cX10_init 100 = .ok (.newarray .int, 2) := by decide +kernel
theorem dX10_init_102 : decode cX10_init 102 = .ok (.putfield 46, 3) := by decide +kernel
theorem dX10_init_105 : decode cX10_init 105 = .ok (.aload_n 0, 1) := by decide +kernel
theorem dX10_init_106 : decode cX10_init 106 = .ok (.sipush 1336, 3) := by decide +kernel
theorem dX10_init_109 : decode cX10_init 109 = .ok (.newarray .int, 2) := by decide +kernel
theorem dX10_init_111 : decode cX10_init 111 = .ok (.putfield 49, 3) := by decide +kernel
theorem dX10_init_114 : decode cX10_init 114 = .ok (.aload_n 0, 1) := by decide +kernel
theorem dX10_init_115 : decode cX10_init 115 = .ok (.iconst 5, 1) := by decide +kernel
theorem dX10_init_116 : decode cX10_init 116 = .ok (.newarray .int, 2) := by decide +kernel
theorem dX10_init_118 : decode cX10_init 118 = .ok (.putfield 52, 3) := by decide +kernel
theorem dX10_init_121 : decode cX10_init 121 = .ok (.aload_n 0, 1) := by decide +kernel
theorem dX10_init_122 : decode cX10_init 122 = .ok (.sipush 200, 3) := by decide +kernel
theorem dX10_init_125 : decode cX10_init 125 = .ok (.newarray .int, 2) := by decide +kernel
theorem dX10_init_127 : decode cX10_init 127 = .ok (.putfield 55, 3) := by decide +kernel
theorem dX10_init_130 : decode cX10_init 130 = .ok (.aload_n 0, 1) := by decide +kernel
theorem dX10_init_131 : decode cX10_init 131 = .ok (.sipush 1200, 3) := by decide +kernel
theorem dX10_init_134 : decode cX10_init 134 = .ok (.newarray .int, 2) := by decide +kernel
theorem dX10_init_136 : decode cX10_init 136 = .ok (.putfield 58, 3) := by decide +kernel
theorem dX10_init_139 : decode cX10_init 139 = .ok (.aload_n 0, 1) := by decide +kernel
theorem dX10_init_140 : decode cX10_init 140 = .ok (.bipush 6, 2) := by decide +kernel
theorem dX10_init_142 : decode cX10_init 142 = .ok (.newarray .int, 2) := by decide +kernel
theorem dX10_init_144 : decode cX10_init 144 = .ok (.putfield 61, 3) := by decide +kernel
theorem dX10_init_147 : decode cX10_init 147 = .ok (.aload_n 0, 1) := by decide +kernel
theorem dX10_init_148 : decode cX10_init 148 = .ok (.bipush 6, 2) := by decide +kernel
theorem dX10_init_150 : decode cX10_init 150 = .ok (.newarray .int, 2) := by decide +kernel
theorem dX10_init_152 : decode cX10_init 152 = .ok (.putfield 64, 3) := by decide +kernel
theorem dX10_init_155 : decode cX10_init 155 = .ok (.aload_n 0, 1) := by decide +kernel
theorem dX10_init_156 : decode cX10_init 156 = .ok (.bipush 10, 2) := by decide +kernel
theorem dX10_init_158 : decode cX10_init 158 = .ok (.newarray .int, 2) := by decide +kernel
theorem dX10_init_160 : decode cX10_init 160 = .ok (.putfield 67, 3) := by decide +kernel
theorem dX10_init_163 : decode cX10_init 163 = .ok (.aload_n 0, 1) := by decide +kernel
theorem dX10_init_164 : decode cX10_init 164 = .ok (.iconst 5, 1) := by decide +kernel
theorem dX10_init_165 : decode cX10_init 165 = .ok (.newarray .int, 2) := by decide +kernel
theorem dX10_init_167 : decode cX10_init 167 = .ok (.putfield 70, 3) := by decide +kernel
theorem dX10_init_170 : decode cX10_init 170 = .ok (.aload_n 0, 1) := by decide +kernel
theorem dX10_init_171 : decode cX10_init 171 = .ok (.iconst 5, 1) := by decide +kernel
theorem dX10_init_172 : decode cX10_init 172 = .ok (.newarray .int, 2) := by decide +kernel
theorem dX10_init_174 : decode cX10_init 174 = .ok (.putfield 73, 3) := by decide +kernel
theorem dX10_init_177 : decode cX10_init 177 = .ok (.aload_n 0, 1) := by decide +kernel
theorem dX10_init_178 : decode cX10_init 178 = .ok (.iconst 5, 1) := by decide +kernel
theorem dX10_init_179 : decode cX10_init 179 = .ok (.newarray .int, 2) := by decide +kernel
theorem dX10_init_181 : decode cX10_init 181 = .ok (.putfield 76, 3) := by decide +kernel
theorem dX10_init_184 : decode cX10_init 184 = .ok (.return_, 1) := by decide +kernel
theorem dX9_road_0 : decode cX9_road 0 = .ok (.iload_n 1, 1) := by decide +kernel
theorem dX9_road_1 : decode cX9_road 1 = .ok (.invokestatic 68, 3) := by decide +kernel
theorem dX9_isKind_0 : decode cX9_isKind 0 = .ok (.iload_n 0, 1) := by decide +kernel
theorem dX9_isKind_1 : decode cX9_isKind 1 = .ok (.ifCond .lt 12, 3) := by decide +kernel
theorem dX9_isKind_13 : decode cX9_isKind 13 = .ok (.iconst 0, 1) := by decide +kernel
theorem dX9_isKind_14 : decode cX9_isKind 14 = .ok (.ireturn, 1) := by decide +kernel
theorem dX9_isKind_4 : decode cX9_isKind 4 = .ok (.iload_n 0, 1) := by decide +kernel
theorem dX9_isKind_5 : decode cX9_isKind 5 = .ok (.iconst 3, 1) := by decide +kernel
theorem dX9_isKind_6 : decode cX9_isKind 6 = .ok (.if_icmp .gt 7, 3) := by decide +kernel
theorem dX9_isKind_9 : decode cX9_isKind 9 = .ok (.iconst 1, 1) := by decide +kernel
theorem dX9_isKind_10 : decode cX9_isKind 10 = .ok (.goto 4, 3) := by decide +kernel
theorem dX9_road_4 : decode cX9_road 4 = .ok (.ifCond .eq 36, 3) := by decide +kernel
theorem dX9_road_40 : decode cX9_road 40 = .ok (.bipush (-3), 2) := by decide +kernel
theorem dX9_road_42 : decode cX9_road 42 = .ok (.ireturn, 1) := by decide +kernel
theorem dX9_road_7 : decode cX9_road 7 = .ok (.iload_n 2, 1) := by decide +kernel
theorem dX9_road_8 : decode cX9_road 8 = .ok (.iload_n 3, 1) := by decide +kernel
theorem dX9_road_9 : decode cX9_road 9 = .ok (.invokestatic 72, 3) := by decide +kernel
theorem dX9_arePlaces_0 : decode cX9_arePlaces 0 = .ok (.iload_n 0, 1) := by decide +kernel
theorem dX9_arePlaces_1 : decode cX9_arePlaces 1 = .ok (.ifCond .lt 28, 3) := by decide +kernel
theorem dX9_arePlaces_29 : decode cX9_arePlaces 29 = .ok (.iconst 0, 1) := by decide +kernel
theorem dX9_arePlaces_30 : decode cX9_arePlaces 30 = .ok (.ireturn, 1) := by decide +kernel
theorem dX9_arePlaces_4 : decode cX9_arePlaces 4 = .ok (.iload_n 0, 1) := by decide +kernel
theorem dX9_arePlaces_5 : decode cX9_arePlaces 5 = .ok (.bipush 6, 2) := by decide +kernel
theorem dX9_arePlaces_7 : decode cX9_arePlaces 7 = .ok (.if_icmp .ge 22, 3) := by decide +kernel
theorem dX9_arePlaces_10 : decode cX9_arePlaces 10 = .ok (.iload_n 1, 1) := by decide +kernel
theorem dX9_arePlaces_11 : decode cX9_arePlaces 11 = .ok (.ifCond .lt 18, 3) := by decide +kernel
theorem dX9_arePlaces_14 : decode cX9_arePlaces 14 = .ok (.iload_n 1, 1) := by decide +kernel
theorem dX9_arePlaces_15 : decode cX9_arePlaces 15 = .ok (.bipush 6, 2) := by decide +kernel
theorem dX9_arePlaces_17 : decode cX9_arePlaces 17 = .ok (.if_icmp .ge 12, 3) := by decide +kernel
theorem dX9_arePlaces_20 : decode cX9_arePlaces 20 = .ok (.iload_n 0, 1) := by decide +kernel
theorem dX9_arePlaces_21 : decode cX9_arePlaces 21 = .ok (.iload_n 1, 1) := by decide +kernel
theorem dX9_arePlaces_22 : decode cX9_arePlaces 22 = .ok (.if_icmp .eq 7, 3) := by decide +kernel
theorem dX9_arePlaces_25 : decode cX9_arePlaces 25 = .ok (.iconst 1, 1) := by decide +kernel
theorem dX9_arePlaces_26 : decode cX9_arePlaces 26 = .ok (.goto 4, 3) := by decide +kernel
theorem dX9_road_12 : decode cX9_road 12 = .ok (.ifCond .eq 28, 3) := by decide +kernel
theorem dX9_road_15 : decode cX9_road 15 = .ok (.iload 4, 2) := by decide +kernel
theorem dX9_road_17 : decode cX9_road 17 = .ok (.ifCond .lt 23, 3) := by decide +kernel
theorem dX9_road_20 : decode cX9_road 20 = .ok (.iload 4, 2) := by decide +kernel
theorem dX9_road_22 : decode cX9_road 22 = .ok (.bipush 12, 2) := by decide +kernel
theorem dX9_road_24 : decode cX9_road 24 = .ok (.if_icmp .gt 16, 3) := by decide +kernel
theorem dX9_road_27 : decode cX9_road 27 = .ok (.iload 5, 2) := by decide +kernel
theorem dX9_road_29 : decode cX9_road 29 = .ok (.ifCond .lt 11, 3) := by decide +kernel
theorem dX9_road_32 : decode cX9_road 32 = .ok (.iload 5, 2) := by decide +kernel
theorem dX9_road_34 : decode cX9_road 34 = .ok (.sipush 1000, 3) := by decide +kernel
theorem dX9_road_37 : decode cX9_road 37 = .ok (.if_icmp .le 6, 3) := by decide +kernel
theorem dX9_road_43 : decode cX9_road 43 = .ok (.aload_n 0, 1) := by decide +kernel
theorem dX9_road_44 : decode cX9_road 44 = .ok (.getfield 12, 3) := by decide +kernel
theorem dX9_road_47 : decode cX9_road 47 = .ok (.getfield 76, 3) := by decide +kernel
theorem dX9_road_50 : decode cX9_road 50 = .ok (.bipush 10, 2) := by decide +kernel
theorem dX9_road_52 : decode cX9_road 52 = .ok (.if_icmp .lt 6, 3) := by decide +kernel
theorem dX9_road_58 : decode cX9_road 58 = .ok (.aload_n 0, 1) := by decide +kernel
theorem dX9_road_59 : decode cX9_road 59 = .ok (.getfield 19, 3) := by decide +kernel
theorem dX9_road_62 : decode cX9_road 62 = .ok (.aload_n 0, 1) := by decide +kernel
theorem dX9_road_63 : decode cX9_road 63 = .ok (.getfield 12, 3) := by decide +kernel
theorem dX9_road_66 : decode cX9_road 66 = .ok (.invokevirtual 80, 3) := by decide +kernel
theorem dX3_keep_0 : decode cX3_keep 0 = .ok (.aload_n 0, 1) := by decide +kernel
theorem dX3_keep_1 : decode cX3_keep 1 = .ok (.getfield 11, 3) := by decide +kernel
theorem dX3_keep_4 : decode cX3_keep 4 = .ok (.aload_n 0, 1) := by decide +kernel
theorem dX3_keep_5 : decode cX3_keep 5 = .ok (.getfield 18, 3) := by decide +kernel
theorem dX3_keep_8 : decode cX3_keep 8 = .ok (.aaload, 1) := by decide +kernel
theorem dX3_keep_9 : decode cX3_keep 9 = .ok (.aload_n 1, 1) := by decide +kernel
theorem dX3_keep_10 : decode cX3_keep 10 = .ok (.invokevirtual 22, 3) := by decide +kernel
theorem dX8_become_0 : decode cX8_become 0 = .ok (.aload_n 0, 1) := by decide +kernel
theorem dX8_become_1 : decode cX8_become 1 = .ok (.aload_n 1, 1) := by decide +kernel
theorem dX8_become_2 : decode cX8_become 2 = .ok (.getfield 25, 3) := by decide +kernel
theorem dX8_become_5 : decode cX8_become 5 = .ok (.putfield 25, 3) := by decide +kernel
theorem dX8_become_8 : decode cX8_become 8 = .ok (.iconst 0, 1) := by decide +kernel
theorem dX8_become_9 : decode cX8_become 9 = .ok (.istore_n 2, 1) := by decide +kernel
theorem dX8_become_10 : decode cX8_become 10 = .ok (.iload_n 2, 1) := by decide +kernel
theorem dX8_become_11 : decode cX8_become 11 = .ok (.aload_n 0, 1) := by decide +kernel
theorem dX8_become_12 : decode cX8_become 12 = .ok (.getfield 25, 3) := by decide +kernel
theorem dX8_become_15 : decode cX8_become 15 = .ok (.if_icmp .ge 24, 3) := by decide +kernel
theorem dX8_become_39 : decode cX8_become 39 = .ok (.aload_n 0, 1) := by decide +kernel
theorem dX8_become_40 : decode cX8_become 40 = .ok (.aload_n 1, 1) := by decide +kernel
theorem dX8_become_41 : decode cX8_become 41 = .ok (.getfield 33, 3) := by decide +kernel
theorem dX8_become_44 : decode cX8_become 44 = .ok (.putfield 33, 3) := by decide +kernel
theorem dX8_become_47 : decode cX8_become 47 = .ok (.iconst 0, 1) := by decide +kernel
theorem dX8_become_48 : decode cX8_become 48 = .ok (.istore_n 2, 1) := by decide +kernel
theorem dX8_become_49 : decode cX8_become 49 = .ok (.iload_n 2, 1) := by decide +kernel
theorem dX8_become_50 : decode cX8_become 50 = .ok (.aload_n 0, 1) := by decide +kernel
theorem dX8_become_51 : decode cX8_become 51 = .ok (.getfield 33, 3) := by decide +kernel
theorem dX8_become_54 : decode cX8_become 54 = .ok (.if_icmp .ge 24, 3) := by decide +kernel
theorem dX8_become_78 : decode cX8_become 78 = .ok (.return_, 1) := by decide +kernel
theorem dX3_keep_13 : decode cX3_keep 13 = .ok (.aload_n 0, 1) := by decide +kernel
theorem dX3_keep_14 : decode cX3_keep 14 = .ok (.aload_n 0, 1) := by decide +kernel
theorem dX3_keep_15 : decode cX3_keep 15 = .ok (.getfield 18, 3) := by decide +kernel
theorem dX3_keep_18 : decode cX3_keep 18 = .ok (.iconst 1, 1) := by decide +kernel
theorem dX3_keep_19 : decode cX3_keep 19 = .ok (.iadd, 1) := by decide +kernel
theorem dX3_keep_20 : decode cX3_keep 20 = .ok (.bipush 8, 2) := by decide +kernel
theorem dX3_keep_22 : decode cX3_keep 22 = .ok (.irem, 1) := by decide +kernel
theorem dX3_keep_23 : decode cX3_keep 23 = .ok (.putfield 18, 3) := by decide +kernel
theorem dX3_keep_26 : decode cX3_keep 26 = .ok (.aload_n 0, 1) := by decide +kernel
theorem dX3_keep_27 : decode cX3_keep 27 = .ok (.bipush 8, 2) := by decide +kernel
theorem dX3_keep_29 : decode cX3_keep 29 = .ok (.aload_n 0, 1) := by decide +kernel
theorem dX3_keep_30 : decode cX3_keep 30 = .ok (.getfield 26, 3) := by decide +kernel
theorem dX3_keep_33 : decode cX3_keep 33 = .ok (.iconst 1, 1) := by decide +kernel
theorem dX3_keep_34 : decode cX3_keep 34 = .ok (.iadd, 1) := by decide +kernel
theorem dX3_keep_35 : decode cX3_keep 35 = .ok (.invokestatic 29, 3) := by decide +kernel
theorem dX3_keep_38 : decode cX3_keep 38 = .ok (.putfield 26, 3) := by decide +kernel
theorem dX3_keep_41 : decode cX3_keep 41 = .ok (.return_, 1) := by decide +kernel
theorem dX9_road_69 : decode cX9_road 69 = .ok (.aload_n 0, 1) := by decide +kernel
theorem dX9_road_70 : decode cX9_road 70 = .ok (.getfield 12, 3) := by decide +kernel
theorem dX9_road_73 : decode cX9_road 73 = .ok (.getfield 76, 3) := by decide +kernel
theorem dX9_road_76 : decode cX9_road 76 = .ok (.istore 6, 2) := by decide +kernel
theorem dX9_road_78 : decode cX9_road 78 = .ok (.aload_n 0, 1) := by decide +kernel
theorem dX9_road_79 : decode cX9_road 79 = .ok (.getfield 12, 3) := by decide +kernel
theorem dX9_road_82 : decode cX9_road 82 = .ok (.getfield 83, 3) := by decide +kernel
theorem dX9_road_85 : decode cX9_road 85 = .ok (.iload 6, 2) := by decide +kernel
theorem dX9_road_87 : decode cX9_road 87 = .ok (.aaload, 1) := by decide +kernel
theorem dX9_road_88 : decode cX9_road 88 = .ok (.iload_n 1, 1) := by decide +kernel
theorem dX9_road_89 : decode cX9_road 89 = .ok (.iload_n 2, 1) := by decide +kernel
theorem dX9_road_90 : decode cX9_road 90 = .ok (.iload_n 3, 1) := by decide +kernel
theorem dX9_road_91 : decode cX9_road 91 = .ok (.iload 4, 2) := by decide +kernel
theorem dX9_road_93 : decode cX9_road 93 = .ok (.iload 5, 2) := by decide +kernel
theorem dX9_road_95 : decode cX9_road 95 = .ok (.invokevirtual 87, 3) := by decide +kernel
theorem dX5_begin_0 : decode cX5_begin 0 = .ok (.aload_n 0, 1) := by decide +kernel
theorem dX5_begin_1 : decode cX5_begin 1 = .ok (.iload_n 1, 1) := by decide +kernel
theorem dX5_begin_2 : decode cX5_begin 2 = .ok (.putfield 15, 3) := by decide +kernel
theorem dX5_begin_5 : decode cX5_begin 5 = .ok (.aload_n 0, 1) := by decide +kernel
theorem dX5_begin_6 : decode cX5_begin 6 = .ok (.iload_n 2, 1) := by decide +kernel
theorem dX5_begin_7 : decode cX5_begin 7 = .ok (.putfield 19, 3) := by decide +kernel
theorem dX5_begin_10 : decode cX5_begin 10 = .ok (.aload_n 0, 1) := by decide +kernel
theorem dX5_begin_11 : decode cX5_begin 11 = .ok (.iload_n 3, 1) := by decide +kernel
theorem dX5_begin_12 : decode cX5_begin 12 = .ok (.putfield 22, 3) := by decide +kernel
theorem dX5_begin_15 : decode cX5_begin 15 = .ok (.aload_n 0, 1) := by decide +kernel
theorem dX5_begin_16 : decode cX5_begin 16 = .ok (.iload 4, 2) := by decide +kernel
theorem dX5_begin_18 : decode cX5_begin 18 = .ok (.putfield 25, 3) := by decide +kernel
theorem dX5_begin_21 : decode cX5_begin 21 = .ok (.aload_n 0, 1) := by decide +kernel
theorem dX5_begin_22 : decode cX5_begin 22 = .ok (.iload 5, 2) := by decide +kernel
theorem dX5_begin_24 : decode cX5_begin 24 = .ok (.putfield 28, 3) := by decide +kernel
theorem dX5_begin_27 : decode cX5_begin 27 = .ok (.aload_n 0, 1) := by decide +kernel
theorem dX5_begin_28 : decode cX5_begin 28 = .ok (.iconst 0, 1) := by decide +kernel
theorem dX5_begin_29 : decode cX5_begin 29 = .ok (.putfield 31, 3) := by decide +kernel
theorem dX5_begin_32 : decode cX5_begin 32 = .ok (.aload_n 0, 1) := by decide +kernel
theorem dX5_begin_33 : decode cX5_begin 33 = .ok (.iconst 1, 1) := by decide +kernel
theorem dX5_begin_34 : decode cX5_begin 34 = .ok (.putfield 34, 3) := by decide +kernel
theorem dX5_begin_37 : decode cX5_begin 37 = .ok (.aload_n 0, 1) := by decide +kernel
theorem dX5_begin_38 : decode cX5_begin 38 = .ok (.iconst 0, 1) := by decide +kernel
theorem dX5_begin_39 : decode cX5_begin 39 = .ok (.putfield 38, 3) := by decide +kernel
theorem dX5_begin_42 : decode cX5_begin 42 = .ok (.aload_n 0, 1) := by decide +kernel
theorem dX5_begin_43 : decode cX5_begin 43 = .ok (.iconst (-1), 1) := by decide +kernel
theorem dX5_begin_44 : decode cX5_begin 44 = .ok (.putfield 41, 3) := by decide +kernel
theorem dX5_begin_47 : decode cX5_begin 47 = .ok (.return_, 1) := by decide +kernel
theorem dX9_road_98 : decode cX9_road 98 = .ok (.aload_n 0, 1) := by decide +kernel
theorem dX9_road_99 : decode cX9_road 99 = .ok (.getfield 12, 3) := by decide +kernel
theorem dX9_road_102 : decode cX9_road 102 = .ok (.iload 6, 2) := by decide +kernel
theorem dX9_road_104 : decode cX9_road 104 = .ok (.iconst 1, 1) := by decide +kernel
theorem dX9_road_105 : decode cX9_road 105 = .ok (.iadd, 1) := by decide +kernel
theorem dX9_road_106 : decode cX9_road 106 = .ok (.putfield 76, 3) := by decide +kernel
theorem dX9_road_109 : decode cX9_road 109 = .ok (.aload_n 0, 1) := by decide +kernel
theorem dX9_road_110 : decode cX9_road 110 = .ok (.invokevirtual 93, 3) := by decide +kernel
theorem dX9_roadsHaveChanged_0 : decode cX9_roadsHaveChanged 0 = .ok (.iconst 0, 1) := by decide +kernel
theorem dX9_roadsHaveChanged_1 : decode cX9_roadsHaveChanged 1 = .ok (.istore_n 1, 1) := by decide +kernel
theorem dX9_roadsHaveChanged_2 : decode cX9_roadsHaveChanged 2 = .ok (.iload_n 1, 1) := by decide +kernel
theorem dX9_roadsHaveChanged_3 : decode cX9_roadsHaveChanged 3 = .ok (.aload_n 0, 1) := by decide +kernel
theorem dX9_roadsHaveChanged_4 : decode cX9_roadsHaveChanged 4 = .ok (.getfield 12, 3) := by decide +kernel
theorem dX9_roadsHaveChanged_7 : decode cX9_roadsHaveChanged 7 = .ok (.getfield 162, 3) := by decide +kernel
theorem dX9_roadsHaveChanged_10 : decode cX9_roadsHaveChanged 10 = .ok (.if_icmp .ge 22, 3) := by decide +kernel
theorem dX9_roadsHaveChanged_32 : decode cX9_roadsHaveChanged 32 = .ok (.aload_n 0, 1) := by decide +kernel
theorem dX9_roadsHaveChanged_33 : decode cX9_roadsHaveChanged 33 = .ok (.getfield 26, 3) := by decide +kernel
theorem dX9_roadsHaveChanged_36 : decode cX9_roadsHaveChanged 36 = .ok (.aload_n 0, 1) := by decide +kernel
theorem dX9_roadsHaveChanged_37 : decode cX9_roadsHaveChanged 37 = .ok (.getfield 12, 3) := by decide +kernel
theorem dX9_roadsHaveChanged_40 : decode cX9_roadsHaveChanged 40 = .ok (.iconst (-1), 1) := by decide +kernel
theorem dX9_roadsHaveChanged_41 : decode cX9_roadsHaveChanged 41 = .ok (.invokevirtual 174, 3) := by decide +kernel
theorem dX4_find_0 : decode cX4_find 0 = .ok (.aload_n 0, 1) := by decide +kernel
theorem dX4_find_1 : decode cX4_find 1 = .ok (.aload_n 1, 1) := by decide +kernel
theorem dX4_find_2 : decode cX4_find 2 = .ok (.getfield 27, 3) := by decide +kernel
theorem dX4_find_5 : decode cX4_find 5 = .ok (.putfield 33, 3) := by decide +kernel
theorem dX4_find_8 : decode cX4_find 8 = .ok (.iconst 0, 1) := by decide +kernel
theorem dX4_find_9 : decode cX4_find 9 = .ok (.istore_n 3, 1) := by decide +kernel
theorem dX4_find_10 : decode cX4_find 10 = .ok (.iload_n 3, 1) := by decide +kernel
theorem dX4_find_11 : decode cX4_find 11 = .ok (.aload_n 0, 1) := by decide +kernel
theorem dX4_find_12 : decode cX4_find 12 = .ok (.getfield 33, 3) := by decide +kernel
theorem dX4_find_15 : decode cX4_find 15 = .ok (.if_icmp .ge 41, 3) := by decide +kernel
theorem dX4_find_56 : decode cX4_find 56 = .ok (.return_, 1) := by decide +kernel
theorem dX9_roadsHaveChanged_44 : decode cX9_roadsHaveChanged 44 = .ok (.return_, 1) := by decide +kernel
theorem dX9_road_113 : decode cX9_road 113 = .ok (.iload 6, 2) := by decide +kernel
theorem dX9_road_115 : decode cX9_road 115 = .ok (.ireturn, 1) := by decide +kernel
theorem dX9_open_0 : decode cX9_open 0 = .ok (.aload_n 0, 1) := by decide +kernel
theorem dX9_open_1 : decode cX9_open 1 = .ok (.getfield 12, 3) := by decide +kernel
theorem dX9_open_4 : decode cX9_open 4 = .ok (.iload_n 1, 1) := by decide +kernel
theorem dX9_open_5 : decode cX9_open 5 = .ok (.invokevirtual 96, 3) := by decide +kernel
theorem dX8_roadAt_0 : decode cX8_roadAt 0 = .ok (.iload_n 1, 1) := by decide +kernel
theorem dX8_roadAt_1 : decode cX8_roadAt 1 = .ok (.ifCond .lt 20, 3) := by decide +kernel
theorem dX8_roadAt_21 : decode cX8_roadAt 21 = .ok (.aconst_null, 1) := by decide +kernel
theorem dX8_roadAt_22 : decode cX8_roadAt 22 = .ok (.areturn, 1) := by decide +kernel
theorem dX8_roadAt_4 : decode cX8_roadAt 4 = .ok (.iload_n 1, 1) := by decide +kernel
theorem dX8_roadAt_5 : decode cX8_roadAt 5 = .ok (.aload_n 0, 1) := by decide +kernel
theorem dX8_roadAt_6 : decode cX8_roadAt 6 = .ok (.getfield 25, 3) := by decide +kernel
theorem dX8_roadAt_9 : decode cX8_roadAt 9 = .ok (.if_icmp .ge 12, 3) := by decide +kernel
theorem dX9_open_8 : decode cX9_open 8 = .ok (.astore_n 3, 1) := by decide +kernel
theorem dX9_open_9 : decode cX9_open 9 = .ok (.aload_n 3, 1) := by decide +kernel
theorem dX9_open_10 : decode cX9_open 10 = .ok (.ifnull 10, 3) := by decide +kernel
theorem dX9_open_20 : decode cX9_open 20 = .ok (.bipush (-3), 2) := by decide +kernel
theorem dX9_open_22 : decode cX9_open 22 = .ok (.ireturn, 1) := by decide +kernel
theorem dX9_table_0 : decode cX9_table 0 = .ok (.aload_n 0, 1) := by decide +kernel
theorem dX9_table_1 : decode cX9_table 1 = .ok (.getfield 12, 3) := by decide +kernel
theorem dX9_table_4 : decode cX9_table 4 = .ok (.iload_n 1, 1) := by decide +kernel
theorem dX9_table_5 : decode cX9_table 5 = .ok (.invokevirtual 96, 3) := by decide +kernel
theorem dX9_table_8 : decode cX9_table 8 = .ok (.astore 4, 2) := by decide +kernel
theorem dX9_table_10 : decode cX9_table 10 = .ok (.aload 4, 2) := by decide +kernel
theorem dX9_table_12 : decode cX9_table 12 = .ok (.ifnull 21, 3) := by decide +kernel
theorem dX9_table_33 : decode cX9_table 33 = .ok (.bipush (-3), 2) := by decide +kernel
theorem dX9_table_35 : decode cX9_table 35 = .ok (.ireturn, 1) := by decide +kernel
theorem dX9_enter_0 : decode cX9_enter 0 = .ok (.aload_n 0, 1) := by decide +kernel
theorem dX9_enter_1 : decode cX9_enter 1 = .ok (.getfield 12, 3) := by decide +kernel
theorem dX9_enter_4 : decode cX9_enter 4 = .ok (.iload_n 1, 1) := by decide +kernel
theorem dX9_enter_5 : decode cX9_enter 5 = .ok (.invokevirtual 96, 3) := by decide +kernel
theorem dX9_enter_8 : decode cX9_enter 8 = .ok (.astore 4, 2) := by decide +kernel
theorem dX9_enter_10 : decode cX9_enter 10 = .ok (.aload 4, 2) := by decide +kernel
theorem dX9_enter_12 : decode cX9_enter 12 = .ok (.ifnonnull 6, 3) := by decide +kernel
theorem dX9_enter_15 : decode cX9_enter 15 = .ok (.bipush (-3), 2) := by decide +kernel
theorem dX9_enter_17 : decode cX9_enter 17 = .ok (.ireturn, 1) := by decide +kernel
theorem dX9_copy_0 : decode cX9_copy 0 = .ok (.aload_n 0, 1) := by decide +kernel
theorem dX9_copy_1 : decode cX9_copy 1 = .ok (.getfield 12, 3) := by decide +kernel
theorem dX9_copy_4 : decode cX9_copy 4 = .ok (.iload_n 1, 1) := by decide +kernel
theorem dX9_copy_5 : decode cX9_copy 5 = .ok (.invokevirtual 96, 3) := by decide +kernel
theorem dX9_copy_8 : decode cX9_copy 8 = .ok (.astore 4, 2) := by decide +kernel
theorem dX9_copy_10 : decode cX9_copy 10 = .ok (.aload_n 0, 1) := by decide +kernel
theorem dX9_copy_11 : decode cX9_copy 11 = .ok (.getfield 12, 3) := by decide +kernel
theorem dX9_copy_14 : decode cX9_copy 14 = .ok (.iload_n 2, 1) := by decide +kernel
theorem dX9_copy_15 : decode cX9_copy 15 = .ok (.invokevirtual 96, 3) := by decide +kernel
theorem dX9_copy_18 : decode cX9_copy 18 = .ok (.astore 5, 2) := by decide +kernel
theorem dX9_copy_20 : decode cX9_copy 20 = .ok (.aload 4, 2) := by decide +kernel
theorem dX9_copy_22 : decode cX9_copy 22 = .ok (.ifnull 8, 3) := by decide +kernel
theorem dX9_copy_30 : decode cX9_copy 30 = .ok (.bipush (-3), 2) := by decide +kernel
theorem dX9_copy_32 : decode cX9_copy 32 = .ok (.ireturn, 1) := by decide +kernel
theorem dX9_toll_0 : decode cX9_toll 0 = .ok (.aload_n 0, 1) := by decide +kernel
theorem dX9_toll_1 : decode cX9_toll 1 = .ok (.getfield 12, 3) := by decide +kernel
theorem dX9_toll_4 : decode cX9_toll 4 = .ok (.iload_n 1, 1) := by decide +kernel
theorem dX9_toll_5 : decode cX9_toll 5 = .ok (.invokevirtual 96, 3) := by decide +kernel
theorem dX9_toll_8 : decode cX9_toll 8 = .ok (.astore_n 3, 1) := by decide +kernel
theorem dX9_toll_9 : decode cX9_toll 9 = .ok (.aload_n 3, 1) := by decide +kernel
theorem dX9_toll_10 : decode cX9_toll 10 = .ok (.ifnull 13, 3) := by decide +kernel
theorem dX9_toll_23 : decode cX9_toll 23 = .ok (.bipush (-3), 2) := by decide +kernel
theorem dX9_toll_25 : decode cX9_toll 25 = .ok (.ireturn, 1) := by decide +kernel
theorem dX9_about_0 : decode cX9_about 0 = .ok (.aload_n 0, 1) := by decide +kernel
theorem dX9_about_1 : decode cX9_about 1 = .ok (.getfield 12, 3) := by decide +kernel
theorem dX9_about_4 : decode cX9_about 4 = .ok (.iload_n 1, 1) := by decide +kernel
theorem dX9_about_5 : decode cX9_about 5 = .ok (.invokevirtual 96, 3) := by decide +kernel
theorem dX9_about_8 : decode cX9_about 8 = .ok (.astore_n 3, 1) := by decide +kernel
theorem dX9_about_9 : decode cX9_about 9 = .ok (.aload_n 3, 1) := by decide +kernel
theorem dX9_about_10 : decode cX9_about 10 = .ok (.ifnonnull 6, 3) := by decide +kernel
theorem dX9_about_13 : decode cX9_about 13 = .ok (.bipush (-3), 2) := by decide +kernel
theorem dX9_about_15 : decode cX9_about 15 = .ok (.ireturn, 1) := by decide +kernel
theorem dX9_isOf_0 : decode cX9_isOf 0 = .ok (.aload_n 0, 1) := by decide +kernel
theorem dX9_isOf_1 : decode cX9_isOf 1 = .ok (.getfield 12, 3) := by decide +kernel
theorem dX9_isOf_4 : decode cX9_isOf 4 = .ok (.iload_n 1, 1) := by decide +kernel
theorem dX9_isOf_5 : decode cX9_isOf 5 = .ok (.invokevirtual 96, 3) := by decide +kernel
theorem dX9_isOf_8 : decode cX9_isOf 8 = .ok (.astore_n 3, 1) := by decide +kernel
theorem dX9_isOf_9 : decode cX9_isOf 9 = .ok (.aload_n 3, 1) := by decide +kernel
theorem dX9_isOf_10 : decode cX9_isOf 10 = .ok (.ifnull 10, 3) := by decide +kernel
theorem dX9_isOf_20 : decode cX9_isOf 20 = .ok (.bipush (-3), 2) := by decide +kernel
theorem dX9_isOf_22 : decode cX9_isOf 22 = .ok (.ireturn, 1) := by decide +kernel
theorem dX9_takes_0 : decode cX9_takes 0 = .ok (.aload_n 0, 1) := by decide +kernel
theorem dX9_takes_1 : decode cX9_takes 1 = .ok (.getfield 12, 3) := by decide +kernel
theorem dX9_takes_4 : decode cX9_takes 4 = .ok (.iload_n 1, 1) := by decide +kernel
theorem dX9_takes_5 : decode cX9_takes 5 = .ok (.invokevirtual 96, 3) := by decide +kernel
theorem dX9_takes_8 : decode cX9_takes 8 = .ok (.astore_n 3, 1) := by decide +kernel
theorem dX9_takes_9 : decode cX9_takes 9 = .ok (.aload_n 3, 1) := by decide +kernel
theorem dX9_takes_10 : decode cX9_takes 10 = .ok (.ifnull 13, 3) := by decide +kernel
theorem dX9_takes_23 : decode cX9_takes 23 = .ok (.bipush (-3), 2) := by decide +kernel
theorem dX9_takes_25 : decode cX9_takes 25 = .ok (.ireturn, 1) := by decide +kernel
theorem dX9_driver_0 : decode cX9_driver 0 = .ok (.iload_n 1, 1) := by decide +kernel
theorem dX9_driver_1 : decode cX9_driver 1 = .ok (.iload_n 2, 1) := by decide +kernel
theorem dX9_driver_2 : decode cX9_driver 2 = .ok (.invokestatic 72, 3) := by decide +kernel
theorem dX9_driver_5 : decode cX9_driver 5 = .ok (.ifCond .ne 6, 3) := by decide +kernel
theorem dX9_driver_8 : decode cX9_driver 8 = .ok (.bipush (-3), 2) := by decide +kernel
theorem dX9_driver_10 : decode cX9_driver 10 = .ok (.ireturn, 1) := by decide +kernel
theorem dX9_driver_11 : decode cX9_driver 11 = .ok (.aload_n 0, 1) := by decide +kernel
theorem dX9_driver_12 : decode cX9_driver 12 = .ok (.getfield 12, 3) := by decide +kernel
theorem dX9_driver_15 : decode cX9_driver 15 = .ok (.getfield 162, 3) := by decide +kernel
theorem dX9_driver_18 : decode cX9_driver 18 = .ok (.iconst 5, 1) := by decide +kernel
theorem dX9_driver_19 : decode cX9_driver 19 = .ok (.if_icmp .lt 6, 3) := by decide +kernel
theorem dX9_driver_25 : decode cX9_driver 25 = .ok (.aload_n 0, 1) := by decide +kernel
theorem dX9_driver_26 : decode cX9_driver 26 = .ok (.getfield 19, 3) := by decide +kernel
theorem dX9_driver_29 : decode cX9_driver 29 = .ok (.aload_n 0, 1) := by decide +kernel
theorem dX9_driver_30 : decode cX9_driver 30 = .ok (.getfield 12, 3) := by decide +kernel
theorem dX9_driver_33 : decode cX9_driver 33 = .ok (.invokevirtual 80, 3) := by decide +kernel
theorem dX9_driver_36 : decode cX9_driver 36 = .ok (.aload_n 0, 1) := by decide +kernel
theorem dX9_driver_37 : decode cX9_driver 37 = .ok (.getfield 12, 3) := by decide +kernel
theorem dX9_driver_40 : decode cX9_driver 40 = .ok (.getfield 162, 3) := by decide +kernel
theorem dX9_driver_43 : decode cX9_driver 43 = .ok (.istore_n 3, 1) := by decide +kernel
theorem dX9_driver_44 : decode cX9_driver 44 = .ok (.aload_n 0, 1) := by decide +kernel
theorem dX9_driver_45 : decode cX9_driver 45 = .ok (.getfield 12, 3) := by decide +kernel
theorem dX9_driver_48 : decode cX9_driver 48 = .ok (.getfield 165, 3) := by decide +kernel
theorem dX9_driver_51 : decode cX9_driver 51 = .ok (.iload_n 3, 1) := by decide +kernel
theorem dX9_driver_52 : decode cX9_driver 52 = .ok (.aaload, 1) := by decide +kernel
theorem dX9_driver_53 : decode cX9_driver 53 = .ok (.iload_n 1, 1) := by decide +kernel
theorem dX9_driver_54 : decode cX9_driver 54 = .ok (.iload_n 2, 1) := by decide +kernel
theorem dX9_driver_55 : decode cX9_driver 55 = .ok (.invokevirtual 169, 3) := by decide +kernel
theorem dX1_begin_0 : decode cX1_begin 0 = .ok (.aload_n 0, 1) := by decide +kernel
theorem dX1_begin_1 : decode cX1_begin 1 = .ok (.iload_n 1, 1) := by decide +kernel
theorem dX1_begin_2 : decode cX1_begin 2 = .ok (.putfield 9, 3) := by decide +kernel
theorem dX1_begin_5 : decode cX1_begin 5 = .ok (.aload_n 0, 1) := by decide +kernel
theorem dX1_begin_6 : decode cX1_begin 6 = .ok (.iload_n 2, 1) := by decide +kernel
theorem dX1_begin_7 : decode cX1_begin 7 = .ok (.putfield 15, 3) := by decide +kernel
theorem dX1_begin_10 : decode cX1_begin 10 = .ok (.aload_n 0, 1) := by decide +kernel
theorem dX1_begin_11 : decode cX1_begin 11 = .ok (.iconst (-1), 1) := by decide +kernel
theorem dX1_begin_12 : decode cX1_begin 12 = .ok (.putfield 18, 3) := by decide +kernel
theorem dX1_begin_15 : decode cX1_begin 15 = .ok (.return_, 1) := by decide +kernel
theorem dX9_driver_58 : decode cX9_driver 58 = .ok (.aload_n 0, 1) := by decide +kernel
theorem dX9_driver_59 : decode cX9_driver 59 = .ok (.getfield 12, 3) := by decide +kernel
theorem dX9_driver_62 : decode cX9_driver 62 = .ok (.iload_n 3, 1) := by decide +kernel
theorem dX9_driver_63 : decode cX9_driver 63 = .ok (.iconst 1, 1) := by decide +kernel
theorem dX9_driver_64 : decode cX9_driver 64 = .ok (.iadd, 1) := by decide +kernel
theorem dX9_driver_65 : decode cX9_driver 65 = .ok (.putfield 162, 3) := by decide +kernel
theorem dX9_driver_68 : decode cX9_driver 68 = .ok (.aload_n 0, 1) := by decide +kernel
theorem dX9_driver_69 : decode cX9_driver 69 = .ok (.getfield 26, 3) := by decide +kernel
theorem dX9_driver_72 : decode cX9_driver 72 = .ok (.aload_n 0, 1) := by decide +kernel
theorem dX9_driver_73 : decode cX9_driver 73 = .ok (.getfield 12, 3) := by decide +kernel
theorem dX9_driver_76 : decode cX9_driver 76 = .ok (.iconst (-1), 1) := by decide +kernel
theorem dX9_driver_77 : decode cX9_driver 77 = .ok (.invokevirtual 174, 3) := by decide +kernel
theorem dX4_find_18 : decode cX4_find 18 = .ok (.aload_n 1, 1) := by decide +kernel
theorem dX4_find_19 : decode cX4_find 19 = .ok (.getfield 36, 3) := by decide +kernel
theorem dX4_find_22 : decode cX4_find 22 = .ok (.iload_n 3, 1) := by decide +kernel
theorem dX4_find_23 : decode cX4_find 23 = .ok (.aaload, 1) := by decide +kernel
theorem dX4_find_24 : decode cX4_find 24 = .ok (.getfield 39, 3) := by decide +kernel
theorem dX4_find_27 : decode cX4_find 27 = .ok (.istore 4, 2) := by decide +kernel
theorem dX4_find_29 : decode cX4_find 29 = .ok (.aload_n 0, 1) := by decide +kernel
theorem dX4_find_30 : decode cX4_find 30 = .ok (.getfield 9, 3) := by decide +kernel
theorem dX4_find_33 : decode cX4_find 33 = .ok (.iload_n 3, 1) := by decide +kernel
theorem dX4_find_34 : decode cX4_find 34 = .ok (.iconst 0, 1) := by decide +kernel
theorem dX4_find_35 : decode cX4_find 35 = .ok (.iastore, 1) := by decide +kernel
theorem dX4_find_36 : decode cX4_find 36 = .ok (.aload_n 0, 1) := by decide +kernel
theorem dX4_find_37 : decode cX4_find 37 = .ok (.aload_n 1, 1) := by decide +kernel
theorem dX4_find_38 : decode cX4_find 38 = .ok (.iload_n 2, 1) := by decide +kernel
theorem dX4_find_39 : decode cX4_find 39 = .ok (.iload_n 3, 1) := by decide +kernel
theorem dX4_find_40 : decode cX4_find 40 = .ok (.iload 4, 2) := by decide +kernel
theorem dX4_find_42 : decode cX4_find 42 = .ok (.iconst 1, 1) := by decide +kernel
theorem dX4_find_43 : decode cX4_find 43 = .ok (.iload 4, 2) := by decide +kernel
theorem dX4_find_45 : decode cX4_find 45 = .ok (.ishl, 1) := by decide +kernel
theorem dX4_find_46 : decode cX4_find 46 = .ok (.iconst 0, 1) := by decide +kernel
theorem dX4_find_47 : decode cX4_find 47 = .ok (.invokevirtual 44, 3) := by decide +kernel
theorem dX4_extend_0 : decode cX4_extend 0 = .ok (.iload 6, 2) := by decide +kernel
theorem dX4_extend_2 : decode cX4_extend 2 = .ok (.iconst 5, 1) := by decide +kernel
theorem dX4_extend_3 : decode cX4_extend 3 = .ok (.if_icmp .lt 4, 3) := by decide +kernel
theorem dX4_extend_7 : decode cX4_extend 7 = .ok (.iconst 0, 1) := by decide +kernel
theorem dX4_extend_8 : decode cX4_extend 8 = .ok (.istore 7, 2) := by decide +kernel
theorem dX4_extend_10 : decode cX4_extend 10 = .ok (.iload 7, 2) := by decide +kernel
theorem dX4_extend_12 : decode cX4_extend 12 = .ok (.aload_n 1, 1) := by decide +kernel
theorem dX4_extend_13 : decode cX4_extend 13 = .ok (.getfield 48, 3) := by decide +kernel
theorem dX4_extend_16 : decode cX4_extend 16 = .ok (.if_icmp .ge 134, 3) := by decide +kernel
theorem dX4_extend_150 : decode cX4_extend 150 = .ok (.return_, 1) := by decide +kernel
theorem dX4_find_50 : decode cX4_find 50 = .ok (.iinc 3 1, 3) := by decide +kernel
theorem dX4_find_53 : decode cX4_find 53 = .ok (.goto (-43), 3) := by decide +kernel
theorem dX9_driver_80 : decode cX9_driver 80 = .ok (.iload_n 3, 1) := by decide +kernel
theorem dX9_driver_81 : decode cX9_driver 81 = .ok (.ireturn, 1) := by decide +kernel
theorem dX9_ways_0 : decode cX9_ways 0 = .ok (.aload_n 0, 1) := by decide +kernel
theorem dX9_ways_1 : decode cX9_ways 1 = .ok (.getfield 12, 3) := by decide +kernel
theorem dX9_ways_4 : decode cX9_ways 4 = .ok (.iload_n 1, 1) := by decide +kernel
theorem dX9_ways_5 : decode cX9_ways 5 = .ok (.invokevirtual 178, 3) := by decide +kernel
theorem dX8_driverAt_0 : decode cX8_driverAt 0 = .ok (.iload_n 1, 1) := by decide +kernel
theorem dX8_driverAt_1 : decode cX8_driverAt 1 = .ok (.ifCond .lt 20, 3) := by decide +kernel
theorem dX8_driverAt_21 : decode cX8_driverAt 21 = .ok (.aconst_null, 1) := by decide +kernel
theorem dX8_driverAt_22 : decode cX8_driverAt 22 = .ok (.areturn, 1) := by decide +kernel
theorem dX8_driverAt_4 : decode cX8_driverAt 4 = .ok (.iload_n 1, 1) := by decide +kernel
theorem dX8_driverAt_5 : decode cX8_driverAt 5 = .ok (.aload_n 0, 1) := by decide +kernel
theorem dX8_driverAt_6 : decode cX8_driverAt 6 = .ok (.getfield 33, 3) := by decide +kernel
theorem dX8_driverAt_9 : decode cX8_driverAt 9 = .ok (.if_icmp .ge 12, 3) := by decide +kernel
theorem dX9_ways_8 : decode cX9_ways 8 = .ok (.ifnonnull 8, 3) := by decide +kernel
theorem dX9_ways_11 : decode cX9_ways 11 = .ok (.bipush (-3), 2) := by decide +kernel
theorem dX9_ways_13 : decode cX9_ways 13 = .ok (.goto 12, 3) := by decide +kernel
theorem dX9_ways_25 : decode cX9_ways 25 = .ok (.ireturn, 1) := by decide +kernel
theorem dX9_way_0 : decode cX9_way 0 = .ok (.aload_n 0, 1) := by decide +kernel
theorem dX9_way_1 : decode cX9_way 1 = .ok (.getfield 12, 3) := by decide +kernel
theorem dX9_way_4 : decode cX9_way 4 = .ok (.iload_n 1, 1) := by decide +kernel
theorem dX9_way_5 : decode cX9_way 5 = .ok (.invokevirtual 178, 3) := by decide +kernel
theorem dX9_way_8 : decode cX9_way 8 = .ok (.ifnull 24, 3) := by decide +kernel
theorem dX9_way_32 : decode cX9_way 32 = .ok (.bipush (-3), 2) := by decide +kernel
theorem dX9_way_34 : decode cX9_way 34 = .ok (.ireturn, 1) := by decide +kernel
theorem dX9_choose_0 : decode cX9_choose 0 = .ok (.aload_n 0, 1) := by decide +kernel
theorem dX9_choose_1 : decode cX9_choose 1 = .ok (.getfield 12, 3) := by decide +kernel
theorem dX9_choose_4 : decode cX9_choose 4 = .ok (.iload_n 1, 1) := by decide +kernel
theorem dX9_choose_5 : decode cX9_choose 5 = .ok (.invokevirtual 178, 3) := by decide +kernel
theorem dX9_choose_8 : decode cX9_choose 8 = .ok (.astore_n 3, 1) := by decide +kernel
theorem dX9_choose_9 : decode cX9_choose 9 = .ok (.aload_n 3, 1) := by decide +kernel
theorem dX9_choose_10 : decode cX9_choose 10 = .ok (.ifnull 21, 3) := by decide +kernel
theorem dX9_choose_31 : decode cX9_choose 31 = .ok (.bipush (-3), 2) := by decide +kernel
theorem dX9_choose_33 : decode cX9_choose 33 = .ok (.ireturn, 1) := by decide +kernel
theorem dX9_told_0 : decode cX9_told 0 = .ok (.aload_n 0, 1) := by decide +kernel
theorem dX9_told_1 : decode cX9_told 1 = .ok (.getfield 12, 3) := by decide +kernel
theorem dX9_told_4 : decode cX9_told 4 = .ok (.iload_n 1, 1) := by decide +kernel
theorem dX9_told_5 : decode cX9_told 5 = .ok (.invokevirtual 178, 3) := by decide +kernel
theorem dX9_told_8 : decode cX9_told 8 = .ok (.astore_n 3, 1) := by decide +kernel
theorem dX9_told_9 : decode cX9_told 9 = .ok (.aload_n 3, 1) := by decide +kernel
theorem dX9_told_10 : decode cX9_told 10 = .ok (.ifnull 12, 3) := by decide +kernel
theorem dX9_told_22 : decode cX9_told 22 = .ok (.bipush (-3), 2) := by decide +kernel
theorem dX9_told_24 : decode cX9_told 24 = .ok (.ireturn, 1) := by decide +kernel
theorem dX9_now_0 : decode cX9_now 0 = .ok (.iload_n 1, 1) := by decide +kernel
theorem dX9_now_1 : decode cX9_now 1 = .ok (.ifCond .lt 8, 3) := by decide +kernel
theorem dX9_now_9 : decode cX9_now 9 = .ok (.bipush (-3), 2) := by decide +kernel
