theorem dX9_isStream_19 : decode cX9_isStream 19 = .ok (.iload_n 2, 1) := by decide +kernel
theorem dX9_isStream_20 : decode cX9_isStream 20 = .ok (.invokestatic 100, 3) := by decide +kernel
theorem dX9_isStream_23 : decode cX9_isStream 23 = .ok (.ifCond .eq 7, 3) := by decide +kernel
theorem dX9_isStream_26 : decode cX9_isStream 26 = .ok (.iconst 1, 1) := by decide +kernel
theorem dX9_isStream_27 : decode cX9_isStream 27 = .ok (.goto 4, 3) := by decide +kernel
theorem dX9_level_16 : decode cX9_level 16 = .ok (.ifCond .ne 7, 3) := by decide +kernel
theorem dX9_level_23 : decode cX9_level 23 = .ok (.aload_n 0, 1) := by decide +kernel
theorem dX9_level_24 : decode cX9_level 24 = .ok (.getfield 57, 3) := by decide +kernel
theorem dX9_level_27 : decode cX9_level 27 = .ok (.iload_n 1, 1) := by decide +kernel
theorem dX9_level_28 : decode cX9_level 28 = .ok (.iload_n 2, 1) := by decide +kernel
theorem dX9_level_29 : decode cX9_level 29 = .ok (.iload_n 3, 1) := by decide +kernel
theorem dX9_level_30 : decode cX9_level 30 = .ok (.iload 4, 2) := by decide +kernel
theorem dX9_level_32 : decode cX9_level 32 = .ok (.invokevirtual 290, 3) := by decide +kernel
theorem dX6_flow_0 : decode cX6_flow 0 = .ok (.aload_n 0, 1) := by decide +kernel
theorem dX6_flow_1 : decode cX6_flow 1 = .ok (.iload_n 1, 1) := by decide +kernel
theorem dX6_flow_2 : decode cX6_flow 2 = .ok (.putfield 25, 3) := by decide +kernel
theorem dX6_flow_5 : decode cX6_flow 5 = .ok (.aload_n 0, 1) := by decide +kernel
theorem dX6_flow_6 : decode cX6_flow 6 = .ok (.iload_n 2, 1) := by decide +kernel
theorem dX6_flow_7 : decode cX6_flow 7 = .ok (.putfield 29, 3) := by decide +kernel
theorem dX6_flow_10 : decode cX6_flow 10 = .ok (.aload_n 0, 1) := by decide +kernel
theorem dX6_flow_11 : decode cX6_flow 11 = .ok (.iload_n 3, 1) := by decide +kernel
theorem dX6_flow_12 : decode cX6_flow 12 = .ok (.putfield 32, 3) := by decide +kernel
theorem dX6_flow_15 : decode cX6_flow 15 = .ok (.aload_n 0, 1) := by decide +kernel
theorem dX6_flow_16 : decode cX6_flow 16 = .ok (.iload 4, 2) := by decide +kernel
theorem dX6_flow_18 : decode cX6_flow 18 = .ok (.iconst 1, 1) := by decide +kernel
theorem dX6_flow_19 : decode cX6_flow 19 = .ok (.if_icmp .ne 7, 3) := by decide +kernel
theorem dX6_flow_26 : decode cX6_flow 26 = .ok (.iconst 1, 1) := by decide +kernel
theorem dX6_flow_27 : decode cX6_flow 27 = .ok (.putfield 35, 3) := by decide +kernel
theorem dX6_flow_30 : decode cX6_flow 30 = .ok (.iconst 0, 1) := by decide +kernel
theorem dX6_flow_31 : decode cX6_flow 31 = .ok (.istore 5, 2) := by decide +kernel
theorem dX6_flow_33 : decode cX6_flow 33 = .ok (.iconst 0, 1) := by decide +kernel
theorem dX6_flow_34 : decode cX6_flow 34 = .ok (.istore 6, 2) := by decide +kernel
theorem dX6_flow_36 : decode cX6_flow 36 = .ok (.iload 6, 2) := by decide +kernel
theorem dX6_flow_38 : decode cX6_flow 38 = .ok (.aload_n 0, 1) := by decide +kernel
theorem dX6_flow_39 : decode cX6_flow 39 = .ok (.getfield 21, 3) := by decide +kernel
theorem dX6_flow_42 : decode cX6_flow 42 = .ok (.getfield 38, 3) := by decide +kernel
theorem dX6_flow_45 : decode cX6_flow 45 = .ok (.if_icmp .ge 41, 3) := by decide +kernel
theorem dX6_flow_86 : decode cX6_flow 86 = .ok (.iload 5, 2) := by decide +kernel
theorem dX6_flow_88 : decode cX6_flow 88 = .ok (.ireturn, 1) := by decide +kernel
theorem dX6_flow_22 : decode cX6_flow 22 = .ok (.iconst 2, 1) := by decide +kernel
theorem dX6_flow_23 : decode cX6_flow 23 = .ok (.goto 4, 3) := by decide +kernel
theorem dX9_level_35 : decode cX9_level 35 = .ok (.ifCond .ne 7, 3) := by decide +kernel
theorem dX9_level_38 : decode cX9_level 38 = .ok (.ldc2_w 294, 3) := by decide +kernel
theorem dX9_level_41 : decode cX9_level 41 = .ok (.lreturn, 1) := by decide +kernel
theorem dX9_share_0 : decode cX9_share 0 = .ok (.aload_n 0, 1) := by decide +kernel
theorem dX9_share_1 : decode cX9_share 1 = .ok (.getfield 12, 3) := by decide +kernel
theorem dX9_share_4 : decode cX9_share 4 = .ok (.iload_n 1, 1) := by decide +kernel
theorem dX9_share_5 : decode cX9_share 5 = .ok (.invokevirtual 96, 3) := by decide +kernel
theorem dX9_share_8 : decode cX9_share 8 = .ok (.astore 5, 2) := by decide +kernel
theorem dX9_share_10 : decode cX9_share 10 = .ok (.aload 5, 2) := by decide +kernel
theorem dX9_share_12 : decode cX9_share 12 = .ok (.ifnull 13, 3) := by decide +kernel
theorem dX9_share_25 : decode cX9_share 25 = .ok (.ldc2_w 288, 3) := by decide +kernel
theorem dX9_share_28 : decode cX9_share 28 = .ok (.lreturn, 1) := by decide +kernel
theorem dX9_undo_0 : decode cX9_undo 0 = .ok (.aload_n 0, 1) := by decide +kernel
theorem dX9_undo_1 : decode cX9_undo 1 = .ok (.getfield 19, 3) := by decide +kernel
theorem dX9_undo_4 : decode cX9_undo 4 = .ok (.getfield 304, 3) := by decide +kernel
theorem dX9_undo_7 : decode cX9_undo 7 = .ok (.ifCond .ne 6, 3) := by decide +kernel
theorem dX9_undo_10 : decode cX9_undo 10 = .ok (.bipush (-4), 2) := by decide +kernel
theorem dX9_undo_12 : decode cX9_undo 12 = .ok (.ireturn, 1) := by decide +kernel
theorem dX9_count_0 : decode cX9_count 0 = .ok (.iload_n 1, 1) := by decide +kernel
theorem dX9_count_1 : decode cX9_count 1 = .ok (.tableswitch 87 0 5 #[39, 47, 55, 63, 71, 79], 39) := by decide +kernel
theorem dX9_count_40 : decode cX9_count 40 = .ok (.aload_n 0, 1) := by decide +kernel
theorem dX9_count_41 : decode cX9_count 41 = .ok (.getfield 12, 3) := by decide +kernel
theorem dX9_count_44 : decode cX9_count 44 = .ok (.getfield 76, 3) := by decide +kernel
theorem dX9_count_47 : decode cX9_count 47 = .ok (.ireturn, 1) := by decide +kernel
theorem dX9_count_48 : decode cX9_count 48 = .ok (.aload_n 0, 1) := by decide +kernel
theorem dX9_count_49 : decode cX9_count 49 = .ok (.getfield 12, 3) := by decide +kernel
theorem dX9_count_52 : decode cX9_count 52 = .ok (.getfield 162, 3) := by decide +kernel
theorem dX9_count_55 : decode cX9_count 55 = .ok (.ireturn, 1) := by decide +kernel
theorem dX9_count_56 : decode cX9_count 56 = .ok (.aload_n 0, 1) := by decide +kernel
theorem dX9_count_57 : decode cX9_count 57 = .ok (.getfield 12, 3) := by decide +kernel
theorem dX9_count_60 : decode cX9_count 60 = .ok (.invokevirtual 308, 3) := by decide +kernel
theorem dX8_openRoads_0 : decode cX8_openRoads 0 = .ok (.iconst 0, 1) := by decide +kernel
theorem dX8_openRoads_1 : decode cX8_openRoads 1 = .ok (.istore_n 1, 1) := by decide +kernel
theorem dX8_openRoads_2 : decode cX8_openRoads 2 = .ok (.iconst 0, 1) := by decide +kernel
theorem dX8_openRoads_3 : decode cX8_openRoads 3 = .ok (.istore_n 2, 1) := by decide +kernel
theorem dX8_openRoads_4 : decode cX8_openRoads 4 = .ok (.iload_n 2, 1) := by decide +kernel
theorem dX8_openRoads_5 : decode cX8_openRoads 5 = .ok (.aload_n 0, 1) := by decide +kernel
theorem dX8_openRoads_6 : decode cX8_openRoads 6 = .ok (.getfield 25, 3) := by decide +kernel
theorem dX8_openRoads_9 : decode cX8_openRoads 9 = .ok (.if_icmp .ge 29, 3) := by decide +kernel
theorem dX8_openRoads_38 : decode cX8_openRoads 38 = .ok (.iload_n 1, 1) := by decide +kernel
theorem dX8_openRoads_39 : decode cX8_openRoads 39 = .ok (.ireturn, 1) := by decide +kernel
theorem dX9_count_63 : decode cX9_count 63 = .ok (.ireturn, 1) := by decide +kernel
theorem dX9_count_64 : decode cX9_count 64 = .ok (.aload_n 0, 1) := by decide +kernel
theorem dX9_count_65 : decode cX9_count 65 = .ok (.getfield 12, 3) := by decide +kernel
theorem dX9_count_68 : decode cX9_count 68 = .ok (.invokevirtual 311, 3) := by decide +kernel
theorem dX8_tables_0 : decode cX8_tables 0 = .ok (.iconst 0, 1) := by decide +kernel
theorem dX8_tables_1 : decode cX8_tables 1 = .ok (.istore_n 1, 1) := by decide +kernel
theorem dX8_tables_2 : decode cX8_tables 2 = .ok (.iconst 0, 1) := by decide +kernel
theorem dX8_tables_3 : decode cX8_tables 3 = .ok (.istore_n 2, 1) := by decide +kernel
theorem dX8_tables_4 : decode cX8_tables 4 = .ok (.iload_n 2, 1) := by decide +kernel
theorem dX8_tables_5 : decode cX8_tables 5 = .ok (.aload_n 0, 1) := by decide +kernel
theorem dX8_tables_6 : decode cX8_tables 6 = .ok (.getfield 25, 3) := by decide +kernel
theorem dX8_tables_9 : decode cX8_tables 9 = .ok (.if_icmp .ge 30, 3) := by decide +kernel
theorem dX8_tables_39 : decode cX8_tables 39 = .ok (.iload_n 1, 1) := by decide +kernel
theorem dX8_tables_40 : decode cX8_tables 40 = .ok (.ireturn, 1) := by decide +kernel
theorem dX9_count_71 : decode cX9_count 71 = .ok (.ireturn, 1) := by decide +kernel
theorem dX9_count_72 : decode cX9_count 72 = .ok (.aload_n 0, 1) := by decide +kernel
theorem dX9_count_73 : decode cX9_count 73 = .ok (.getfield 12, 3) := by decide +kernel
theorem dX9_count_76 : decode cX9_count 76 = .ok (.invokevirtual 314, 3) := by decide +kernel
theorem dX9_count_79 : decode cX9_count 79 = .ok (.ireturn, 1) := by decide +kernel
theorem dX9_count_80 : decode cX9_count 80 = .ok (.aload_n 0, 1) := by decide +kernel
theorem dX9_count_81 : decode cX9_count 81 = .ok (.getfield 19, 3) := by decide +kernel
theorem dX9_count_84 : decode cX9_count 84 = .ok (.getfield 304, 3) := by decide +kernel
theorem dX9_count_87 : decode cX9_count 87 = .ok (.ireturn, 1) := by decide +kernel
theorem dX9_count_88 : decode cX9_count 88 = .ok (.bipush (-3), 2) := by decide +kernel
theorem dX9_count_90 : decode cX9_count 90 = .ok (.ireturn, 1) := by decide +kernel
theorem dX10_road_0 : decode cX10_road 0 = .ok (.aload_n 0, 1) := by decide +kernel
theorem dX10_road_1 : decode cX10_road 1 = .ok (.iconst 0, 1) := by decide +kernel
theorem dX10_road_2 : decode cX10_road 2 = .ok (.putfield 79, 3) := by decide +kernel
theorem dX10_road_5 : decode cX10_road 5 = .ok (.iload_n 1, 1) := by decide +kernel
theorem dX10_road_6 : decode cX10_road 6 = .ok (.iconst 0, 1) := by decide +kernel
theorem dX10_road_7 : decode cX10_road 7 = .ok (.iconst 3, 1) := by decide +kernel
theorem dX10_road_8 : decode cX10_road 8 = .ok (.invokestatic 105, 3) := by decide +kernel
theorem dX10_in_0 : decode cX10_in 0 = .ok (.iload_n 0, 1) := by decide +kernel
theorem dX10_in_1 : decode cX10_in 1 = .ok (.iload_n 1, 1) := by decide +kernel
theorem dX10_in_2 : decode cX10_in 2 = .ok (.if_icmp .lt 12, 3) := by decide +kernel
theorem dX10_in_14 : decode cX10_in 14 = .ok (.iconst 0, 1) := by decide +kernel
theorem dX10_in_15 : decode cX10_in 15 = .ok (.ireturn, 1) := by decide +kernel
theorem dX10_in_5 : decode cX10_in 5 = .ok (.iload_n 0, 1) := by decide +kernel
theorem dX10_in_6 : decode cX10_in 6 = .ok (.iload_n 2, 1) := by decide +kernel
theorem dX10_in_7 : decode cX10_in 7 = .ok (.if_icmp .gt 7, 3) := by decide +kernel
theorem dX10_in_10 : decode cX10_in 10 = .ok (.iconst 1, 1) := by decide +kernel
theorem dX10_in_11 : decode cX10_in 11 = .ok (.goto 4, 3) := by decide +kernel
theorem dX10_road_11 : decode cX10_road 11 = .ok (.ifCond .eq 45, 3) := by decide +kernel
theorem dX10_road_56 : decode cX10_road 56 = .ok (.bipush (-3), 2) := by decide +kernel
theorem dX10_road_58 : decode cX10_road 58 = .ok (.ireturn, 1) := by decide +kernel
theorem dX10_road_14 : decode cX10_road 14 = .ok (.iload_n 2, 1) := by decide +kernel
theorem dX10_road_15 : decode cX10_road 15 = .ok (.invokestatic 109, 3) := by decide +kernel
theorem dX10_isPlace_0 : decode cX10_isPlace 0 = .ok (.iload_n 0, 1) := by decide +kernel
theorem dX10_isPlace_1 : decode cX10_isPlace 1 = .ok (.iconst 0, 1) := by decide +kernel
theorem dX10_isPlace_2 : decode cX10_isPlace 2 = .ok (.iconst 5, 1) := by decide +kernel
theorem dX10_isPlace_3 : decode cX10_isPlace 3 = .ok (.invokestatic 105, 3) := by decide +kernel
theorem dX10_isPlace_6 : decode cX10_isPlace 6 = .ok (.ireturn, 1) := by decide +kernel
theorem dX10_road_18 : decode cX10_road 18 = .ok (.ifCond .eq 38, 3) := by decide +kernel
theorem dX10_road_21 : decode cX10_road 21 = .ok (.iload_n 3, 1) := by decide +kernel
theorem dX10_road_22 : decode cX10_road 22 = .ok (.invokestatic 109, 3) := by decide +kernel
theorem dX10_road_25 : decode cX10_road 25 = .ok (.ifCond .eq 31, 3) := by decide +kernel
theorem dX10_road_28 : decode cX10_road 28 = .ok (.iload_n 2, 1) := by decide +kernel
theorem dX10_road_29 : decode cX10_road 29 = .ok (.iload_n 3, 1) := by decide +kernel
theorem dX10_road_30 : decode cX10_road 30 = .ok (.if_icmp .eq 26, 3) := by decide +kernel
theorem dX10_road_33 : decode cX10_road 33 = .ok (.iload 4, 2) := by decide +kernel
theorem dX10_road_35 : decode cX10_road 35 = .ok (.iconst 0, 1) := by decide +kernel
theorem dX10_road_36 : decode cX10_road 36 = .ok (.bipush 12, 2) := by decide +kernel
theorem dX10_road_38 : decode cX10_road 38 = .ok (.invokestatic 105, 3) := by decide +kernel
theorem dX10_road_41 : decode cX10_road 41 = .ok (.ifCond .eq 15, 3) := by decide +kernel
theorem dX10_road_44 : decode cX10_road 44 = .ok (.iload 5, 2) := by decide +kernel
theorem dX10_road_46 : decode cX10_road 46 = .ok (.iconst 0, 1) := by decide +kernel
theorem dX10_road_47 : decode cX10_road 47 = .ok (.sipush 1000, 3) := by decide +kernel
theorem dX10_road_50 : decode cX10_road 50 = .ok (.invokestatic 105, 3) := by decide +kernel
theorem dX10_road_53 : decode cX10_road 53 = .ok (.ifCond .ne 6, 3) := by decide +kernel
theorem dX10_road_59 : decode cX10_road 59 = .ok (.aload_n 0, 1) := by decide +kernel
theorem dX10_road_60 : decode cX10_road 60 = .ok (.getfield 89, 3) := by decide +kernel
theorem dX10_road_63 : decode cX10_road 63 = .ok (.bipush 10, 2) := by decide +kernel
theorem dX10_road_65 : decode cX10_road 65 = .ok (.if_icmp .ne 6, 3) := by decide +kernel
theorem dX10_road_71 : decode cX10_road 71 = .ok (.aload_n 0, 1) := by decide +kernel
theorem dX10_road_72 : decode cX10_road 72 = .ok (.invokevirtual 113, 3) := by decide +kernel
theorem dX10_keep_0 : decode cX10_keep 0 = .ok (.aload_n 0, 1) := by decide +kernel
theorem dX10_keep_1 : decode cX10_keep 1 = .ok (.sipush 167, 3) := by decide +kernel
theorem dX10_keep_4 : decode cX10_keep 4 = .ok (.aload_n 0, 1) := by decide +kernel
theorem dX10_keep_5 : decode cX10_keep 5 = .ok (.getfield 86, 3) := by decide +kernel
theorem dX10_keep_8 : decode cX10_keep 8 = .ok (.imul, 1) := by decide +kernel
theorem dX10_keep_9 : decode cX10_keep 9 = .ok (.putfield 83, 3) := by decide +kernel
theorem dX10_keep_12 : decode cX10_keep 12 = .ok (.aload_n 0, 1) := by decide +kernel
theorem dX10_keep_13 : decode cX10_keep 13 = .ok (.getfield 49, 3) := by decide +kernel
theorem dX10_keep_16 : decode cX10_keep 16 = .ok (.aload_n 0, 1) := by decide +kernel
theorem dX10_keep_17 : decode cX10_keep 17 = .ok (.getfield 83, 3) := by decide +kernel
theorem dX10_keep_20 : decode cX10_keep 20 = .ok (.aload_n 0, 1) := by decide +kernel
theorem dX10_keep_21 : decode cX10_keep 21 = .ok (.getfield 89, 3) := by decide +kernel
theorem dX10_keep_24 : decode cX10_keep 24 = .ok (.iastore, 1) := by decide +kernel
theorem dX10_keep_25 : decode cX10_keep 25 = .ok (.aload_n 0, 1) := by decide +kernel
theorem dX10_keep_26 : decode cX10_keep 26 = .ok (.getfield 49, 3) := by decide +kernel
theorem dX10_keep_29 : decode cX10_keep 29 = .ok (.aload_n 0, 1) := by decide +kernel
theorem dX10_keep_30 : decode cX10_keep 30 = .ok (.getfield 83, 3) := by decide +kernel
theorem dX10_keep_33 : decode cX10_keep 33 = .ok (.iconst 1, 1) := by decide +kernel
theorem dX10_keep_34 : decode cX10_keep 34 = .ok (.iadd, 1) := by decide +kernel
theorem dX10_keep_35 : decode cX10_keep 35 = .ok (.aload_n 0, 1) := by decide +kernel
theorem dX10_keep_36 : decode cX10_keep 36 = .ok (.getfield 92, 3) := by decide +kernel
theorem dX10_keep_39 : decode cX10_keep 39 = .ok (.iastore, 1) := by decide +kernel
theorem dX10_keep_40 : decode cX10_keep 40 = .ok (.aload_n 0, 1) := by decide +kernel
theorem dX10_keep_41 : decode cX10_keep 41 = .ok (.dup, 1) := by decide +kernel
theorem dX10_keep_42 : decode cX10_keep 42 = .ok (.getfield 83, 3) := by decide +kernel
theorem dX10_keep_45 : decode cX10_keep 45 = .ok (.iconst 2, 1) := by decide +kernel
theorem dX10_keep_46 : decode cX10_keep 46 = .ok (.iadd, 1) := by decide +kernel
theorem dX10_keep_47 : decode cX10_keep 47 = .ok (.putfield 83, 3) := by decide +kernel
theorem dX10_keep_50 : decode cX10_keep 50 = .ok (.aload_n 0, 1) := by decide +kernel
theorem dX10_keep_51 : decode cX10_keep 51 = .ok (.aload_n 0, 1) := by decide +kernel
theorem dX10_keep_52 : decode cX10_keep 52 = .ok (.getfield 7, 3) := by decide +kernel
theorem dX10_keep_55 : decode cX10_keep 55 = .ok (.bipush 10, 2) := by decide +kernel
theorem dX10_keep_57 : decode cX10_keep 57 = .ok (.invokevirtual 95, 3) := by decide +kernel
theorem dX10_write_0 : decode cX10_write 0 = .ok (.iconst 0, 1) := by decide +kernel
theorem dX10_write_1 : decode cX10_write 1 = .ok (.istore_n 3, 1) := by decide +kernel
theorem dX10_write_2 : decode cX10_write 2 = .ok (.iload_n 3, 1) := by decide +kernel
theorem dX10_write_3 : decode cX10_write 3 = .ok (.iload_n 2, 1) := by decide +kernel
theorem dX10_write_4 : decode cX10_write 4 = .ok (.if_icmp .ge 31, 3) := by decide +kernel
theorem dX10_write_7 : decode cX10_write 7 = .ok (.aload_n 0, 1) := by decide +kernel
theorem dX10_write_8 : decode cX10_write 8 = .ok (.getfield 49, 3) := by decide +kernel
theorem dX10_write_11 : decode cX10_write 11 = .ok (.aload_n 0, 1) := by decide +kernel
theorem dX10_write_12 : decode cX10_write 12 = .ok (.getfield 83, 3) := by decide +kernel
theorem dX10_write_15 : decode cX10_write 15 = .ok (.aload_n 1, 1) := by decide +kernel
theorem dX10_write_16 : decode cX10_write 16 = .ok (.iload_n 3, 1) := by decide +kernel
theorem dX10_write_17 : decode cX10_write 17 = .ok (.iaload, 1) := by decide +kernel
theorem dX10_write_18 : decode cX10_write 18 = .ok (.iastore, 1) := by decide +kernel
theorem dX10_write_19 : decode cX10_write 19 = .ok (.aload_n 0, 1) := by decide +kernel
theorem dX10_write_20 : decode cX10_write 20 = .ok (.dup, 1) := by decide +kernel
theorem dX10_write_21 : decode cX10_write 21 = .ok (.getfield 83, 3) := by decide +kernel
theorem dX10_write_24 : decode cX10_write 24 = .ok (.iconst 1, 1) := by decide +kernel
theorem dX10_write_25 : decode cX10_write 25 = .ok (.iadd, 1) := by decide +kernel
theorem dX10_write_26 : decode cX10_write 26 = .ok (.putfield 83, 3) := by decide +kernel
theorem dX10_write_29 : decode cX10_write 29 = .ok (.iinc 3 1, 3) := by decide +kernel
theorem dX10_write_32 : decode cX10_write 32 = .ok (.goto (-30), 3) := by decide +kernel
theorem dX10_write_35 : decode cX10_write 35 = .ok (.return_, 1) := by decide +kernel
theorem dX10_keep_60 : decode cX10_keep 60 = .ok (.aload_n 0, 1) := by decide +kernel
theorem dX10_keep_61 : decode cX10_keep 61 = .ok (.aload_n 0, 1) := by decide +kernel
theorem dX10_keep_62 : decode cX10_keep 62 = .ok (.getfield 13, 3) := by decide +kernel
theorem dX10_keep_65 : decode cX10_keep 65 = .ok (.bipush 10, 2) := by decide +kernel
theorem dX10_keep_67 : decode cX10_keep 67 = .ok (.invokevirtual 95, 3) := by decide +kernel
theorem dX10_keep_70 : decode cX10_keep 70 = .ok (.aload_n 0, 1) := by decide +kernel
theorem dX10_keep_71 : decode cX10_keep 71 = .ok (.aload_n 0, 1) := by decide +kernel
theorem dX10_keep_72 : decode cX10_keep 72 = .ok (.getfield 16, 3) := by decide +kernel
theorem dX10_keep_75 : decode cX10_keep 75 = .ok (.bipush 10, 2) := by decide +kernel
theorem dX10_keep_77 : decode cX10_keep 77 = .ok (.invokevirtual 95, 3) := by decide +kernel
theorem dX10_keep_80 : decode cX10_keep 80 = .ok (.aload_n 0, 1) := by decide +kernel
theorem dX10_keep_81 : decode cX10_keep 81 = .ok (.aload_n 0, 1) := by decide +kernel
theorem dX10_keep_82 : decode cX10_keep 82 = .ok (.getfield 19, 3) := by decide +kernel
theorem dX10_keep_85 : decode cX10_keep 85 = .ok (.bipush 10, 2) := by decide +kernel
theorem dX10_keep_87 : decode cX10_keep 87 = .ok (.invokevirtual 95, 3) := by decide +kernel
theorem dX10_keep_90 : decode cX10_keep 90 = .ok (.aload_n 0, 1) := by decide +kernel
theorem dX10_keep_91 : decode cX10_keep 91 = .ok (.aload_n 0, 1) := by decide +kernel
theorem dX10_keep_92 : decode cX10_keep 92 = .ok (.getfield 22, 3) := by decide +kernel
theorem dX10_keep_95 : decode cX10_keep 95 = .ok (.bipush 10, 2) := by decide +kernel
theorem dX10_keep_97 : decode cX10_keep 97 = .ok (.invokevirtual 95, 3) := by decide +kernel
theorem dX10_keep_100 : decode cX10_keep 100 = .ok (.aload_n 0, 1) := by decide +kernel
theorem dX10_keep_101 : decode cX10_keep 101 = .ok (.aload_n 0, 1) := by decide +kernel
theorem dX10_keep_102 : decode cX10_keep 102 = .ok (.getfield 25, 3) := by decide +kernel
theorem dX10_keep_105 : decode cX10_keep 105 = .ok (.bipush 10, 2) := by decide +kernel
theorem dX10_keep_107 : decode cX10_keep 107 = .ok (.invokevirtual 95, 3) := by decide +kernel
theorem dX10_keep_110 : decode cX10_keep 110 = .ok (.aload_n 0, 1) := by decide +kernel
theorem dX10_keep_111 : decode cX10_keep 111 = .ok (.aload_n 0, 1) := by decide +kernel
theorem dX10_keep_112 : decode cX10_keep 112 = .ok (.getfield 28, 3) := by decide +kernel
theorem dX10_keep_115 : decode cX10_keep 115 = .ok (.bipush 10, 2) := by decide +kernel
theorem dX10_keep_117 : decode cX10_keep 117 = .ok (.invokevirtual 95, 3) := by decide +kernel
theorem dX10_keep_120 : decode cX10_keep 120 = .ok (.aload_n 0, 1) := by decide +kernel
theorem dX10_keep_121 : decode cX10_keep 121 = .ok (.aload_n 0, 1) := by decide +kernel
theorem dX10_keep_122 : decode cX10_keep 122 = .ok (.getfield 31, 3) := by decide +kernel
theorem dX10_keep_125 : decode cX10_keep 125 = .ok (.bipush 10, 2) := by decide +kernel
theorem dX10_keep_127 : decode cX10_keep 127 = .ok (.invokevirtual 95, 3) := by decide +kernel
theorem dX10_keep_130 : decode cX10_keep 130 = .ok (.aload_n 0, 1) := by decide +kernel
theorem dX10_keep_131 : decode cX10_keep 131 = .ok (.aload_n 0, 1) := by decide +kernel
theorem dX10_keep_132 : decode cX10_keep 132 = .ok (.getfield 34, 3) := by decide +kernel
theorem dX10_keep_135 : decode cX10_keep 135 = .ok (.bipush 10, 2) := by decide +kernel
theorem dX10_keep_137 : decode cX10_keep 137 = .ok (.invokevirtual 95, 3) := by decide +kernel
theorem dX10_keep_140 : decode cX10_keep 140 = .ok (.aload_n 0, 1) := by decide +kernel
theorem dX10_keep_141 : decode cX10_keep 141 = .ok (.aload_n 0, 1) := by decide +kernel
theorem dX10_keep_142 : decode cX10_keep 142 = .ok (.getfield 37, 3) := by decide +kernel
theorem dX10_keep_145 : decode cX10_keep 145 = .ok (.bipush 60, 2) := by decide +kernel
theorem dX10_keep_147 : decode cX10_keep 147 = .ok (.invokevirtual 95, 3) := by decide +kernel
theorem dX10_keep_150 : decode cX10_keep 150 = .ok (.aload_n 0, 1) := by decide +kernel
theorem dX10_keep_151 : decode cX10_keep 151 = .ok (.aload_n 0, 1) := by decide +kernel
theorem dX10_keep_152 : decode cX10_keep 152 = .ok (.getfield 40, 3) := by decide +kernel
theorem dX10_keep_155 : decode cX10_keep 155 = .ok (.iconst 5, 1) := by decide +kernel
theorem dX10_keep_156 : decode cX10_keep 156 = .ok (.invokevirtual 95, 3) := by decide +kernel
theorem dX10_keep_159 : decode cX10_keep 159 = .ok (.aload_n 0, 1) := by decide +kernel
theorem dX10_keep_160 : decode cX10_keep 160 = .ok (.aload_n 0, 1) := by decide +kernel
theorem dX10_keep_161 : decode cX10_keep 161 = .ok (.getfield 43, 3) := by decide +kernel
theorem dX10_keep_164 : decode cX10_keep 164 = .ok (.iconst 5, 1) := by decide +kernel
theorem dX10_keep_165 : decode cX10_keep 165 = .ok (.invokevirtual 95, 3) := by decide +kernel
theorem dX10_keep_168 : decode cX10_keep 168 = .ok (.aload_n 0, 1) := by decide +kernel
theorem dX10_keep_169 : decode cX10_keep 169 = .ok (.aload_n 0, 1) := by decide +kernel
theorem dX10_keep_170 : decode cX10_keep 170 = .ok (.getfield 46, 3) := by decide +kernel
theorem dX10_keep_173 : decode cX10_keep 173 = .ok (.iconst 5, 1) := by decide +kernel
theorem dX10_keep_174 : decode cX10_keep 174 = .ok (.invokevirtual 95, 3) := by decide +kernel
theorem dX10_keep_177 : decode cX10_keep 177 = .ok (.aload_n 0, 1) := by decide +kernel
theorem dX10_keep_178 : decode cX10_keep 178 = .ok (.aload_n 0, 1) := by decide +kernel
theorem dX10_keep_179 : decode cX10_keep 179 = .ok (.getfield 86, 3) := by decide +kernel
theorem dX10_keep_182 : decode cX10_keep 182 = .ok (.iconst 1, 1) := by decide +kernel
theorem dX10_keep_183 : decode cX10_keep 183 = .ok (.iadd, 1) := by decide +kernel
theorem dX10_keep_184 : decode cX10_keep 184 = .ok (.bipush 8, 2) := by decide +kernel
theorem dX10_keep_186 : decode cX10_keep 186 = .ok (.irem, 1) := by decide +kernel
theorem dX10_keep_187 : decode cX10_keep 187 = .ok (.putfield 86, 3) := by decide +kernel
theorem dX10_keep_190 : decode cX10_keep 190 = .ok (.aload_n 0, 1) := by decide +kernel
theorem dX10_keep_191 : decode cX10_keep 191 = .ok (.aload_n 0, 1) := by decide +kernel
theorem dX10_keep_192 : decode cX10_keep 192 = .ok (.getfield 99, 3) := by decide +kernel
theorem dX10_keep_195 : decode cX10_keep 195 = .ok (.bipush 8, 2) := by decide +kernel
theorem dX10_keep_197 : decode cX10_keep 197 = .ok (.if_icmp .ge 12, 3) := by decide +kernel
theorem dX10_keep_200 : decode cX10_keep 200 = .ok (.aload_n 0, 1) := by decide +kernel
theorem dX10_keep_201 : decode cX10_keep 201 = .ok (.getfield 99, 3) := by decide +kernel
theorem dX10_keep_204 : decode cX10_keep 204 = .ok (.iconst 1, 1) := by decide +kernel
theorem dX10_keep_205 : decode cX10_keep 205 = .ok (.iadd, 1) := by decide +kernel
theorem dX10_keep_206 : decode cX10_keep 206 = .ok (.goto 5, 3) := by decide +kernel
theorem dX10_keep_211 : decode cX10_keep 211 = .ok (.putfield 99, 3) := by decide +kernel
theorem dX10_keep_214 : decode cX10_keep 214 = .ok (.return_, 1) := by decide +kernel
theorem dX10_road_75 : decode cX10_road 75 = .ok (.aload_n 0, 1) := by decide +kernel
theorem dX10_road_76 : decode cX10_road 76 = .ok (.getfield 7, 3) := by decide +kernel
theorem dX10_road_79 : decode cX10_road 79 = .ok (.aload_n 0, 1) := by decide +kernel
theorem dX10_road_80 : decode cX10_road 80 = .ok (.getfield 89, 3) := by decide +kernel
theorem dX10_road_83 : decode cX10_road 83 = .ok (.iload_n 1, 1) := by decide +kernel
theorem dX10_road_84 : decode cX10_road 84 = .ok (.iastore, 1) := by decide +kernel
theorem dX10_road_85 : decode cX10_road 85 = .ok (.aload_n 0, 1) := by decide +kernel
theorem dX10_road_86 : decode cX10_road 86 = .ok (.getfield 13, 3) := by decide +kernel
theorem dX10_road_89 : decode cX10_road 89 = .ok (.aload_n 0, 1) := by decide +kernel
theorem dX10_road_90 : decode cX10_road 90 = .ok (.getfield 89, 3) := by decide +kernel
theorem dX10_road_93 : decode cX10_road 93 = .ok (.iload_n 2, 1) := by decide +kernel
theorem dX10_road_94 : decode cX10_road 94 = .ok (.iastore, 1) := by decide +kernel
theorem dX10_road_95 : decode cX10_road 95 = .ok (.aload_n 0, 1) := by decide +kernel
theorem dX10_road_96 : decode cX10_road 96 = .ok (.getfield 16, 3) := by decide +kernel
theorem dX10_road_99 : decode cX10_road 99 = .ok (.aload_n 0, 1) := by decide +kernel
theorem dX10_road_100 : decode cX10_road 100 = .ok (.getfield 89, 3) := by decide +kernel
theorem dX10_road_103 : decode cX10_road 103 = .ok (.iload_n 3, 1) := by decide +kernel
theorem dX10_road_104 : decode cX10_road 104 = .ok (.iastore, 1) := by decide +kernel
theorem dX10_road_105 : decode cX10_road 105 = .ok (.aload_n 0, 1) := by decide +kernel
theorem dX10_road_106 : decode cX10_road 106 = .ok (.getfield 19, 3) := by decide +kernel
theorem dX10_road_109 : decode cX10_road 109 = .ok (.aload_n 0, 1) := by decide +kernel
theorem dX10_road_110 : decode cX10_road 110 = .ok (.getfield 89, 3) := by decide +kernel
theorem dX10_road_113 : decode cX10_road 113 = .ok (.iload 4, 2) := by decide +kernel
theorem dX10_road_115 : decode cX10_road 115 = .ok (.iastore, 1) := by decide +kernel
theorem dX10_road_116 : decode cX10_road 116 = .ok (.aload_n 0, 1) := by decide +kernel
theorem dX10_road_117 : decode cX10_road 117 = .ok (.getfield 22, 3) := by decide +kernel
theorem dX10_road_120 : decode cX10_road 120 = .ok (.aload_n 0, 1) := by decide +kernel
theorem dX10_road_121 : decode cX10_road 121 = .ok (.getfield 89, 3) := by decide +kernel
theorem dX10_road_124 : decode cX10_road 124 = .ok (.iload 5, 2) := by decide +kernel
theorem dX10_road_126 : decode cX10_road 126 = .ok (.iastore, 1) := by decide +kernel
theorem dX10_road_127 : decode cX10_road 127 = .ok (.aload_n 0, 1) := by decide +kernel
theorem dX10_road_128 : decode cX10_road 128 = .ok (.getfield 25, 3) := by decide +kernel
theorem dX10_road_131 : decode cX10_road 131 = .ok (.aload_n 0, 1) := by decide +kernel
theorem dX10_road_132 : decode cX10_road 132 = .ok (.getfield 89, 3) := by decide +kernel
theorem dX10_road_135 : decode cX10_road 135 = .ok (.iconst 0, 1) := by decide +kernel
theorem dX10_road_136 : decode cX10_road 136 = .ok (.iastore, 1) := by decide +kernel
theorem dX10_road_137 : decode cX10_road 137 = .ok (.aload_n 0, 1) := by decide +kernel
theorem dX10_road_138 : decode cX10_road 138 = .ok (.getfield 28, 3) := by decide +kernel
theorem dX10_road_141 : decode cX10_road 141 = .ok (.aload_n 0, 1) := by decide +kernel
theorem dX10_road_142 : decode cX10_road 142 = .ok (.getfield 89, 3) := by decide +kernel
theorem dX10_road_145 : decode cX10_road 145 = .ok (.iconst 1, 1) := by decide +kernel
theorem dX10_road_146 : decode cX10_road 146 = .ok (.iastore, 1) := by decide +kernel
theorem dX10_road_147 : decode cX10_road 147 = .ok (.aload_n 0, 1) := by decide +kernel
theorem dX10_road_148 : decode cX10_road 148 = .ok (.getfield 31, 3) := by decide +kernel
theorem dX10_road_151 : decode cX10_road 151 = .ok (.aload_n 0, 1) := by decide +kernel
theorem dX10_road_152 : decode cX10_road 152 = .ok (.getfield 89, 3) := by decide +kernel
theorem dX10_road_155 : decode cX10_road 155 = .ok (.iconst (-1), 1) := by decide +kernel
theorem dX10_road_156 : decode cX10_road 156 = .ok (.iastore, 1) := by decide +kernel
theorem dX10_road_157 : decode cX10_road 157 = .ok (.aload_n 0, 1) := by decide +kernel
theorem dX10_road_158 : decode cX10_road 158 = .ok (.getfield 34, 3) := by decide +kernel
theorem dX10_road_161 : decode cX10_road 161 = .ok (.aload_n 0, 1) := by decide +kernel
theorem dX10_road_162 : decode cX10_road 162 = .ok (.getfield 89, 3) := by decide +kernel
theorem dX10_road_165 : decode cX10_road 165 = .ok (.iconst 0, 1) := by decide +kernel
theorem dX10_road_166 : decode cX10_road 166 = .ok (.iastore, 1) := by decide +kernel
theorem dX10_road_167 : decode cX10_road 167 = .ok (.aload_n 0, 1) := by decide +kernel
theorem dX10_road_168 : decode cX10_road 168 = .ok (.dup, 1) := by decide +kernel
theorem dX10_road_169 : decode cX10_road 169 = .ok (.getfield 89, 3) := by decide +kernel
theorem dX10_road_172 : decode cX10_road 172 = .ok (.iconst 1, 1) := by decide +kernel
theorem dX10_road_173 : decode cX10_road 173 = .ok (.iadd, 1) := by decide +kernel
theorem dX10_road_174 : decode cX10_road 174 = .ok (.putfield 89, 3) := by decide +kernel
theorem dX10_road_177 : decode cX10_road 177 = .ok (.aload_n 0, 1) := by decide +kernel
theorem dX10_road_178 : decode cX10_road 178 = .ok (.invokevirtual 116, 3) := by decide +kernel
theorem dX10_forgetChoices_0 : decode cX10_forgetChoices 0 = .ok (.iconst 0, 1) := by decide +kernel
theorem dX10_forgetChoices_1 : decode cX10_forgetChoices 1 = .ok (.istore_n 1, 1) := by decide +kernel
theorem dX10_forgetChoices_2 : decode cX10_forgetChoices 2 = .ok (.iload_n 1, 1) := by decide +kernel
theorem dX10_forgetChoices_3 : decode cX10_forgetChoices 3 = .ok (.iconst 5, 1) := by decide +kernel
theorem dX10_forgetChoices_4 : decode cX10_forgetChoices 4 = .ok (.if_icmp .ge 16, 3) := by decide +kernel
theorem dX10_forgetChoices_7 : decode cX10_forgetChoices 7 = .ok (.aload_n 0, 1) := by decide +kernel
theorem dX10_forgetChoices_8 : decode cX10_forgetChoices 8 = .ok (.getfield 46, 3) := by decide +kernel
theorem dX10_forgetChoices_11 : decode cX10_forgetChoices 11 = .ok (.iload_n 1, 1) := by decide +kernel
theorem dX10_forgetChoices_12 : decode cX10_forgetChoices 12 = .ok (.iconst (-1), 1) := by decide +kernel
theorem dX10_forgetChoices_13 : decode cX10_forgetChoices 13 = .ok (.iastore, 1) := by decide +kernel
theorem dX10_forgetChoices_14 : decode cX10_forgetChoices 14 = .ok (.iinc 1 1, 3) := by decide +kernel
theorem dX10_forgetChoices_17 : decode cX10_forgetChoices 17 = .ok (.goto (-15), 3) := by decide +kernel
theorem dX10_forgetChoices_20 : decode cX10_forgetChoices 20 = .ok (.return_, 1) := by decide +kernel
theorem dX10_road_181 : decode cX10_road 181 = .ok (.aload_n 0, 1) := by decide +kernel
theorem dX10_road_182 : decode cX10_road 182 = .ok (.getfield 89, 3) := by decide +kernel
theorem dX10_road_185 : decode cX10_road 185 = .ok (.iconst 1, 1) := by decide +kernel
theorem dX10_road_186 : decode cX10_road 186 = .ok (.isub, 1) := by decide +kernel
theorem dX10_road_187 : decode cX10_road 187 = .ok (.ireturn, 1) := by decide +kernel
theorem dX10_open_0 : decode cX10_open 0 = .ok (.aload_n 0, 1) := by decide +kernel
theorem dX10_open_1 : decode cX10_open 1 = .ok (.iconst 0, 1) := by decide +kernel
theorem dX10_open_2 : decode cX10_open 2 = .ok (.putfield 79, 3) := by decide +kernel
theorem dX10_open_5 : decode cX10_open 5 = .ok (.aload_n 0, 1) := by decide +kernel
theorem dX10_open_6 : decode cX10_open 6 = .ok (.iload_n 1, 1) := by decide +kernel
theorem dX10_open_7 : decode cX10_open 7 = .ok (.invokevirtual 119, 3) := by decide +kernel
theorem dX10_isRoad_0 : decode cX10_isRoad 0 = .ok (.iload_n 1, 1) := by decide +kernel
theorem dX10_isRoad_1 : decode cX10_isRoad 1 = .ok (.iconst 0, 1) := by decide +kernel
theorem dX10_isRoad_2 : decode cX10_isRoad 2 = .ok (.aload_n 0, 1) := by decide +kernel
theorem dX10_isRoad_3 : decode cX10_isRoad 3 = .ok (.getfield 89, 3) := by decide +kernel
theorem dX10_isRoad_6 : decode cX10_isRoad 6 = .ok (.iconst 1, 1) := by decide +kernel
theorem dX10_isRoad_7 : decode cX10_isRoad 7 = .ok (.isub, 1) := by decide +kernel
theorem dX10_isRoad_8 : decode cX10_isRoad 8 = .ok (.invokestatic 105, 3) := by decide +kernel
theorem dX10_isRoad_11 : decode cX10_isRoad 11 = .ok (.ireturn, 1) := by decide +kernel
theorem dX10_open_10 : decode cX10_open 10 = .ok (.ifCond .eq 12, 3) := by decide +kernel
theorem dX10_open_22 : decode cX10_open 22 = .ok (.bipush (-3), 2) := by decide +kernel
theorem dX10_open_24 : decode cX10_open 24 = .ok (.ireturn, 1) := by decide +kernel
theorem dX10_table_0 : decode cX10_table 0 = .ok (.aload_n 0, 1) := by decide +kernel
theorem dX10_table_1 : decode cX10_table 1 = .ok (.iconst 0, 1) := by decide +kernel
theorem dX10_table_2 : decode cX10_table 2 = .ok (.putfield 79, 3) := by decide +kernel
theorem dX10_table_5 : decode cX10_table 5 = .ok (.aload_n 0, 1) := by decide +kernel
theorem dX10_table_6 : decode cX10_table 6 = .ok (.iload_n 1, 1) := by decide +kernel
theorem dX10_table_7 : decode cX10_table 7 = .ok (.invokevirtual 119, 3) := by decide +kernel
theorem dX10_table_10 : decode cX10_table 10 = .ok (.ifCond .eq 22, 3) := by decide +kernel
theorem dX10_table_32 : decode cX10_table 32 = .ok (.bipush (-3), 2) := by decide +kernel
theorem dX10_table_34 : decode cX10_table 34 = .ok (.ireturn, 1) := by decide +kernel
theorem dX10_enter_0 : decode cX10_enter 0 = .ok (.aload_n 0, 1) := by decide +kernel
theorem dX10_enter_1 : decode cX10_enter 1 = .ok (.iconst 0, 1) := by decide +kernel
theorem dX10_enter_2 : decode cX10_enter 2 = .ok (.putfield 79, 3) := by decide +kernel
theorem dX10_enter_5 : decode cX10_enter 5 = .ok (.aload_n 0, 1) := by decide +kernel
theorem dX10_enter_6 : decode cX10_enter 6 = .ok (.iload_n 1, 1) := by decide +kernel
theorem dX10_enter_7 : decode cX10_enter 7 = .ok (.invokevirtual 119, 3) := by decide +kernel
theorem dX10_enter_10 : decode cX10_enter 10 = .ok (.ifCond .ne 6, 3) := by decide +kernel
theorem dX10_enter_13 : decode cX10_enter 13 = .ok (.bipush (-3), 2) := by decide +kernel
theorem dX10_enter_15 : decode cX10_enter 15 = .ok (.ireturn, 1) := by decide +kernel
theorem dX10_copy_0 : decode cX10_copy 0 = .ok (.aload_n 0, 1) := by decide +kernel
theorem dX10_copy_1 : decode cX10_copy 1 = .ok (.iconst 0, 1) := by decide +kernel
theorem dX10_copy_2 : decode cX10_copy 2 = .ok (.putfield 79, 3) := by decide +kernel
theorem dX10_copy_5 : decode cX10_copy 5 = .ok (.aload_n 0, 1) := by decide +kernel
theorem dX10_copy_6 : decode cX10_copy 6 = .ok (.iload_n 1, 1) := by decide +kernel
theorem dX10_copy_7 : decode cX10_copy 7 = .ok (.invokevirtual 119, 3) := by decide +kernel
theorem dX10_copy_10 : decode cX10_copy 10 = .ok (.ifCond .eq 11, 3) := by decide +kernel
theorem dX10_copy_21 : decode cX10_copy 21 = .ok (.bipush (-3), 2) := by decide +kernel
theorem dX10_copy_23 : decode cX10_copy 23 = .ok (.ireturn, 1) := by decide +kernel
theorem dX10_toll_0 : decode cX10_toll 0 = .ok (.aload_n 0, 1) := by decide +kernel
theorem dX10_toll_1 : decode cX10_toll 1 = .ok (.iconst 0, 1) := by decide +kernel
theorem dX10_toll_2 : decode cX10_toll 2 = .ok (.putfield 79, 3) := by decide +kernel
theorem dX10_toll_5 : decode cX10_toll 5 = .ok (.aload_n 0, 1) := by decide +kernel
theorem dX10_toll_6 : decode cX10_toll 6 = .ok (.iload_n 1, 1) := by decide +kernel
theorem dX10_toll_7 : decode cX10_toll 7 = .ok (.invokevirtual 119, 3) := by decide +kernel
theorem dX10_toll_10 : decode cX10_toll 10 = .ok (.ifCond .eq 13, 3) := by decide +kernel
theorem dX10_toll_23 : decode cX10_toll 23 = .ok (.bipush (-3), 2) := by decide +kernel
theorem dX10_toll_25 : decode cX10_toll 25 = .ok (.ireturn, 1) := by decide +kernel
theorem dX10_about_0 : decode cX10_about 0 = .ok (.aload_n 0, 1) := by decide +kernel
theorem dX10_about_1 : decode cX10_about 1 = .ok (.iconst 0, 1) := by decide +kernel
theorem dX10_about_2 : decode cX10_about 2 = .ok (.putfield 79, 3) := by decide +kernel
theorem dX10_about_5 : decode cX10_about 5 = .ok (.aload_n 0, 1) := by decide +kernel
theorem dX10_about_6 : decode cX10_about 6 = .ok (.iload_n 1, 1) := by decide +kernel
theorem dX10_about_7 : decode cX10_about 7 = .ok (.invokevirtual 119, 3) := by decide +kernel
theorem dX10_about_10 : decode cX10_about 10 = .ok (.ifCond .ne 6, 3) := by decide +kernel
theorem dX10_about_13 : decode cX10_about 13 = .ok (.bipush (-3), 2) := by decide +kernel
theorem dX10_about_15 : decode cX10_about 15 = .ok (.ireturn, 1) := by decide +kernel
theorem dX10_isOf_0 : decode cX10_isOf 0 = .ok (.aload_n 0, 1) := by decide +kernel
theorem dX10_isOf_1 : decode cX10_isOf 1 = .ok (.iconst 0, 1) := by decide +kernel
theorem dX10_isOf_2 : decode cX10_isOf 2 = .ok (.putfield 79, 3) := by decide +kernel
theorem dX10_isOf_5 : decode cX10_isOf 5 = .ok (.aload_n 0, 1) := by decide +kernel
theorem dX10_isOf_6 : decode cX10_isOf 6 = .ok (.iload_n 1, 1) := by decide +kernel
theorem dX10_isOf_7 : decode cX10_isOf 7 = .ok (.invokevirtual 119, 3) := by decide +kernel
theorem dX10_isOf_10 : decode cX10_isOf 10 = .ok (.ifCond .eq 12, 3) := by decide +kernel
theorem dX10_isOf_22 : decode cX10_isOf 22 = .ok (.bipush (-3), 2) := by decide +kernel
theorem dX10_isOf_24 : decode cX10_isOf 24 = .ok (.ireturn, 1) := by decide +kernel
theorem dX10_takes_0 : decode cX10_takes 0 = .ok (.aload_n 0, 1) := by decide +kernel
theorem dX10_takes_1 : decode cX10_takes 1 = .ok (.iconst 0, 1) := by decide +kernel
theorem dX10_takes_2 : decode cX10_takes 2 = .ok (.putfield 79, 3) := by decide +kernel
theorem dX10_takes_5 : decode cX10_takes 5 = .ok (.aload_n 0, 1) := by decide +kernel
theorem dX10_takes_6 : decode cX10_takes 6 = .ok (.iload_n 1, 1) := by decide +kernel
theorem dX10_takes_7 : decode cX10_takes 7 = .ok (.invokevirtual 119, 3) := by decide +kernel
theorem dX10_takes_10 : decode cX10_takes 10 = .ok (.ifCond .eq 21, 3) := by decide +kernel
theorem dX10_takes_31 : decode cX10_takes 31 = .ok (.bipush (-3), 2) := by decide +kernel
theorem dX10_takes_33 : decode cX10_takes 33 = .ok (.ireturn, 1) := by decide +kernel
theorem dX10_driver_0 : decode cX10_driver 0 = .ok (.aload_n 0, 1) := by decide +kernel
theorem dX10_driver_1 : decode cX10_driver 1 = .ok (.iconst 0, 1) := by decide +kernel
theorem dX10_driver_2 : decode cX10_driver 2 = .ok (.putfield 79, 3) := by decide +kernel
theorem dX10_driver_5 : decode cX10_driver 5 = .ok (.iload_n 1, 1) := by decide +kernel
theorem dX10_driver_6 : decode cX10_driver 6 = .ok (.invokestatic 109, 3) := by decide +kernel
theorem dX10_driver_9 : decode cX10_driver 9 = .ok (.ifCond .eq 15, 3) := by decide +kernel
theorem dX10_driver_24 : decode cX10_driver 24 = .ok (.bipush (-3), 2) := by decide +kernel
theorem dX10_driver_26 : decode cX10_driver 26 = .ok (.ireturn, 1) := by decide +kernel
theorem dX10_driver_12 : decode cX10_driver 12 = .ok (.iload_n 2, 1) := by decide +kernel
theorem dX10_driver_13 : decode cX10_driver 13 = .ok (.invokestatic 109, 3) := by decide +kernel
theorem dX10_driver_16 : decode cX10_driver 16 = .ok (.ifCond .eq 8, 3) := by decide +kernel
theorem dX10_driver_19 : decode cX10_driver 19 = .ok (.iload_n 1, 1) := by decide +kernel
theorem dX10_driver_20 : decode cX10_driver 20 = .ok (.iload_n 2, 1) := by decide +kernel
theorem dX10_driver_21 : decode cX10_driver 21 = .ok (.if_icmp .ne 6, 3) := by decide +kernel
theorem dX10_driver_27 : decode cX10_driver 27 = .ok (.aload_n 0, 1) := by decide +kernel
theorem dX10_driver_28 : decode cX10_driver 28 = .ok (.getfield 92, 3) := by decide +kernel
theorem dX10_driver_31 : decode cX10_driver 31 = .ok (.iconst 5, 1) := by decide +kernel
theorem dX10_driver_32 : decode cX10_driver 32 = .ok (.if_icmp .ne 6, 3) := by decide +kernel
theorem dX10_driver_38 : decode cX10_driver 38 = .ok (.aload_n 0, 1) := by decide +kernel
theorem dX10_driver_39 : decode cX10_driver 39 = .ok (.invokevirtual 113, 3) := by decide +kernel
theorem dX10_driver_42 : decode cX10_driver 42 = .ok (.aload_n 0, 1) := by decide +kernel
theorem dX10_driver_43 : decode cX10_driver 43 = .ok (.getfield 40, 3) := by decide +kernel
theorem dX10_driver_46 : decode cX10_driver 46 = .ok (.aload_n 0, 1) := by decide +kernel
theorem dX10_driver_47 : decode cX10_driver 47 = .ok (.getfield 92, 3) := by decide +kernel
theorem dX10_driver_50 : decode cX10_driver 50 = .ok (.iload_n 1, 1) := by decide +kernel
theorem dX10_driver_51 : decode cX10_driver 51 = .ok (.iastore, 1) := by decide +kernel
theorem dX10_driver_52 : decode cX10_driver 52 = .ok (.aload_n 0, 1) := by decide +kernel
theorem dX10_driver_53 : decode cX10_driver 53 = .ok (.getfield 43, 3) := by decide +kernel
theorem dX10_driver_56 : decode cX10_driver 56 = .ok (.aload_n 0, 1) := by decide +kernel
theorem dX10_driver_57 : decode cX10_driver 57 = .ok (.getfield 92, 3) := by decide +kernel
theorem dX10_driver_60 : decode cX10_driver 60 = .ok (.iload_n 2, 1) := by decide +kernel
theorem dX10_driver_61 : decode cX10_driver 61 = .ok (.iastore, 1) := by decide +kernel
theorem dX10_driver_62 : decode cX10_driver 62 = .ok (.aload_n 0, 1) := by decide +kernel
theorem dX10_driver_63 : decode cX10_driver 63 = .ok (.getfield 46, 3) := by decide +kernel
theorem dX10_driver_66 : decode cX10_driver 66 = .ok (.aload_n 0, 1) := by decide +kernel
theorem dX10_driver_67 : decode cX10_driver 67 = .ok (.getfield 92, 3) := by decide +kernel
theorem dX10_driver_70 : decode cX10_driver 70 = .ok (.iconst (-1), 1) := by decide +kernel
theorem dX10_driver_71 : decode cX10_driver 71 = .ok (.iastore, 1) := by decide +kernel
theorem dX10_driver_72 : decode cX10_driver 72 = .ok (.aload_n 0, 1) := by decide +kernel
theorem dX10_driver_73 : decode cX10_driver 73 = .ok (.dup, 1) := by decide +kernel
theorem dX10_driver_74 : decode cX10_driver 74 = .ok (.getfield 92, 3) := by decide +kernel
theorem dX10_driver_77 : decode cX10_driver 77 = .ok (.iconst 1, 1) := by decide +kernel
theorem dX10_driver_78 : decode cX10_driver 78 = .ok (.iadd, 1) := by decide +kernel
theorem dX10_driver_79 : decode cX10_driver 79 = .ok (.putfield 92, 3) := by decide +kernel
theorem dX10_driver_82 : decode cX10_driver 82 = .ok (.aload_n 0, 1) := by decide +kernel
theorem dX10_driver_83 : decode cX10_driver 83 = .ok (.getfield 92, 3) := by decide +kernel
theorem dX10_driver_86 : decode cX10_driver 86 = .ok (.iconst 1, 1) := by decide +kernel
theorem dX10_driver_87 : decode cX10_driver 87 = .ok (.isub, 1) := by decide +kernel
theorem dX10_driver_88 : decode cX10_driver 88 = .ok (.ireturn, 1) := by decide +kernel
theorem dX10_ways_0 : decode cX10_ways 0 = .ok (.aload_n 0, 1) := by decide +kernel
theorem dX10_ways_1 : decode cX10_ways 1 = .ok (.iconst 0, 1) := by decide +kernel
theorem dX10_ways_2 : decode cX10_ways 2 = .ok (.putfield 79, 3) := by decide +kernel
theorem dX10_ways_5 : decode cX10_ways 5 = .ok (.aload_n 0, 1) := by decide +kernel
theorem dX10_ways_6 : decode cX10_ways 6 = .ok (.invokevirtual 141, 3) := by decide +kernel
theorem dX10_findAll_0 : decode cX10_findAll 0 = .ok (.iconst 0, 1) := by decide +kernel
theorem dX10_findAll_1 : decode cX10_findAll 1 = .ok (.istore_n 1, 1) := by decide +kernel
theorem dX10_findAll_2 : decode cX10_findAll 2 = .ok (.iload_n 1, 1) := by decide +kernel
theorem dX10_findAll_3 : decode cX10_findAll 3 = .ok (.aload_n 0, 1) := by decide +kernel
theorem dX10_findAll_4 : decode cX10_findAll 4 = .ok (.getfield 92, 3) := by decide +kernel
theorem dX10_findAll_7 : decode cX10_findAll 7 = .ok (.if_icmp .ge 40, 3) := by decide +kernel
theorem dX10_findAll_47 : decode cX10_findAll 47 = .ok (.return_, 1) := by decide +kernel
theorem dX10_ways_9 : decode cX10_ways 9 = .ok (.aload_n 0, 1) := by decide +kernel
theorem dX10_ways_10 : decode cX10_ways 10 = .ok (.iload_n 1, 1) := by decide +kernel
theorem dX10_ways_11 : decode cX10_ways 11 = .ok (.invokevirtual 144, 3) := by decide +kernel
theorem dX10_isDriver_0 : decode cX10_isDriver 0 = .ok (.iload_n 1, 1) := by decide +kernel
theorem dX10_isDriver_1 : decode cX10_isDriver 1 = .ok (.iconst 0, 1) := by decide +kernel
theorem dX10_isDriver_2 : decode cX10_isDriver 2 = .ok (.aload_n 0, 1) := by decide +kernel
theorem dX10_isDriver_3 : decode cX10_isDriver 3 = .ok (.getfield 92, 3) := by decide +kernel
theorem dX10_isDriver_6 : decode cX10_isDriver 6 = .ok (.iconst 1, 1) := by decide +kernel
theorem dX10_isDriver_7 : decode cX10_isDriver 7 = .ok (.isub, 1) := by decide +kernel
theorem dX10_isDriver_8 : decode cX10_isDriver 8 = .ok (.invokestatic 105, 3) := by decide +kernel
theorem dX10_isDriver_11 : decode cX10_isDriver 11 = .ok (.ireturn, 1) := by decide +kernel
theorem dX10_ways_14 : decode cX10_ways 14 = .ok (.ifCond .eq 11, 3) := by decide +kernel
theorem dX10_ways_25 : decode cX10_ways 25 = .ok (.bipush (-3), 2) := by decide +kernel
theorem dX10_ways_27 : decode cX10_ways 27 = .ok (.ireturn, 1) := by decide +kernel
theorem dX10_way_0 : decode cX10_way 0 = .ok (.aload_n 0, 1) := by decide +kernel
theorem dX10_way_1 : decode cX10_way 1 = .ok (.iconst 0, 1) := by decide +kernel
theorem dX10_way_2 : decode cX10_way 2 = .ok (.putfield 79, 3) := by decide +kernel
theorem dX10_way_5 : decode cX10_way 5 = .ok (.aload_n 0, 1) := by decide +kernel
theorem dX10_way_6 : decode cX10_way 6 = .ok (.invokevirtual 141, 3) := by decide +kernel
theorem dX10_way_9 : decode cX10_way 9 = .ok (.aload_n 0, 1) := by decide +kernel
theorem dX10_way_10 : decode cX10_way 10 = .ok (.iload_n 1, 1) := by decide +kernel
theorem dX10_way_11 : decode cX10_way 11 = .ok (.invokevirtual 144, 3) := by decide +kernel
theorem dX10_way_14 : decode cX10_way 14 = .ok (.ifCond .eq 21, 3) := by decide +kernel
theorem dX10_way_35 : decode cX10_way 35 = .ok (.bipush (-3), 2) := by decide +kernel
theorem dX10_way_37 : decode cX10_way 37 = .ok (.ireturn, 1) := by decide +kernel
theorem dX10_choose_0 : decode cX10_choose 0 = .ok (.aload_n 0, 1) := by decide +kernel
theorem dX10_choose_1 : decode cX10_choose 1 = .ok (.iconst 0, 1) := by decide +kernel
theorem dX10_choose_2 : decode cX10_choose 2 = .ok (.putfield 79, 3) := by decide +kernel
theorem dX10_choose_5 : decode cX10_choose 5 = .ok (.aload_n 0, 1) := by decide +kernel
theorem dX10_choose_6 : decode cX10_choose 6 = .ok (.invokevirtual 141, 3) := by decide +kernel
theorem dX10_choose_9 : decode cX10_choose 9 = .ok (.aload_n 0, 1) := by decide +kernel
theorem dX10_choose_10 : decode cX10_choose 10 = .ok (.iload_n 1, 1) := by decide +kernel
theorem dX10_choose_11 : decode cX10_choose 11 = .ok (.invokevirtual 144, 3) := by decide +kernel
theorem dX10_choose_14 : decode cX10_choose 14 = .ok (.ifCond .eq 18, 3) := by decide +kernel
theorem dX10_choose_32 : decode cX10_choose 32 = .ok (.bipush (-3), 2) := by decide +kernel
theorem dX10_choose_34 : decode cX10_choose 34 = .ok (.ireturn, 1) := by decide +kernel
theorem dX10_told_0 : decode cX10_told 0 = .ok (.aload_n 0, 1) := by decide +kernel
theorem dX10_told_1 : decode cX10_told 1 = .ok (.iconst 0, 1) := by decide +kernel
theorem dX10_told_2 : decode cX10_told 2 = .ok (.putfield 79, 3) := by decide +kernel
theorem dX10_told_5 : decode cX10_told 5 = .ok (.aload_n 0, 1) := by decide +kernel
theorem dX10_told_6 : decode cX10_told 6 = .ok (.iload_n 1, 1) := by decide +kernel
theorem dX10_told_7 : decode cX10_told 7 = .ok (.invokevirtual 144, 3) := by decide +kernel
theorem dX10_told_10 : decode cX10_told 10 = .ok (.ifCond .eq 12, 3) := by decide +kernel
theorem dX10_told_22 : decode cX10_told 22 = .ok (.bipush (-3), 2) := by decide +kernel
theorem dX10_told_24 : decode cX10_told 24 = .ok (.ireturn, 1) := by decide +kernel
theorem dX10_now_0 : decode cX10_now 0 = .ok (.aload_n 0, 1) := by decide +kernel
theorem dX10_now_1 : decode cX10_now 1 = .ok (.iconst 0, 1) := by decide +kernel
theorem dX10_now_2 : decode cX10_now 2 = .ok (.putfield 79, 3) := by decide +kernel
theorem dX10_now_5 : decode cX10_now 5 = .ok (.iload_n 1, 1) := by decide +kernel
theorem dX10_now_6 : decode cX10_now 6 = .ok (.iconst 0, 1) := by decide +kernel
theorem dX10_now_7 : decode cX10_now 7 = .ok (.iconst 2, 1) := by decide +kernel
theorem dX10_now_8 : decode cX10_now 8 = .ok (.invokestatic 105, 3) := by decide +kernel
theorem dX10_now_11 : decode cX10_now 11 = .ok (.ifCond .ne 6, 3) := by decide +kernel
theorem dX10_now_14 : decode cX10_now 14 = .ok (.bipush (-3), 2) := by decide +kernel
theorem dX10_now_16 : decode cX10_now 16 = .ok (.ireturn, 1) := by decide +kernel
theorem dX10_now_17 : decode cX10_now 17 = .ok (.aload_n 0, 1) := by decide +kernel
theorem dX10_now_18 : decode cX10_now 18 = .ok (.invokevirtual 169, 3) := by decide +kernel
theorem dX10_haveAll_0 : decode cX10_haveAll 0 = .ok (.iconst 0, 1) := by decide +kernel
theorem dX10_haveAll_1 : decode cX10_haveAll 1 = .ok (.istore_n 1, 1) := by decide +kernel
theorem dX10_haveAll_2 : decode cX10_haveAll 2 = .ok (.iload_n 1, 1) := by decide +kernel
theorem dX10_haveAll_3 : decode cX10_haveAll 3 = .ok (.aload_n 0, 1) := by decide +kernel
theorem dX10_haveAll_4 : decode cX10_haveAll 4 = .ok (.getfield 92, 3) := by decide +kernel
theorem dX10_haveAll_7 : decode cX10_haveAll 7 = .ok (.if_icmp .ge 21, 3) := by decide +kernel
theorem dX10_haveAll_28 : decode cX10_haveAll 28 = .ok (.iconst 1, 1) := by decide +kernel
theorem dX10_haveAll_29 : decode cX10_haveAll 29 = .ok (.ireturn, 1) := by decide +kernel
theorem dX10_now_21 : decode cX10_now 21 = .ok (.ifCond .ne 6, 3) := by decide +kernel
theorem dX10_now_27 : decode cX10_now 27 = .ok (.aload_n 0, 1) := by decide +kernel
theorem dX10_now_28 : decode cX10_now 28 = .ok (.invokevirtual 141, 3) := by decide +kernel
theorem dX10_now_31 : decode cX10_now 31 = .ok (.iload_n 1, 1) := by decide +kernel
theorem dX10_now_32 : decode cX10_now 32 = .ok (.ifCond .ne 10, 3) := by decide +kernel
theorem dX10_now_42 : decode cX10_now 42 = .ok (.iload_n 1, 1) := by decide +kernel
theorem dX10_now_43 : decode cX10_now 43 = .ok (.iconst 1, 1) := by decide +kernel
theorem dX10_now_44 : decode cX10_now 44 = .ok (.if_icmp .ne 10, 3) := by decide +kernel
theorem dX10_now_54 : decode cX10_now 54 = .ok (.aload_n 0, 1) := by decide +kernel
theorem dX10_now_55 : decode cX10_now 55 = .ok (.invokevirtual 180, 3) := by decide +kernel
theorem dX10_restless_0 : decode cX10_restless 0 = .ok (.iconst 0, 1) := by decide +kernel
theorem dX10_restless_1 : decode cX10_restless 1 = .ok (.istore_n 1, 1) := by decide +kernel
theorem dX10_restless_2 : decode cX10_restless 2 = .ok (.iload_n 1, 1) := by decide +kernel
theorem dX10_restless_3 : decode cX10_restless 3 = .ok (.aload_n 0, 1) := by decide +kernel
theorem dX10_restless_4 : decode cX10_restless 4 = .ok (.getfield 92, 3) := by decide +kernel
theorem dX10_restless_7 : decode cX10_restless 7 = .ok (.if_icmp .ge 32, 3) := by decide +kernel
theorem dX10_restless_39 : decode cX10_restless 39 = .ok (.iconst (-1), 1) := by decide +kernel
theorem dX10_restless_40 : decode cX10_restless 40 = .ok (.ireturn, 1) := by decide +kernel
theorem dX10_now_58 : decode cX10_now 58 = .ok (.iconst (-1), 1) := by decide +kernel
theorem dX10_now_59 : decode cX10_now 59 = .ok (.if_icmp .ne 7, 3) := by decide +kernel
theorem dX10_now_62 : decode cX10_now 62 = .ok (.iconst 1, 1) := by decide +kernel
theorem dX10_now_63 : decode cX10_now 63 = .ok (.goto 4, 3) := by decide +kernel
theorem dX10_now_67 : decode cX10_now 67 = .ok (.ireturn, 1) := by decide +kernel
theorem dX10_now_47 : decode cX10_now 47 = .ok (.aload_n 0, 1) := by decide +kernel
theorem dX10_now_48 : decode cX10_now 48 = .ok (.invokevirtual 177, 3) := by decide +kernel
theorem dX10_mostNow_0 : decode cX10_mostNow 0 = .ok (.iconst 0, 1) := by decide +kernel
theorem dX10_mostNow_1 : decode cX10_mostNow 1 = .ok (.istore_n 1, 1) := by decide +kernel
theorem dX10_mostNow_2 : decode cX10_mostNow 2 = .ok (.iconst 0, 1) := by decide +kernel
theorem dX10_mostNow_3 : decode cX10_mostNow 3 = .ok (.istore_n 2, 1) := by decide +kernel
theorem dX10_mostNow_4 : decode cX10_mostNow 4 = .ok (.iload_n 2, 1) := by decide +kernel
theorem dX10_mostNow_5 : decode cX10_mostNow 5 = .ok (.aload_n 0, 1) := by decide +kernel
theorem dX10_mostNow_6 : decode cX10_mostNow 6 = .ok (.getfield 92, 3) := by decide +kernel
theorem dX10_mostNow_9 : decode cX10_mostNow 9 = .ok (.if_icmp .ge 27, 3) := by decide +kernel
theorem dX10_mostNow_36 : decode cX10_mostNow 36 = .ok (.iload_n 1, 1) := by decide +kernel
theorem dX10_mostNow_37 : decode cX10_mostNow 37 = .ok (.ireturn, 1) := by decide +kernel
theorem dX10_now_51 : decode cX10_now 51 = .ok (.goto 16, 3) := by decide +kernel
theorem dX10_now_35 : decode cX10_now 35 = .ok (.aload_n 0, 1) := by decide +kernel
theorem dX10_now_36 : decode cX10_now 36 = .ok (.invokevirtual 173, 3) := by decide +kernel
theorem dX10_sumNow_0 : decode cX10_sumNow 0 = .ok (.iconst 0, 1) := by decide +kernel
theorem dX10_sumNow_1 : decode cX10_sumNow 1 = .ok (.istore_n 1, 1) := by decide +kernel
theorem dX10_sumNow_2 : decode cX10_sumNow 2 = .ok (.iconst 0, 1) := by decide +kernel
theorem dX10_sumNow_3 : decode cX10_sumNow 3 = .ok (.istore_n 2, 1) := by decide +kernel
theorem dX10_sumNow_4 : decode cX10_sumNow 4 = .ok (.iload_n 2, 1) := by decide +kernel
theorem dX10_sumNow_5 : decode cX10_sumNow 5 = .ok (.aload_n 0, 1) := by decide +kernel
theorem dX10_sumNow_6 : decode cX10_sumNow 6 = .ok (.getfield 92, 3) := by decide +kernel
theorem dX10_sumNow_9 : decode cX10_sumNow 9 = .ok (.if_icmp .ge 18, 3) := by decide +kernel
theorem dX10_sumNow_27 : decode cX10_sumNow 27 = .ok (.iload_n 1, 1) := by decide +kernel
theorem dX10_sumNow_28 : decode cX10_sumNow 28 = .ok (.ireturn, 1) := by decide +kernel
theorem dX10_now_39 : decode cX10_now 39 = .ok (.goto 28, 3) := by decide +kernel
theorem dX10_store_0 : decode cX10_store 0 = .ok (.aload_n 0, 1) := by decide +kernel
theorem dX10_store_1 : decode cX10_store 1 = .ok (.iconst 0, 1) := by decide +kernel
theorem dX10_store_2 : decode cX10_store 2 = .ok (.putfield 79, 3) := by decide +kernel
theorem dX10_store_5 : decode cX10_store 5 = .ok (.aload_n 0, 1) := by decide +kernel
theorem dX10_store_6 : decode cX10_store 6 = .ok (.invokevirtual 141, 3) := by decide +kernel
theorem dX10_store_9 : decode cX10_store 9 = .ok (.aload_n 0, 1) := by decide +kernel
theorem dX10_store_10 : decode cX10_store 10 = .ok (.iconst (-1), 1) := by decide +kernel
theorem dX10_store_11 : decode cX10_store 11 = .ok (.invokevirtual 151, 3) := by decide +kernel
theorem dX10_findUse_0 : decode cX10_findUse 0 = .ok (.iconst 0, 1) := by decide +kernel
theorem dX10_findUse_1 : decode cX10_findUse 1 = .ok (.istore_n 2, 1) := by decide +kernel
theorem dX10_findUse_2 : decode cX10_findUse 2 = .ok (.iload_n 2, 1) := by decide +kernel
theorem dX10_findUse_3 : decode cX10_findUse 3 = .ok (.bipush 10, 2) := by decide +kernel
theorem dX10_findUse_5 : decode cX10_findUse 5 = .ok (.if_icmp .ge 16, 3) := by decide +kernel
theorem dX10_findUse_8 : decode cX10_findUse 8 = .ok (.aload_n 0, 1) := by decide +kernel
theorem dX10_findUse_9 : decode cX10_findUse 9 = .ok (.getfield 67, 3) := by decide +kernel
theorem dX10_findUse_12 : decode cX10_findUse 12 = .ok (.iload_n 2, 1) := by decide +kernel
theorem dX10_findUse_13 : decode cX10_findUse 13 = .ok (.iconst 0, 1) := by decide +kernel
theorem dX10_findUse_14 : decode cX10_findUse 14 = .ok (.iastore, 1) := by decide +kernel
theorem dX10_findUse_15 : decode cX10_findUse 15 = .ok (.iinc 2 1, 3) := by decide +kernel
theorem dX10_findUse_18 : decode cX10_findUse 18 = .ok (.goto (-16), 3) := by decide +kernel
theorem dX10_findUse_21 : decode cX10_findUse 21 = .ok (.iconst 0, 1) := by decide +kernel
theorem dX10_findUse_22 : decode cX10_findUse 22 = .ok (.istore_n 2, 1) := by decide +kernel
theorem dX10_findUse_23 : decode cX10_findUse 23 = .ok (.iload_n 2, 1) := by decide +kernel
theorem dX10_findUse_24 : decode cX10_findUse 24 = .ok (.aload_n 0, 1) := by decide +kernel
theorem dX10_findUse_25 : decode cX10_findUse 25 = .ok (.getfield 92, 3) := by decide +kernel
theorem dX10_findUse_28 : decode cX10_findUse 28 = .ok (.if_icmp .ge 70, 3) := by decide +kernel
theorem dX10_findUse_98 : decode cX10_findUse 98 = .ok (.return_, 1) := by decide +kernel
theorem dX10_store_14 : decode cX10_store 14 = .ok (.iconst 0, 1) := by decide +kernel
theorem dX10_store_15 : decode cX10_store 15 = .ok (.istore_n 1, 1) := by decide +kernel
theorem dX10_store_16 : decode cX10_store 16 = .ok (.iconst 0, 1) := by decide +kernel
theorem dX10_store_17 : decode cX10_store 17 = .ok (.istore_n 2, 1) := by decide +kernel
theorem dX10_store_18 : decode cX10_store 18 = .ok (.iload_n 2, 1) := by decide +kernel
theorem dX10_store_19 : decode cX10_store 19 = .ok (.aload_n 0, 1) := by decide +kernel
theorem dX10_store_20 : decode cX10_store 20 = .ok (.getfield 89, 3) := by decide +kernel
theorem dX10_store_23 : decode cX10_store 23 = .ok (.if_icmp .ge 43, 3) := by decide +kernel
theorem dX10_store_66 : decode cX10_store 66 = .ok (.iload_n 1, 1) := by decide +kernel
theorem dX10_store_67 : decode cX10_store 67 = .ok (.ireturn, 1) := by decide +kernel
theorem dX10_reply_0 : decode cX10_reply 0 = .ok (.aload_n 0, 1) := by decide +kernel
theorem dX10_reply_1 : decode cX10_reply 1 = .ok (.iconst 0, 1) := by decide +kernel
theorem dX10_reply_2 : decode cX10_reply 2 = .ok (.putfield 79, 3) := by decide +kernel
theorem dX10_reply_5 : decode cX10_reply 5 = .ok (.aload_n 0, 1) := by decide +kernel
theorem dX10_reply_6 : decode cX10_reply 6 = .ok (.iload_n 1, 1) := by decide +kernel
theorem dX10_reply_7 : decode cX10_reply 7 = .ok (.invokevirtual 144, 3) := by decide +kernel
theorem dX10_reply_10 : decode cX10_reply 10 = .ok (.ifCond .ne 6, 3) := by decide +kernel
theorem dX10_reply_13 : decode cX10_reply 13 = .ok (.bipush (-3), 2) := by decide +kernel
theorem dX10_reply_15 : decode cX10_reply 15 = .ok (.ireturn, 1) := by decide +kernel
theorem dX10_habits_0 : decode cX10_habits 0 = .ok (.aload_n 0, 1) := by decide +kernel
theorem dX10_habits_1 : decode cX10_habits 1 = .ok (.iconst 0, 1) := by decide +kernel
theorem dX10_habits_2 : decode cX10_habits 2 = .ok (.putfield 79, 3) := by decide +kernel
theorem dX10_habits_5 : decode cX10_habits 5 = .ok (.aload_n 0, 1) := by decide +kernel
theorem dX10_habits_6 : decode cX10_habits 6 = .ok (.invokevirtual 215, 3) := by decide +kernel
theorem dX10_habitMany_0 : decode cX10_habitMany 0 = .ok (.lconst 1, 1) := by decide +kernel
theorem dX10_habitMany_1 : decode cX10_habitMany 1 = .ok (.lstore_n 1, 1) := by decide +kernel
theorem dX10_habitMany_2 : decode cX10_habitMany 2 = .ok (.aload_n 0, 1) := by decide +kernel
theorem dX10_habitMany_3 : decode cX10_habitMany 3 = .ok (.invokevirtual 141, 3) := by decide +kernel
theorem dX10_habitMany_6 : decode cX10_habitMany 6 = .ok (.iconst 0, 1) := by decide +kernel
theorem dX10_habitMany_7 : decode cX10_habitMany 7 = .ok (.istore_n 3, 1) := by decide +kernel
theorem dX10_habitMany_8 : decode cX10_habitMany 8 = .ok (.iload_n 3, 1) := by decide +kernel
theorem dX10_habitMany_9 : decode cX10_habitMany 9 = .ok (.aload_n 0, 1) := by decide +kernel
theorem dX10_habitMany_10 : decode cX10_habitMany 10 = .ok (.getfield 92, 3) := by decide +kernel
theorem dX10_habitMany_13 : decode cX10_habitMany 13 = .ok (.if_icmp .ge 30, 3) := by decide +kernel
theorem dX10_habitMany_43 : decode cX10_habitMany 43 = .ok (.lload_n 1, 1) := by decide +kernel
theorem dX10_habitMany_44 : decode cX10_habitMany 44 = .ok (.lconst 0, 1) := by decide +kernel
theorem dX10_habitMany_45 : decode cX10_habitMany 45 = .ok (.lcmp, 1) := by decide +kernel
theorem dX10_habitMany_46 : decode cX10_habitMany 46 = .ok (.ifCond .ne 8, 3) := by decide +kernel
theorem dX10_habitMany_54 : decode cX10_habitMany 54 = .ok (.lload_n 1, 1) := by decide +kernel
theorem dX10_habitMany_55 : decode cX10_habitMany 55 = .ok (.ldc2_w 183, 3) := by decide +kernel
theorem dX10_habitMany_58 : decode cX10_habitMany 58 = .ok (.lcmp, 1) := by decide +kernel
theorem dX10_habitMany_59 : decode cX10_habitMany 59 = .ok (.ifCond .le 8, 3) := by decide +kernel
theorem dX10_habitMany_67 : decode cX10_habitMany 67 = .ok (.lload_n 1, 1) := by decide +kernel
theorem dX10_habitMany_68 : decode cX10_habitMany 68 = .ok (.l2i, 1) := by decide +kernel
theorem dX10_habitMany_69 : decode cX10_habitMany 69 = .ok (.ireturn, 1) := by decide +kernel
theorem dX10_habits_9 : decode cX10_habits 9 = .ok (.ireturn, 1) := by decide +kernel
