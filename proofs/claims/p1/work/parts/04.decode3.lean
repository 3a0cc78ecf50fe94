theorem dX10_habit_0 : decode cX10_habit 0 = .ok (.aload_n 0, 1) := by decide +kernel
theorem dX10_habit_1 : decode cX10_habit 1 = .ok (.iconst 0, 1) := by decide +kernel
theorem dX10_habit_2 : decode cX10_habit 2 = .ok (.putfield 79, 3) := by decide +kernel
theorem dX10_habit_5 : decode cX10_habit 5 = .ok (.aload_n 0, 1) := by decide +kernel
theorem dX10_habit_6 : decode cX10_habit 6 = .ok (.invokevirtual 215, 3) := by decide +kernel
theorem dX10_habit_9 : decode cX10_habit 9 = .ok (.istore_n 2, 1) := by decide +kernel
theorem dX10_habit_10 : decode cX10_habit 10 = .ok (.iload_n 2, 1) := by decide +kernel
theorem dX10_habit_11 : decode cX10_habit 11 = .ok (.ifCond .ge 5, 3) := by decide +kernel
theorem dX10_habit_16 : decode cX10_habit 16 = .ok (.iload_n 1, 1) := by decide +kernel
theorem dX10_habit_17 : decode cX10_habit 17 = .ok (.iconst 0, 1) := by decide +kernel
theorem dX10_habit_18 : decode cX10_habit 18 = .ok (.iload_n 2, 1) := by decide +kernel
theorem dX10_habit_19 : decode cX10_habit 19 = .ok (.iconst 1, 1) := by decide +kernel
theorem dX10_habit_20 : decode cX10_habit 20 = .ok (.isub, 1) := by decide +kernel
theorem dX10_habit_21 : decode cX10_habit 21 = .ok (.invokestatic 105, 3) := by decide +kernel
theorem dX10_habit_24 : decode cX10_habit 24 = .ok (.ifCond .ne 6, 3) := by decide +kernel
theorem dX10_habit_27 : decode cX10_habit 27 = .ok (.bipush (-3), 2) := by decide +kernel
theorem dX10_habit_29 : decode cX10_habit 29 = .ok (.ireturn, 1) := by decide +kernel
theorem dX10_habit_30 : decode cX10_habit 30 = .ok (.aload_n 0, 1) := by decide +kernel
theorem dX10_habit_31 : decode cX10_habit 31 = .ok (.invokevirtual 113, 3) := by decide +kernel
theorem dX10_habit_34 : decode cX10_habit 34 = .ok (.aload_n 0, 1) := by decide +kernel
theorem dX10_habit_35 : decode cX10_habit 35 = .ok (.iload_n 1, 1) := by decide +kernel
theorem dX10_habit_36 : decode cX10_habit 36 = .ok (.invokevirtual 200, 3) := by decide +kernel
theorem dX10_lay_0 : decode cX10_lay 0 = .ok (.iload_n 1, 1) := by decide +kernel
theorem dX10_lay_1 : decode cX10_lay 1 = .ok (.istore_n 2, 1) := by decide +kernel
theorem dX10_lay_2 : decode cX10_lay 2 = .ok (.aload_n 0, 1) := by decide +kernel
theorem dX10_lay_3 : decode cX10_lay 3 = .ok (.getfield 92, 3) := by decide +kernel
theorem dX10_lay_6 : decode cX10_lay 6 = .ok (.iconst 1, 1) := by decide +kernel
theorem dX10_lay_7 : decode cX10_lay 7 = .ok (.isub, 1) := by decide +kernel
theorem dX10_lay_8 : decode cX10_lay 8 = .ok (.istore_n 3, 1) := by decide +kernel
theorem dX10_lay_9 : decode cX10_lay 9 = .ok (.iload_n 3, 1) := by decide +kernel
theorem dX10_lay_10 : decode cX10_lay 10 = .ok (.ifCond .lt 32, 3) := by decide +kernel
theorem dX10_lay_42 : decode cX10_lay 42 = .ok (.return_, 1) := by decide +kernel
theorem dX10_habit_39 : decode cX10_habit 39 = .ok (.iconst 0, 1) := by decide +kernel
theorem dX10_habit_40 : decode cX10_habit 40 = .ok (.ireturn, 1) := by decide +kernel
theorem dX10_best_0 : decode cX10_best 0 = .ok (.aload_n 0, 1) := by decide +kernel
theorem dX10_best_1 : decode cX10_best 1 = .ok (.iconst 0, 1) := by decide +kernel
theorem dX10_best_2 : decode cX10_best 2 = .ok (.putfield 79, 3) := by decide +kernel
theorem dX10_best_5 : decode cX10_best 5 = .ok (.aload_n 0, 1) := by decide +kernel
theorem dX10_best_6 : decode cX10_best 6 = .ok (.invokevirtual 215, 3) := by decide +kernel
theorem dX10_best_9 : decode cX10_best 9 = .ok (.istore_n 1, 1) := by decide +kernel
theorem dX10_best_10 : decode cX10_best 10 = .ok (.iload_n 1, 1) := by decide +kernel
theorem dX10_best_11 : decode cX10_best 11 = .ok (.ifCond .ge 5, 3) := by decide +kernel
theorem dX10_best_16 : decode cX10_best 16 = .ok (.aload_n 0, 1) := by decide +kernel
theorem dX10_best_17 : decode cX10_best 17 = .ok (.iload_n 1, 1) := by decide +kernel
theorem dX10_best_18 : decode cX10_best 18 = .ok (.iconst (-1), 1) := by decide +kernel
theorem dX10_best_19 : decode cX10_best 19 = .ok (.invokevirtual 218, 3) := by decide +kernel
theorem dX10_search_0 : decode cX10_search 0 = .ok (.aload_n 0, 1) := by decide +kernel
theorem dX10_search_1 : decode cX10_search 1 = .ok (.invokevirtual 185, 3) := by decide +kernel
theorem dX10_save_0 : decode cX10_save 0 = .ok (.iconst 0, 1) := by decide +kernel
theorem dX10_save_1 : decode cX10_save 1 = .ok (.istore_n 1, 1) := by decide +kernel
theorem dX10_save_2 : decode cX10_save 2 = .ok (.iload_n 1, 1) := by decide +kernel
theorem dX10_save_3 : decode cX10_save 3 = .ok (.iconst 5, 1) := by decide +kernel
theorem dX10_save_4 : decode cX10_save 4 = .ok (.if_icmp .ge 21, 3) := by decide +kernel
theorem dX10_save_7 : decode cX10_save 7 = .ok (.aload_n 0, 1) := by decide +kernel
theorem dX10_save_8 : decode cX10_save 8 = .ok (.getfield 73, 3) := by decide +kernel
theorem dX10_save_11 : decode cX10_save 11 = .ok (.iload_n 1, 1) := by decide +kernel
theorem dX10_save_12 : decode cX10_save 12 = .ok (.aload_n 0, 1) := by decide +kernel
theorem dX10_save_13 : decode cX10_save 13 = .ok (.getfield 46, 3) := by decide +kernel
theorem dX10_save_16 : decode cX10_save 16 = .ok (.iload_n 1, 1) := by decide +kernel
theorem dX10_save_17 : decode cX10_save 17 = .ok (.iaload, 1) := by decide +kernel
theorem dX10_save_18 : decode cX10_save 18 = .ok (.iastore, 1) := by decide +kernel
theorem dX10_save_19 : decode cX10_save 19 = .ok (.iinc 1 1, 3) := by decide +kernel
theorem dX10_save_22 : decode cX10_save 22 = .ok (.goto (-20), 3) := by decide +kernel
theorem dX10_save_25 : decode cX10_save 25 = .ok (.return_, 1) := by decide +kernel
theorem dX10_search_4 : decode cX10_search 4 = .ok (.aload_n 0, 1) := by decide +kernel
theorem dX10_search_5 : decode cX10_search 5 = .ok (.iconst (-1), 1) := by decide +kernel
theorem dX10_search_6 : decode cX10_search 6 = .ok (.putfield 188, 3) := by decide +kernel
theorem dX10_search_9 : decode cX10_search 9 = .ok (.aload_n 0, 1) := by decide +kernel
theorem dX10_search_10 : decode cX10_search 10 = .ok (.iconst 0, 1) := by decide +kernel
theorem dX10_search_11 : decode cX10_search 11 = .ok (.putfield 191, 3) := by decide +kernel
theorem dX10_search_14 : decode cX10_search 14 = .ok (.aload_n 0, 1) := by decide +kernel
theorem dX10_search_15 : decode cX10_search 15 = .ok (.iconst (-1), 1) := by decide +kernel
theorem dX10_search_16 : decode cX10_search 16 = .ok (.putfield 194, 3) := by decide +kernel
theorem dX10_search_19 : decode cX10_search 19 = .ok (.aload_n 0, 1) := by decide +kernel
theorem dX10_search_20 : decode cX10_search 20 = .ok (.iconst (-1), 1) := by decide +kernel
theorem dX10_search_21 : decode cX10_search 21 = .ok (.putfield 197, 3) := by decide +kernel
theorem dX10_search_24 : decode cX10_search 24 = .ok (.iconst 0, 1) := by decide +kernel
theorem dX10_search_25 : decode cX10_search 25 = .ok (.istore_n 3, 1) := by decide +kernel
theorem dX10_search_26 : decode cX10_search 26 = .ok (.iload_n 3, 1) := by decide +kernel
theorem dX10_search_27 : decode cX10_search 27 = .ok (.iload_n 1, 1) := by decide +kernel
theorem dX10_search_28 : decode cX10_search 28 = .ok (.if_icmp .ge 180, 3) := by decide +kernel
theorem dX10_search_31 : decode cX10_search 31 = .ok (.aload_n 0, 1) := by decide +kernel
theorem dX10_search_32 : decode cX10_search 32 = .ok (.iload_n 3, 1) := by decide +kernel
theorem dX10_search_33 : decode cX10_search 33 = .ok (.invokevirtual 200, 3) := by decide +kernel
theorem dX10_search_36 : decode cX10_search 36 = .ok (.aload_n 0, 1) := by decide +kernel
theorem dX10_search_37 : decode cX10_search 37 = .ok (.invokevirtual 173, 3) := by decide +kernel
theorem dX10_search_40 : decode cX10_search 40 = .ok (.istore 4, 2) := by decide +kernel
theorem dX10_search_42 : decode cX10_search 42 = .ok (.aload_n 0, 1) := by decide +kernel
theorem dX10_search_43 : decode cX10_search 43 = .ok (.invokevirtual 177, 3) := by decide +kernel
theorem dX10_search_46 : decode cX10_search 46 = .ok (.istore 5, 2) := by decide +kernel
theorem dX10_search_48 : decode cX10_search 48 = .ok (.aload_n 0, 1) := by decide +kernel
theorem dX10_search_49 : decode cX10_search 49 = .ok (.getfield 188, 3) := by decide +kernel
theorem dX10_search_52 : decode cX10_search 52 = .ok (.iconst (-1), 1) := by decide +kernel
theorem dX10_search_53 : decode cX10_search 53 = .ok (.if_icmp .eq 12, 3) := by decide +kernel
theorem dX10_search_65 : decode cX10_search 65 = .ok (.aload_n 0, 1) := by decide +kernel
theorem dX10_search_66 : decode cX10_search 66 = .ok (.iload_n 3, 1) := by decide +kernel
theorem dX10_search_67 : decode cX10_search 67 = .ok (.putfield 188, 3) := by decide +kernel
theorem dX10_search_70 : decode cX10_search 70 = .ok (.aload_n 0, 1) := by decide +kernel
theorem dX10_search_71 : decode cX10_search 71 = .ok (.iload 4, 2) := by decide +kernel
theorem dX10_search_73 : decode cX10_search 73 = .ok (.putfield 203, 3) := by decide +kernel
theorem dX10_search_76 : decode cX10_search 76 = .ok (.aload_n 0, 1) := by decide +kernel
theorem dX10_search_77 : decode cX10_search 77 = .ok (.aload_n 0, 1) := by decide +kernel
theorem dX10_search_78 : decode cX10_search 78 = .ok (.getfield 197, 3) := by decide +kernel
theorem dX10_search_81 : decode cX10_search 81 = .ok (.iconst (-1), 1) := by decide +kernel
theorem dX10_search_82 : decode cX10_search 82 = .ok (.if_icmp .eq 12, 3) := by decide +kernel
theorem dX10_search_94 : decode cX10_search 94 = .ok (.iload 5, 2) := by decide +kernel
theorem dX10_search_96 : decode cX10_search 96 = .ok (.goto 7, 3) := by decide +kernel
theorem dX10_search_103 : decode cX10_search 103 = .ok (.putfield 197, 3) := by decide +kernel
theorem dX10_search_106 : decode cX10_search 106 = .ok (.aload_n 0, 1) := by decide +kernel
theorem dX10_search_107 : decode cX10_search 107 = .ok (.invokevirtual 180, 3) := by decide +kernel
theorem dX10_search_110 : decode cX10_search 110 = .ok (.iconst (-1), 1) := by decide +kernel
theorem dX10_search_111 : decode cX10_search 111 = .ok (.if_icmp .ne 91, 3) := by decide +kernel
theorem dX10_search_114 : decode cX10_search 114 = .ok (.aload_n 0, 1) := by decide +kernel
theorem dX10_search_115 : decode cX10_search 115 = .ok (.aload_n 0, 1) := by decide +kernel
theorem dX10_search_116 : decode cX10_search 116 = .ok (.getfield 191, 3) := by decide +kernel
theorem dX10_search_119 : decode cX10_search 119 = .ok (.ifCond .eq 12, 3) := by decide +kernel
theorem dX10_search_131 : decode cX10_search 131 = .ok (.iload 4, 2) := by decide +kernel
theorem dX10_search_133 : decode cX10_search 133 = .ok (.goto 7, 3) := by decide +kernel
theorem dX10_search_140 : decode cX10_search 140 = .ok (.putfield 206, 3) := by decide +kernel
theorem dX10_search_143 : decode cX10_search 143 = .ok (.aload_n 0, 1) := by decide +kernel
theorem dX10_search_144 : decode cX10_search 144 = .ok (.aload_n 0, 1) := by decide +kernel
theorem dX10_search_145 : decode cX10_search 145 = .ok (.getfield 191, 3) := by decide +kernel
theorem dX10_search_148 : decode cX10_search 148 = .ok (.ifCond .eq 12, 3) := by decide +kernel
theorem dX10_search_160 : decode cX10_search 160 = .ok (.iload 4, 2) := by decide +kernel
theorem dX10_search_162 : decode cX10_search 162 = .ok (.goto 7, 3) := by decide +kernel
theorem dX10_search_169 : decode cX10_search 169 = .ok (.putfield 209, 3) := by decide +kernel
theorem dX10_search_172 : decode cX10_search 172 = .ok (.aload_n 0, 1) := by decide +kernel
theorem dX10_search_173 : decode cX10_search 173 = .ok (.aload_n 0, 1) := by decide +kernel
theorem dX10_search_174 : decode cX10_search 174 = .ok (.getfield 191, 3) := by decide +kernel
theorem dX10_search_177 : decode cX10_search 177 = .ok (.iload_n 2, 1) := by decide +kernel
theorem dX10_search_178 : decode cX10_search 178 = .ok (.if_icmp .ne 7, 3) := by decide +kernel
theorem dX10_search_185 : decode cX10_search 185 = .ok (.aload_n 0, 1) := by decide +kernel
theorem dX10_search_186 : decode cX10_search 186 = .ok (.getfield 194, 3) := by decide +kernel
theorem dX10_search_189 : decode cX10_search 189 = .ok (.putfield 194, 3) := by decide +kernel
theorem dX10_search_192 : decode cX10_search 192 = .ok (.aload_n 0, 1) := by decide +kernel
theorem dX10_search_193 : decode cX10_search 193 = .ok (.dup, 1) := by decide +kernel
theorem dX10_search_194 : decode cX10_search 194 = .ok (.getfield 191, 3) := by decide +kernel
theorem dX10_search_197 : decode cX10_search 197 = .ok (.iconst 1, 1) := by decide +kernel
theorem dX10_search_198 : decode cX10_search 198 = .ok (.iadd, 1) := by decide +kernel
theorem dX10_search_199 : decode cX10_search 199 = .ok (.putfield 191, 3) := by decide +kernel
theorem dX10_search_202 : decode cX10_search 202 = .ok (.iinc 3 1, 3) := by decide +kernel
theorem dX10_search_205 : decode cX10_search 205 = .ok (.goto (-179), 3) := by decide +kernel
theorem dX10_search_208 : decode cX10_search 208 = .ok (.aload_n 0, 1) := by decide +kernel
theorem dX10_search_209 : decode cX10_search 209 = .ok (.invokevirtual 212, 3) := by decide +kernel
theorem dX10_restore_0 : decode cX10_restore 0 = .ok (.iconst 0, 1) := by decide +kernel
theorem dX10_restore_1 : decode cX10_restore 1 = .ok (.istore_n 1, 1) := by decide +kernel
theorem dX10_restore_2 : decode cX10_restore 2 = .ok (.iload_n 1, 1) := by decide +kernel
theorem dX10_restore_3 : decode cX10_restore 3 = .ok (.iconst 5, 1) := by decide +kernel
theorem dX10_restore_4 : decode cX10_restore 4 = .ok (.if_icmp .ge 21, 3) := by decide +kernel
theorem dX10_restore_7 : decode cX10_restore 7 = .ok (.aload_n 0, 1) := by decide +kernel
theorem dX10_restore_8 : decode cX10_restore 8 = .ok (.getfield 46, 3) := by decide +kernel
theorem dX10_restore_11 : decode cX10_restore 11 = .ok (.iload_n 1, 1) := by decide +kernel
theorem dX10_restore_12 : decode cX10_restore 12 = .ok (.aload_n 0, 1) := by decide +kernel
theorem dX10_restore_13 : decode cX10_restore 13 = .ok (.getfield 73, 3) := by decide +kernel
theorem dX10_restore_16 : decode cX10_restore 16 = .ok (.iload_n 1, 1) := by decide +kernel
theorem dX10_restore_17 : decode cX10_restore 17 = .ok (.iaload, 1) := by decide +kernel
theorem dX10_restore_18 : decode cX10_restore 18 = .ok (.iastore, 1) := by decide +kernel
theorem dX10_restore_19 : decode cX10_restore 19 = .ok (.iinc 1 1, 3) := by decide +kernel
theorem dX10_restore_22 : decode cX10_restore 22 = .ok (.goto (-20), 3) := by decide +kernel
theorem dX10_restore_25 : decode cX10_restore 25 = .ok (.return_, 1) := by decide +kernel
theorem dX10_search_212 : decode cX10_search 212 = .ok (.return_, 1) := by decide +kernel
theorem dX10_best_22 : decode cX10_best 22 = .ok (.aload_n 0, 1) := by decide +kernel
theorem dX10_best_23 : decode cX10_best 23 = .ok (.invokevirtual 113, 3) := by decide +kernel
theorem dX10_best_26 : decode cX10_best 26 = .ok (.aload_n 0, 1) := by decide +kernel
theorem dX10_best_27 : decode cX10_best 27 = .ok (.aload_n 0, 1) := by decide +kernel
theorem dX10_best_28 : decode cX10_best 28 = .ok (.getfield 188, 3) := by decide +kernel
theorem dX10_best_31 : decode cX10_best 31 = .ok (.invokevirtual 200, 3) := by decide +kernel
theorem dX10_best_34 : decode cX10_best 34 = .ok (.aload_n 0, 1) := by decide +kernel
theorem dX10_best_35 : decode cX10_best 35 = .ok (.getfield 203, 3) := by decide +kernel
theorem dX10_best_38 : decode cX10_best 38 = .ok (.ireturn, 1) := by decide +kernel
theorem dX10_rests_0 : decode cX10_rests 0 = .ok (.aload_n 0, 1) := by decide +kernel
theorem dX10_rests_1 : decode cX10_rests 1 = .ok (.iconst 0, 1) := by decide +kernel
theorem dX10_rests_2 : decode cX10_rests 2 = .ok (.putfield 79, 3) := by decide +kernel
theorem dX10_rests_5 : decode cX10_rests 5 = .ok (.aload_n 0, 1) := by decide +kernel
theorem dX10_rests_6 : decode cX10_rests 6 = .ok (.invokevirtual 215, 3) := by decide +kernel
theorem dX10_rests_9 : decode cX10_rests 9 = .ok (.istore_n 1, 1) := by decide +kernel
theorem dX10_rests_10 : decode cX10_rests 10 = .ok (.iload_n 1, 1) := by decide +kernel
theorem dX10_rests_11 : decode cX10_rests 11 = .ok (.ifCond .ge 5, 3) := by decide +kernel
theorem dX10_rests_16 : decode cX10_rests 16 = .ok (.aload_n 0, 1) := by decide +kernel
theorem dX10_rests_17 : decode cX10_rests 17 = .ok (.iload_n 1, 1) := by decide +kernel
theorem dX10_rests_18 : decode cX10_rests 18 = .ok (.iconst (-1), 1) := by decide +kernel
theorem dX10_rests_19 : decode cX10_rests 19 = .ok (.invokevirtual 218, 3) := by decide +kernel
theorem dX10_rests_22 : decode cX10_rests 22 = .ok (.aload_n 0, 1) := by decide +kernel
theorem dX10_rests_23 : decode cX10_rests 23 = .ok (.getfield 191, 3) := by decide +kernel
theorem dX10_rests_26 : decode cX10_rests 26 = .ok (.ireturn, 1) := by decide +kernel
theorem dX10_rest_0 : decode cX10_rest 0 = .ok (.aload_n 0, 1) := by decide +kernel
theorem dX10_rest_1 : decode cX10_rest 1 = .ok (.iconst 0, 1) := by decide +kernel
theorem dX10_rest_2 : decode cX10_rest 2 = .ok (.putfield 79, 3) := by decide +kernel
theorem dX10_rest_5 : decode cX10_rest 5 = .ok (.aload_n 0, 1) := by decide +kernel
theorem dX10_rest_6 : decode cX10_rest 6 = .ok (.invokevirtual 215, 3) := by decide +kernel
theorem dX10_rest_9 : decode cX10_rest 9 = .ok (.istore_n 2, 1) := by decide +kernel
theorem dX10_rest_10 : decode cX10_rest 10 = .ok (.iload_n 2, 1) := by decide +kernel
theorem dX10_rest_11 : decode cX10_rest 11 = .ok (.ifCond .ge 5, 3) := by decide +kernel
theorem dX10_rest_16 : decode cX10_rest 16 = .ok (.iload_n 1, 1) := by decide +kernel
theorem dX10_rest_17 : decode cX10_rest 17 = .ok (.ifCond .ge 6, 3) := by decide +kernel
theorem dX10_rest_23 : decode cX10_rest 23 = .ok (.aload_n 0, 1) := by decide +kernel
theorem dX10_rest_24 : decode cX10_rest 24 = .ok (.iload_n 2, 1) := by decide +kernel
theorem dX10_rest_25 : decode cX10_rest 25 = .ok (.iload_n 1, 1) := by decide +kernel
theorem dX10_rest_26 : decode cX10_rest 26 = .ok (.invokevirtual 218, 3) := by decide +kernel
theorem dX10_search_181 : decode cX10_search 181 = .ok (.iload_n 3, 1) := by decide +kernel
theorem dX10_search_182 : decode cX10_search 182 = .ok (.goto 7, 3) := by decide +kernel
theorem dX10_rest_29 : decode cX10_rest 29 = .ok (.aload_n 0, 1) := by decide +kernel
theorem dX10_rest_30 : decode cX10_rest 30 = .ok (.getfield 194, 3) := by decide +kernel
theorem dX10_rest_33 : decode cX10_rest 33 = .ok (.iconst (-1), 1) := by decide +kernel
theorem dX10_rest_34 : decode cX10_rest 34 = .ok (.if_icmp .ne 5, 3) := by decide +kernel
theorem dX10_rest_37 : decode cX10_rest 37 = .ok (.iconst (-1), 1) := by decide +kernel
theorem dX10_rest_38 : decode cX10_rest 38 = .ok (.ireturn, 1) := by decide +kernel
theorem dX10_rest_39 : decode cX10_rest 39 = .ok (.aload_n 0, 1) := by decide +kernel
theorem dX10_rest_40 : decode cX10_rest 40 = .ok (.invokevirtual 113, 3) := by decide +kernel
theorem dX10_rest_43 : decode cX10_rest 43 = .ok (.aload_n 0, 1) := by decide +kernel
theorem dX10_rest_44 : decode cX10_rest 44 = .ok (.aload_n 0, 1) := by decide +kernel
theorem dX10_rest_45 : decode cX10_rest 45 = .ok (.getfield 194, 3) := by decide +kernel
theorem dX10_rest_48 : decode cX10_rest 48 = .ok (.invokevirtual 200, 3) := by decide +kernel
theorem dX10_rest_51 : decode cX10_rest 51 = .ok (.aload_n 0, 1) := by decide +kernel
theorem dX10_rest_52 : decode cX10_rest 52 = .ok (.invokevirtual 173, 3) := by decide +kernel
theorem dX10_rest_55 : decode cX10_rest 55 = .ok (.ireturn, 1) := by decide +kernel
theorem dX10_rest_20 : decode cX10_rest 20 = .ok (.bipush (-3), 2) := by decide +kernel
theorem dX10_rest_22 : decode cX10_rest 22 = .ok (.ireturn, 1) := by decide +kernel
theorem dX10_extreme_0 : decode cX10_extreme 0 = .ok (.aload_n 0, 1) := by decide +kernel
theorem dX10_extreme_1 : decode cX10_extreme 1 = .ok (.iconst 0, 1) := by decide +kernel
theorem dX10_extreme_2 : decode cX10_extreme 2 = .ok (.putfield 79, 3) := by decide +kernel
theorem dX10_extreme_5 : decode cX10_extreme 5 = .ok (.aload_n 0, 1) := by decide +kernel
theorem dX10_extreme_6 : decode cX10_extreme 6 = .ok (.invokevirtual 215, 3) := by decide +kernel
theorem dX10_extreme_9 : decode cX10_extreme 9 = .ok (.istore_n 2, 1) := by decide +kernel
theorem dX10_extreme_10 : decode cX10_extreme 10 = .ok (.iload_n 2, 1) := by decide +kernel
theorem dX10_extreme_11 : decode cX10_extreme 11 = .ok (.ifCond .ge 5, 3) := by decide +kernel
theorem dX10_extreme_16 : decode cX10_extreme 16 = .ok (.iload_n 1, 1) := by decide +kernel
theorem dX10_extreme_17 : decode cX10_extreme 17 = .ok (.iconst 0, 1) := by decide +kernel
theorem dX10_extreme_18 : decode cX10_extreme 18 = .ok (.iconst 2, 1) := by decide +kernel
theorem dX10_extreme_19 : decode cX10_extreme 19 = .ok (.invokestatic 105, 3) := by decide +kernel
theorem dX10_extreme_22 : decode cX10_extreme 22 = .ok (.ifCond .ne 6, 3) := by decide +kernel
theorem dX10_extreme_25 : decode cX10_extreme 25 = .ok (.bipush (-3), 2) := by decide +kernel
theorem dX10_extreme_27 : decode cX10_extreme 27 = .ok (.ireturn, 1) := by decide +kernel
theorem dX10_extreme_28 : decode cX10_extreme 28 = .ok (.aload_n 0, 1) := by decide +kernel
theorem dX10_extreme_29 : decode cX10_extreme 29 = .ok (.iload_n 2, 1) := by decide +kernel
theorem dX10_extreme_30 : decode cX10_extreme 30 = .ok (.iconst (-1), 1) := by decide +kernel
theorem dX10_extreme_31 : decode cX10_extreme 31 = .ok (.invokevirtual 218, 3) := by decide +kernel
theorem dX10_extreme_34 : decode cX10_extreme 34 = .ok (.iload_n 1, 1) := by decide +kernel
theorem dX10_extreme_35 : decode cX10_extreme 35 = .ok (.ifCond .ne 10, 3) := by decide +kernel
theorem dX10_extreme_45 : decode cX10_extreme 45 = .ok (.iload_n 1, 1) := by decide +kernel
theorem dX10_extreme_46 : decode cX10_extreme 46 = .ok (.iconst 1, 1) := by decide +kernel
theorem dX10_extreme_47 : decode cX10_extreme 47 = .ok (.if_icmp .ne 10, 3) := by decide +kernel
theorem dX10_extreme_57 : decode cX10_extreme 57 = .ok (.aload_n 0, 1) := by decide +kernel
theorem dX10_extreme_58 : decode cX10_extreme 58 = .ok (.getfield 197, 3) := by decide +kernel
theorem dX10_extreme_61 : decode cX10_extreme 61 = .ok (.ireturn, 1) := by decide +kernel
theorem dX10_extreme_50 : decode cX10_extreme 50 = .ok (.aload_n 0, 1) := by decide +kernel
theorem dX10_extreme_51 : decode cX10_extreme 51 = .ok (.getfield 209, 3) := by decide +kernel
theorem dX10_extreme_54 : decode cX10_extreme 54 = .ok (.goto 7, 3) := by decide +kernel
theorem dX10_extreme_38 : decode cX10_extreme 38 = .ok (.aload_n 0, 1) := by decide +kernel
theorem dX10_extreme_39 : decode cX10_extreme 39 = .ok (.getfield 206, 3) := by decide +kernel
theorem dX10_extreme_42 : decode cX10_extreme 42 = .ok (.goto 19, 3) := by decide +kernel
theorem dX10_price_0 : decode cX10_price 0 = .ok (.aload_n 0, 1) := by decide +kernel
theorem dX10_price_1 : decode cX10_price 1 = .ok (.iconst 0, 1) := by decide +kernel
theorem dX10_price_2 : decode cX10_price 2 = .ok (.putfield 79, 3) := by decide +kernel
theorem dX10_price_5 : decode cX10_price 5 = .ok (.aload_n 0, 1) := by decide +kernel
theorem dX10_price_6 : decode cX10_price 6 = .ok (.invokevirtual 215, 3) := by decide +kernel
theorem dX10_price_9 : decode cX10_price 9 = .ok (.istore_n 2, 1) := by decide +kernel
theorem dX10_price_10 : decode cX10_price 10 = .ok (.iload_n 2, 1) := by decide +kernel
theorem dX10_price_11 : decode cX10_price 11 = .ok (.ifCond .ge 5, 3) := by decide +kernel
theorem dX10_price_16 : decode cX10_price 16 = .ok (.iload_n 1, 1) := by decide +kernel
theorem dX10_price_17 : decode cX10_price 17 = .ok (.iconst 0, 1) := by decide +kernel
theorem dX10_price_18 : decode cX10_price 18 = .ok (.iconst 1, 1) := by decide +kernel
theorem dX10_price_19 : decode cX10_price 19 = .ok (.invokestatic 105, 3) := by decide +kernel
theorem dX10_price_22 : decode cX10_price 22 = .ok (.ifCond .ne 6, 3) := by decide +kernel
theorem dX10_price_25 : decode cX10_price 25 = .ok (.bipush (-3), 2) := by decide +kernel
theorem dX10_price_27 : decode cX10_price 27 = .ok (.ireturn, 1) := by decide +kernel
theorem dX10_price_28 : decode cX10_price 28 = .ok (.aload_n 0, 1) := by decide +kernel
theorem dX10_price_29 : decode cX10_price 29 = .ok (.iload_n 2, 1) := by decide +kernel
theorem dX10_price_30 : decode cX10_price 30 = .ok (.iconst (-1), 1) := by decide +kernel
theorem dX10_price_31 : decode cX10_price 31 = .ok (.invokevirtual 218, 3) := by decide +kernel
theorem dX10_price_34 : decode cX10_price 34 = .ok (.aload_n 0, 1) := by decide +kernel
theorem dX10_price_35 : decode cX10_price 35 = .ok (.getfield 203, 3) := by decide +kernel
theorem dX10_price_38 : decode cX10_price 38 = .ok (.ifCond .ne 16, 3) := by decide +kernel
theorem dX10_price_41 : decode cX10_price 41 = .ok (.aload_n 0, 1) := by decide +kernel
theorem dX10_price_42 : decode cX10_price 42 = .ok (.getfield 209, 3) := by decide +kernel
theorem dX10_price_45 : decode cX10_price 45 = .ok (.ifCond .ne 7, 3) := by decide +kernel
theorem dX10_price_48 : decode cX10_price 48 = .ok (.iconst 1, 1) := by decide +kernel
theorem dX10_price_49 : decode cX10_price 49 = .ok (.goto 4, 3) := by decide +kernel
theorem dX10_price_53 : decode cX10_price 53 = .ok (.ireturn, 1) := by decide +kernel
theorem dX10_harms_0 : decode cX10_harms 0 = .ok (.aload_n 0, 1) := by decide +kernel
theorem dX10_harms_1 : decode cX10_harms 1 = .ok (.iconst 0, 1) := by decide +kernel
theorem dX10_harms_2 : decode cX10_harms 2 = .ok (.putfield 79, 3) := by decide +kernel
theorem dX10_harms_5 : decode cX10_harms 5 = .ok (.aload_n 0, 1) := by decide +kernel
theorem dX10_harms_6 : decode cX10_harms 6 = .ok (.invokevirtual 215, 3) := by decide +kernel
theorem dX10_harms_9 : decode cX10_harms 9 = .ok (.istore_n 1, 1) := by decide +kernel
theorem dX10_harms_10 : decode cX10_harms 10 = .ok (.iload_n 1, 1) := by decide +kernel
theorem dX10_harms_11 : decode cX10_harms 11 = .ok (.ifCond .ge 5, 3) := by decide +kernel
theorem dX10_harms_16 : decode cX10_harms 16 = .ok (.aload_n 0, 1) := by decide +kernel
theorem dX10_harms_17 : decode cX10_harms 17 = .ok (.iload_n 1, 1) := by decide +kernel
theorem dX10_harms_18 : decode cX10_harms 18 = .ok (.iconst (-1), 1) := by decide +kernel
theorem dX10_harms_19 : decode cX10_harms 19 = .ok (.invokevirtual 218, 3) := by decide +kernel
theorem dX10_harms_22 : decode cX10_harms 22 = .ok (.aload_n 0, 1) := by decide +kernel
theorem dX10_harms_23 : decode cX10_harms 23 = .ok (.getfield 209, 3) := by decide +kernel
theorem dX10_harms_26 : decode cX10_harms 26 = .ok (.istore_n 2, 1) := by decide +kernel
theorem dX10_harms_27 : decode cX10_harms 27 = .ok (.iconst 0, 1) := by decide +kernel
theorem dX10_harms_28 : decode cX10_harms 28 = .ok (.istore_n 3, 1) := by decide +kernel
theorem dX10_harms_29 : decode cX10_harms 29 = .ok (.iconst 0, 1) := by decide +kernel
theorem dX10_harms_30 : decode cX10_harms 30 = .ok (.istore 4, 2) := by decide +kernel
theorem dX10_harms_32 : decode cX10_harms 32 = .ok (.iload 4, 2) := by decide +kernel
theorem dX10_harms_34 : decode cX10_harms 34 = .ok (.aload_n 0, 1) := by decide +kernel
theorem dX10_harms_35 : decode cX10_harms 35 = .ok (.getfield 89, 3) := by decide +kernel
theorem dX10_harms_38 : decode cX10_harms 38 = .ok (.if_icmp .ge 73, 3) := by decide +kernel
theorem dX10_harms_111 : decode cX10_harms 111 = .ok (.iload_n 3, 1) := by decide +kernel
theorem dX10_harms_112 : decode cX10_harms 112 = .ok (.ireturn, 1) := by decide +kernel
theorem dX10_agrees_0 : decode cX10_agrees 0 = .ok (.aload_n 0, 1) := by decide +kernel
theorem dX10_agrees_1 : decode cX10_agrees 1 = .ok (.iconst 0, 1) := by decide +kernel
theorem dX10_agrees_2 : decode cX10_agrees 2 = .ok (.putfield 79, 3) := by decide +kernel
theorem dX10_agrees_5 : decode cX10_agrees 5 = .ok (.aload_n 0, 1) := by decide +kernel
theorem dX10_agrees_6 : decode cX10_agrees 6 = .ok (.invokevirtual 215, 3) := by decide +kernel
theorem dX10_agrees_9 : decode cX10_agrees 9 = .ok (.istore_n 1, 1) := by decide +kernel
theorem dX10_agrees_10 : decode cX10_agrees 10 = .ok (.iload_n 1, 1) := by decide +kernel
theorem dX10_agrees_11 : decode cX10_agrees 11 = .ok (.ifCond .ge 5, 3) := by decide +kernel
theorem dX10_agrees_16 : decode cX10_agrees 16 = .ok (.aload_n 0, 1) := by decide +kernel
theorem dX10_agrees_17 : decode cX10_agrees 17 = .ok (.invokevirtual 169, 3) := by decide +kernel
theorem dX10_agrees_20 : decode cX10_agrees 20 = .ok (.ifCond .ne 6, 3) := by decide +kernel
theorem dX10_agrees_26 : decode cX10_agrees 26 = .ok (.iconst 0, 1) := by decide +kernel
theorem dX10_agrees_27 : decode cX10_agrees 27 = .ok (.istore_n 2, 1) := by decide +kernel
theorem dX10_agrees_28 : decode cX10_agrees 28 = .ok (.iload_n 2, 1) := by decide +kernel
theorem dX10_agrees_29 : decode cX10_agrees 29 = .ok (.aload_n 0, 1) := by decide +kernel
theorem dX10_agrees_30 : decode cX10_agrees 30 = .ok (.getfield 92, 3) := by decide +kernel
theorem dX10_agrees_33 : decode cX10_agrees 33 = .ok (.if_icmp .ge 21, 3) := by decide +kernel
theorem dX10_agrees_54 : decode cX10_agrees 54 = .ok (.iconst 1, 1) := by decide +kernel
theorem dX10_agrees_55 : decode cX10_agrees 55 = .ok (.istore_n 2, 1) := by decide +kernel
theorem dX10_agrees_56 : decode cX10_agrees 56 = .ok (.iload_n 2, 1) := by decide +kernel
theorem dX10_agrees_57 : decode cX10_agrees 57 = .ok (.iconst 1, 1) := by decide +kernel
theorem dX10_agrees_58 : decode cX10_agrees 58 = .ok (.aload_n 0, 1) := by decide +kernel
theorem dX10_agrees_59 : decode cX10_agrees 59 = .ok (.getfield 92, 3) := by decide +kernel
theorem dX10_agrees_62 : decode cX10_agrees 62 = .ok (.ishl, 1) := by decide +kernel
theorem dX10_agrees_63 : decode cX10_agrees 63 = .ok (.if_icmp .ge 20, 3) := by decide +kernel
theorem dX10_agrees_83 : decode cX10_agrees 83 = .ok (.iconst (-1), 1) := by decide +kernel
theorem dX10_agrees_84 : decode cX10_agrees 84 = .ok (.ireturn, 1) := by decide +kernel
theorem dX10_better_0 : decode cX10_better 0 = .ok (.aload_n 0, 1) := by decide +kernel
theorem dX10_better_1 : decode cX10_better 1 = .ok (.iconst 0, 1) := by decide +kernel
theorem dX10_better_2 : decode cX10_better 2 = .ok (.putfield 79, 3) := by decide +kernel
theorem dX10_better_5 : decode cX10_better 5 = .ok (.iload_n 1, 1) := by decide +kernel
theorem dX10_better_6 : decode cX10_better 6 = .ok (.iconst 1, 1) := by decide +kernel
theorem dX10_better_7 : decode cX10_better 7 = .ok (.sipush 200, 3) := by decide +kernel
theorem dX10_better_10 : decode cX10_better 10 = .ok (.invokestatic 105, 3) := by decide +kernel
theorem dX10_better_13 : decode cX10_better 13 = .ok (.ifCond .ne 6, 3) := by decide +kernel
theorem dX10_better_16 : decode cX10_better 16 = .ok (.bipush (-3), 2) := by decide +kernel
theorem dX10_better_18 : decode cX10_better 18 = .ok (.ireturn, 1) := by decide +kernel
theorem dX10_better_19 : decode cX10_better 19 = .ok (.aload_n 0, 1) := by decide +kernel
theorem dX10_better_20 : decode cX10_better 20 = .ok (.invokevirtual 169, 3) := by decide +kernel
theorem dX10_better_23 : decode cX10_better 23 = .ok (.ifCond .ne 6, 3) := by decide +kernel
theorem dX10_better_29 : decode cX10_better 29 = .ok (.aload_n 0, 1) := by decide +kernel
theorem dX10_better_30 : decode cX10_better 30 = .ok (.invokevirtual 113, 3) := by decide +kernel
theorem dX10_better_33 : decode cX10_better 33 = .ok (.aload_n 0, 1) := by decide +kernel
theorem dX10_better_34 : decode cX10_better 34 = .ok (.invokevirtual 141, 3) := by decide +kernel
theorem dX10_better_37 : decode cX10_better 37 = .ok (.iconst 0, 1) := by decide +kernel
theorem dX10_better_38 : decode cX10_better 38 = .ok (.istore_n 2, 1) := by decide +kernel
theorem dX10_better_39 : decode cX10_better 39 = .ok (.aload_n 0, 1) := by decide +kernel
theorem dX10_better_40 : decode cX10_better 40 = .ok (.invokevirtual 180, 3) := by decide +kernel
theorem dX10_better_43 : decode cX10_better 43 = .ok (.istore_n 3, 1) := by decide +kernel
theorem dX10_better_44 : decode cX10_better 44 = .ok (.iload_n 2, 1) := by decide +kernel
theorem dX10_better_45 : decode cX10_better 45 = .ok (.iload_n 1, 1) := by decide +kernel
theorem dX10_better_46 : decode cX10_better 46 = .ok (.if_icmp .ge 30, 3) := by decide +kernel
theorem dX10_better_49 : decode cX10_better 49 = .ok (.iload_n 3, 1) := by decide +kernel
theorem dX10_better_50 : decode cX10_better 50 = .ok (.iconst (-1), 1) := by decide +kernel
theorem dX10_better_51 : decode cX10_better 51 = .ok (.if_icmp .eq 25, 3) := by decide +kernel
theorem dX10_better_76 : decode cX10_better 76 = .ok (.iload_n 2, 1) := by decide +kernel
theorem dX10_better_77 : decode cX10_better 77 = .ok (.ireturn, 1) := by decide +kernel
theorem dX10_queue_0 : decode cX10_queue 0 = .ok (.aload_n 0, 1) := by decide +kernel
theorem dX10_queue_1 : decode cX10_queue 1 = .ok (.iconst 0, 1) := by decide +kernel
theorem dX10_queue_2 : decode cX10_queue 2 = .ok (.putfield 79, 3) := by decide +kernel
theorem dX10_queue_5 : decode cX10_queue 5 = .ok (.aload_n 0, 1) := by decide +kernel
theorem dX10_queue_6 : decode cX10_queue 6 = .ok (.invokevirtual 141, 3) := by decide +kernel
theorem dX10_queue_9 : decode cX10_queue 9 = .ok (.iconst 0, 1) := by decide +kernel
theorem dX10_queue_10 : decode cX10_queue 10 = .ok (.istore_n 1, 1) := by decide +kernel
theorem dX10_queue_11 : decode cX10_queue 11 = .ok (.iload_n 1, 1) := by decide +kernel
theorem dX10_queue_12 : decode cX10_queue 12 = .ok (.aload_n 0, 1) := by decide +kernel
theorem dX10_queue_13 : decode cX10_queue 13 = .ok (.getfield 92, 3) := by decide +kernel
theorem dX10_queue_16 : decode cX10_queue 16 = .ok (.if_icmp .ge 20, 3) := by decide +kernel
theorem dX10_queue_36 : decode cX10_queue 36 = .ok (.aload_n 0, 1) := by decide +kernel
theorem dX10_queue_37 : decode cX10_queue 37 = .ok (.invokevirtual 113, 3) := by decide +kernel
theorem dX10_queue_40 : decode cX10_queue 40 = .ok (.aload_n 0, 1) := by decide +kernel
theorem dX10_queue_41 : decode cX10_queue 41 = .ok (.invokevirtual 116, 3) := by decide +kernel
theorem dX10_queue_44 : decode cX10_queue 44 = .ok (.iconst 0, 1) := by decide +kernel
theorem dX10_queue_45 : decode cX10_queue 45 = .ok (.istore_n 1, 1) := by decide +kernel
theorem dX10_queue_46 : decode cX10_queue 46 = .ok (.iload_n 1, 1) := by decide +kernel
theorem dX10_queue_47 : decode cX10_queue 47 = .ok (.aload_n 0, 1) := by decide +kernel
theorem dX10_queue_48 : decode cX10_queue 48 = .ok (.getfield 92, 3) := by decide +kernel
theorem dX10_queue_51 : decode cX10_queue 51 = .ok (.if_icmp .ge 20, 3) := by decide +kernel
theorem dX10_queue_71 : decode cX10_queue 71 = .ok (.aload_n 0, 1) := by decide +kernel
theorem dX10_queue_72 : decode cX10_queue 72 = .ok (.invokevirtual 173, 3) := by decide +kernel
theorem dX10_queue_75 : decode cX10_queue 75 = .ok (.ireturn, 1) := by decide +kernel
theorem dX10_teach_0 : decode cX10_teach 0 = .ok (.aload_n 0, 1) := by decide +kernel
theorem dX10_teach_1 : decode cX10_teach 1 = .ok (.iconst 0, 1) := by decide +kernel
theorem dX10_teach_2 : decode cX10_teach 2 = .ok (.putfield 79, 3) := by decide +kernel
theorem dX10_teach_5 : decode cX10_teach 5 = .ok (.aload_n 0, 1) := by decide +kernel
theorem dX10_teach_6 : decode cX10_teach 6 = .ok (.invokevirtual 215, 3) := by decide +kernel
theorem dX10_teach_9 : decode cX10_teach 9 = .ok (.istore_n 1, 1) := by decide +kernel
theorem dX10_teach_10 : decode cX10_teach 10 = .ok (.iload_n 1, 1) := by decide +kernel
theorem dX10_teach_11 : decode cX10_teach 11 = .ok (.ifCond .ge 5, 3) := by decide +kernel
theorem dX10_teach_16 : decode cX10_teach 16 = .ok (.aload_n 0, 1) := by decide +kernel
theorem dX10_teach_17 : decode cX10_teach 17 = .ok (.iload_n 1, 1) := by decide +kernel
theorem dX10_teach_18 : decode cX10_teach 18 = .ok (.iconst (-1), 1) := by decide +kernel
theorem dX10_teach_19 : decode cX10_teach 19 = .ok (.invokevirtual 218, 3) := by decide +kernel
theorem dX10_teach_22 : decode cX10_teach 22 = .ok (.aload_n 0, 1) := by decide +kernel
theorem dX10_teach_23 : decode cX10_teach 23 = .ok (.invokevirtual 113, 3) := by decide +kernel
theorem dX10_teach_26 : decode cX10_teach 26 = .ok (.aload_n 0, 1) := by decide +kernel
theorem dX10_teach_27 : decode cX10_teach 27 = .ok (.aload_n 0, 1) := by decide +kernel
theorem dX10_teach_28 : decode cX10_teach 28 = .ok (.getfield 188, 3) := by decide +kernel
theorem dX10_teach_31 : decode cX10_teach 31 = .ok (.invokevirtual 200, 3) := by decide +kernel
theorem dX10_teach_34 : decode cX10_teach 34 = .ok (.aload_n 0, 1) := by decide +kernel
theorem dX10_teach_35 : decode cX10_teach 35 = .ok (.iconst (-1), 1) := by decide +kernel
theorem dX10_teach_36 : decode cX10_teach 36 = .ok (.invokevirtual 151, 3) := by decide +kernel
theorem dX10_teach_39 : decode cX10_teach 39 = .ok (.iconst 0, 1) := by decide +kernel
theorem dX10_teach_40 : decode cX10_teach 40 = .ok (.istore_n 2, 1) := by decide +kernel
theorem dX10_teach_41 : decode cX10_teach 41 = .ok (.iload_n 2, 1) := by decide +kernel
theorem dX10_teach_42 : decode cX10_teach 42 = .ok (.aload_n 0, 1) := by decide +kernel
theorem dX10_teach_43 : decode cX10_teach 43 = .ok (.getfield 89, 3) := by decide +kernel
theorem dX10_teach_46 : decode cX10_teach 46 = .ok (.if_icmp .ge 75, 3) := by decide +kernel
theorem dX10_teach_121 : decode cX10_teach 121 = .ok (.aload_n 0, 1) := by decide +kernel
theorem dX10_teach_122 : decode cX10_teach 122 = .ok (.invokevirtual 180, 3) := by decide +kernel
theorem dX10_teach_125 : decode cX10_teach 125 = .ok (.iconst (-1), 1) := by decide +kernel
theorem dX10_teach_126 : decode cX10_teach 126 = .ok (.if_icmp .ne 7, 3) := by decide +kernel
theorem dX10_teach_129 : decode cX10_teach 129 = .ok (.iconst 1, 1) := by decide +kernel
theorem dX10_teach_130 : decode cX10_teach 130 = .ok (.goto 4, 3) := by decide +kernel
theorem dX10_teach_134 : decode cX10_teach 134 = .ok (.ireturn, 1) := by decide +kernel
theorem dX10_level_0 : decode cX10_level 0 = .ok (.aload_n 0, 1) := by decide +kernel
theorem dX10_level_1 : decode cX10_level 1 = .ok (.iconst 0, 1) := by decide +kernel
theorem dX10_level_2 : decode cX10_level 2 = .ok (.putfield 79, 3) := by decide +kernel
theorem dX10_level_5 : decode cX10_level 5 = .ok (.iload_n 1, 1) := by decide +kernel
theorem dX10_level_6 : decode cX10_level 6 = .ok (.invokestatic 109, 3) := by decide +kernel
theorem dX10_level_9 : decode cX10_level 9 = .ok (.ifCond .eq 46, 3) := by decide +kernel
theorem dX10_level_55 : decode cX10_level 55 = .ok (.ldc2_w 250, 3) := by decide +kernel
theorem dX10_level_58 : decode cX10_level 58 = .ok (.lreturn, 1) := by decide +kernel
theorem dX10_level_12 : decode cX10_level 12 = .ok (.iload_n 2, 1) := by decide +kernel
theorem dX10_level_13 : decode cX10_level 13 = .ok (.invokestatic 109, 3) := by decide +kernel
theorem dX10_level_16 : decode cX10_level 16 = .ok (.ifCond .eq 39, 3) := by decide +kernel
theorem dX10_level_19 : decode cX10_level 19 = .ok (.iload_n 1, 1) := by decide +kernel
theorem dX10_level_20 : decode cX10_level 20 = .ok (.iload_n 2, 1) := by decide +kernel
theorem dX10_level_21 : decode cX10_level 21 = .ok (.if_icmp .eq 34, 3) := by decide +kernel
theorem dX10_level_24 : decode cX10_level 24 = .ok (.iload_n 3, 1) := by decide +kernel
theorem dX10_level_25 : decode cX10_level 25 = .ok (.iconst 1, 1) := by decide +kernel
theorem dX10_level_26 : decode cX10_level 26 = .ok (.sipush 1000, 3) := by decide +kernel
theorem dX10_level_29 : decode cX10_level 29 = .ok (.invokestatic 105, 3) := by decide +kernel
theorem dX10_level_32 : decode cX10_level 32 = .ok (.ifCond .eq 23, 3) := by decide +kernel
theorem dX10_level_35 : decode cX10_level 35 = .ok (.iload 4, 2) := by decide +kernel
theorem dX10_level_37 : decode cX10_level 37 = .ok (.iconst 0, 1) := by decide +kernel
theorem dX10_level_38 : decode cX10_level 38 = .ok (.iconst 1, 1) := by decide +kernel
theorem dX10_level_39 : decode cX10_level 39 = .ok (.invokestatic 105, 3) := by decide +kernel
theorem dX10_level_42 : decode cX10_level 42 = .ok (.ifCond .eq 13, 3) := by decide +kernel
theorem dX10_level_45 : decode cX10_level 45 = .ok (.iload 5, 2) := by decide +kernel
theorem dX10_level_47 : decode cX10_level 47 = .ok (.iconst 0, 1) := by decide +kernel
theorem dX10_level_48 : decode cX10_level 48 = .ok (.iconst 1, 1) := by decide +kernel
theorem dX10_level_49 : decode cX10_level 49 = .ok (.invokestatic 105, 3) := by decide +kernel
theorem dX10_level_52 : decode cX10_level 52 = .ok (.ifCond .ne 7, 3) := by decide +kernel
theorem dX10_level_59 : decode cX10_level 59 = .ok (.aload_n 0, 1) := by decide +kernel
theorem dX10_level_60 : decode cX10_level 60 = .ok (.iload_n 1, 1) := by decide +kernel
theorem dX10_level_61 : decode cX10_level 61 = .ok (.iload_n 2, 1) := by decide +kernel
theorem dX10_level_62 : decode cX10_level 62 = .ok (.iload_n 3, 1) := by decide +kernel
theorem dX10_level_63 : decode cX10_level 63 = .ok (.iload 4, 2) := by decide +kernel
theorem dX10_level_65 : decode cX10_level 65 = .ok (.invokevirtual 252, 3) := by decide +kernel
theorem dX10_findLevel_0 : decode cX10_findLevel 0 = .ok (.iconst (-1), 1) := by decide +kernel
theorem dX10_findLevel_1 : decode cX10_findLevel 1 = .ok (.istore 5, 2) := by decide +kernel
theorem dX10_findLevel_3 : decode cX10_findLevel 3 = .ok (.iconst 0, 1) := by decide +kernel
theorem dX10_findLevel_4 : decode cX10_findLevel 4 = .ok (.istore 6, 2) := by decide +kernel
theorem dX10_findLevel_6 : decode cX10_findLevel 6 = .ok (.iconst 0, 1) := by decide +kernel
theorem dX10_findLevel_7 : decode cX10_findLevel 7 = .ok (.istore 7, 2) := by decide +kernel
theorem dX10_findLevel_9 : decode cX10_findLevel 9 = .ok (.iload 7, 2) := by decide +kernel
theorem dX10_findLevel_11 : decode cX10_findLevel 11 = .ok (.aload_n 0, 1) := by decide +kernel
theorem dX10_findLevel_12 : decode cX10_findLevel 12 = .ok (.getfield 89, 3) := by decide +kernel
theorem dX10_findLevel_15 : decode cX10_findLevel 15 = .ok (.if_icmp .ge 64, 3) := by decide +kernel
theorem dX10_findLevel_79 : decode cX10_findLevel 79 = .ok (.aload_n 0, 1) := by decide +kernel
theorem dX10_findLevel_80 : decode cX10_findLevel 80 = .ok (.iload 5, 2) := by decide +kernel
theorem dX10_findLevel_82 : decode cX10_findLevel 82 = .ok (.iconst (-1), 1) := by decide +kernel
theorem dX10_findLevel_83 : decode cX10_findLevel 83 = .ok (.if_icmp .ne 9, 3) := by decide +kernel
theorem dX10_findLevel_86 : decode cX10_findLevel 86 = .ok (.ldc2_w 236, 3) := by decide +kernel
theorem dX10_findLevel_89 : decode cX10_findLevel 89 = .ok (.goto 6, 3) := by decide +kernel
theorem dX10_findLevel_95 : decode cX10_findLevel 95 = .ok (.putfield 238, 3) := by decide +kernel
theorem dX10_findLevel_98 : decode cX10_findLevel 98 = .ok (.aload_n 0, 1) := by decide +kernel
theorem dX10_findLevel_99 : decode cX10_findLevel 99 = .ok (.lconst 1, 1) := by decide +kernel
theorem dX10_findLevel_100 : decode cX10_findLevel 100 = .ok (.putfield 242, 3) := by decide +kernel
theorem dX10_findLevel_103 : decode cX10_findLevel 103 = .ok (.iconst 0, 1) := by decide +kernel
theorem dX10_findLevel_104 : decode cX10_findLevel 104 = .ok (.istore 7, 2) := by decide +kernel
theorem dX10_findLevel_106 : decode cX10_findLevel 106 = .ok (.iload 7, 2) := by decide +kernel
theorem dX10_findLevel_108 : decode cX10_findLevel 108 = .ok (.sipush 1000, 3) := by decide +kernel
theorem dX10_findLevel_111 : decode cX10_findLevel 111 = .ok (.if_icmp .gt 152, 3) := by decide +kernel
theorem dX10_findLevel_114 : decode cX10_findLevel 114 = .ok (.iload_n 3, 1) := by decide +kernel
theorem dX10_findLevel_115 : decode cX10_findLevel 115 = .ok (.i2l, 1) := by decide +kernel
theorem dX10_findLevel_116 : decode cX10_findLevel 116 = .ok (.ldc2_w 245, 3) := by decide +kernel
theorem dX10_findLevel_119 : decode cX10_findLevel 119 = .ok (.lmul, 1) := by decide +kernel
theorem dX10_findLevel_120 : decode cX10_findLevel 120 = .ok (.lstore 8, 2) := by decide +kernel
theorem dX10_findLevel_122 : decode cX10_findLevel 122 = .ok (.lconst 0, 1) := by decide +kernel
theorem dX10_findLevel_123 : decode cX10_findLevel 123 = .ok (.lstore 10, 2) := by decide +kernel
theorem dX10_findLevel_125 : decode cX10_findLevel 125 = .ok (.iconst 0, 1) := by decide +kernel
theorem dX10_findLevel_126 : decode cX10_findLevel 126 = .ok (.istore 12, 2) := by decide +kernel
theorem dX10_findLevel_128 : decode cX10_findLevel 128 = .ok (.iload 12, 2) := by decide +kernel
theorem dX10_findLevel_130 : decode cX10_findLevel 130 = .ok (.aload_n 0, 1) := by decide +kernel
theorem dX10_findLevel_131 : decode cX10_findLevel 131 = .ok (.getfield 89, 3) := by decide +kernel
theorem dX10_findLevel_134 : decode cX10_findLevel 134 = .ok (.if_icmp .ge 86, 3) := by decide +kernel
theorem dX10_findLevel_220 : decode cX10_findLevel 220 = .ok (.lload 10, 2) := by decide +kernel
theorem dX10_findLevel_222 : decode cX10_findLevel 222 = .ok (.lconst 0, 1) := by decide +kernel
theorem dX10_findLevel_223 : decode cX10_findLevel 223 = .ok (.lcmp, 1) := by decide +kernel
theorem dX10_findLevel_224 : decode cX10_findLevel 224 = .ok (.ifCond .le 33, 3) := by decide +kernel
theorem dX10_findLevel_257 : decode cX10_findLevel 257 = .ok (.iinc 7 1, 3) := by decide +kernel
theorem dX10_findLevel_260 : decode cX10_findLevel 260 = .ok (.goto (-154), 3) := by decide +kernel
theorem dX10_findLevel_263 : decode cX10_findLevel 263 = .ok (.aload_n 0, 1) := by decide +kernel
theorem dX10_findLevel_264 : decode cX10_findLevel 264 = .ok (.getfield 238, 3) := by decide +kernel
theorem dX10_findLevel_267 : decode cX10_findLevel 267 = .ok (.aload_n 0, 1) := by decide +kernel
theorem dX10_findLevel_268 : decode cX10_findLevel 268 = .ok (.getfield 242, 3) := by decide +kernel
theorem dX10_findLevel_271 : decode cX10_findLevel 271 = .ok (.invokestatic 222, 3) := by decide +kernel
theorem dX10_divisor_0 : decode cX10_divisor 0 = .ok (.lload_n 0, 1) := by decide +kernel
theorem dX10_divisor_1 : decode cX10_divisor 1 = .ok (.lstore 4, 2) := by decide +kernel
theorem dX10_divisor_3 : decode cX10_divisor 3 = .ok (.lload_n 2, 1) := by decide +kernel
theorem dX10_divisor_4 : decode cX10_divisor 4 = .ok (.lstore 6, 2) := by decide +kernel
theorem dX10_divisor_6 : decode cX10_divisor 6 = .ok (.lload 6, 2) := by decide +kernel
theorem dX10_divisor_8 : decode cX10_divisor 8 = .ok (.lconst 0, 1) := by decide +kernel
theorem dX10_divisor_9 : decode cX10_divisor 9 = .ok (.lcmp, 1) := by decide +kernel
theorem dX10_divisor_10 : decode cX10_divisor 10 = .ok (.ifCond .eq 21, 3) := by decide +kernel
theorem dX10_divisor_13 : decode cX10_divisor 13 = .ok (.lload 4, 2) := by decide +kernel
theorem dX10_divisor_15 : decode cX10_divisor 15 = .ok (.lload 6, 2) := by decide +kernel
theorem dX10_divisor_17 : decode cX10_divisor 17 = .ok (.lrem, 1) := by decide +kernel
theorem dX10_divisor_18 : decode cX10_divisor 18 = .ok (.lstore 8, 2) := by decide +kernel
theorem dX10_divisor_20 : decode cX10_divisor 20 = .ok (.lload 6, 2) := by decide +kernel
theorem dX10_divisor_22 : decode cX10_divisor 22 = .ok (.lstore 4, 2) := by decide +kernel
theorem dX10_divisor_24 : decode cX10_divisor 24 = .ok (.lload 8, 2) := by decide +kernel
theorem dX10_divisor_26 : decode cX10_divisor 26 = .ok (.lstore 6, 2) := by decide +kernel
theorem dX10_divisor_28 : decode cX10_divisor 28 = .ok (.goto (-22), 3) := by decide +kernel
theorem dX10_divisor_31 : decode cX10_divisor 31 = .ok (.lload 4, 2) := by decide +kernel
theorem dX10_divisor_33 : decode cX10_divisor 33 = .ok (.lreturn, 1) := by decide +kernel
theorem dX10_findLevel_274 : decode cX10_findLevel 274 = .ok (.lstore 7, 2) := by decide +kernel
theorem dX10_findLevel_276 : decode cX10_findLevel 276 = .ok (.aload_n 0, 1) := by decide +kernel
theorem dX10_findLevel_277 : decode cX10_findLevel 277 = .ok (.dup, 1) := by decide +kernel
theorem dX10_findLevel_278 : decode cX10_findLevel 278 = .ok (.getfield 238, 3) := by decide +kernel
theorem dX10_findLevel_281 : decode cX10_findLevel 281 = .ok (.lload 7, 2) := by decide +kernel
theorem dX10_findLevel_283 : decode cX10_findLevel 283 = .ok (.ldiv, 1) := by decide +kernel
theorem dX10_findLevel_284 : decode cX10_findLevel 284 = .ok (.putfield 238, 3) := by decide +kernel
theorem dX10_findLevel_287 : decode cX10_findLevel 287 = .ok (.aload_n 0, 1) := by decide +kernel
theorem dX10_findLevel_288 : decode cX10_findLevel 288 = .ok (.dup, 1) := by decide +kernel
theorem dX10_findLevel_289 : decode cX10_findLevel 289 = .ok (.getfield 242, 3) := by decide +kernel
theorem dX10_findLevel_292 : decode cX10_findLevel 292 = .ok (.lload 7, 2) := by decide +kernel
theorem dX10_findLevel_294 : decode cX10_findLevel 294 = .ok (.ldiv, 1) := by decide +kernel
theorem dX10_findLevel_295 : decode cX10_findLevel 295 = .ok (.putfield 242, 3) := by decide +kernel
theorem dX10_findLevel_298 : decode cX10_findLevel 298 = .ok (.iload 6, 2) := by decide +kernel
theorem dX10_findLevel_300 : decode cX10_findLevel 300 = .ok (.ireturn, 1) := by decide +kernel
theorem dX10_level_68 : decode cX10_level 68 = .ok (.ifCond .ne 7, 3) := by decide +kernel
theorem dX10_level_71 : decode cX10_level 71 = .ok (.ldc2_w 256, 3) := by decide +kernel
theorem dX10_level_74 : decode cX10_level 74 = .ok (.lreturn, 1) := by decide +kernel
theorem dX10_share_0 : decode cX10_share 0 = .ok (.aload_n 0, 1) := by decide +kernel
theorem dX10_share_1 : decode cX10_share 1 = .ok (.iconst 0, 1) := by decide +kernel
theorem dX10_share_2 : decode cX10_share 2 = .ok (.putfield 79, 3) := by decide +kernel
theorem dX10_share_5 : decode cX10_share 5 = .ok (.aload_n 0, 1) := by decide +kernel
theorem dX10_share_6 : decode cX10_share 6 = .ok (.iload_n 1, 1) := by decide +kernel
theorem dX10_share_7 : decode cX10_share 7 = .ok (.invokevirtual 119, 3) := by decide +kernel
theorem dX10_share_10 : decode cX10_share 10 = .ok (.ifCond .eq 33, 3) := by decide +kernel
theorem dX10_share_43 : decode cX10_share 43 = .ok (.ldc2_w 250, 3) := by decide +kernel
theorem dX10_share_46 : decode cX10_share 46 = .ok (.lreturn, 1) := by decide +kernel
theorem dX10_undo_0 : decode cX10_undo 0 = .ok (.aload_n 0, 1) := by decide +kernel
theorem dX10_undo_1 : decode cX10_undo 1 = .ok (.iconst 0, 1) := by decide +kernel
theorem dX10_undo_2 : decode cX10_undo 2 = .ok (.putfield 79, 3) := by decide +kernel
theorem dX10_undo_5 : decode cX10_undo 5 = .ok (.aload_n 0, 1) := by decide +kernel
theorem dX10_undo_6 : decode cX10_undo 6 = .ok (.getfield 99, 3) := by decide +kernel
theorem dX10_undo_9 : decode cX10_undo 9 = .ok (.ifCond .ne 6, 3) := by decide +kernel
theorem dX10_undo_12 : decode cX10_undo 12 = .ok (.bipush (-4), 2) := by decide +kernel
theorem dX10_undo_14 : decode cX10_undo 14 = .ok (.ireturn, 1) := by decide +kernel
theorem dX10_count_0 : decode cX10_count 0 = .ok (.aload_n 0, 1) := by decide +kernel
theorem dX10_count_1 : decode cX10_count 1 = .ok (.iconst 0, 1) := by decide +kernel
theorem dX10_count_2 : decode cX10_count 2 = .ok (.putfield 79, 3) := by decide +kernel
theorem dX10_count_5 : decode cX10_count 5 = .ok (.iconst 0, 1) := by decide +kernel
theorem dX10_count_6 : decode cX10_count 6 = .ok (.istore_n 2, 1) := by decide +kernel
theorem dX10_count_7 : decode cX10_count 7 = .ok (.iload_n 1, 1) := by decide +kernel
theorem dX10_count_8 : decode cX10_count 8 = .ok (.tableswitch 154 0 5 #[40, 45, 50, 77, 113, 149], 40) := by decide +kernel
theorem dX10_count_48 : decode cX10_count 48 = .ok (.aload_n 0, 1) := by decide +kernel
theorem dX10_count_49 : decode cX10_count 49 = .ok (.getfield 89, 3) := by decide +kernel
theorem dX10_count_52 : decode cX10_count 52 = .ok (.ireturn, 1) := by decide +kernel
theorem dX10_count_53 : decode cX10_count 53 = .ok (.aload_n 0, 1) := by decide +kernel
theorem dX10_count_54 : decode cX10_count 54 = .ok (.getfield 92, 3) := by decide +kernel
theorem dX10_count_57 : decode cX10_count 57 = .ok (.ireturn, 1) := by decide +kernel
theorem dX10_count_58 : decode cX10_count 58 = .ok (.iconst 0, 1) := by decide +kernel
theorem dX10_count_59 : decode cX10_count 59 = .ok (.istore_n 3, 1) := by decide +kernel
theorem dX10_count_60 : decode cX10_count 60 = .ok (.iload_n 3, 1) := by decide +kernel
theorem dX10_count_61 : decode cX10_count 61 = .ok (.aload_n 0, 1) := by decide +kernel
theorem dX10_count_62 : decode cX10_count 62 = .ok (.getfield 89, 3) := by decide +kernel
theorem dX10_count_65 : decode cX10_count 65 = .ok (.if_icmp .ge 18, 3) := by decide +kernel
theorem dX10_count_83 : decode cX10_count 83 = .ok (.iload_n 2, 1) := by decide +kernel
theorem dX10_count_84 : decode cX10_count 84 = .ok (.ireturn, 1) := by decide +kernel
theorem dX10_count_85 : decode cX10_count 85 = .ok (.iconst 0, 1) := by decide +kernel
theorem dX10_count_86 : decode cX10_count 86 = .ok (.istore_n 3, 1) := by decide +kernel
theorem dX10_count_87 : decode cX10_count 87 = .ok (.iload_n 3, 1) := by decide +kernel
theorem dX10_count_88 : decode cX10_count 88 = .ok (.aload_n 0, 1) := by decide +kernel
theorem dX10_count_89 : decode cX10_count 89 = .ok (.getfield 89, 3) := by decide +kernel
theorem dX10_count_92 : decode cX10_count 92 = .ok (.if_icmp .ge 27, 3) := by decide +kernel
theorem dX10_count_119 : decode cX10_count 119 = .ok (.iload_n 2, 1) := by decide +kernel
theorem dX10_count_120 : decode cX10_count 120 = .ok (.ireturn, 1) := by decide +kernel
theorem dX10_count_121 : decode cX10_count 121 = .ok (.iconst 0, 1) := by decide +kernel
theorem dX10_count_122 : decode cX10_count 122 = .ok (.istore_n 3, 1) := by decide +kernel
theorem dX10_count_123 : decode cX10_count 123 = .ok (.iload_n 3, 1) := by decide +kernel
theorem dX10_count_124 : decode cX10_count 124 = .ok (.aload_n 0, 1) := by decide +kernel
theorem dX10_count_125 : decode cX10_count 125 = .ok (.getfield 92, 3) := by decide +kernel
theorem dX10_count_128 : decode cX10_count 128 = .ok (.if_icmp .ge 27, 3) := by decide +kernel
theorem dX10_count_155 : decode cX10_count 155 = .ok (.iload_n 2, 1) := by decide +kernel
theorem dX10_count_156 : decode cX10_count 156 = .ok (.ireturn, 1) := by decide +kernel
theorem dX10_count_157 : decode cX10_count 157 = .ok (.aload_n 0, 1) := by decide +kernel
theorem dX10_count_158 : decode cX10_count 158 = .ok (.getfield 99, 3) := by decide +kernel
theorem dX10_count_161 : decode cX10_count 161 = .ok (.ireturn, 1) := by decide +kernel
theorem dX10_count_162 : decode cX10_count 162 = .ok (.bipush (-3), 2) := by decide +kernel
theorem dX10_count_164 : decode cX10_count 164 = .ok (.ireturn, 1) := by decide +kernel
theorem dL_law_0 : decode cL_law 0 = .ok (.new 7, 3) := by decide +kernel
theorem dL_law_3 : decode cL_law 3 = .ok (.dup, 1) := by decide +kernel
theorem dL_law_4 : decode cL_law 4 = .ok (.invokespecial 9, 3) := by decide +kernel
theorem dL_law_7 : decode cL_law 7 = .ok (.astore_n 1, 1) := by decide +kernel
theorem dL_law_8 : decode cL_law 8 = .ok (.new 10, 3) := by decide +kernel
theorem dL_law_11 : decode cL_law 11 = .ok (.dup, 1) := by decide +kernel
theorem dL_law_12 : decode cL_law 12 = .ok (.invokespecial 12, 3) := by decide +kernel
theorem dL_law_15 : decode cL_law 15 = .ok (.astore_n 2, 1) := by decide +kernel
theorem dL_law_16 : decode cL_law 16 = .ok (.iconst 0, 1) := by decide +kernel
theorem dL_law_17 : decode cL_law 17 = .ok (.istore_n 3, 1) := by decide +kernel
theorem dL_law_1121 : decode cL_law 1121 = .ok (.iinc 3 6, 3) := by decide +kernel
theorem dL_law_1124 : decode cL_law 1124 = .ok (.goto (-1106), 3) := by decide +kernel
theorem dL_law_18 : decode cL_law 18 = .ok (.iload_n 3, 1) := by decide +kernel
theorem dL_law_19 : decode cL_law 19 = .ok (.aload_n 0, 1) := by decide +kernel
theorem dL_law_20 : decode cL_law 20 = .ok (.arraylength, 1) := by decide +kernel
theorem dL_law_21 : decode cL_law 21 = .ok (.bipush 6, 2) := by decide +kernel
theorem dL_law_23 : decode cL_law 23 = .ok (.isub, 1) := by decide +kernel
theorem dL_law_24 : decode cL_law 24 = .ok (.if_icmp .gt 1103, 3) := by decide +kernel
theorem dL_law_1127 : decode cL_law 1127 = .ok (.iconst 1, 1) := by decide +kernel
theorem dL_law_1128 : decode cL_law 1128 = .ok (.ireturn, 1) := by decide +kernel
theorem dL_law_180 : decode cL_law 180 = .ok (.aload_n 1, 1) := by decide +kernel
theorem dL_law_181 : decode cL_law 181 = .ok (.aload_n 0, 1) := by decide +kernel
theorem dL_law_182 : decode cL_law 182 = .ok (.iload_n 3, 1) := by decide +kernel
theorem dL_law_183 : decode cL_law 183 = .ok (.iconst 1, 1) := by decide +kernel
theorem dL_law_184 : decode cL_law 184 = .ok (.iadd, 1) := by decide +kernel
theorem dL_law_185 : decode cL_law 185 = .ok (.iaload, 1) := by decide +kernel
theorem dL_law_186 : decode cL_law 186 = .ok (.aload_n 0, 1) := by decide +kernel
theorem dL_law_187 : decode cL_law 187 = .ok (.iload_n 3, 1) := by decide +kernel
theorem dL_law_188 : decode cL_law 188 = .ok (.iconst 2, 1) := by decide +kernel
theorem dL_law_189 : decode cL_law 189 = .ok (.iadd, 1) := by decide +kernel
theorem dL_law_190 : decode cL_law 190 = .ok (.iaload, 1) := by decide +kernel
theorem dL_law_191 : decode cL_law 191 = .ok (.aload_n 0, 1) := by decide +kernel
theorem dL_law_192 : decode cL_law 192 = .ok (.iload_n 3, 1) := by decide +kernel
theorem dL_law_193 : decode cL_law 193 = .ok (.iconst 3, 1) := by decide +kernel
theorem dL_law_194 : decode cL_law 194 = .ok (.iadd, 1) := by decide +kernel
theorem dL_law_195 : decode cL_law 195 = .ok (.iaload, 1) := by decide +kernel
theorem dL_law_196 : decode cL_law 196 = .ok (.aload_n 0, 1) := by decide +kernel
theorem dL_law_197 : decode cL_law 197 = .ok (.iload_n 3, 1) := by decide +kernel
theorem dL_law_198 : decode cL_law 198 = .ok (.iconst 4, 1) := by decide +kernel
theorem dL_law_199 : decode cL_law 199 = .ok (.iadd, 1) := by decide +kernel
theorem dL_law_200 : decode cL_law 200 = .ok (.iaload, 1) := by decide +kernel
theorem dL_law_201 : decode cL_law 201 = .ok (.aload_n 0, 1) := by decide +kernel
theorem dL_law_202 : decode cL_law 202 = .ok (.iload_n 3, 1) := by decide +kernel
theorem dL_law_203 : decode cL_law 203 = .ok (.iconst 5, 1) := by decide +kernel
theorem dL_law_204 : decode cL_law 204 = .ok (.iadd, 1) := by decide +kernel
theorem dL_law_205 : decode cL_law 205 = .ok (.iaload, 1) := by decide +kernel
theorem dL_law_206 : decode cL_law 206 = .ok (.invokevirtual 13, 3) := by decide +kernel
theorem dL_law_209 : decode cL_law 209 = .ok (.aload_n 2, 1) := by decide +kernel
theorem dL_law_210 : decode cL_law 210 = .ok (.aload_n 0, 1) := by decide +kernel
theorem dL_law_211 : decode cL_law 211 = .ok (.iload_n 3, 1) := by decide +kernel
theorem dL_law_212 : decode cL_law 212 = .ok (.iconst 1, 1) := by decide +kernel
theorem dL_law_213 : decode cL_law 213 = .ok (.iadd, 1) := by decide +kernel
theorem dL_law_214 : decode cL_law 214 = .ok (.iaload, 1) := by decide +kernel
theorem dL_law_215 : decode cL_law 215 = .ok (.aload_n 0, 1) := by decide +kernel
theorem dL_law_216 : decode cL_law 216 = .ok (.iload_n 3, 1) := by decide +kernel
theorem dL_law_217 : decode cL_law 217 = .ok (.iconst 2, 1) := by decide +kernel
theorem dL_law_218 : decode cL_law 218 = .ok (.iadd, 1) := by decide +kernel
theorem dL_law_219 : decode cL_law 219 = .ok (.iaload, 1) := by decide +kernel
theorem dL_law_220 : decode cL_law 220 = .ok (.aload_n 0, 1) := by decide +kernel
theorem dL_law_221 : decode cL_law 221 = .ok (.iload_n 3, 1) := by decide +kernel
theorem dL_law_222 : decode cL_law 222 = .ok (.iconst 3, 1) := by decide +kernel
theorem dL_law_223 : decode cL_law 223 = .ok (.iadd, 1) := by decide +kernel
theorem dL_law_224 : decode cL_law 224 = .ok (.iaload, 1) := by decide +kernel
theorem dL_law_225 : decode cL_law 225 = .ok (.aload_n 0, 1) := by decide +kernel
theorem dL_law_226 : decode cL_law 226 = .ok (.iload_n 3, 1) := by decide +kernel
theorem dL_law_227 : decode cL_law 227 = .ok (.iconst 4, 1) := by decide +kernel
theorem dL_law_228 : decode cL_law 228 = .ok (.iadd, 1) := by decide +kernel
theorem dL_law_229 : decode cL_law 229 = .ok (.iaload, 1) := by decide +kernel
theorem dL_law_230 : decode cL_law 230 = .ok (.aload_n 0, 1) := by decide +kernel
theorem dL_law_231 : decode cL_law 231 = .ok (.iload_n 3, 1) := by decide +kernel
theorem dL_law_232 : decode cL_law 232 = .ok (.iconst 5, 1) := by decide +kernel
theorem dL_law_233 : decode cL_law 233 = .ok (.iadd, 1) := by decide +kernel
theorem dL_law_234 : decode cL_law 234 = .ok (.iaload, 1) := by decide +kernel
theorem dL_law_235 : decode cL_law 235 = .ok (.invokevirtual 17, 3) := by decide +kernel
theorem dL_law_238 : decode cL_law 238 = .ok (.if_icmp .eq 883, 3) := by decide +kernel
theorem dL_law_243 : decode cL_law 243 = .ok (.aload_n 1, 1) := by decide +kernel
theorem dL_law_244 : decode cL_law 244 = .ok (.aload_n 0, 1) := by decide +kernel
theorem dL_law_245 : decode cL_law 245 = .ok (.iload_n 3, 1) := by decide +kernel
theorem dL_law_246 : decode cL_law 246 = .ok (.iconst 1, 1) := by decide +kernel
theorem dL_law_247 : decode cL_law 247 = .ok (.iadd, 1) := by decide +kernel
theorem dL_law_248 : decode cL_law 248 = .ok (.iaload, 1) := by decide +kernel
theorem dL_law_249 : decode cL_law 249 = .ok (.aload_n 0, 1) := by decide +kernel
theorem dL_law_250 : decode cL_law 250 = .ok (.iload_n 3, 1) := by decide +kernel
theorem dL_law_251 : decode cL_law 251 = .ok (.iconst 2, 1) := by decide +kernel
theorem dL_law_252 : decode cL_law 252 = .ok (.iadd, 1) := by decide +kernel
theorem dL_law_253 : decode cL_law 253 = .ok (.iaload, 1) := by decide +kernel
theorem dL_law_254 : decode cL_law 254 = .ok (.invokevirtual 18, 3) := by decide +kernel
theorem dL_law_257 : decode cL_law 257 = .ok (.aload_n 2, 1) := by decide +kernel
theorem dL_law_258 : decode cL_law 258 = .ok (.aload_n 0, 1) := by decide +kernel
theorem dL_law_259 : decode cL_law 259 = .ok (.iload_n 3, 1) := by decide +kernel
theorem dL_law_260 : decode cL_law 260 = .ok (.iconst 1, 1) := by decide +kernel
theorem dL_law_261 : decode cL_law 261 = .ok (.iadd, 1) := by decide +kernel
theorem dL_law_262 : decode cL_law 262 = .ok (.iaload, 1) := by decide +kernel
theorem dL_law_263 : decode cL_law 263 = .ok (.aload_n 0, 1) := by decide +kernel
theorem dL_law_264 : decode cL_law 264 = .ok (.iload_n 3, 1) := by decide +kernel
theorem dL_law_265 : decode cL_law 265 = .ok (.iconst 2, 1) := by decide +kernel
theorem dL_law_266 : decode cL_law 266 = .ok (.iadd, 1) := by decide +kernel
theorem dL_law_267 : decode cL_law 267 = .ok (.iaload, 1) := by decide +kernel
theorem dL_law_268 : decode cL_law 268 = .ok (.invokevirtual 22, 3) := by decide +kernel
theorem dL_law_271 : decode cL_law 271 = .ok (.if_icmp .eq 850, 3) := by decide +kernel
theorem dL_law_276 : decode cL_law 276 = .ok (.aload_n 1, 1) := by decide +kernel
