theorem dX9_now_11 : decode cX9_now 11 = .ok (.ireturn, 1) := by decide +kernel
theorem dX9_now_4 : decode cX9_now 4 = .ok (.iload_n 1, 1) := by decide +kernel
theorem dX9_now_5 : decode cX9_now 5 = .ok (.iconst 2, 1) := by decide +kernel
theorem dX9_now_6 : decode cX9_now 6 = .ok (.if_icmp .le 6, 3) := by decide +kernel
theorem dX9_now_12 : decode cX9_now 12 = .ok (.aload_n 0, 1) := by decide +kernel
theorem dX9_now_13 : decode cX9_now 13 = .ok (.getfield 12, 3) := by decide +kernel
theorem dX9_now_16 : decode cX9_now 16 = .ok (.invokevirtual 205, 3) := by decide +kernel
theorem dX8_isHabit_0 : decode cX8_isHabit 0 = .ok (.aload_n 0, 1) := by decide +kernel
theorem dX8_isHabit_1 : decode cX8_isHabit 1 = .ok (.invokevirtual 49, 3) := by decide +kernel
theorem dX8_choosers_0 : decode cX8_choosers 0 = .ok (.iconst 0, 1) := by decide +kernel
theorem dX8_choosers_1 : decode cX8_choosers 1 = .ok (.istore_n 1, 1) := by decide +kernel
theorem dX8_choosers_2 : decode cX8_choosers 2 = .ok (.iconst 0, 1) := by decide +kernel
theorem dX8_choosers_3 : decode cX8_choosers 3 = .ok (.istore_n 2, 1) := by decide +kernel
theorem dX8_choosers_4 : decode cX8_choosers 4 = .ok (.iload_n 2, 1) := by decide +kernel
theorem dX8_choosers_5 : decode cX8_choosers 5 = .ok (.aload_n 0, 1) := by decide +kernel
theorem dX8_choosers_6 : decode cX8_choosers 6 = .ok (.getfield 33, 3) := by decide +kernel
theorem dX8_choosers_9 : decode cX8_choosers 9 = .ok (.if_icmp .ge 30, 3) := by decide +kernel
theorem dX8_choosers_39 : decode cX8_choosers 39 = .ok (.iload_n 1, 1) := by decide +kernel
theorem dX8_choosers_40 : decode cX8_choosers 40 = .ok (.ireturn, 1) := by decide +kernel
theorem dX8_isHabit_4 : decode cX8_isHabit 4 = .ok (.aload_n 0, 1) := by decide +kernel
theorem dX8_isHabit_5 : decode cX8_isHabit 5 = .ok (.getfield 33, 3) := by decide +kernel
theorem dX8_isHabit_8 : decode cX8_isHabit 8 = .ok (.if_icmp .ne 7, 3) := by decide +kernel
theorem dX8_isHabit_11 : decode cX8_isHabit 11 = .ok (.iconst 1, 1) := by decide +kernel
theorem dX8_isHabit_12 : decode cX8_isHabit 12 = .ok (.goto 4, 3) := by decide +kernel
theorem dX8_isHabit_16 : decode cX8_isHabit 16 = .ok (.ireturn, 1) := by decide +kernel
theorem dX9_now_19 : decode cX9_now 19 = .ok (.ifCond .ne 6, 3) := by decide +kernel
theorem dX9_now_25 : decode cX9_now 25 = .ok (.aload_n 0, 1) := by decide +kernel
theorem dX9_now_26 : decode cX9_now 26 = .ok (.getfield 38, 3) := by decide +kernel
theorem dX9_now_29 : decode cX9_now 29 = .ok (.invokevirtual 152, 3) := by decide +kernel
theorem dX0_gather_0 : decode cX0_gather 0 = .ok (.aload_n 0, 1) := by decide +kernel
theorem dX0_gather_1 : decode cX0_gather 1 = .ok (.invokevirtual 63, 3) := by decide +kernel
theorem dX0_empty_0 : decode cX0_empty 0 = .ok (.iconst 0, 1) := by decide +kernel
theorem dX0_empty_1 : decode cX0_empty 1 = .ok (.istore_n 1, 1) := by decide +kernel
theorem dX0_empty_2 : decode cX0_empty 2 = .ok (.iload_n 1, 1) := by decide +kernel
theorem dX0_empty_3 : decode cX0_empty 3 = .ok (.aload_n 0, 1) := by decide +kernel
theorem dX0_empty_4 : decode cX0_empty 4 = .ok (.getfield 30, 3) := by decide +kernel
theorem dX0_empty_7 : decode cX0_empty 7 = .ok (.getfield 38, 3) := by decide +kernel
theorem dX0_empty_10 : decode cX0_empty 10 = .ok (.if_icmp .ge 79, 3) := by decide +kernel
theorem dX0_empty_89 : decode cX0_empty 89 = .ok (.aload_n 0, 1) := by decide +kernel
theorem dX0_empty_90 : decode cX0_empty 90 = .ok (.getfield 9, 3) := by decide +kernel
theorem dX0_empty_93 : decode cX0_empty 93 = .ok (.iconst (-1), 1) := by decide +kernel
theorem dX0_empty_94 : decode cX0_empty 94 = .ok (.invokestatic 57, 3) := by decide +kernel
theorem dJ7_fill_53178_0 : decode cJ7_fill_53178 0 = .ok (.iconst 0, 1) := by decide +kernel
theorem dJ7_fill_53178_1 : decode cJ7_fill_53178 1 = .ok (.istore_n 2, 1) := by decide +kernel
theorem dJ7_fill_53178_2 : decode cJ7_fill_53178 2 = .ok (.aload_n 0, 1) := by decide +kernel
theorem dJ7_fill_53178_3 : decode cJ7_fill_53178 3 = .ok (.arraylength, 1) := by decide +kernel
theorem dJ7_fill_53178_4 : decode cJ7_fill_53178 4 = .ok (.istore_n 3, 1) := by decide +kernel
theorem dJ7_fill_53178_5 : decode cJ7_fill_53178 5 = .ok (.iload_n 2, 1) := by decide +kernel
theorem dJ7_fill_53178_6 : decode cJ7_fill_53178 6 = .ok (.iload_n 3, 1) := by decide +kernel
theorem dJ7_fill_53178_7 : decode cJ7_fill_53178 7 = .ok (.if_icmp .ge 13, 3) := by decide +kernel
theorem dJ7_fill_53178_10 : decode cJ7_fill_53178 10 = .ok (.aload_n 0, 1) := by decide +kernel
theorem dJ7_fill_53178_11 : decode cJ7_fill_53178 11 = .ok (.iload_n 2, 1) := by decide +kernel
theorem dJ7_fill_53178_12 : decode cJ7_fill_53178 12 = .ok (.iload_n 1, 1) := by decide +kernel
theorem dJ7_fill_53178_13 : decode cJ7_fill_53178 13 = .ok (.iastore, 1) := by decide +kernel
theorem dJ7_fill_53178_14 : decode cJ7_fill_53178 14 = .ok (.iinc 2 1, 3) := by decide +kernel
theorem dJ7_fill_53178_17 : decode cJ7_fill_53178 17 = .ok (.goto (-12), 3) := by decide +kernel
theorem dJ7_fill_53178_20 : decode cJ7_fill_53178 20 = .ok (.return_, 1) := by decide +kernel
theorem dX0_empty_97 : decode cX0_empty 97 = .ok (.return_, 1) := by decide +kernel
theorem dX0_gather_4 : decode cX0_gather 4 = .ok (.iconst 0, 1) := by decide +kernel
theorem dX0_gather_5 : decode cX0_gather 5 = .ok (.istore_n 1, 1) := by decide +kernel
theorem dX0_gather_6 : decode cX0_gather 6 = .ok (.iload_n 1, 1) := by decide +kernel
theorem dX0_gather_7 : decode cX0_gather 7 = .ok (.aload_n 0, 1) := by decide +kernel
theorem dX0_gather_8 : decode cX0_gather 8 = .ok (.getfield 30, 3) := by decide +kernel
theorem dX0_gather_11 : decode cX0_gather 11 = .ok (.getfield 66, 3) := by decide +kernel
theorem dX0_gather_14 : decode cX0_gather 14 = .ok (.if_icmp .ge 26, 3) := by decide +kernel
theorem dX0_gather_40 : decode cX0_gather 40 = .ok (.return_, 1) := by decide +kernel
theorem dX9_now_32 : decode cX9_now 32 = .ok (.iload_n 1, 1) := by decide +kernel
theorem dX9_now_33 : decode cX9_now 33 = .ok (.ifCond .ne 11, 3) := by decide +kernel
theorem dX9_now_44 : decode cX9_now 44 = .ok (.iload_n 1, 1) := by decide +kernel
theorem dX9_now_45 : decode cX9_now 45 = .ok (.iconst 1, 1) := by decide +kernel
theorem dX9_now_46 : decode cX9_now 46 = .ok (.if_icmp .ne 11, 3) := by decide +kernel
theorem dX9_now_57 : decode cX9_now 57 = .ok (.aload_n 0, 1) := by decide +kernel
theorem dX9_now_58 : decode cX9_now 58 = .ok (.getfield 38, 3) := by decide +kernel
theorem dX9_now_61 : decode cX9_now 61 = .ok (.invokevirtual 215, 3) := by decide +kernel
theorem dX0_isAtRest_0 : decode cX0_isAtRest 0 = .ok (.aload_n 0, 1) := by decide +kernel
theorem dX0_isAtRest_1 : decode cX0_isAtRest 1 = .ok (.invokevirtual 118, 3) := by decide +kernel
theorem dX0_leastRestless_0 : decode cX0_leastRestless 0 = .ok (.iconst 0, 1) := by decide +kernel
theorem dX0_leastRestless_1 : decode cX0_leastRestless 1 = .ok (.istore_n 1, 1) := by decide +kernel
theorem dX0_leastRestless_2 : decode cX0_leastRestless 2 = .ok (.iload_n 1, 1) := by decide +kernel
theorem dX0_leastRestless_3 : decode cX0_leastRestless 3 = .ok (.aload_n 0, 1) := by decide +kernel
theorem dX0_leastRestless_4 : decode cX0_leastRestless 4 = .ok (.getfield 30, 3) := by decide +kernel
theorem dX0_leastRestless_7 : decode cX0_leastRestless 7 = .ok (.getfield 66, 3) := by decide +kernel
theorem dX0_leastRestless_10 : decode cX0_leastRestless 10 = .ok (.if_icmp .ge 62, 3) := by decide +kernel
theorem dX0_leastRestless_72 : decode cX0_leastRestless 72 = .ok (.iconst (-1), 1) := by decide +kernel
theorem dX0_leastRestless_73 : decode cX0_leastRestless 73 = .ok (.ireturn, 1) := by decide +kernel
theorem dX0_isAtRest_4 : decode cX0_isAtRest 4 = .ok (.iconst (-1), 1) := by decide +kernel
theorem dX0_isAtRest_5 : decode cX0_isAtRest 5 = .ok (.if_icmp .ne 7, 3) := by decide +kernel
theorem dX0_isAtRest_8 : decode cX0_isAtRest 8 = .ok (.iconst 1, 1) := by decide +kernel
theorem dX0_isAtRest_9 : decode cX0_isAtRest 9 = .ok (.goto 4, 3) := by decide +kernel
theorem dX0_isAtRest_13 : decode cX0_isAtRest 13 = .ok (.ireturn, 1) := by decide +kernel
theorem dX9_now_64 : decode cX9_now 64 = .ok (.ifCond .eq 7, 3) := by decide +kernel
theorem dX9_now_67 : decode cX9_now 67 = .ok (.iconst 1, 1) := by decide +kernel
theorem dX9_now_68 : decode cX9_now 68 = .ok (.goto 4, 3) := by decide +kernel
theorem dX9_now_72 : decode cX9_now 72 = .ok (.ireturn, 1) := by decide +kernel
theorem dX9_now_49 : decode cX9_now 49 = .ok (.aload_n 0, 1) := by decide +kernel
theorem dX9_now_50 : decode cX9_now 50 = .ok (.getfield 38, 3) := by decide +kernel
theorem dX9_now_53 : decode cX9_now 53 = .ok (.invokevirtual 212, 3) := by decide +kernel
theorem dX0_most_0 : decode cX0_most 0 = .ok (.iconst 0, 1) := by decide +kernel
theorem dX0_most_1 : decode cX0_most 1 = .ok (.istore_n 1, 1) := by decide +kernel
theorem dX0_most_2 : decode cX0_most 2 = .ok (.iconst 0, 1) := by decide +kernel
theorem dX0_most_3 : decode cX0_most 3 = .ok (.istore_n 2, 1) := by decide +kernel
theorem dX0_most_4 : decode cX0_most 4 = .ok (.iload_n 2, 1) := by decide +kernel
theorem dX0_most_5 : decode cX0_most 5 = .ok (.aload_n 0, 1) := by decide +kernel
theorem dX0_most_6 : decode cX0_most 6 = .ok (.getfield 30, 3) := by decide +kernel
theorem dX0_most_9 : decode cX0_most 9 = .ok (.getfield 66, 3) := by decide +kernel
theorem dX0_most_12 : decode cX0_most 12 = .ok (.if_icmp .ge 29, 3) := by decide +kernel
theorem dX0_most_41 : decode cX0_most 41 = .ok (.iload_n 1, 1) := by decide +kernel
theorem dX0_most_42 : decode cX0_most 42 = .ok (.ireturn, 1) := by decide +kernel
theorem dX9_now_56 : decode cX9_now 56 = .ok (.ireturn, 1) := by decide +kernel
theorem dX9_now_36 : decode cX9_now 36 = .ok (.aload_n 0, 1) := by decide +kernel
theorem dX9_now_37 : decode cX9_now 37 = .ok (.getfield 38, 3) := by decide +kernel
theorem dX9_now_40 : decode cX9_now 40 = .ok (.invokevirtual 209, 3) := by decide +kernel
theorem dX0_sum_0 : decode cX0_sum 0 = .ok (.iconst 0, 1) := by decide +kernel
theorem dX0_sum_1 : decode cX0_sum 1 = .ok (.istore_n 1, 1) := by decide +kernel
theorem dX0_sum_2 : decode cX0_sum 2 = .ok (.iconst 0, 1) := by decide +kernel
theorem dX0_sum_3 : decode cX0_sum 3 = .ok (.istore_n 2, 1) := by decide +kernel
theorem dX0_sum_4 : decode cX0_sum 4 = .ok (.iload_n 2, 1) := by decide +kernel
theorem dX0_sum_5 : decode cX0_sum 5 = .ok (.aload_n 0, 1) := by decide +kernel
theorem dX0_sum_6 : decode cX0_sum 6 = .ok (.getfield 30, 3) := by decide +kernel
theorem dX0_sum_9 : decode cX0_sum 9 = .ok (.getfield 38, 3) := by decide +kernel
theorem dX0_sum_12 : decode cX0_sum 12 = .ok (.if_icmp .ge 45, 3) := by decide +kernel
theorem dX0_sum_57 : decode cX0_sum 57 = .ok (.iload_n 1, 1) := by decide +kernel
theorem dX0_sum_58 : decode cX0_sum 58 = .ok (.ireturn, 1) := by decide +kernel
theorem dX9_now_43 : decode cX9_now 43 = .ok (.ireturn, 1) := by decide +kernel
theorem dX9_store_0 : decode cX9_store 0 = .ok (.aload_n 0, 1) := by decide +kernel
theorem dX9_store_1 : decode cX9_store 1 = .ok (.getfield 38, 3) := by decide +kernel
theorem dX9_store_4 : decode cX9_store 4 = .ok (.invokevirtual 152, 3) := by decide +kernel
theorem dX9_store_7 : decode cX9_store 7 = .ok (.aload_n 0, 1) := by decide +kernel
theorem dX9_store_8 : decode cX9_store 8 = .ok (.getfield 38, 3) := by decide +kernel
theorem dX9_store_11 : decode cX9_store 11 = .ok (.invokevirtual 218, 3) := by decide +kernel
theorem dX0_held_0 : decode cX0_held 0 = .ok (.iconst 0, 1) := by decide +kernel
theorem dX0_held_1 : decode cX0_held 1 = .ok (.istore_n 1, 1) := by decide +kernel
theorem dX0_held_2 : decode cX0_held 2 = .ok (.iconst 0, 1) := by decide +kernel
theorem dX0_held_3 : decode cX0_held 3 = .ok (.istore_n 2, 1) := by decide +kernel
theorem dX0_held_4 : decode cX0_held 4 = .ok (.iload_n 2, 1) := by decide +kernel
theorem dX0_held_5 : decode cX0_held 5 = .ok (.aload_n 0, 1) := by decide +kernel
theorem dX0_held_6 : decode cX0_held 6 = .ok (.getfield 30, 3) := by decide +kernel
theorem dX0_held_9 : decode cX0_held 9 = .ok (.getfield 38, 3) := by decide +kernel
theorem dX0_held_12 : decode cX0_held 12 = .ok (.if_icmp .ge 42, 3) := by decide +kernel
theorem dX0_held_54 : decode cX0_held 54 = .ok (.iload_n 1, 1) := by decide +kernel
theorem dX0_held_55 : decode cX0_held 55 = .ok (.ireturn, 1) := by decide +kernel
theorem dX9_store_14 : decode cX9_store 14 = .ok (.ireturn, 1) := by decide +kernel
theorem dX9_reply_0 : decode cX9_reply 0 = .ok (.aload_n 0, 1) := by decide +kernel
theorem dX9_reply_1 : decode cX9_reply 1 = .ok (.getfield 12, 3) := by decide +kernel
theorem dX9_reply_4 : decode cX9_reply 4 = .ok (.iload_n 1, 1) := by decide +kernel
theorem dX9_reply_5 : decode cX9_reply 5 = .ok (.invokevirtual 178, 3) := by decide +kernel
theorem dX9_reply_8 : decode cX9_reply 8 = .ok (.ifnonnull 6, 3) := by decide +kernel
theorem dX9_reply_11 : decode cX9_reply 11 = .ok (.bipush (-3), 2) := by decide +kernel
theorem dX9_reply_13 : decode cX9_reply 13 = .ok (.ireturn, 1) := by decide +kernel
theorem dX9_habits_0 : decode cX9_habits 0 = .ok (.aload_n 0, 1) := by decide +kernel
theorem dX9_habits_1 : decode cX9_habits 1 = .ok (.getfield 26, 3) := by decide +kernel
theorem dX9_habits_4 : decode cX9_habits 4 = .ok (.invokevirtual 224, 3) := by decide +kernel
theorem dX4_habitCount_0 : decode cX4_habitCount 0 = .ok (.iconst 1, 1) := by decide +kernel
theorem dX4_habitCount_1 : decode cX4_habitCount 1 = .ok (.istore_n 1, 1) := by decide +kernel
theorem dX4_habitCount_2 : decode cX4_habitCount 2 = .ok (.iconst 0, 1) := by decide +kernel
theorem dX4_habitCount_3 : decode cX4_habitCount 3 = .ok (.istore_n 2, 1) := by decide +kernel
theorem dX4_habitCount_4 : decode cX4_habitCount 4 = .ok (.iload_n 2, 1) := by decide +kernel
theorem dX4_habitCount_5 : decode cX4_habitCount 5 = .ok (.aload_n 0, 1) := by decide +kernel
theorem dX4_habitCount_6 : decode cX4_habitCount 6 = .ok (.getfield 33, 3) := by decide +kernel
theorem dX4_habitCount_9 : decode cX4_habitCount 9 = .ok (.if_icmp .ge 21, 3) := by decide +kernel
theorem dX4_habitCount_30 : decode cX4_habitCount 30 = .ok (.iconst 0, 1) := by decide +kernel
theorem dX4_habitCount_31 : decode cX4_habitCount 31 = .ok (.istore_n 2, 1) := by decide +kernel
theorem dX4_habitCount_32 : decode cX4_habitCount 32 = .ok (.iload_n 2, 1) := by decide +kernel
theorem dX4_habitCount_33 : decode cX4_habitCount 33 = .ok (.aload_n 0, 1) := by decide +kernel
theorem dX4_habitCount_34 : decode cX4_habitCount 34 = .ok (.getfield 33, 3) := by decide +kernel
theorem dX4_habitCount_37 : decode cX4_habitCount 37 = .ok (.if_icmp .ge 24, 3) := by decide +kernel
theorem dX4_habitCount_61 : decode cX4_habitCount 61 = .ok (.iload_n 1, 1) := by decide +kernel
theorem dX4_habitCount_62 : decode cX4_habitCount 62 = .ok (.sipush 2000, 3) := by decide +kernel
theorem dX4_habitCount_65 : decode cX4_habitCount 65 = .ok (.if_icmp .le 8, 3) := by decide +kernel
theorem dX4_habitCount_73 : decode cX4_habitCount 73 = .ok (.iload_n 1, 1) := by decide +kernel
theorem dX4_habitCount_74 : decode cX4_habitCount 74 = .ok (.ireturn, 1) := by decide +kernel
theorem dX9_habits_7 : decode cX9_habits 7 = .ok (.ireturn, 1) := by decide +kernel
theorem dX9_habit_0 : decode cX9_habit 0 = .ok (.aload_n 0, 1) := by decide +kernel
theorem dX9_habit_1 : decode cX9_habit 1 = .ok (.getfield 26, 3) := by decide +kernel
theorem dX9_habit_4 : decode cX9_habit 4 = .ok (.invokevirtual 224, 3) := by decide +kernel
theorem dX9_habit_7 : decode cX9_habit 7 = .ok (.istore_n 2, 1) := by decide +kernel
theorem dX9_habit_8 : decode cX9_habit 8 = .ok (.iload_n 2, 1) := by decide +kernel
theorem dX9_habit_9 : decode cX9_habit 9 = .ok (.ifCond .ge 5, 3) := by decide +kernel
theorem dX9_habit_14 : decode cX9_habit 14 = .ok (.iload_n 1, 1) := by decide +kernel
theorem dX9_habit_15 : decode cX9_habit 15 = .ok (.ifCond .lt 8, 3) := by decide +kernel
theorem dX9_habit_23 : decode cX9_habit 23 = .ok (.bipush (-3), 2) := by decide +kernel
theorem dX9_habit_25 : decode cX9_habit 25 = .ok (.ireturn, 1) := by decide +kernel
theorem dX9_habit_18 : decode cX9_habit 18 = .ok (.iload_n 1, 1) := by decide +kernel
theorem dX9_habit_19 : decode cX9_habit 19 = .ok (.iload_n 2, 1) := by decide +kernel
theorem dX9_habit_20 : decode cX9_habit 20 = .ok (.if_icmp .lt 6, 3) := by decide +kernel
theorem dX9_habit_26 : decode cX9_habit 26 = .ok (.aload_n 0, 1) := by decide +kernel
theorem dX9_habit_27 : decode cX9_habit 27 = .ok (.getfield 38, 3) := by decide +kernel
theorem dX9_habit_30 : decode cX9_habit 30 = .ok (.invokevirtual 227, 3) := by decide +kernel
theorem dX9_habit_33 : decode cX9_habit 33 = .ok (.aload_n 0, 1) := by decide +kernel
theorem dX9_habit_34 : decode cX9_habit 34 = .ok (.getfield 38, 3) := by decide +kernel
theorem dX9_habit_37 : decode cX9_habit 37 = .ok (.iload_n 1, 1) := by decide +kernel
theorem dX9_habit_38 : decode cX9_habit 38 = .ok (.invokevirtual 230, 3) := by decide +kernel
theorem dX0_goToHabit_0 : decode cX0_goToHabit 0 = .ok (.iload_n 1, 1) := by decide +kernel
theorem dX0_goToHabit_1 : decode cX0_goToHabit 1 = .ok (.istore_n 2, 1) := by decide +kernel
theorem dX0_goToHabit_2 : decode cX0_goToHabit 2 = .ok (.aload_n 0, 1) := by decide +kernel
theorem dX0_goToHabit_3 : decode cX0_goToHabit 3 = .ok (.getfield 30, 3) := by decide +kernel
theorem dX0_goToHabit_6 : decode cX0_goToHabit 6 = .ok (.getfield 66, 3) := by decide +kernel
theorem dX0_goToHabit_9 : decode cX0_goToHabit 9 = .ok (.iconst 1, 1) := by decide +kernel
theorem dX0_goToHabit_10 : decode cX0_goToHabit 10 = .ok (.isub, 1) := by decide +kernel
theorem dX0_goToHabit_11 : decode cX0_goToHabit 11 = .ok (.istore_n 3, 1) := by decide +kernel
theorem dX0_goToHabit_12 : decode cX0_goToHabit 12 = .ok (.iload_n 3, 1) := by decide +kernel
theorem dX0_goToHabit_13 : decode cX0_goToHabit 13 = .ok (.ifCond .lt 38, 3) := by decide +kernel
theorem dX0_goToHabit_51 : decode cX0_goToHabit 51 = .ok (.return_, 1) := by decide +kernel
theorem dX9_habit_41 : decode cX9_habit 41 = .ok (.aload_n 0, 1) := by decide +kernel
theorem dX9_habit_42 : decode cX9_habit 42 = .ok (.invokevirtual 234, 3) := by decide +kernel
theorem dX9_makeChoices_0 : decode cX9_makeChoices 0 = .ok (.aload_n 0, 1) := by decide +kernel
theorem dX9_makeChoices_1 : decode cX9_makeChoices 1 = .ok (.getfield 19, 3) := by decide +kernel
theorem dX9_makeChoices_4 : decode cX9_makeChoices 4 = .ok (.aload_n 0, 1) := by decide +kernel
theorem dX9_makeChoices_5 : decode cX9_makeChoices 5 = .ok (.getfield 12, 3) := by decide +kernel
theorem dX9_makeChoices_8 : decode cX9_makeChoices 8 = .ok (.invokevirtual 80, 3) := by decide +kernel
theorem dX9_makeChoices_11 : decode cX9_makeChoices 11 = .ok (.iconst 0, 1) := by decide +kernel
theorem dX9_makeChoices_12 : decode cX9_makeChoices 12 = .ok (.istore_n 1, 1) := by decide +kernel
theorem dX9_makeChoices_13 : decode cX9_makeChoices 13 = .ok (.iload_n 1, 1) := by decide +kernel
theorem dX9_makeChoices_14 : decode cX9_makeChoices 14 = .ok (.aload_n 0, 1) := by decide +kernel
theorem dX9_makeChoices_15 : decode cX9_makeChoices 15 = .ok (.getfield 12, 3) := by decide +kernel
theorem dX9_makeChoices_18 : decode cX9_makeChoices 18 = .ok (.getfield 162, 3) := by decide +kernel
theorem dX9_makeChoices_21 : decode cX9_makeChoices 21 = .ok (.if_icmp .ge 30, 3) := by decide +kernel
theorem dX9_makeChoices_51 : decode cX9_makeChoices 51 = .ok (.return_, 1) := by decide +kernel
theorem dX9_habit_45 : decode cX9_habit 45 = .ok (.iconst 0, 1) := by decide +kernel
theorem dX9_habit_46 : decode cX9_habit 46 = .ok (.ireturn, 1) := by decide +kernel
theorem dX9_best_0 : decode cX9_best 0 = .ok (.aload_n 0, 1) := by decide +kernel
theorem dX9_best_1 : decode cX9_best 1 = .ok (.getfield 26, 3) := by decide +kernel
theorem dX9_best_4 : decode cX9_best 4 = .ok (.invokevirtual 224, 3) := by decide +kernel
theorem dX9_best_7 : decode cX9_best 7 = .ok (.istore_n 1, 1) := by decide +kernel
theorem dX9_best_8 : decode cX9_best 8 = .ok (.iload_n 1, 1) := by decide +kernel
theorem dX9_best_9 : decode cX9_best 9 = .ok (.ifCond .ge 5, 3) := by decide +kernel
theorem dX9_best_14 : decode cX9_best 14 = .ok (.aload_n 0, 1) := by decide +kernel
theorem dX9_best_15 : decode cX9_best 15 = .ok (.invokevirtual 237, 3) := by decide +kernel
theorem dX9_goToBest_0 : decode cX9_goToBest 0 = .ok (.aload_n 0, 1) := by decide +kernel
theorem dX9_goToBest_1 : decode cX9_goToBest 1 = .ok (.getfield 38, 3) := by decide +kernel
theorem dX9_goToBest_4 : decode cX9_goToBest 4 = .ok (.invokevirtual 227, 3) := by decide +kernel
theorem dX9_goToBest_7 : decode cX9_goToBest 7 = .ok (.aload_n 0, 1) := by decide +kernel
theorem dX9_goToBest_8 : decode cX9_goToBest 8 = .ok (.getfield 48, 3) := by decide +kernel
theorem dX9_goToBest_11 : decode cX9_goToBest 11 = .ok (.aload_n 0, 1) := by decide +kernel
theorem dX9_goToBest_12 : decode cX9_goToBest 12 = .ok (.getfield 38, 3) := by decide +kernel
theorem dX9_goToBest_15 : decode cX9_goToBest 15 = .ok (.invokevirtual 243, 3) := by decide +kernel
theorem dX7_goThrough_0 : decode cX7_goThrough 0 = .ok (.aload_n 1, 1) := by decide +kernel
theorem dX7_goThrough_1 : decode cX7_goThrough 1 = .ok (.invokevirtual 15, 3) := by decide +kernel
theorem dX0_everybody_0 : decode cX0_everybody 0 = .ok (.iconst 1, 1) := by decide +kernel
theorem dX0_everybody_1 : decode cX0_everybody 1 = .ok (.aload_n 0, 1) := by decide +kernel
theorem dX0_everybody_2 : decode cX0_everybody 2 = .ok (.getfield 30, 3) := by decide +kernel
theorem dX0_everybody_5 : decode cX0_everybody 5 = .ok (.getfield 66, 3) := by decide +kernel
theorem dX0_everybody_8 : decode cX0_everybody 8 = .ok (.ishl, 1) := by decide +kernel
theorem dX0_everybody_9 : decode cX0_everybody 9 = .ok (.iconst 1, 1) := by decide +kernel
theorem dX0_everybody_10 : decode cX0_everybody 10 = .ok (.isub, 1) := by decide +kernel
theorem dX0_everybody_11 : decode cX0_everybody 11 = .ok (.ireturn, 1) := by decide +kernel
theorem dX7_goThrough_4 : decode cX7_goThrough 4 = .ok (.istore_n 2, 1) := by decide +kernel
theorem dX7_goThrough_5 : decode cX7_goThrough 5 = .ok (.iconst 1, 1) := by decide +kernel
theorem dX7_goThrough_6 : decode cX7_goThrough 6 = .ok (.istore_n 3, 1) := by decide +kernel
theorem dX7_goThrough_7 : decode cX7_goThrough 7 = .ok (.aload_n 0, 1) := by decide +kernel
theorem dX7_goThrough_8 : decode cX7_goThrough 8 = .ok (.ldc 21, 2) := by decide +kernel
theorem dX7_goThrough_10 : decode cX7_goThrough 10 = .ok (.putfield 22, 3) := by decide +kernel
theorem dX7_goThrough_13 : decode cX7_goThrough 13 = .ok (.aload_n 0, 1) := by decide +kernel
theorem dX7_goThrough_14 : decode cX7_goThrough 14 = .ok (.ldc 21, 2) := by decide +kernel
theorem dX7_goThrough_16 : decode cX7_goThrough 16 = .ok (.putfield 26, 3) := by decide +kernel
theorem dX7_goThrough_19 : decode cX7_goThrough 19 = .ok (.aload_n 0, 1) := by decide +kernel
theorem dX7_goThrough_20 : decode cX7_goThrough 20 = .ok (.iconst 0, 1) := by decide +kernel
theorem dX7_goThrough_21 : decode cX7_goThrough 21 = .ok (.putfield 29, 3) := by decide +kernel
theorem dX7_goThrough_24 : decode cX7_goThrough 24 = .ok (.aload_n 0, 1) := by decide +kernel
theorem dX7_goThrough_25 : decode cX7_goThrough 25 = .ok (.ldc 21, 2) := by decide +kernel
theorem dX7_goThrough_27 : decode cX7_goThrough 27 = .ok (.putfield 32, 3) := by decide +kernel
theorem dX7_goThrough_30 : decode cX7_goThrough 30 = .ok (.aload_n 0, 1) := by decide +kernel
theorem dX7_goThrough_31 : decode cX7_goThrough 31 = .ok (.iconst 0, 1) := by decide +kernel
theorem dX7_goThrough_32 : decode cX7_goThrough 32 = .ok (.putfield 35, 3) := by decide +kernel
theorem dX7_goThrough_35 : decode cX7_goThrough 35 = .ok (.aload_n 1, 1) := by decide +kernel
theorem dX7_goThrough_36 : decode cX7_goThrough 36 = .ok (.iload_n 2, 1) := by decide +kernel
theorem dX7_goThrough_37 : decode cX7_goThrough 37 = .ok (.invokevirtual 38, 3) := by decide +kernel
theorem dX0_goToFirst_0 : decode cX0_goToFirst 0 = .ok (.iconst 0, 1) := by decide +kernel
theorem dX0_goToFirst_1 : decode cX0_goToFirst 1 = .ok (.istore_n 2, 1) := by decide +kernel
theorem dX0_goToFirst_2 : decode cX0_goToFirst 2 = .ok (.iload_n 2, 1) := by decide +kernel
theorem dX0_goToFirst_3 : decode cX0_goToFirst 3 = .ok (.aload_n 0, 1) := by decide +kernel
theorem dX0_goToFirst_4 : decode cX0_goToFirst 4 = .ok (.getfield 30, 3) := by decide +kernel
theorem dX0_goToFirst_7 : decode cX0_goToFirst 7 = .ok (.getfield 66, 3) := by decide +kernel
theorem dX0_goToFirst_10 : decode cX0_goToFirst 10 = .ok (.if_icmp .ge 24, 3) := by decide +kernel
theorem dX0_goToFirst_34 : decode cX0_goToFirst 34 = .ok (.return_, 1) := by decide +kernel
theorem dX7_goThrough_40 : decode cX7_goThrough 40 = .ok (.iconst 0, 1) := by decide +kernel
theorem dX7_goThrough_41 : decode cX7_goThrough 41 = .ok (.istore 4, 2) := by decide +kernel
theorem dX7_goThrough_43 : decode cX7_goThrough 43 = .ok (.iload 4, 2) := by decide +kernel
theorem dX7_goThrough_45 : decode cX7_goThrough 45 = .ok (.sipush 2000, 3) := by decide +kernel
theorem dX7_goThrough_48 : decode cX7_goThrough 48 = .ok (.if_icmp .ge 24, 3) := by decide +kernel
theorem dX7_goThrough_51 : decode cX7_goThrough 51 = .ok (.iload_n 3, 1) := by decide +kernel
theorem dX7_goThrough_52 : decode cX7_goThrough 52 = .ok (.ifCond .eq 20, 3) := by decide +kernel
theorem dX7_goThrough_55 : decode cX7_goThrough 55 = .ok (.aload_n 0, 1) := by decide +kernel
theorem dX7_goThrough_56 : decode cX7_goThrough 56 = .ok (.aload_n 1, 1) := by decide +kernel
theorem dX7_goThrough_57 : decode cX7_goThrough 57 = .ok (.invokevirtual 42, 3) := by decide +kernel
theorem dX7_note_0 : decode cX7_note 0 = .ok (.aload_n 1, 1) := by decide +kernel
theorem dX7_note_1 : decode cX7_note 1 = .ok (.invokevirtual 50, 3) := by decide +kernel
theorem dX7_note_4 : decode cX7_note 4 = .ok (.istore_n 2, 1) := by decide +kernel
theorem dX7_note_5 : decode cX7_note 5 = .ok (.iload_n 2, 1) := by decide +kernel
theorem dX7_note_6 : decode cX7_note 6 = .ok (.aload_n 0, 1) := by decide +kernel
theorem dX7_note_7 : decode cX7_note 7 = .ok (.getfield 22, 3) := by decide +kernel
theorem dX7_note_10 : decode cX7_note 10 = .ok (.if_icmp .ge 16, 3) := by decide +kernel
theorem dX7_note_13 : decode cX7_note 13 = .ok (.aload_n 0, 1) := by decide +kernel
theorem dX7_note_14 : decode cX7_note 14 = .ok (.iload_n 2, 1) := by decide +kernel
theorem dX7_note_15 : decode cX7_note 15 = .ok (.putfield 22, 3) := by decide +kernel
theorem dX7_note_18 : decode cX7_note 18 = .ok (.aload_n 1, 1) := by decide +kernel
theorem dX7_note_19 : decode cX7_note 19 = .ok (.aload_n 0, 1) := by decide +kernel
theorem dX7_note_20 : decode cX7_note 20 = .ok (.getfield 9, 3) := by decide +kernel
theorem dX7_note_23 : decode cX7_note 23 = .ok (.invokevirtual 53, 3) := by decide +kernel
theorem dX0_saveTo_0 : decode cX0_saveTo 0 = .ok (.aload_n 0, 1) := by decide +kernel
theorem dX0_saveTo_1 : decode cX0_saveTo 1 = .ok (.getfield 9, 3) := by decide +kernel
theorem dX0_saveTo_4 : decode cX0_saveTo 4 = .ok (.iconst 0, 1) := by decide +kernel
theorem dX0_saveTo_5 : decode cX0_saveTo 5 = .ok (.aload_n 1, 1) := by decide +kernel
theorem dX0_saveTo_6 : decode cX0_saveTo 6 = .ok (.iconst 0, 1) := by decide +kernel
theorem dX0_saveTo_7 : decode cX0_saveTo 7 = .ok (.iconst 5, 1) := by decide +kernel
theorem dX0_saveTo_8 : decode cX0_saveTo 8 = .ok (.invokestatic 96, 3) := by decide +kernel
theorem dX0_saveTo_11 : decode cX0_saveTo 11 = .ok (.return_, 1) := by decide +kernel
theorem dX7_note_26 : decode cX7_note 26 = .ok (.aload_n 0, 1) := by decide +kernel
theorem dX7_note_27 : decode cX7_note 27 = .ok (.aload_n 0, 1) := by decide +kernel
theorem dX7_note_28 : decode cX7_note 28 = .ok (.getfield 26, 3) := by decide +kernel
theorem dX7_note_31 : decode cX7_note 31 = .ok (.aload_n 1, 1) := by decide +kernel
theorem dX7_note_32 : decode cX7_note 32 = .ok (.invokevirtual 57, 3) := by decide +kernel
theorem dX7_note_35 : decode cX7_note 35 = .ok (.invokestatic 60, 3) := by decide +kernel
theorem dX7_note_38 : decode cX7_note 38 = .ok (.putfield 26, 3) := by decide +kernel
theorem dX7_note_41 : decode cX7_note 41 = .ok (.aload_n 1, 1) := by decide +kernel
theorem dX7_note_42 : decode cX7_note 42 = .ok (.invokevirtual 66, 3) := by decide +kernel
theorem dX7_note_45 : decode cX7_note 45 = .ok (.iconst (-1), 1) := by decide +kernel
theorem dX7_note_46 : decode cX7_note 46 = .ok (.if_icmp .ne 37, 3) := by decide +kernel
theorem dX7_note_49 : decode cX7_note 49 = .ok (.aload_n 0, 1) := by decide +kernel
theorem dX7_note_50 : decode cX7_note 50 = .ok (.dup, 1) := by decide +kernel
theorem dX7_note_51 : decode cX7_note 51 = .ok (.getfield 29, 3) := by decide +kernel
theorem dX7_note_54 : decode cX7_note 54 = .ok (.iconst 1, 1) := by decide +kernel
theorem dX7_note_55 : decode cX7_note 55 = .ok (.iadd, 1) := by decide +kernel
theorem dX7_note_56 : decode cX7_note 56 = .ok (.putfield 29, 3) := by decide +kernel
theorem dX7_note_59 : decode cX7_note 59 = .ok (.aload_n 0, 1) := by decide +kernel
theorem dX7_note_60 : decode cX7_note 60 = .ok (.aload_n 0, 1) := by decide +kernel
theorem dX7_note_61 : decode cX7_note 61 = .ok (.getfield 32, 3) := by decide +kernel
theorem dX7_note_64 : decode cX7_note 64 = .ok (.iload_n 2, 1) := by decide +kernel
theorem dX7_note_65 : decode cX7_note 65 = .ok (.invokestatic 60, 3) := by decide +kernel
theorem dX7_note_68 : decode cX7_note 68 = .ok (.putfield 32, 3) := by decide +kernel
theorem dX7_note_71 : decode cX7_note 71 = .ok (.aload_n 0, 1) := by decide +kernel
theorem dX7_note_72 : decode cX7_note 72 = .ok (.aload_n 0, 1) := by decide +kernel
theorem dX7_note_73 : decode cX7_note 73 = .ok (.getfield 35, 3) := by decide +kernel
theorem dX7_note_76 : decode cX7_note 76 = .ok (.iload_n 2, 1) := by decide +kernel
theorem dX7_note_77 : decode cX7_note 77 = .ok (.invokestatic 69, 3) := by decide +kernel
theorem dX7_note_80 : decode cX7_note 80 = .ok (.putfield 35, 3) := by decide +kernel
theorem dX7_note_83 : decode cX7_note 83 = .ok (.return_, 1) := by decide +kernel
theorem dX7_goThrough_60 : decode cX7_goThrough 60 = .ok (.aload_n 1, 1) := by decide +kernel
theorem dX7_goThrough_61 : decode cX7_goThrough 61 = .ok (.iload_n 2, 1) := by decide +kernel
theorem dX7_goThrough_62 : decode cX7_goThrough 62 = .ok (.invokevirtual 46, 3) := by decide +kernel
theorem dX0_goToNext_0 : decode cX0_goToNext 0 = .ok (.aload_n 0, 1) := by decide +kernel
theorem dX0_goToNext_1 : decode cX0_goToNext 1 = .ok (.getfield 30, 3) := by decide +kernel
theorem dX0_goToNext_4 : decode cX0_goToNext 4 = .ok (.getfield 66, 3) := by decide +kernel
theorem dX0_goToNext_7 : decode cX0_goToNext 7 = .ok (.iconst 1, 1) := by decide +kernel
theorem dX0_goToNext_8 : decode cX0_goToNext 8 = .ok (.isub, 1) := by decide +kernel
theorem dX0_goToNext_9 : decode cX0_goToNext 9 = .ok (.istore_n 2, 1) := by decide +kernel
theorem dX0_goToNext_10 : decode cX0_goToNext 10 = .ok (.iload_n 2, 1) := by decide +kernel
theorem dX0_goToNext_11 : decode cX0_goToNext 11 = .ok (.ifCond .lt 61, 3) := by decide +kernel
theorem dX0_goToNext_72 : decode cX0_goToNext 72 = .ok (.iconst 0, 1) := by decide +kernel
theorem dX0_goToNext_73 : decode cX0_goToNext 73 = .ok (.ireturn, 1) := by decide +kernel
theorem dX7_goThrough_65 : decode cX7_goThrough 65 = .ok (.istore_n 3, 1) := by decide +kernel
theorem dX7_goThrough_66 : decode cX7_goThrough 66 = .ok (.iinc 4 1, 3) := by decide +kernel
theorem dX7_goThrough_69 : decode cX7_goThrough 69 = .ok (.goto (-26), 3) := by decide +kernel
theorem dX7_goThrough_72 : decode cX7_goThrough 72 = .ok (.return_, 1) := by decide +kernel
theorem dX9_goToBest_18 : decode cX9_goToBest 18 = .ok (.aload_n 0, 1) := by decide +kernel
theorem dX9_goToBest_19 : decode cX9_goToBest 19 = .ok (.getfield 38, 3) := by decide +kernel
theorem dX9_goToBest_22 : decode cX9_goToBest 22 = .ok (.aload_n 0, 1) := by decide +kernel
theorem dX9_goToBest_23 : decode cX9_goToBest 23 = .ok (.getfield 48, 3) := by decide +kernel
theorem dX9_goToBest_26 : decode cX9_goToBest 26 = .ok (.getfield 320, 3) := by decide +kernel
theorem dX9_goToBest_29 : decode cX9_goToBest 29 = .ok (.invokevirtual 323, 3) := by decide +kernel
theorem dX0_putAll_0 : decode cX0_putAll 0 = .ok (.iconst 0, 1) := by decide +kernel
theorem dX0_putAll_1 : decode cX0_putAll 1 = .ok (.istore_n 2, 1) := by decide +kernel
theorem dX0_putAll_2 : decode cX0_putAll 2 = .ok (.iload_n 2, 1) := by decide +kernel
theorem dX0_putAll_3 : decode cX0_putAll 3 = .ok (.aload_n 0, 1) := by decide +kernel
theorem dX0_putAll_4 : decode cX0_putAll 4 = .ok (.getfield 30, 3) := by decide +kernel
theorem dX0_putAll_7 : decode cX0_putAll 7 = .ok (.getfield 66, 3) := by decide +kernel
theorem dX0_putAll_10 : decode cX0_putAll 10 = .ok (.if_icmp .ge 17, 3) := by decide +kernel
theorem dX0_putAll_27 : decode cX0_putAll 27 = .ok (.return_, 1) := by decide +kernel
theorem dX9_goToBest_32 : decode cX9_goToBest 32 = .ok (.return_, 1) := by decide +kernel
theorem dX9_best_18 : decode cX9_best 18 = .ok (.aload_n 0, 1) := by decide +kernel
theorem dX9_best_19 : decode cX9_best 19 = .ok (.invokevirtual 234, 3) := by decide +kernel
theorem dX9_best_22 : decode cX9_best 22 = .ok (.aload_n 0, 1) := by decide +kernel
theorem dX9_best_23 : decode cX9_best 23 = .ok (.getfield 48, 3) := by decide +kernel
theorem dX9_best_26 : decode cX9_best 26 = .ok (.getfield 240, 3) := by decide +kernel
theorem dX9_best_29 : decode cX9_best 29 = .ok (.ireturn, 1) := by decide +kernel
theorem dX9_rests_0 : decode cX9_rests 0 = .ok (.aload_n 0, 1) := by decide +kernel
theorem dX9_rests_1 : decode cX9_rests 1 = .ok (.getfield 26, 3) := by decide +kernel
theorem dX9_rests_4 : decode cX9_rests 4 = .ok (.invokevirtual 224, 3) := by decide +kernel
theorem dX9_rests_7 : decode cX9_rests 7 = .ok (.istore_n 1, 1) := by decide +kernel
theorem dX9_rests_8 : decode cX9_rests 8 = .ok (.iload_n 1, 1) := by decide +kernel
theorem dX9_rests_9 : decode cX9_rests 9 = .ok (.ifCond .ge 5, 3) := by decide +kernel
theorem dX9_rests_14 : decode cX9_rests 14 = .ok (.aload_n 0, 1) := by decide +kernel
theorem dX9_rests_15 : decode cX9_rests 15 = .ok (.getfield 38, 3) := by decide +kernel
theorem dX9_rests_18 : decode cX9_rests 18 = .ok (.invokevirtual 227, 3) := by decide +kernel
theorem dX9_rests_21 : decode cX9_rests 21 = .ok (.aload_n 0, 1) := by decide +kernel
theorem dX9_rests_22 : decode cX9_rests 22 = .ok (.getfield 48, 3) := by decide +kernel
theorem dX9_rests_25 : decode cX9_rests 25 = .ok (.aload_n 0, 1) := by decide +kernel
theorem dX9_rests_26 : decode cX9_rests 26 = .ok (.getfield 38, 3) := by decide +kernel
theorem dX9_rests_29 : decode cX9_rests 29 = .ok (.invokevirtual 243, 3) := by decide +kernel
theorem dX9_rests_32 : decode cX9_rests 32 = .ok (.aload_n 0, 1) := by decide +kernel
theorem dX9_rests_33 : decode cX9_rests 33 = .ok (.getfield 48, 3) := by decide +kernel
theorem dX9_rests_36 : decode cX9_rests 36 = .ok (.getfield 247, 3) := by decide +kernel
theorem dX9_rests_39 : decode cX9_rests 39 = .ok (.ireturn, 1) := by decide +kernel
theorem dX9_rest_0 : decode cX9_rest 0 = .ok (.aload_n 0, 1) := by decide +kernel
theorem dX9_rest_1 : decode cX9_rest 1 = .ok (.getfield 26, 3) := by decide +kernel
theorem dX9_rest_4 : decode cX9_rest 4 = .ok (.invokevirtual 224, 3) := by decide +kernel
theorem dX9_rest_7 : decode cX9_rest 7 = .ok (.istore_n 2, 1) := by decide +kernel
theorem dX9_rest_8 : decode cX9_rest 8 = .ok (.iload_n 2, 1) := by decide +kernel
theorem dX9_rest_9 : decode cX9_rest 9 = .ok (.ifCond .ge 5, 3) := by decide +kernel
theorem dX9_rest_14 : decode cX9_rest 14 = .ok (.iload_n 1, 1) := by decide +kernel
theorem dX9_rest_15 : decode cX9_rest 15 = .ok (.ifCond .ge 6, 3) := by decide +kernel
theorem dX9_rest_21 : decode cX9_rest 21 = .ok (.aload_n 0, 1) := by decide +kernel
theorem dX9_rest_22 : decode cX9_rest 22 = .ok (.getfield 38, 3) := by decide +kernel
theorem dX9_rest_25 : decode cX9_rest 25 = .ok (.invokevirtual 227, 3) := by decide +kernel
theorem dX9_rest_28 : decode cX9_rest 28 = .ok (.aload_n 0, 1) := by decide +kernel
theorem dX9_rest_29 : decode cX9_rest 29 = .ok (.getfield 38, 3) := by decide +kernel
theorem dX9_rest_32 : decode cX9_rest 32 = .ok (.iload_n 1, 1) := by decide +kernel
theorem dX9_rest_33 : decode cX9_rest 33 = .ok (.invokevirtual 250, 3) := by decide +kernel
theorem dX0_goToRest_0 : decode cX0_goToRest 0 = .ok (.aload_n 0, 1) := by decide +kernel
theorem dX0_goToRest_1 : decode cX0_goToRest 1 = .ok (.invokevirtual 122, 3) := by decide +kernel
theorem dX0_goToRest_4 : decode cX0_goToRest 4 = .ok (.istore_n 2, 1) := by decide +kernel
theorem dX0_goToRest_5 : decode cX0_goToRest 5 = .ok (.iconst 0, 1) := by decide +kernel
theorem dX0_goToRest_6 : decode cX0_goToRest 6 = .ok (.istore_n 3, 1) := by decide +kernel
theorem dX0_goToRest_7 : decode cX0_goToRest 7 = .ok (.iconst 1, 1) := by decide +kernel
theorem dX0_goToRest_8 : decode cX0_goToRest 8 = .ok (.istore 4, 2) := by decide +kernel
theorem dX0_goToRest_10 : decode cX0_goToRest 10 = .ok (.aload_n 0, 1) := by decide +kernel
theorem dX0_goToRest_11 : decode cX0_goToRest 11 = .ok (.iload_n 2, 1) := by decide +kernel
theorem dX0_goToRest_12 : decode cX0_goToRest 12 = .ok (.invokevirtual 125, 3) := by decide +kernel
theorem dX0_goToRest_15 : decode cX0_goToRest 15 = .ok (.iconst 0, 1) := by decide +kernel
theorem dX0_goToRest_16 : decode cX0_goToRest 16 = .ok (.istore 5, 2) := by decide +kernel
theorem dX0_goToRest_18 : decode cX0_goToRest 18 = .ok (.iload 5, 2) := by decide +kernel
theorem dX0_goToRest_20 : decode cX0_goToRest 20 = .ok (.sipush 2000, 3) := by decide +kernel
theorem dX0_goToRest_23 : decode cX0_goToRest 23 = .ok (.if_icmp .ge 38, 3) := by decide +kernel
theorem dX0_goToRest_26 : decode cX0_goToRest 26 = .ok (.iload 4, 2) := by decide +kernel
theorem dX0_goToRest_28 : decode cX0_goToRest 28 = .ok (.ifCond .eq 33, 3) := by decide +kernel
theorem dX0_goToRest_31 : decode cX0_goToRest 31 = .ok (.aload_n 0, 1) := by decide +kernel
theorem dX0_goToRest_32 : decode cX0_goToRest 32 = .ok (.invokevirtual 129, 3) := by decide +kernel
theorem dX0_goToRest_35 : decode cX0_goToRest 35 = .ok (.ifCond .eq 13, 3) := by decide +kernel
theorem dX0_goToRest_38 : decode cX0_goToRest 38 = .ok (.iload_n 3, 1) := by decide +kernel
theorem dX0_goToRest_39 : decode cX0_goToRest 39 = .ok (.iload_n 1, 1) := by decide +kernel
theorem dX0_goToRest_40 : decode cX0_goToRest 40 = .ok (.if_icmp .ne 5, 3) := by decide +kernel
theorem dX0_goToRest_45 : decode cX0_goToRest 45 = .ok (.iinc 3 1, 3) := by decide +kernel
theorem dX0_goToRest_48 : decode cX0_goToRest 48 = .ok (.aload_n 0, 1) := by decide +kernel
theorem dX0_goToRest_49 : decode cX0_goToRest 49 = .ok (.iload_n 2, 1) := by decide +kernel
theorem dX0_goToRest_50 : decode cX0_goToRest 50 = .ok (.invokevirtual 133, 3) := by decide +kernel
theorem dX0_goToRest_53 : decode cX0_goToRest 53 = .ok (.istore 4, 2) := by decide +kernel
theorem dX0_goToRest_55 : decode cX0_goToRest 55 = .ok (.iinc 5 1, 3) := by decide +kernel
theorem dX0_goToRest_58 : decode cX0_goToRest 58 = .ok (.goto (-40), 3) := by decide +kernel
theorem dX0_goToRest_61 : decode cX0_goToRest 61 = .ok (.iconst 0, 1) := by decide +kernel
theorem dX0_goToRest_62 : decode cX0_goToRest 62 = .ok (.ireturn, 1) := by decide +kernel
theorem dX0_goToRest_43 : decode cX0_goToRest 43 = .ok (.iconst 1, 1) := by decide +kernel
theorem dX0_goToRest_44 : decode cX0_goToRest 44 = .ok (.ireturn, 1) := by decide +kernel
theorem dX9_rest_36 : decode cX9_rest 36 = .ok (.ifCond .ne 16, 3) := by decide +kernel
theorem dX9_rest_39 : decode cX9_rest 39 = .ok (.aload_n 0, 1) := by decide +kernel
theorem dX9_rest_40 : decode cX9_rest 40 = .ok (.getfield 19, 3) := by decide +kernel
theorem dX9_rest_43 : decode cX9_rest 43 = .ok (.aload_n 0, 1) := by decide +kernel
theorem dX9_rest_44 : decode cX9_rest 44 = .ok (.getfield 12, 3) := by decide +kernel
theorem dX9_rest_47 : decode cX9_rest 47 = .ok (.invokevirtual 80, 3) := by decide +kernel
theorem dX9_rest_50 : decode cX9_rest 50 = .ok (.iconst (-1), 1) := by decide +kernel
theorem dX9_rest_51 : decode cX9_rest 51 = .ok (.ireturn, 1) := by decide +kernel
theorem dX9_rest_52 : decode cX9_rest 52 = .ok (.aload_n 0, 1) := by decide +kernel
theorem dX9_rest_53 : decode cX9_rest 53 = .ok (.invokevirtual 234, 3) := by decide +kernel
theorem dX9_rest_56 : decode cX9_rest 56 = .ok (.aload_n 0, 1) := by decide +kernel
theorem dX9_rest_57 : decode cX9_rest 57 = .ok (.getfield 38, 3) := by decide +kernel
theorem dX9_rest_60 : decode cX9_rest 60 = .ok (.invokevirtual 209, 3) := by decide +kernel
theorem dX9_rest_63 : decode cX9_rest 63 = .ok (.ireturn, 1) := by decide +kernel
theorem dX9_rest_18 : decode cX9_rest 18 = .ok (.bipush (-3), 2) := by decide +kernel
theorem dX9_rest_20 : decode cX9_rest 20 = .ok (.ireturn, 1) := by decide +kernel
theorem dX9_extreme_0 : decode cX9_extreme 0 = .ok (.aload_n 0, 1) := by decide +kernel
theorem dX9_extreme_1 : decode cX9_extreme 1 = .ok (.getfield 26, 3) := by decide +kernel
theorem dX9_extreme_4 : decode cX9_extreme 4 = .ok (.invokevirtual 224, 3) := by decide +kernel
theorem dX9_extreme_7 : decode cX9_extreme 7 = .ok (.istore_n 2, 1) := by decide +kernel
theorem dX9_extreme_8 : decode cX9_extreme 8 = .ok (.iload_n 2, 1) := by decide +kernel
theorem dX9_extreme_9 : decode cX9_extreme 9 = .ok (.ifCond .ge 5, 3) := by decide +kernel
theorem dX9_extreme_14 : decode cX9_extreme 14 = .ok (.iload_n 1, 1) := by decide +kernel
theorem dX9_extreme_15 : decode cX9_extreme 15 = .ok (.ifCond .lt 8, 3) := by decide +kernel
theorem dX9_extreme_23 : decode cX9_extreme 23 = .ok (.bipush (-3), 2) := by decide +kernel
theorem dX9_extreme_25 : decode cX9_extreme 25 = .ok (.ireturn, 1) := by decide +kernel
theorem dX9_extreme_18 : decode cX9_extreme 18 = .ok (.iload_n 1, 1) := by decide +kernel
theorem dX9_extreme_19 : decode cX9_extreme 19 = .ok (.iconst 2, 1) := by decide +kernel
theorem dX9_extreme_20 : decode cX9_extreme 20 = .ok (.if_icmp .le 6, 3) := by decide +kernel
theorem dX9_extreme_26 : decode cX9_extreme 26 = .ok (.aload_n 0, 1) := by decide +kernel
theorem dX9_extreme_27 : decode cX9_extreme 27 = .ok (.getfield 38, 3) := by decide +kernel
theorem dX9_extreme_30 : decode cX9_extreme 30 = .ok (.invokevirtual 227, 3) := by decide +kernel
theorem dX9_extreme_33 : decode cX9_extreme 33 = .ok (.aload_n 0, 1) := by decide +kernel
theorem dX9_extreme_34 : decode cX9_extreme 34 = .ok (.getfield 48, 3) := by decide +kernel
theorem dX9_extreme_37 : decode cX9_extreme 37 = .ok (.aload_n 0, 1) := by decide +kernel
theorem dX9_extreme_38 : decode cX9_extreme 38 = .ok (.getfield 38, 3) := by decide +kernel
theorem dX9_extreme_41 : decode cX9_extreme 41 = .ok (.invokevirtual 243, 3) := by decide +kernel
theorem dX9_extreme_44 : decode cX9_extreme 44 = .ok (.iload_n 1, 1) := by decide +kernel
theorem dX9_extreme_45 : decode cX9_extreme 45 = .ok (.ifCond .ne 11, 3) := by decide +kernel
theorem dX9_extreme_56 : decode cX9_extreme 56 = .ok (.iload_n 1, 1) := by decide +kernel
theorem dX9_extreme_57 : decode cX9_extreme 57 = .ok (.iconst 1, 1) := by decide +kernel
theorem dX9_extreme_58 : decode cX9_extreme 58 = .ok (.if_icmp .ne 13, 3) := by decide +kernel
theorem dX9_extreme_71 : decode cX9_extreme 71 = .ok (.aload_n 0, 1) := by decide +kernel
theorem dX9_extreme_72 : decode cX9_extreme 72 = .ok (.getfield 48, 3) := by decide +kernel
theorem dX9_extreme_75 : decode cX9_extreme 75 = .ok (.getfield 259, 3) := by decide +kernel
theorem dX9_extreme_78 : decode cX9_extreme 78 = .ok (.ireturn, 1) := by decide +kernel
theorem dX9_extreme_61 : decode cX9_extreme 61 = .ok (.aload_n 0, 1) := by decide +kernel
theorem dX9_extreme_62 : decode cX9_extreme 62 = .ok (.getfield 48, 3) := by decide +kernel
theorem dX9_extreme_65 : decode cX9_extreme 65 = .ok (.getfield 256, 3) := by decide +kernel
theorem dX9_extreme_68 : decode cX9_extreme 68 = .ok (.goto 10, 3) := by decide +kernel
theorem dX9_extreme_48 : decode cX9_extreme 48 = .ok (.aload_n 0, 1) := by decide +kernel
theorem dX9_extreme_49 : decode cX9_extreme 49 = .ok (.getfield 48, 3) := by decide +kernel
theorem dX9_extreme_52 : decode cX9_extreme 52 = .ok (.getfield 253, 3) := by decide +kernel
theorem dX9_extreme_55 : decode cX9_extreme 55 = .ok (.ireturn, 1) := by decide +kernel
theorem dX9_price_0 : decode cX9_price 0 = .ok (.aload_n 0, 1) := by decide +kernel
theorem dX9_price_1 : decode cX9_price 1 = .ok (.getfield 26, 3) := by decide +kernel
theorem dX9_price_4 : decode cX9_price 4 = .ok (.invokevirtual 224, 3) := by decide +kernel
theorem dX9_price_7 : decode cX9_price 7 = .ok (.istore_n 2, 1) := by decide +kernel
theorem dX9_price_8 : decode cX9_price 8 = .ok (.iload_n 2, 1) := by decide +kernel
theorem dX9_price_9 : decode cX9_price 9 = .ok (.ifCond .ge 5, 3) := by decide +kernel
theorem dX9_price_14 : decode cX9_price 14 = .ok (.iload_n 1, 1) := by decide +kernel
theorem dX9_price_15 : decode cX9_price 15 = .ok (.invokestatic 100, 3) := by decide +kernel
theorem dX9_isBit_0 : decode cX9_isBit 0 = .ok (.iload_n 0, 1) := by decide +kernel
theorem dX9_isBit_1 : decode cX9_isBit 1 = .ok (.ifCond .eq 8, 3) := by decide +kernel
theorem dX9_isBit_9 : decode cX9_isBit 9 = .ok (.iconst 1, 1) := by decide +kernel
theorem dX9_isBit_10 : decode cX9_isBit 10 = .ok (.goto 4, 3) := by decide +kernel
theorem dX9_isBit_14 : decode cX9_isBit 14 = .ok (.ireturn, 1) := by decide +kernel
theorem dX9_isBit_4 : decode cX9_isBit 4 = .ok (.iload_n 0, 1) := by decide +kernel
theorem dX9_isBit_5 : decode cX9_isBit 5 = .ok (.iconst 1, 1) := by decide +kernel
theorem dX9_isBit_6 : decode cX9_isBit 6 = .ok (.if_icmp .ne 7, 3) := by decide +kernel
theorem dX9_isBit_13 : decode cX9_isBit 13 = .ok (.iconst 0, 1) := by decide +kernel
theorem dX9_price_18 : decode cX9_price 18 = .ok (.ifCond .ne 6, 3) := by decide +kernel
theorem dX9_price_24 : decode cX9_price 24 = .ok (.aload_n 0, 1) := by decide +kernel
theorem dX9_price_25 : decode cX9_price 25 = .ok (.getfield 38, 3) := by decide +kernel
theorem dX9_price_28 : decode cX9_price 28 = .ok (.invokevirtual 227, 3) := by decide +kernel
theorem dX9_price_31 : decode cX9_price 31 = .ok (.aload_n 0, 1) := by decide +kernel
theorem dX9_price_32 : decode cX9_price 32 = .ok (.getfield 48, 3) := by decide +kernel
theorem dX9_price_35 : decode cX9_price 35 = .ok (.aload_n 0, 1) := by decide +kernel
theorem dX9_price_36 : decode cX9_price 36 = .ok (.getfield 38, 3) := by decide +kernel
theorem dX9_price_39 : decode cX9_price 39 = .ok (.invokevirtual 243, 3) := by decide +kernel
theorem dX9_price_42 : decode cX9_price 42 = .ok (.aload_n 0, 1) := by decide +kernel
theorem dX9_price_43 : decode cX9_price 43 = .ok (.getfield 48, 3) := by decide +kernel
theorem dX9_price_46 : decode cX9_price 46 = .ok (.getfield 240, 3) := by decide +kernel
theorem dX9_price_49 : decode cX9_price 49 = .ok (.ifCond .le 36, 3) := by decide +kernel
theorem dX9_price_85 : decode cX9_price 85 = .ok (.aload_n 0, 1) := by decide +kernel
theorem dX9_price_86 : decode cX9_price 86 = .ok (.getfield 48, 3) := by decide +kernel
theorem dX9_price_89 : decode cX9_price 89 = .ok (.getfield 256, 3) := by decide +kernel
theorem dX9_price_92 : decode cX9_price 92 = .ok (.ifCond .ne 7, 3) := by decide +kernel
theorem dX9_price_95 : decode cX9_price 95 = .ok (.iconst 1, 1) := by decide +kernel
theorem dX9_price_96 : decode cX9_price 96 = .ok (.goto 4, 3) := by decide +kernel
theorem dX9_price_100 : decode cX9_price 100 = .ok (.ireturn, 1) := by decide +kernel
theorem dX9_price_21 : decode cX9_price 21 = .ok (.bipush (-3), 2) := by decide +kernel
theorem dX9_price_23 : decode cX9_price 23 = .ok (.ireturn, 1) := by decide +kernel
theorem dX9_harms_0 : decode cX9_harms 0 = .ok (.aload_n 0, 1) := by decide +kernel
theorem dX9_harms_1 : decode cX9_harms 1 = .ok (.getfield 26, 3) := by decide +kernel
theorem dX9_harms_4 : decode cX9_harms 4 = .ok (.invokevirtual 224, 3) := by decide +kernel
theorem dX9_harms_7 : decode cX9_harms 7 = .ok (.istore_n 1, 1) := by decide +kernel
theorem dX9_harms_8 : decode cX9_harms 8 = .ok (.iload_n 1, 1) := by decide +kernel
theorem dX9_harms_9 : decode cX9_harms 9 = .ok (.ifCond .ge 5, 3) := by decide +kernel
theorem dX9_harms_14 : decode cX9_harms 14 = .ok (.aload_n 0, 1) := by decide +kernel
theorem dX9_harms_15 : decode cX9_harms 15 = .ok (.getfield 38, 3) := by decide +kernel
theorem dX9_harms_18 : decode cX9_harms 18 = .ok (.invokevirtual 227, 3) := by decide +kernel
theorem dX9_harms_21 : decode cX9_harms 21 = .ok (.aload_n 0, 1) := by decide +kernel
theorem dX9_harms_22 : decode cX9_harms 22 = .ok (.getfield 48, 3) := by decide +kernel
theorem dX9_harms_25 : decode cX9_harms 25 = .ok (.aload_n 0, 1) := by decide +kernel
theorem dX9_harms_26 : decode cX9_harms 26 = .ok (.getfield 38, 3) := by decide +kernel
theorem dX9_harms_29 : decode cX9_harms 29 = .ok (.invokevirtual 243, 3) := by decide +kernel
theorem dX9_harms_32 : decode cX9_harms 32 = .ok (.aload_n 0, 1) := by decide +kernel
theorem dX9_harms_33 : decode cX9_harms 33 = .ok (.getfield 48, 3) := by decide +kernel
theorem dX9_harms_36 : decode cX9_harms 36 = .ok (.getfield 256, 3) := by decide +kernel
theorem dX9_harms_39 : decode cX9_harms 39 = .ok (.istore_n 2, 1) := by decide +kernel
theorem dX9_harms_40 : decode cX9_harms 40 = .ok (.iconst 0, 1) := by decide +kernel
theorem dX9_harms_41 : decode cX9_harms 41 = .ok (.istore_n 3, 1) := by decide +kernel
theorem dX9_harms_42 : decode cX9_harms 42 = .ok (.iconst 0, 1) := by decide +kernel
theorem dX9_harms_43 : decode cX9_harms 43 = .ok (.istore 4, 2) := by decide +kernel
theorem dX9_harms_45 : decode cX9_harms 45 = .ok (.iload 4, 2) := by decide +kernel
theorem dX9_harms_47 : decode cX9_harms 47 = .ok (.aload_n 0, 1) := by decide +kernel
theorem dX9_harms_48 : decode cX9_harms 48 = .ok (.getfield 12, 3) := by decide +kernel
theorem dX9_harms_51 : decode cX9_harms 51 = .ok (.getfield 76, 3) := by decide +kernel
theorem dX9_harms_54 : decode cX9_harms 54 = .ok (.if_icmp .ge 43, 3) := by decide +kernel
theorem dX9_harms_97 : decode cX9_harms 97 = .ok (.iload_n 3, 1) := by decide +kernel
theorem dX9_harms_98 : decode cX9_harms 98 = .ok (.ireturn, 1) := by decide +kernel
theorem dX9_agrees_0 : decode cX9_agrees 0 = .ok (.aload_n 0, 1) := by decide +kernel
theorem dX9_agrees_1 : decode cX9_agrees 1 = .ok (.getfield 26, 3) := by decide +kernel
theorem dX9_agrees_4 : decode cX9_agrees 4 = .ok (.invokevirtual 224, 3) := by decide +kernel
theorem dX9_agrees_7 : decode cX9_agrees 7 = .ok (.istore_n 1, 1) := by decide +kernel
theorem dX9_agrees_8 : decode cX9_agrees 8 = .ok (.iload_n 1, 1) := by decide +kernel
theorem dX9_agrees_9 : decode cX9_agrees 9 = .ok (.ifCond .ge 5, 3) := by decide +kernel
theorem dX9_agrees_14 : decode cX9_agrees 14 = .ok (.aload_n 0, 1) := by decide +kernel
theorem dX9_agrees_15 : decode cX9_agrees 15 = .ok (.getfield 12, 3) := by decide +kernel
theorem dX9_agrees_18 : decode cX9_agrees 18 = .ok (.invokevirtual 205, 3) := by decide +kernel
theorem dX9_agrees_21 : decode cX9_agrees 21 = .ok (.ifCond .ne 6, 3) := by decide +kernel
theorem dX9_agrees_27 : decode cX9_agrees 27 = .ok (.aload_n 0, 1) := by decide +kernel
theorem dX9_agrees_28 : decode cX9_agrees 28 = .ok (.getfield 38, 3) := by decide +kernel
theorem dX9_agrees_31 : decode cX9_agrees 31 = .ok (.invokevirtual 152, 3) := by decide +kernel
theorem dX9_agrees_34 : decode cX9_agrees 34 = .ok (.aload_n 0, 1) := by decide +kernel
theorem dX9_agrees_35 : decode cX9_agrees 35 = .ok (.getfield 38, 3) := by decide +kernel
theorem dX9_agrees_38 : decode cX9_agrees 38 = .ok (.invokevirtual 273, 3) := by decide +kernel
theorem dX0_leastHeap_0 : decode cX0_leastHeap 0 = .ok (.aload_n 0, 1) := by decide +kernel
theorem dX0_leastHeap_1 : decode cX0_leastHeap 1 = .ok (.aload_n 0, 1) := by decide +kernel
theorem dX0_leastHeap_2 : decode cX0_leastHeap 2 = .ok (.getfield 24, 3) := by decide +kernel
theorem dX0_leastHeap_5 : decode cX0_leastHeap 5 = .ok (.invokevirtual 137, 3) := by decide +kernel
theorem dX0_leastHeap_8 : decode cX0_leastHeap 8 = .ok (.iconst 0, 1) := by decide +kernel
theorem dX0_leastHeap_9 : decode cX0_leastHeap 9 = .ok (.istore_n 1, 1) := by decide +kernel
theorem dX0_leastHeap_10 : decode cX0_leastHeap 10 = .ok (.iload_n 1, 1) := by decide +kernel
theorem dX0_leastHeap_11 : decode cX0_leastHeap 11 = .ok (.aload_n 0, 1) := by decide +kernel
theorem dX0_leastHeap_12 : decode cX0_leastHeap 12 = .ok (.getfield 30, 3) := by decide +kernel
theorem dX0_leastHeap_15 : decode cX0_leastHeap 15 = .ok (.getfield 66, 3) := by decide +kernel
theorem dX0_leastHeap_18 : decode cX0_leastHeap 18 = .ok (.if_icmp .ge 20, 3) := by decide +kernel
theorem dX0_leastHeap_38 : decode cX0_leastHeap 38 = .ok (.iconst 1, 1) := by decide +kernel
theorem dX0_leastHeap_39 : decode cX0_leastHeap 39 = .ok (.istore_n 1, 1) := by decide +kernel
theorem dX0_leastHeap_40 : decode cX0_leastHeap 40 = .ok (.iload_n 1, 1) := by decide +kernel
theorem dX0_leastHeap_41 : decode cX0_leastHeap 41 = .ok (.aload_n 0, 1) := by decide +kernel
theorem dX0_leastHeap_42 : decode cX0_leastHeap 42 = .ok (.invokevirtual 122, 3) := by decide +kernel
theorem dX0_leastHeap_45 : decode cX0_leastHeap 45 = .ok (.if_icmp .gt 29, 3) := by decide +kernel
theorem dX0_leastHeap_74 : decode cX0_leastHeap 74 = .ok (.iconst (-1), 1) := by decide +kernel
theorem dX0_leastHeap_75 : decode cX0_leastHeap 75 = .ok (.ireturn, 1) := by decide +kernel
theorem dX9_agrees_41 : decode cX9_agrees 41 = .ok (.ireturn, 1) := by decide +kernel
theorem dX9_better_0 : decode cX9_better 0 = .ok (.iload_n 1, 1) := by decide +kernel
theorem dX9_better_1 : decode cX9_better 1 = .ok (.iconst 1, 1) := by decide +kernel
theorem dX9_better_2 : decode cX9_better 2 = .ok (.if_icmp .lt 10, 3) := by decide +kernel
theorem dX9_better_12 : decode cX9_better 12 = .ok (.bipush (-3), 2) := by decide +kernel
theorem dX9_better_14 : decode cX9_better 14 = .ok (.ireturn, 1) := by decide +kernel
theorem dX9_better_5 : decode cX9_better 5 = .ok (.iload_n 1, 1) := by decide +kernel
theorem dX9_better_6 : decode cX9_better 6 = .ok (.sipush 200, 3) := by decide +kernel
theorem dX9_better_9 : decode cX9_better 9 = .ok (.if_icmp .le 6, 3) := by decide +kernel
theorem dX9_better_15 : decode cX9_better 15 = .ok (.aload_n 0, 1) := by decide +kernel
theorem dX9_better_16 : decode cX9_better 16 = .ok (.getfield 12, 3) := by decide +kernel
theorem dX9_better_19 : decode cX9_better 19 = .ok (.invokevirtual 205, 3) := by decide +kernel
theorem dX9_better_22 : decode cX9_better 22 = .ok (.ifCond .ne 6, 3) := by decide +kernel
theorem dX9_better_28 : decode cX9_better 28 = .ok (.aload_n 0, 1) := by decide +kernel
theorem dX9_better_29 : decode cX9_better 29 = .ok (.getfield 38, 3) := by decide +kernel
theorem dX9_better_32 : decode cX9_better 32 = .ok (.invokevirtual 152, 3) := by decide +kernel
theorem dX9_better_35 : decode cX9_better 35 = .ok (.iconst 0, 1) := by decide +kernel
theorem dX9_better_36 : decode cX9_better 36 = .ok (.istore_n 2, 1) := by decide +kernel
theorem dX9_better_37 : decode cX9_better 37 = .ok (.aload_n 0, 1) := by decide +kernel
theorem dX9_better_38 : decode cX9_better 38 = .ok (.getfield 38, 3) := by decide +kernel
theorem dX9_better_41 : decode cX9_better 41 = .ok (.invokevirtual 276, 3) := by decide +kernel
theorem dX9_better_44 : decode cX9_better 44 = .ok (.istore_n 3, 1) := by decide +kernel
theorem dX9_better_45 : decode cX9_better 45 = .ok (.iload_n 2, 1) := by decide +kernel
theorem dX9_better_46 : decode cX9_better 46 = .ok (.iload_n 1, 1) := by decide +kernel
theorem dX9_better_47 : decode cX9_better 47 = .ok (.if_icmp .ge 38, 3) := by decide +kernel
theorem dX9_better_50 : decode cX9_better 50 = .ok (.iload_n 3, 1) := by decide +kernel
theorem dX9_better_51 : decode cX9_better 51 = .ok (.iconst (-1), 1) := by decide +kernel
theorem dX9_better_52 : decode cX9_better 52 = .ok (.if_icmp .eq 33, 3) := by decide +kernel
theorem dX9_better_85 : decode cX9_better 85 = .ok (.aload_n 0, 1) := by decide +kernel
theorem dX9_better_86 : decode cX9_better 86 = .ok (.invokevirtual 234, 3) := by decide +kernel
theorem dX9_better_89 : decode cX9_better 89 = .ok (.iload_n 2, 1) := by decide +kernel
theorem dX9_better_90 : decode cX9_better 90 = .ok (.ireturn, 1) := by decide +kernel
theorem dX9_queue_0 : decode cX9_queue 0 = .ok (.aload_n 0, 1) := by decide +kernel
theorem dX9_queue_1 : decode cX9_queue 1 = .ok (.getfield 26, 3) := by decide +kernel
theorem dX9_queue_4 : decode cX9_queue 4 = .ok (.invokevirtual 224, 3) := by decide +kernel
theorem dX9_queue_7 : decode cX9_queue 7 = .ok (.bipush (-4), 2) := by decide +kernel
theorem dX9_queue_9 : decode cX9_queue 9 = .ok (.if_icmp .ne 6, 3) := by decide +kernel
theorem dX9_queue_15 : decode cX9_queue 15 = .ok (.aload_n 0, 1) := by decide +kernel
theorem dX9_queue_16 : decode cX9_queue 16 = .ok (.getfield 38, 3) := by decide +kernel
theorem dX9_queue_19 : decode cX9_queue 19 = .ok (.invokevirtual 227, 3) := by decide +kernel
theorem dX9_queue_22 : decode cX9_queue 22 = .ok (.iconst 0, 1) := by decide +kernel
theorem dX9_queue_23 : decode cX9_queue 23 = .ok (.istore_n 1, 1) := by decide +kernel
theorem dX9_queue_24 : decode cX9_queue 24 = .ok (.iload_n 1, 1) := by decide +kernel
theorem dX9_queue_25 : decode cX9_queue 25 = .ok (.aload_n 0, 1) := by decide +kernel
theorem dX9_queue_26 : decode cX9_queue 26 = .ok (.getfield 12, 3) := by decide +kernel
theorem dX9_queue_29 : decode cX9_queue 29 = .ok (.getfield 162, 3) := by decide +kernel
theorem dX9_queue_32 : decode cX9_queue 32 = .ok (.if_icmp .ge 25, 3) := by decide +kernel
theorem dX9_queue_57 : decode cX9_queue 57 = .ok (.aload_n 0, 1) := by decide +kernel
theorem dX9_queue_58 : decode cX9_queue 58 = .ok (.invokevirtual 234, 3) := by decide +kernel
theorem dX9_queue_61 : decode cX9_queue 61 = .ok (.aload_n 0, 1) := by decide +kernel
theorem dX9_queue_62 : decode cX9_queue 62 = .ok (.getfield 38, 3) := by decide +kernel
theorem dX9_queue_65 : decode cX9_queue 65 = .ok (.invokevirtual 209, 3) := by decide +kernel
theorem dX9_queue_68 : decode cX9_queue 68 = .ok (.ireturn, 1) := by decide +kernel
theorem dX9_teach_0 : decode cX9_teach 0 = .ok (.aload_n 0, 1) := by decide +kernel
theorem dX9_teach_1 : decode cX9_teach 1 = .ok (.getfield 26, 3) := by decide +kernel
theorem dX9_teach_4 : decode cX9_teach 4 = .ok (.invokevirtual 224, 3) := by decide +kernel
theorem dX9_teach_7 : decode cX9_teach 7 = .ok (.istore_n 1, 1) := by decide +kernel
theorem dX9_teach_8 : decode cX9_teach 8 = .ok (.iload_n 1, 1) := by decide +kernel
theorem dX9_teach_9 : decode cX9_teach 9 = .ok (.ifCond .ge 5, 3) := by decide +kernel
theorem dX9_teach_14 : decode cX9_teach 14 = .ok (.aload_n 0, 1) := by decide +kernel
theorem dX9_teach_15 : decode cX9_teach 15 = .ok (.invokevirtual 237, 3) := by decide +kernel
theorem dX9_teach_18 : decode cX9_teach 18 = .ok (.aload_n 0, 1) := by decide +kernel
theorem dX9_teach_19 : decode cX9_teach 19 = .ok (.invokevirtual 234, 3) := by decide +kernel
theorem dX9_teach_22 : decode cX9_teach 22 = .ok (.iconst 0, 1) := by decide +kernel
theorem dX9_teach_23 : decode cX9_teach 23 = .ok (.istore_n 2, 1) := by decide +kernel
theorem dX9_teach_24 : decode cX9_teach 24 = .ok (.iload_n 2, 1) := by decide +kernel
theorem dX9_teach_25 : decode cX9_teach 25 = .ok (.aload_n 0, 1) := by decide +kernel
theorem dX9_teach_26 : decode cX9_teach 26 = .ok (.getfield 12, 3) := by decide +kernel
theorem dX9_teach_29 : decode cX9_teach 29 = .ok (.getfield 76, 3) := by decide +kernel
theorem dX9_teach_32 : decode cX9_teach 32 = .ok (.if_icmp .ge 42, 3) := by decide +kernel
theorem dX9_teach_74 : decode cX9_teach 74 = .ok (.aload_n 0, 1) := by decide +kernel
theorem dX9_teach_75 : decode cX9_teach 75 = .ok (.getfield 38, 3) := by decide +kernel
theorem dX9_teach_78 : decode cX9_teach 78 = .ok (.invokevirtual 152, 3) := by decide +kernel
theorem dX9_teach_81 : decode cX9_teach 81 = .ok (.aload_n 0, 1) := by decide +kernel
theorem dX9_teach_82 : decode cX9_teach 82 = .ok (.getfield 38, 3) := by decide +kernel
theorem dX9_teach_85 : decode cX9_teach 85 = .ok (.invokevirtual 215, 3) := by decide +kernel
theorem dX9_teach_88 : decode cX9_teach 88 = .ok (.ifCond .eq 7, 3) := by decide +kernel
theorem dX9_teach_91 : decode cX9_teach 91 = .ok (.iconst 1, 1) := by decide +kernel
theorem dX9_teach_92 : decode cX9_teach 92 = .ok (.goto 4, 3) := by decide +kernel
theorem dX9_teach_96 : decode cX9_teach 96 = .ok (.ireturn, 1) := by decide +kernel
theorem dX9_level_0 : decode cX9_level 0 = .ok (.iload_n 1, 1) := by decide +kernel
theorem dX9_level_1 : decode cX9_level 1 = .ok (.iload_n 2, 1) := by decide +kernel
theorem dX9_level_2 : decode cX9_level 2 = .ok (.invokestatic 72, 3) := by decide +kernel
theorem dX9_level_5 : decode cX9_level 5 = .ok (.ifCond .eq 14, 3) := by decide +kernel
theorem dX9_level_19 : decode cX9_level 19 = .ok (.ldc2_w 288, 3) := by decide +kernel
theorem dX9_level_22 : decode cX9_level 22 = .ok (.lreturn, 1) := by decide +kernel
theorem dX9_level_8 : decode cX9_level 8 = .ok (.iload_n 3, 1) := by decide +kernel
theorem dX9_level_9 : decode cX9_level 9 = .ok (.iload 4, 2) := by decide +kernel
theorem dX9_level_11 : decode cX9_level 11 = .ok (.iload 5, 2) := by decide +kernel
theorem dX9_level_13 : decode cX9_level 13 = .ok (.invokestatic 284, 3) := by decide +kernel
theorem dX9_isStream_0 : decode cX9_isStream 0 = .ok (.iload_n 0, 1) := by decide +kernel
theorem dX9_isStream_1 : decode cX9_isStream 1 = .ok (.iconst 1, 1) := by decide +kernel
theorem dX9_isStream_2 : decode cX9_isStream 2 = .ok (.if_icmp .lt 28, 3) := by decide +kernel
theorem dX9_isStream_30 : decode cX9_isStream 30 = .ok (.iconst 0, 1) := by decide +kernel
theorem dX9_isStream_31 : decode cX9_isStream 31 = .ok (.ireturn, 1) := by decide +kernel
theorem dX9_isStream_5 : decode cX9_isStream 5 = .ok (.iload_n 0, 1) := by decide +kernel
theorem dX9_isStream_6 : decode cX9_isStream 6 = .ok (.sipush 1000, 3) := by decide +kernel
theorem dX9_isStream_9 : decode cX9_isStream 9 = .ok (.if_icmp .gt 21, 3) := by decide +kernel
theorem dX9_isStream_12 : decode cX9_isStream 12 = .ok (.iload_n 1, 1) := by decide +kernel
theorem dX9_isStream_13 : decode cX9_isStream 13 = .ok (.invokestatic 100, 3) := by decide +kernel
theorem dX9_isStream_16 : decode cX9_isStream 16 = .ok (.ifCond .eq 14, 3) := by decide +kernel
