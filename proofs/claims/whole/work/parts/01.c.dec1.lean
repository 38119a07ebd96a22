theorem dX2_allows_34 : decode cX2_allows 34 = .ok (.iconst 0, 1) := by decide +kernel
theorem dX2_allows_35 : decode cX2_allows 35 = .ok (.ireturn, 1) := by decide +kernel
theorem dX2_exchange_0 : decode cX2_exchange 0 = .ok (.aload_n 0, 1) := by decide +kernel
theorem dX2_exchange_1 : decode cX2_exchange 1 = .ok (.getfield 18, 3) := by decide +kernel
theorem dX2_exchange_4 : decode cX2_exchange 4 = .ok (.iload_n 1, 1) := by decide +kernel
theorem dX2_exchange_5 : decode cX2_exchange 5 = .ok (.iaload, 1) := by decide +kernel
theorem dX2_exchange_6 : decode cX2_exchange 6 = .ok (.istore_n 3, 1) := by decide +kernel
theorem dX2_exchange_7 : decode cX2_exchange 7 = .ok (.aload_n 0, 1) := by decide +kernel
theorem dX2_exchange_8 : decode cX2_exchange 8 = .ok (.getfield 18, 3) := by decide +kernel
theorem dX2_exchange_11 : decode cX2_exchange 11 = .ok (.iload_n 1, 1) := by decide +kernel
theorem dX2_exchange_12 : decode cX2_exchange 12 = .ok (.iload_n 2, 1) := by decide +kernel
theorem dX2_exchange_13 : decode cX2_exchange 13 = .ok (.iastore, 1) := by decide +kernel
theorem dX2_exchange_14 : decode cX2_exchange 14 = .ok (.iload_n 3, 1) := by decide +kernel
theorem dX2_exchange_15 : decode cX2_exchange 15 = .ok (.ireturn, 1) := by decide +kernel
theorem dX2_time_0 : decode cX2_time 0 = .ok (.aload_n 0, 1) := by decide +kernel
theorem dX2_time_1 : decode cX2_time 1 = .ok (.getfield 18, 3) := by decide +kernel
theorem dX2_time_4 : decode cX2_time 4 = .ok (.iconst 0, 1) := by decide +kernel
theorem dX2_time_5 : decode cX2_time 5 = .ok (.iaload, 1) := by decide +kernel
theorem dX2_time_6 : decode cX2_time 6 = .ok (.ireturn, 1) := by decide +kernel
theorem dX2_near_0 : decode cX2_near 0 = .ok (.aload_n 0, 1) := by decide +kernel
theorem dX2_near_1 : decode cX2_near 1 = .ok (.getfield 18, 3) := by decide +kernel
theorem dX2_near_4 : decode cX2_near 4 = .ok (.iconst 1, 1) := by decide +kernel
theorem dX2_near_5 : decode cX2_near 5 = .ok (.iaload, 1) := by decide +kernel
theorem dX2_near_6 : decode cX2_near 6 = .ok (.ireturn, 1) := by decide +kernel
theorem dX2_miss_0 : decode cX2_miss 0 = .ok (.aload_n 0, 1) := by decide +kernel
theorem dX2_miss_1 : decode cX2_miss 1 = .ok (.getfield 18, 3) := by decide +kernel
theorem dX2_miss_4 : decode cX2_miss 4 = .ok (.iconst 2, 1) := by decide +kernel
theorem dX2_miss_5 : decode cX2_miss 5 = .ok (.iaload, 1) := by decide +kernel
theorem dX2_miss_6 : decode cX2_miss 6 = .ok (.ireturn, 1) := by decide +kernel
theorem dX2_high_0 : decode cX2_high 0 = .ok (.aload_n 0, 1) := by decide +kernel
theorem dX2_high_1 : decode cX2_high 1 = .ok (.getfield 18, 3) := by decide +kernel
theorem dX2_high_4 : decode cX2_high 4 = .ok (.iconst 3, 1) := by decide +kernel
theorem dX2_high_5 : decode cX2_high 5 = .ok (.iaload, 1) := by decide +kernel
theorem dX2_high_6 : decode cX2_high 6 = .ok (.ireturn, 1) := by decide +kernel
theorem dX2_wanted_0 : decode cX2_wanted 0 = .ok (.aload_n 0, 1) := by decide +kernel
theorem dX2_wanted_1 : decode cX2_wanted 1 = .ok (.getfield 18, 3) := by decide +kernel
theorem dX2_wanted_4 : decode cX2_wanted 4 = .ok (.iconst 4, 1) := by decide +kernel
theorem dX2_wanted_5 : decode cX2_wanted 5 = .ok (.iaload, 1) := by decide +kernel
theorem dX2_wanted_6 : decode cX2_wanted 6 = .ok (.ireturn, 1) := by decide +kernel
theorem dX2_delay_0 : decode cX2_delay 0 = .ok (.aload_n 0, 1) := by decide +kernel
theorem dX2_delay_1 : decode cX2_delay 1 = .ok (.getfield 18, 3) := by decide +kernel
theorem dX2_delay_4 : decode cX2_delay 4 = .ok (.iconst 5, 1) := by decide +kernel
theorem dX2_delay_5 : decode cX2_delay 5 = .ok (.iaload, 1) := by decide +kernel
theorem dX2_delay_6 : decode cX2_delay 6 = .ok (.ireturn, 1) := by decide +kernel
theorem dX2_pull_0 : decode cX2_pull 0 = .ok (.aload_n 0, 1) := by decide +kernel
theorem dX2_pull_1 : decode cX2_pull 1 = .ok (.getfield 18, 3) := by decide +kernel
theorem dX2_pull_4 : decode cX2_pull 4 = .ok (.bipush 6, 2) := by decide +kernel
theorem dX2_pull_6 : decode cX2_pull 6 = .ok (.iaload, 1) := by decide +kernel
theorem dX2_pull_7 : decode cX2_pull 7 = .ok (.ireturn, 1) := by decide +kernel
theorem dX3_init_0 : decode cX3_init 0 = .ok (.aload_n 0, 1) := by decide +kernel
theorem dX3_init_1 : decode cX3_init 1 = .ok (.invokespecial 1, 3) := by decide +kernel
theorem dX3_init_4 : decode cX3_init 4 = .ok (.return_, 1) := by decide +kernel
theorem dX3_answer_0 : decode cX3_answer 0 = .ok (.iload_n 1, 1) := by decide +kernel
theorem dX3_answer_1 : decode cX3_answer 1 = .ok (.tableswitch 51 0 3 #[31, 36, 41, 46], 31) := by decide +kernel
theorem dX3_answer_32 : decode cX3_answer 32 = .ok (.aload_n 0, 1) := by decide +kernel
theorem dX3_answer_33 : decode cX3_answer 33 = .ok (.getfield 7, 3) := by decide +kernel
theorem dX3_answer_36 : decode cX3_answer 36 = .ok (.ireturn, 1) := by decide +kernel
theorem dX3_answer_37 : decode cX3_answer 37 = .ok (.aload_n 0, 1) := by decide +kernel
theorem dX3_answer_38 : decode cX3_answer 38 = .ok (.getfield 13, 3) := by decide +kernel
theorem dX3_answer_41 : decode cX3_answer 41 = .ok (.ireturn, 1) := by decide +kernel
theorem dX3_answer_42 : decode cX3_answer 42 = .ok (.aload_n 0, 1) := by decide +kernel
theorem dX3_answer_43 : decode cX3_answer 43 = .ok (.getfield 16, 3) := by decide +kernel
theorem dX3_answer_46 : decode cX3_answer 46 = .ok (.ireturn, 1) := by decide +kernel
theorem dX3_answer_47 : decode cX3_answer 47 = .ok (.aload_n 0, 1) := by decide +kernel
theorem dX3_answer_48 : decode cX3_answer 48 = .ok (.getfield 19, 3) := by decide +kernel
theorem dX3_answer_51 : decode cX3_answer 51 = .ok (.ireturn, 1) := by decide +kernel
theorem dX3_answer_52 : decode cX3_answer 52 = .ok (.aload_n 0, 1) := by decide +kernel
theorem dX3_answer_53 : decode cX3_answer 53 = .ok (.getfield 22, 3) := by decide +kernel
theorem dX3_answer_56 : decode cX3_answer 56 = .ok (.ireturn, 1) := by decide +kernel
theorem dX4_init_0 : decode cX4_init 0 = .ok (.aload_n 0, 1) := by decide +kernel
theorem dX4_init_1 : decode cX4_init 1 = .ok (.invokespecial 1, 3) := by decide +kernel
theorem dX4_init_4 : decode cX4_init 4 = .ok (.aload_n 0, 1) := by decide +kernel
theorem dX4_init_5 : decode cX4_init 5 = .ok (.new 7, 3) := by decide +kernel
theorem dX4_init_8 : decode cX4_init 8 = .ok (.dup, 1) := by decide +kernel
theorem dX4_init_9 : decode cX4_init 9 = .ok (.invokespecial 9, 3) := by decide +kernel
theorem dX4_init_12 : decode cX4_init 12 = .ok (.putfield 10, 3) := by decide +kernel
theorem dX4_init_15 : decode cX4_init 15 = .ok (.aload_n 0, 1) := by decide +kernel
theorem dX4_init_16 : decode cX4_init 16 = .ok (.new 16, 3) := by decide +kernel
theorem dX4_init_19 : decode cX4_init 19 = .ok (.dup, 1) := by decide +kernel
theorem dX4_init_20 : decode cX4_init 20 = .ok (.invokespecial 18, 3) := by decide +kernel
theorem dX4_init_23 : decode cX4_init 23 = .ok (.putfield 19, 3) := by decide +kernel
theorem dX4_init_26 : decode cX4_init 26 = .ok (.aload_n 0, 1) := by decide +kernel
theorem dX4_init_27 : decode cX4_init 27 = .ok (.bipush 6, 2) := by decide +kernel
theorem dX4_init_29 : decode cX4_init 29 = .ok (.anewarray 23, 3) := by decide +kernel
theorem dX4_init_32 : decode cX4_init 32 = .ok (.putfield 25, 3) := by decide +kernel
theorem dX4_init_35 : decode cX4_init 35 = .ok (.iconst 0, 1) := by decide +kernel
theorem dX4_init_36 : decode cX4_init 36 = .ok (.istore_n 1, 1) := by decide +kernel
theorem dX4_init_37 : decode cX4_init 37 = .ok (.iload_n 1, 1) := by decide +kernel
theorem dX4_init_38 : decode cX4_init 38 = .ok (.bipush 6, 2) := by decide +kernel
theorem dX4_init_40 : decode cX4_init 40 = .ok (.if_icmp .ge 22, 3) := by decide +kernel
theorem dX4_init_43 : decode cX4_init 43 = .ok (.aload_n 0, 1) := by decide +kernel
theorem dX4_init_44 : decode cX4_init 44 = .ok (.getfield 25, 3) := by decide +kernel
theorem dX4_init_47 : decode cX4_init 47 = .ok (.iload_n 1, 1) := by decide +kernel
theorem dX4_init_48 : decode cX4_init 48 = .ok (.new 23, 3) := by decide +kernel
theorem dX4_init_51 : decode cX4_init 51 = .ok (.dup, 1) := by decide +kernel
theorem dX4_init_52 : decode cX4_init 52 = .ok (.invokespecial 29, 3) := by decide +kernel
theorem dX4_init_55 : decode cX4_init 55 = .ok (.aastore, 1) := by decide +kernel
theorem dX4_init_56 : decode cX4_init 56 = .ok (.iinc 1 1, 3) := by decide +kernel
theorem dX4_init_59 : decode cX4_init 59 = .ok (.goto (-22), 3) := by decide +kernel
theorem dX4_init_62 : decode cX4_init 62 = .ok (.aload_n 0, 1) := by decide +kernel
theorem dX4_init_63 : decode cX4_init 63 = .ok (.bipush 15, 2) := by decide +kernel
theorem dX4_init_65 : decode cX4_init 65 = .ok (.anewarray 30, 3) := by decide +kernel
theorem dX4_init_68 : decode cX4_init 68 = .ok (.putfield 32, 3) := by decide +kernel
theorem dX4_init_71 : decode cX4_init 71 = .ok (.iconst 0, 1) := by decide +kernel
theorem dX4_init_72 : decode cX4_init 72 = .ok (.istore_n 1, 1) := by decide +kernel
theorem dX4_init_73 : decode cX4_init 73 = .ok (.iconst 0, 1) := by decide +kernel
theorem dX4_init_74 : decode cX4_init 74 = .ok (.istore_n 2, 1) := by decide +kernel
theorem dX4_init_75 : decode cX4_init 75 = .ok (.iload_n 2, 1) := by decide +kernel
theorem dX4_init_76 : decode cX4_init 76 = .ok (.bipush 6, 2) := by decide +kernel
theorem dX4_init_78 : decode cX4_init 78 = .ok (.if_icmp .ge 61, 3) := by decide +kernel
theorem dX4_init_81 : decode cX4_init 81 = .ok (.iload_n 2, 1) := by decide +kernel
theorem dX4_init_82 : decode cX4_init 82 = .ok (.iconst 1, 1) := by decide +kernel
theorem dX4_init_83 : decode cX4_init 83 = .ok (.iadd, 1) := by decide +kernel
theorem dX4_init_84 : decode cX4_init 84 = .ok (.istore_n 3, 1) := by decide +kernel
theorem dX4_init_85 : decode cX4_init 85 = .ok (.iload_n 3, 1) := by decide +kernel
theorem dX4_init_86 : decode cX4_init 86 = .ok (.bipush 6, 2) := by decide +kernel
theorem dX4_init_88 : decode cX4_init 88 = .ok (.if_icmp .ge 45, 3) := by decide +kernel
theorem dX4_init_91 : decode cX4_init 91 = .ok (.aload_n 0, 1) := by decide +kernel
theorem dX4_init_92 : decode cX4_init 92 = .ok (.getfield 32, 3) := by decide +kernel
theorem dX4_init_95 : decode cX4_init 95 = .ok (.iload_n 1, 1) := by decide +kernel
theorem dX4_init_96 : decode cX4_init 96 = .ok (.new 30, 3) := by decide +kernel
theorem dX4_init_99 : decode cX4_init 99 = .ok (.dup, 1) := by decide +kernel
theorem dX4_init_100 : decode cX4_init 100 = .ok (.aload_n 0, 1) := by decide +kernel
theorem dX4_init_101 : decode cX4_init 101 = .ok (.getfield 25, 3) := by decide +kernel
theorem dX4_init_104 : decode cX4_init 104 = .ok (.iload_n 2, 1) := by decide +kernel
theorem dX4_init_105 : decode cX4_init 105 = .ok (.aaload, 1) := by decide +kernel
theorem dX4_init_106 : decode cX4_init 106 = .ok (.aload_n 0, 1) := by decide +kernel
theorem dX4_init_107 : decode cX4_init 107 = .ok (.getfield 25, 3) := by decide +kernel
theorem dX4_init_110 : decode cX4_init 110 = .ok (.iload_n 3, 1) := by decide +kernel
theorem dX4_init_111 : decode cX4_init 111 = .ok (.aaload, 1) := by decide +kernel
theorem dX4_init_112 : decode cX4_init 112 = .ok (.aload_n 0, 1) := by decide +kernel
theorem dX4_init_113 : decode cX4_init 113 = .ok (.getfield 10, 3) := by decide +kernel
theorem dX4_init_116 : decode cX4_init 116 = .ok (.aload_n 0, 1) := by decide +kernel
theorem dX4_init_117 : decode cX4_init 117 = .ok (.getfield 19, 3) := by decide +kernel
theorem dX4_init_120 : decode cX4_init 120 = .ok (.invokespecial 36, 3) := by decide +kernel
theorem dX4_init_123 : decode cX4_init 123 = .ok (.aastore, 1) := by decide +kernel
theorem dX4_init_124 : decode cX4_init 124 = .ok (.iinc 1 1, 3) := by decide +kernel
theorem dX4_init_127 : decode cX4_init 127 = .ok (.iinc 3 1, 3) := by decide +kernel
theorem dX4_init_130 : decode cX4_init 130 = .ok (.goto (-45), 3) := by decide +kernel
theorem dX4_init_133 : decode cX4_init 133 = .ok (.iinc 2 1, 3) := by decide +kernel
theorem dX4_init_136 : decode cX4_init 136 = .ok (.goto (-61), 3) := by decide +kernel
theorem dX4_init_139 : decode cX4_init 139 = .ok (.return_, 1) := by decide +kernel
theorem dX4_set_0 : decode cX4_set 0 = .ok (.iload_n 1, 1) := by decide +kernel
theorem dX4_set_1 : decode cX4_set 1 = .ok (.iload_n 2, 1) := by decide +kernel
theorem dX4_set_2 : decode cX4_set 2 = .ok (.invokestatic 39, 3) := by decide +kernel
theorem dX4_set_5 : decode cX4_set 5 = .ok (.ifCond .ne 13, 3) := by decide +kernel
theorem dX4_set_8 : decode cX4_set 8 = .ok (.new 43, 3) := by decide +kernel
theorem dX4_set_11 : decode cX4_set 11 = .ok (.dup, 1) := by decide +kernel
theorem dX4_set_12 : decode cX4_set 12 = .ok (.ldc 45, 2) := by decide +kernel
theorem dX4_set_14 : decode cX4_set 14 = .ok (.invokespecial 47, 3) := by decide +kernel
theorem dX4_set_17 : decode cX4_set 17 = .ok (.athrow, 1) := by decide +kernel
theorem dX4_set_18 : decode cX4_set 18 = .ok (.aload_n 0, 1) := by decide +kernel
theorem dX4_set_19 : decode cX4_set 19 = .ok (.getfield 10, 3) := by decide +kernel
theorem dX4_set_22 : decode cX4_set 22 = .ok (.iload_n 1, 1) := by decide +kernel
theorem dX4_set_23 : decode cX4_set 23 = .ok (.iload_n 2, 1) := by decide +kernel
theorem dX4_set_24 : decode cX4_set 24 = .ok (.invokevirtual 50, 3) := by decide +kernel
theorem dX4_set_27 : decode cX4_set 27 = .ok (.ireturn, 1) := by decide +kernel
theorem dX4_place_0 : decode cX4_place 0 = .ok (.iload_n 1, 1) := by decide +kernel
theorem dX4_place_1 : decode cX4_place 1 = .ok (.invokestatic 54, 3) := by decide +kernel
theorem dX4_place_4 : decode cX4_place 4 = .ok (.ifCond .eq 13, 3) := by decide +kernel
theorem dX4_place_7 : decode cX4_place 7 = .ok (.iload_n 2, 1) := by decide +kernel
theorem dX4_place_8 : decode cX4_place 8 = .ok (.iload_n 3, 1) := by decide +kernel
theorem dX4_place_9 : decode cX4_place 9 = .ok (.iload 4, 2) := by decide +kernel
theorem dX4_place_11 : decode cX4_place 11 = .ok (.invokestatic 58, 3) := by decide +kernel
theorem dX4_place_14 : decode cX4_place 14 = .ok (.ifCond .ne 13, 3) := by decide +kernel
theorem dX4_place_17 : decode cX4_place 17 = .ok (.new 43, 3) := by decide +kernel
theorem dX4_place_20 : decode cX4_place 20 = .ok (.dup, 1) := by decide +kernel
theorem dX4_place_21 : decode cX4_place 21 = .ok (.ldc 62, 2) := by decide +kernel
theorem dX4_place_23 : decode cX4_place 23 = .ok (.invokespecial 47, 3) := by decide +kernel
theorem dX4_place_26 : decode cX4_place 26 = .ok (.athrow, 1) := by decide +kernel
theorem dX4_place_27 : decode cX4_place 27 = .ok (.aload_n 0, 1) := by decide +kernel
theorem dX4_place_28 : decode cX4_place 28 = .ok (.getfield 25, 3) := by decide +kernel
theorem dX4_place_31 : decode cX4_place 31 = .ok (.iload_n 1, 1) := by decide +kernel
theorem dX4_place_32 : decode cX4_place 32 = .ok (.aaload, 1) := by decide +kernel
theorem dX4_place_33 : decode cX4_place 33 = .ok (.astore 5, 2) := by decide +kernel
theorem dX4_place_35 : decode cX4_place 35 = .ok (.aload 5, 2) := by decide +kernel
theorem dX4_place_37 : decode cX4_place 37 = .ok (.iload_n 2, 1) := by decide +kernel
theorem dX4_place_38 : decode cX4_place 38 = .ok (.iload_n 3, 1) := by decide +kernel
theorem dX4_place_39 : decode cX4_place 39 = .ok (.iload 4, 2) := by decide +kernel
theorem dX4_place_41 : decode cX4_place 41 = .ok (.invokevirtual 64, 3) := by decide +kernel
theorem dX4_place_44 : decode cX4_place 44 = .ok (.aload_n 0, 1) := by decide +kernel
theorem dX4_place_45 : decode cX4_place 45 = .ok (.aload 5, 2) := by decide +kernel
theorem dX4_place_47 : decode cX4_place 47 = .ok (.invokevirtual 68, 3) := by decide +kernel
theorem dX4_place_50 : decode cX4_place 50 = .ok (.aload_n 0, 1) := by decide +kernel
theorem dX4_place_51 : decode cX4_place 51 = .ok (.aload 5, 2) := by decide +kernel
theorem dX4_place_53 : decode cX4_place 53 = .ok (.invokevirtual 72, 3) := by decide +kernel
theorem dX4_place_56 : decode cX4_place 56 = .ok (.return_, 1) := by decide +kernel
theorem dX4_speed_0 : decode cX4_speed 0 = .ok (.aload_n 0, 1) := by decide +kernel
theorem dX4_speed_1 : decode cX4_speed 1 = .ok (.iload_n 1, 1) := by decide +kernel
theorem dX4_speed_2 : decode cX4_speed 2 = .ok (.invokevirtual 75, 3) := by decide +kernel
theorem dX4_speed_5 : decode cX4_speed 5 = .ok (.ifCond .eq 13, 3) := by decide +kernel
theorem dX4_speed_8 : decode cX4_speed 8 = .ok (.iload_n 2, 1) := by decide +kernel
theorem dX4_speed_9 : decode cX4_speed 9 = .ok (.iload_n 3, 1) := by decide +kernel
theorem dX4_speed_10 : decode cX4_speed 10 = .ok (.iload 4, 2) := by decide +kernel
theorem dX4_speed_12 : decode cX4_speed 12 = .ok (.invokestatic 78, 3) := by decide +kernel
theorem dX4_speed_15 : decode cX4_speed 15 = .ok (.ifCond .ne 13, 3) := by decide +kernel
theorem dX4_speed_18 : decode cX4_speed 18 = .ok (.new 43, 3) := by decide +kernel
theorem dX4_speed_21 : decode cX4_speed 21 = .ok (.dup, 1) := by decide +kernel
theorem dX4_speed_22 : decode cX4_speed 22 = .ok (.ldc 81, 2) := by decide +kernel
theorem dX4_speed_24 : decode cX4_speed 24 = .ok (.invokespecial 47, 3) := by decide +kernel
theorem dX4_speed_27 : decode cX4_speed 27 = .ok (.athrow, 1) := by decide +kernel
theorem dX4_speed_28 : decode cX4_speed 28 = .ok (.aload_n 0, 1) := by decide +kernel
theorem dX4_speed_29 : decode cX4_speed 29 = .ok (.getfield 25, 3) := by decide +kernel
theorem dX4_speed_32 : decode cX4_speed 32 = .ok (.iload_n 1, 1) := by decide +kernel
theorem dX4_speed_33 : decode cX4_speed 33 = .ok (.aaload, 1) := by decide +kernel
theorem dX4_speed_34 : decode cX4_speed 34 = .ok (.astore 5, 2) := by decide +kernel
theorem dX4_speed_36 : decode cX4_speed 36 = .ok (.aload 5, 2) := by decide +kernel
theorem dX4_speed_38 : decode cX4_speed 38 = .ok (.iload_n 2, 1) := by decide +kernel
theorem dX4_speed_39 : decode cX4_speed 39 = .ok (.iload_n 3, 1) := by decide +kernel
theorem dX4_speed_40 : decode cX4_speed 40 = .ok (.iload 4, 2) := by decide +kernel
theorem dX4_speed_42 : decode cX4_speed 42 = .ok (.invokevirtual 83, 3) := by decide +kernel
theorem dX4_speed_45 : decode cX4_speed 45 = .ok (.aload_n 0, 1) := by decide +kernel
theorem dX4_speed_46 : decode cX4_speed 46 = .ok (.aload 5, 2) := by decide +kernel
theorem dX4_speed_48 : decode cX4_speed 48 = .ok (.invokevirtual 68, 3) := by decide +kernel
theorem dX4_speed_51 : decode cX4_speed 51 = .ok (.return_, 1) := by decide +kernel
theorem dX4_follow_0 : decode cX4_follow 0 = .ok (.aload_n 0, 1) := by decide +kernel
theorem dX4_follow_1 : decode cX4_follow 1 = .ok (.iload_n 1, 1) := by decide +kernel
theorem dX4_follow_2 : decode cX4_follow 2 = .ok (.invokevirtual 75, 3) := by decide +kernel
theorem dX4_follow_5 : decode cX4_follow 5 = .ok (.ifCond .ne 13, 3) := by decide +kernel
theorem dX4_follow_8 : decode cX4_follow 8 = .ok (.new 43, 3) := by decide +kernel
theorem dX4_follow_11 : decode cX4_follow 11 = .ok (.dup, 1) := by decide +kernel
theorem dX4_follow_12 : decode cX4_follow 12 = .ok (.ldc 86, 2) := by decide +kernel
theorem dX4_follow_14 : decode cX4_follow 14 = .ok (.invokespecial 47, 3) := by decide +kernel
theorem dX4_follow_17 : decode cX4_follow 17 = .ok (.athrow, 1) := by decide +kernel
theorem dX4_follow_18 : decode cX4_follow 18 = .ok (.aload_n 0, 1) := by decide +kernel
theorem dX4_follow_19 : decode cX4_follow 19 = .ok (.getfield 25, 3) := by decide +kernel
theorem dX4_follow_22 : decode cX4_follow 22 = .ok (.iload_n 1, 1) := by decide +kernel
theorem dX4_follow_23 : decode cX4_follow 23 = .ok (.aaload, 1) := by decide +kernel
theorem dX4_follow_24 : decode cX4_follow 24 = .ok (.iload_n 2, 1) := by decide +kernel
theorem dX4_follow_25 : decode cX4_follow 25 = .ok (.putfield 88, 3) := by decide +kernel
theorem dX4_follow_28 : decode cX4_follow 28 = .ok (.return_, 1) := by decide +kernel
theorem dX4_leave_0 : decode cX4_leave 0 = .ok (.aload_n 0, 1) := by decide +kernel
theorem dX4_leave_1 : decode cX4_leave 1 = .ok (.iload_n 1, 1) := by decide +kernel
theorem dX4_leave_2 : decode cX4_leave 2 = .ok (.invokevirtual 75, 3) := by decide +kernel
theorem dX4_leave_5 : decode cX4_leave 5 = .ok (.ifCond .ne 13, 3) := by decide +kernel
theorem dX4_leave_8 : decode cX4_leave 8 = .ok (.new 43, 3) := by decide +kernel
theorem dX4_leave_11 : decode cX4_leave 11 = .ok (.dup, 1) := by decide +kernel
theorem dX4_leave_12 : decode cX4_leave 12 = .ok (.ldc 86, 2) := by decide +kernel
theorem dX4_leave_14 : decode cX4_leave 14 = .ok (.invokespecial 47, 3) := by decide +kernel
theorem dX4_leave_17 : decode cX4_leave 17 = .ok (.athrow, 1) := by decide +kernel
theorem dX4_leave_18 : decode cX4_leave 18 = .ok (.aload_n 0, 1) := by decide +kernel
theorem dX4_leave_19 : decode cX4_leave 19 = .ok (.getfield 25, 3) := by decide +kernel
theorem dX4_leave_22 : decode cX4_leave 22 = .ok (.iload_n 1, 1) := by decide +kernel
theorem dX4_leave_23 : decode cX4_leave 23 = .ok (.aaload, 1) := by decide +kernel
theorem dX4_leave_24 : decode cX4_leave 24 = .ok (.astore_n 2, 1) := by decide +kernel
theorem dX4_leave_25 : decode cX4_leave 25 = .ok (.aload_n 2, 1) := by decide +kernel
theorem dX4_leave_26 : decode cX4_leave 26 = .ok (.iconst 0, 1) := by decide +kernel
theorem dX4_leave_27 : decode cX4_leave 27 = .ok (.putfield 92, 3) := by decide +kernel
theorem dX4_leave_30 : decode cX4_leave 30 = .ok (.aload_n 0, 1) := by decide +kernel
theorem dX4_leave_31 : decode cX4_leave 31 = .ok (.aload_n 2, 1) := by decide +kernel
theorem dX4_leave_32 : decode cX4_leave 32 = .ok (.invokevirtual 68, 3) := by decide +kernel
theorem dX4_leave_35 : decode cX4_leave 35 = .ok (.return_, 1) := by decide +kernel
theorem dX4_step_0 : decode cX4_step 0 = .ok (.iload_n 1, 1) := by decide +kernel
theorem dX4_step_1 : decode cX4_step 1 = .ok (.ifCond .lt 10, 3) := by decide +kernel
theorem dX4_step_4 : decode cX4_step 4 = .ok (.iload_n 1, 1) := by decide +kernel
theorem dX4_step_5 : decode cX4_step 5 = .ok (.sipush 300, 3) := by decide +kernel
theorem dX4_step_8 : decode cX4_step 8 = .ok (.if_icmp .le 13, 3) := by decide +kernel
theorem dX4_step_11 : decode cX4_step 11 = .ok (.new 43, 3) := by decide +kernel
theorem dX4_step_14 : decode cX4_step 14 = .ok (.dup, 1) := by decide +kernel
theorem dX4_step_15 : decode cX4_step 15 = .ok (.ldc 95, 2) := by decide +kernel
theorem dX4_step_17 : decode cX4_step 17 = .ok (.invokespecial 47, 3) := by decide +kernel
theorem dX4_step_20 : decode cX4_step 20 = .ok (.athrow, 1) := by decide +kernel
theorem dX4_step_21 : decode cX4_step 21 = .ok (.iconst 0, 1) := by decide +kernel
theorem dX4_step_22 : decode cX4_step 22 = .ok (.istore_n 2, 1) := by decide +kernel
theorem dX4_step_23 : decode cX4_step 23 = .ok (.iload_n 2, 1) := by decide +kernel
theorem dX4_step_24 : decode cX4_step 24 = .ok (.iload_n 1, 1) := by decide +kernel
theorem dX4_step_25 : decode cX4_step 25 = .ok (.if_icmp .ge 13, 3) := by decide +kernel
theorem dX4_step_28 : decode cX4_step 28 = .ok (.aload_n 0, 1) := by decide +kernel
theorem dX4_step_29 : decode cX4_step 29 = .ok (.invokevirtual 97, 3) := by decide +kernel
theorem dX4_step_32 : decode cX4_step 32 = .ok (.iinc 2 1, 3) := by decide +kernel
theorem dX4_step_35 : decode cX4_step 35 = .ok (.goto (-12), 3) := by decide +kernel
theorem dX4_step_38 : decode cX4_step 38 = .ok (.aload_n 0, 1) := by decide +kernel
theorem dX4_step_39 : decode cX4_step 39 = .ok (.invokevirtual 100, 3) := by decide +kernel
theorem dX4_step_42 : decode cX4_step 42 = .ok (.ireturn, 1) := by decide +kernel
theorem dX4_told_0 : decode cX4_told 0 = .ok (.aload_n 0, 1) := by decide +kernel
theorem dX4_told_1 : decode cX4_told 1 = .ok (.iload_n 1, 1) := by decide +kernel
theorem dX4_told_2 : decode cX4_told 2 = .ok (.invokevirtual 75, 3) := by decide +kernel
theorem dX4_told_5 : decode cX4_told 5 = .ok (.ifCond .eq 13, 3) := by decide +kernel
theorem dX4_told_8 : decode cX4_told 8 = .ok (.iload_n 2, 1) := by decide +kernel
theorem dX4_told_9 : decode cX4_told 9 = .ok (.ifCond .lt 9, 3) := by decide +kernel
theorem dX4_told_12 : decode cX4_told 12 = .ok (.iload_n 2, 1) := by decide +kernel
theorem dX4_told_13 : decode cX4_told 13 = .ok (.bipush 6, 2) := by decide +kernel
theorem dX4_told_15 : decode cX4_told 15 = .ok (.if_icmp .le 13, 3) := by decide +kernel
theorem dX4_told_18 : decode cX4_told 18 = .ok (.new 43, 3) := by decide +kernel
theorem dX4_told_21 : decode cX4_told 21 = .ok (.dup, 1) := by decide +kernel
theorem dX4_told_22 : decode cX4_told 22 = .ok (.ldc 104, 2) := by decide +kernel
theorem dX4_told_24 : decode cX4_told 24 = .ok (.invokespecial 47, 3) := by decide +kernel
theorem dX4_told_27 : decode cX4_told 27 = .ok (.athrow, 1) := by decide +kernel
theorem dX4_told_28 : decode cX4_told 28 = .ok (.aload_n 0, 1) := by decide +kernel
theorem dX4_told_29 : decode cX4_told 29 = .ok (.getfield 25, 3) := by decide +kernel
theorem dX4_told_32 : decode cX4_told 32 = .ok (.iload_n 1, 1) := by decide +kernel
theorem dX4_told_33 : decode cX4_told 33 = .ok (.aaload, 1) := by decide +kernel
theorem dX4_told_34 : decode cX4_told 34 = .ok (.iload_n 2, 1) := by decide +kernel
theorem dX4_told_35 : decode cX4_told 35 = .ok (.invokevirtual 106, 3) := by decide +kernel
theorem dX4_told_38 : decode cX4_told 38 = .ok (.ireturn, 1) := by decide +kernel
theorem dX4_pair_0 : decode cX4_pair 0 = .ok (.iload_n 1, 1) := by decide +kernel
theorem dX4_pair_1 : decode cX4_pair 1 = .ok (.iload_n 2, 1) := by decide +kernel
theorem dX4_pair_2 : decode cX4_pair 2 = .ok (.if_icmp .eq 29, 3) := by decide +kernel
theorem dX4_pair_5 : decode cX4_pair 5 = .ok (.aload_n 0, 1) := by decide +kernel
theorem dX4_pair_6 : decode cX4_pair 6 = .ok (.iload_n 1, 1) := by decide +kernel
theorem dX4_pair_7 : decode cX4_pair 7 = .ok (.invokevirtual 75, 3) := by decide +kernel
theorem dX4_pair_10 : decode cX4_pair 10 = .ok (.ifCond .eq 21, 3) := by decide +kernel
theorem dX4_pair_13 : decode cX4_pair 13 = .ok (.aload_n 0, 1) := by decide +kernel
theorem dX4_pair_14 : decode cX4_pair 14 = .ok (.iload_n 2, 1) := by decide +kernel
theorem dX4_pair_15 : decode cX4_pair 15 = .ok (.invokevirtual 75, 3) := by decide +kernel
theorem dX4_pair_18 : decode cX4_pair 18 = .ok (.ifCond .eq 13, 3) := by decide +kernel
theorem dX4_pair_21 : decode cX4_pair 21 = .ok (.iload_n 3, 1) := by decide +kernel
theorem dX4_pair_22 : decode cX4_pair 22 = .ok (.ifCond .lt 9, 3) := by decide +kernel
theorem dX4_pair_25 : decode cX4_pair 25 = .ok (.iload_n 3, 1) := by decide +kernel
theorem dX4_pair_26 : decode cX4_pair 26 = .ok (.bipush 10, 2) := by decide +kernel
theorem dX4_pair_28 : decode cX4_pair 28 = .ok (.if_icmp .le 13, 3) := by decide +kernel
theorem dX4_pair_31 : decode cX4_pair 31 = .ok (.new 43, 3) := by decide +kernel
theorem dX4_pair_34 : decode cX4_pair 34 = .ok (.dup, 1) := by decide +kernel
theorem dX4_pair_35 : decode cX4_pair 35 = .ok (.ldc 110, 2) := by decide +kernel
theorem dX4_pair_37 : decode cX4_pair 37 = .ok (.invokespecial 47, 3) := by decide +kernel
theorem dX4_pair_40 : decode cX4_pair 40 = .ok (.athrow, 1) := by decide +kernel
theorem dX4_pair_41 : decode cX4_pair 41 = .ok (.aload_n 0, 1) := by decide +kernel
theorem dX4_pair_42 : decode cX4_pair 42 = .ok (.getfield 32, 3) := by decide +kernel
theorem dX4_pair_45 : decode cX4_pair 45 = .ok (.iload_n 1, 1) := by decide +kernel
theorem dX4_pair_46 : decode cX4_pair 46 = .ok (.iload_n 2, 1) := by decide +kernel
theorem dX4_pair_47 : decode cX4_pair 47 = .ok (.invokestatic 112, 3) := by decide +kernel
theorem dX4_pair_50 : decode cX4_pair 50 = .ok (.iload_n 1, 1) := by decide +kernel
theorem dX4_pair_51 : decode cX4_pair 51 = .ok (.iload_n 2, 1) := by decide +kernel
theorem dX4_pair_52 : decode cX4_pair 52 = .ok (.invokestatic 117, 3) := by decide +kernel
theorem dX4_pair_55 : decode cX4_pair 55 = .ok (.invokestatic 120, 3) := by decide +kernel
theorem dX4_pair_58 : decode cX4_pair 58 = .ok (.aaload, 1) := by decide +kernel
theorem dX4_pair_59 : decode cX4_pair 59 = .ok (.iload_n 3, 1) := by decide +kernel
theorem dX4_pair_60 : decode cX4_pair 60 = .ok (.iload_n 1, 1) := by decide +kernel
theorem dX4_pair_61 : decode cX4_pair 61 = .ok (.iload_n 2, 1) := by decide +kernel
theorem dX4_pair_62 : decode cX4_pair 62 = .ok (.if_icmp .ge 7, 3) := by decide +kernel
theorem dX4_pair_65 : decode cX4_pair 65 = .ok (.iconst 1, 1) := by decide +kernel
theorem dX4_pair_66 : decode cX4_pair 66 = .ok (.goto 4, 3) := by decide +kernel
theorem dX4_pair_69 : decode cX4_pair 69 = .ok (.iconst 0, 1) := by decide +kernel
theorem dX4_pair_70 : decode cX4_pair 70 = .ok (.invokevirtual 123, 3) := by decide +kernel
theorem dX4_pair_73 : decode cX4_pair 73 = .ok (.ireturn, 1) := by decide +kernel
theorem dX4_all_0 : decode cX4_all 0 = .ok (.iload_n 1, 1) := by decide +kernel
theorem dX4_all_1 : decode cX4_all 1 = .ok (.ifCond .lt 8, 3) := by decide +kernel
theorem dX4_all_4 : decode cX4_all 4 = .ok (.iload_n 1, 1) := by decide +kernel
theorem dX4_all_5 : decode cX4_all 5 = .ok (.iconst 4, 1) := by decide +kernel
theorem dX4_all_6 : decode cX4_all 6 = .ok (.if_icmp .le 13, 3) := by decide +kernel
theorem dX4_all_9 : decode cX4_all 9 = .ok (.new 43, 3) := by decide +kernel
theorem dX4_all_12 : decode cX4_all 12 = .ok (.dup, 1) := by decide +kernel
theorem dX4_all_13 : decode cX4_all 13 = .ok (.ldc 126, 2) := by decide +kernel
theorem dX4_all_15 : decode cX4_all 15 = .ok (.invokespecial 47, 3) := by decide +kernel
theorem dX4_all_18 : decode cX4_all 18 = .ok (.athrow, 1) := by decide +kernel
theorem dX4_all_19 : decode cX4_all 19 = .ok (.aload_n 0, 1) := by decide +kernel
theorem dX4_all_20 : decode cX4_all 20 = .ok (.getfield 19, 3) := by decide +kernel
theorem dX4_all_23 : decode cX4_all 23 = .ok (.iload_n 1, 1) := by decide +kernel
theorem dX4_all_24 : decode cX4_all 24 = .ok (.invokevirtual 128, 3) := by decide +kernel
theorem dX4_all_27 : decode cX4_all 27 = .ok (.ireturn, 1) := by decide +kernel
theorem dX4_isNumber_0 : decode cX4_isNumber 0 = .ok (.iload_n 0, 1) := by decide +kernel
theorem dX4_isNumber_1 : decode cX4_isNumber 1 = .ok (.ifCond .lt 13, 3) := by decide +kernel
theorem dX4_isNumber_4 : decode cX4_isNumber 4 = .ok (.iload_n 0, 1) := by decide +kernel
theorem dX4_isNumber_5 : decode cX4_isNumber 5 = .ok (.bipush 6, 2) := by decide +kernel
theorem dX4_isNumber_7 : decode cX4_isNumber 7 = .ok (.if_icmp .ge 7, 3) := by decide +kernel
theorem dX4_isNumber_10 : decode cX4_isNumber 10 = .ok (.iconst 1, 1) := by decide +kernel
theorem dX4_isNumber_11 : decode cX4_isNumber 11 = .ok (.goto 4, 3) := by decide +kernel
theorem dX4_isNumber_14 : decode cX4_isNumber 14 = .ok (.iconst 0, 1) := by decide +kernel
theorem dX4_isNumber_15 : decode cX4_isNumber 15 = .ok (.ireturn, 1) := by decide +kernel
theorem dX4_isThere_0 : decode cX4_isThere 0 = .ok (.iload_n 1, 1) := by decide +kernel
theorem dX4_isThere_1 : decode cX4_isThere 1 = .ok (.invokestatic 54, 3) := by decide +kernel
theorem dX4_isThere_4 : decode cX4_isThere 4 = .ok (.ifCond .eq 19, 3) := by decide +kernel
theorem dX4_isThere_7 : decode cX4_isThere 7 = .ok (.aload_n 0, 1) := by decide +kernel
theorem dX4_isThere_8 : decode cX4_isThere 8 = .ok (.getfield 25, 3) := by decide +kernel
theorem dX4_isThere_11 : decode cX4_isThere 11 = .ok (.iload_n 1, 1) := by decide +kernel
theorem dX4_isThere_12 : decode cX4_isThere 12 = .ok (.aaload, 1) := by decide +kernel
theorem dX4_isThere_13 : decode cX4_isThere 13 = .ok (.getfield 92, 3) := by decide +kernel
theorem dX4_isThere_16 : decode cX4_isThere 16 = .ok (.ifCond .eq 7, 3) := by decide +kernel
theorem dX4_isThere_19 : decode cX4_isThere 19 = .ok (.iconst 1, 1) := by decide +kernel
theorem dX4_isThere_20 : decode cX4_isThere 20 = .ok (.goto 4, 3) := by decide +kernel
theorem dX4_isThere_23 : decode cX4_isThere 23 = .ok (.iconst 0, 1) := by decide +kernel
theorem dX4_isThere_24 : decode cX4_isThere 24 = .ok (.ireturn, 1) := by decide +kernel
theorem dX4_pairNumber_0 : decode cX4_pairNumber 0 = .ok (.iload_n 0, 1) := by decide +kernel
theorem dX4_pairNumber_1 : decode cX4_pairNumber 1 = .ok (.bipush 11, 2) := by decide +kernel
theorem dX4_pairNumber_3 : decode cX4_pairNumber 3 = .ok (.iload_n 0, 1) := by decide +kernel
theorem dX4_pairNumber_4 : decode cX4_pairNumber 4 = .ok (.isub, 1) := by decide +kernel
theorem dX4_pairNumber_5 : decode cX4_pairNumber 5 = .ok (.imul, 1) := by decide +kernel
theorem dX4_pairNumber_6 : decode cX4_pairNumber 6 = .ok (.iconst 2, 1) := by decide +kernel
theorem dX4_pairNumber_7 : decode cX4_pairNumber 7 = .ok (.idiv, 1) := by decide +kernel
theorem dX4_pairNumber_8 : decode cX4_pairNumber 8 = .ok (.iload_n 1, 1) := by decide +kernel
theorem dX4_pairNumber_9 : decode cX4_pairNumber 9 = .ok (.iadd, 1) := by decide +kernel
theorem dX4_pairNumber_10 : decode cX4_pairNumber 10 = .ok (.iload_n 0, 1) := by decide +kernel
theorem dX4_pairNumber_11 : decode cX4_pairNumber 11 = .ok (.isub, 1) := by decide +kernel
theorem dX4_pairNumber_12 : decode cX4_pairNumber 12 = .ok (.iconst 1, 1) := by decide +kernel
theorem dX4_pairNumber_13 : decode cX4_pairNumber 13 = .ok (.isub, 1) := by decide +kernel
theorem dX4_pairNumber_14 : decode cX4_pairNumber 14 = .ok (.ireturn, 1) := by decide +kernel
theorem dX4_dropAdviceOf_0 : decode cX4_dropAdviceOf 0 = .ok (.aload_n 0, 1) := by decide +kernel
theorem dX4_dropAdviceOf_1 : decode cX4_dropAdviceOf 1 = .ok (.getfield 32, 3) := by decide +kernel
theorem dX4_dropAdviceOf_4 : decode cX4_dropAdviceOf 4 = .ok (.astore_n 2, 1) := by decide +kernel
theorem dX4_dropAdviceOf_5 : decode cX4_dropAdviceOf 5 = .ok (.aload_n 2, 1) := by decide +kernel
theorem dX4_dropAdviceOf_6 : decode cX4_dropAdviceOf 6 = .ok (.arraylength, 1) := by decide +kernel
theorem dX4_dropAdviceOf_7 : decode cX4_dropAdviceOf 7 = .ok (.istore_n 3, 1) := by decide +kernel
theorem dX4_dropAdviceOf_8 : decode cX4_dropAdviceOf 8 = .ok (.iconst 0, 1) := by decide +kernel
theorem dX4_dropAdviceOf_9 : decode cX4_dropAdviceOf 9 = .ok (.istore 4, 2) := by decide +kernel
theorem dX4_dropAdviceOf_11 : decode cX4_dropAdviceOf 11 = .ok (.iload 4, 2) := by decide +kernel
theorem dX4_dropAdviceOf_13 : decode cX4_dropAdviceOf 13 = .ok (.iload_n 3, 1) := by decide +kernel
theorem dX4_dropAdviceOf_14 : decode cX4_dropAdviceOf 14 = .ok (.if_icmp .ge 29, 3) := by decide +kernel
theorem dX4_dropAdviceOf_17 : decode cX4_dropAdviceOf 17 = .ok (.aload_n 2, 1) := by decide +kernel
theorem dX4_dropAdviceOf_18 : decode cX4_dropAdviceOf 18 = .ok (.iload 4, 2) := by decide +kernel
theorem dX4_dropAdviceOf_20 : decode cX4_dropAdviceOf 20 = .ok (.aaload, 1) := by decide +kernel
theorem dX4_dropAdviceOf_21 : decode cX4_dropAdviceOf 21 = .ok (.astore 5, 2) := by decide +kernel
theorem dX4_dropAdviceOf_23 : decode cX4_dropAdviceOf 23 = .ok (.aload 5, 2) := by decide +kernel
theorem dX4_dropAdviceOf_25 : decode cX4_dropAdviceOf 25 = .ok (.aload_n 1, 1) := by decide +kernel
theorem dX4_dropAdviceOf_26 : decode cX4_dropAdviceOf 26 = .ok (.invokevirtual 129, 3) := by decide +kernel
theorem dX4_dropAdviceOf_29 : decode cX4_dropAdviceOf 29 = .ok (.ifCond .eq 8, 3) := by decide +kernel
theorem dX4_dropAdviceOf_32 : decode cX4_dropAdviceOf 32 = .ok (.aload 5, 2) := by decide +kernel
theorem dX4_dropAdviceOf_34 : decode cX4_dropAdviceOf 34 = .ok (.invokevirtual 133, 3) := by decide +kernel
theorem dX4_dropAdviceOf_37 : decode cX4_dropAdviceOf 37 = .ok (.iinc 4 1, 3) := by decide +kernel
theorem dX4_dropAdviceOf_40 : decode cX4_dropAdviceOf 40 = .ok (.goto (-29), 3) := by decide +kernel
theorem dX4_dropAdviceOf_43 : decode cX4_dropAdviceOf 43 = .ok (.return_, 1) := by decide +kernel
theorem dX4_restartLeastOf_0 : decode cX4_restartLeastOf 0 = .ok (.aload_n 0, 1) := by decide +kernel
theorem dX4_restartLeastOf_1 : decode cX4_restartLeastOf 1 = .ok (.getfield 32, 3) := by decide +kernel
theorem dX4_restartLeastOf_4 : decode cX4_restartLeastOf 4 = .ok (.astore_n 2, 1) := by decide +kernel
theorem dX4_restartLeastOf_5 : decode cX4_restartLeastOf 5 = .ok (.aload_n 2, 1) := by decide +kernel
theorem dX4_restartLeastOf_6 : decode cX4_restartLeastOf 6 = .ok (.arraylength, 1) := by decide +kernel
theorem dX4_restartLeastOf_7 : decode cX4_restartLeastOf 7 = .ok (.istore_n 3, 1) := by decide +kernel
theorem dX4_restartLeastOf_8 : decode cX4_restartLeastOf 8 = .ok (.iconst 0, 1) := by decide +kernel
theorem dX4_restartLeastOf_9 : decode cX4_restartLeastOf 9 = .ok (.istore 4, 2) := by decide +kernel
theorem dX4_restartLeastOf_11 : decode cX4_restartLeastOf 11 = .ok (.iload 4, 2) := by decide +kernel
theorem dX4_restartLeastOf_13 : decode cX4_restartLeastOf 13 = .ok (.iload_n 3, 1) := by decide +kernel
theorem dX4_restartLeastOf_14 : decode cX4_restartLeastOf 14 = .ok (.if_icmp .ge 29, 3) := by decide +kernel
theorem dX4_restartLeastOf_17 : decode cX4_restartLeastOf 17 = .ok (.aload_n 2, 1) := by decide +kernel
theorem dX4_restartLeastOf_18 : decode cX4_restartLeastOf 18 = .ok (.iload 4, 2) := by decide +kernel
theorem dX4_restartLeastOf_20 : decode cX4_restartLeastOf 20 = .ok (.aaload, 1) := by decide +kernel
theorem dX4_restartLeastOf_21 : decode cX4_restartLeastOf 21 = .ok (.astore 5, 2) := by decide +kernel
theorem dX4_restartLeastOf_23 : decode cX4_restartLeastOf 23 = .ok (.aload 5, 2) := by decide +kernel
theorem dX4_restartLeastOf_25 : decode cX4_restartLeastOf 25 = .ok (.aload_n 1, 1) := by decide +kernel
theorem dX4_restartLeastOf_26 : decode cX4_restartLeastOf 26 = .ok (.invokevirtual 129, 3) := by decide +kernel
theorem dX4_restartLeastOf_29 : decode cX4_restartLeastOf 29 = .ok (.ifCond .eq 8, 3) := by decide +kernel
theorem dX4_restartLeastOf_32 : decode cX4_restartLeastOf 32 = .ok (.aload 5, 2) := by decide +kernel
theorem dX4_restartLeastOf_34 : decode cX4_restartLeastOf 34 = .ok (.invokevirtual 136, 3) := by decide +kernel
theorem dX4_restartLeastOf_37 : decode cX4_restartLeastOf 37 = .ok (.iinc 4 1, 3) := by decide +kernel
theorem dX4_restartLeastOf_40 : decode cX4_restartLeastOf 40 = .ok (.goto (-29), 3) := by decide +kernel
theorem dX4_restartLeastOf_43 : decode cX4_restartLeastOf 43 = .ok (.return_, 1) := by decide +kernel
theorem dX4_passSecond_0 : decode cX4_passSecond 0 = .ok (.aload_n 0, 1) := by decide +kernel
theorem dX4_passSecond_1 : decode cX4_passSecond 1 = .ok (.getfield 25, 3) := by decide +kernel
theorem dX4_passSecond_4 : decode cX4_passSecond 4 = .ok (.astore_n 1, 1) := by decide +kernel
theorem dX4_passSecond_5 : decode cX4_passSecond 5 = .ok (.aload_n 1, 1) := by decide +kernel
theorem dX4_passSecond_6 : decode cX4_passSecond 6 = .ok (.arraylength, 1) := by decide +kernel
theorem dX4_passSecond_7 : decode cX4_passSecond 7 = .ok (.istore_n 2, 1) := by decide +kernel
theorem dX4_passSecond_8 : decode cX4_passSecond 8 = .ok (.iconst 0, 1) := by decide +kernel
theorem dX4_passSecond_9 : decode cX4_passSecond 9 = .ok (.istore_n 3, 1) := by decide +kernel
theorem dX4_passSecond_10 : decode cX4_passSecond 10 = .ok (.iload_n 3, 1) := by decide +kernel
theorem dX4_passSecond_11 : decode cX4_passSecond 11 = .ok (.iload_n 2, 1) := by decide +kernel
theorem dX4_passSecond_12 : decode cX4_passSecond 12 = .ok (.if_icmp .ge 27, 3) := by decide +kernel
theorem dX4_passSecond_15 : decode cX4_passSecond 15 = .ok (.aload_n 1, 1) := by decide +kernel
theorem dX4_passSecond_16 : decode cX4_passSecond 16 = .ok (.iload_n 3, 1) := by decide +kernel
theorem dX4_passSecond_17 : decode cX4_passSecond 17 = .ok (.aaload, 1) := by decide +kernel
theorem dX4_passSecond_18 : decode cX4_passSecond 18 = .ok (.astore 4, 2) := by decide +kernel
theorem dX4_passSecond_20 : decode cX4_passSecond 20 = .ok (.aload 4, 2) := by decide +kernel
theorem dX4_passSecond_22 : decode cX4_passSecond 22 = .ok (.getfield 92, 3) := by decide +kernel
theorem dX4_passSecond_25 : decode cX4_passSecond 25 = .ok (.ifCond .eq 8, 3) := by decide +kernel
theorem dX4_passSecond_28 : decode cX4_passSecond 28 = .ok (.aload 4, 2) := by decide +kernel
theorem dX4_passSecond_30 : decode cX4_passSecond 30 = .ok (.invokevirtual 139, 3) := by decide +kernel
theorem dX4_passSecond_33 : decode cX4_passSecond 33 = .ok (.iinc 3 1, 3) := by decide +kernel
theorem dX4_passSecond_36 : decode cX4_passSecond 36 = .ok (.goto (-26), 3) := by decide +kernel
theorem dX4_passSecond_39 : decode cX4_passSecond 39 = .ok (.aload_n 0, 1) := by decide +kernel
theorem dX4_passSecond_40 : decode cX4_passSecond 40 = .ok (.getfield 25, 3) := by decide +kernel
theorem dX4_passSecond_43 : decode cX4_passSecond 43 = .ok (.astore_n 1, 1) := by decide +kernel
theorem dX4_passSecond_44 : decode cX4_passSecond 44 = .ok (.aload_n 1, 1) := by decide +kernel
theorem dX4_passSecond_45 : decode cX4_passSecond 45 = .ok (.arraylength, 1) := by decide +kernel
theorem dX4_passSecond_46 : decode cX4_passSecond 46 = .ok (.istore_n 2, 1) := by decide +kernel
theorem dX4_passSecond_47 : decode cX4_passSecond 47 = .ok (.iconst 0, 1) := by decide +kernel
theorem dX4_passSecond_48 : decode cX4_passSecond 48 = .ok (.istore_n 3, 1) := by decide +kernel
theorem dX4_passSecond_49 : decode cX4_passSecond 49 = .ok (.iload_n 3, 1) := by decide +kernel
theorem dX4_passSecond_50 : decode cX4_passSecond 50 = .ok (.iload_n 2, 1) := by decide +kernel
theorem dX4_passSecond_51 : decode cX4_passSecond 51 = .ok (.if_icmp .ge 36, 3) := by decide +kernel
theorem dX4_passSecond_54 : decode cX4_passSecond 54 = .ok (.aload_n 1, 1) := by decide +kernel
theorem dX4_passSecond_55 : decode cX4_passSecond 55 = .ok (.iload_n 3, 1) := by decide +kernel
theorem dX4_passSecond_56 : decode cX4_passSecond 56 = .ok (.aaload, 1) := by decide +kernel
theorem dX4_passSecond_57 : decode cX4_passSecond 57 = .ok (.astore 4, 2) := by decide +kernel
theorem dX4_passSecond_59 : decode cX4_passSecond 59 = .ok (.aload 4, 2) := by decide +kernel
theorem dX4_passSecond_61 : decode cX4_passSecond 61 = .ok (.getfield 92, 3) := by decide +kernel
theorem dX4_passSecond_64 : decode cX4_passSecond 64 = .ok (.ifCond .eq 17, 3) := by decide +kernel
theorem dX4_passSecond_67 : decode cX4_passSecond 67 = .ok (.aload 4, 2) := by decide +kernel
theorem dX4_passSecond_69 : decode cX4_passSecond 69 = .ok (.getfield 88, 3) := by decide +kernel
theorem dX4_passSecond_72 : decode cX4_passSecond 72 = .ok (.ifCond .eq 9, 3) := by decide +kernel
theorem dX4_passSecond_75 : decode cX4_passSecond 75 = .ok (.aload_n 0, 1) := by decide +kernel
theorem dX4_passSecond_76 : decode cX4_passSecond 76 = .ok (.aload 4, 2) := by decide +kernel
theorem dX4_passSecond_78 : decode cX4_passSecond 78 = .ok (.invokevirtual 142, 3) := by decide +kernel
theorem dX4_passSecond_81 : decode cX4_passSecond 81 = .ok (.iinc 3 1, 3) := by decide +kernel
theorem dX4_passSecond_84 : decode cX4_passSecond 84 = .ok (.goto (-35), 3) := by decide +kernel
theorem dX4_passSecond_87 : decode cX4_passSecond 87 = .ok (.aload_n 0, 1) := by decide +kernel
theorem dX4_passSecond_88 : decode cX4_passSecond 88 = .ok (.getfield 32, 3) := by decide +kernel
theorem dX4_passSecond_91 : decode cX4_passSecond 91 = .ok (.astore_n 1, 1) := by decide +kernel
theorem dX4_passSecond_92 : decode cX4_passSecond 92 = .ok (.aload_n 1, 1) := by decide +kernel
theorem dX4_passSecond_93 : decode cX4_passSecond 93 = .ok (.arraylength, 1) := by decide +kernel
theorem dX4_passSecond_94 : decode cX4_passSecond 94 = .ok (.istore_n 2, 1) := by decide +kernel
theorem dX4_passSecond_95 : decode cX4_passSecond 95 = .ok (.iconst 0, 1) := by decide +kernel
theorem dX4_passSecond_96 : decode cX4_passSecond 96 = .ok (.istore_n 3, 1) := by decide +kernel
theorem dX4_passSecond_97 : decode cX4_passSecond 97 = .ok (.iload_n 3, 1) := by decide +kernel
theorem dX4_passSecond_98 : decode cX4_passSecond 98 = .ok (.iload_n 2, 1) := by decide +kernel
theorem dX4_passSecond_99 : decode cX4_passSecond 99 = .ok (.if_icmp .ge 32, 3) := by decide +kernel
theorem dX4_passSecond_102 : decode cX4_passSecond 102 = .ok (.aload_n 1, 1) := by decide +kernel
theorem dX4_passSecond_103 : decode cX4_passSecond 103 = .ok (.iload_n 3, 1) := by decide +kernel
theorem dX4_passSecond_104 : decode cX4_passSecond 104 = .ok (.aaload, 1) := by decide +kernel
theorem dX4_passSecond_105 : decode cX4_passSecond 105 = .ok (.astore 4, 2) := by decide +kernel
theorem dX4_passSecond_107 : decode cX4_passSecond 107 = .ok (.aload 4, 2) := by decide +kernel
theorem dX4_passSecond_109 : decode cX4_passSecond 109 = .ok (.invokevirtual 145, 3) := by decide +kernel
theorem dX4_passSecond_112 : decode cX4_passSecond 112 = .ok (.ifCond .eq 13, 3) := by decide +kernel
theorem dX4_passSecond_115 : decode cX4_passSecond 115 = .ok (.aload 4, 2) := by decide +kernel
theorem dX4_passSecond_117 : decode cX4_passSecond 117 = .ok (.invokevirtual 148, 3) := by decide +kernel
theorem dX4_passSecond_120 : decode cX4_passSecond 120 = .ok (.aload 4, 2) := by decide +kernel
theorem dX4_passSecond_122 : decode cX4_passSecond 122 = .ok (.invokevirtual 151, 3) := by decide +kernel
theorem dX4_passSecond_125 : decode cX4_passSecond 125 = .ok (.iinc 3 1, 3) := by decide +kernel
theorem dX4_passSecond_128 : decode cX4_passSecond 128 = .ok (.goto (-31), 3) := by decide +kernel
theorem dX4_passSecond_131 : decode cX4_passSecond 131 = .ok (.aload_n 0, 1) := by decide +kernel
theorem dX4_passSecond_132 : decode cX4_passSecond 132 = .ok (.getfield 19, 3) := by decide +kernel
theorem dX4_passSecond_135 : decode cX4_passSecond 135 = .ok (.dup, 1) := by decide +kernel
theorem dX4_passSecond_136 : decode cX4_passSecond 136 = .ok (.getfield 154, 3) := by decide +kernel
theorem dX4_passSecond_139 : decode cX4_passSecond 139 = .ok (.iconst 1, 1) := by decide +kernel
theorem dX4_passSecond_140 : decode cX4_passSecond 140 = .ok (.iadd, 1) := by decide +kernel
theorem dX4_passSecond_141 : decode cX4_passSecond 141 = .ok (.putfield 154, 3) := by decide +kernel
theorem dX4_passSecond_144 : decode cX4_passSecond 144 = .ok (.return_, 1) := by decide +kernel
theorem dX4_heedAdvice_0 : decode cX4_heedAdvice 0 = .ok (.iconst 0, 1) := by decide +kernel
theorem dX4_heedAdvice_1 : decode cX4_heedAdvice 1 = .ok (.istore_n 2, 1) := by decide +kernel
theorem dX4_heedAdvice_2 : decode cX4_heedAdvice 2 = .ok (.iconst 0, 1) := by decide +kernel
theorem dX4_heedAdvice_3 : decode cX4_heedAdvice 3 = .ok (.istore_n 3, 1) := by decide +kernel
theorem dX4_heedAdvice_4 : decode cX4_heedAdvice 4 = .ok (.aload_n 0, 1) := by decide +kernel
theorem dX4_heedAdvice_5 : decode cX4_heedAdvice 5 = .ok (.getfield 32, 3) := by decide +kernel
theorem dX4_heedAdvice_8 : decode cX4_heedAdvice 8 = .ok (.astore 4, 2) := by decide +kernel
theorem dX4_heedAdvice_10 : decode cX4_heedAdvice 10 = .ok (.aload 4, 2) := by decide +kernel
theorem dX4_heedAdvice_12 : decode cX4_heedAdvice 12 = .ok (.arraylength, 1) := by decide +kernel
theorem dX4_heedAdvice_13 : decode cX4_heedAdvice 13 = .ok (.istore 5, 2) := by decide +kernel
theorem dX4_heedAdvice_15 : decode cX4_heedAdvice 15 = .ok (.iconst 0, 1) := by decide +kernel
theorem dX4_heedAdvice_16 : decode cX4_heedAdvice 16 = .ok (.istore 6, 2) := by decide +kernel
theorem dX4_heedAdvice_18 : decode cX4_heedAdvice 18 = .ok (.iload 6, 2) := by decide +kernel
theorem dX4_heedAdvice_20 : decode cX4_heedAdvice 20 = .ok (.iload 5, 2) := by decide +kernel
theorem dX4_heedAdvice_22 : decode cX4_heedAdvice 22 = .ok (.if_icmp .ge 65, 3) := by decide +kernel
theorem dX4_heedAdvice_25 : decode cX4_heedAdvice 25 = .ok (.aload 4, 2) := by decide +kernel
theorem dX4_heedAdvice_27 : decode cX4_heedAdvice 27 = .ok (.iload 6, 2) := by decide +kernel
theorem dX4_heedAdvice_29 : decode cX4_heedAdvice 29 = .ok (.aaload, 1) := by decide +kernel
theorem dX4_heedAdvice_30 : decode cX4_heedAdvice 30 = .ok (.astore 7, 2) := by decide +kernel
theorem dX4_heedAdvice_32 : decode cX4_heedAdvice 32 = .ok (.aload 7, 2) := by decide +kernel
theorem dX4_heedAdvice_34 : decode cX4_heedAdvice 34 = .ok (.aload_n 1, 1) := by decide +kernel
theorem dX4_heedAdvice_35 : decode cX4_heedAdvice 35 = .ok (.invokevirtual 129, 3) := by decide +kernel
theorem dX4_heedAdvice_38 : decode cX4_heedAdvice 38 = .ok (.ifCond .eq 43, 3) := by decide +kernel
theorem dX4_heedAdvice_41 : decode cX4_heedAdvice 41 = .ok (.aload 7, 2) := by decide +kernel
theorem dX4_heedAdvice_43 : decode cX4_heedAdvice 43 = .ok (.invokevirtual 158, 3) := by decide +kernel
theorem dX4_heedAdvice_46 : decode cX4_heedAdvice 46 = .ok (.ifCond .eq 35, 3) := by decide +kernel
theorem dX4_heedAdvice_49 : decode cX4_heedAdvice 49 = .ok (.aload 7, 2) := by decide +kernel
theorem dX4_heedAdvice_51 : decode cX4_heedAdvice 51 = .ok (.aload_n 1, 1) := by decide +kernel
theorem dX4_heedAdvice_52 : decode cX4_heedAdvice 52 = .ok (.invokevirtual 161, 3) := by decide +kernel
theorem dX4_heedAdvice_55 : decode cX4_heedAdvice 55 = .ok (.ifCond .eq 16, 3) := by decide +kernel
theorem dX4_heedAdvice_58 : decode cX4_heedAdvice 58 = .ok (.iload_n 2, 1) := by decide +kernel
theorem dX4_heedAdvice_59 : decode cX4_heedAdvice 59 = .ok (.aload 7, 2) := by decide +kernel
theorem dX4_heedAdvice_61 : decode cX4_heedAdvice 61 = .ok (.getfield 164, 3) := by decide +kernel
theorem dX4_heedAdvice_64 : decode cX4_heedAdvice 64 = .ok (.invokestatic 117, 3) := by decide +kernel
theorem dX4_heedAdvice_67 : decode cX4_heedAdvice 67 = .ok (.istore_n 2, 1) := by decide +kernel
theorem dX4_heedAdvice_68 : decode cX4_heedAdvice 68 = .ok (.goto 13, 3) := by decide +kernel
theorem dX4_heedAdvice_71 : decode cX4_heedAdvice 71 = .ok (.iload_n 3, 1) := by decide +kernel
theorem dX4_heedAdvice_72 : decode cX4_heedAdvice 72 = .ok (.aload 7, 2) := by decide +kernel
theorem dX4_heedAdvice_74 : decode cX4_heedAdvice 74 = .ok (.getfield 164, 3) := by decide +kernel
theorem dX4_heedAdvice_77 : decode cX4_heedAdvice 77 = .ok (.invokestatic 117, 3) := by decide +kernel
theorem dX4_heedAdvice_80 : decode cX4_heedAdvice 80 = .ok (.istore_n 3, 1) := by decide +kernel
theorem dX4_heedAdvice_81 : decode cX4_heedAdvice 81 = .ok (.iinc 6 1, 3) := by decide +kernel
theorem dX4_heedAdvice_84 : decode cX4_heedAdvice 84 = .ok (.goto (-66), 3) := by decide +kernel
theorem dX4_heedAdvice_87 : decode cX4_heedAdvice 87 = .ok (.aload_n 1, 1) := by decide +kernel
theorem dX4_heedAdvice_88 : decode cX4_heedAdvice 88 = .ok (.iload_n 2, 1) := by decide +kernel
theorem dX4_heedAdvice_89 : decode cX4_heedAdvice 89 = .ok (.iload_n 3, 1) := by decide +kernel
theorem dX4_heedAdvice_90 : decode cX4_heedAdvice 90 = .ok (.aload_n 0, 1) := by decide +kernel
theorem dX4_heedAdvice_91 : decode cX4_heedAdvice 91 = .ok (.getfield 10, 3) := by decide +kernel
theorem dX4_heedAdvice_94 : decode cX4_heedAdvice 94 = .ok (.invokevirtual 167, 3) := by decide +kernel
theorem dX4_heedAdvice_97 : decode cX4_heedAdvice 97 = .ok (.invokevirtual 170, 3) := by decide +kernel
theorem dX4_heedAdvice_100 : decode cX4_heedAdvice 100 = .ok (.return_, 1) := by decide +kernel
theorem dX4_countAdvised_0 : decode cX4_countAdvised 0 = .ok (.iconst 0, 1) := by decide +kernel
theorem dX4_countAdvised_1 : decode cX4_countAdvised 1 = .ok (.istore_n 1, 1) := by decide +kernel
theorem dX4_countAdvised_2 : decode cX4_countAdvised 2 = .ok (.aload_n 0, 1) := by decide +kernel
theorem dX4_countAdvised_3 : decode cX4_countAdvised 3 = .ok (.getfield 32, 3) := by decide +kernel
theorem dX4_countAdvised_6 : decode cX4_countAdvised 6 = .ok (.astore_n 2, 1) := by decide +kernel
theorem dX4_countAdvised_7 : decode cX4_countAdvised 7 = .ok (.aload_n 2, 1) := by decide +kernel
theorem dX4_countAdvised_8 : decode cX4_countAdvised 8 = .ok (.arraylength, 1) := by decide +kernel
theorem dX4_countAdvised_9 : decode cX4_countAdvised 9 = .ok (.istore_n 3, 1) := by decide +kernel
theorem dX4_countAdvised_10 : decode cX4_countAdvised 10 = .ok (.iconst 0, 1) := by decide +kernel
theorem dX4_countAdvised_11 : decode cX4_countAdvised 11 = .ok (.istore 4, 2) := by decide +kernel
theorem dX4_countAdvised_13 : decode cX4_countAdvised 13 = .ok (.iload 4, 2) := by decide +kernel
theorem dX4_countAdvised_15 : decode cX4_countAdvised 15 = .ok (.iload_n 3, 1) := by decide +kernel
theorem dX4_countAdvised_16 : decode cX4_countAdvised 16 = .ok (.if_icmp .ge 26, 3) := by decide +kernel
theorem dX4_countAdvised_19 : decode cX4_countAdvised 19 = .ok (.aload_n 2, 1) := by decide +kernel
theorem dX4_countAdvised_20 : decode cX4_countAdvised 20 = .ok (.iload 4, 2) := by decide +kernel
theorem dX4_countAdvised_22 : decode cX4_countAdvised 22 = .ok (.aaload, 1) := by decide +kernel
theorem dX4_countAdvised_23 : decode cX4_countAdvised 23 = .ok (.astore 5, 2) := by decide +kernel
theorem dX4_countAdvised_25 : decode cX4_countAdvised 25 = .ok (.aload 5, 2) := by decide +kernel
theorem dX4_countAdvised_27 : decode cX4_countAdvised 27 = .ok (.getfield 172, 3) := by decide +kernel
theorem dX4_countAdvised_30 : decode cX4_countAdvised 30 = .ok (.ifCond .eq 6, 3) := by decide +kernel
theorem dX4_countAdvised_33 : decode cX4_countAdvised 33 = .ok (.iinc 1 1, 3) := by decide +kernel
theorem dX4_countAdvised_36 : decode cX4_countAdvised 36 = .ok (.iinc 4 1, 3) := by decide +kernel
theorem dX4_countAdvised_39 : decode cX4_countAdvised 39 = .ok (.goto (-26), 3) := by decide +kernel
theorem dX4_countAdvised_42 : decode cX4_countAdvised 42 = .ok (.iload_n 1, 1) := by decide +kernel
theorem dX4_countAdvised_43 : decode cX4_countAdvised 43 = .ok (.ireturn, 1) := by decide +kernel
theorem dX5_init_0 : decode cX5_init 0 = .ok (.aload_n 0, 1) := by decide +kernel
theorem dX5_init_1 : decode cX5_init 1 = .ok (.invokespecial 1, 3) := by decide +kernel
theorem dX5_init_4 : decode cX5_init 4 = .ok (.aload_n 0, 1) := by decide +kernel
theorem dX5_init_5 : decode cX5_init 5 = .ok (.bipush 7, 2) := by decide +kernel
theorem dX5_init_7 : decode cX5_init 7 = .ok (.newarray .int, 2) := by decide +kernel
theorem dX5_init_9 : decode cX5_init 9 = .ok (.putfield 7, 3) := by decide +kernel
theorem dX5_init_12 : decode cX5_init 12 = .ok (.aload_n 0, 1) := by decide +kernel
theorem dX5_init_13 : decode cX5_init 13 = .ok (.bipush 6, 2) := by decide +kernel
theorem dX5_init_15 : decode cX5_init 15 = .ok (.newarray .boolean, 2) := by decide +kernel
theorem dX5_init_17 : decode cX5_init 17 = .ok (.putfield 13, 3) := by decide +kernel
theorem dX5_init_20 : decode cX5_init 20 = .ok (.aload_n 0, 1) := by decide +kernel
theorem dX5_init_21 : decode cX5_init 21 = .ok (.bipush 6, 2) := by decide +kernel
theorem dX5_init_23 : decode cX5_init 23 = .ok (.newarray .boolean, 2) := by decide +kernel
theorem dX5_init_25 : decode cX5_init 25 = .ok (.putfield 17, 3) := by decide +kernel
theorem dX5_init_28 : decode cX5_init 28 = .ok (.aload_n 0, 1) := by decide +kernel
theorem dX5_init_29 : decode cX5_init 29 = .ok (.bipush 36, 2) := by decide +kernel
theorem dX5_init_31 : decode cX5_init 31 = .ok (.newarray .int, 2) := by decide +kernel
theorem dX5_init_33 : decode cX5_init 33 = .ok (.putfield 20, 3) := by decide +kernel
theorem dX5_init_36 : decode cX5_init 36 = .ok (.aload_n 0, 1) := by decide +kernel
theorem dX5_init_37 : decode cX5_init 37 = .ok (.bipush 36, 2) := by decide +kernel
theorem dX5_init_39 : decode cX5_init 39 = .ok (.newarray .int, 2) := by decide +kernel
theorem dX5_init_41 : decode cX5_init 41 = .ok (.putfield 23, 3) := by decide +kernel
theorem dX5_init_44 : decode cX5_init 44 = .ok (.aload_n 0, 1) := by decide +kernel
theorem dX5_init_45 : decode cX5_init 45 = .ok (.bipush 36, 2) := by decide +kernel
theorem dX5_init_47 : decode cX5_init 47 = .ok (.newarray .int, 2) := by decide +kernel
theorem dX5_init_49 : decode cX5_init 49 = .ok (.putfield 26, 3) := by decide +kernel
theorem dX5_init_52 : decode cX5_init 52 = .ok (.aload_n 0, 1) := by decide +kernel
theorem dX5_init_53 : decode cX5_init 53 = .ok (.bipush 36, 2) := by decide +kernel
theorem dX5_init_55 : decode cX5_init 55 = .ok (.newarray .int, 2) := by decide +kernel
theorem dX5_init_57 : decode cX5_init 57 = .ok (.putfield 29, 3) := by decide +kernel
theorem dX5_init_60 : decode cX5_init 60 = .ok (.aload_n 0, 1) := by decide +kernel
theorem dX5_init_61 : decode cX5_init 61 = .ok (.bipush 36, 2) := by decide +kernel
theorem dX5_init_63 : decode cX5_init 63 = .ok (.newarray .boolean, 2) := by decide +kernel
theorem dX5_init_65 : decode cX5_init 65 = .ok (.putfield 32, 3) := by decide +kernel
theorem dX5_init_68 : decode cX5_init 68 = .ok (.aload_n 0, 1) := by decide +kernel
theorem dX5_init_69 : decode cX5_init 69 = .ok (.bipush 36, 2) := by decide +kernel
theorem dX5_init_71 : decode cX5_init 71 = .ok (.newarray .long, 2) := by decide +kernel
theorem dX5_init_73 : decode cX5_init 73 = .ok (.putfield 35, 3) := by decide +kernel
theorem dX5_init_76 : decode cX5_init 76 = .ok (.aload_n 0, 1) := by decide +kernel
theorem dX5_init_77 : decode cX5_init 77 = .ok (.bipush 36, 2) := by decide +kernel
theorem dX5_init_79 : decode cX5_init 79 = .ok (.newarray .int, 2) := by decide +kernel
theorem dX5_init_81 : decode cX5_init 81 = .ok (.putfield 39, 3) := by decide +kernel
theorem dX5_init_84 : decode cX5_init 84 = .ok (.aload_n 0, 1) := by decide +kernel
theorem dX5_init_85 : decode cX5_init 85 = .ok (.iconst 5, 1) := by decide +kernel
theorem dX5_init_86 : decode cX5_init 86 = .ok (.newarray .int, 2) := by decide +kernel
theorem dX5_init_88 : decode cX5_init 88 = .ok (.putfield 42, 3) := by decide +kernel
theorem dX5_init_91 : decode cX5_init 91 = .ok (.aload_n 0, 1) := by decide +kernel
theorem dX5_init_92 : decode cX5_init 92 = .ok (.getfield 7, 3) := by decide +kernel
theorem dX5_init_95 : decode cX5_init 95 = .ok (.iconst 0, 1) := by decide +kernel
theorem dX5_init_96 : decode cX5_init 96 = .ok (.bipush 30, 2) := by decide +kernel
theorem dX5_init_98 : decode cX5_init 98 = .ok (.iastore, 1) := by decide +kernel
theorem dX5_init_99 : decode cX5_init 99 = .ok (.aload_n 0, 1) := by decide +kernel
theorem dX5_init_100 : decode cX5_init 100 = .ok (.getfield 7, 3) := by decide +kernel
theorem dX5_init_103 : decode cX5_init 103 = .ok (.iconst 1, 1) := by decide +kernel
theorem dX5_init_104 : decode cX5_init 104 = .ok (.sipush 1000, 3) := by decide +kernel
theorem dX5_init_107 : decode cX5_init 107 = .ok (.iastore, 1) := by decide +kernel
theorem dX5_init_108 : decode cX5_init 108 = .ok (.aload_n 0, 1) := by decide +kernel
theorem dX5_init_109 : decode cX5_init 109 = .ok (.getfield 7, 3) := by decide +kernel
theorem dX5_init_112 : decode cX5_init 112 = .ok (.iconst 2, 1) := by decide +kernel
theorem dX5_init_113 : decode cX5_init 113 = .ok (.sipush 2000, 3) := by decide +kernel
theorem dX5_init_116 : decode cX5_init 116 = .ok (.iastore, 1) := by decide +kernel
theorem dX5_init_117 : decode cX5_init 117 = .ok (.aload_n 0, 1) := by decide +kernel
theorem dX5_init_118 : decode cX5_init 118 = .ok (.getfield 7, 3) := by decide +kernel
theorem dX5_init_121 : decode cX5_init 121 = .ok (.iconst 3, 1) := by decide +kernel
theorem dX5_init_122 : decode cX5_init 122 = .ok (.sipush 250, 3) := by decide +kernel
theorem dX5_init_125 : decode cX5_init 125 = .ok (.iastore, 1) := by decide +kernel
theorem dX5_init_126 : decode cX5_init 126 = .ok (.aload_n 0, 1) := by decide +kernel
theorem dX5_init_127 : decode cX5_init 127 = .ok (.getfield 7, 3) := by decide +kernel
theorem dX5_init_130 : decode cX5_init 130 = .ok (.iconst 4, 1) := by decide +kernel
theorem dX5_init_131 : decode cX5_init 131 = .ok (.sipush 200, 3) := by decide +kernel
theorem dX5_init_134 : decode cX5_init 134 = .ok (.iastore, 1) := by decide +kernel
theorem dX5_init_135 : decode cX5_init 135 = .ok (.aload_n 0, 1) := by decide +kernel
theorem dX5_init_136 : decode cX5_init 136 = .ok (.getfield 7, 3) := by decide +kernel
theorem dX5_init_139 : decode cX5_init 139 = .ok (.iconst 5, 1) := by decide +kernel
theorem dX5_init_140 : decode cX5_init 140 = .ok (.iconst 5, 1) := by decide +kernel
theorem dX5_init_141 : decode cX5_init 141 = .ok (.iastore, 1) := by decide +kernel
theorem dX5_init_142 : decode cX5_init 142 = .ok (.aload_n 0, 1) := by decide +kernel
theorem dX5_init_143 : decode cX5_init 143 = .ok (.getfield 7, 3) := by decide +kernel
theorem dX5_init_146 : decode cX5_init 146 = .ok (.bipush 6, 2) := by decide +kernel
theorem dX5_init_148 : decode cX5_init 148 = .ok (.bipush 8, 2) := by decide +kernel
theorem dX5_init_150 : decode cX5_init 150 = .ok (.iastore, 1) := by decide +kernel
theorem dX5_init_151 : decode cX5_init 151 = .ok (.return_, 1) := by decide +kernel
theorem dX5_thrown_0 : decode cX5_thrown 0 = .ok (.aload_n 0, 1) := by decide +kernel
theorem dX5_thrown_1 : decode cX5_thrown 1 = .ok (.getfield 45, 3) := by decide +kernel
theorem dX5_thrown_4 : decode cX5_thrown 4 = .ok (.ireturn, 1) := by decide +kernel
theorem dX5_set_0 : decode cX5_set 0 = .ok (.iload_n 1, 1) := by decide +kernel
theorem dX5_set_1 : decode cX5_set 1 = .ok (.ifCond .eq 9, 3) := by decide +kernel
theorem dX5_set_4 : decode cX5_set 4 = .ok (.iload_n 1, 1) := by decide +kernel
theorem dX5_set_5 : decode cX5_set 5 = .ok (.bipush 6, 2) := by decide +kernel
theorem dX5_set_7 : decode cX5_set 7 = .ok (.if_icmp .ne 7, 3) := by decide +kernel
theorem dX5_set_10 : decode cX5_set 10 = .ok (.iconst 1, 1) := by decide +kernel
theorem dX5_set_11 : decode cX5_set 11 = .ok (.goto 4, 3) := by decide +kernel
theorem dX5_set_14 : decode cX5_set 14 = .ok (.iconst 0, 1) := by decide +kernel
theorem dX5_set_15 : decode cX5_set 15 = .ok (.istore_n 3, 1) := by decide +kernel
theorem dX5_set_16 : decode cX5_set 16 = .ok (.iload_n 1, 1) := by decide +kernel
theorem dX5_set_17 : decode cX5_set 17 = .ok (.ifCond .ne 8, 3) := by decide +kernel
theorem dX5_set_20 : decode cX5_set 20 = .ok (.bipush 100, 2) := by decide +kernel
theorem dX5_set_22 : decode cX5_set 22 = .ok (.goto 47, 3) := by decide +kernel
theorem dX5_set_25 : decode cX5_set 25 = .ok (.iload_n 1, 1) := by decide +kernel
theorem dX5_set_26 : decode cX5_set 26 = .ok (.iconst 1, 1) := by decide +kernel
theorem dX5_set_27 : decode cX5_set 27 = .ok (.if_icmp .eq 8, 3) := by decide +kernel
theorem dX5_set_30 : decode cX5_set 30 = .ok (.iload_n 1, 1) := by decide +kernel
theorem dX5_set_31 : decode cX5_set 31 = .ok (.iconst 2, 1) := by decide +kernel
theorem dX5_set_32 : decode cX5_set 32 = .ok (.if_icmp .ne 9, 3) := by decide +kernel
theorem dX5_set_35 : decode cX5_set 35 = .ok (.sipush 5000, 3) := by decide +kernel
theorem dX5_set_38 : decode cX5_set 38 = .ok (.goto 31, 3) := by decide +kernel
theorem dX5_set_41 : decode cX5_set 41 = .ok (.iload_n 1, 1) := by decide +kernel
theorem dX5_set_42 : decode cX5_set 42 = .ok (.iconst 3, 1) := by decide +kernel
theorem dX5_set_43 : decode cX5_set 43 = .ok (.if_icmp .eq 8, 3) := by decide +kernel
theorem dX5_set_46 : decode cX5_set 46 = .ok (.iload_n 1, 1) := by decide +kernel
theorem dX5_set_47 : decode cX5_set 47 = .ok (.iconst 4, 1) := by decide +kernel
theorem dX5_set_48 : decode cX5_set 48 = .ok (.if_icmp .ne 9, 3) := by decide +kernel
theorem dX5_set_51 : decode cX5_set 51 = .ok (.sipush 2000, 3) := by decide +kernel
theorem dX5_set_54 : decode cX5_set 54 = .ok (.goto 15, 3) := by decide +kernel
theorem dX5_set_57 : decode cX5_set 57 = .ok (.iload_n 1, 1) := by decide +kernel
theorem dX5_set_58 : decode cX5_set 58 = .ok (.iconst 5, 1) := by decide +kernel
theorem dX5_set_59 : decode cX5_set 59 = .ok (.if_icmp .ne 8, 3) := by decide +kernel
theorem dX5_set_62 : decode cX5_set 62 = .ok (.bipush 20, 2) := by decide +kernel
theorem dX5_set_64 : decode cX5_set 64 = .ok (.goto 5, 3) := by decide +kernel
theorem dX5_set_67 : decode cX5_set 67 = .ok (.bipush 60, 2) := by decide +kernel
theorem dX5_set_69 : decode cX5_set 69 = .ok (.istore 4, 2) := by decide +kernel
theorem dX5_set_71 : decode cX5_set 71 = .ok (.aload_n 0, 1) := by decide +kernel
theorem dX5_set_72 : decode cX5_set 72 = .ok (.iload_n 1, 1) := by decide +kernel
theorem dX5_set_73 : decode cX5_set 73 = .ok (.ifCond .lt 20, 3) := by decide +kernel
theorem dX5_set_76 : decode cX5_set 76 = .ok (.iload_n 1, 1) := by decide +kernel
theorem dX5_set_77 : decode cX5_set 77 = .ok (.bipush 6, 2) := by decide +kernel
theorem dX5_set_79 : decode cX5_set 79 = .ok (.if_icmp .gt 14, 3) := by decide +kernel
theorem dX5_set_82 : decode cX5_set 82 = .ok (.iload_n 2, 1) := by decide +kernel
theorem dX5_set_83 : decode cX5_set 83 = .ok (.iload_n 3, 1) := by decide +kernel
theorem dX5_set_84 : decode cX5_set 84 = .ok (.if_icmp .lt 9, 3) := by decide +kernel
theorem dX5_set_87 : decode cX5_set 87 = .ok (.iload_n 2, 1) := by decide +kernel
theorem dX5_set_88 : decode cX5_set 88 = .ok (.iload 4, 2) := by decide +kernel
theorem dX5_set_90 : decode cX5_set 90 = .ok (.if_icmp .le 7, 3) := by decide +kernel
theorem dX5_set_93 : decode cX5_set 93 = .ok (.iconst 1, 1) := by decide +kernel
theorem dX5_set_94 : decode cX5_set 94 = .ok (.goto 4, 3) := by decide +kernel
theorem dX5_set_97 : decode cX5_set 97 = .ok (.iconst 0, 1) := by decide +kernel
theorem dX5_set_98 : decode cX5_set 98 = .ok (.putfield 45, 3) := by decide +kernel
theorem dX5_set_101 : decode cX5_set 101 = .ok (.aload_n 0, 1) := by decide +kernel
theorem dX5_set_102 : decode cX5_set 102 = .ok (.getfield 45, 3) := by decide +kernel
theorem dX5_set_105 : decode cX5_set 105 = .ok (.ifCond .le 5, 3) := by decide +kernel
theorem dX5_set_108 : decode cX5_set 108 = .ok (.iconst 0, 1) := by decide +kernel
theorem dX5_set_109 : decode cX5_set 109 = .ok (.ireturn, 1) := by decide +kernel
theorem dX5_set_110 : decode cX5_set 110 = .ok (.aload_n 0, 1) := by decide +kernel
theorem dX5_set_111 : decode cX5_set 111 = .ok (.getfield 7, 3) := by decide +kernel
theorem dX5_set_114 : decode cX5_set 114 = .ok (.iload_n 1, 1) := by decide +kernel
theorem dX5_set_115 : decode cX5_set 115 = .ok (.iaload, 1) := by decide +kernel
theorem dX5_set_116 : decode cX5_set 116 = .ok (.istore 5, 2) := by decide +kernel
theorem dX5_set_118 : decode cX5_set 118 = .ok (.aload_n 0, 1) := by decide +kernel
theorem dX5_set_119 : decode cX5_set 119 = .ok (.getfield 7, 3) := by decide +kernel
theorem dX5_set_122 : decode cX5_set 122 = .ok (.iload_n 1, 1) := by decide +kernel
theorem dX5_set_123 : decode cX5_set 123 = .ok (.iload_n 2, 1) := by decide +kernel
theorem dX5_set_124 : decode cX5_set 124 = .ok (.iastore, 1) := by decide +kernel
theorem dX5_set_125 : decode cX5_set 125 = .ok (.iload 5, 2) := by decide +kernel
theorem dX5_set_127 : decode cX5_set 127 = .ok (.ireturn, 1) := by decide +kernel
theorem dX5_isNumber_0 : decode cX5_isNumber 0 = .ok (.iload_n 0, 1) := by decide +kernel
theorem dX5_isNumber_1 : decode cX5_isNumber 1 = .ok (.ifCond .lt 13, 3) := by decide +kernel
theorem dX5_isNumber_4 : decode cX5_isNumber 4 = .ok (.iload_n 0, 1) := by decide +kernel
theorem dX5_isNumber_5 : decode cX5_isNumber 5 = .ok (.bipush 6, 2) := by decide +kernel
theorem dX5_isNumber_7 : decode cX5_isNumber 7 = .ok (.if_icmp .ge 7, 3) := by decide +kernel
theorem dX5_isNumber_10 : decode cX5_isNumber 10 = .ok (.iconst 1, 1) := by decide +kernel
theorem dX5_isNumber_11 : decode cX5_isNumber 11 = .ok (.goto 4, 3) := by decide +kernel
theorem dX5_isNumber_14 : decode cX5_isNumber 14 = .ok (.iconst 0, 1) := by decide +kernel
theorem dX5_isNumber_15 : decode cX5_isNumber 15 = .ok (.ireturn, 1) := by decide +kernel
theorem dX5_isThere_0 : decode cX5_isThere 0 = .ok (.iload_n 1, 1) := by decide +kernel
theorem dX5_isThere_1 : decode cX5_isThere 1 = .ok (.invokestatic 49, 3) := by decide +kernel
theorem dX5_isThere_4 : decode cX5_isThere 4 = .ok (.ifCond .eq 16, 3) := by decide +kernel
theorem dX5_isThere_7 : decode cX5_isThere 7 = .ok (.aload_n 0, 1) := by decide +kernel
theorem dX5_isThere_8 : decode cX5_isThere 8 = .ok (.getfield 13, 3) := by decide +kernel
theorem dX5_isThere_11 : decode cX5_isThere 11 = .ok (.iload_n 1, 1) := by decide +kernel
theorem dX5_isThere_12 : decode cX5_isThere 12 = .ok (.baload, 1) := by decide +kernel
theorem dX5_isThere_13 : decode cX5_isThere 13 = .ok (.ifCond .eq 7, 3) := by decide +kernel
theorem dX5_isThere_16 : decode cX5_isThere 16 = .ok (.iconst 1, 1) := by decide +kernel
theorem dX5_isThere_17 : decode cX5_isThere 17 = .ok (.goto 4, 3) := by decide +kernel
theorem dX5_isThere_20 : decode cX5_isThere 20 = .ok (.iconst 0, 1) := by decide +kernel
theorem dX5_isThere_21 : decode cX5_isThere 21 = .ok (.ireturn, 1) := by decide +kernel
theorem dX5_within_0 : decode cX5_within 0 = .ok (.iload_n 0, 1) := by decide +kernel
theorem dX5_within_1 : decode cX5_within 1 = .ok (.iload_n 1, 1) := by decide +kernel
theorem dX5_within_2 : decode cX5_within 2 = .ok (.ineg, 1) := by decide +kernel
theorem dX5_within_3 : decode cX5_within 3 = .ok (.if_icmp .lt 12, 3) := by decide +kernel
theorem dX5_within_6 : decode cX5_within 6 = .ok (.iload_n 0, 1) := by decide +kernel
theorem dX5_within_7 : decode cX5_within 7 = .ok (.iload_n 1, 1) := by decide +kernel
theorem dX5_within_8 : decode cX5_within 8 = .ok (.if_icmp .gt 7, 3) := by decide +kernel
theorem dX5_within_11 : decode cX5_within 11 = .ok (.iconst 1, 1) := by decide +kernel
theorem dX5_within_12 : decode cX5_within 12 = .ok (.goto 4, 3) := by decide +kernel
theorem dX5_within_15 : decode cX5_within 15 = .ok (.iconst 0, 1) := by decide +kernel
theorem dX5_within_16 : decode cX5_within 16 = .ok (.ireturn, 1) := by decide +kernel
theorem dX5_pairOf_0 : decode cX5_pairOf 0 = .ok (.iload_n 0, 1) := by decide +kernel
theorem dX5_pairOf_1 : decode cX5_pairOf 1 = .ok (.iload_n 1, 1) := by decide +kernel
theorem dX5_pairOf_2 : decode cX5_pairOf 2 = .ok (.if_icmp .ge 12, 3) := by decide +kernel
theorem dX5_pairOf_5 : decode cX5_pairOf 5 = .ok (.bipush 6, 2) := by decide +kernel
theorem dX5_pairOf_7 : decode cX5_pairOf 7 = .ok (.iload_n 0, 1) := by decide +kernel
theorem dX5_pairOf_8 : decode cX5_pairOf 8 = .ok (.imul, 1) := by decide +kernel
theorem dX5_pairOf_9 : decode cX5_pairOf 9 = .ok (.iload_n 1, 1) := by decide +kernel
theorem dX5_pairOf_10 : decode cX5_pairOf 10 = .ok (.iadd, 1) := by decide +kernel
theorem dX5_pairOf_11 : decode cX5_pairOf 11 = .ok (.goto 9, 3) := by decide +kernel
theorem dX5_pairOf_14 : decode cX5_pairOf 14 = .ok (.bipush 6, 2) := by decide +kernel
theorem dX5_pairOf_16 : decode cX5_pairOf 16 = .ok (.iload_n 1, 1) := by decide +kernel
theorem dX5_pairOf_17 : decode cX5_pairOf 17 = .ok (.imul, 1) := by decide +kernel
theorem dX5_pairOf_18 : decode cX5_pairOf 18 = .ok (.iload_n 0, 1) := by decide +kernel
theorem dX5_pairOf_19 : decode cX5_pairOf 19 = .ok (.iadd, 1) := by decide +kernel
theorem dX5_pairOf_20 : decode cX5_pairOf 20 = .ok (.ireturn, 1) := by decide +kernel
theorem dX5_endAll_0 : decode cX5_endAll 0 = .ok (.iconst 0, 1) := by decide +kernel
theorem dX5_endAll_1 : decode cX5_endAll 1 = .ok (.istore_n 2, 1) := by decide +kernel
theorem dX5_endAll_2 : decode cX5_endAll 2 = .ok (.iload_n 2, 1) := by decide +kernel
theorem dX5_endAll_3 : decode cX5_endAll 3 = .ok (.bipush 6, 2) := by decide +kernel
theorem dX5_endAll_5 : decode cX5_endAll 5 = .ok (.if_icmp .ge 48, 3) := by decide +kernel
theorem dX5_endAll_8 : decode cX5_endAll 8 = .ok (.iload_n 2, 1) := by decide +kernel
theorem dX5_endAll_9 : decode cX5_endAll 9 = .ok (.iload_n 1, 1) := by decide +kernel
theorem dX5_endAll_10 : decode cX5_endAll 10 = .ok (.if_icmp .eq 37, 3) := by decide +kernel
theorem dX5_endAll_13 : decode cX5_endAll 13 = .ok (.iload_n 1, 1) := by decide +kernel
theorem dX5_endAll_14 : decode cX5_endAll 14 = .ok (.iload_n 2, 1) := by decide +kernel
theorem dX5_endAll_15 : decode cX5_endAll 15 = .ok (.invokestatic 53, 3) := by decide +kernel
theorem dX5_endAll_18 : decode cX5_endAll 18 = .ok (.istore_n 3, 1) := by decide +kernel
theorem dX5_endAll_19 : decode cX5_endAll 19 = .ok (.aload_n 0, 1) := by decide +kernel
theorem dX5_endAll_20 : decode cX5_endAll 20 = .ok (.getfield 23, 3) := by decide +kernel
theorem dX5_endAll_23 : decode cX5_endAll 23 = .ok (.iload_n 3, 1) := by decide +kernel
theorem dX5_endAll_24 : decode cX5_endAll 24 = .ok (.iconst 0, 1) := by decide +kernel
theorem dX5_endAll_25 : decode cX5_endAll 25 = .ok (.iastore, 1) := by decide +kernel
theorem dX5_endAll_26 : decode cX5_endAll 26 = .ok (.aload_n 0, 1) := by decide +kernel
theorem dX5_endAll_27 : decode cX5_endAll 27 = .ok (.getfield 26, 3) := by decide +kernel
theorem dX5_endAll_30 : decode cX5_endAll 30 = .ok (.iload_n 3, 1) := by decide +kernel
theorem dX5_endAll_31 : decode cX5_endAll 31 = .ok (.iconst 0, 1) := by decide +kernel
theorem dX5_endAll_32 : decode cX5_endAll 32 = .ok (.iastore, 1) := by decide +kernel
theorem dX5_endAll_33 : decode cX5_endAll 33 = .ok (.aload_n 0, 1) := by decide +kernel
theorem dX5_endAll_34 : decode cX5_endAll 34 = .ok (.getfield 29, 3) := by decide +kernel
theorem dX5_endAll_37 : decode cX5_endAll 37 = .ok (.iload_n 3, 1) := by decide +kernel
theorem dX5_endAll_38 : decode cX5_endAll 38 = .ok (.iconst 0, 1) := by decide +kernel
theorem dX5_endAll_39 : decode cX5_endAll 39 = .ok (.iastore, 1) := by decide +kernel
theorem dX5_endAll_40 : decode cX5_endAll 40 = .ok (.aload_n 0, 1) := by decide +kernel
theorem dX5_endAll_41 : decode cX5_endAll 41 = .ok (.getfield 32, 3) := by decide +kernel
theorem dX5_endAll_44 : decode cX5_endAll 44 = .ok (.iload_n 3, 1) := by decide +kernel
theorem dX5_endAll_45 : decode cX5_endAll 45 = .ok (.iconst 0, 1) := by decide +kernel
theorem dX5_endAll_46 : decode cX5_endAll 46 = .ok (.bastore, 1) := by decide +kernel
theorem dX5_endAll_47 : decode cX5_endAll 47 = .ok (.iinc 2 1, 3) := by decide +kernel
theorem dX5_endAll_50 : decode cX5_endAll 50 = .ok (.goto (-48), 3) := by decide +kernel
theorem dX5_endAll_53 : decode cX5_endAll 53 = .ok (.return_, 1) := by decide +kernel
theorem dX5_measure_0 : decode cX5_measure 0 = .ok (.iload_n 1, 1) := by decide +kernel
theorem dX5_measure_1 : decode cX5_measure 1 = .ok (.iload_n 2, 1) := by decide +kernel
theorem dX5_measure_2 : decode cX5_measure 2 = .ok (.invokestatic 53, 3) := by decide +kernel
theorem dX5_measure_5 : decode cX5_measure 5 = .ok (.istore_n 3, 1) := by decide +kernel
theorem dX5_measure_6 : decode cX5_measure 6 = .ok (.aload_n 0, 1) := by decide +kernel
theorem dX5_measure_7 : decode cX5_measure 7 = .ok (.getfield 20, 3) := by decide +kernel
theorem dX5_measure_10 : decode cX5_measure 10 = .ok (.bipush 6, 2) := by decide +kernel
theorem dX5_measure_12 : decode cX5_measure 12 = .ok (.iload_n 2, 1) := by decide +kernel
theorem dX5_measure_13 : decode cX5_measure 13 = .ok (.imul, 1) := by decide +kernel
theorem dX5_measure_14 : decode cX5_measure 14 = .ok (.iaload, 1) := by decide +kernel
theorem dX5_measure_15 : decode cX5_measure 15 = .ok (.aload_n 0, 1) := by decide +kernel
theorem dX5_measure_16 : decode cX5_measure 16 = .ok (.getfield 20, 3) := by decide +kernel
theorem dX5_measure_19 : decode cX5_measure 19 = .ok (.bipush 6, 2) := by decide +kernel
theorem dX5_measure_21 : decode cX5_measure 21 = .ok (.iload_n 1, 1) := by decide +kernel
theorem dX5_measure_22 : decode cX5_measure 22 = .ok (.imul, 1) := by decide +kernel
theorem dX5_measure_23 : decode cX5_measure 23 = .ok (.iaload, 1) := by decide +kernel
theorem dX5_measure_24 : decode cX5_measure 24 = .ok (.isub, 1) := by decide +kernel
theorem dX5_measure_25 : decode cX5_measure 25 = .ok (.i2l, 1) := by decide +kernel
theorem dX5_measure_26 : decode cX5_measure 26 = .ok (.lstore 4, 2) := by decide +kernel
theorem dX5_measure_28 : decode cX5_measure 28 = .ok (.aload_n 0, 1) := by decide +kernel
theorem dX5_measure_29 : decode cX5_measure 29 = .ok (.getfield 20, 3) := by decide +kernel
theorem dX5_measure_32 : decode cX5_measure 32 = .ok (.bipush 6, 2) := by decide +kernel
theorem dX5_measure_34 : decode cX5_measure 34 = .ok (.iload_n 2, 1) := by decide +kernel
theorem dX5_measure_35 : decode cX5_measure 35 = .ok (.imul, 1) := by decide +kernel
theorem dX5_measure_36 : decode cX5_measure 36 = .ok (.iconst 1, 1) := by decide +kernel
theorem dX5_measure_37 : decode cX5_measure 37 = .ok (.iadd, 1) := by decide +kernel
theorem dX5_measure_38 : decode cX5_measure 38 = .ok (.iaload, 1) := by decide +kernel
theorem dX5_measure_39 : decode cX5_measure 39 = .ok (.aload_n 0, 1) := by decide +kernel
theorem dX5_measure_40 : decode cX5_measure 40 = .ok (.getfield 20, 3) := by decide +kernel
theorem dX5_measure_43 : decode cX5_measure 43 = .ok (.bipush 6, 2) := by decide +kernel
theorem dX5_measure_45 : decode cX5_measure 45 = .ok (.iload_n 1, 1) := by decide +kernel
theorem dX5_measure_46 : decode cX5_measure 46 = .ok (.imul, 1) := by decide +kernel
theorem dX5_measure_47 : decode cX5_measure 47 = .ok (.iconst 1, 1) := by decide +kernel
theorem dX5_measure_48 : decode cX5_measure 48 = .ok (.iadd, 1) := by decide +kernel
theorem dX5_measure_49 : decode cX5_measure 49 = .ok (.iaload, 1) := by decide +kernel
theorem dX5_measure_50 : decode cX5_measure 50 = .ok (.isub, 1) := by decide +kernel
theorem dX5_measure_51 : decode cX5_measure 51 = .ok (.i2l, 1) := by decide +kernel
theorem dX5_measure_52 : decode cX5_measure 52 = .ok (.lstore 6, 2) := by decide +kernel
theorem dX5_measure_54 : decode cX5_measure 54 = .ok (.aload_n 0, 1) := by decide +kernel
theorem dX5_measure_55 : decode cX5_measure 55 = .ok (.getfield 20, 3) := by decide +kernel
theorem dX5_measure_58 : decode cX5_measure 58 = .ok (.bipush 6, 2) := by decide +kernel
theorem dX5_measure_60 : decode cX5_measure 60 = .ok (.iload_n 2, 1) := by decide +kernel
theorem dX5_measure_61 : decode cX5_measure 61 = .ok (.imul, 1) := by decide +kernel
theorem dX5_measure_62 : decode cX5_measure 62 = .ok (.iconst 2, 1) := by decide +kernel
theorem dX5_measure_63 : decode cX5_measure 63 = .ok (.iadd, 1) := by decide +kernel
theorem dX5_measure_64 : decode cX5_measure 64 = .ok (.iaload, 1) := by decide +kernel
theorem dX5_measure_65 : decode cX5_measure 65 = .ok (.aload_n 0, 1) := by decide +kernel
theorem dX5_measure_66 : decode cX5_measure 66 = .ok (.getfield 20, 3) := by decide +kernel
theorem dX5_measure_69 : decode cX5_measure 69 = .ok (.bipush 6, 2) := by decide +kernel
theorem dX5_measure_71 : decode cX5_measure 71 = .ok (.iload_n 1, 1) := by decide +kernel
theorem dX5_measure_72 : decode cX5_measure 72 = .ok (.imul, 1) := by decide +kernel
theorem dX5_measure_73 : decode cX5_measure 73 = .ok (.iconst 2, 1) := by decide +kernel
theorem dX5_measure_74 : decode cX5_measure 74 = .ok (.iadd, 1) := by decide +kernel
theorem dX5_measure_75 : decode cX5_measure 75 = .ok (.iaload, 1) := by decide +kernel
theorem dX5_measure_76 : decode cX5_measure 76 = .ok (.isub, 1) := by decide +kernel
theorem dX5_measure_77 : decode cX5_measure 77 = .ok (.istore 8, 2) := by decide +kernel
theorem dX5_measure_79 : decode cX5_measure 79 = .ok (.iload 8, 2) := by decide +kernel
theorem dX5_measure_81 : decode cX5_measure 81 = .ok (.ifCond .ge 9, 3) := by decide +kernel
theorem dX5_measure_84 : decode cX5_measure 84 = .ok (.iload 8, 2) := by decide +kernel
theorem dX5_measure_86 : decode cX5_measure 86 = .ok (.ineg, 1) := by decide +kernel
theorem dX5_measure_87 : decode cX5_measure 87 = .ok (.goto 5, 3) := by decide +kernel
theorem dX5_measure_90 : decode cX5_measure 90 = .ok (.iload 8, 2) := by decide +kernel
theorem dX5_measure_92 : decode cX5_measure 92 = .ok (.istore 9, 2) := by decide +kernel
theorem dX5_measure_94 : decode cX5_measure 94 = .ok (.lload 4, 2) := by decide +kernel
theorem dX5_measure_96 : decode cX5_measure 96 = .ok (.lload 4, 2) := by decide +kernel
theorem dX5_measure_98 : decode cX5_measure 98 = .ok (.lmul, 1) := by decide +kernel
theorem dX5_measure_99 : decode cX5_measure 99 = .ok (.lload 6, 2) := by decide +kernel
theorem dX5_measure_101 : decode cX5_measure 101 = .ok (.lload 6, 2) := by decide +kernel
theorem dX5_measure_103 : decode cX5_measure 103 = .ok (.lmul, 1) := by decide +kernel
theorem dX5_measure_104 : decode cX5_measure 104 = .ok (.ladd, 1) := by decide +kernel
theorem dX5_measure_105 : decode cX5_measure 105 = .ok (.lstore 10, 2) := by decide +kernel
theorem dX5_measure_107 : decode cX5_measure 107 = .ok (.aload_n 0, 1) := by decide +kernel
theorem dX5_measure_108 : decode cX5_measure 108 = .ok (.getfield 35, 3) := by decide +kernel
theorem dX5_measure_111 : decode cX5_measure 111 = .ok (.iload_n 3, 1) := by decide +kernel
theorem dX5_measure_112 : decode cX5_measure 112 = .ok (.lload 10, 2) := by decide +kernel
theorem dX5_measure_114 : decode cX5_measure 114 = .ok (.aload_n 0, 1) := by decide +kernel
theorem dX5_measure_115 : decode cX5_measure 115 = .ok (.getfield 35, 3) := by decide +kernel
theorem dX5_measure_118 : decode cX5_measure 118 = .ok (.iload_n 3, 1) := by decide +kernel
theorem dX5_measure_119 : decode cX5_measure 119 = .ok (.laload, 1) := by decide +kernel
theorem dX5_measure_120 : decode cX5_measure 120 = .ok (.lcmp, 1) := by decide +kernel
theorem dX5_measure_121 : decode cX5_measure 121 = .ok (.ifCond .ge 8, 3) := by decide +kernel
theorem dX5_measure_124 : decode cX5_measure 124 = .ok (.lload 10, 2) := by decide +kernel
theorem dX5_measure_126 : decode cX5_measure 126 = .ok (.goto 9, 3) := by decide +kernel
theorem dX5_measure_129 : decode cX5_measure 129 = .ok (.aload_n 0, 1) := by decide +kernel
theorem dX5_measure_130 : decode cX5_measure 130 = .ok (.getfield 35, 3) := by decide +kernel
theorem dX5_measure_133 : decode cX5_measure 133 = .ok (.iload_n 3, 1) := by decide +kernel
theorem dX5_measure_134 : decode cX5_measure 134 = .ok (.laload, 1) := by decide +kernel
theorem dX5_measure_135 : decode cX5_measure 135 = .ok (.lastore, 1) := by decide +kernel
theorem dX5_measure_136 : decode cX5_measure 136 = .ok (.aload_n 0, 1) := by decide +kernel
theorem dX5_measure_137 : decode cX5_measure 137 = .ok (.getfield 39, 3) := by decide +kernel
theorem dX5_measure_140 : decode cX5_measure 140 = .ok (.iload_n 3, 1) := by decide +kernel
theorem dX5_measure_141 : decode cX5_measure 141 = .ok (.iload 9, 2) := by decide +kernel
theorem dX5_measure_143 : decode cX5_measure 143 = .ok (.aload_n 0, 1) := by decide +kernel
theorem dX5_measure_144 : decode cX5_measure 144 = .ok (.getfield 39, 3) := by decide +kernel
theorem dX5_measure_147 : decode cX5_measure 147 = .ok (.iload_n 3, 1) := by decide +kernel
theorem dX5_measure_148 : decode cX5_measure 148 = .ok (.iaload, 1) := by decide +kernel
theorem dX5_measure_149 : decode cX5_measure 149 = .ok (.if_icmp .ge 8, 3) := by decide +kernel
theorem dX5_measure_152 : decode cX5_measure 152 = .ok (.iload 9, 2) := by decide +kernel
theorem dX5_measure_154 : decode cX5_measure 154 = .ok (.goto 9, 3) := by decide +kernel
theorem dX5_measure_157 : decode cX5_measure 157 = .ok (.aload_n 0, 1) := by decide +kernel
theorem dX5_measure_158 : decode cX5_measure 158 = .ok (.getfield 39, 3) := by decide +kernel
theorem dX5_measure_161 : decode cX5_measure 161 = .ok (.iload_n 3, 1) := by decide +kernel
theorem dX5_measure_162 : decode cX5_measure 162 = .ok (.iaload, 1) := by decide +kernel
theorem dX5_measure_163 : decode cX5_measure 163 = .ok (.iastore, 1) := by decide +kernel
theorem dX5_measure_164 : decode cX5_measure 164 = .ok (.return_, 1) := by decide +kernel
theorem dX5_place_0 : decode cX5_place 0 = .ok (.aload_n 0, 1) := by decide +kernel
theorem dX5_place_1 : decode cX5_place 1 = .ok (.iload_n 1, 1) := by decide +kernel
theorem dX5_place_2 : decode cX5_place 2 = .ok (.invokestatic 49, 3) := by decide +kernel
theorem dX5_place_5 : decode cX5_place 5 = .ok (.ifCond .eq 32, 3) := by decide +kernel
theorem dX5_place_8 : decode cX5_place 8 = .ok (.iload_n 2, 1) := by decide +kernel
theorem dX5_place_9 : decode cX5_place 9 = .ok (.ldc 57, 2) := by decide +kernel
theorem dX5_place_11 : decode cX5_place 11 = .ok (.invokestatic 58, 3) := by decide +kernel
theorem dX5_place_14 : decode cX5_place 14 = .ok (.ifCond .eq 23, 3) := by decide +kernel
theorem dX5_place_17 : decode cX5_place 17 = .ok (.iload_n 3, 1) := by decide +kernel
theorem dX5_place_18 : decode cX5_place 18 = .ok (.ldc 57, 2) := by decide +kernel
theorem dX5_place_20 : decode cX5_place 20 = .ok (.invokestatic 58, 3) := by decide +kernel
theorem dX5_place_23 : decode cX5_place 23 = .ok (.ifCond .eq 14, 3) := by decide +kernel
theorem dX5_place_26 : decode cX5_place 26 = .ok (.iload 4, 2) := by decide +kernel
theorem dX5_place_28 : decode cX5_place 28 = .ok (.sipush 20000, 3) := by decide +kernel
theorem dX5_place_31 : decode cX5_place 31 = .ok (.invokestatic 58, 3) := by decide +kernel
theorem dX5_place_34 : decode cX5_place 34 = .ok (.ifCond .ne 7, 3) := by decide +kernel
theorem dX5_place_37 : decode cX5_place 37 = .ok (.iconst 1, 1) := by decide +kernel
theorem dX5_place_38 : decode cX5_place 38 = .ok (.goto 4, 3) := by decide +kernel
theorem dX5_place_41 : decode cX5_place 41 = .ok (.iconst 0, 1) := by decide +kernel
theorem dX5_place_42 : decode cX5_place 42 = .ok (.putfield 45, 3) := by decide +kernel
theorem dX5_place_45 : decode cX5_place 45 = .ok (.aload_n 0, 1) := by decide +kernel
theorem dX5_place_46 : decode cX5_place 46 = .ok (.getfield 45, 3) := by decide +kernel
theorem dX5_place_49 : decode cX5_place 49 = .ok (.ifCond .le 4, 3) := by decide +kernel
theorem dX5_place_52 : decode cX5_place 52 = .ok (.return_, 1) := by decide +kernel
theorem dX5_place_53 : decode cX5_place 53 = .ok (.aload_n 0, 1) := by decide +kernel
theorem dX5_place_54 : decode cX5_place 54 = .ok (.getfield 13, 3) := by decide +kernel
theorem dX5_place_57 : decode cX5_place 57 = .ok (.iload_n 1, 1) := by decide +kernel
theorem dX5_place_58 : decode cX5_place 58 = .ok (.baload, 1) := by decide +kernel
theorem dX5_place_59 : decode cX5_place 59 = .ok (.ifCond .ne 53, 3) := by decide +kernel
theorem dX5_place_62 : decode cX5_place 62 = .ok (.aload_n 0, 1) := by decide +kernel
theorem dX5_place_63 : decode cX5_place 63 = .ok (.getfield 13, 3) := by decide +kernel
theorem dX5_place_66 : decode cX5_place 66 = .ok (.iload_n 1, 1) := by decide +kernel
theorem dX5_place_67 : decode cX5_place 67 = .ok (.iconst 1, 1) := by decide +kernel
theorem dX5_place_68 : decode cX5_place 68 = .ok (.bastore, 1) := by decide +kernel
theorem dX5_place_69 : decode cX5_place 69 = .ok (.aload_n 0, 1) := by decide +kernel
theorem dX5_place_70 : decode cX5_place 70 = .ok (.getfield 17, 3) := by decide +kernel
theorem dX5_place_73 : decode cX5_place 73 = .ok (.iload_n 1, 1) := by decide +kernel
theorem dX5_place_74 : decode cX5_place 74 = .ok (.iconst 1, 1) := by decide +kernel
theorem dX5_place_75 : decode cX5_place 75 = .ok (.bastore, 1) := by decide +kernel
theorem dX5_place_76 : decode cX5_place 76 = .ok (.aload_n 0, 1) := by decide +kernel
theorem dX5_place_77 : decode cX5_place 77 = .ok (.getfield 20, 3) := by decide +kernel
theorem dX5_place_80 : decode cX5_place 80 = .ok (.bipush 6, 2) := by decide +kernel
theorem dX5_place_82 : decode cX5_place 82 = .ok (.iload_n 1, 1) := by decide +kernel
theorem dX5_place_83 : decode cX5_place 83 = .ok (.imul, 1) := by decide +kernel
theorem dX5_place_84 : decode cX5_place 84 = .ok (.iconst 3, 1) := by decide +kernel
theorem dX5_place_85 : decode cX5_place 85 = .ok (.iadd, 1) := by decide +kernel
theorem dX5_place_86 : decode cX5_place 86 = .ok (.iconst 0, 1) := by decide +kernel
theorem dX5_place_87 : decode cX5_place 87 = .ok (.iastore, 1) := by decide +kernel
theorem dX5_place_88 : decode cX5_place 88 = .ok (.aload_n 0, 1) := by decide +kernel
theorem dX5_place_89 : decode cX5_place 89 = .ok (.getfield 20, 3) := by decide +kernel
theorem dX5_place_92 : decode cX5_place 92 = .ok (.bipush 6, 2) := by decide +kernel
theorem dX5_place_94 : decode cX5_place 94 = .ok (.iload_n 1, 1) := by decide +kernel
theorem dX5_place_95 : decode cX5_place 95 = .ok (.imul, 1) := by decide +kernel
theorem dX5_place_96 : decode cX5_place 96 = .ok (.iconst 4, 1) := by decide +kernel
theorem dX5_place_97 : decode cX5_place 97 = .ok (.iadd, 1) := by decide +kernel
theorem dX5_place_98 : decode cX5_place 98 = .ok (.iconst 0, 1) := by decide +kernel
theorem dX5_place_99 : decode cX5_place 99 = .ok (.iastore, 1) := by decide +kernel
theorem dX5_place_100 : decode cX5_place 100 = .ok (.aload_n 0, 1) := by decide +kernel
theorem dX5_place_101 : decode cX5_place 101 = .ok (.getfield 20, 3) := by decide +kernel
theorem dX5_place_104 : decode cX5_place 104 = .ok (.bipush 6, 2) := by decide +kernel
theorem dX5_place_106 : decode cX5_place 106 = .ok (.iload_n 1, 1) := by decide +kernel
theorem dX5_place_107 : decode cX5_place 107 = .ok (.imul, 1) := by decide +kernel
theorem dX5_place_108 : decode cX5_place 108 = .ok (.iconst 5, 1) := by decide +kernel
theorem dX5_place_109 : decode cX5_place 109 = .ok (.iadd, 1) := by decide +kernel
theorem dX5_place_110 : decode cX5_place 110 = .ok (.iconst 0, 1) := by decide +kernel
theorem dX5_place_111 : decode cX5_place 111 = .ok (.iastore, 1) := by decide +kernel
theorem dX5_place_112 : decode cX5_place 112 = .ok (.aload_n 0, 1) := by decide +kernel
theorem dX5_place_113 : decode cX5_place 113 = .ok (.getfield 20, 3) := by decide +kernel
theorem dX5_place_116 : decode cX5_place 116 = .ok (.bipush 6, 2) := by decide +kernel
theorem dX5_place_118 : decode cX5_place 118 = .ok (.iload_n 1, 1) := by decide +kernel
theorem dX5_place_119 : decode cX5_place 119 = .ok (.imul, 1) := by decide +kernel
theorem dX5_place_120 : decode cX5_place 120 = .ok (.iload_n 2, 1) := by decide +kernel
theorem dX5_place_121 : decode cX5_place 121 = .ok (.iastore, 1) := by decide +kernel
theorem dX5_place_122 : decode cX5_place 122 = .ok (.aload_n 0, 1) := by decide +kernel
theorem dX5_place_123 : decode cX5_place 123 = .ok (.getfield 20, 3) := by decide +kernel
theorem dX5_place_126 : decode cX5_place 126 = .ok (.bipush 6, 2) := by decide +kernel
theorem dX5_place_128 : decode cX5_place 128 = .ok (.iload_n 1, 1) := by decide +kernel
theorem dX5_place_129 : decode cX5_place 129 = .ok (.imul, 1) := by decide +kernel
theorem dX5_place_130 : decode cX5_place 130 = .ok (.iconst 1, 1) := by decide +kernel
theorem dX5_place_131 : decode cX5_place 131 = .ok (.iadd, 1) := by decide +kernel
theorem dX5_place_132 : decode cX5_place 132 = .ok (.iload_n 3, 1) := by decide +kernel
theorem dX5_place_133 : decode cX5_place 133 = .ok (.iastore, 1) := by decide +kernel
theorem dX5_place_134 : decode cX5_place 134 = .ok (.aload_n 0, 1) := by decide +kernel
theorem dX5_place_135 : decode cX5_place 135 = .ok (.getfield 20, 3) := by decide +kernel
theorem dX5_place_138 : decode cX5_place 138 = .ok (.bipush 6, 2) := by decide +kernel
theorem dX5_place_140 : decode cX5_place 140 = .ok (.iload_n 1, 1) := by decide +kernel
theorem dX5_place_141 : decode cX5_place 141 = .ok (.imul, 1) := by decide +kernel
theorem dX5_place_142 : decode cX5_place 142 = .ok (.iconst 2, 1) := by decide +kernel
theorem dX5_place_143 : decode cX5_place 143 = .ok (.iadd, 1) := by decide +kernel
theorem dX5_place_144 : decode cX5_place 144 = .ok (.iload 4, 2) := by decide +kernel
theorem dX5_place_146 : decode cX5_place 146 = .ok (.iastore, 1) := by decide +kernel
theorem dX5_place_147 : decode cX5_place 147 = .ok (.aload_n 0, 1) := by decide +kernel
theorem dX5_place_148 : decode cX5_place 148 = .ok (.iload_n 1, 1) := by decide +kernel
theorem dX5_place_149 : decode cX5_place 149 = .ok (.invokevirtual 62, 3) := by decide +kernel
theorem dX5_place_152 : decode cX5_place 152 = .ok (.iconst 0, 1) := by decide +kernel
theorem dX5_place_153 : decode cX5_place 153 = .ok (.istore 5, 2) := by decide +kernel
theorem dX5_place_155 : decode cX5_place 155 = .ok (.iload 5, 2) := by decide +kernel
theorem dX5_place_157 : decode cX5_place 157 = .ok (.bipush 6, 2) := by decide +kernel
theorem dX5_place_159 : decode cX5_place 159 = .ok (.if_icmp .ge 59, 3) := by decide +kernel
theorem dX5_place_162 : decode cX5_place 162 = .ok (.iload 5, 2) := by decide +kernel
theorem dX5_place_164 : decode cX5_place 164 = .ok (.iload_n 1, 1) := by decide +kernel
theorem dX5_place_165 : decode cX5_place 165 = .ok (.if_icmp .eq 47, 3) := by decide +kernel
theorem dX5_place_168 : decode cX5_place 168 = .ok (.aload_n 0, 1) := by decide +kernel
theorem dX5_place_169 : decode cX5_place 169 = .ok (.getfield 13, 3) := by decide +kernel
theorem dX5_place_172 : decode cX5_place 172 = .ok (.iload 5, 2) := by decide +kernel
theorem dX5_place_174 : decode cX5_place 174 = .ok (.baload, 1) := by decide +kernel
theorem dX5_place_175 : decode cX5_place 175 = .ok (.ifCond .eq 37, 3) := by decide +kernel
theorem dX5_place_178 : decode cX5_place 178 = .ok (.aload_n 0, 1) := by decide +kernel
theorem dX5_place_179 : decode cX5_place 179 = .ok (.getfield 35, 3) := by decide +kernel
theorem dX5_place_182 : decode cX5_place 182 = .ok (.iload_n 1, 1) := by decide +kernel
theorem dX5_place_183 : decode cX5_place 183 = .ok (.iload 5, 2) := by decide +kernel
theorem dX5_place_185 : decode cX5_place 185 = .ok (.invokestatic 53, 3) := by decide +kernel
theorem dX5_place_188 : decode cX5_place 188 = .ok (.ldc2_w 66, 3) := by decide +kernel
theorem dX5_place_191 : decode cX5_place 191 = .ok (.lastore, 1) := by decide +kernel
theorem dX5_place_192 : decode cX5_place 192 = .ok (.aload_n 0, 1) := by decide +kernel
theorem dX5_place_193 : decode cX5_place 193 = .ok (.getfield 39, 3) := by decide +kernel
theorem dX5_place_196 : decode cX5_place 196 = .ok (.iload_n 1, 1) := by decide +kernel
theorem dX5_place_197 : decode cX5_place 197 = .ok (.iload 5, 2) := by decide +kernel
theorem dX5_place_199 : decode cX5_place 199 = .ok (.invokestatic 53, 3) := by decide +kernel
