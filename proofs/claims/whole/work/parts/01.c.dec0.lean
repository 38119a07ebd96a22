theorem dX0_init_0 : decode cX0_init 0 = .ok (.aload_n 0, 1) := by decide +kernel
theorem dX0_init_1 : decode cX0_init 1 = .ok (.invokespecial 1, 3) := by decide +kernel
theorem dX0_init_4 : decode cX0_init 4 = .ok (.return_, 1) := by decide +kernel
theorem dX0_isPlace_0 : decode cX0_isPlace 0 = .ok (.iload_n 0, 1) := by decide +kernel
theorem dX0_isPlace_1 : decode cX0_isPlace 1 = .ok (.ldc 9, 2) := by decide +kernel
theorem dX0_isPlace_3 : decode cX0_isPlace 3 = .ok (.invokestatic 10, 3) := by decide +kernel
theorem dX0_isPlace_6 : decode cX0_isPlace 6 = .ok (.ifCond .eq 26, 3) := by decide +kernel
theorem dX0_isPlace_9 : decode cX0_isPlace 9 = .ok (.iload_n 1, 1) := by decide +kernel
theorem dX0_isPlace_10 : decode cX0_isPlace 10 = .ok (.ldc 9, 2) := by decide +kernel
theorem dX0_isPlace_12 : decode cX0_isPlace 12 = .ok (.invokestatic 10, 3) := by decide +kernel
theorem dX0_isPlace_15 : decode cX0_isPlace 15 = .ok (.ifCond .eq 17, 3) := by decide +kernel
theorem dX0_isPlace_18 : decode cX0_isPlace 18 = .ok (.iload_n 2, 1) := by decide +kernel
theorem dX0_isPlace_19 : decode cX0_isPlace 19 = .ok (.sipush 20000, 3) := by decide +kernel
theorem dX0_isPlace_22 : decode cX0_isPlace 22 = .ok (.invokestatic 10, 3) := by decide +kernel
theorem dX0_isPlace_25 : decode cX0_isPlace 25 = .ok (.ifCond .eq 7, 3) := by decide +kernel
theorem dX0_isPlace_28 : decode cX0_isPlace 28 = .ok (.iconst 1, 1) := by decide +kernel
theorem dX0_isPlace_29 : decode cX0_isPlace 29 = .ok (.goto 4, 3) := by decide +kernel
theorem dX0_isPlace_32 : decode cX0_isPlace 32 = .ok (.iconst 0, 1) := by decide +kernel
theorem dX0_isPlace_33 : decode cX0_isPlace 33 = .ok (.ireturn, 1) := by decide +kernel
theorem dX0_isSpeed_0 : decode cX0_isSpeed 0 = .ok (.iload_n 0, 1) := by decide +kernel
theorem dX0_isSpeed_1 : decode cX0_isSpeed 1 = .ok (.sipush 500, 3) := by decide +kernel
theorem dX0_isSpeed_4 : decode cX0_isSpeed 4 = .ok (.invokestatic 10, 3) := by decide +kernel
theorem dX0_isSpeed_7 : decode cX0_isSpeed 7 = .ok (.ifCond .eq 26, 3) := by decide +kernel
theorem dX0_isSpeed_10 : decode cX0_isSpeed 10 = .ok (.iload_n 1, 1) := by decide +kernel
theorem dX0_isSpeed_11 : decode cX0_isSpeed 11 = .ok (.sipush 500, 3) := by decide +kernel
theorem dX0_isSpeed_14 : decode cX0_isSpeed 14 = .ok (.invokestatic 10, 3) := by decide +kernel
theorem dX0_isSpeed_17 : decode cX0_isSpeed 17 = .ok (.ifCond .eq 16, 3) := by decide +kernel
theorem dX0_isSpeed_20 : decode cX0_isSpeed 20 = .ok (.iload_n 2, 1) := by decide +kernel
theorem dX0_isSpeed_21 : decode cX0_isSpeed 21 = .ok (.bipush 60, 2) := by decide +kernel
theorem dX0_isSpeed_23 : decode cX0_isSpeed 23 = .ok (.invokestatic 10, 3) := by decide +kernel
theorem dX0_isSpeed_26 : decode cX0_isSpeed 26 = .ok (.ifCond .eq 7, 3) := by decide +kernel
theorem dX0_isSpeed_29 : decode cX0_isSpeed 29 = .ok (.iconst 1, 1) := by decide +kernel
theorem dX0_isSpeed_30 : decode cX0_isSpeed 30 = .ok (.goto 4, 3) := by decide +kernel
theorem dX0_isSpeed_33 : decode cX0_isSpeed 33 = .ok (.iconst 0, 1) := by decide +kernel
theorem dX0_isSpeed_34 : decode cX0_isSpeed 34 = .ok (.ireturn, 1) := by decide +kernel
theorem dX0_isWithin_0 : decode cX0_isWithin 0 = .ok (.iload_n 0, 1) := by decide +kernel
theorem dX0_isWithin_1 : decode cX0_isWithin 1 = .ok (.iload_n 1, 1) := by decide +kernel
theorem dX0_isWithin_2 : decode cX0_isWithin 2 = .ok (.ineg, 1) := by decide +kernel
theorem dX0_isWithin_3 : decode cX0_isWithin 3 = .ok (.if_icmp .lt 12, 3) := by decide +kernel
theorem dX0_isWithin_6 : decode cX0_isWithin 6 = .ok (.iload_n 0, 1) := by decide +kernel
theorem dX0_isWithin_7 : decode cX0_isWithin 7 = .ok (.iload_n 1, 1) := by decide +kernel
theorem dX0_isWithin_8 : decode cX0_isWithin 8 = .ok (.if_icmp .gt 7, 3) := by decide +kernel
theorem dX0_isWithin_11 : decode cX0_isWithin 11 = .ok (.iconst 1, 1) := by decide +kernel
theorem dX0_isWithin_12 : decode cX0_isWithin 12 = .ok (.goto 4, 3) := by decide +kernel
theorem dX0_isWithin_15 : decode cX0_isWithin 15 = .ok (.iconst 0, 1) := by decide +kernel
theorem dX0_isWithin_16 : decode cX0_isWithin 16 = .ok (.ireturn, 1) := by decide +kernel
theorem dX0_stopAt_0 : decode cX0_stopAt 0 = .ok (.iload_n 1, 1) := by decide +kernel
theorem dX0_stopAt_1 : decode cX0_stopAt 1 = .ok (.ineg, 1) := by decide +kernel
theorem dX0_stopAt_2 : decode cX0_stopAt 2 = .ok (.iload_n 1, 1) := by decide +kernel
theorem dX0_stopAt_3 : decode cX0_stopAt 3 = .ok (.iload_n 0, 1) := by decide +kernel
theorem dX0_stopAt_4 : decode cX0_stopAt 4 = .ok (.invokestatic 14, 3) := by decide +kernel
theorem dX0_stopAt_7 : decode cX0_stopAt 7 = .ok (.invokestatic 20, 3) := by decide +kernel
theorem dX0_stopAt_10 : decode cX0_stopAt 10 = .ok (.ireturn, 1) := by decide +kernel
theorem dX0_putAt_0 : decode cX0_putAt 0 = .ok (.aload_n 0, 1) := by decide +kernel
theorem dX0_putAt_1 : decode cX0_putAt 1 = .ok (.getfield 23, 3) := by decide +kernel
theorem dX0_putAt_4 : decode cX0_putAt 4 = .ok (.ifCond .ne 20, 3) := by decide +kernel
theorem dX0_putAt_7 : decode cX0_putAt 7 = .ok (.aload_n 0, 1) := by decide +kernel
theorem dX0_putAt_8 : decode cX0_putAt 8 = .ok (.iconst 1, 1) := by decide +kernel
theorem dX0_putAt_9 : decode cX0_putAt 9 = .ok (.putfield 23, 3) := by decide +kernel
theorem dX0_putAt_12 : decode cX0_putAt 12 = .ok (.aload_n 0, 1) := by decide +kernel
theorem dX0_putAt_13 : decode cX0_putAt 13 = .ok (.iconst 1, 1) := by decide +kernel
theorem dX0_putAt_14 : decode cX0_putAt 14 = .ok (.putfield 27, 3) := by decide +kernel
theorem dX0_putAt_17 : decode cX0_putAt 17 = .ok (.aload_n 0, 1) := by decide +kernel
theorem dX0_putAt_18 : decode cX0_putAt 18 = .ok (.iconst 0, 1) := by decide +kernel
theorem dX0_putAt_19 : decode cX0_putAt 19 = .ok (.iconst 0, 1) := by decide +kernel
theorem dX0_putAt_20 : decode cX0_putAt 20 = .ok (.iconst 0, 1) := by decide +kernel
theorem dX0_putAt_21 : decode cX0_putAt 21 = .ok (.invokevirtual 30, 3) := by decide +kernel
theorem dX0_putAt_24 : decode cX0_putAt 24 = .ok (.aload_n 0, 1) := by decide +kernel
theorem dX0_putAt_25 : decode cX0_putAt 25 = .ok (.iload_n 1, 1) := by decide +kernel
theorem dX0_putAt_26 : decode cX0_putAt 26 = .ok (.putfield 34, 3) := by decide +kernel
theorem dX0_putAt_29 : decode cX0_putAt 29 = .ok (.aload_n 0, 1) := by decide +kernel
theorem dX0_putAt_30 : decode cX0_putAt 30 = .ok (.iload_n 2, 1) := by decide +kernel
theorem dX0_putAt_31 : decode cX0_putAt 31 = .ok (.putfield 38, 3) := by decide +kernel
theorem dX0_putAt_34 : decode cX0_putAt 34 = .ok (.aload_n 0, 1) := by decide +kernel
theorem dX0_putAt_35 : decode cX0_putAt 35 = .ok (.iload_n 3, 1) := by decide +kernel
theorem dX0_putAt_36 : decode cX0_putAt 36 = .ok (.putfield 41, 3) := by decide +kernel
theorem dX0_putAt_39 : decode cX0_putAt 39 = .ok (.return_, 1) := by decide +kernel
theorem dX0_flyWith_0 : decode cX0_flyWith 0 = .ok (.aload_n 0, 1) := by decide +kernel
theorem dX0_flyWith_1 : decode cX0_flyWith 1 = .ok (.iload_n 1, 1) := by decide +kernel
theorem dX0_flyWith_2 : decode cX0_flyWith 2 = .ok (.putfield 44, 3) := by decide +kernel
theorem dX0_flyWith_5 : decode cX0_flyWith 5 = .ok (.aload_n 0, 1) := by decide +kernel
theorem dX0_flyWith_6 : decode cX0_flyWith 6 = .ok (.iload_n 2, 1) := by decide +kernel
theorem dX0_flyWith_7 : decode cX0_flyWith 7 = .ok (.putfield 47, 3) := by decide +kernel
theorem dX0_flyWith_10 : decode cX0_flyWith 10 = .ok (.aload_n 0, 1) := by decide +kernel
theorem dX0_flyWith_11 : decode cX0_flyWith 11 = .ok (.iload_n 3, 1) := by decide +kernel
theorem dX0_flyWith_12 : decode cX0_flyWith 12 = .ok (.putfield 50, 3) := by decide +kernel
theorem dX0_flyWith_15 : decode cX0_flyWith 15 = .ok (.return_, 1) := by decide +kernel
theorem dX0_move_0 : decode cX0_move 0 = .ok (.aload_n 0, 1) := by decide +kernel
theorem dX0_move_1 : decode cX0_move 1 = .ok (.aload_n 0, 1) := by decide +kernel
theorem dX0_move_2 : decode cX0_move 2 = .ok (.getfield 34, 3) := by decide +kernel
theorem dX0_move_5 : decode cX0_move 5 = .ok (.aload_n 0, 1) := by decide +kernel
theorem dX0_move_6 : decode cX0_move 6 = .ok (.getfield 44, 3) := by decide +kernel
theorem dX0_move_9 : decode cX0_move 9 = .ok (.iadd, 1) := by decide +kernel
theorem dX0_move_10 : decode cX0_move 10 = .ok (.ldc 9, 2) := by decide +kernel
theorem dX0_move_12 : decode cX0_move 12 = .ok (.invokestatic 53, 3) := by decide +kernel
theorem dX0_move_15 : decode cX0_move 15 = .ok (.putfield 34, 3) := by decide +kernel
theorem dX0_move_18 : decode cX0_move 18 = .ok (.aload_n 0, 1) := by decide +kernel
theorem dX0_move_19 : decode cX0_move 19 = .ok (.aload_n 0, 1) := by decide +kernel
theorem dX0_move_20 : decode cX0_move 20 = .ok (.getfield 38, 3) := by decide +kernel
theorem dX0_move_23 : decode cX0_move 23 = .ok (.aload_n 0, 1) := by decide +kernel
theorem dX0_move_24 : decode cX0_move 24 = .ok (.getfield 47, 3) := by decide +kernel
theorem dX0_move_27 : decode cX0_move 27 = .ok (.iadd, 1) := by decide +kernel
theorem dX0_move_28 : decode cX0_move 28 = .ok (.ldc 9, 2) := by decide +kernel
theorem dX0_move_30 : decode cX0_move 30 = .ok (.invokestatic 53, 3) := by decide +kernel
theorem dX0_move_33 : decode cX0_move 33 = .ok (.putfield 38, 3) := by decide +kernel
theorem dX0_move_36 : decode cX0_move 36 = .ok (.aload_n 0, 1) := by decide +kernel
theorem dX0_move_37 : decode cX0_move 37 = .ok (.aload_n 0, 1) := by decide +kernel
theorem dX0_move_38 : decode cX0_move 38 = .ok (.getfield 41, 3) := by decide +kernel
theorem dX0_move_41 : decode cX0_move 41 = .ok (.aload_n 0, 1) := by decide +kernel
theorem dX0_move_42 : decode cX0_move 42 = .ok (.getfield 50, 3) := by decide +kernel
theorem dX0_move_45 : decode cX0_move 45 = .ok (.iadd, 1) := by decide +kernel
theorem dX0_move_46 : decode cX0_move 46 = .ok (.sipush 20000, 3) := by decide +kernel
theorem dX0_move_49 : decode cX0_move 49 = .ok (.invokestatic 53, 3) := by decide +kernel
theorem dX0_move_52 : decode cX0_move 52 = .ok (.putfield 41, 3) := by decide +kernel
theorem dX0_move_55 : decode cX0_move 55 = .ok (.return_, 1) := by decide +kernel
theorem dX0_pull_0 : decode cX0_pull 0 = .ok (.iload_n 1, 1) := by decide +kernel
theorem dX0_pull_1 : decode cX0_pull 1 = .ok (.ifCond .le 15, 3) := by decide +kernel
theorem dX0_pull_4 : decode cX0_pull 4 = .ok (.iload_n 2, 1) := by decide +kernel
theorem dX0_pull_5 : decode cX0_pull 5 = .ok (.ifCond .le 11, 3) := by decide +kernel
theorem dX0_pull_8 : decode cX0_pull 8 = .ok (.aload_n 0, 1) := by decide +kernel
theorem dX0_pull_9 : decode cX0_pull 9 = .ok (.iload_n 3, 1) := by decide +kernel
theorem dX0_pull_10 : decode cX0_pull 10 = .ok (.invokevirtual 56, 3) := by decide +kernel
theorem dX0_pull_13 : decode cX0_pull 13 = .ok (.goto 62, 3) := by decide +kernel
theorem dX0_pull_16 : decode cX0_pull 16 = .ok (.iload_n 1, 1) := by decide +kernel
theorem dX0_pull_17 : decode cX0_pull 17 = .ok (.ifCond .le 30, 3) := by decide +kernel
theorem dX0_pull_20 : decode cX0_pull 20 = .ok (.aload_n 0, 1) := by decide +kernel
theorem dX0_pull_21 : decode cX0_pull 21 = .ok (.aload_n 0, 1) := by decide +kernel
theorem dX0_pull_22 : decode cX0_pull 22 = .ok (.getfield 50, 3) := by decide +kernel
theorem dX0_pull_25 : decode cX0_pull 25 = .ok (.aload_n 0, 1) := by decide +kernel
theorem dX0_pull_26 : decode cX0_pull 26 = .ok (.getfield 50, 3) := by decide +kernel
theorem dX0_pull_29 : decode cX0_pull 29 = .ok (.iload_n 3, 1) := by decide +kernel
theorem dX0_pull_30 : decode cX0_pull 30 = .ok (.iadd, 1) := by decide +kernel
theorem dX0_pull_31 : decode cX0_pull 31 = .ok (.bipush 12, 2) := by decide +kernel
theorem dX0_pull_33 : decode cX0_pull 33 = .ok (.iload_n 1, 1) := by decide +kernel
theorem dX0_pull_34 : decode cX0_pull 34 = .ok (.imul, 1) := by decide +kernel
theorem dX0_pull_35 : decode cX0_pull 35 = .ok (.invokestatic 14, 3) := by decide +kernel
theorem dX0_pull_38 : decode cX0_pull 38 = .ok (.invokestatic 20, 3) := by decide +kernel
theorem dX0_pull_41 : decode cX0_pull 41 = .ok (.putfield 50, 3) := by decide +kernel
theorem dX0_pull_44 : decode cX0_pull 44 = .ok (.goto 31, 3) := by decide +kernel
theorem dX0_pull_47 : decode cX0_pull 47 = .ok (.iload_n 2, 1) := by decide +kernel
theorem dX0_pull_48 : decode cX0_pull 48 = .ok (.ifCond .le 27, 3) := by decide +kernel
theorem dX0_pull_51 : decode cX0_pull 51 = .ok (.aload_n 0, 1) := by decide +kernel
theorem dX0_pull_52 : decode cX0_pull 52 = .ok (.aload_n 0, 1) := by decide +kernel
theorem dX0_pull_53 : decode cX0_pull 53 = .ok (.getfield 50, 3) := by decide +kernel
theorem dX0_pull_56 : decode cX0_pull 56 = .ok (.aload_n 0, 1) := by decide +kernel
theorem dX0_pull_57 : decode cX0_pull 57 = .ok (.getfield 50, 3) := by decide +kernel
theorem dX0_pull_60 : decode cX0_pull 60 = .ok (.iload_n 3, 1) := by decide +kernel
theorem dX0_pull_61 : decode cX0_pull 61 = .ok (.isub, 1) := by decide +kernel
theorem dX0_pull_62 : decode cX0_pull 62 = .ok (.bipush (-12), 2) := by decide +kernel
theorem dX0_pull_64 : decode cX0_pull 64 = .ok (.iload_n 2, 1) := by decide +kernel
theorem dX0_pull_65 : decode cX0_pull 65 = .ok (.imul, 1) := by decide +kernel
theorem dX0_pull_66 : decode cX0_pull 66 = .ok (.invokestatic 20, 3) := by decide +kernel
theorem dX0_pull_69 : decode cX0_pull 69 = .ok (.invokestatic 14, 3) := by decide +kernel
theorem dX0_pull_72 : decode cX0_pull 72 = .ok (.putfield 50, 3) := by decide +kernel
theorem dX0_pull_75 : decode cX0_pull 75 = .ok (.return_, 1) := by decide +kernel
theorem dX0_levelOff_0 : decode cX0_levelOff 0 = .ok (.aload_n 0, 1) := by decide +kernel
theorem dX0_levelOff_1 : decode cX0_levelOff 1 = .ok (.getfield 50, 3) := by decide +kernel
theorem dX0_levelOff_4 : decode cX0_levelOff 4 = .ok (.ifCond .le 20, 3) := by decide +kernel
theorem dX0_levelOff_7 : decode cX0_levelOff 7 = .ok (.aload_n 0, 1) := by decide +kernel
theorem dX0_levelOff_8 : decode cX0_levelOff 8 = .ok (.iconst 0, 1) := by decide +kernel
theorem dX0_levelOff_9 : decode cX0_levelOff 9 = .ok (.aload_n 0, 1) := by decide +kernel
theorem dX0_levelOff_10 : decode cX0_levelOff 10 = .ok (.getfield 50, 3) := by decide +kernel
theorem dX0_levelOff_13 : decode cX0_levelOff 13 = .ok (.iload_n 1, 1) := by decide +kernel
theorem dX0_levelOff_14 : decode cX0_levelOff 14 = .ok (.isub, 1) := by decide +kernel
theorem dX0_levelOff_15 : decode cX0_levelOff 15 = .ok (.invokestatic 20, 3) := by decide +kernel
theorem dX0_levelOff_18 : decode cX0_levelOff 18 = .ok (.putfield 50, 3) := by decide +kernel
theorem dX0_levelOff_21 : decode cX0_levelOff 21 = .ok (.goto 17, 3) := by decide +kernel
theorem dX0_levelOff_24 : decode cX0_levelOff 24 = .ok (.aload_n 0, 1) := by decide +kernel
theorem dX0_levelOff_25 : decode cX0_levelOff 25 = .ok (.iconst 0, 1) := by decide +kernel
theorem dX0_levelOff_26 : decode cX0_levelOff 26 = .ok (.aload_n 0, 1) := by decide +kernel
theorem dX0_levelOff_27 : decode cX0_levelOff 27 = .ok (.getfield 50, 3) := by decide +kernel
theorem dX0_levelOff_30 : decode cX0_levelOff 30 = .ok (.iload_n 1, 1) := by decide +kernel
theorem dX0_levelOff_31 : decode cX0_levelOff 31 = .ok (.iadd, 1) := by decide +kernel
theorem dX0_levelOff_32 : decode cX0_levelOff 32 = .ok (.invokestatic 14, 3) := by decide +kernel
theorem dX0_levelOff_35 : decode cX0_levelOff 35 = .ok (.putfield 50, 3) := by decide +kernel
theorem dX0_levelOff_38 : decode cX0_levelOff 38 = .ok (.return_, 1) := by decide +kernel
theorem dX0_heightGoingUp_0 : decode cX0_heightGoingUp 0 = .ok (.bipush 12, 2) := by decide +kernel
theorem dX0_heightGoingUp_2 : decode cX0_heightGoingUp 2 = .ok (.iload_n 1, 1) := by decide +kernel
theorem dX0_heightGoingUp_3 : decode cX0_heightGoingUp 3 = .ok (.imul, 1) := by decide +kernel
theorem dX0_heightGoingUp_4 : decode cX0_heightGoingUp 4 = .ok (.istore 4, 2) := by decide +kernel
theorem dX0_heightGoingUp_6 : decode cX0_heightGoingUp 6 = .ok (.aload_n 0, 1) := by decide +kernel
theorem dX0_heightGoingUp_7 : decode cX0_heightGoingUp 7 = .ok (.getfield 41, 3) := by decide +kernel
theorem dX0_heightGoingUp_10 : decode cX0_heightGoingUp 10 = .ok (.aload_n 0, 1) := by decide +kernel
theorem dX0_heightGoingUp_11 : decode cX0_heightGoingUp 11 = .ok (.getfield 50, 3) := by decide +kernel
theorem dX0_heightGoingUp_14 : decode cX0_heightGoingUp 14 = .ok (.iload_n 2, 1) := by decide +kernel
theorem dX0_heightGoingUp_15 : decode cX0_heightGoingUp 15 = .ok (.imul, 1) := by decide +kernel
theorem dX0_heightGoingUp_16 : decode cX0_heightGoingUp 16 = .ok (.iadd, 1) := by decide +kernel
theorem dX0_heightGoingUp_17 : decode cX0_heightGoingUp 17 = .ok (.aload_n 0, 1) := by decide +kernel
theorem dX0_heightGoingUp_18 : decode cX0_heightGoingUp 18 = .ok (.getfield 50, 3) := by decide +kernel
theorem dX0_heightGoingUp_21 : decode cX0_heightGoingUp 21 = .ok (.iload 4, 2) := by decide +kernel
theorem dX0_heightGoingUp_23 : decode cX0_heightGoingUp 23 = .ok (.if_icmp .le 10, 3) := by decide +kernel
theorem dX0_heightGoingUp_26 : decode cX0_heightGoingUp 26 = .ok (.aload_n 0, 1) := by decide +kernel
theorem dX0_heightGoingUp_27 : decode cX0_heightGoingUp 27 = .ok (.getfield 50, 3) := by decide +kernel
theorem dX0_heightGoingUp_30 : decode cX0_heightGoingUp 30 = .ok (.goto 5, 3) := by decide +kernel
theorem dX0_heightGoingUp_33 : decode cX0_heightGoingUp 33 = .ok (.iload 4, 2) := by decide +kernel
theorem dX0_heightGoingUp_35 : decode cX0_heightGoingUp 35 = .ok (.iload_n 3, 1) := by decide +kernel
theorem dX0_heightGoingUp_36 : decode cX0_heightGoingUp 36 = .ok (.imul, 1) := by decide +kernel
theorem dX0_heightGoingUp_37 : decode cX0_heightGoingUp 37 = .ok (.iadd, 1) := by decide +kernel
theorem dX0_heightGoingUp_38 : decode cX0_heightGoingUp 38 = .ok (.ireturn, 1) := by decide +kernel
theorem dX0_heightGoingDown_0 : decode cX0_heightGoingDown 0 = .ok (.bipush (-12), 2) := by decide +kernel
theorem dX0_heightGoingDown_2 : decode cX0_heightGoingDown 2 = .ok (.iload_n 1, 1) := by decide +kernel
theorem dX0_heightGoingDown_3 : decode cX0_heightGoingDown 3 = .ok (.imul, 1) := by decide +kernel
theorem dX0_heightGoingDown_4 : decode cX0_heightGoingDown 4 = .ok (.istore 4, 2) := by decide +kernel
theorem dX0_heightGoingDown_6 : decode cX0_heightGoingDown 6 = .ok (.aload_n 0, 1) := by decide +kernel
theorem dX0_heightGoingDown_7 : decode cX0_heightGoingDown 7 = .ok (.getfield 41, 3) := by decide +kernel
theorem dX0_heightGoingDown_10 : decode cX0_heightGoingDown 10 = .ok (.aload_n 0, 1) := by decide +kernel
theorem dX0_heightGoingDown_11 : decode cX0_heightGoingDown 11 = .ok (.getfield 50, 3) := by decide +kernel
theorem dX0_heightGoingDown_14 : decode cX0_heightGoingDown 14 = .ok (.iload_n 2, 1) := by decide +kernel
theorem dX0_heightGoingDown_15 : decode cX0_heightGoingDown 15 = .ok (.imul, 1) := by decide +kernel
theorem dX0_heightGoingDown_16 : decode cX0_heightGoingDown 16 = .ok (.iadd, 1) := by decide +kernel
theorem dX0_heightGoingDown_17 : decode cX0_heightGoingDown 17 = .ok (.aload_n 0, 1) := by decide +kernel
theorem dX0_heightGoingDown_18 : decode cX0_heightGoingDown 18 = .ok (.getfield 50, 3) := by decide +kernel
theorem dX0_heightGoingDown_21 : decode cX0_heightGoingDown 21 = .ok (.iload 4, 2) := by decide +kernel
theorem dX0_heightGoingDown_23 : decode cX0_heightGoingDown 23 = .ok (.if_icmp .ge 10, 3) := by decide +kernel
theorem dX0_heightGoingDown_26 : decode cX0_heightGoingDown 26 = .ok (.aload_n 0, 1) := by decide +kernel
theorem dX0_heightGoingDown_27 : decode cX0_heightGoingDown 27 = .ok (.getfield 50, 3) := by decide +kernel
theorem dX0_heightGoingDown_30 : decode cX0_heightGoingDown 30 = .ok (.goto 5, 3) := by decide +kernel
theorem dX0_heightGoingDown_33 : decode cX0_heightGoingDown 33 = .ok (.iload 4, 2) := by decide +kernel
theorem dX0_heightGoingDown_35 : decode cX0_heightGoingDown 35 = .ok (.iload_n 3, 1) := by decide +kernel
theorem dX0_heightGoingDown_36 : decode cX0_heightGoingDown 36 = .ok (.imul, 1) := by decide +kernel
theorem dX0_heightGoingDown_37 : decode cX0_heightGoingDown 37 = .ok (.iadd, 1) := by decide +kernel
theorem dX0_heightGoingDown_38 : decode cX0_heightGoingDown 38 = .ok (.ireturn, 1) := by decide +kernel
theorem dX0_answer_0 : decode cX0_answer 0 = .ok (.iload_n 1, 1) := by decide +kernel
theorem dX0_answer_1 : decode cX0_answer 1 = .ok (.tableswitch 69 0 5 #[39, 44, 49, 54, 59, 64], 39) := by decide +kernel
theorem dX0_answer_40 : decode cX0_answer 40 = .ok (.aload_n 0, 1) := by decide +kernel
theorem dX0_answer_41 : decode cX0_answer 41 = .ok (.getfield 34, 3) := by decide +kernel
theorem dX0_answer_44 : decode cX0_answer 44 = .ok (.ireturn, 1) := by decide +kernel
theorem dX0_answer_45 : decode cX0_answer 45 = .ok (.aload_n 0, 1) := by decide +kernel
theorem dX0_answer_46 : decode cX0_answer 46 = .ok (.getfield 38, 3) := by decide +kernel
theorem dX0_answer_49 : decode cX0_answer 49 = .ok (.ireturn, 1) := by decide +kernel
theorem dX0_answer_50 : decode cX0_answer 50 = .ok (.aload_n 0, 1) := by decide +kernel
theorem dX0_answer_51 : decode cX0_answer 51 = .ok (.getfield 41, 3) := by decide +kernel
theorem dX0_answer_54 : decode cX0_answer 54 = .ok (.ireturn, 1) := by decide +kernel
theorem dX0_answer_55 : decode cX0_answer 55 = .ok (.aload_n 0, 1) := by decide +kernel
theorem dX0_answer_56 : decode cX0_answer 56 = .ok (.getfield 44, 3) := by decide +kernel
theorem dX0_answer_59 : decode cX0_answer 59 = .ok (.ireturn, 1) := by decide +kernel
theorem dX0_answer_60 : decode cX0_answer 60 = .ok (.aload_n 0, 1) := by decide +kernel
theorem dX0_answer_61 : decode cX0_answer 61 = .ok (.getfield 47, 3) := by decide +kernel
theorem dX0_answer_64 : decode cX0_answer 64 = .ok (.ireturn, 1) := by decide +kernel
theorem dX0_answer_65 : decode cX0_answer 65 = .ok (.aload_n 0, 1) := by decide +kernel
theorem dX0_answer_66 : decode cX0_answer 66 = .ok (.getfield 50, 3) := by decide +kernel
theorem dX0_answer_69 : decode cX0_answer 69 = .ok (.ireturn, 1) := by decide +kernel
theorem dX0_answer_70 : decode cX0_answer 70 = .ok (.aload_n 0, 1) := by decide +kernel
theorem dX0_answer_71 : decode cX0_answer 71 = .ok (.getfield 27, 3) := by decide +kernel
theorem dX0_answer_74 : decode cX0_answer 74 = .ok (.ifCond .eq 7, 3) := by decide +kernel
theorem dX0_answer_77 : decode cX0_answer 77 = .ok (.iconst 1, 1) := by decide +kernel
theorem dX0_answer_78 : decode cX0_answer 78 = .ok (.goto 4, 3) := by decide +kernel
theorem dX0_answer_81 : decode cX0_answer 81 = .ok (.iconst 0, 1) := by decide +kernel
theorem dX0_answer_82 : decode cX0_answer 82 = .ok (.ireturn, 1) := by decide +kernel
theorem dX1_init_0 : decode cX1_init 0 = .ok (.aload_n 0, 1) := by decide +kernel
theorem dX1_init_1 : decode cX1_init 1 = .ok (.invokespecial 1, 3) := by decide +kernel
theorem dX1_init_4 : decode cX1_init 4 = .ok (.aload_n 0, 1) := by decide +kernel
theorem dX1_init_5 : decode cX1_init 5 = .ok (.aload_n 1, 1) := by decide +kernel
theorem dX1_init_6 : decode cX1_init 6 = .ok (.putfield 7, 3) := by decide +kernel
theorem dX1_init_9 : decode cX1_init 9 = .ok (.aload_n 0, 1) := by decide +kernel
theorem dX1_init_10 : decode cX1_init 10 = .ok (.aload_n 2, 1) := by decide +kernel
theorem dX1_init_11 : decode cX1_init 11 = .ok (.putfield 13, 3) := by decide +kernel
theorem dX1_init_14 : decode cX1_init 14 = .ok (.aload_n 0, 1) := by decide +kernel
theorem dX1_init_15 : decode cX1_init 15 = .ok (.aload_n 3, 1) := by decide +kernel
theorem dX1_init_16 : decode cX1_init 16 = .ok (.putfield 16, 3) := by decide +kernel
theorem dX1_init_19 : decode cX1_init 19 = .ok (.aload_n 0, 1) := by decide +kernel
theorem dX1_init_20 : decode cX1_init 20 = .ok (.aload 4, 2) := by decide +kernel
theorem dX1_init_22 : decode cX1_init 22 = .ok (.putfield 20, 3) := by decide +kernel
theorem dX1_init_25 : decode cX1_init 25 = .ok (.return_, 1) := by decide +kernel
theorem dX1_isThere_0 : decode cX1_isThere 0 = .ok (.aload_n 0, 1) := by decide +kernel
theorem dX1_isThere_1 : decode cX1_isThere 1 = .ok (.getfield 7, 3) := by decide +kernel
theorem dX1_isThere_4 : decode cX1_isThere 4 = .ok (.getfield 24, 3) := by decide +kernel
theorem dX1_isThere_7 : decode cX1_isThere 7 = .ok (.ifCond .eq 17, 3) := by decide +kernel
theorem dX1_isThere_10 : decode cX1_isThere 10 = .ok (.aload_n 0, 1) := by decide +kernel
theorem dX1_isThere_11 : decode cX1_isThere 11 = .ok (.getfield 13, 3) := by decide +kernel
theorem dX1_isThere_14 : decode cX1_isThere 14 = .ok (.getfield 24, 3) := by decide +kernel
theorem dX1_isThere_17 : decode cX1_isThere 17 = .ok (.ifCond .eq 7, 3) := by decide +kernel
theorem dX1_isThere_20 : decode cX1_isThere 20 = .ok (.iconst 1, 1) := by decide +kernel
theorem dX1_isThere_21 : decode cX1_isThere 21 = .ok (.goto 4, 3) := by decide +kernel
theorem dX1_isThere_24 : decode cX1_isThere 24 = .ok (.iconst 0, 1) := by decide +kernel
theorem dX1_isThere_25 : decode cX1_isThere 25 = .ok (.ireturn, 1) := by decide +kernel
theorem dX1_has_0 : decode cX1_has 0 = .ok (.aload_n 0, 1) := by decide +kernel
theorem dX1_has_1 : decode cX1_has 1 = .ok (.getfield 7, 3) := by decide +kernel
theorem dX1_has_4 : decode cX1_has 4 = .ok (.aload_n 1, 1) := by decide +kernel
theorem dX1_has_5 : decode cX1_has 5 = .ok (.if_acmp .eq 11, 3) := by decide +kernel
theorem dX1_has_8 : decode cX1_has 8 = .ok (.aload_n 0, 1) := by decide +kernel
theorem dX1_has_9 : decode cX1_has 9 = .ok (.getfield 13, 3) := by decide +kernel
theorem dX1_has_12 : decode cX1_has 12 = .ok (.aload_n 1, 1) := by decide +kernel
theorem dX1_has_13 : decode cX1_has 13 = .ok (.if_acmp .ne 7, 3) := by decide +kernel
theorem dX1_has_16 : decode cX1_has 16 = .ok (.iconst 1, 1) := by decide +kernel
theorem dX1_has_17 : decode cX1_has 17 = .ok (.goto 4, 3) := by decide +kernel
theorem dX1_has_20 : decode cX1_has 20 = .ok (.iconst 0, 1) := by decide +kernel
theorem dX1_has_21 : decode cX1_has 21 = .ok (.ireturn, 1) := by decide +kernel
theorem dX1_isHeeded_0 : decode cX1_isHeeded 0 = .ok (.aload_n 0, 1) := by decide +kernel
theorem dX1_isHeeded_1 : decode cX1_isHeeded 1 = .ok (.getfield 30, 3) := by decide +kernel
theorem dX1_isHeeded_4 : decode cX1_isHeeded 4 = .ok (.ifCond .eq 21, 3) := by decide +kernel
theorem dX1_isHeeded_7 : decode cX1_isHeeded 7 = .ok (.aload_n 0, 1) := by decide +kernel
theorem dX1_isHeeded_8 : decode cX1_isHeeded 8 = .ok (.getfield 33, 3) := by decide +kernel
theorem dX1_isHeeded_11 : decode cX1_isHeeded 11 = .ok (.aload_n 0, 1) := by decide +kernel
theorem dX1_isHeeded_12 : decode cX1_isHeeded 12 = .ok (.getfield 16, 3) := by decide +kernel
theorem dX1_isHeeded_15 : decode cX1_isHeeded 15 = .ok (.invokevirtual 37, 3) := by decide +kernel
theorem dX1_isHeeded_18 : decode cX1_isHeeded 18 = .ok (.if_icmp .lt 7, 3) := by decide +kernel
theorem dX1_isHeeded_21 : decode cX1_isHeeded 21 = .ok (.iconst 1, 1) := by decide +kernel
theorem dX1_isHeeded_22 : decode cX1_isHeeded 22 = .ok (.goto 4, 3) := by decide +kernel
theorem dX1_isHeeded_25 : decode cX1_isHeeded 25 = .ok (.iconst 0, 1) := by decide +kernel
theorem dX1_isHeeded_26 : decode cX1_isHeeded 26 = .ok (.ireturn, 1) := by decide +kernel
theorem dX1_sendsUp_0 : decode cX1_sendsUp 0 = .ok (.aload_n 0, 1) := by decide +kernel
theorem dX1_sendsUp_1 : decode cX1_sendsUp 1 = .ok (.getfield 43, 3) := by decide +kernel
theorem dX1_sendsUp_4 : decode cX1_sendsUp 4 = .ok (.aload_n 0, 1) := by decide +kernel
theorem dX1_sendsUp_5 : decode cX1_sendsUp 5 = .ok (.getfield 7, 3) := by decide +kernel
theorem dX1_sendsUp_8 : decode cX1_sendsUp 8 = .ok (.aload_n 1, 1) := by decide +kernel
theorem dX1_sendsUp_9 : decode cX1_sendsUp 9 = .ok (.if_acmp .ne 7, 3) := by decide +kernel
theorem dX1_sendsUp_12 : decode cX1_sendsUp 12 = .ok (.iconst 1, 1) := by decide +kernel
theorem dX1_sendsUp_13 : decode cX1_sendsUp 13 = .ok (.goto 4, 3) := by decide +kernel
theorem dX1_sendsUp_16 : decode cX1_sendsUp 16 = .ok (.iconst 0, 1) := by decide +kernel
theorem dX1_sendsUp_17 : decode cX1_sendsUp 17 = .ok (.if_icmp .ne 7, 3) := by decide +kernel
theorem dX1_sendsUp_20 : decode cX1_sendsUp 20 = .ok (.iconst 1, 1) := by decide +kernel
theorem dX1_sendsUp_21 : decode cX1_sendsUp 21 = .ok (.goto 4, 3) := by decide +kernel
theorem dX1_sendsUp_24 : decode cX1_sendsUp 24 = .ok (.iconst 0, 1) := by decide +kernel
theorem dX1_sendsUp_25 : decode cX1_sendsUp 25 = .ok (.ireturn, 1) := by decide +kernel
theorem dX1_dropAdvice_0 : decode cX1_dropAdvice 0 = .ok (.aload_n 0, 1) := by decide +kernel
theorem dX1_dropAdvice_1 : decode cX1_dropAdvice 1 = .ok (.iconst 0, 1) := by decide +kernel
theorem dX1_dropAdvice_2 : decode cX1_dropAdvice 2 = .ok (.putfield 30, 3) := by decide +kernel
theorem dX1_dropAdvice_5 : decode cX1_dropAdvice 5 = .ok (.aload_n 0, 1) := by decide +kernel
theorem dX1_dropAdvice_6 : decode cX1_dropAdvice 6 = .ok (.iconst 0, 1) := by decide +kernel
theorem dX1_dropAdvice_7 : decode cX1_dropAdvice 7 = .ok (.putfield 43, 3) := by decide +kernel
theorem dX1_dropAdvice_10 : decode cX1_dropAdvice 10 = .ok (.aload_n 0, 1) := by decide +kernel
theorem dX1_dropAdvice_11 : decode cX1_dropAdvice 11 = .ok (.iconst 0, 1) := by decide +kernel
theorem dX1_dropAdvice_12 : decode cX1_dropAdvice 12 = .ok (.putfield 46, 3) := by decide +kernel
theorem dX1_dropAdvice_15 : decode cX1_dropAdvice 15 = .ok (.aload_n 0, 1) := by decide +kernel
theorem dX1_dropAdvice_16 : decode cX1_dropAdvice 16 = .ok (.iconst 0, 1) := by decide +kernel
theorem dX1_dropAdvice_17 : decode cX1_dropAdvice 17 = .ok (.putfield 33, 3) := by decide +kernel
theorem dX1_dropAdvice_20 : decode cX1_dropAdvice 20 = .ok (.aload_n 0, 1) := by decide +kernel
theorem dX1_dropAdvice_21 : decode cX1_dropAdvice 21 = .ok (.iconst 0, 1) := by decide +kernel
theorem dX1_dropAdvice_22 : decode cX1_dropAdvice 22 = .ok (.putfield 49, 3) := by decide +kernel
theorem dX1_dropAdvice_25 : decode cX1_dropAdvice 25 = .ok (.return_, 1) := by decide +kernel
theorem dX1_restartLeast_0 : decode cX1_restartLeast 0 = .ok (.aload_n 0, 1) := by decide +kernel
theorem dX1_restartLeast_1 : decode cX1_restartLeast 1 = .ok (.aload_n 0, 1) := by decide +kernel
theorem dX1_restartLeast_2 : decode cX1_restartLeast 2 = .ok (.invokevirtual 52, 3) := by decide +kernel
theorem dX1_restartLeast_5 : decode cX1_restartLeast 5 = .ok (.putfield 56, 3) := by decide +kernel
theorem dX1_restartLeast_8 : decode cX1_restartLeast 8 = .ok (.aload_n 0, 1) := by decide +kernel
theorem dX1_restartLeast_9 : decode cX1_restartLeast 9 = .ok (.aload_n 0, 1) := by decide +kernel
theorem dX1_restartLeast_10 : decode cX1_restartLeast 10 = .ok (.invokevirtual 60, 3) := by decide +kernel
theorem dX1_restartLeast_13 : decode cX1_restartLeast 13 = .ok (.putfield 63, 3) := by decide +kernel
theorem dX1_restartLeast_16 : decode cX1_restartLeast 16 = .ok (.return_, 1) := by decide +kernel
theorem dX1_lookAtLeast_0 : decode cX1_lookAtLeast 0 = .ok (.aload_n 0, 1) := by decide +kernel
theorem dX1_lookAtLeast_1 : decode cX1_lookAtLeast 1 = .ok (.aload_n 0, 1) := by decide +kernel
theorem dX1_lookAtLeast_2 : decode cX1_lookAtLeast 2 = .ok (.getfield 56, 3) := by decide +kernel
theorem dX1_lookAtLeast_5 : decode cX1_lookAtLeast 5 = .ok (.aload_n 0, 1) := by decide +kernel
theorem dX1_lookAtLeast_6 : decode cX1_lookAtLeast 6 = .ok (.invokevirtual 52, 3) := by decide +kernel
theorem dX1_lookAtLeast_9 : decode cX1_lookAtLeast 9 = .ok (.invokestatic 66, 3) := by decide +kernel
theorem dX1_lookAtLeast_12 : decode cX1_lookAtLeast 12 = .ok (.putfield 56, 3) := by decide +kernel
theorem dX1_lookAtLeast_15 : decode cX1_lookAtLeast 15 = .ok (.aload_n 0, 1) := by decide +kernel
theorem dX1_lookAtLeast_16 : decode cX1_lookAtLeast 16 = .ok (.aload_n 0, 1) := by decide +kernel
theorem dX1_lookAtLeast_17 : decode cX1_lookAtLeast 17 = .ok (.getfield 63, 3) := by decide +kernel
theorem dX1_lookAtLeast_20 : decode cX1_lookAtLeast 20 = .ok (.aload_n 0, 1) := by decide +kernel
theorem dX1_lookAtLeast_21 : decode cX1_lookAtLeast 21 = .ok (.invokevirtual 60, 3) := by decide +kernel
theorem dX1_lookAtLeast_24 : decode cX1_lookAtLeast 24 = .ok (.invokestatic 72, 3) := by decide +kernel
theorem dX1_lookAtLeast_27 : decode cX1_lookAtLeast 27 = .ok (.putfield 63, 3) := by decide +kernel
theorem dX1_lookAtLeast_30 : decode cX1_lookAtLeast 30 = .ok (.return_, 1) := by decide +kernel
theorem dX1_review_0 : decode cX1_review 0 = .ok (.aload_n 0, 1) := by decide +kernel
theorem dX1_review_1 : decode cX1_review 1 = .ok (.invokevirtual 75, 3) := by decide +kernel
theorem dX1_review_4 : decode cX1_review 4 = .ok (.istore_n 1, 1) := by decide +kernel
theorem dX1_review_5 : decode cX1_review 5 = .ok (.aload_n 0, 1) := by decide +kernel
theorem dX1_review_6 : decode cX1_review 6 = .ok (.invokevirtual 79, 3) := by decide +kernel
theorem dX1_review_9 : decode cX1_review 9 = .ok (.istore_n 2, 1) := by decide +kernel
theorem dX1_review_10 : decode cX1_review 10 = .ok (.aload_n 0, 1) := by decide +kernel
theorem dX1_review_11 : decode cX1_review 11 = .ok (.getfield 30, 3) := by decide +kernel
theorem dX1_review_14 : decode cX1_review 14 = .ok (.ifCond .ne 38, 3) := by decide +kernel
theorem dX1_review_17 : decode cX1_review 17 = .ok (.iload_n 1, 1) := by decide +kernel
theorem dX1_review_18 : decode cX1_review 18 = .ok (.ifCond .eq 128, 3) := by decide +kernel
theorem dX1_review_21 : decode cX1_review 21 = .ok (.aload_n 0, 1) := by decide +kernel
theorem dX1_review_22 : decode cX1_review 22 = .ok (.iconst 1, 1) := by decide +kernel
theorem dX1_review_23 : decode cX1_review 23 = .ok (.putfield 30, 3) := by decide +kernel
theorem dX1_review_26 : decode cX1_review 26 = .ok (.aload_n 0, 1) := by decide +kernel
theorem dX1_review_27 : decode cX1_review 27 = .ok (.aload_n 0, 1) := by decide +kernel
theorem dX1_review_28 : decode cX1_review 28 = .ok (.iload_n 2, 1) := by decide +kernel
theorem dX1_review_29 : decode cX1_review 29 = .ok (.invokevirtual 82, 3) := by decide +kernel
theorem dX1_review_32 : decode cX1_review 32 = .ok (.iload_n 2, 1) := by decide +kernel
theorem dX1_review_33 : decode cX1_review 33 = .ok (.invokevirtual 86, 3) := by decide +kernel
theorem dX1_review_36 : decode cX1_review 36 = .ok (.aload_n 0, 1) := by decide +kernel
theorem dX1_review_37 : decode cX1_review 37 = .ok (.getfield 20, 3) := by decide +kernel
theorem dX1_review_40 : decode cX1_review 40 = .ok (.dup, 1) := by decide +kernel
theorem dX1_review_41 : decode cX1_review 41 = .ok (.getfield 90, 3) := by decide +kernel
theorem dX1_review_44 : decode cX1_review 44 = .ok (.iconst 1, 1) := by decide +kernel
theorem dX1_review_45 : decode cX1_review 45 = .ok (.iadd, 1) := by decide +kernel
theorem dX1_review_46 : decode cX1_review 46 = .ok (.putfield 90, 3) := by decide +kernel
theorem dX1_review_49 : decode cX1_review 49 = .ok (.goto 97, 3) := by decide +kernel
theorem dX1_review_52 : decode cX1_review 52 = .ok (.iload_n 1, 1) := by decide +kernel
theorem dX1_review_53 : decode cX1_review 53 = .ok (.ifCond .ne 32, 3) := by decide +kernel
theorem dX1_review_56 : decode cX1_review 56 = .ok (.aload_n 0, 1) := by decide +kernel
theorem dX1_review_57 : decode cX1_review 57 = .ok (.invokevirtual 95, 3) := by decide +kernel
theorem dX1_review_60 : decode cX1_review 60 = .ok (.lconst 0, 1) := by decide +kernel
theorem dX1_review_61 : decode cX1_review 61 = .ok (.lcmp, 1) := by decide +kernel
theorem dX1_review_62 : decode cX1_review 62 = .ok (.ifCond .lt 23, 3) := by decide +kernel
theorem dX1_review_65 : decode cX1_review 65 = .ok (.aload_n 0, 1) := by decide +kernel
theorem dX1_review_66 : decode cX1_review 66 = .ok (.invokevirtual 98, 3) := by decide +kernel
theorem dX1_review_69 : decode cX1_review 69 = .ok (.aload_n 0, 1) := by decide +kernel
theorem dX1_review_70 : decode cX1_review 70 = .ok (.getfield 20, 3) := by decide +kernel
theorem dX1_review_73 : decode cX1_review 73 = .ok (.dup, 1) := by decide +kernel
theorem dX1_review_74 : decode cX1_review 74 = .ok (.getfield 101, 3) := by decide +kernel
theorem dX1_review_77 : decode cX1_review 77 = .ok (.iconst 1, 1) := by decide +kernel
theorem dX1_review_78 : decode cX1_review 78 = .ok (.iadd, 1) := by decide +kernel
theorem dX1_review_79 : decode cX1_review 79 = .ok (.putfield 101, 3) := by decide +kernel
theorem dX1_review_82 : decode cX1_review 82 = .ok (.goto 64, 3) := by decide +kernel
theorem dX1_review_85 : decode cX1_review 85 = .ok (.aload_n 0, 1) := by decide +kernel
theorem dX1_review_86 : decode cX1_review 86 = .ok (.dup, 1) := by decide +kernel
theorem dX1_review_87 : decode cX1_review 87 = .ok (.getfield 33, 3) := by decide +kernel
theorem dX1_review_90 : decode cX1_review 90 = .ok (.iconst 1, 1) := by decide +kernel
theorem dX1_review_91 : decode cX1_review 91 = .ok (.iadd, 1) := by decide +kernel
theorem dX1_review_92 : decode cX1_review 92 = .ok (.putfield 33, 3) := by decide +kernel
theorem dX1_review_95 : decode cX1_review 95 = .ok (.aload_n 0, 1) := by decide +kernel
theorem dX1_review_96 : decode cX1_review 96 = .ok (.iload_n 2, 1) := by decide +kernel
theorem dX1_review_97 : decode cX1_review 97 = .ok (.invokevirtual 104, 3) := by decide +kernel
theorem dX1_review_100 : decode cX1_review 100 = .ok (.ifCond .eq 41, 3) := by decide +kernel
theorem dX1_review_103 : decode cX1_review 103 = .ok (.aload_n 0, 1) := by decide +kernel
theorem dX1_review_104 : decode cX1_review 104 = .ok (.aload_n 0, 1) := by decide +kernel
theorem dX1_review_105 : decode cX1_review 105 = .ok (.getfield 43, 3) := by decide +kernel
theorem dX1_review_108 : decode cX1_review 108 = .ok (.ifCond .ne 7, 3) := by decide +kernel
theorem dX1_review_111 : decode cX1_review 111 = .ok (.iconst 1, 1) := by decide +kernel
theorem dX1_review_112 : decode cX1_review 112 = .ok (.goto 4, 3) := by decide +kernel
theorem dX1_review_115 : decode cX1_review 115 = .ok (.iconst 0, 1) := by decide +kernel
theorem dX1_review_116 : decode cX1_review 116 = .ok (.iload_n 2, 1) := by decide +kernel
theorem dX1_review_117 : decode cX1_review 117 = .ok (.invokevirtual 86, 3) := by decide +kernel
theorem dX1_review_120 : decode cX1_review 120 = .ok (.aload_n 0, 1) := by decide +kernel
theorem dX1_review_121 : decode cX1_review 121 = .ok (.iconst 1, 1) := by decide +kernel
theorem dX1_review_122 : decode cX1_review 122 = .ok (.putfield 49, 3) := by decide +kernel
theorem dX1_review_125 : decode cX1_review 125 = .ok (.aload_n 0, 1) := by decide +kernel
theorem dX1_review_126 : decode cX1_review 126 = .ok (.getfield 20, 3) := by decide +kernel
theorem dX1_review_129 : decode cX1_review 129 = .ok (.dup, 1) := by decide +kernel
theorem dX1_review_130 : decode cX1_review 130 = .ok (.getfield 107, 3) := by decide +kernel
theorem dX1_review_133 : decode cX1_review 133 = .ok (.iconst 1, 1) := by decide +kernel
theorem dX1_review_134 : decode cX1_review 134 = .ok (.iadd, 1) := by decide +kernel
theorem dX1_review_135 : decode cX1_review 135 = .ok (.putfield 107, 3) := by decide +kernel
theorem dX1_review_138 : decode cX1_review 138 = .ok (.goto 8, 3) := by decide +kernel
theorem dX1_review_141 : decode cX1_review 141 = .ok (.aload_n 0, 1) := by decide +kernel
theorem dX1_review_142 : decode cX1_review 142 = .ok (.iload_n 2, 1) := by decide +kernel
theorem dX1_review_143 : decode cX1_review 143 = .ok (.invokevirtual 109, 3) := by decide +kernel
theorem dX1_review_146 : decode cX1_review 146 = .ok (.return_, 1) := by decide +kernel
theorem dX1_takeSense_0 : decode cX1_takeSense 0 = .ok (.aload_n 0, 1) := by decide +kernel
theorem dX1_takeSense_1 : decode cX1_takeSense 1 = .ok (.iload_n 1, 1) := by decide +kernel
theorem dX1_takeSense_2 : decode cX1_takeSense 2 = .ok (.putfield 43, 3) := by decide +kernel
theorem dX1_takeSense_5 : decode cX1_takeSense 5 = .ok (.aload_n 0, 1) := by decide +kernel
theorem dX1_takeSense_6 : decode cX1_takeSense 6 = .ok (.iconst 0, 1) := by decide +kernel
theorem dX1_takeSense_7 : decode cX1_takeSense 7 = .ok (.putfield 33, 3) := by decide +kernel
theorem dX1_takeSense_10 : decode cX1_takeSense 10 = .ok (.aload_n 0, 1) := by decide +kernel
theorem dX1_takeSense_11 : decode cX1_takeSense 11 = .ok (.aload_n 0, 1) := by decide +kernel
theorem dX1_takeSense_12 : decode cX1_takeSense 12 = .ok (.iload_n 1, 1) := by decide +kernel
theorem dX1_takeSense_13 : decode cX1_takeSense 13 = .ok (.iconst 1, 1) := by decide +kernel
theorem dX1_takeSense_14 : decode cX1_takeSense 14 = .ok (.iconst 0, 1) := by decide +kernel
theorem dX1_takeSense_15 : decode cX1_takeSense 15 = .ok (.iload_n 2, 1) := by decide +kernel
theorem dX1_takeSense_16 : decode cX1_takeSense 16 = .ok (.invokevirtual 113, 3) := by decide +kernel
theorem dX1_takeSense_19 : decode cX1_takeSense 19 = .ok (.putfield 46, 3) := by decide +kernel
theorem dX1_takeSense_22 : decode cX1_takeSense 22 = .ok (.return_, 1) := by decide +kernel
theorem dX1_strengthen_0 : decode cX1_strengthen 0 = .ok (.aload_n 0, 1) := by decide +kernel
theorem dX1_strengthen_1 : decode cX1_strengthen 1 = .ok (.aload_n 0, 1) := by decide +kernel
theorem dX1_strengthen_2 : decode cX1_strengthen 2 = .ok (.getfield 43, 3) := by decide +kernel
theorem dX1_strengthen_5 : decode cX1_strengthen 5 = .ok (.aload_n 0, 1) := by decide +kernel
theorem dX1_strengthen_6 : decode cX1_strengthen 6 = .ok (.getfield 46, 3) := by decide +kernel
theorem dX1_strengthen_9 : decode cX1_strengthen 9 = .ok (.aload_n 0, 1) := by decide +kernel
theorem dX1_strengthen_10 : decode cX1_strengthen 10 = .ok (.getfield 33, 3) := by decide +kernel
theorem dX1_strengthen_13 : decode cX1_strengthen 13 = .ok (.iload_n 1, 1) := by decide +kernel
theorem dX1_strengthen_14 : decode cX1_strengthen 14 = .ok (.invokevirtual 113, 3) := by decide +kernel
theorem dX1_strengthen_17 : decode cX1_strengthen 17 = .ok (.istore_n 2, 1) := by decide +kernel
theorem dX1_strengthen_18 : decode cX1_strengthen 18 = .ok (.iload_n 2, 1) := by decide +kernel
theorem dX1_strengthen_19 : decode cX1_strengthen 19 = .ok (.aload_n 0, 1) := by decide +kernel
theorem dX1_strengthen_20 : decode cX1_strengthen 20 = .ok (.getfield 46, 3) := by decide +kernel
theorem dX1_strengthen_23 : decode cX1_strengthen 23 = .ok (.if_icmp .le 21, 3) := by decide +kernel
theorem dX1_strengthen_26 : decode cX1_strengthen 26 = .ok (.aload_n 0, 1) := by decide +kernel
theorem dX1_strengthen_27 : decode cX1_strengthen 27 = .ok (.iload_n 2, 1) := by decide +kernel
theorem dX1_strengthen_28 : decode cX1_strengthen 28 = .ok (.putfield 46, 3) := by decide +kernel
theorem dX1_strengthen_31 : decode cX1_strengthen 31 = .ok (.aload_n 0, 1) := by decide +kernel
theorem dX1_strengthen_32 : decode cX1_strengthen 32 = .ok (.getfield 20, 3) := by decide +kernel
theorem dX1_strengthen_35 : decode cX1_strengthen 35 = .ok (.dup, 1) := by decide +kernel
theorem dX1_strengthen_36 : decode cX1_strengthen 36 = .ok (.getfield 117, 3) := by decide +kernel
theorem dX1_strengthen_39 : decode cX1_strengthen 39 = .ok (.iconst 1, 1) := by decide +kernel
theorem dX1_strengthen_40 : decode cX1_strengthen 40 = .ok (.iadd, 1) := by decide +kernel
theorem dX1_strengthen_41 : decode cX1_strengthen 41 = .ok (.putfield 117, 3) := by decide +kernel
theorem dX1_strengthen_44 : decode cX1_strengthen 44 = .ok (.return_, 1) := by decide +kernel
theorem dX1_mustTurn_0 : decode cX1_mustTurn 0 = .ok (.aload_n 0, 1) := by decide +kernel
theorem dX1_mustTurn_1 : decode cX1_mustTurn 1 = .ok (.getfield 49, 3) := by decide +kernel
theorem dX1_mustTurn_4 : decode cX1_mustTurn 4 = .ok (.ifCond .ne 64, 3) := by decide +kernel
theorem dX1_mustTurn_7 : decode cX1_mustTurn 7 = .ok (.iload_n 1, 1) := by decide +kernel
theorem dX1_mustTurn_8 : decode cX1_mustTurn 8 = .ok (.aload_n 0, 1) := by decide +kernel
theorem dX1_mustTurn_9 : decode cX1_mustTurn 9 = .ok (.getfield 16, 3) := by decide +kernel
theorem dX1_mustTurn_12 : decode cX1_mustTurn 12 = .ok (.invokevirtual 37, 3) := by decide +kernel
theorem dX1_mustTurn_15 : decode cX1_mustTurn 15 = .ok (.if_icmp .le 53, 3) := by decide +kernel
theorem dX1_mustTurn_18 : decode cX1_mustTurn 18 = .ok (.aload_n 0, 1) := by decide +kernel
theorem dX1_mustTurn_19 : decode cX1_mustTurn 19 = .ok (.aload_n 0, 1) := by decide +kernel
theorem dX1_mustTurn_20 : decode cX1_mustTurn 20 = .ok (.getfield 43, 3) := by decide +kernel
theorem dX1_mustTurn_23 : decode cX1_mustTurn 23 = .ok (.iconst 4, 1) := by decide +kernel
theorem dX1_mustTurn_24 : decode cX1_mustTurn 24 = .ok (.aload_n 0, 1) := by decide +kernel
theorem dX1_mustTurn_25 : decode cX1_mustTurn 25 = .ok (.getfield 33, 3) := by decide +kernel
theorem dX1_mustTurn_28 : decode cX1_mustTurn 28 = .ok (.iload_n 1, 1) := by decide +kernel
theorem dX1_mustTurn_29 : decode cX1_mustTurn 29 = .ok (.invokevirtual 120, 3) := by decide +kernel
theorem dX1_mustTurn_32 : decode cX1_mustTurn 32 = .ok (.ifCond .ge 36, 3) := by decide +kernel
theorem dX1_mustTurn_35 : decode cX1_mustTurn 35 = .ok (.aload_n 0, 1) := by decide +kernel
theorem dX1_mustTurn_36 : decode cX1_mustTurn 36 = .ok (.aload_n 0, 1) := by decide +kernel
theorem dX1_mustTurn_37 : decode cX1_mustTurn 37 = .ok (.getfield 43, 3) := by decide +kernel
theorem dX1_mustTurn_40 : decode cX1_mustTurn 40 = .ok (.ifCond .ne 7, 3) := by decide +kernel
theorem dX1_mustTurn_43 : decode cX1_mustTurn 43 = .ok (.iconst 1, 1) := by decide +kernel
theorem dX1_mustTurn_44 : decode cX1_mustTurn 44 = .ok (.goto 4, 3) := by decide +kernel
theorem dX1_mustTurn_47 : decode cX1_mustTurn 47 = .ok (.iconst 0, 1) := by decide +kernel
theorem dX1_mustTurn_48 : decode cX1_mustTurn 48 = .ok (.iconst 4, 1) := by decide +kernel
theorem dX1_mustTurn_49 : decode cX1_mustTurn 49 = .ok (.iconst 0, 1) := by decide +kernel
theorem dX1_mustTurn_50 : decode cX1_mustTurn 50 = .ok (.iload_n 1, 1) := by decide +kernel
theorem dX1_mustTurn_51 : decode cX1_mustTurn 51 = .ok (.invokevirtual 120, 3) := by decide +kernel
theorem dX1_mustTurn_54 : decode cX1_mustTurn 54 = .ok (.aload_n 0, 1) := by decide +kernel
theorem dX1_mustTurn_55 : decode cX1_mustTurn 55 = .ok (.getfield 16, 3) := by decide +kernel
theorem dX1_mustTurn_58 : decode cX1_mustTurn 58 = .ok (.invokevirtual 123, 3) := by decide +kernel
theorem dX1_mustTurn_61 : decode cX1_mustTurn 61 = .ok (.if_icmp .lt 7, 3) := by decide +kernel
theorem dX1_mustTurn_64 : decode cX1_mustTurn 64 = .ok (.iconst 1, 1) := by decide +kernel
theorem dX1_mustTurn_65 : decode cX1_mustTurn 65 = .ok (.goto 4, 3) := by decide +kernel
theorem dX1_mustTurn_68 : decode cX1_mustTurn 68 = .ok (.iconst 0, 1) := by decide +kernel
theorem dX1_mustTurn_69 : decode cX1_mustTurn 69 = .ok (.ireturn, 1) := by decide +kernel
theorem dX1_answer_0 : decode cX1_answer 0 = .ok (.iload_n 1, 1) := by decide +kernel
theorem dX1_answer_1 : decode cX1_answer 1 = .ok (.tableswitch 182 0 9 #[55, 68, 73, 93, 98, 103, 116, 148, 157, 170], 55) := by decide +kernel
theorem dX1_answer_56 : decode cX1_answer 56 = .ok (.aload_n 0, 1) := by decide +kernel
theorem dX1_answer_57 : decode cX1_answer 57 = .ok (.invokevirtual 75, 3) := by decide +kernel
theorem dX1_answer_60 : decode cX1_answer 60 = .ok (.ifCond .eq 7, 3) := by decide +kernel
theorem dX1_answer_63 : decode cX1_answer 63 = .ok (.iconst 1, 1) := by decide +kernel
theorem dX1_answer_64 : decode cX1_answer 64 = .ok (.goto 4, 3) := by decide +kernel
theorem dX1_answer_67 : decode cX1_answer 67 = .ok (.iconst 0, 1) := by decide +kernel
theorem dX1_answer_68 : decode cX1_answer 68 = .ok (.ireturn, 1) := by decide +kernel
theorem dX1_answer_69 : decode cX1_answer 69 = .ok (.aload_n 0, 1) := by decide +kernel
theorem dX1_answer_70 : decode cX1_answer 70 = .ok (.invokevirtual 79, 3) := by decide +kernel
theorem dX1_answer_73 : decode cX1_answer 73 = .ok (.ireturn, 1) := by decide +kernel
theorem dX1_answer_74 : decode cX1_answer 74 = .ok (.aload_n 0, 1) := by decide +kernel
theorem dX1_answer_75 : decode cX1_answer 75 = .ok (.getfield 30, 3) := by decide +kernel
theorem dX1_answer_78 : decode cX1_answer 78 = .ok (.ifCond .eq 14, 3) := by decide +kernel
theorem dX1_answer_81 : decode cX1_answer 81 = .ok (.aload_n 0, 1) := by decide +kernel
theorem dX1_answer_82 : decode cX1_answer 82 = .ok (.getfield 43, 3) := by decide +kernel
theorem dX1_answer_85 : decode cX1_answer 85 = .ok (.iload_n 2, 1) := by decide +kernel
theorem dX1_answer_86 : decode cX1_answer 86 = .ok (.invokestatic 126, 3) := by decide +kernel
theorem dX1_answer_89 : decode cX1_answer 89 = .ok (.goto 4, 3) := by decide +kernel
theorem dX1_answer_92 : decode cX1_answer 92 = .ok (.iconst 0, 1) := by decide +kernel
theorem dX1_answer_93 : decode cX1_answer 93 = .ok (.ireturn, 1) := by decide +kernel
theorem dX1_answer_94 : decode cX1_answer 94 = .ok (.aload_n 0, 1) := by decide +kernel
theorem dX1_answer_95 : decode cX1_answer 95 = .ok (.getfield 46, 3) := by decide +kernel
theorem dX1_answer_98 : decode cX1_answer 98 = .ok (.ireturn, 1) := by decide +kernel
theorem dX1_answer_99 : decode cX1_answer 99 = .ok (.aload_n 0, 1) := by decide +kernel
theorem dX1_answer_100 : decode cX1_answer 100 = .ok (.getfield 33, 3) := by decide +kernel
theorem dX1_answer_103 : decode cX1_answer 103 = .ok (.ireturn, 1) := by decide +kernel
theorem dX1_answer_104 : decode cX1_answer 104 = .ok (.aload_n 0, 1) := by decide +kernel
theorem dX1_answer_105 : decode cX1_answer 105 = .ok (.getfield 49, 3) := by decide +kernel
theorem dX1_answer_108 : decode cX1_answer 108 = .ok (.ifCond .eq 7, 3) := by decide +kernel
theorem dX1_answer_111 : decode cX1_answer 111 = .ok (.iconst 1, 1) := by decide +kernel
theorem dX1_answer_112 : decode cX1_answer 112 = .ok (.goto 4, 3) := by decide +kernel
theorem dX1_answer_115 : decode cX1_answer 115 = .ok (.iconst 0, 1) := by decide +kernel
theorem dX1_answer_116 : decode cX1_answer 116 = .ok (.ireturn, 1) := by decide +kernel
theorem dX1_answer_117 : decode cX1_answer 117 = .ok (.aload_n 0, 1) := by decide +kernel
theorem dX1_answer_118 : decode cX1_answer 118 = .ok (.getfield 30, 3) := by decide +kernel
theorem dX1_answer_121 : decode cX1_answer 121 = .ok (.ifCond .eq 26, 3) := by decide +kernel
theorem dX1_answer_124 : decode cX1_answer 124 = .ok (.aload_n 0, 1) := by decide +kernel
theorem dX1_answer_125 : decode cX1_answer 125 = .ok (.aload_n 0, 1) := by decide +kernel
theorem dX1_answer_126 : decode cX1_answer 126 = .ok (.getfield 43, 3) := by decide +kernel
theorem dX1_answer_129 : decode cX1_answer 129 = .ok (.aload_n 0, 1) := by decide +kernel
theorem dX1_answer_130 : decode cX1_answer 130 = .ok (.getfield 46, 3) := by decide +kernel
theorem dX1_answer_133 : decode cX1_answer 133 = .ok (.aload_n 0, 1) := by decide +kernel
theorem dX1_answer_134 : decode cX1_answer 134 = .ok (.getfield 33, 3) := by decide +kernel
theorem dX1_answer_137 : decode cX1_answer 137 = .ok (.aload_n 0, 1) := by decide +kernel
theorem dX1_answer_138 : decode cX1_answer 138 = .ok (.invokevirtual 79, 3) := by decide +kernel
theorem dX1_answer_141 : decode cX1_answer 141 = .ok (.invokevirtual 120, 3) := by decide +kernel
theorem dX1_answer_144 : decode cX1_answer 144 = .ok (.goto 4, 3) := by decide +kernel
theorem dX1_answer_147 : decode cX1_answer 147 = .ok (.iconst 0, 1) := by decide +kernel
theorem dX1_answer_148 : decode cX1_answer 148 = .ok (.ireturn, 1) := by decide +kernel
theorem dX1_answer_149 : decode cX1_answer 149 = .ok (.aload_n 0, 1) := by decide +kernel
theorem dX1_answer_150 : decode cX1_answer 150 = .ok (.aload_n 0, 1) := by decide +kernel
theorem dX1_answer_151 : decode cX1_answer 151 = .ok (.invokevirtual 79, 3) := by decide +kernel
theorem dX1_answer_154 : decode cX1_answer 154 = .ok (.invokevirtual 130, 3) := by decide +kernel
theorem dX1_answer_157 : decode cX1_answer 157 = .ok (.ireturn, 1) := by decide +kernel
theorem dX1_answer_158 : decode cX1_answer 158 = .ok (.aload_n 0, 1) := by decide +kernel
theorem dX1_answer_159 : decode cX1_answer 159 = .ok (.aload_n 0, 1) := by decide +kernel
theorem dX1_answer_160 : decode cX1_answer 160 = .ok (.invokevirtual 79, 3) := by decide +kernel
theorem dX1_answer_163 : decode cX1_answer 163 = .ok (.invokevirtual 82, 3) := by decide +kernel
theorem dX1_answer_166 : decode cX1_answer 166 = .ok (.iload_n 2, 1) := by decide +kernel
theorem dX1_answer_167 : decode cX1_answer 167 = .ok (.invokestatic 126, 3) := by decide +kernel
theorem dX1_answer_170 : decode cX1_answer 170 = .ok (.ireturn, 1) := by decide +kernel
theorem dX1_answer_171 : decode cX1_answer 171 = .ok (.aload_n 0, 1) := by decide +kernel
theorem dX1_answer_172 : decode cX1_answer 172 = .ok (.getfield 56, 3) := by decide +kernel
theorem dX1_answer_175 : decode cX1_answer 175 = .ok (.ldc2_w 134, 3) := by decide +kernel
theorem dX1_answer_178 : decode cX1_answer 178 = .ok (.invokestatic 66, 3) := by decide +kernel
theorem dX1_answer_181 : decode cX1_answer 181 = .ok (.l2i, 1) := by decide +kernel
theorem dX1_answer_182 : decode cX1_answer 182 = .ok (.ireturn, 1) := by decide +kernel
theorem dX1_answer_183 : decode cX1_answer 183 = .ok (.aload_n 0, 1) := by decide +kernel
theorem dX1_answer_184 : decode cX1_answer 184 = .ok (.getfield 63, 3) := by decide +kernel
theorem dX1_answer_187 : decode cX1_answer 187 = .ok (.ireturn, 1) := by decide +kernel
theorem dX1_senseFor_0 : decode cX1_senseFor 0 = .ok (.iload_n 0, 1) := by decide +kernel
theorem dX1_senseFor_1 : decode cX1_senseFor 1 = .ok (.iload_n 1, 1) := by decide +kernel
theorem dX1_senseFor_2 : decode cX1_senseFor 2 = .ok (.if_icmp .ne 7, 3) := by decide +kernel
theorem dX1_senseFor_5 : decode cX1_senseFor 5 = .ok (.iconst 1, 1) := by decide +kernel
theorem dX1_senseFor_6 : decode cX1_senseFor 6 = .ok (.goto 4, 3) := by decide +kernel
theorem dX1_senseFor_9 : decode cX1_senseFor 9 = .ok (.iconst 2, 1) := by decide +kernel
theorem dX1_senseFor_10 : decode cX1_senseFor 10 = .ok (.ireturn, 1) := by decide +kernel
theorem dX1_alerts_0 : decode cX1_alerts 0 = .ok (.aload_n 0, 1) := by decide +kernel
theorem dX1_alerts_1 : decode cX1_alerts 1 = .ok (.invokevirtual 136, 3) := by decide +kernel
theorem dX1_alerts_4 : decode cX1_alerts 4 = .ok (.ifCond .ne 17, 3) := by decide +kernel
theorem dX1_alerts_7 : decode cX1_alerts 7 = .ok (.aload_n 0, 1) := by decide +kernel
theorem dX1_alerts_8 : decode cX1_alerts 8 = .ok (.invokevirtual 139, 3) := by decide +kernel
theorem dX1_alerts_11 : decode cX1_alerts 11 = .ok (.ifCond .eq 21, 3) := by decide +kernel
theorem dX1_alerts_14 : decode cX1_alerts 14 = .ok (.aload_n 0, 1) := by decide +kernel
theorem dX1_alerts_15 : decode cX1_alerts 15 = .ok (.invokevirtual 142, 3) := by decide +kernel
theorem dX1_alerts_18 : decode cX1_alerts 18 = .ok (.ifCond .eq 14, 3) := by decide +kernel
theorem dX1_alerts_21 : decode cX1_alerts 21 = .ok (.aload_n 0, 1) := by decide +kernel
theorem dX1_alerts_22 : decode cX1_alerts 22 = .ok (.invokevirtual 145, 3) := by decide +kernel
theorem dX1_alerts_25 : decode cX1_alerts 25 = .ok (.ifCond .eq 7, 3) := by decide +kernel
theorem dX1_alerts_28 : decode cX1_alerts 28 = .ok (.iconst 1, 1) := by decide +kernel
theorem dX1_alerts_29 : decode cX1_alerts 29 = .ok (.goto 4, 3) := by decide +kernel
theorem dX1_alerts_32 : decode cX1_alerts 32 = .ok (.iconst 0, 1) := by decide +kernel
theorem dX1_alerts_33 : decode cX1_alerts 33 = .ok (.ireturn, 1) := by decide +kernel
theorem dX1_isNear_0 : decode cX1_isNear 0 = .ok (.aload_n 0, 1) := by decide +kernel
theorem dX1_isNear_1 : decode cX1_isNear 1 = .ok (.invokevirtual 52, 3) := by decide +kernel
theorem dX1_isNear_4 : decode cX1_isNear 4 = .ok (.aload_n 0, 1) := by decide +kernel
theorem dX1_isNear_5 : decode cX1_isNear 5 = .ok (.invokevirtual 148, 3) := by decide +kernel
theorem dX1_isNear_8 : decode cX1_isNear 8 = .ok (.lcmp, 1) := by decide +kernel
theorem dX1_isNear_9 : decode cX1_isNear 9 = .ok (.ifCond .gt 7, 3) := by decide +kernel
theorem dX1_isNear_12 : decode cX1_isNear 12 = .ok (.iconst 1, 1) := by decide +kernel
theorem dX1_isNear_13 : decode cX1_isNear 13 = .ok (.goto 4, 3) := by decide +kernel
theorem dX1_isNear_16 : decode cX1_isNear 16 = .ok (.iconst 0, 1) := by decide +kernel
theorem dX1_isNear_17 : decode cX1_isNear 17 = .ok (.ireturn, 1) := by decide +kernel
theorem dX1_comesNearInTime_0 : decode cX1_comesNearInTime 0 = .ok (.aload_n 0, 1) := by decide +kernel
theorem dX1_comesNearInTime_1 : decode cX1_comesNearInTime 1 = .ok (.invokevirtual 95, 3) := by decide +kernel
theorem dX1_comesNearInTime_4 : decode cX1_comesNearInTime 4 = .ok (.lstore_n 1, 1) := by decide +kernel
theorem dX1_comesNearInTime_5 : decode cX1_comesNearInTime 5 = .ok (.lload_n 1, 1) := by decide +kernel
theorem dX1_comesNearInTime_6 : decode cX1_comesNearInTime 6 = .ok (.lconst 0, 1) := by decide +kernel
theorem dX1_comesNearInTime_7 : decode cX1_comesNearInTime 7 = .ok (.lcmp, 1) := by decide +kernel
theorem dX1_comesNearInTime_8 : decode cX1_comesNearInTime 8 = .ok (.ifCond .ge 31, 3) := by decide +kernel
theorem dX1_comesNearInTime_11 : decode cX1_comesNearInTime 11 = .ok (.aload_n 0, 1) := by decide +kernel
theorem dX1_comesNearInTime_12 : decode cX1_comesNearInTime 12 = .ok (.invokevirtual 52, 3) := by decide +kernel
theorem dX1_comesNearInTime_15 : decode cX1_comesNearInTime 15 = .ok (.aload_n 0, 1) := by decide +kernel
theorem dX1_comesNearInTime_16 : decode cX1_comesNearInTime 16 = .ok (.invokevirtual 148, 3) := by decide +kernel
theorem dX1_comesNearInTime_19 : decode cX1_comesNearInTime 19 = .ok (.lsub, 1) := by decide +kernel
theorem dX1_comesNearInTime_20 : decode cX1_comesNearInTime 20 = .ok (.aload_n 0, 1) := by decide +kernel
theorem dX1_comesNearInTime_21 : decode cX1_comesNearInTime 21 = .ok (.getfield 16, 3) := by decide +kernel
theorem dX1_comesNearInTime_24 : decode cX1_comesNearInTime 24 = .ok (.invokevirtual 151, 3) := by decide +kernel
theorem dX1_comesNearInTime_27 : decode cX1_comesNearInTime 27 = .ok (.i2l, 1) := by decide +kernel
theorem dX1_comesNearInTime_28 : decode cX1_comesNearInTime 28 = .ok (.lload_n 1, 1) := by decide +kernel
theorem dX1_comesNearInTime_29 : decode cX1_comesNearInTime 29 = .ok (.lneg, 1) := by decide +kernel
theorem dX1_comesNearInTime_30 : decode cX1_comesNearInTime 30 = .ok (.lmul, 1) := by decide +kernel
theorem dX1_comesNearInTime_31 : decode cX1_comesNearInTime 31 = .ok (.lcmp, 1) := by decide +kernel
theorem dX1_comesNearInTime_32 : decode cX1_comesNearInTime 32 = .ok (.ifCond .gt 7, 3) := by decide +kernel
theorem dX1_comesNearInTime_35 : decode cX1_comesNearInTime 35 = .ok (.iconst 1, 1) := by decide +kernel
theorem dX1_comesNearInTime_36 : decode cX1_comesNearInTime 36 = .ok (.goto 4, 3) := by decide +kernel
theorem dX1_comesNearInTime_39 : decode cX1_comesNearInTime 39 = .ok (.iconst 0, 1) := by decide +kernel
theorem dX1_comesNearInTime_40 : decode cX1_comesNearInTime 40 = .ok (.ireturn, 1) := by decide +kernel
theorem dX1_passesNear_0 : decode cX1_passesNear 0 = .ok (.aload_n 0, 1) := by decide +kernel
theorem dX1_passesNear_1 : decode cX1_passesNear 1 = .ok (.getfield 13, 3) := by decide +kernel
theorem dX1_passesNear_4 : decode cX1_passesNear 4 = .ok (.getfield 154, 3) := by decide +kernel
theorem dX1_passesNear_7 : decode cX1_passesNear 7 = .ok (.aload_n 0, 1) := by decide +kernel
theorem dX1_passesNear_8 : decode cX1_passesNear 8 = .ok (.getfield 7, 3) := by decide +kernel
theorem dX1_passesNear_11 : decode cX1_passesNear 11 = .ok (.getfield 154, 3) := by decide +kernel
theorem dX1_passesNear_14 : decode cX1_passesNear 14 = .ok (.isub, 1) := by decide +kernel
theorem dX1_passesNear_15 : decode cX1_passesNear 15 = .ok (.i2l, 1) := by decide +kernel
theorem dX1_passesNear_16 : decode cX1_passesNear 16 = .ok (.lstore_n 1, 1) := by decide +kernel
theorem dX1_passesNear_17 : decode cX1_passesNear 17 = .ok (.aload_n 0, 1) := by decide +kernel
theorem dX1_passesNear_18 : decode cX1_passesNear 18 = .ok (.getfield 13, 3) := by decide +kernel
theorem dX1_passesNear_21 : decode cX1_passesNear 21 = .ok (.getfield 157, 3) := by decide +kernel
theorem dX1_passesNear_24 : decode cX1_passesNear 24 = .ok (.aload_n 0, 1) := by decide +kernel
theorem dX1_passesNear_25 : decode cX1_passesNear 25 = .ok (.getfield 7, 3) := by decide +kernel
theorem dX1_passesNear_28 : decode cX1_passesNear 28 = .ok (.getfield 157, 3) := by decide +kernel
theorem dX1_passesNear_31 : decode cX1_passesNear 31 = .ok (.isub, 1) := by decide +kernel
theorem dX1_passesNear_32 : decode cX1_passesNear 32 = .ok (.i2l, 1) := by decide +kernel
theorem dX1_passesNear_33 : decode cX1_passesNear 33 = .ok (.lstore_n 3, 1) := by decide +kernel
theorem dX1_passesNear_34 : decode cX1_passesNear 34 = .ok (.aload_n 0, 1) := by decide +kernel
theorem dX1_passesNear_35 : decode cX1_passesNear 35 = .ok (.getfield 13, 3) := by decide +kernel
theorem dX1_passesNear_38 : decode cX1_passesNear 38 = .ok (.getfield 160, 3) := by decide +kernel
theorem dX1_passesNear_41 : decode cX1_passesNear 41 = .ok (.aload_n 0, 1) := by decide +kernel
theorem dX1_passesNear_42 : decode cX1_passesNear 42 = .ok (.getfield 7, 3) := by decide +kernel
theorem dX1_passesNear_45 : decode cX1_passesNear 45 = .ok (.getfield 160, 3) := by decide +kernel
theorem dX1_passesNear_48 : decode cX1_passesNear 48 = .ok (.isub, 1) := by decide +kernel
theorem dX1_passesNear_49 : decode cX1_passesNear 49 = .ok (.i2l, 1) := by decide +kernel
theorem dX1_passesNear_50 : decode cX1_passesNear 50 = .ok (.lstore 5, 2) := by decide +kernel
theorem dX1_passesNear_52 : decode cX1_passesNear 52 = .ok (.aload_n 0, 1) := by decide +kernel
theorem dX1_passesNear_53 : decode cX1_passesNear 53 = .ok (.getfield 13, 3) := by decide +kernel
theorem dX1_passesNear_56 : decode cX1_passesNear 56 = .ok (.getfield 163, 3) := by decide +kernel
theorem dX1_passesNear_59 : decode cX1_passesNear 59 = .ok (.aload_n 0, 1) := by decide +kernel
theorem dX1_passesNear_60 : decode cX1_passesNear 60 = .ok (.getfield 7, 3) := by decide +kernel
theorem dX1_passesNear_63 : decode cX1_passesNear 63 = .ok (.getfield 163, 3) := by decide +kernel
theorem dX1_passesNear_66 : decode cX1_passesNear 66 = .ok (.isub, 1) := by decide +kernel
theorem dX1_passesNear_67 : decode cX1_passesNear 67 = .ok (.i2l, 1) := by decide +kernel
theorem dX1_passesNear_68 : decode cX1_passesNear 68 = .ok (.lstore 7, 2) := by decide +kernel
theorem dX1_passesNear_70 : decode cX1_passesNear 70 = .ok (.lload_n 1, 1) := by decide +kernel
theorem dX1_passesNear_71 : decode cX1_passesNear 71 = .ok (.lload 7, 2) := by decide +kernel
theorem dX1_passesNear_73 : decode cX1_passesNear 73 = .ok (.lmul, 1) := by decide +kernel
theorem dX1_passesNear_74 : decode cX1_passesNear 74 = .ok (.lload_n 3, 1) := by decide +kernel
theorem dX1_passesNear_75 : decode cX1_passesNear 75 = .ok (.lload 5, 2) := by decide +kernel
theorem dX1_passesNear_77 : decode cX1_passesNear 77 = .ok (.lmul, 1) := by decide +kernel
theorem dX1_passesNear_78 : decode cX1_passesNear 78 = .ok (.lsub, 1) := by decide +kernel
theorem dX1_passesNear_79 : decode cX1_passesNear 79 = .ok (.lstore 9, 2) := by decide +kernel
theorem dX1_passesNear_81 : decode cX1_passesNear 81 = .ok (.aload_n 0, 1) := by decide +kernel
theorem dX1_passesNear_82 : decode cX1_passesNear 82 = .ok (.getfield 16, 3) := by decide +kernel
theorem dX1_passesNear_85 : decode cX1_passesNear 85 = .ok (.invokevirtual 166, 3) := by decide +kernel
theorem dX1_passesNear_88 : decode cX1_passesNear 88 = .ok (.i2l, 1) := by decide +kernel
theorem dX1_passesNear_89 : decode cX1_passesNear 89 = .ok (.lstore 11, 2) := by decide +kernel
theorem dX1_passesNear_91 : decode cX1_passesNear 91 = .ok (.lload 9, 2) := by decide +kernel
theorem dX1_passesNear_93 : decode cX1_passesNear 93 = .ok (.lload 9, 2) := by decide +kernel
theorem dX1_passesNear_95 : decode cX1_passesNear 95 = .ok (.lmul, 1) := by decide +kernel
theorem dX1_passesNear_96 : decode cX1_passesNear 96 = .ok (.lload 11, 2) := by decide +kernel
theorem dX1_passesNear_98 : decode cX1_passesNear 98 = .ok (.lload 11, 2) := by decide +kernel
theorem dX1_passesNear_100 : decode cX1_passesNear 100 = .ok (.lmul, 1) := by decide +kernel
theorem dX1_passesNear_101 : decode cX1_passesNear 101 = .ok (.lload 5, 2) := by decide +kernel
theorem dX1_passesNear_103 : decode cX1_passesNear 103 = .ok (.lload 5, 2) := by decide +kernel
theorem dX1_passesNear_105 : decode cX1_passesNear 105 = .ok (.lmul, 1) := by decide +kernel
theorem dX1_passesNear_106 : decode cX1_passesNear 106 = .ok (.lload 7, 2) := by decide +kernel
theorem dX1_passesNear_108 : decode cX1_passesNear 108 = .ok (.lload 7, 2) := by decide +kernel
theorem dX1_passesNear_110 : decode cX1_passesNear 110 = .ok (.lmul, 1) := by decide +kernel
theorem dX1_passesNear_111 : decode cX1_passesNear 111 = .ok (.ladd, 1) := by decide +kernel
theorem dX1_passesNear_112 : decode cX1_passesNear 112 = .ok (.lmul, 1) := by decide +kernel
theorem dX1_passesNear_113 : decode cX1_passesNear 113 = .ok (.lcmp, 1) := by decide +kernel
theorem dX1_passesNear_114 : decode cX1_passesNear 114 = .ok (.ifCond .gt 7, 3) := by decide +kernel
theorem dX1_passesNear_117 : decode cX1_passesNear 117 = .ok (.iconst 1, 1) := by decide +kernel
theorem dX1_passesNear_118 : decode cX1_passesNear 118 = .ok (.goto 4, 3) := by decide +kernel
theorem dX1_passesNear_121 : decode cX1_passesNear 121 = .ok (.iconst 0, 1) := by decide +kernel
theorem dX1_passesNear_122 : decode cX1_passesNear 122 = .ok (.ireturn, 1) := by decide +kernel
theorem dX1_meetsInHeight_0 : decode cX1_meetsInHeight 0 = .ok (.aload_n 0, 1) := by decide +kernel
theorem dX1_meetsInHeight_1 : decode cX1_meetsInHeight 1 = .ok (.getfield 13, 3) := by decide +kernel
theorem dX1_meetsInHeight_4 : decode cX1_meetsInHeight 4 = .ok (.getfield 169, 3) := by decide +kernel
theorem dX1_meetsInHeight_7 : decode cX1_meetsInHeight 7 = .ok (.aload_n 0, 1) := by decide +kernel
theorem dX1_meetsInHeight_8 : decode cX1_meetsInHeight 8 = .ok (.getfield 7, 3) := by decide +kernel
theorem dX1_meetsInHeight_11 : decode cX1_meetsInHeight 11 = .ok (.getfield 169, 3) := by decide +kernel
theorem dX1_meetsInHeight_14 : decode cX1_meetsInHeight 14 = .ok (.isub, 1) := by decide +kernel
theorem dX1_meetsInHeight_15 : decode cX1_meetsInHeight 15 = .ok (.istore_n 1, 1) := by decide +kernel
theorem dX1_meetsInHeight_16 : decode cX1_meetsInHeight 16 = .ok (.aload_n 0, 1) := by decide +kernel
theorem dX1_meetsInHeight_17 : decode cX1_meetsInHeight 17 = .ok (.getfield 13, 3) := by decide +kernel
theorem dX1_meetsInHeight_20 : decode cX1_meetsInHeight 20 = .ok (.getfield 172, 3) := by decide +kernel
theorem dX1_meetsInHeight_23 : decode cX1_meetsInHeight 23 = .ok (.aload_n 0, 1) := by decide +kernel
theorem dX1_meetsInHeight_24 : decode cX1_meetsInHeight 24 = .ok (.getfield 7, 3) := by decide +kernel
theorem dX1_meetsInHeight_27 : decode cX1_meetsInHeight 27 = .ok (.getfield 172, 3) := by decide +kernel
theorem dX1_meetsInHeight_30 : decode cX1_meetsInHeight 30 = .ok (.isub, 1) := by decide +kernel
theorem dX1_meetsInHeight_31 : decode cX1_meetsInHeight 31 = .ok (.istore_n 2, 1) := by decide +kernel
theorem dX1_meetsInHeight_32 : decode cX1_meetsInHeight 32 = .ok (.iload_n 1, 1) := by decide +kernel
theorem dX1_meetsInHeight_33 : decode cX1_meetsInHeight 33 = .ok (.invokestatic 175, 3) := by decide +kernel
theorem dX1_meetsInHeight_36 : decode cX1_meetsInHeight 36 = .ok (.aload_n 0, 1) := by decide +kernel
theorem dX1_meetsInHeight_37 : decode cX1_meetsInHeight 37 = .ok (.getfield 16, 3) := by decide +kernel
theorem dX1_meetsInHeight_40 : decode cX1_meetsInHeight 40 = .ok (.invokevirtual 178, 3) := by decide +kernel
theorem dX1_meetsInHeight_43 : decode cX1_meetsInHeight 43 = .ok (.if_icmp .le 28, 3) := by decide +kernel
theorem dX1_meetsInHeight_46 : decode cX1_meetsInHeight 46 = .ok (.iload_n 1, 1) := by decide +kernel
theorem dX1_meetsInHeight_47 : decode cX1_meetsInHeight 47 = .ok (.iload_n 2, 1) := by decide +kernel
theorem dX1_meetsInHeight_48 : decode cX1_meetsInHeight 48 = .ok (.imul, 1) := by decide +kernel
theorem dX1_meetsInHeight_49 : decode cX1_meetsInHeight 49 = .ok (.ifCond .ge 26, 3) := by decide +kernel
theorem dX1_meetsInHeight_52 : decode cX1_meetsInHeight 52 = .ok (.iload_n 1, 1) := by decide +kernel
theorem dX1_meetsInHeight_53 : decode cX1_meetsInHeight 53 = .ok (.invokestatic 175, 3) := by decide +kernel
theorem dX1_meetsInHeight_56 : decode cX1_meetsInHeight 56 = .ok (.aload_n 0, 1) := by decide +kernel
theorem dX1_meetsInHeight_57 : decode cX1_meetsInHeight 57 = .ok (.getfield 16, 3) := by decide +kernel
theorem dX1_meetsInHeight_60 : decode cX1_meetsInHeight 60 = .ok (.invokevirtual 151, 3) := by decide +kernel
theorem dX1_meetsInHeight_63 : decode cX1_meetsInHeight 63 = .ok (.iload_n 2, 1) := by decide +kernel
theorem dX1_meetsInHeight_64 : decode cX1_meetsInHeight 64 = .ok (.invokestatic 175, 3) := by decide +kernel
theorem dX1_meetsInHeight_67 : decode cX1_meetsInHeight 67 = .ok (.imul, 1) := by decide +kernel
theorem dX1_meetsInHeight_68 : decode cX1_meetsInHeight 68 = .ok (.if_icmp .gt 7, 3) := by decide +kernel
theorem dX1_meetsInHeight_71 : decode cX1_meetsInHeight 71 = .ok (.iconst 1, 1) := by decide +kernel
theorem dX1_meetsInHeight_72 : decode cX1_meetsInHeight 72 = .ok (.goto 4, 3) := by decide +kernel
theorem dX1_meetsInHeight_75 : decode cX1_meetsInHeight 75 = .ok (.iconst 0, 1) := by decide +kernel
theorem dX1_meetsInHeight_76 : decode cX1_meetsInHeight 76 = .ok (.ireturn, 1) := by decide +kernel
theorem dX1_nearSquared_0 : decode cX1_nearSquared 0 = .ok (.aload_n 0, 1) := by decide +kernel
theorem dX1_nearSquared_1 : decode cX1_nearSquared 1 = .ok (.getfield 16, 3) := by decide +kernel
theorem dX1_nearSquared_4 : decode cX1_nearSquared 4 = .ok (.invokevirtual 181, 3) := by decide +kernel
theorem dX1_nearSquared_7 : decode cX1_nearSquared 7 = .ok (.i2l, 1) := by decide +kernel
theorem dX1_nearSquared_8 : decode cX1_nearSquared 8 = .ok (.lstore_n 1, 1) := by decide +kernel
theorem dX1_nearSquared_9 : decode cX1_nearSquared 9 = .ok (.lload_n 1, 1) := by decide +kernel
theorem dX1_nearSquared_10 : decode cX1_nearSquared 10 = .ok (.lload_n 1, 1) := by decide +kernel
theorem dX1_nearSquared_11 : decode cX1_nearSquared 11 = .ok (.lmul, 1) := by decide +kernel
theorem dX1_nearSquared_12 : decode cX1_nearSquared 12 = .ok (.lreturn, 1) := by decide +kernel
theorem dX1_distanceSquared_0 : decode cX1_distanceSquared 0 = .ok (.aload_n 0, 1) := by decide +kernel
theorem dX1_distanceSquared_1 : decode cX1_distanceSquared 1 = .ok (.getfield 13, 3) := by decide +kernel
theorem dX1_distanceSquared_4 : decode cX1_distanceSquared 4 = .ok (.getfield 154, 3) := by decide +kernel
theorem dX1_distanceSquared_7 : decode cX1_distanceSquared 7 = .ok (.aload_n 0, 1) := by decide +kernel
theorem dX1_distanceSquared_8 : decode cX1_distanceSquared 8 = .ok (.getfield 7, 3) := by decide +kernel
theorem dX1_distanceSquared_11 : decode cX1_distanceSquared 11 = .ok (.getfield 154, 3) := by decide +kernel
theorem dX1_distanceSquared_14 : decode cX1_distanceSquared 14 = .ok (.isub, 1) := by decide +kernel
theorem dX1_distanceSquared_15 : decode cX1_distanceSquared 15 = .ok (.i2l, 1) := by decide +kernel
theorem dX1_distanceSquared_16 : decode cX1_distanceSquared 16 = .ok (.lstore_n 1, 1) := by decide +kernel
theorem dX1_distanceSquared_17 : decode cX1_distanceSquared 17 = .ok (.aload_n 0, 1) := by decide +kernel
theorem dX1_distanceSquared_18 : decode cX1_distanceSquared 18 = .ok (.getfield 13, 3) := by decide +kernel
theorem dX1_distanceSquared_21 : decode cX1_distanceSquared 21 = .ok (.getfield 157, 3) := by decide +kernel
theorem dX1_distanceSquared_24 : decode cX1_distanceSquared 24 = .ok (.aload_n 0, 1) := by decide +kernel
theorem dX1_distanceSquared_25 : decode cX1_distanceSquared 25 = .ok (.getfield 7, 3) := by decide +kernel
theorem dX1_distanceSquared_28 : decode cX1_distanceSquared 28 = .ok (.getfield 157, 3) := by decide +kernel
theorem dX1_distanceSquared_31 : decode cX1_distanceSquared 31 = .ok (.isub, 1) := by decide +kernel
theorem dX1_distanceSquared_32 : decode cX1_distanceSquared 32 = .ok (.i2l, 1) := by decide +kernel
theorem dX1_distanceSquared_33 : decode cX1_distanceSquared 33 = .ok (.lstore_n 3, 1) := by decide +kernel
theorem dX1_distanceSquared_34 : decode cX1_distanceSquared 34 = .ok (.lload_n 1, 1) := by decide +kernel
theorem dX1_distanceSquared_35 : decode cX1_distanceSquared 35 = .ok (.lload_n 1, 1) := by decide +kernel
theorem dX1_distanceSquared_36 : decode cX1_distanceSquared 36 = .ok (.lmul, 1) := by decide +kernel
theorem dX1_distanceSquared_37 : decode cX1_distanceSquared 37 = .ok (.lload_n 3, 1) := by decide +kernel
theorem dX1_distanceSquared_38 : decode cX1_distanceSquared 38 = .ok (.lload_n 3, 1) := by decide +kernel
theorem dX1_distanceSquared_39 : decode cX1_distanceSquared 39 = .ok (.lmul, 1) := by decide +kernel
theorem dX1_distanceSquared_40 : decode cX1_distanceSquared 40 = .ok (.ladd, 1) := by decide +kernel
theorem dX1_distanceSquared_41 : decode cX1_distanceSquared 41 = .ok (.lreturn, 1) := by decide +kernel
theorem dX1_heightBetween_0 : decode cX1_heightBetween 0 = .ok (.aload_n 0, 1) := by decide +kernel
theorem dX1_heightBetween_1 : decode cX1_heightBetween 1 = .ok (.getfield 13, 3) := by decide +kernel
theorem dX1_heightBetween_4 : decode cX1_heightBetween 4 = .ok (.getfield 169, 3) := by decide +kernel
theorem dX1_heightBetween_7 : decode cX1_heightBetween 7 = .ok (.aload_n 0, 1) := by decide +kernel
theorem dX1_heightBetween_8 : decode cX1_heightBetween 8 = .ok (.getfield 7, 3) := by decide +kernel
theorem dX1_heightBetween_11 : decode cX1_heightBetween 11 = .ok (.getfield 169, 3) := by decide +kernel
theorem dX1_heightBetween_14 : decode cX1_heightBetween 14 = .ok (.isub, 1) := by decide +kernel
theorem dX1_heightBetween_15 : decode cX1_heightBetween 15 = .ok (.invokestatic 175, 3) := by decide +kernel
theorem dX1_heightBetween_18 : decode cX1_heightBetween 18 = .ok (.ireturn, 1) := by decide +kernel
theorem dX1_closing_0 : decode cX1_closing 0 = .ok (.aload_n 0, 1) := by decide +kernel
theorem dX1_closing_1 : decode cX1_closing 1 = .ok (.getfield 13, 3) := by decide +kernel
theorem dX1_closing_4 : decode cX1_closing 4 = .ok (.getfield 154, 3) := by decide +kernel
theorem dX1_closing_7 : decode cX1_closing 7 = .ok (.aload_n 0, 1) := by decide +kernel
theorem dX1_closing_8 : decode cX1_closing 8 = .ok (.getfield 7, 3) := by decide +kernel
theorem dX1_closing_11 : decode cX1_closing 11 = .ok (.getfield 154, 3) := by decide +kernel
theorem dX1_closing_14 : decode cX1_closing 14 = .ok (.isub, 1) := by decide +kernel
theorem dX1_closing_15 : decode cX1_closing 15 = .ok (.i2l, 1) := by decide +kernel
theorem dX1_closing_16 : decode cX1_closing 16 = .ok (.lstore_n 1, 1) := by decide +kernel
theorem dX1_closing_17 : decode cX1_closing 17 = .ok (.aload_n 0, 1) := by decide +kernel
theorem dX1_closing_18 : decode cX1_closing 18 = .ok (.getfield 13, 3) := by decide +kernel
theorem dX1_closing_21 : decode cX1_closing 21 = .ok (.getfield 157, 3) := by decide +kernel
theorem dX1_closing_24 : decode cX1_closing 24 = .ok (.aload_n 0, 1) := by decide +kernel
theorem dX1_closing_25 : decode cX1_closing 25 = .ok (.getfield 7, 3) := by decide +kernel
theorem dX1_closing_28 : decode cX1_closing 28 = .ok (.getfield 157, 3) := by decide +kernel
theorem dX1_closing_31 : decode cX1_closing 31 = .ok (.isub, 1) := by decide +kernel
theorem dX1_closing_32 : decode cX1_closing 32 = .ok (.i2l, 1) := by decide +kernel
theorem dX1_closing_33 : decode cX1_closing 33 = .ok (.lstore_n 3, 1) := by decide +kernel
theorem dX1_closing_34 : decode cX1_closing 34 = .ok (.aload_n 0, 1) := by decide +kernel
theorem dX1_closing_35 : decode cX1_closing 35 = .ok (.getfield 13, 3) := by decide +kernel
theorem dX1_closing_38 : decode cX1_closing 38 = .ok (.getfield 160, 3) := by decide +kernel
theorem dX1_closing_41 : decode cX1_closing 41 = .ok (.aload_n 0, 1) := by decide +kernel
theorem dX1_closing_42 : decode cX1_closing 42 = .ok (.getfield 7, 3) := by decide +kernel
theorem dX1_closing_45 : decode cX1_closing 45 = .ok (.getfield 160, 3) := by decide +kernel
theorem dX1_closing_48 : decode cX1_closing 48 = .ok (.isub, 1) := by decide +kernel
theorem dX1_closing_49 : decode cX1_closing 49 = .ok (.i2l, 1) := by decide +kernel
theorem dX1_closing_50 : decode cX1_closing 50 = .ok (.lstore 5, 2) := by decide +kernel
theorem dX1_closing_52 : decode cX1_closing 52 = .ok (.aload_n 0, 1) := by decide +kernel
theorem dX1_closing_53 : decode cX1_closing 53 = .ok (.getfield 13, 3) := by decide +kernel
theorem dX1_closing_56 : decode cX1_closing 56 = .ok (.getfield 163, 3) := by decide +kernel
theorem dX1_closing_59 : decode cX1_closing 59 = .ok (.aload_n 0, 1) := by decide +kernel
theorem dX1_closing_60 : decode cX1_closing 60 = .ok (.getfield 7, 3) := by decide +kernel
theorem dX1_closing_63 : decode cX1_closing 63 = .ok (.getfield 163, 3) := by decide +kernel
theorem dX1_closing_66 : decode cX1_closing 66 = .ok (.isub, 1) := by decide +kernel
theorem dX1_closing_67 : decode cX1_closing 67 = .ok (.i2l, 1) := by decide +kernel
theorem dX1_closing_68 : decode cX1_closing 68 = .ok (.lstore 7, 2) := by decide +kernel
theorem dX1_closing_70 : decode cX1_closing 70 = .ok (.lload_n 1, 1) := by decide +kernel
theorem dX1_closing_71 : decode cX1_closing 71 = .ok (.lload 5, 2) := by decide +kernel
theorem dX1_closing_73 : decode cX1_closing 73 = .ok (.lmul, 1) := by decide +kernel
theorem dX1_closing_74 : decode cX1_closing 74 = .ok (.lload_n 3, 1) := by decide +kernel
theorem dX1_closing_75 : decode cX1_closing 75 = .ok (.lload 7, 2) := by decide +kernel
theorem dX1_closing_77 : decode cX1_closing 77 = .ok (.lmul, 1) := by decide +kernel
theorem dX1_closing_78 : decode cX1_closing 78 = .ok (.ladd, 1) := by decide +kernel
theorem dX1_closing_79 : decode cX1_closing 79 = .ok (.lreturn, 1) := by decide +kernel
theorem dX1_timeLeft_0 : decode cX1_timeLeft 0 = .ok (.aload_n 0, 1) := by decide +kernel
theorem dX1_timeLeft_1 : decode cX1_timeLeft 1 = .ok (.getfield 13, 3) := by decide +kernel
theorem dX1_timeLeft_4 : decode cX1_timeLeft 4 = .ok (.getfield 160, 3) := by decide +kernel
theorem dX1_timeLeft_7 : decode cX1_timeLeft 7 = .ok (.aload_n 0, 1) := by decide +kernel
theorem dX1_timeLeft_8 : decode cX1_timeLeft 8 = .ok (.getfield 7, 3) := by decide +kernel
theorem dX1_timeLeft_11 : decode cX1_timeLeft 11 = .ok (.getfield 160, 3) := by decide +kernel
theorem dX1_timeLeft_14 : decode cX1_timeLeft 14 = .ok (.isub, 1) := by decide +kernel
theorem dX1_timeLeft_15 : decode cX1_timeLeft 15 = .ok (.i2l, 1) := by decide +kernel
theorem dX1_timeLeft_16 : decode cX1_timeLeft 16 = .ok (.lstore_n 1, 1) := by decide +kernel
theorem dX1_timeLeft_17 : decode cX1_timeLeft 17 = .ok (.aload_n 0, 1) := by decide +kernel
theorem dX1_timeLeft_18 : decode cX1_timeLeft 18 = .ok (.getfield 13, 3) := by decide +kernel
theorem dX1_timeLeft_21 : decode cX1_timeLeft 21 = .ok (.getfield 163, 3) := by decide +kernel
theorem dX1_timeLeft_24 : decode cX1_timeLeft 24 = .ok (.aload_n 0, 1) := by decide +kernel
theorem dX1_timeLeft_25 : decode cX1_timeLeft 25 = .ok (.getfield 7, 3) := by decide +kernel
theorem dX1_timeLeft_28 : decode cX1_timeLeft 28 = .ok (.getfield 163, 3) := by decide +kernel
theorem dX1_timeLeft_31 : decode cX1_timeLeft 31 = .ok (.isub, 1) := by decide +kernel
theorem dX1_timeLeft_32 : decode cX1_timeLeft 32 = .ok (.i2l, 1) := by decide +kernel
theorem dX1_timeLeft_33 : decode cX1_timeLeft 33 = .ok (.lstore_n 3, 1) := by decide +kernel
theorem dX1_timeLeft_34 : decode cX1_timeLeft 34 = .ok (.lload_n 1, 1) := by decide +kernel
theorem dX1_timeLeft_35 : decode cX1_timeLeft 35 = .ok (.lload_n 1, 1) := by decide +kernel
theorem dX1_timeLeft_36 : decode cX1_timeLeft 36 = .ok (.lmul, 1) := by decide +kernel
theorem dX1_timeLeft_37 : decode cX1_timeLeft 37 = .ok (.lload_n 3, 1) := by decide +kernel
theorem dX1_timeLeft_38 : decode cX1_timeLeft 38 = .ok (.lload_n 3, 1) := by decide +kernel
theorem dX1_timeLeft_39 : decode cX1_timeLeft 39 = .ok (.lmul, 1) := by decide +kernel
theorem dX1_timeLeft_40 : decode cX1_timeLeft 40 = .ok (.ladd, 1) := by decide +kernel
theorem dX1_timeLeft_41 : decode cX1_timeLeft 41 = .ok (.lstore 5, 2) := by decide +kernel
theorem dX1_timeLeft_43 : decode cX1_timeLeft 43 = .ok (.aload_n 0, 1) := by decide +kernel
theorem dX1_timeLeft_44 : decode cX1_timeLeft 44 = .ok (.invokevirtual 95, 3) := by decide +kernel
theorem dX1_timeLeft_47 : decode cX1_timeLeft 47 = .ok (.lstore 7, 2) := by decide +kernel
theorem dX1_timeLeft_49 : decode cX1_timeLeft 49 = .ok (.lload 7, 2) := by decide +kernel
theorem dX1_timeLeft_51 : decode cX1_timeLeft 51 = .ok (.lconst 0, 1) := by decide +kernel
theorem dX1_timeLeft_52 : decode cX1_timeLeft 52 = .ok (.lcmp, 1) := by decide +kernel
theorem dX1_timeLeft_53 : decode cX1_timeLeft 53 = .ok (.ifCond .ge 10, 3) := by decide +kernel
theorem dX1_timeLeft_56 : decode cX1_timeLeft 56 = .ok (.lload 5, 2) := by decide +kernel
theorem dX1_timeLeft_58 : decode cX1_timeLeft 58 = .ok (.lconst 0, 1) := by decide +kernel
theorem dX1_timeLeft_59 : decode cX1_timeLeft 59 = .ok (.lcmp, 1) := by decide +kernel
theorem dX1_timeLeft_60 : decode cX1_timeLeft 60 = .ok (.ifCond .ne 5, 3) := by decide +kernel
theorem dX1_timeLeft_63 : decode cX1_timeLeft 63 = .ok (.iconst 0, 1) := by decide +kernel
theorem dX1_timeLeft_64 : decode cX1_timeLeft 64 = .ok (.ireturn, 1) := by decide +kernel
theorem dX1_timeLeft_65 : decode cX1_timeLeft 65 = .ok (.lload 7, 2) := by decide +kernel
theorem dX1_timeLeft_67 : decode cX1_timeLeft 67 = .ok (.lneg, 1) := by decide +kernel
theorem dX1_timeLeft_68 : decode cX1_timeLeft 68 = .ok (.lload 5, 2) := by decide +kernel
theorem dX1_timeLeft_70 : decode cX1_timeLeft 70 = .ok (.ldiv, 1) := by decide +kernel
theorem dX1_timeLeft_71 : decode cX1_timeLeft 71 = .ok (.aload_n 0, 1) := by decide +kernel
theorem dX1_timeLeft_72 : decode cX1_timeLeft 72 = .ok (.getfield 16, 3) := by decide +kernel
theorem dX1_timeLeft_75 : decode cX1_timeLeft 75 = .ok (.invokevirtual 151, 3) := by decide +kernel
theorem dX1_timeLeft_78 : decode cX1_timeLeft 78 = .ok (.i2l, 1) := by decide +kernel
theorem dX1_timeLeft_79 : decode cX1_timeLeft 79 = .ok (.invokestatic 66, 3) := by decide +kernel
theorem dX1_timeLeft_82 : decode cX1_timeLeft 82 = .ok (.l2i, 1) := by decide +kernel
theorem dX1_timeLeft_83 : decode cX1_timeLeft 83 = .ok (.ireturn, 1) := by decide +kernel
theorem dX1_parting_0 : decode cX1_parting 0 = .ok (.iconst 0, 1) := by decide +kernel
theorem dX1_parting_1 : decode cX1_parting 1 = .ok (.iload 4, 2) := by decide +kernel
theorem dX1_parting_3 : decode cX1_parting 3 = .ok (.aload_n 0, 1) := by decide +kernel
theorem dX1_parting_4 : decode cX1_parting 4 = .ok (.getfield 16, 3) := by decide +kernel
theorem dX1_parting_7 : decode cX1_parting 7 = .ok (.invokevirtual 37, 3) := by decide +kernel
theorem dX1_parting_10 : decode cX1_parting 10 = .ok (.invokestatic 72, 3) := by decide +kernel
theorem dX1_parting_13 : decode cX1_parting 13 = .ok (.iload_n 3, 1) := by decide +kernel
theorem dX1_parting_14 : decode cX1_parting 14 = .ok (.isub, 1) := by decide +kernel
theorem dX1_parting_15 : decode cX1_parting 15 = .ok (.invokestatic 184, 3) := by decide +kernel
theorem dX1_parting_18 : decode cX1_parting 18 = .ok (.istore 5, 2) := by decide +kernel
theorem dX1_parting_20 : decode cX1_parting 20 = .ok (.iload 4, 2) := by decide +kernel
theorem dX1_parting_22 : decode cX1_parting 22 = .ok (.iload 5, 2) := by decide +kernel
theorem dX1_parting_24 : decode cX1_parting 24 = .ok (.isub, 1) := by decide +kernel
theorem dX1_parting_25 : decode cX1_parting 25 = .ok (.istore 6, 2) := by decide +kernel
theorem dX1_parting_27 : decode cX1_parting 27 = .ok (.iload_n 1, 1) := by decide +kernel
theorem dX1_parting_28 : decode cX1_parting 28 = .ok (.ifCond .eq 10, 3) := by decide +kernel
theorem dX1_parting_31 : decode cX1_parting 31 = .ok (.aload_n 0, 1) := by decide +kernel
theorem dX1_parting_32 : decode cX1_parting 32 = .ok (.getfield 7, 3) := by decide +kernel
theorem dX1_parting_35 : decode cX1_parting 35 = .ok (.goto 7, 3) := by decide +kernel
theorem dX1_parting_38 : decode cX1_parting 38 = .ok (.aload_n 0, 1) := by decide +kernel
theorem dX1_parting_39 : decode cX1_parting 39 = .ok (.getfield 13, 3) := by decide +kernel
theorem dX1_parting_42 : decode cX1_parting 42 = .ok (.astore 7, 2) := by decide +kernel
theorem dX1_parting_44 : decode cX1_parting 44 = .ok (.iload_n 1, 1) := by decide +kernel
theorem dX1_parting_45 : decode cX1_parting 45 = .ok (.ifCond .eq 10, 3) := by decide +kernel
theorem dX1_parting_48 : decode cX1_parting 48 = .ok (.aload_n 0, 1) := by decide +kernel
theorem dX1_parting_49 : decode cX1_parting 49 = .ok (.getfield 13, 3) := by decide +kernel
theorem dX1_parting_52 : decode cX1_parting 52 = .ok (.goto 7, 3) := by decide +kernel
theorem dX1_parting_55 : decode cX1_parting 55 = .ok (.aload_n 0, 1) := by decide +kernel
theorem dX1_parting_56 : decode cX1_parting 56 = .ok (.getfield 7, 3) := by decide +kernel
theorem dX1_parting_59 : decode cX1_parting 59 = .ok (.astore 8, 2) := by decide +kernel
theorem dX1_parting_61 : decode cX1_parting 61 = .ok (.aload 7, 2) := by decide +kernel
theorem dX1_parting_63 : decode cX1_parting 63 = .ok (.iload_n 2, 1) := by decide +kernel
theorem dX1_parting_64 : decode cX1_parting 64 = .ok (.iload 5, 2) := by decide +kernel
theorem dX1_parting_66 : decode cX1_parting 66 = .ok (.iload 6, 2) := by decide +kernel
theorem dX1_parting_68 : decode cX1_parting 68 = .ok (.invokevirtual 187, 3) := by decide +kernel
theorem dX1_parting_71 : decode cX1_parting 71 = .ok (.aload 8, 2) := by decide +kernel
theorem dX1_parting_73 : decode cX1_parting 73 = .ok (.iload_n 2, 1) := by decide +kernel
theorem dX1_parting_74 : decode cX1_parting 74 = .ok (.iload 5, 2) := by decide +kernel
theorem dX1_parting_76 : decode cX1_parting 76 = .ok (.iload 6, 2) := by decide +kernel
theorem dX1_parting_78 : decode cX1_parting 78 = .ok (.invokevirtual 191, 3) := by decide +kernel
theorem dX1_parting_81 : decode cX1_parting 81 = .ok (.isub, 1) := by decide +kernel
theorem dX1_parting_82 : decode cX1_parting 82 = .ok (.ireturn, 1) := by decide +kernel
theorem dX1_enough_0 : decode cX1_enough 0 = .ok (.iload_n 2, 1) := by decide +kernel
theorem dX1_enough_1 : decode cX1_enough 1 = .ok (.istore 5, 2) := by decide +kernel
theorem dX1_enough_3 : decode cX1_enough 3 = .ok (.iload 5, 2) := by decide +kernel
theorem dX1_enough_5 : decode cX1_enough 5 = .ok (.iconst 4, 1) := by decide +kernel
theorem dX1_enough_6 : decode cX1_enough 6 = .ok (.if_icmp .ge 32, 3) := by decide +kernel
theorem dX1_enough_9 : decode cX1_enough 9 = .ok (.aload_n 0, 1) := by decide +kernel
theorem dX1_enough_10 : decode cX1_enough 10 = .ok (.iload_n 1, 1) := by decide +kernel
theorem dX1_enough_11 : decode cX1_enough 11 = .ok (.iload 5, 2) := by decide +kernel
theorem dX1_enough_13 : decode cX1_enough 13 = .ok (.iload_n 3, 1) := by decide +kernel
theorem dX1_enough_14 : decode cX1_enough 14 = .ok (.iload 4, 2) := by decide +kernel
theorem dX1_enough_16 : decode cX1_enough 16 = .ok (.invokevirtual 120, 3) := by decide +kernel
theorem dX1_enough_19 : decode cX1_enough 19 = .ok (.aload_n 0, 1) := by decide +kernel
theorem dX1_enough_20 : decode cX1_enough 20 = .ok (.getfield 16, 3) := by decide +kernel
theorem dX1_enough_23 : decode cX1_enough 23 = .ok (.invokevirtual 123, 3) := by decide +kernel
theorem dX1_enough_26 : decode cX1_enough 26 = .ok (.if_icmp .lt 6, 3) := by decide +kernel
theorem dX1_enough_29 : decode cX1_enough 29 = .ok (.iload 5, 2) := by decide +kernel
theorem dX1_enough_31 : decode cX1_enough 31 = .ok (.ireturn, 1) := by decide +kernel
theorem dX1_enough_32 : decode cX1_enough 32 = .ok (.iinc 5 1, 3) := by decide +kernel
theorem dX1_enough_35 : decode cX1_enough 35 = .ok (.goto (-32), 3) := by decide +kernel
theorem dX1_enough_38 : decode cX1_enough 38 = .ok (.iconst 4, 1) := by decide +kernel
theorem dX1_enough_39 : decode cX1_enough 39 = .ok (.ireturn, 1) := by decide +kernel
theorem dX1_chosenSense_0 : decode cX1_chosenSense 0 = .ok (.aload_n 0, 1) := by decide +kernel
theorem dX1_chosenSense_1 : decode cX1_chosenSense 1 = .ok (.iconst 1, 1) := by decide +kernel
theorem dX1_chosenSense_2 : decode cX1_chosenSense 2 = .ok (.iconst 1, 1) := by decide +kernel
theorem dX1_chosenSense_3 : decode cX1_chosenSense 3 = .ok (.iconst 0, 1) := by decide +kernel
theorem dX1_chosenSense_4 : decode cX1_chosenSense 4 = .ok (.iload_n 1, 1) := by decide +kernel
theorem dX1_chosenSense_5 : decode cX1_chosenSense 5 = .ok (.invokevirtual 113, 3) := by decide +kernel
theorem dX1_chosenSense_8 : decode cX1_chosenSense 8 = .ok (.istore_n 2, 1) := by decide +kernel
theorem dX1_chosenSense_9 : decode cX1_chosenSense 9 = .ok (.aload_n 0, 1) := by decide +kernel
theorem dX1_chosenSense_10 : decode cX1_chosenSense 10 = .ok (.iconst 0, 1) := by decide +kernel
theorem dX1_chosenSense_11 : decode cX1_chosenSense 11 = .ok (.iconst 1, 1) := by decide +kernel
theorem dX1_chosenSense_12 : decode cX1_chosenSense 12 = .ok (.iconst 0, 1) := by decide +kernel
theorem dX1_chosenSense_13 : decode cX1_chosenSense 13 = .ok (.iload_n 1, 1) := by decide +kernel
theorem dX1_chosenSense_14 : decode cX1_chosenSense 14 = .ok (.invokevirtual 113, 3) := by decide +kernel
theorem dX1_chosenSense_17 : decode cX1_chosenSense 17 = .ok (.istore_n 3, 1) := by decide +kernel
theorem dX1_chosenSense_18 : decode cX1_chosenSense 18 = .ok (.iload_n 2, 1) := by decide +kernel
theorem dX1_chosenSense_19 : decode cX1_chosenSense 19 = .ok (.iload_n 3, 1) := by decide +kernel
theorem dX1_chosenSense_20 : decode cX1_chosenSense 20 = .ok (.if_icmp .eq 14, 3) := by decide +kernel
theorem dX1_chosenSense_23 : decode cX1_chosenSense 23 = .ok (.iload_n 2, 1) := by decide +kernel
theorem dX1_chosenSense_24 : decode cX1_chosenSense 24 = .ok (.iload_n 3, 1) := by decide +kernel
theorem dX1_chosenSense_25 : decode cX1_chosenSense 25 = .ok (.if_icmp .ge 7, 3) := by decide +kernel
theorem dX1_chosenSense_28 : decode cX1_chosenSense 28 = .ok (.iconst 1, 1) := by decide +kernel
theorem dX1_chosenSense_29 : decode cX1_chosenSense 29 = .ok (.goto 4, 3) := by decide +kernel
theorem dX1_chosenSense_32 : decode cX1_chosenSense 32 = .ok (.iconst 0, 1) := by decide +kernel
theorem dX1_chosenSense_33 : decode cX1_chosenSense 33 = .ok (.ireturn, 1) := by decide +kernel
theorem dX1_chosenSense_34 : decode cX1_chosenSense 34 = .ok (.aload_n 0, 1) := by decide +kernel
theorem dX1_chosenSense_35 : decode cX1_chosenSense 35 = .ok (.iconst 1, 1) := by decide +kernel
theorem dX1_chosenSense_36 : decode cX1_chosenSense 36 = .ok (.iload_n 2, 1) := by decide +kernel
theorem dX1_chosenSense_37 : decode cX1_chosenSense 37 = .ok (.iconst 0, 1) := by decide +kernel
theorem dX1_chosenSense_38 : decode cX1_chosenSense 38 = .ok (.iload_n 1, 1) := by decide +kernel
theorem dX1_chosenSense_39 : decode cX1_chosenSense 39 = .ok (.invokevirtual 120, 3) := by decide +kernel
theorem dX1_chosenSense_42 : decode cX1_chosenSense 42 = .ok (.istore 4, 2) := by decide +kernel
theorem dX1_chosenSense_44 : decode cX1_chosenSense 44 = .ok (.aload_n 0, 1) := by decide +kernel
theorem dX1_chosenSense_45 : decode cX1_chosenSense 45 = .ok (.iconst 0, 1) := by decide +kernel
theorem dX1_chosenSense_46 : decode cX1_chosenSense 46 = .ok (.iload_n 3, 1) := by decide +kernel
theorem dX1_chosenSense_47 : decode cX1_chosenSense 47 = .ok (.iconst 0, 1) := by decide +kernel
theorem dX1_chosenSense_48 : decode cX1_chosenSense 48 = .ok (.iload_n 1, 1) := by decide +kernel
theorem dX1_chosenSense_49 : decode cX1_chosenSense 49 = .ok (.invokevirtual 120, 3) := by decide +kernel
theorem dX1_chosenSense_52 : decode cX1_chosenSense 52 = .ok (.istore 5, 2) := by decide +kernel
theorem dX1_chosenSense_54 : decode cX1_chosenSense 54 = .ok (.iload 4, 2) := by decide +kernel
theorem dX1_chosenSense_56 : decode cX1_chosenSense 56 = .ok (.iload 5, 2) := by decide +kernel
theorem dX1_chosenSense_58 : decode cX1_chosenSense 58 = .ok (.if_icmp .eq 16, 3) := by decide +kernel
theorem dX1_chosenSense_61 : decode cX1_chosenSense 61 = .ok (.iload 4, 2) := by decide +kernel
theorem dX1_chosenSense_63 : decode cX1_chosenSense 63 = .ok (.iload 5, 2) := by decide +kernel
theorem dX1_chosenSense_65 : decode cX1_chosenSense 65 = .ok (.if_icmp .le 7, 3) := by decide +kernel
theorem dX1_chosenSense_68 : decode cX1_chosenSense 68 = .ok (.iconst 1, 1) := by decide +kernel
theorem dX1_chosenSense_69 : decode cX1_chosenSense 69 = .ok (.goto 4, 3) := by decide +kernel
theorem dX1_chosenSense_72 : decode cX1_chosenSense 72 = .ok (.iconst 0, 1) := by decide +kernel
theorem dX1_chosenSense_73 : decode cX1_chosenSense 73 = .ok (.ireturn, 1) := by decide +kernel
theorem dX1_chosenSense_74 : decode cX1_chosenSense 74 = .ok (.aload_n 0, 1) := by decide +kernel
theorem dX1_chosenSense_75 : decode cX1_chosenSense 75 = .ok (.getfield 7, 3) := by decide +kernel
theorem dX1_chosenSense_78 : decode cX1_chosenSense 78 = .ok (.getfield 169, 3) := by decide +kernel
theorem dX1_chosenSense_81 : decode cX1_chosenSense 81 = .ok (.aload_n 0, 1) := by decide +kernel
theorem dX1_chosenSense_82 : decode cX1_chosenSense 82 = .ok (.getfield 13, 3) := by decide +kernel
theorem dX1_chosenSense_85 : decode cX1_chosenSense 85 = .ok (.getfield 169, 3) := by decide +kernel
theorem dX1_chosenSense_88 : decode cX1_chosenSense 88 = .ok (.if_icmp .lt 7, 3) := by decide +kernel
theorem dX1_chosenSense_91 : decode cX1_chosenSense 91 = .ok (.iconst 1, 1) := by decide +kernel
theorem dX1_chosenSense_92 : decode cX1_chosenSense 92 = .ok (.goto 4, 3) := by decide +kernel
theorem dX1_chosenSense_95 : decode cX1_chosenSense 95 = .ok (.iconst 0, 1) := by decide +kernel
theorem dX1_chosenSense_96 : decode cX1_chosenSense 96 = .ok (.ireturn, 1) := by decide +kernel
theorem dX1_chosenParting_0 : decode cX1_chosenParting 0 = .ok (.aload_n 0, 1) := by decide +kernel
theorem dX1_chosenParting_1 : decode cX1_chosenParting 1 = .ok (.iload_n 1, 1) := by decide +kernel
theorem dX1_chosenParting_2 : decode cX1_chosenParting 2 = .ok (.invokevirtual 82, 3) := by decide +kernel
theorem dX1_chosenParting_5 : decode cX1_chosenParting 5 = .ok (.istore_n 2, 1) := by decide +kernel
theorem dX1_chosenParting_6 : decode cX1_chosenParting 6 = .ok (.aload_n 0, 1) := by decide +kernel
theorem dX1_chosenParting_7 : decode cX1_chosenParting 7 = .ok (.iload_n 2, 1) := by decide +kernel
theorem dX1_chosenParting_8 : decode cX1_chosenParting 8 = .ok (.aload_n 0, 1) := by decide +kernel
theorem dX1_chosenParting_9 : decode cX1_chosenParting 9 = .ok (.iload_n 2, 1) := by decide +kernel
theorem dX1_chosenParting_10 : decode cX1_chosenParting 10 = .ok (.iconst 1, 1) := by decide +kernel
theorem dX1_chosenParting_11 : decode cX1_chosenParting 11 = .ok (.iconst 0, 1) := by decide +kernel
theorem dX1_chosenParting_12 : decode cX1_chosenParting 12 = .ok (.iload_n 1, 1) := by decide +kernel
theorem dX1_chosenParting_13 : decode cX1_chosenParting 13 = .ok (.invokevirtual 113, 3) := by decide +kernel
theorem dX1_chosenParting_16 : decode cX1_chosenParting 16 = .ok (.iconst 0, 1) := by decide +kernel
theorem dX1_chosenParting_17 : decode cX1_chosenParting 17 = .ok (.iload_n 1, 1) := by decide +kernel
theorem dX1_chosenParting_18 : decode cX1_chosenParting 18 = .ok (.invokevirtual 120, 3) := by decide +kernel
theorem dX1_chosenParting_21 : decode cX1_chosenParting 21 = .ok (.ireturn, 1) := by decide +kernel
theorem dX2_init_0 : decode cX2_init 0 = .ok (.aload_n 0, 1) := by decide +kernel
theorem dX2_init_1 : decode cX2_init 1 = .ok (.invokespecial 1, 3) := by decide +kernel
theorem dX2_init_4 : decode cX2_init 4 = .ok (.aload_n 0, 1) := by decide +kernel
theorem dX2_init_5 : decode cX2_init 5 = .ok (.getstatic 7, 3) := by decide +kernel
theorem dX2_init_8 : decode cX2_init 8 = .ok (.invokevirtual 13, 3) := by decide +kernel
theorem dX2_init_11 : decode cX2_init 11 = .ok (.checkcast 14, 3) := by decide +kernel
theorem dX2_init_14 : decode cX2_init 14 = .ok (.putfield 18, 3) := by decide +kernel
theorem dX2_init_17 : decode cX2_init 17 = .ok (.return_, 1) := by decide +kernel
theorem dX2_allows_0 : decode cX2_allows 0 = .ok (.iload_n 0, 1) := by decide +kernel
theorem dX2_allows_1 : decode cX2_allows 1 = .ok (.ifCond .lt 33, 3) := by decide +kernel
theorem dX2_allows_4 : decode cX2_allows 4 = .ok (.iload_n 0, 1) := by decide +kernel
theorem dX2_allows_5 : decode cX2_allows 5 = .ok (.getstatic 21, 3) := by decide +kernel
theorem dX2_allows_8 : decode cX2_allows 8 = .ok (.arraylength, 1) := by decide +kernel
theorem dX2_allows_9 : decode cX2_allows 9 = .ok (.if_icmp .ge 25, 3) := by decide +kernel
theorem dX2_allows_12 : decode cX2_allows 12 = .ok (.iload_n 1, 1) := by decide +kernel
theorem dX2_allows_13 : decode cX2_allows 13 = .ok (.getstatic 21, 3) := by decide +kernel
theorem dX2_allows_16 : decode cX2_allows 16 = .ok (.iload_n 0, 1) := by decide +kernel
theorem dX2_allows_17 : decode cX2_allows 17 = .ok (.iaload, 1) := by decide +kernel
theorem dX2_allows_18 : decode cX2_allows 18 = .ok (.if_icmp .lt 16, 3) := by decide +kernel
theorem dX2_allows_21 : decode cX2_allows 21 = .ok (.iload_n 1, 1) := by decide +kernel
theorem dX2_allows_22 : decode cX2_allows 22 = .ok (.getstatic 24, 3) := by decide +kernel
theorem dX2_allows_25 : decode cX2_allows 25 = .ok (.iload_n 0, 1) := by decide +kernel
theorem dX2_allows_26 : decode cX2_allows 26 = .ok (.iaload, 1) := by decide +kernel
theorem dX2_allows_27 : decode cX2_allows 27 = .ok (.if_icmp .gt 7, 3) := by decide +kernel
theorem dX2_allows_30 : decode cX2_allows 30 = .ok (.iconst 1, 1) := by decide +kernel
theorem dX2_allows_31 : decode cX2_allows 31 = .ok (.goto 4, 3) := by decide +kernel
